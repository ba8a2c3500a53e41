/-! HOURS. -/
theorem upS_eq {f : Nat → Nat → Int} {a k : Nat} {x : Int} : upS f a k x a k = x := by simp [upS]
def frH (a : Nat) (s s1 : Nat → Nat → Int) : Prop := ∀ c, c < a ∨ a + 9 ≤ c → s1 c = s c
def frY (t t1 : Nat → Nat → Int) : Prop := (∀ c, 128 < c → t1 c = t c) ∧ ∀ k, k ≠ 0 → k ≠ 9 → k ≠ 24 → k ≠ 25 → k ≠ 26 → t1 120 k = t 120 k
theorem frH_t {a : Nat} {s s1 : Nat → Nat → Int} (h : frH a s s1) : frT a s s1 := fun c hc => h c (by omega)
theorem frY_x {X : Nat} {t t1 : Nat → Nat → Int} (h : frY t t1) : frX X t t1 := ⟨fun c h1 _ _ => h.1 c h1, h.2⟩
theorem frH_trans {a : Nat} {s s1 s2 : Nat → Nat → Int} (h : frH a s s1) (g : frH a s1 s2) : frH a s s2 := fun c hc => by rw [g c hc, h c hc]
theorem frY_trans {t t1 t2 : Nat → Nat → Int} (h : frY t t1) (g : frY t1 t2) : frY t t2 := ⟨fun c h1 => by rw [g.1 c h1, h.1 c h1], fun k h1 h2 h3 h4 h5 => by rw [g.2 k h1 h2 h3 h4 h5, h.2 k h1 h2 h3 h4 h5]⟩
/-- an hour: the rows behind it -/
def hrV (V : Nat → Nat → Int) (k p : Nat) : Int := if V 5 p = 1 then (if k = 4 then max 0 (V 4 p - bnW V p) else if k = 5 then (if V 4 p ≤ bnW V p then 0 else 1) else if k = 6 then min 999 (V 6 p + 1) else V k p) else V k p
theorem hr_off {V : Nat → Nat → Int} {p : Nat} (c : V 5 p ≠ 1) (k : Nat) : hrV V k p = V k p := if_neg c
theorem hr_on {V : Nat → Nat → Int} {p : Nat} (c : V 5 p = 1) : hrV V 0 p = V 0 p ∧ hrV V 1 p = V 1 p ∧ hrV V 2 p = V 2 p ∧ hrV V 3 p = V 3 p ∧ hrV V 4 p = max 0 (V 4 p - bnW V p) ∧ hrV V 5 p = (if V 4 p ≤ bnW V p then 0 else 1) ∧ hrV V 6 p = min 999 (V 6 p + 1) ∧ hrV V 7 p = V 7 p := by
  refine ⟨?_, ?_, ?_, ?_, ?_, ?_, ?_, ?_⟩
  all_goals simp [hrV, c]
theorem hr_8 {V : Nat → Nat → Int} {p : Nat} : hrV V 8 p = V 8 p := by simp [hrV]
def hrM (k : Nat) (V : Nat → Nat → Int) (j p : Nat) : Int := if p < k then hrV V j p else V j p
theorem hrM_ne {k p : Nat} {V : Nat → Nat → Int} (h : p ≠ k) (j : Nat) : hrM (k + 1) V j p = hrM k V j p := by
  unfold hrM
  by_cases c : p < k
  · rw [if_pos c, if_pos (by omega)]
  · rw [if_neg c, if_neg (by omega)]
theorem hrM_s {k : Nat} {V : Nat → Nat → Int} (j : Nat) : hrM (k + 1) V j k = hrV V j k := if_pos (by omega)
theorem hrM_k {k : Nat} {V : Nat → Nat → Int} (j : Nat) : hrM k V j k = V j k := if_neg (by omega)
theorem hrM_0 {V : Nat → Nat → Int} (j p : Nat) : hrM 0 V j p = V j p := if_neg (by omega)
theorem hrM_N {k p : Nat} {V : Nat → Nat → Int} (h : p < k) (j : Nat) : hrM k V j p = hrV V j p := if_pos h
theorem ok_bn {np : Int} {V : Nat → Nat → Int} (h : okV np V) {p : Nat} (hp : (p : Int) < np) : 1 ≤ bnW V p ∧ bnW V p ≤ 2001 := by
  obtain ⟨h0, h1, h2, h3, _⟩ := h p hp
  exact bnV_rg ⟨h1, by omega, by omega⟩ (by omega)
theorem okV_hr {np : Int} {V : Nat → Nat → Int} (h : okV np V) : okV np (hrV V) := by
  intro p hp
  have hb := ok_bn h hp
  have h := h p hp
  by_cases c : V 5 p = 1
  · obtain ⟨v0, v1, v2, v3, v4, v5, v6, v7⟩ := hr_on c
    rw [v0, v1, v2, v3, v4, v5, v6, v7]
    obtain ⟨h0, h1, h2, h3, h4, h5, h6, h7⟩ := h
    refine ⟨h0, h1, h2, h3, by omega, ?_, by omega, h7⟩
    split
    · exact Or.inl rfl
    · exact Or.inr rfl
  · rw [hr_off c, hr_off c, hr_off c, hr_off c, hr_off c, hr_off c, hr_off c, hr_off c]
    exact h
theorem okT_hr {np : Int} {V : Nat → Nat → Int} (h : okT np V) : okT np (hrV V) := ⟨h.1, okV_hr h.2⟩
/-- n hours: hour and rows -/
def hrN (N : Nat) (h : Int) (V : Nat → Nat → Int) : Int × (Nat → Nat → Int) := itr (fun _ x => (wr (x.1 + 1), hrV x.2)) (h, V) N
theorem okT_hrN {np h : Int} {V : Nat → Nat → Int} (o : okT np V) : ∀ N, okT np (hrN N h V).2
  | 0 => o
  | N + 1 => okT_hr (okT_hrN o N)
theorem hrN_8 {h : Int} {V : Nat → Nat → Int} {p : Nat} : ∀ N, (hrN N h V).2 8 p = V 8 p
  | 0 => rfl
  | N + 1 => by
    show hrV (hrN N h V).2 8 p = V 8 p
    rw [hr_8, hrN_8 N]
theorem hr_7 {V : Nat → Nat → Int} {p : Nat} : hrV V 7 p = V 7 p := by simp [hrV]
theorem hrN_7 {h : Int} {V : Nat → Nat → Int} {p : Nat} : ∀ N, (hrN N h V).2 7 p = V 7 p
  | 0 => rfl
  | N + 1 => by
    show hrV (hrN N h V).2 7 p = V 7 p
    rw [hr_7, hrN_7 N]
theorem hrN_h {h : Int} {V : Nat → Nat → Int} (h0 : 0 ≤ h) : ∀ N : Nat, h + N < 2147483648 → (hrN N h V).1 = h + N
  | 0, _ => by
    show h = h + _
    omega
  | N + 1, g => by
    show wr ((hrN N h V).1 + 1) = h + ((N + 1 : Nat) : Int)
    rw [hrN_h h0 N (by omega), wr_id (by omega) (by omega)]
    omega
theorem sb_X5_passHour_0_3 (n : Nat) (s : Nat → Nat → Int) (Q : List Vl → Sto → Prop) (hR : refs s)
    (h : G 2 120 27 12 [(3, 3), (1, 0)] [] (n, upS s 3 10 (wr ((s 3 10) + 1))) Q) :
    G 2 120 27 0 [(3, 3), (0, 0)] [] (n, s) Q := by
  refine G_go rfl rfl ?_
  refine G_go rfl rfl ?_
  refine G_rd rfl rfl (by decide) ?_
  refine G_go rfl rfl ?_
  refine G_go rfl rfl ?_
  refine G_wr rfl rfl (by decide) ?_
  have hR := refs_up (a := 3) (k := 10) (x := wr ((s 3 10) + 1)) hR rfl
  refine G_go rfl rfl ?_
  refine G_go rfl rfl ?_
  show G 2 120 27 12 [(3, 3), (1, 0)] [] (n, upS s 3 10 (wr ((s 3 10) + 1))) Q
  exact h
theorem sb_X5_passHour_12_3 (n : Nat) (s : Nat → Nat → Int) (Q : List Vl → Sto → Prop) (x1 : Int) (hR : refs s)
    (h : (s 3 9 ≤ x1 → Q [] (n, s)) ∧ (x1 < s 3 9 → (0 ≤ x1 ∧ x1 < 6) ∧ ((s 9 x1.toNat = 0 → G 2 120 27 12 [(3, 3), (1, wr (x1 + 1))] [] (n, s) Q) ∧ (s 9 x1.toNat ≠ 0 → (rgP (vw 4 (upS s 10 x1.toNat (min 999 (wr ((s 10 x1.toNat) + 1))))) x1.toNat) ∧ ((0 ≤ s 6 x1.toNat ∧ s 6 x1.toNat ≤ 2000) ∧ ((max 0 (wr ((s 8 x1.toNat) - (bnV (vw 4 (upS s 10 x1.toNat (min 999 (wr ((s 10 x1.toNat) + 1))))) x1.toNat (s 6 x1.toNat)))) ≠ 0 → G 2 120 27 12 [(3, 3), (1, wr (x1 + 1))] [] (n, upS (upS s 10 x1.toNat (min 999 (wr ((s 10 x1.toNat) + 1)))) 8 x1.toNat (max 0 (wr ((s 8 x1.toNat) - (bnV (vw 4 (upS s 10 x1.toNat (min 999 (wr ((s 10 x1.toNat) + 1))))) x1.toNat (s 6 x1.toNat)))))) Q) ∧ (max 0 (wr ((s 8 x1.toNat) - (bnV (vw 4 (upS s 10 x1.toNat (min 999 (wr ((s 10 x1.toNat) + 1))))) x1.toNat (s 6 x1.toNat)))) = 0 → G 2 120 27 12 [(3, 3), (1, wr (x1 + 1))] [] (n, upS (upS (upS s 10 x1.toNat (min 999 (wr ((s 10 x1.toNat) + 1)))) 8 x1.toNat (max 0 (wr ((s 8 x1.toNat) - (bnV (vw 4 (upS s 10 x1.toNat (min 999 (wr ((s 10 x1.toNat) + 1))))) x1.toNat (s 6 x1.toNat)))))) 9 x1.toNat 0) Q))))))) :
    G 2 120 27 12 [(3, 3), (1, x1)] [] (n, s) Q := by
  refine G_go rfl rfl ?_
  refine G_go rfl rfl ?_
  refine G_rd rfl rfl (by decide) ?_
  refine G_ge rfl rfl (fun c1 => ?_) (fun c1 => ?_)
  · have h := h.1 c1
    exact G_ret rfl rfl h
  · have h := h.2 c1
    refine G_go rfl rfl ?_
    refine G_rf rfl rfl (by decide) (hR 3 5 9 rfl) ?_
    refine G_go rfl rfl ?_
    obtain ⟨g2, h⟩ := h
    refine G_zr (n := 6) rfl rfl (by decide) (by decide) g2 ?_
    refine G_eq rfl rfl (fun c3 => ?_) (fun c3 => ?_)
    · have h := h.1 c3
      refine G_go rfl rfl ?_
      refine G_go rfl rfl ?_
      exact h
    · have h := h.2 c3
      refine G_go rfl rfl ?_
      refine G_rf rfl rfl (by decide) (hR 3 6 10 rfl) ?_
      refine G_go rfl rfl ?_
      refine G_go rfl rfl ?_
      refine G_go rfl rfl ?_
      refine G_rf rfl rfl (by decide) (hR 3 6 10 rfl) ?_
      refine G_go rfl rfl ?_
      refine G_ir (n := 6) rfl rfl (by decide) (by decide) g2 ?_
      refine G_go rfl rfl ?_
      refine G_go rfl rfl ?_
      refine G_min rfl rfl ?_
      refine G_iw (n := 6) rfl rfl (by decide) (by decide) g2 ?_
      have hR := refs_up (a := 10) (k := x1.toNat) (x := min 999 (wr ((s 10 x1.toNat) + 1))) hR rfl
      refine G_go rfl rfl ?_
      refine G_go rfl rfl ?_
      refine G_go rfl rfl ?_
      refine G_go rfl rfl ?_
      refine G_rf rfl rfl (by decide) (hR 3 4 8 rfl) ?_
      refine G_go rfl rfl ?_
      refine G_ir (n := 6) rfl rfl (by decide) (by decide) g2 ?_
      refine G_go rfl rfl ?_
      refine G_go rfl rfl ?_
      refine G_go rfl rfl ?_
      refine G_rf rfl rfl (by decide) (hR 3 2 6 rfl) ?_
      refine G_go rfl rfl ?_
      refine G_ir (n := 6) rfl rfl (by decide) (by decide) g2 ?_
      refine G_call rfl rfl ?_
      obtain ⟨g4, h⟩ := h
      obtain ⟨g5, h⟩ := h
      refine c_X5_burnsHolding_3 n _ _ x1 (s 6 x1.toNat) hR g2 g4 g5 ?_
      refine G_go rfl rfl ?_
      refine G_max rfl rfl ?_
      refine G_call rfl rfl ?_
      refine G_go rfl rfl ?_
      refine G_rf rfl rfl (by decide) (hR 3 4 8 rfl) ?_
      refine G_go rfl rfl ?_
      refine G_go rfl rfl ?_
      refine G_iw (n := 6) rfl rfl (by decide) (by decide) g2 ?_
      have hR := refs_up (a := 8) (k := x1.toNat) (x := max 0 (wr ((s 8 x1.toNat) - (bnV (vw 4 (upS s 10 x1.toNat (min 999 (wr ((s 10 x1.toNat) + 1))))) x1.toNat (s 6 x1.toNat))))) hR rfl
      refine G_go rfl rfl ?_
      refine G_ne rfl rfl (fun c6 => ?_) (fun c6 => ?_)
      · have h := h.1 c6
        refine G_ret rfl rfl ?_
        refine G_go rfl rfl ?_
        refine G_go rfl rfl ?_
        exact h
      · have h := h.2 c6
        refine G_go rfl rfl ?_
        refine G_rf rfl rfl (by decide) (hR 3 5 9 rfl) ?_
        refine G_go rfl rfl ?_
        refine G_go rfl rfl ?_
        refine G_zw (n := 6) rfl rfl (by decide) (by decide) g2 (by decide) ?_
        have hR := refs_up (a := 9) (k := x1.toNat) (x := 0) hR rfl
        refine G_ret rfl rfl ?_
        refine G_go rfl rfl ?_
        refine G_go rfl rfl ?_
        exact h
theorem sb_X5_passHours_0_3 (n : Nat) (s : Nat → Nat → Int) (Q : List Vl → Sto → Prop) (a0 : Int) (hR : refs s)
    (h : G 2 120 56 2 [(3, 3), (1, a0), (1, 0)] [] (n, s) Q) :
    G 2 120 56 0 [(3, 3), (1, a0), (0, 0)] [] (n, s) Q := by
  refine G_go rfl rfl ?_
  refine G_go rfl rfl ?_
  show G 2 120 56 2 [(3, 3), (1, a0), (1, 0)] [] (n, s) Q
  exact h
theorem sb_X5_passHours_2_3 (n : Nat) (s : Nat → Nat → Int) (Q : List Vl → Sto → Prop) (x1 : Int) (x2 : Int) (hR : refs s)
    (h : (x1 ≤ x2 → Q [] (n, s)) ∧ (x2 < x1 → G 2 120 27 0 [(3, 3), (0, 0)] [] (n, s) (fun r s1 => G 2 120 56 11 [(3, 3), (1, x1), (1, x2)] (r ++ []) s1 Q))) :
    G 2 120 56 2 [(3, 3), (1, x1), (1, x2)] [] (n, s) Q := by
  refine G_go rfl rfl ?_
  refine G_go rfl rfl ?_
  refine G_ge rfl rfl (fun c1 => ?_) (fun c1 => ?_)
  · have h := h.1 c1
    exact G_ret rfl rfl h
  · have h := h.2 c1
    refine G_go rfl rfl ?_
    exact G_call rfl rfl h
theorem sb_X5_passHours_11_3 (n : Nat) (s : Nat → Nat → Int) (Q : List Vl → Sto → Prop) (x1 : Int) (x2 : Int) (hR : refs s)
    (h : G 2 120 56 2 [(3, 3), (1, x1), (1, wr (x2 + 1))] [] (n, s) Q) :
    G 2 120 56 11 [(3, 3), (1, x1), (1, x2)] [] (n, s) Q := by
  refine G_go rfl rfl ?_
  refine G_go rfl rfl ?_
  exact h
theorem c_passHour_3 (n : Nat) (s : Nat → Nat → Int) (Q : List Vl → Sto → Prop) (np h : Int) (V : Nat → Nat → Int) (hR : refs s) (ok : okT np V) (ht : twC 3 s np h V) (hq : ∀ s1, refs s1 → frH 3 s s1 → twC 3 s1 np (wr (h + 1)) (hrV V) → Q [] (n, s1)) : G 2 120 27 0 [(3, 3), (0, 0)] [] (n, s) Q := by
  obtain ⟨⟨o1, o2⟩, o3⟩ := ok
  obtain ⟨t1, t2, t3⟩ := ht
  refine sb_X5_passHour_0_3 n s Q hR ?_
  refine G_up np.toNat (fun k _ => ∀ s1, refs s1 → (frH 3 s s1 ∧ twC 3 s1 np (wr (h + 1)) (hrM k V)) → G 2 120 27 12 [(3, 3), (1, (k : Int))] [] (n, s1) Q) (fun _ _ => ()) (fun _ _ => True) () trivial (fun _ _ _ _ => trivial) (fun k _ hk _ hg s1 hR1 hI => ?_) (fun _ s1 hR1 hI => ?_) _ (refs_up hR rfl) ?_
  · obtain ⟨f1, u1, u2, u3⟩ := hI
    have hp : (k : Int) < np := by omega
    have e := u3 k hp
    simp only [hrM_k] at e
    obtain ⟨e0, e1, e2, e3, e4, e5, e6, e7⟩ := e
    obtain ⟨q0, q1, q2, q3, q4, q5, q6, q7⟩ := o3 k hp
    have br := ok_bn o3 hp
    have hb : ∀ x, bnV (vw 4 (upS s1 10 k x)) k (V 2 k) = bnW V k := fun x => congrFun (bnV_eq (C := vw 4 (upS s1 10 k x)) (V := V) e0 e1 e3) (V 2 k)
    have e1' : s1 5 k = V 1 k := e1
    have e2' : s1 6 k = V 2 k := e2
    have e3' : s1 7 k = V 3 k := e3
    have e4' : s1 8 k = V 4 k := e4
    have e5' : s1 9 k = V 5 k := e5
    have e6' : s1 10 k = V 6 k := e6
    have g : ∀ x, rgP (vw 4 (upS s1 10 k x)) k := fun x => by
      refine ⟨?_, ?_⟩
      · show 0 ≤ s1 5 k ∧ s1 5 k ≤ 9
        omega
      · show 0 ≤ s1 7 k ∧ s1 7 k ≤ 200
        omega
    rw [← wr_s hk (by omega)] at hg
    refine sb_X5_passHour_12_3 n s1 Q k hR1 ?_
    rw [Int.toNat_natCast, u1, e2', e4', e5', e6', hb, wr_id (x := V 6 k + 1) (by omega) (by omega), wr_id (x := V 4 k - bnW V k) (by omega) (by omega)]
    refine ⟨fun e => by omega, fun _ => ⟨by omega, fun c => ?_, fun c => ⟨g _, by omega, fun d => ?_, fun d => ?_⟩⟩⟩
    · refine hg s1 hR1 ⟨f1, u1, u2, eqV_put k u3 (fun p _ hpk j _ => ⟨rfl, hrM_ne hpk j⟩) (fun _ => ?_)⟩
      simp only [eqP, hrM_s, hr_off (show V 5 k ≠ 1 by omega)]
      exact ⟨e0, e1, e2, e3, e4, e5, e6, e7⟩
    · have c1 : V 5 k = 1 := by omega
      obtain ⟨v0, v1, v2, v3, v4, v5, v6, v7⟩ := hr_on c1
      refine hg _ (refs_up (refs_up hR1 rfl) rfl) ⟨fun c hc => ?_, u1, u2, eqV_put k u3 (fun p _ hpk j _ => ⟨?_, hrM_ne hpk j⟩) (fun _ => ?_)⟩
      · funext z
        rw [upS_1 (by omega), upS_1 (by omega), f1 c hc]
      · unfold vw
        rw [upS_2 hpk, upS_2 hpk]
      · simp only [eqP, hrM_s, v0, v1, v2, v3, v4, v5, v6, v7]
        refine ⟨e0, e1, e2, e3, upS_eq, ?_, ?_, e7⟩
        · rw [if_neg (by omega), ← c1]
          exact e5
        · show upS (upS s1 10 k _) 8 k _ 10 k = _
          rw [upS_1 (by decide), upS_eq]
    · have c1 : V 5 k = 1 := by omega
      obtain ⟨v0, v1, v2, v3, v4, v5, v6, v7⟩ := hr_on c1
      refine hg _ (refs_up (refs_up (refs_up hR1 rfl) rfl) rfl) ⟨fun c hc => ?_, u1, u2, eqV_put k u3 (fun p _ hpk j _ => ⟨?_, hrM_ne hpk j⟩) (fun _ => ?_)⟩
      · funext z
        rw [upS_1 (by omega), upS_1 (by omega), upS_1 (by omega), f1 c hc]
      · unfold vw
        rw [upS_2 hpk, upS_2 hpk, upS_2 hpk]
      · simp only [eqP, hrM_s, v0, v1, v2, v3, v4, v5, v6, v7]
        refine ⟨e0, e1, e2, e3, ?_, ?_, ?_, e7⟩
        · show upS (upS (upS s1 10 k _) 8 k _) 9 k _ 8 k = _
          rw [upS_1 (by decide), upS_eq]
        · rw [if_pos (by omega)]
          exact upS_eq
        · show upS (upS (upS s1 10 k _) 8 k _) 9 k _ 10 k = _
          rw [upS_1 (by decide), upS_1 (by decide), upS_eq]
  · refine sb_X5_passHour_12_3 n s1 Q _ hR1 ⟨fun _ => hq s1 hR1 hI.1 ⟨hI.2.1, hI.2.2.1, eqV_ext hI.2.2.2 (fun _ _ _ _ => rfl) (fun j _ p hp => (hrM_N (by omega) j).symm)⟩, fun e => absurd e ?_⟩
    rw [hI.2.1]
    omega
  · refine ⟨fun c hc => ?_, t1, ?_, eqV_ext t3 (fun j hj p _ => ?_) (fun j _ p _ => hrM_0 j p)⟩
    · funext z
      rw [upS_1 (by omega)]
    · rw [upS_eq, t2]
    · unfold vw
      rw [upS_1 (by omega)]
theorem c_passHours_3 (n : Nat) (s : Nat → Nat → Int) (Q : List Vl → Sto → Prop) (np h : Int) (V : Nat → Nat → Int) (N : Nat) (hN : N ≤ 99) (hR : refs s) (ok : okT np V) (ht : twC 3 s np h V) (hq : ∀ s1, refs s1 → frH 3 s s1 → twC 3 s1 np (hrN N h V).1 (hrN N h V).2 → Q [] (n, s1)) : G 2 120 56 0 [(3, 3), (1, (N : Int)), (0, 0)] [] (n, s) Q := by
  refine sb_X5_passHours_0_3 n s Q N hR ?_
  refine G_up N (fun k b => ∀ s1, refs s1 → (frH 3 s s1 ∧ okT np b.2 ∧ twC 3 s1 np b.1 b.2) → G 2 120 56 2 [(3, 3), (1, (N : Int)), (1, (k : Int))] [] (n, s1) Q) (fun _ x => (wr (x.1 + 1), hrV x.2)) (fun _ _ => True) (h, V) trivial (fun _ _ _ _ => trivial) (fun k b hk _ hg s1 hR1 hI => ?_) (fun _ s1 hR1 hI => ?_) s hR ⟨fun _ _ => rfl, ok, ht⟩
  · obtain ⟨f1, o1, u1⟩ := hI
    rw [← wr_s hk (by omega)] at hg
    refine sb_X5_passHours_2_3 n s1 Q N k hR1 ⟨fun e => by omega, fun _ => ?_⟩
    refine c_passHour_3 n s1 _ np _ _ hR1 o1 u1 (fun s2 hR2 f2 u2 => ?_)
    exact sb_X5_passHours_11_3 n s2 Q N k hR2 (hg s2 hR2 ⟨frH_trans f1 f2, okT_hr o1, u2⟩)
  · exact sb_X5_passHours_2_3 n s1 Q N N hR1 ⟨fun _ => hq s1 hR1 hI.1 hI.2.2, fun e => by omega⟩
theorem sb_X5_passHour_0_13 (n : Nat) (s : Nat → Nat → Int) (Q : List Vl → Sto → Prop) (hR : refs s)
    (h : G 2 120 27 12 [(3, 13), (1, 0)] [] (n, upS s 13 10 (wr ((s 13 10) + 1))) Q) :
    G 2 120 27 0 [(3, 13), (0, 0)] [] (n, s) Q := by
  refine G_go rfl rfl ?_
  refine G_go rfl rfl ?_
  refine G_rd rfl rfl (by decide) ?_
  refine G_go rfl rfl ?_
  refine G_go rfl rfl ?_
  refine G_wr rfl rfl (by decide) ?_
  have hR := refs_up (a := 13) (k := 10) (x := wr ((s 13 10) + 1)) hR rfl
  refine G_go rfl rfl ?_
  refine G_go rfl rfl ?_
  show G 2 120 27 12 [(3, 13), (1, 0)] [] (n, upS s 13 10 (wr ((s 13 10) + 1))) Q
  exact h
theorem sb_X5_passHour_12_13 (n : Nat) (s : Nat → Nat → Int) (Q : List Vl → Sto → Prop) (x1 : Int) (hR : refs s)
    (h : (s 13 9 ≤ x1 → Q [] (n, s)) ∧ (x1 < s 13 9 → (0 ≤ x1 ∧ x1 < 6) ∧ ((s 19 x1.toNat = 0 → G 2 120 27 12 [(3, 13), (1, wr (x1 + 1))] [] (n, s) Q) ∧ (s 19 x1.toNat ≠ 0 → (rgP (vw 14 (upS s 20 x1.toNat (min 999 (wr ((s 20 x1.toNat) + 1))))) x1.toNat) ∧ ((0 ≤ s 16 x1.toNat ∧ s 16 x1.toNat ≤ 2000) ∧ ((max 0 (wr ((s 18 x1.toNat) - (bnV (vw 14 (upS s 20 x1.toNat (min 999 (wr ((s 20 x1.toNat) + 1))))) x1.toNat (s 16 x1.toNat)))) ≠ 0 → G 2 120 27 12 [(3, 13), (1, wr (x1 + 1))] [] (n, upS (upS s 20 x1.toNat (min 999 (wr ((s 20 x1.toNat) + 1)))) 18 x1.toNat (max 0 (wr ((s 18 x1.toNat) - (bnV (vw 14 (upS s 20 x1.toNat (min 999 (wr ((s 20 x1.toNat) + 1))))) x1.toNat (s 16 x1.toNat)))))) Q) ∧ (max 0 (wr ((s 18 x1.toNat) - (bnV (vw 14 (upS s 20 x1.toNat (min 999 (wr ((s 20 x1.toNat) + 1))))) x1.toNat (s 16 x1.toNat)))) = 0 → G 2 120 27 12 [(3, 13), (1, wr (x1 + 1))] [] (n, upS (upS (upS s 20 x1.toNat (min 999 (wr ((s 20 x1.toNat) + 1)))) 18 x1.toNat (max 0 (wr ((s 18 x1.toNat) - (bnV (vw 14 (upS s 20 x1.toNat (min 999 (wr ((s 20 x1.toNat) + 1))))) x1.toNat (s 16 x1.toNat)))))) 19 x1.toNat 0) Q))))))) :
    G 2 120 27 12 [(3, 13), (1, x1)] [] (n, s) Q := by
  refine G_go rfl rfl ?_
  refine G_go rfl rfl ?_
  refine G_rd rfl rfl (by decide) ?_
  refine G_ge rfl rfl (fun c1 => ?_) (fun c1 => ?_)
  · have h := h.1 c1
    exact G_ret rfl rfl h
  · have h := h.2 c1
    refine G_go rfl rfl ?_
    refine G_rf rfl rfl (by decide) (hR 13 5 19 rfl) ?_
    refine G_go rfl rfl ?_
    obtain ⟨g2, h⟩ := h
    refine G_zr (n := 6) rfl rfl (by decide) (by decide) g2 ?_
    refine G_eq rfl rfl (fun c3 => ?_) (fun c3 => ?_)
    · have h := h.1 c3
      refine G_go rfl rfl ?_
      refine G_go rfl rfl ?_
      exact h
    · have h := h.2 c3
      refine G_go rfl rfl ?_
      refine G_rf rfl rfl (by decide) (hR 13 6 20 rfl) ?_
      refine G_go rfl rfl ?_
      refine G_go rfl rfl ?_
      refine G_go rfl rfl ?_
      refine G_rf rfl rfl (by decide) (hR 13 6 20 rfl) ?_
      refine G_go rfl rfl ?_
      refine G_ir (n := 6) rfl rfl (by decide) (by decide) g2 ?_
      refine G_go rfl rfl ?_
      refine G_go rfl rfl ?_
      refine G_min rfl rfl ?_
      refine G_iw (n := 6) rfl rfl (by decide) (by decide) g2 ?_
      have hR := refs_up (a := 20) (k := x1.toNat) (x := min 999 (wr ((s 20 x1.toNat) + 1))) hR rfl
      refine G_go rfl rfl ?_
      refine G_go rfl rfl ?_
      refine G_go rfl rfl ?_
      refine G_go rfl rfl ?_
      refine G_rf rfl rfl (by decide) (hR 13 4 18 rfl) ?_
      refine G_go rfl rfl ?_
      refine G_ir (n := 6) rfl rfl (by decide) (by decide) g2 ?_
      refine G_go rfl rfl ?_
      refine G_go rfl rfl ?_
      refine G_go rfl rfl ?_
      refine G_rf rfl rfl (by decide) (hR 13 2 16 rfl) ?_
      refine G_go rfl rfl ?_
      refine G_ir (n := 6) rfl rfl (by decide) (by decide) g2 ?_
      refine G_call rfl rfl ?_
      obtain ⟨g4, h⟩ := h
      obtain ⟨g5, h⟩ := h
      refine c_X5_burnsHolding_13 n _ _ x1 (s 16 x1.toNat) hR g2 g4 g5 ?_
      refine G_go rfl rfl ?_
      refine G_max rfl rfl ?_
      refine G_call rfl rfl ?_
      refine G_go rfl rfl ?_
      refine G_rf rfl rfl (by decide) (hR 13 4 18 rfl) ?_
      refine G_go rfl rfl ?_
      refine G_go rfl rfl ?_
      refine G_iw (n := 6) rfl rfl (by decide) (by decide) g2 ?_
      have hR := refs_up (a := 18) (k := x1.toNat) (x := max 0 (wr ((s 18 x1.toNat) - (bnV (vw 14 (upS s 20 x1.toNat (min 999 (wr ((s 20 x1.toNat) + 1))))) x1.toNat (s 16 x1.toNat))))) hR rfl
      refine G_go rfl rfl ?_
      refine G_ne rfl rfl (fun c6 => ?_) (fun c6 => ?_)
      · have h := h.1 c6
        refine G_ret rfl rfl ?_
        refine G_go rfl rfl ?_
        refine G_go rfl rfl ?_
        exact h
      · have h := h.2 c6
        refine G_go rfl rfl ?_
        refine G_rf rfl rfl (by decide) (hR 13 5 19 rfl) ?_
        refine G_go rfl rfl ?_
        refine G_go rfl rfl ?_
        refine G_zw (n := 6) rfl rfl (by decide) (by decide) g2 (by decide) ?_
        have hR := refs_up (a := 19) (k := x1.toNat) (x := 0) hR rfl
        refine G_ret rfl rfl ?_
        refine G_go rfl rfl ?_
        refine G_go rfl rfl ?_
        exact h
theorem sb_X5_passHours_0_13 (n : Nat) (s : Nat → Nat → Int) (Q : List Vl → Sto → Prop) (a0 : Int) (hR : refs s)
    (h : G 2 120 56 2 [(3, 13), (1, a0), (1, 0)] [] (n, s) Q) :
    G 2 120 56 0 [(3, 13), (1, a0), (0, 0)] [] (n, s) Q := by
  refine G_go rfl rfl ?_
  refine G_go rfl rfl ?_
  show G 2 120 56 2 [(3, 13), (1, a0), (1, 0)] [] (n, s) Q
  exact h
theorem sb_X5_passHours_2_13 (n : Nat) (s : Nat → Nat → Int) (Q : List Vl → Sto → Prop) (x1 : Int) (x2 : Int) (hR : refs s)
    (h : (x1 ≤ x2 → Q [] (n, s)) ∧ (x2 < x1 → G 2 120 27 0 [(3, 13), (0, 0)] [] (n, s) (fun r s1 => G 2 120 56 11 [(3, 13), (1, x1), (1, x2)] (r ++ []) s1 Q))) :
    G 2 120 56 2 [(3, 13), (1, x1), (1, x2)] [] (n, s) Q := by
  refine G_go rfl rfl ?_
  refine G_go rfl rfl ?_
  refine G_ge rfl rfl (fun c1 => ?_) (fun c1 => ?_)
  · have h := h.1 c1
    exact G_ret rfl rfl h
  · have h := h.2 c1
    refine G_go rfl rfl ?_
    exact G_call rfl rfl h
theorem sb_X5_passHours_11_13 (n : Nat) (s : Nat → Nat → Int) (Q : List Vl → Sto → Prop) (x1 : Int) (x2 : Int) (hR : refs s)
    (h : G 2 120 56 2 [(3, 13), (1, x1), (1, wr (x2 + 1))] [] (n, s) Q) :
    G 2 120 56 11 [(3, 13), (1, x1), (1, x2)] [] (n, s) Q := by
  refine G_go rfl rfl ?_
  refine G_go rfl rfl ?_
  exact h
theorem c_passHour_13 (n : Nat) (s : Nat → Nat → Int) (Q : List Vl → Sto → Prop) (np h : Int) (V : Nat → Nat → Int) (hR : refs s) (ok : okT np V) (ht : twC 13 s np h V) (hq : ∀ s1, refs s1 → frH 13 s s1 → twC 13 s1 np (wr (h + 1)) (hrV V) → Q [] (n, s1)) : G 2 120 27 0 [(3, 13), (0, 0)] [] (n, s) Q := by
  obtain ⟨⟨o1, o2⟩, o3⟩ := ok
  obtain ⟨t1, t2, t3⟩ := ht
  refine sb_X5_passHour_0_13 n s Q hR ?_
  refine G_up np.toNat (fun k _ => ∀ s1, refs s1 → (frH 13 s s1 ∧ twC 13 s1 np (wr (h + 1)) (hrM k V)) → G 2 120 27 12 [(3, 13), (1, (k : Int))] [] (n, s1) Q) (fun _ _ => ()) (fun _ _ => True) () trivial (fun _ _ _ _ => trivial) (fun k _ hk _ hg s1 hR1 hI => ?_) (fun _ s1 hR1 hI => ?_) _ (refs_up hR rfl) ?_
  · obtain ⟨f1, u1, u2, u3⟩ := hI
    have hp : (k : Int) < np := by omega
    have e := u3 k hp
    simp only [hrM_k] at e
    obtain ⟨e0, e1, e2, e3, e4, e5, e6, e7⟩ := e
    obtain ⟨q0, q1, q2, q3, q4, q5, q6, q7⟩ := o3 k hp
    have br := ok_bn o3 hp
    have hb : ∀ x, bnV (vw 14 (upS s1 20 k x)) k (V 2 k) = bnW V k := fun x => congrFun (bnV_eq (C := vw 14 (upS s1 20 k x)) (V := V) e0 e1 e3) (V 2 k)
    have e1' : s1 15 k = V 1 k := e1
    have e2' : s1 16 k = V 2 k := e2
    have e3' : s1 17 k = V 3 k := e3
    have e4' : s1 18 k = V 4 k := e4
    have e5' : s1 19 k = V 5 k := e5
    have e6' : s1 20 k = V 6 k := e6
    have g : ∀ x, rgP (vw 14 (upS s1 20 k x)) k := fun x => by
      refine ⟨?_, ?_⟩
      · show 0 ≤ s1 15 k ∧ s1 15 k ≤ 9
        omega
      · show 0 ≤ s1 17 k ∧ s1 17 k ≤ 200
        omega
    rw [← wr_s hk (by omega)] at hg
    refine sb_X5_passHour_12_13 n s1 Q k hR1 ?_
    rw [Int.toNat_natCast, u1, e2', e4', e5', e6', hb, wr_id (x := V 6 k + 1) (by omega) (by omega), wr_id (x := V 4 k - bnW V k) (by omega) (by omega)]
    refine ⟨fun e => by omega, fun _ => ⟨by omega, fun c => ?_, fun c => ⟨g _, by omega, fun d => ?_, fun d => ?_⟩⟩⟩
    · refine hg s1 hR1 ⟨f1, u1, u2, eqV_put k u3 (fun p _ hpk j _ => ⟨rfl, hrM_ne hpk j⟩) (fun _ => ?_)⟩
      simp only [eqP, hrM_s, hr_off (show V 5 k ≠ 1 by omega)]
      exact ⟨e0, e1, e2, e3, e4, e5, e6, e7⟩
    · have c1 : V 5 k = 1 := by omega
      obtain ⟨v0, v1, v2, v3, v4, v5, v6, v7⟩ := hr_on c1
      refine hg _ (refs_up (refs_up hR1 rfl) rfl) ⟨fun c hc => ?_, u1, u2, eqV_put k u3 (fun p _ hpk j _ => ⟨?_, hrM_ne hpk j⟩) (fun _ => ?_)⟩
      · funext z
        rw [upS_1 (by omega), upS_1 (by omega), f1 c hc]
      · unfold vw
        rw [upS_2 hpk, upS_2 hpk]
      · simp only [eqP, hrM_s, v0, v1, v2, v3, v4, v5, v6, v7]
        refine ⟨e0, e1, e2, e3, upS_eq, ?_, ?_, e7⟩
        · rw [if_neg (by omega), ← c1]
          exact e5
        · show upS (upS s1 20 k _) 18 k _ 20 k = _
          rw [upS_1 (by decide), upS_eq]
    · have c1 : V 5 k = 1 := by omega
      obtain ⟨v0, v1, v2, v3, v4, v5, v6, v7⟩ := hr_on c1
      refine hg _ (refs_up (refs_up (refs_up hR1 rfl) rfl) rfl) ⟨fun c hc => ?_, u1, u2, eqV_put k u3 (fun p _ hpk j _ => ⟨?_, hrM_ne hpk j⟩) (fun _ => ?_)⟩
      · funext z
        rw [upS_1 (by omega), upS_1 (by omega), upS_1 (by omega), f1 c hc]
      · unfold vw
        rw [upS_2 hpk, upS_2 hpk, upS_2 hpk]
      · simp only [eqP, hrM_s, v0, v1, v2, v3, v4, v5, v6, v7]
        refine ⟨e0, e1, e2, e3, ?_, ?_, ?_, e7⟩
        · show upS (upS (upS s1 20 k _) 18 k _) 19 k _ 18 k = _
          rw [upS_1 (by decide), upS_eq]
        · rw [if_pos (by omega)]
          exact upS_eq
        · show upS (upS (upS s1 20 k _) 18 k _) 19 k _ 20 k = _
          rw [upS_1 (by decide), upS_1 (by decide), upS_eq]
  · refine sb_X5_passHour_12_13 n s1 Q _ hR1 ⟨fun _ => hq s1 hR1 hI.1 ⟨hI.2.1, hI.2.2.1, eqV_ext hI.2.2.2 (fun _ _ _ _ => rfl) (fun j _ p hp => (hrM_N (by omega) j).symm)⟩, fun e => absurd e ?_⟩
    rw [hI.2.1]
    omega
  · refine ⟨fun c hc => ?_, t1, ?_, eqV_ext t3 (fun j hj p _ => ?_) (fun j _ p _ => hrM_0 j p)⟩
    · funext z
      rw [upS_1 (by omega)]
    · rw [upS_eq, t2]
    · unfold vw
      rw [upS_1 (by omega)]
theorem c_passHours_13 (n : Nat) (s : Nat → Nat → Int) (Q : List Vl → Sto → Prop) (np h : Int) (V : Nat → Nat → Int) (N : Nat) (hN : N ≤ 99) (hR : refs s) (ok : okT np V) (ht : twC 13 s np h V) (hq : ∀ s1, refs s1 → frH 13 s s1 → twC 13 s1 np (hrN N h V).1 (hrN N h V).2 → Q [] (n, s1)) : G 2 120 56 0 [(3, 13), (1, (N : Int)), (0, 0)] [] (n, s) Q := by
  refine sb_X5_passHours_0_13 n s Q N hR ?_
  refine G_up N (fun k b => ∀ s1, refs s1 → (frH 13 s s1 ∧ okT np b.2 ∧ twC 13 s1 np b.1 b.2) → G 2 120 56 2 [(3, 13), (1, (N : Int)), (1, (k : Int))] [] (n, s1) Q) (fun _ x => (wr (x.1 + 1), hrV x.2)) (fun _ _ => True) (h, V) trivial (fun _ _ _ _ => trivial) (fun k b hk _ hg s1 hR1 hI => ?_) (fun _ s1 hR1 hI => ?_) s hR ⟨fun _ _ => rfl, ok, ht⟩
  · obtain ⟨f1, o1, u1⟩ := hI
    rw [← wr_s hk (by omega)] at hg
    refine sb_X5_passHours_2_13 n s1 Q N k hR1 ⟨fun e => by omega, fun _ => ?_⟩
    refine c_passHour_13 n s1 _ np _ _ hR1 o1 u1 (fun s2 hR2 f2 u2 => ?_)
    exact sb_X5_passHours_11_13 n s2 Q N k hR2 (hg s2 hR2 ⟨frH_trans f1 f2, okT_hr o1, u2⟩)
  · exact sb_X5_passHours_2_13 n s1 Q N N hR1 ⟨fun _ => hq s1 hR1 hI.1 hI.2.2, fun e => by omega⟩
theorem sb_X7_hourOn_0 (n : Nat) (s : Nat → Nat → Int) (Q : List Vl → Sto → Prop) (hR : refs s)
    (h : G 120 140 146 12 [(3, 120), (1, 0), (0, 0)] [] (n, upS s 120 9 (wr ((s 120 9) + 1))) Q) :
    G 120 140 146 0 [(3, 120), (0, 0), (0, 0)] [] (n, s) Q := by
  refine G_go rfl rfl ?_
  refine G_go rfl rfl ?_
  refine G_rd rfl rfl (by decide) ?_
  refine G_go rfl rfl ?_
  refine G_go rfl rfl ?_
  refine G_wr rfl rfl (by decide) ?_
  have hR := refs_up (a := 120) (k := 9) (x := wr ((s 120 9) + 1)) hR rfl
  refine G_go rfl rfl ?_
  refine G_go rfl rfl ?_
  show G 120 140 146 12 [(3, 120), (1, 0), (0, 0)] [] (n, upS s 120 9 (wr ((s 120 9) + 1))) Q
  exact h
theorem sb_X7_hourOn_12 (n : Nat) (s : Nat → Nat → Int) (Q : List Vl → Sto → Prop) (x1 : Int) (w2 : Vl) (hR : refs s)
    (h : (s 120 0 ≤ x1 → Q [] (n, s)) ∧ (x1 < s 120 0 → (0 ≤ x1 ∧ x1 < 6) ∧ ((s 126 x1.toNat ≠ 1 → G 120 140 146 12 [(3, 120), (1, wr (x1 + 1)), w2] [] (n, s) Q) ∧ (s 126 x1.toNat = 1 → (rgP (vw 121 (upS s 127 x1.toNat (min 999 (wr ((s 127 x1.toNat) + 1))))) x1.toNat) ∧ ((0 ≤ vw 121 (upS s 127 x1.toNat (min 999 (wr ((s 127 x1.toNat) + 1)))) 2 x1.toNat ∧ vw 121 (upS s 127 x1.toNat (min 999 (wr ((s 127 x1.toNat) + 1)))) 2 x1.toNat ≤ 2000) ∧ ((s 125 x1.toNat ≤ bnW (vw 121 (upS s 127 x1.toNat (min 999 (wr ((s 127 x1.toNat) + 1))))) x1.toNat → G 120 140 146 12 [(3, 120), (1, wr (x1 + 1)), (1, bnW (vw 121 (upS s 127 x1.toNat (min 999 (wr ((s 127 x1.toNat) + 1))))) x1.toNat)] [] (n, upS (upS (upS s 127 x1.toNat (min 999 (wr ((s 127 x1.toNat) + 1)))) 125 x1.toNat 0) 126 x1.toNat 0) Q) ∧ (bnW (vw 121 (upS s 127 x1.toNat (min 999 (wr ((s 127 x1.toNat) + 1))))) x1.toNat < s 125 x1.toNat → (wr ((s 125 x1.toNat) - (bnW (vw 121 (upS s 127 x1.toNat (min 999 (wr ((s 127 x1.toNat) + 1))))) x1.toNat)) ≤ 0 → G 120 140 146 12 [(3, 120), (1, wr (x1 + 1)), (1, bnW (vw 121 (upS s 127 x1.toNat (min 999 (wr ((s 127 x1.toNat) + 1))))) x1.toNat)] [] (n, upS (upS (upS s 127 x1.toNat (min 999 (wr ((s 127 x1.toNat) + 1)))) 125 x1.toNat (wr ((s 125 x1.toNat) - (bnW (vw 121 (upS s 127 x1.toNat (min 999 (wr ((s 127 x1.toNat) + 1))))) x1.toNat)))) 126 x1.toNat 0) Q) ∧ (0 < wr ((s 125 x1.toNat) - (bnW (vw 121 (upS s 127 x1.toNat (min 999 (wr ((s 127 x1.toNat) + 1))))) x1.toNat)) → G 120 140 146 12 [(3, 120), (1, wr (x1 + 1)), (1, bnW (vw 121 (upS s 127 x1.toNat (min 999 (wr ((s 127 x1.toNat) + 1))))) x1.toNat)] [] (n, upS (upS (upS s 127 x1.toNat (min 999 (wr ((s 127 x1.toNat) + 1)))) 125 x1.toNat (wr ((s 125 x1.toNat) - (bnW (vw 121 (upS s 127 x1.toNat (min 999 (wr ((s 127 x1.toNat) + 1))))) x1.toNat)))) 126 x1.toNat 1) Q)))))))) :
    G 120 140 146 12 [(3, 120), (1, x1), w2] [] (n, s) Q := by
  refine G_go rfl rfl ?_
  refine G_go rfl rfl ?_
  refine G_rd rfl rfl (by decide) ?_
  refine G_ge rfl rfl (fun c1 => ?_) (fun c1 => ?_)
  · have h := h.1 c1
    exact G_ret rfl rfl h
  · have h := h.2 c1
    refine G_go rfl rfl ?_
    refine G_rf rfl rfl (by decide) (hR 120 6 126 rfl) ?_
    refine G_go rfl rfl ?_
    obtain ⟨g2, h⟩ := h
    refine G_ir (n := 6) rfl rfl (by decide) (by decide) g2 ?_
    refine G_go rfl rfl ?_
    refine G_ne rfl rfl (fun c3 => ?_) (fun c3 => ?_)
    · have h := h.1 c3
      refine G_go rfl rfl ?_
      refine G_go rfl rfl ?_
      exact h
    · have h := h.2 c3
      refine G_go rfl rfl ?_
      refine G_rf rfl rfl (by decide) (hR 120 7 127 rfl) ?_
      refine G_go rfl rfl ?_
      refine G_go rfl rfl ?_
      refine G_go rfl rfl ?_
      refine G_rf rfl rfl (by decide) (hR 120 7 127 rfl) ?_
      refine G_go rfl rfl ?_
      refine G_ir (n := 6) rfl rfl (by decide) (by decide) g2 ?_
      refine G_go rfl rfl ?_
      refine G_go rfl rfl ?_
      refine G_call rfl rfl ?_
      refine c_X7_least n _ _ 999 (wr ((s 127 x1.toNat) + 1)) hR ?_
      refine G_iw (n := 6) rfl rfl (by decide) (by decide) g2 ?_
      have hR := refs_up (a := 127) (k := x1.toNat) (x := min 999 (wr ((s 127 x1.toNat) + 1))) hR rfl
      refine G_go rfl rfl ?_
      refine G_go rfl rfl ?_
      refine G_call rfl rfl ?_
      obtain ⟨g4, h⟩ := h
      obtain ⟨g5, h⟩ := h
      refine c_X7_burnsOf n _ _ x1 hR g2 g4 g5 ?_
      refine G_go rfl rfl ?_
      show G 120 140 146 56 [(3, 120), (1, x1), (1, bnW (vw 121 (upS s 127 x1.toNat (min 999 (wr ((s 127 x1.toNat) + 1))))) x1.toNat)] [] (n, upS s 127 x1.toNat (min 999 (wr ((s 127 x1.toNat) + 1)))) Q
      refine G_go rfl rfl ?_
      refine G_rf rfl rfl (by decide) (hR 120 5 125 rfl) ?_
      refine G_go rfl rfl ?_
      refine G_go rfl rfl ?_
      refine G_rf rfl rfl (by decide) (hR 120 5 125 rfl) ?_
      refine G_go rfl rfl ?_
      refine G_ir (n := 6) rfl rfl (by decide) (by decide) g2 ?_
      refine G_go rfl rfl ?_
      refine G_le rfl rfl (fun c6 => ?_) (fun c6 => ?_)
      · have h := h.1 c6
        refine G_go rfl rfl ?_
        refine G_iw (n := 6) rfl rfl (by decide) (by decide) g2 ?_
        have hR := refs_up (a := 125) (k := x1.toNat) (x := 0) hR rfl
        refine G_go rfl rfl ?_
        refine G_rf rfl rfl (by decide) (hR 120 6 126 rfl) ?_
        refine G_go rfl rfl ?_
        refine G_go rfl rfl ?_
        refine G_rf rfl rfl (by decide) (hR 120 5 125 rfl) ?_
        refine G_go rfl rfl ?_
        refine G_irv (n := 6) (v := 0) rfl rfl (by decide) (by decide) g2 (by simp [upS]) ?_
        refine G_brT rfl rfl rfl ?_
        refine G_go rfl rfl ?_
        refine G_iw (n := 6) rfl rfl (by decide) (by decide) g2 ?_
        have hR := refs_up (a := 126) (k := x1.toNat) (x := 0) hR rfl
        refine G_go rfl rfl ?_
        refine G_go rfl rfl ?_
        exact h
      · have h := h.2 c6
        refine G_go rfl rfl ?_
        refine G_rf rfl rfl (by decide) (hR 120 5 125 rfl) ?_
        refine G_go rfl rfl ?_
        refine G_ir (n := 6) rfl rfl (by decide) (by decide) g2 ?_
        refine G_go rfl rfl ?_
        refine G_go rfl rfl ?_
        refine G_go rfl rfl ?_
        refine G_iw (n := 6) rfl rfl (by decide) (by decide) g2 ?_
        have hR := refs_up (a := 125) (k := x1.toNat) (x := wr ((s 125 x1.toNat) - (bnW (vw 121 (upS s 127 x1.toNat (min 999 (wr ((s 127 x1.toNat) + 1))))) x1.toNat))) hR rfl
        refine G_go rfl rfl ?_
        refine G_rf rfl rfl (by decide) (hR 120 6 126 rfl) ?_
        refine G_go rfl rfl ?_
        refine G_go rfl rfl ?_
        refine G_rf rfl rfl (by decide) (hR 120 5 125 rfl) ?_
        refine G_go rfl rfl ?_
        refine G_irv (n := 6) (v := wr ((s 125 x1.toNat) - (bnW (vw 121 (upS s 127 x1.toNat (min 999 (wr ((s 127 x1.toNat) + 1))))) x1.toNat))) rfl rfl (by decide) (by decide) g2 (by simp [upS]) ?_
        refine G_le rfl rfl (fun c7 => ?_) (fun c7 => ?_)
        · have h := h.1 c7
          refine G_go rfl rfl ?_
          refine G_iw (n := 6) rfl rfl (by decide) (by decide) g2 ?_
          have hR := refs_up (a := 126) (k := x1.toNat) (x := 0) hR rfl
          refine G_go rfl rfl ?_
          refine G_go rfl rfl ?_
          exact h
        · have h := h.2 c7
          refine G_go rfl rfl ?_
          refine G_go rfl rfl ?_
          refine G_iw (n := 6) rfl rfl (by decide) (by decide) g2 ?_
          have hR := refs_up (a := 126) (k := x1.toNat) (x := 1) hR rfl
          refine G_go rfl rfl ?_
          refine G_go rfl rfl ?_
          exact h
theorem sb_X7_goHours_0 (n : Nat) (s : Nat → Nat → Int) (Q : List Vl → Sto → Prop) (a0 : Int) (hR : refs s)
    (h : G 120 140 147 2 [(3, 120), (1, a0), (1, 0)] [] (n, s) Q) :
    G 120 140 147 0 [(3, 120), (1, a0), (0, 0)] [] (n, s) Q := by
  refine G_go rfl rfl ?_
  refine G_go rfl rfl ?_
  show G 120 140 147 2 [(3, 120), (1, a0), (1, 0)] [] (n, s) Q
  exact h
theorem sb_X7_goHours_2 (n : Nat) (s : Nat → Nat → Int) (Q : List Vl → Sto → Prop) (x1 : Int) (x2 : Int) (hR : refs s)
    (h : (x1 ≤ x2 → Q [] (n, s)) ∧ (x2 < x1 → G 120 140 146 0 [(3, 120), (0, 0), (0, 0)] [] (n, s) (fun r s1 => G 120 140 147 11 [(3, 120), (1, x1), (1, x2)] (r ++ []) s1 Q))) :
    G 120 140 147 2 [(3, 120), (1, x1), (1, x2)] [] (n, s) Q := by
  refine G_go rfl rfl ?_
  refine G_go rfl rfl ?_
  refine G_ge rfl rfl (fun c1 => ?_) (fun c1 => ?_)
  · have h := h.1 c1
    exact G_ret rfl rfl h
  · have h := h.2 c1
    refine G_go rfl rfl ?_
    exact G_call rfl rfl h
theorem sb_X7_goHours_11 (n : Nat) (s : Nat → Nat → Int) (Q : List Vl → Sto → Prop) (x1 : Int) (x2 : Int) (hR : refs s)
    (h : G 120 140 147 2 [(3, 120), (1, x1), (1, wr (x2 + 1))] [] (n, s) Q) :
    G 120 140 147 11 [(3, 120), (1, x1), (1, x2)] [] (n, s) Q := by
  refine G_go rfl rfl ?_
  refine G_go rfl rfl ?_
  exact h
theorem c_hourOn (n : Nat) (s : Nat → Nat → Int) (Q : List Vl → Sto → Prop) (np h : Int) (V : Nat → Nat → Int) (hR : refs s) (ok : okT np V) (ht : twR s np h V) (hq : ∀ s1, refs s1 → frY s s1 → twR s1 np (wr (h + 1)) (hrV V) → Q [] (n, s1)) : G 120 140 146 0 [(3, 120), (0, 0), (0, 0)] [] (n, s) Q := by
  obtain ⟨⟨o1, o2⟩, o3⟩ := ok
  obtain ⟨t1, t2, t3⟩ := ht
  refine sb_X7_hourOn_0 n s Q hR ?_
  refine G_up np.toNat (fun k _ => ∀ w s1, refs s1 → (frY s s1 ∧ twR s1 np (wr (h + 1)) (hrM k V)) → G 120 140 146 12 [(3, 120), (1, (k : Int)), w] [] (n, s1) Q) (fun _ _ => ()) (fun _ _ => True) () trivial (fun _ _ _ _ => trivial) (fun k _ hk _ hg w s1 hR1 hI => ?_) (fun _ w s1 hR1 hI => ?_) (0, 0) _ (refs_up hR rfl) ?_
  · obtain ⟨f1, u1, u2, u3⟩ := hI
    have hp : (k : Int) < np := by omega
    have e : ∀ j, j < 8 → s1 (121 + j) k = V j k := fun j hj => by rw [u3 j hj k hp, hrM_k]
    have e0 : s1 121 k = V 0 k := e 0 (by decide)
    have e1 : s1 122 k = V 1 k := e 1 (by decide)
    have e2 : s1 123 k = V 2 k := e 2 (by decide)
    have e3 : s1 124 k = V 3 k := e 3 (by decide)
    have e4 : s1 125 k = V 4 k := e 4 (by decide)
    have e5 : s1 126 k = V 5 k := e 5 (by decide)
    have e6 : s1 127 k = V 6 k := e 6 (by decide)
    obtain ⟨q0, q1, q2, q3, q4, q5, q6, q7⟩ := o3 k hp
    have br := ok_bn o3 hp
    have hb : ∀ x, bnW (vw 121 (upS s1 127 k x)) k = bnW V k := fun x => by
      show bnV (vw 121 (upS s1 127 k x)) k (s1 123 k) = bnV V k (V 2 k)
      rw [e2]
      exact congrFun (bnV_eq (C := vw 121 (upS s1 127 k x)) (V := V) e0 e1 e3) (V 2 k)
    have g : ∀ x, rgP (vw 121 (upS s1 127 k x)) k := fun x => by
      refine ⟨?_, ?_⟩
      · show 0 ≤ s1 122 k ∧ s1 122 k ≤ 9
        omega
      · show 0 ≤ s1 124 k ∧ s1 124 k ≤ 200
        omega
    have g2 : ∀ x, 0 ≤ vw 121 (upS s1 127 k x) 2 k ∧ vw 121 (upS s1 127 k x) 2 k ≤ 2000 := fun x => by
      show 0 ≤ s1 123 k ∧ s1 123 k ≤ 2000
      omega
    have put : ∀ (s2 W : Nat → Nat → Int), (∀ j, j < 8 → ∀ p, p ≠ k → s2 (121 + j) p = s1 (121 + j) p) → (∀ j, j < 8 → s2 (121 + j) k = hrV V j k) → ∀ j, j < 8 → ∀ p : Nat, (p : Int) < np → s2 (121 + j) p = hrM (k + 1) V j p := fun s2 W a b j hj p hp => by
      by_cases c : p = k
      · subst c
        rw [b j hj, hrM_s]
      · rw [a j hj p c, hrM_ne c, u3 j hj p hp]
    rw [← wr_s hk (by omega)] at hg
    refine sb_X7_hourOn_12 n s1 Q k w hR1 ?_
    rw [Int.toNat_natCast, u1, e4, e5, e6, hb, wr_id (x := V 6 k + 1) (by omega) (by omega)]
    refine ⟨fun e => by omega, fun _ => ⟨by omega, fun c => ?_, fun c => ⟨g _, g2 _, fun d => ?_, fun d => ?_⟩⟩⟩
    · refine hg w s1 hR1 ⟨f1, u1, u2, put s1 V (fun _ _ _ _ => rfl) (fun j hj => ?_)⟩
      rw [hr_off (by omega), e j hj]
    · obtain ⟨v0, v1, v2, v3, v4, v5, v6, v7⟩ := hr_on c
      refine hg _ _ (refs_up (refs_up (refs_up hR1 rfl) rfl) rfl) ⟨⟨fun b hb => ?_, f1.2⟩, u1, u2, put _ V (fun j _ p hpk => ?_) (fun j hj => ?_)⟩
      · funext z
        rw [upS_1 (by omega), upS_1 (by omega), upS_1 (by omega), f1.1 b hb]
      · rw [upS_2 hpk, upS_2 hpk, upS_2 hpk]
      · rcases lt8 hj with rfl | rfl | rfl | rfl | rfl | rfl | rfl | rfl
        · rw [v0]; exact e0
        · rw [v1]; exact e1
        · rw [v2]; exact e2
        · rw [v3]; exact e3
        · rw [v4]
          show upS (upS (upS s1 127 k _) 125 k _) 126 k _ 125 k = _
          rw [upS_1 (by decide), upS_eq]
          omega
        · rw [v5, if_pos d]
          exact upS_eq
        · rw [v6]
          show upS (upS (upS s1 127 k _) 125 k _) 126 k _ 127 k = _
          rw [upS_1 (by decide), upS_1 (by decide), upS_eq]
        · rw [v7]; exact e 7 (by decide)
    · obtain ⟨v0, v1, v2, v3, v4, v5, v6, v7⟩ := hr_on c
      rw [wr_id (x := V 4 k - bnW V k) (by omega) (by omega)]
      refine ⟨fun d2 => by omega, fun d2 => ?_⟩
      refine hg _ _ (refs_up (refs_up (refs_up hR1 rfl) rfl) rfl) ⟨⟨fun b hb => ?_, f1.2⟩, u1, u2, put _ V (fun j _ p hpk => ?_) (fun j hj => ?_)⟩
      · funext z
        rw [upS_1 (by omega), upS_1 (by omega), upS_1 (by omega), f1.1 b hb]
      · rw [upS_2 hpk, upS_2 hpk, upS_2 hpk]
      · rcases lt8 hj with rfl | rfl | rfl | rfl | rfl | rfl | rfl | rfl
        · rw [v0]; exact e0
        · rw [v1]; exact e1
        · rw [v2]; exact e2
        · rw [v3]; exact e3
        · rw [v4]
          show upS (upS (upS s1 127 k _) 125 k _) 126 k _ 125 k = _
          rw [upS_1 (by decide), upS_eq]
          omega
        · rw [v5, if_neg (by omega)]
          exact upS_eq
        · rw [v6]
          show upS (upS (upS s1 127 k _) 125 k _) 126 k _ 127 k = _
          rw [upS_1 (by decide), upS_1 (by decide), upS_eq]
        · rw [v7]; exact e 7 (by decide)
  · obtain ⟨f1, u1, u2, u3⟩ := hI
    refine sb_X7_hourOn_12 n s1 Q _ w hR1 ⟨fun _ => hq s1 hR1 f1 ⟨u1, u2, fun j hj p hp => ?_⟩, fun e => absurd e ?_⟩
    · rw [u3 j hj p hp, hrM_N (by omega)]
    · rw [u1]
      omega
  · refine ⟨⟨fun b hb => ?_, fun i i1 i2 i3 i4 i5 => ?_⟩, t1, ?_, fun j hj p hp => ?_⟩
    · funext z
      rw [upS_1 (by omega)]
    · rw [upS_2 i2]
    · rw [upS_eq, t2]
    · rw [hrM_0, upS_1 (by omega)]
      exact t3 j hj p hp
theorem c_goHours (n : Nat) (s : Nat → Nat → Int) (Q : List Vl → Sto → Prop) (np h : Int) (V : Nat → Nat → Int) (N : Nat) (hN : N ≤ 99) (hR : refs s) (ok : okT np V) (ht : twR s np h V) (hq : ∀ s1, refs s1 → frY s s1 → twR s1 np (hrN N h V).1 (hrN N h V).2 → Q [] (n, s1)) : G 120 140 147 0 [(3, 120), (1, (N : Int)), (0, 0)] [] (n, s) Q := by
  refine sb_X7_goHours_0 n s Q N hR ?_
  refine G_up N (fun k b => ∀ s1, refs s1 → (frY s s1 ∧ okT np b.2 ∧ twR s1 np b.1 b.2) → G 120 140 147 2 [(3, 120), (1, (N : Int)), (1, (k : Int))] [] (n, s1) Q) (fun _ x => (wr (x.1 + 1), hrV x.2)) (fun _ _ => True) (h, V) trivial (fun _ _ _ _ => trivial) (fun k b hk _ hg s1 hR1 hI => ?_) (fun _ s1 hR1 hI => ?_) s hR ⟨⟨fun _ _ => rfl, fun _ _ _ _ _ _ => rfl⟩, ok, ht⟩
  · obtain ⟨f1, o1, u1⟩ := hI
    rw [← wr_s hk (by omega)] at hg
    refine sb_X7_goHours_2 n s1 Q N k hR1 ⟨fun e => by omega, fun _ => ?_⟩
    refine c_hourOn n s1 _ np _ _ hR1 o1 u1 (fun s2 hR2 f2 u2 => ?_)
    exact sb_X7_goHours_11 n s2 Q N k hR2 (hg s2 hR2 ⟨frY_trans f1 f2, okT_hr o1, u2⟩)
  · exact sb_X7_goHours_2 n s1 Q N N hR1 ⟨fun _ => hq s1 hR1 hI.1 hI.2.2, fun e => by omega⟩

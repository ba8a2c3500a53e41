/-! HISTORY. -/
theorem G_ar {lo hi m pc : Nat} {L st : List Vl} {s : Sto} {Q : List Vl → Sto → Prop} {a i v : Int} {n : Nat} (he : nth (mE m) pc = some (.aaload, 1, 0, 0)) (hl : lay a.toNat = (4, n)) (h2 : 2 ≤ a) (hr : lo ≤ a.toNat ∧ a.toNat < hi) (g : 0 ≤ i ∧ i < (n : Int)) (hv : s.2 a.toNat i.toNat = v) (kk : G lo hi m (pc + 1) L ((3, v) :: st) s Q) : G lo hi m pc L ((1, i) :: (3, a) :: st) s Q := by
  refine G_rf he (z := 0) ?_ hr hv kk
  show (if 2 ≤ a ∧ (lay a.toNat).1 = 4 ∧ 0 ≤ i ∧ i < ((lay a.toNat).2 : Int) then _ else _) = _
  rw [hl, if_pos ⟨h2, rfl, g.1, g.2⟩]
theorem sb_X0_keep_0 (n : Nat) (s : Nat → Nat → Int) (Q : List Vl → Sto → Prop) (hR : refs s)
    (h : G 2 120 8 16 [(3, 33), (3, 3)] [(1, xrem (wr ((s 33 1) + (s 33 2))) 8), (3, 34)] (n, s) Q) :
    G 2 120 8 0 [(3, 33), (3, 3)] [] (n, s) Q := by
  refine G_go rfl rfl ?_
  refine G_rf rfl rfl (by decide) (hR 33 0 34 rfl) ?_
  refine G_go rfl rfl ?_
  refine G_rd rfl rfl (by decide) ?_
  refine G_go rfl rfl ?_
  refine G_rd rfl rfl (by decide) ?_
  refine G_go rfl rfl ?_
  refine G_go rfl rfl ?_
  refine G_go rfl rfl ?_
  exact h
theorem sb_X0_keep_16_0 (n : Nat) (s : Nat → Nat → Int) (Q : List Vl → Sto → Prop) (hR : refs s)
    (h : G 2 120 7 0 [(3, 35), (3, 3), (0, 0)] [] (n, s) (fun r s1 => G 2 120 8 21 [(3, 33), (3, 3)] (r ++ []) s1 Q)) :
    G 2 120 8 16 [(3, 33), (3, 3)] [(1, 0), (3, 34)] (n, s) Q := by
  refine G_ar (n := 8) rfl rfl (by decide) (by decide) (by decide) (hR 34 0 35 rfl) ?_
  refine G_go rfl rfl ?_
  exact G_call rfl rfl h
theorem sb_X0_keep_16_1 (n : Nat) (s : Nat → Nat → Int) (Q : List Vl → Sto → Prop) (hR : refs s)
    (h : G 2 120 7 0 [(3, 45), (3, 3), (0, 0)] [] (n, s) (fun r s1 => G 2 120 8 21 [(3, 33), (3, 3)] (r ++ []) s1 Q)) :
    G 2 120 8 16 [(3, 33), (3, 3)] [(1, 1), (3, 34)] (n, s) Q := by
  refine G_ar (n := 8) rfl rfl (by decide) (by decide) (by decide) (hR 34 1 45 rfl) ?_
  refine G_go rfl rfl ?_
  exact G_call rfl rfl h
theorem sb_X0_keep_16_2 (n : Nat) (s : Nat → Nat → Int) (Q : List Vl → Sto → Prop) (hR : refs s)
    (h : G 2 120 7 0 [(3, 55), (3, 3), (0, 0)] [] (n, s) (fun r s1 => G 2 120 8 21 [(3, 33), (3, 3)] (r ++ []) s1 Q)) :
    G 2 120 8 16 [(3, 33), (3, 3)] [(1, 2), (3, 34)] (n, s) Q := by
  refine G_ar (n := 8) rfl rfl (by decide) (by decide) (by decide) (hR 34 2 55 rfl) ?_
  refine G_go rfl rfl ?_
  exact G_call rfl rfl h
theorem sb_X0_keep_16_3 (n : Nat) (s : Nat → Nat → Int) (Q : List Vl → Sto → Prop) (hR : refs s)
    (h : G 2 120 7 0 [(3, 65), (3, 3), (0, 0)] [] (n, s) (fun r s1 => G 2 120 8 21 [(3, 33), (3, 3)] (r ++ []) s1 Q)) :
    G 2 120 8 16 [(3, 33), (3, 3)] [(1, 3), (3, 34)] (n, s) Q := by
  refine G_ar (n := 8) rfl rfl (by decide) (by decide) (by decide) (hR 34 3 65 rfl) ?_
  refine G_go rfl rfl ?_
  exact G_call rfl rfl h
theorem sb_X0_keep_16_4 (n : Nat) (s : Nat → Nat → Int) (Q : List Vl → Sto → Prop) (hR : refs s)
    (h : G 2 120 7 0 [(3, 75), (3, 3), (0, 0)] [] (n, s) (fun r s1 => G 2 120 8 21 [(3, 33), (3, 3)] (r ++ []) s1 Q)) :
    G 2 120 8 16 [(3, 33), (3, 3)] [(1, 4), (3, 34)] (n, s) Q := by
  refine G_ar (n := 8) rfl rfl (by decide) (by decide) (by decide) (hR 34 4 75 rfl) ?_
  refine G_go rfl rfl ?_
  exact G_call rfl rfl h
theorem sb_X0_keep_16_5 (n : Nat) (s : Nat → Nat → Int) (Q : List Vl → Sto → Prop) (hR : refs s)
    (h : G 2 120 7 0 [(3, 85), (3, 3), (0, 0)] [] (n, s) (fun r s1 => G 2 120 8 21 [(3, 33), (3, 3)] (r ++ []) s1 Q)) :
    G 2 120 8 16 [(3, 33), (3, 3)] [(1, 5), (3, 34)] (n, s) Q := by
  refine G_ar (n := 8) rfl rfl (by decide) (by decide) (by decide) (hR 34 5 85 rfl) ?_
  refine G_go rfl rfl ?_
  exact G_call rfl rfl h
theorem sb_X0_keep_16_6 (n : Nat) (s : Nat → Nat → Int) (Q : List Vl → Sto → Prop) (hR : refs s)
    (h : G 2 120 7 0 [(3, 95), (3, 3), (0, 0)] [] (n, s) (fun r s1 => G 2 120 8 21 [(3, 33), (3, 3)] (r ++ []) s1 Q)) :
    G 2 120 8 16 [(3, 33), (3, 3)] [(1, 6), (3, 34)] (n, s) Q := by
  refine G_ar (n := 8) rfl rfl (by decide) (by decide) (by decide) (hR 34 6 95 rfl) ?_
  refine G_go rfl rfl ?_
  exact G_call rfl rfl h
theorem sb_X0_keep_16_7 (n : Nat) (s : Nat → Nat → Int) (Q : List Vl → Sto → Prop) (hR : refs s)
    (h : G 2 120 7 0 [(3, 105), (3, 3), (0, 0)] [] (n, s) (fun r s1 => G 2 120 8 21 [(3, 33), (3, 3)] (r ++ []) s1 Q)) :
    G 2 120 8 16 [(3, 33), (3, 3)] [(1, 7), (3, 34)] (n, s) Q := by
  refine G_ar (n := 8) rfl rfl (by decide) (by decide) (by decide) (hR 34 7 105 rfl) ?_
  refine G_go rfl rfl ?_
  exact G_call rfl rfl h
theorem sb_X0_keep_21 (n : Nat) (s : Nat → Nat → Int) (Q : List Vl → Sto → Prop) (hR : refs s)
    (h : (8 ≤ s 33 2 → Q [] (n, upS s 33 1 (xrem (wr ((s 33 1) + 1)) 8))) ∧ (s 33 2 < 8 → Q [] (n, upS s 33 2 (wr ((s 33 2) + 1))))) :
    G 2 120 8 21 [(3, 33), (3, 3)] [] (n, s) Q := by
  refine G_go rfl rfl ?_
  refine G_rd rfl rfl (by decide) ?_
  refine G_go rfl rfl ?_
  refine G_ge rfl rfl (fun c1 => ?_) (fun c1 => ?_)
  · have h := h.1 c1
    refine G_go rfl rfl ?_
    refine G_go rfl rfl ?_
    refine G_rd rfl rfl (by decide) ?_
    refine G_go rfl rfl ?_
    refine G_go rfl rfl ?_
    refine G_go rfl rfl ?_
    refine G_go rfl rfl ?_
    refine G_wr rfl rfl (by decide) ?_
    have hR := refs_up (a := 33) (k := 1) (x := xrem (wr ((s 33 1) + 1)) 8) hR rfl
    exact G_ret rfl rfl h
  · have h := h.2 c1
    refine G_go rfl rfl ?_
    refine G_go rfl rfl ?_
    refine G_rd rfl rfl (by decide) ?_
    refine G_go rfl rfl ?_
    refine G_go rfl rfl ?_
    refine G_wr rfl rfl (by decide) ?_
    have hR := refs_up (a := 33) (k := 2) (x := wr ((s 33 2) + 1)) hR rfl
    refine G_go rfl rfl ?_
    exact G_ret rfl rfl h
theorem sb_X7_keepTurn_0 (n : Nat) (s : Nat → Nat → Int) (Q : List Vl → Sto → Prop) (hR : refs s)
    (h : (s 120 29 ≠ 8 → G 120 140 139 0 [(3, 120), (3, 138), (1, 1), (0, 0)] [] (n, s) (fun r s1 => G 120 140 181 59 [(3, 120), (0, 0)] (r ++ []) s1 Q)) ∧ (s 120 29 = 8 → G 120 140 181 12 [(3, 120), (1, 50)] [] (n, s) Q)) :
    G 120 140 181 0 [(3, 120), (0, 0)] [] (n, s) Q := by
  refine G_go rfl rfl ?_
  refine G_rd rfl rfl (by decide) ?_
  refine G_go rfl rfl ?_
  refine G_ne rfl rfl (fun c1 => ?_) (fun c1 => ?_)
  · have h := h.1 c1
    refine G_go rfl rfl ?_
    refine G_go rfl rfl ?_
    refine G_rf rfl rfl (by decide) (hR 120 28 138 rfl) ?_
    refine G_go rfl rfl ?_
    exact G_call rfl rfl h
  · have h := h.2 c1
    refine G_go rfl rfl ?_
    refine G_go rfl rfl ?_
    show G 120 140 181 12 [(3, 120), (1, 50)] [] (n, s) Q
    exact h
theorem sb_X7_keepTurn_12 (n : Nat) (s : Nat → Nat → Int) (Q : List Vl → Sto → Prop) (x1 : Int) (hR : refs s)
    (h : (400 ≤ x1 → G 120 140 139 0 [(3, 120), (3, 138), (1, 1), (0, 0)] [] (n, upS s 120 29 (wr ((s 120 29) - 1))) (fun r s1 => G 120 140 181 59 [(3, 120), (1, x1)] (r ++ []) s1 Q)) ∧ (x1 < 400 → (0 ≤ x1 ∧ x1 < 400) ∧ ((0 ≤ wr (x1 - 50) ∧ wr (x1 - 50) < 400) ∧ (G 120 140 181 12 [(3, 120), (1, wr (x1 + 1))] [] (n, upS s 137 ((wr (x1 - 50)).toNat) (s 137 x1.toNat)) Q)))) :
    G 120 140 181 12 [(3, 120), (1, x1)] [] (n, s) Q := by
  refine G_go rfl rfl ?_
  refine G_go rfl rfl ?_
  refine G_ge rfl rfl (fun c1 => ?_) (fun c1 => ?_)
  · have h := h.1 c1
    refine G_go rfl rfl ?_
    refine G_go rfl rfl ?_
    refine G_rd rfl rfl (by decide) ?_
    refine G_go rfl rfl ?_
    refine G_go rfl rfl ?_
    refine G_wr rfl rfl (by decide) ?_
    have hR := refs_up (a := 120) (k := 29) (x := wr ((s 120 29) - 1)) hR rfl
    refine G_go rfl rfl ?_
    refine G_go rfl rfl ?_
    refine G_rf rfl rfl (by decide) (hR 120 28 138 rfl) ?_
    refine G_go rfl rfl ?_
    exact G_call rfl rfl h
  · have h := h.2 c1
    refine G_go rfl rfl ?_
    refine G_rf rfl rfl (by decide) (hR 120 27 137 rfl) ?_
    refine G_go rfl rfl ?_
    refine G_go rfl rfl ?_
    refine G_go rfl rfl ?_
    refine G_go rfl rfl ?_
    refine G_rf rfl rfl (by decide) (hR 120 27 137 rfl) ?_
    refine G_go rfl rfl ?_
    obtain ⟨g2, h⟩ := h
    refine G_ir (n := 400) rfl rfl (by decide) (by decide) g2 ?_
    obtain ⟨g3, h⟩ := h
    refine G_iw (n := 400) rfl rfl (by decide) (by decide) g3 ?_
    have hR := refs_up (a := 137) (k := (wr (x1 - 50)).toNat) (x := s 137 x1.toNat) hR rfl
    refine G_go rfl rfl ?_
    refine G_go rfl rfl ?_
    exact h
theorem sb_X7_keepTurn_59 (n : Nat) (s : Nat → Nat → Int) (Q : List Vl → Sto → Prop) (w1 : Vl) (hR : refs s)
    (h : G 120 140 181 61 [(3, 120), (1, 0)] [] (n, s) Q) :
    G 120 140 181 59 [(3, 120), w1] [] (n, s) Q := by
  refine G_go rfl rfl ?_
  refine G_go rfl rfl ?_
  show G 120 140 181 61 [(3, 120), (1, 0)] [] (n, s) Q
  exact h
theorem sb_X7_keepTurn_61 (n : Nat) (s : Nat → Nat → Int) (Q : List Vl → Sto → Prop) (x1 : Int) (hR : refs s)
    (h : (50 ≤ x1 → Q [] (n, upS s 120 29 (wr ((s 120 29) + 1)))) ∧ (x1 < 50 → (0 ≤ x1 ∧ x1 < 50) ∧ ((0 ≤ wr ((wr (50 * (s 120 29))) + x1) ∧ wr ((wr (50 * (s 120 29))) + x1) < 400) ∧ (G 120 140 181 61 [(3, 120), (1, wr (x1 + 1))] [] (n, upS s 137 ((wr ((wr (50 * (s 120 29))) + x1)).toNat) (s 138 x1.toNat)) Q)))) :
    G 120 140 181 61 [(3, 120), (1, x1)] [] (n, s) Q := by
  refine G_go rfl rfl ?_
  refine G_go rfl rfl ?_
  refine G_ge rfl rfl (fun c1 => ?_) (fun c1 => ?_)
  · have h := h.1 c1
    refine G_go rfl rfl ?_
    refine G_go rfl rfl ?_
    refine G_rd rfl rfl (by decide) ?_
    refine G_go rfl rfl ?_
    refine G_go rfl rfl ?_
    refine G_wr rfl rfl (by decide) ?_
    have hR := refs_up (a := 120) (k := 29) (x := wr ((s 120 29) + 1)) hR rfl
    exact G_ret rfl rfl h
  · have h := h.2 c1
    refine G_go rfl rfl ?_
    refine G_rf rfl rfl (by decide) (hR 120 27 137 rfl) ?_
    refine G_go rfl rfl ?_
    refine G_go rfl rfl ?_
    refine G_rd rfl rfl (by decide) ?_
    refine G_go rfl rfl ?_
    refine G_go rfl rfl ?_
    refine G_go rfl rfl ?_
    refine G_go rfl rfl ?_
    refine G_rf rfl rfl (by decide) (hR 120 28 138 rfl) ?_
    refine G_go rfl rfl ?_
    obtain ⟨g2, h⟩ := h
    refine G_ir (n := 50) rfl rfl (by decide) (by decide) g2 ?_
    obtain ⟨g3, h⟩ := h
    refine G_iw (n := 400) rfl rfl (by decide) (by decide) g3 ?_
    have hR := refs_up (a := 137) (k := (wr ((wr (50 * (s 120 29))) + x1)).toNat) (x := s 138 x1.toNat) hR rfl
    refine G_go rfl rfl ?_
    refine G_go rfl rfl ?_
    exact h
theorem rlT_of {cn ch vn vh np h : Int} {C V W : Nat → Nat → Int} (o : okT np V) (hh : 0 ≤ h ∧ h ≤ 999) (e1 : cn = np) (e2 : ch = h) (e3 : vn = np) (e4 : vh = h) (ec : eqV np C V) (ew : ∀ j, j < 8 → ∀ p : Nat, (p : Int) < np → W j p = V j p) : rlT cn ch C vn vh W := by
  subst e1; subst e2; subst e3; subst e4
  exact ⟨rfl, rfl, o.1, hh, okV_ext o.2 ew, eqV_ext ec (fun _ _ _ _ => rfl) ew⟩
theorem relN_of {s t : Nat → Nat → Int} {np h : Int} {V : Nat → Nat → Int} (o : okT np V) (hh : 0 ≤ h ∧ h ≤ 999) (c : twC 3 s np h V) (w : twR t np h V) : relN s t := rlT_of o hh c.1 c.2.1 w.1 w.2.1 c.2.2 w.2.2
def kpC (s s1 : Nat → Nat → Int) (np h : Int) (V : Nat → Nat → Int) : Prop := ∃ i : Nat, i = ((s 33 1).toNat + (s 33 2).toNat) % 8 ∧ (∀ c, c ≠ 33 → (c < 35 + 10 * i ∨ 45 + 10 * i ≤ c) → s1 c = s c) ∧ twC (35 + 10 * i) s1 np h V ∧ ((s 33 2 < 8 ∧ s1 33 1 = s 33 1 ∧ s1 33 2 = s 33 2 + 1) ∨ (s 33 2 = 8 ∧ s1 33 1 = (s 33 1 + 1) % 8 ∧ s1 33 2 = 8))
theorem keep_end {s s1 : Nat → Nat → Int} {np h : Int} {V : Nat → Nat → Int} {i a : Nat} (ea : a = 35 + 10 * i) (hi : i = ((s 33 1).toNat + (s 33 2).toNat) % 8) (ho : 0 ≤ s 33 1 ∧ s 33 1 < 8) (hz : 0 ≤ s 33 2 ∧ s 33 2 ≤ 8) (c : twC 3 s np h V) (b : bcm a 3 s s1) : (8 ≤ s1 33 2 → kpC s (upS s1 33 1 (xrem (wr (s1 33 1 + 1)) 8)) np h V) ∧ (s1 33 2 < 8 → kpC s (upS s1 33 2 (wr (s1 33 2 + 1))) np h V) := by
  have e33 : s1 33 = s 33 := b.1 33 (by omega)
  have tw := bcm_tw c b
  rw [e33]
  have fr : ∀ (k : Nat) (x : Int) c, c ≠ 33 → (c < 35 + 10 * i ∨ 45 + 10 * i ≤ c) → upS s1 33 k x c = s c := fun k x c h1 h2 => by
    rw [upS_row h1]
    exact b.1 c (by omega)
  have tw2 : ∀ (k : Nat) (x : Int), twC (35 + 10 * i) (upS s1 33 k x) np h V := fun k x => by
    rw [← ea]
    obtain ⟨t1, t2, t3⟩ := tw
    refine ⟨by rw [upS_row (by omega)]; exact t1, by rw [upS_row (by omega)]; exact t2, eqV_ext t3 (fun j hj p _ => ?_) (fun _ _ _ _ => rfl)⟩
    unfold vw
    rw [upS_row (by omega)]
  refine ⟨fun g => ⟨i, hi, fr _ _, tw2 _ _, Or.inr ⟨by omega, ?_, ?_⟩⟩, fun g => ⟨i, hi, fr _ _, tw2 _ _, Or.inl ⟨g, ?_, ?_⟩⟩⟩
  · rw [upS_eq, wr_id (by omega) (by omega), xrem_nn (by omega) (by omega) (by decide) (by decide)]
  · rw [upS_2 (by decide), e33]
    omega
  · rw [upS_2 (by decide), e33]
  · rw [upS_eq, wr_id (by omega) (by omega)]
theorem c_keep (n : Nat) (s : Nat → Nat → Int) (Q : List Vl → Sto → Prop) (np h : Int) (V : Nat → Nat → Int) (hR : refs s) (o : okT np V) (ho : 0 ≤ s 33 1 ∧ s 33 1 < 8) (hz : 0 ≤ s 33 2 ∧ s 33 2 ≤ 8) (c : twC 3 s np h V) (hq : ∀ s1, refs s1 → kpC s s1 np h V → Q [] (n, s1)) : G 2 120 8 0 [(3, 33), (3, 3)] [] (n, s) Q := by
  have hnp : 0 ≤ s 3 9 ∧ s 3 9 ≤ 6 := by rw [c.1]; exact o.1
  have h5 : ∀ p : Nat, (p : Int) < s 3 9 → s 9 p = 0 ∨ s 9 p = 1 := fun p hp => by
    rw [c.1] at hp
    have e : s 9 p = V 5 p := (c.2.2 p hp).2.2.2.2.2.1
    rw [e]
    exact (o.2 p hp).2.2.2.2.2.1
  refine sb_X0_keep_0 n s Q hR ?_
  obtain ⟨i, hi⟩ : ∃ i : Nat, i = ((s 33 1).toNat + (s 33 2).toNat) % 8 := ⟨_, rfl⟩
  have ei : xrem (wr (s 33 1 + s 33 2)) 8 = (i : Int) := by
    rw [wr_id (by omega) (by omega), xrem_nn (by omega) (by omega) (by decide) (by decide)]
    omega
  rw [ei]
  have h8 : i = 0 ∨ i = 1 ∨ i = 2 ∨ i = 3 ∨ i = 4 ∨ i = 5 ∨ i = 6 ∨ i = 7 := by omega
  rcases h8 with rfl | rfl | rfl | rfl | rfl | rfl | rfl | rfl
  · refine sb_X0_keep_16_0 n s Q hR ?_
    refine c_become_35_3 n s _ hR hnp h5 (fun s1 r1 b => ?_)
    have e := keep_end (i := 0) rfl hi ho hz c b
    exact sb_X0_keep_21 n s1 Q r1 ⟨fun g => hq _ (refs_up r1 rfl) (e.1 g), fun g => hq _ (refs_up r1 rfl) (e.2 g)⟩
  · refine sb_X0_keep_16_1 n s Q hR ?_
    refine c_become_45_3 n s _ hR hnp h5 (fun s1 r1 b => ?_)
    have e := keep_end (i := 1) rfl hi ho hz c b
    exact sb_X0_keep_21 n s1 Q r1 ⟨fun g => hq _ (refs_up r1 rfl) (e.1 g), fun g => hq _ (refs_up r1 rfl) (e.2 g)⟩
  · refine sb_X0_keep_16_2 n s Q hR ?_
    refine c_become_55_3 n s _ hR hnp h5 (fun s1 r1 b => ?_)
    have e := keep_end (i := 2) rfl hi ho hz c b
    exact sb_X0_keep_21 n s1 Q r1 ⟨fun g => hq _ (refs_up r1 rfl) (e.1 g), fun g => hq _ (refs_up r1 rfl) (e.2 g)⟩
  · refine sb_X0_keep_16_3 n s Q hR ?_
    refine c_become_65_3 n s _ hR hnp h5 (fun s1 r1 b => ?_)
    have e := keep_end (i := 3) rfl hi ho hz c b
    exact sb_X0_keep_21 n s1 Q r1 ⟨fun g => hq _ (refs_up r1 rfl) (e.1 g), fun g => hq _ (refs_up r1 rfl) (e.2 g)⟩
  · refine sb_X0_keep_16_4 n s Q hR ?_
    refine c_become_75_3 n s _ hR hnp h5 (fun s1 r1 b => ?_)
    have e := keep_end (i := 4) rfl hi ho hz c b
    exact sb_X0_keep_21 n s1 Q r1 ⟨fun g => hq _ (refs_up r1 rfl) (e.1 g), fun g => hq _ (refs_up r1 rfl) (e.2 g)⟩
  · refine sb_X0_keep_16_5 n s Q hR ?_
    refine c_become_85_3 n s _ hR hnp h5 (fun s1 r1 b => ?_)
    have e := keep_end (i := 5) rfl hi ho hz c b
    exact sb_X0_keep_21 n s1 Q r1 ⟨fun g => hq _ (refs_up r1 rfl) (e.1 g), fun g => hq _ (refs_up r1 rfl) (e.2 g)⟩
  · refine sb_X0_keep_16_6 n s Q hR ?_
    refine c_become_95_3 n s _ hR hnp h5 (fun s1 r1 b => ?_)
    have e := keep_end (i := 6) rfl hi ho hz c b
    exact sb_X0_keep_21 n s1 Q r1 ⟨fun g => hq _ (refs_up r1 rfl) (e.1 g), fun g => hq _ (refs_up r1 rfl) (e.2 g)⟩
  · refine sb_X0_keep_16_7 n s Q hR ?_
    refine c_become_105_3 n s _ hR hnp h5 (fun s1 r1 b => ?_)
    have e := keep_end (i := 7) rfl hi ho hz c b
    exact sb_X0_keep_21 n s1 Q r1 ⟨fun g => hq _ (refs_up r1 rfl) (e.1 g), fun g => hq _ (refs_up r1 rfl) (e.2 g)⟩
def kpR (t t1 : Nat → Nat → Int) (np h : Int) (V : Nat → Nat → Int) : Prop := (∀ c, 128 < c → c ≠ 130 → c ≠ 137 → c ≠ 138 → t1 c = t c) ∧ (∀ k, k ≠ 0 → k ≠ 9 → k ≠ 24 → k ≠ 25 → k ≠ 26 → k ≠ 29 → t1 120 k = t 120 k) ∧ twR t1 np h V ∧ ((t 120 29 < 8 ∧ t1 120 29 = t 120 29 + 1 ∧ (∀ x : Nat, (x : Int) < 50 * t 120 29 → t1 137 x = t 137 x) ∧ twK 137 (50 * (t 120 29).toNat) t1 np h V) ∨ (t 120 29 = 8 ∧ t1 120 29 = 8 ∧ (∀ x : Nat, x < 350 → t1 137 x = t 137 (x + 50)) ∧ twK 137 350 t1 np h V))
theorem relH_keep {s t s1 t1 : Nat → Nat → Int} {np h : Int} {V : Nat → Nat → Int} (o : okT np V) (hh : 0 ≤ h ∧ h ≤ 999) (r : relH s t) (c : kpC s s1 np h V) (w : kpR t t1 np h V) : relH s1 t1 := by
  obtain ⟨i, hi, c1, c2, c3⟩ := c
  obtain ⟨w1, w2, w3, w4⟩ := w
  obtain ⟨r1, r2, r3, r4⟩ := r
  have old : ∀ (j jj a : Nat), (j : Int) < s 33 2 → a = slt s j → ((s 33 1).toNat + j) % 8 ≠ i → (∀ x : Nat, x < 50 → t1 137 (50 * jj + x) = t 137 (50 * j + x)) → rlT (s1 a 9) (s1 a 10) (vw (a + 1) s1) (t1 137 (50 * jj)) (t1 137 (50 * jj + 1)) (fw 137 (50 * jj) t1) := by
    intro j jj a hj ha hne hx
    have ha2 : a = 35 + 10 * (((s 33 1).toNat + j) % 8) := ha
    have e : ∀ c, a ≤ c → c < a + 10 → s1 c = s c := fun c g1 g2 => c1 c (by omega) (by omega)
    have q := r4 j hj
    rw [← ha] at q
    refine rlT_ext q (by rw [e a (by omega) (by omega)]) (by rw [e a (by omega) (by omega)]) (hx 0 (by decide)) (hx 1 (by decide)) (fun k hk p _ => by unfold vw; rw [e _ (by omega) (by omega)]) (fun k hk p hp => ?_)
    have hp6 : (p : Int) < 6 := by
      have := q.2.2.1.2
      omega
    unfold fw
    rw [show 50 * jj + 2 + 8 * p + k = 50 * jj + (2 + 8 * p + k) by omega, hx _ (by omega), show 50 * j + 2 + 8 * p + k = 50 * j + (2 + 8 * p + k) by omega]
  rcases c3 with ⟨z1, z2, z3⟩ | ⟨z1, z2, z3⟩
  · rcases w4 with ⟨y1, y2, y3, y4⟩ | ⟨y1, _⟩
    · refine ⟨by omega, by omega, by omega, fun j hj => ?_⟩
      have es : slt s1 j = slt s j := by
        unfold slt
        rw [z2]
      rw [es]
      by_cases hjz : (j : Int) < s 33 2
      · exact old j j _ hjz rfl (by omega) (fun x hx => y3 _ (by omega))
      · have ej : j = (t 120 29).toNat := by omega
        have ei : slt s j = 35 + 10 * i := by
          unfold slt
          rw [hi, show j = (s 33 2).toNat by omega]
        rw [ei, ej]
        exact rlT_of o hh c2.1 c2.2.1 y4.1 y4.2.1 c2.2.2 y4.2.2
    · omega
  · rcases w4 with ⟨y1, _⟩ | ⟨y1, y2, y3, y4⟩
    · omega
    · have ho : (s1 33 1).toNat = ((s 33 1).toNat + 1) % 8 := by omega
      refine ⟨by omega, by omega, by omega, fun j hj => ?_⟩
      by_cases hjz : j < 7
      · refine old (j + 1) j _ (by omega) ?_ (by omega) (fun x hx => ?_)
        · unfold slt
          rw [ho]
          omega
        · rw [y3 _ (by omega)]
          exact congrArg _ (by omega)
      · have ej : j = 7 := by omega
        have ei : slt s1 j = 35 + 10 * i := by
          unfold slt
          rw [ho]
          omega
        rw [ei, ej]
        exact rlT_of o hh c2.1 c2.2.1 y4.1 y4.2.1 c2.2.2 y4.2.2
theorem c_keepTurn (n : Nat) (t : Nat → Nat → Int) (Q : List Vl → Sto → Prop) (np h : Int) (V : Nat → Nat → Int) (hR : refs t) (o : okT np V) (hz : 0 ≤ t 120 29 ∧ t 120 29 ≤ 8) (c : twR t np h V) (hq : ∀ t1, refs t1 → kpR t t1 np h V → Q [] (n, t1)) : G 120 140 181 0 [(3, 120), (0, 0)] [] (n, t) Q := by
  have tail : ∀ (z : Nat) (w : Vl) t1, z < 8 → refs t1 → t1 120 29 = (z : Int) → twR t1 np h V → twK 138 0 t1 np h V → (∀ t2, refs t2 → (∀ c, c ≠ 120 → c ≠ 137 → t2 c = t1 c) → (∀ k, k ≠ 29 → t2 120 k = t1 120 k) → t2 120 29 = (z : Int) + 1 → (∀ x, x < 50 * z → t2 137 x = t1 137 x) → twK 137 (50 * z) t2 np h V → Q [] (n, t2)) → G 120 140 181 59 [(3, 120), w] [] (n, t1) Q := by
    intro z w t1 hz r1 e29 u1 k1 hq
    refine sb_X7_keepTurn_59 n t1 Q w r1 ?_
    refine G_up 50 (fun k _ => ∀ t2, refs t2 → ((∀ c, c ≠ 137 → t2 c = t1 c) ∧ (∀ x, x < 50 * z → t2 137 x = t1 137 x) ∧ ∀ x, x < k → t2 137 (50 * z + x) = t1 138 x) → G 120 140 181 61 [(3, 120), (1, (k : Int))] [] (n, t2) Q) (fun _ _ => ()) (fun _ _ => True) () trivial (fun _ _ _ _ => trivial) (fun k _ hk _ hg t2 r2 hI => ?_) (fun _ t2 r2 hI => ?_) t1 r1 ⟨fun _ _ => rfl, fun _ _ => rfl, fun x hx => absurd hx (by omega)⟩
    · obtain ⟨i1, i2, i3⟩ := hI
      rw [← wr_s hk (by omega)] at hg
      have e1 : t2 120 29 = (z : Int) := by rw [i1 120 (by decide), e29]
      have e138 : t2 138 = t1 138 := i1 138 (by decide)
      have ew : wr (wr (50 * (z : Int)) + (k : Int)) = ((50 * z + k : Nat) : Int) := by
        rw [wr_id (x := 50 * (z : Int)) (by omega) (by omega), wr_id (by omega) (by omega)]
        omega
      refine sb_X7_keepTurn_61 n t2 Q k r2 ?_
      rw [e1, ew, Int.toNat_natCast, Int.toNat_natCast, e138]
      refine ⟨fun e => by omega, fun _ => ⟨by omega, by omega, hg _ (refs_up r2 rfl) ⟨fun c hc => ?_, fun x hx => ?_, fun x hx => ?_⟩⟩⟩
      · rw [upS_row hc, i1 c hc]
      · rw [upS_2 (by omega), i2 x hx]
      · by_cases e : x = k
        · rw [e, upS_eq]
        · rw [upS_2 (by omega), i3 x (by omega)]
    · obtain ⟨i1, i2, i3⟩ := hI
      have e1 : t2 120 29 = (z : Int) := by rw [i1 120 (by decide), e29]
      refine sb_X7_keepTurn_61 n t2 Q _ r2 ⟨fun _ => hq _ (refs_up r2 rfl) (fun c h1 h2 => ?_) (fun k hk => ?_) ?_ (fun x hx => ?_) ?_, fun e => by omega⟩
      · rw [upS_row h1, i1 c h2]
      · rw [upS_2 hk, i1 120 (by decide)]
      · rw [upS_eq, e1, wr_id (by omega) (by omega)]
      · rw [upS_row (by decide), i2 x hx]
      · obtain ⟨k2, k3, k4⟩ := k1
        refine ⟨?_, ?_, fun j hj p hp => ?_⟩
        · rw [upS_row (by decide)]
          exact (i3 0 (by decide)).trans k2
        · rw [upS_row (by decide)]
          exact (i3 1 (by decide)).trans k3
        · have hp6 := o.1.2
          unfold fw
          rw [upS_row (by decide), show 50 * z + 2 + 8 * p + j = 50 * z + (2 + 8 * p + j) by omega, i3 _ (by omega)]
          have := k4 j hj p hp
          unfold fw at this
          rw [show 0 + 2 + 8 * p + j = 2 + 8 * p + j by omega] at this
          exact this
  refine sb_X7_keepTurn_0 n t Q hR ⟨fun e => ?_, fun e => ?_⟩
  · refine c_carryAllT_138 n t _ np h V hR o.1.2 c (fun t1 r1 f1 u1 k1 => ?_)
    have e29 : t1 120 29 = (((t 120 29).toNat : Nat) : Int) := by
      rw [f1.2 29 (by decide) (by decide) (by decide) (by decide) (by decide)]
      omega
    refine tail (t 120 29).toNat _ t1 (by omega) r1 e29 u1 k1 (fun t2 r2 a1 a2 a3 a4 a5 => hq t2 r2 ⟨fun c h1 h2 h3 h4 => ?_, fun k h1 h2 h3 h4 h5 h6 => ?_, ⟨?_, ?_, fun j hj p hp => ?_⟩, Or.inl ⟨by omega, by omega, fun x hx => ?_, a5⟩⟩)
    · rw [a1 c (by omega) h3, f1.1 c h1 h2 h4]
    · rw [a2 k h6, f1.2 k h1 h2 h3 h4 h5]
    · rw [a2 0 (by decide)]
      exact u1.1
    · rw [a2 9 (by decide)]
      exact u1.2.1
    · rw [a1 (121 + j) (by omega) (by omega)]
      exact u1.2.2 j hj p hp
    · rw [a4 x (by omega), f1.1 137 (by decide) (by decide) (by decide)]
  · refine G_up 350 (fun k _ => ∀ t1, refs t1 → ((∀ c, c ≠ 137 → t1 c = t c) ∧ (∀ x, x < k → t1 137 x = t 137 (x + 50)) ∧ ∀ x, k ≤ x → t1 137 x = t 137 x) → G 120 140 181 12 [(3, 120), (1, ((50 + k : Nat) : Int))] [] (n, t1) Q) (fun _ _ => ()) (fun _ _ => True) () trivial (fun _ _ _ _ => trivial) (fun k _ hk _ hg t1 r1 hI => ?_) (fun _ t1 r1 hI => ?_) t hR ⟨fun _ _ => rfl, fun x hx => absurd hx (by omega), fun _ _ => rfl⟩
    · obtain ⟨i1, i2, i3⟩ := hI
      have ew : wr (((50 + k : Nat) : Int) - 50) = (k : Int) := by
        rw [wr_id (by omega) (by omega)]
        omega
      have ew2 : wr (((50 + k : Nat) : Int) + 1) = ((50 + (k + 1) : Nat) : Int) := by
        rw [wr_id (by omega) (by omega)]
        omega
      rw [← ew2] at hg
      refine sb_X7_keepTurn_12 n t1 Q _ r1 ?_
      rw [ew, Int.toNat_natCast, Int.toNat_natCast]
      refine ⟨fun e => by omega, fun _ => ⟨by omega, by omega, hg _ (refs_up r1 rfl) ⟨fun c hc => ?_, fun x hx => ?_, fun x hx => ?_⟩⟩⟩
      · rw [upS_row hc, i1 c hc]
      · by_cases e : x = k
        · rw [e, upS_eq, i3 _ (by omega)]
          exact congrArg _ (by omega)
        · rw [upS_2 e, i2 x (by omega)]
      · rw [upS_2 (by omega), i3 x (by omega)]
    · obtain ⟨i1, i2, i3⟩ := hI
      refine sb_X7_keepTurn_12 n t1 Q _ r1 ⟨fun _ => ?_, fun e => by omega⟩
      have e120 : t1 120 = t 120 := i1 120 (by decide)
      rw [e120, e]
      have u0 : twR (upS t1 120 29 (wr (8 - 1))) np h V := by
        obtain ⟨c1, c2, c3⟩ := c
        refine ⟨by rw [upS_2 (by decide), e120]; exact c1, by rw [upS_2 (by decide), e120]; exact c2, fun j hj p hp => ?_⟩
        rw [upS_row (by omega), i1 (121 + j) (by omega)]
        exact c3 j hj p hp
      refine c_carryAllT_138 n _ _ np h V (refs_up r1 rfl) o.1.2 u0 (fun t2 r2 f2 u2 k2 => ?_)
      have e29 : t2 120 29 = ((7 : Nat) : Int) := by
        rw [f2.2 29 (by decide) (by decide) (by decide) (by decide) (by decide), upS_eq]
        rfl
      refine tail 7 _ t2 (by decide) r2 e29 u2 k2 (fun t3 r3 a1 a2 a3 a4 a5 => hq t3 r3 ⟨fun c h1 h2 h3 h4 => ?_, fun k h1 h2 h3 h4 h5 h6 => ?_, ⟨?_, ?_, fun j hj p hp => ?_⟩, Or.inr ⟨e, a3, fun x hx => ?_, a5⟩⟩)
      · rw [a1 c (by omega) h3, f2.1 c h1 h2 h4, upS_row (by omega), i1 c h3]
      · rw [a2 k h6, f2.2 k h1 h2 h3 h4 h5, upS_2 h6, e120]
      · rw [a2 0 (by decide)]
        exact u2.1
      · rw [a2 9 (by decide)]
        exact u2.2.1
      · rw [a1 (121 + j) (by omega) (by omega)]
        exact u2.2.2 j hj p hp
      · rw [a4 x (by omega), f2.1 137 (by decide) (by decide) (by decide), upS_row (by decide), i2 x hx]

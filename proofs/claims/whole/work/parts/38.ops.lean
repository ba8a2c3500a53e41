/-! COPIES: kept towns, the image. -/
theorem sb_X5_become_0_35_3 (n : Nat) (s : Nat → Nat → Int) (Q : List Vl → Sto → Prop) (hR : refs s)
    (h : G 2 120 7 2 [(3, 35), (3, 3), (1, 0)] [] (n, s) Q) :
    G 2 120 7 0 [(3, 35), (3, 3), (0, 0)] [] (n, s) Q := by
  refine G_go rfl rfl ?_
  refine G_go rfl rfl ?_
  show G 2 120 7 2 [(3, 35), (3, 3), (1, 0)] [] (n, s) Q
  exact h
theorem sb_X5_become_2_35_3 (n : Nat) (s : Nat → Nat → Int) (Q : List Vl → Sto → Prop) (x2 : Int) (hR : refs s)
    (h : (s 3 9 ≤ x2 → Q [] (n, upS (upS s 35 9 (s 3 9)) 35 10 (s 3 10))) ∧ (x2 < s 3 9 → (0 ≤ x2 ∧ x2 < 6) ∧ ((s 9 x2.toNat = 0 ∨ s 9 x2.toNat = 1) ∧ (G 2 120 7 2 [(3, 35), (3, 3), (1, wr (x2 + 1))] [] (n, upS (upS (upS (upS (upS (upS (upS (upS s 36 x2.toNat (s 4 x2.toNat)) 37 x2.toNat (s 5 x2.toNat)) 38 x2.toNat (s 6 x2.toNat)) 39 x2.toNat (s 7 x2.toNat)) 40 x2.toNat (s 8 x2.toNat)) 41 x2.toNat (s 9 x2.toNat)) 42 x2.toNat (s 10 x2.toNat)) 43 x2.toNat (s 11 x2.toNat)) Q)))) :
    G 2 120 7 2 [(3, 35), (3, 3), (1, x2)] [] (n, s) Q := by
  refine G_go rfl rfl ?_
  refine G_go rfl rfl ?_
  refine G_rd rfl rfl (by decide) ?_
  refine G_ge rfl rfl (fun c1 => ?_) (fun c1 => ?_)
  · have h := h.1 c1
    refine G_go rfl rfl ?_
    refine G_go rfl rfl ?_
    refine G_rd rfl rfl (by decide) ?_
    refine G_wr rfl rfl (by decide) ?_
    have hR := refs_up (a := 35) (k := 9) (x := s 3 9) hR rfl
    refine G_go rfl rfl ?_
    refine G_go rfl rfl ?_
    refine G_rd rfl rfl (by decide) ?_
    refine G_wr rfl rfl (by decide) ?_
    have hR := refs_up (a := 35) (k := 10) (x := s 3 10) hR rfl
    exact G_ret rfl rfl h
  · have h := h.2 c1
    refine G_go rfl rfl ?_
    refine G_rf rfl rfl (by decide) (hR 35 0 36 rfl) ?_
    refine G_go rfl rfl ?_
    refine G_go rfl rfl ?_
    refine G_rf rfl rfl (by decide) (hR 3 0 4 rfl) ?_
    refine G_go rfl rfl ?_
    obtain ⟨g2, h⟩ := h
    refine G_ir (n := 6) rfl rfl (by decide) (by decide) g2 ?_
    refine G_iw (n := 6) rfl rfl (by decide) (by decide) g2 ?_
    have hR := refs_up (a := 36) (k := x2.toNat) (x := s 4 x2.toNat) hR rfl
    refine G_go rfl rfl ?_
    refine G_rf rfl rfl (by decide) (hR 35 1 37 rfl) ?_
    refine G_go rfl rfl ?_
    refine G_go rfl rfl ?_
    refine G_rf rfl rfl (by decide) (hR 3 1 5 rfl) ?_
    refine G_go rfl rfl ?_
    refine G_ir (n := 6) rfl rfl (by decide) (by decide) g2 ?_
    refine G_iw (n := 6) rfl rfl (by decide) (by decide) g2 ?_
    have hR := refs_up (a := 37) (k := x2.toNat) (x := s 5 x2.toNat) hR rfl
    refine G_go rfl rfl ?_
    refine G_rf rfl rfl (by decide) (hR 35 2 38 rfl) ?_
    refine G_go rfl rfl ?_
    refine G_go rfl rfl ?_
    refine G_rf rfl rfl (by decide) (hR 3 2 6 rfl) ?_
    refine G_go rfl rfl ?_
    refine G_ir (n := 6) rfl rfl (by decide) (by decide) g2 ?_
    refine G_iw (n := 6) rfl rfl (by decide) (by decide) g2 ?_
    have hR := refs_up (a := 38) (k := x2.toNat) (x := s 6 x2.toNat) hR rfl
    refine G_go rfl rfl ?_
    refine G_rf rfl rfl (by decide) (hR 35 3 39 rfl) ?_
    refine G_go rfl rfl ?_
    refine G_go rfl rfl ?_
    refine G_rf rfl rfl (by decide) (hR 3 3 7 rfl) ?_
    refine G_go rfl rfl ?_
    refine G_ir (n := 6) rfl rfl (by decide) (by decide) g2 ?_
    refine G_iw (n := 6) rfl rfl (by decide) (by decide) g2 ?_
    have hR := refs_up (a := 39) (k := x2.toNat) (x := s 7 x2.toNat) hR rfl
    refine G_go rfl rfl ?_
    refine G_rf rfl rfl (by decide) (hR 35 4 40 rfl) ?_
    refine G_go rfl rfl ?_
    refine G_go rfl rfl ?_
    refine G_rf rfl rfl (by decide) (hR 3 4 8 rfl) ?_
    refine G_go rfl rfl ?_
    refine G_ir (n := 6) rfl rfl (by decide) (by decide) g2 ?_
    refine G_iw (n := 6) rfl rfl (by decide) (by decide) g2 ?_
    have hR := refs_up (a := 40) (k := x2.toNat) (x := s 8 x2.toNat) hR rfl
    refine G_go rfl rfl ?_
    refine G_rf rfl rfl (by decide) (hR 35 5 41 rfl) ?_
    refine G_go rfl rfl ?_
    refine G_go rfl rfl ?_
    refine G_rf rfl rfl (by decide) (hR 3 5 9 rfl) ?_
    refine G_go rfl rfl ?_
    refine G_zr (n := 6) rfl rfl (by decide) (by decide) g2 ?_
    obtain ⟨g3, h⟩ := h
    refine G_zw (n := 6) rfl rfl (by decide) (by decide) g2 g3 ?_
    have hR := refs_up (a := 41) (k := x2.toNat) (x := s 9 x2.toNat) hR rfl
    refine G_go rfl rfl ?_
    refine G_rf rfl rfl (by decide) (hR 35 6 42 rfl) ?_
    refine G_go rfl rfl ?_
    refine G_go rfl rfl ?_
    refine G_rf rfl rfl (by decide) (hR 3 6 10 rfl) ?_
    refine G_go rfl rfl ?_
    refine G_ir (n := 6) rfl rfl (by decide) (by decide) g2 ?_
    refine G_iw (n := 6) rfl rfl (by decide) (by decide) g2 ?_
    have hR := refs_up (a := 42) (k := x2.toNat) (x := s 10 x2.toNat) hR rfl
    refine G_go rfl rfl ?_
    refine G_rf rfl rfl (by decide) (hR 35 7 43 rfl) ?_
    refine G_go rfl rfl ?_
    refine G_go rfl rfl ?_
    refine G_rf rfl rfl (by decide) (hR 3 7 11 rfl) ?_
    refine G_go rfl rfl ?_
    refine G_ir (n := 6) rfl rfl (by decide) (by decide) g2 ?_
    refine G_iw (n := 6) rfl rfl (by decide) (by decide) g2 ?_
    have hR := refs_up (a := 43) (k := x2.toNat) (x := s 11 x2.toNat) hR rfl
    refine G_go rfl rfl ?_
    refine G_go rfl rfl ?_
    exact h
theorem c_become_35_3 (n : Nat) (s : Nat → Nat → Int) (Q : List Vl → Sto → Prop) (hR : refs s) (h1 : 0 ≤ s 3 9 ∧ s 3 9 ≤ 6) (h5 : ∀ p : Nat, (p : Int) < s 3 9 → s 9 p = 0 ∨ s 9 p = 1) (hq : ∀ s1, refs s1 → bcm 35 3 s s1 → Q [] (n, s1)) : G 2 120 7 0 [(3, 35), (3, 3), (0, 0)] [] (n, s) Q := by
  refine sb_X5_become_0_35_3 n s Q hR ?_
  refine G_up (s 3 9).toNat (fun k _ => ∀ s1, refs s1 → bci 35 3 s k s1 → G 2 120 7 2 [(3, 35), (3, 3), (1, (k : Int))] [] (n, s1) Q) (fun _ _ => ()) (fun _ _ => True) () trivial (fun _ _ _ _ => trivial) (fun k _ hk _ hg s1 hR1 hI => ?_) (fun _ s1 hR1 hI => ?_) s hR ⟨fun _ _ => rfl, fun _ _ p hp => absurd hp (by omega)⟩
  · have e3 : s1 3 = s 3 := hI.1 3 (by omega)
    have e9 : s1 9 = s 9 := hI.1 9 (by omega)
    have h5 := h5 k (by omega)
    rw [← e9] at h5
    rw [← wr_s hk (by omega)] at hg
    refine sb_X5_become_2_35_3 n s1 Q k hR1 ?_
    rw [Int.toNat_natCast, e3]
    exact ⟨fun e => absurd e (by omega), fun _ => ⟨by omega, h5, hg (cp1 35 3 k s1) (refs_up (refs_up (refs_up (refs_up (refs_up (refs_up (refs_up (refs_up hR1 rfl) rfl) rfl) rfl) rfl) rfl) rfl) rfl) (bci_step (by omega) hI)⟩⟩
  · have e3 : s1 3 = s 3 := hI.1 3 (by omega)
    refine sb_X5_become_2_35_3 n s1 Q _ hR1 ⟨fun _ => hq _ (refs_up (refs_up hR1 rfl) rfl) (bcm_end (by omega) hI), fun e => absurd e ?_⟩
    rw [e3]
    omega
theorem sb_X5_become_0_45_3 (n : Nat) (s : Nat → Nat → Int) (Q : List Vl → Sto → Prop) (hR : refs s)
    (h : G 2 120 7 2 [(3, 45), (3, 3), (1, 0)] [] (n, s) Q) :
    G 2 120 7 0 [(3, 45), (3, 3), (0, 0)] [] (n, s) Q := by
  refine G_go rfl rfl ?_
  refine G_go rfl rfl ?_
  show G 2 120 7 2 [(3, 45), (3, 3), (1, 0)] [] (n, s) Q
  exact h
theorem sb_X5_become_2_45_3 (n : Nat) (s : Nat → Nat → Int) (Q : List Vl → Sto → Prop) (x2 : Int) (hR : refs s)
    (h : (s 3 9 ≤ x2 → Q [] (n, upS (upS s 45 9 (s 3 9)) 45 10 (s 3 10))) ∧ (x2 < s 3 9 → (0 ≤ x2 ∧ x2 < 6) ∧ ((s 9 x2.toNat = 0 ∨ s 9 x2.toNat = 1) ∧ (G 2 120 7 2 [(3, 45), (3, 3), (1, wr (x2 + 1))] [] (n, upS (upS (upS (upS (upS (upS (upS (upS s 46 x2.toNat (s 4 x2.toNat)) 47 x2.toNat (s 5 x2.toNat)) 48 x2.toNat (s 6 x2.toNat)) 49 x2.toNat (s 7 x2.toNat)) 50 x2.toNat (s 8 x2.toNat)) 51 x2.toNat (s 9 x2.toNat)) 52 x2.toNat (s 10 x2.toNat)) 53 x2.toNat (s 11 x2.toNat)) Q)))) :
    G 2 120 7 2 [(3, 45), (3, 3), (1, x2)] [] (n, s) Q := by
  refine G_go rfl rfl ?_
  refine G_go rfl rfl ?_
  refine G_rd rfl rfl (by decide) ?_
  refine G_ge rfl rfl (fun c1 => ?_) (fun c1 => ?_)
  · have h := h.1 c1
    refine G_go rfl rfl ?_
    refine G_go rfl rfl ?_
    refine G_rd rfl rfl (by decide) ?_
    refine G_wr rfl rfl (by decide) ?_
    have hR := refs_up (a := 45) (k := 9) (x := s 3 9) hR rfl
    refine G_go rfl rfl ?_
    refine G_go rfl rfl ?_
    refine G_rd rfl rfl (by decide) ?_
    refine G_wr rfl rfl (by decide) ?_
    have hR := refs_up (a := 45) (k := 10) (x := s 3 10) hR rfl
    exact G_ret rfl rfl h
  · have h := h.2 c1
    refine G_go rfl rfl ?_
    refine G_rf rfl rfl (by decide) (hR 45 0 46 rfl) ?_
    refine G_go rfl rfl ?_
    refine G_go rfl rfl ?_
    refine G_rf rfl rfl (by decide) (hR 3 0 4 rfl) ?_
    refine G_go rfl rfl ?_
    obtain ⟨g2, h⟩ := h
    refine G_ir (n := 6) rfl rfl (by decide) (by decide) g2 ?_
    refine G_iw (n := 6) rfl rfl (by decide) (by decide) g2 ?_
    have hR := refs_up (a := 46) (k := x2.toNat) (x := s 4 x2.toNat) hR rfl
    refine G_go rfl rfl ?_
    refine G_rf rfl rfl (by decide) (hR 45 1 47 rfl) ?_
    refine G_go rfl rfl ?_
    refine G_go rfl rfl ?_
    refine G_rf rfl rfl (by decide) (hR 3 1 5 rfl) ?_
    refine G_go rfl rfl ?_
    refine G_ir (n := 6) rfl rfl (by decide) (by decide) g2 ?_
    refine G_iw (n := 6) rfl rfl (by decide) (by decide) g2 ?_
    have hR := refs_up (a := 47) (k := x2.toNat) (x := s 5 x2.toNat) hR rfl
    refine G_go rfl rfl ?_
    refine G_rf rfl rfl (by decide) (hR 45 2 48 rfl) ?_
    refine G_go rfl rfl ?_
    refine G_go rfl rfl ?_
    refine G_rf rfl rfl (by decide) (hR 3 2 6 rfl) ?_
    refine G_go rfl rfl ?_
    refine G_ir (n := 6) rfl rfl (by decide) (by decide) g2 ?_
    refine G_iw (n := 6) rfl rfl (by decide) (by decide) g2 ?_
    have hR := refs_up (a := 48) (k := x2.toNat) (x := s 6 x2.toNat) hR rfl
    refine G_go rfl rfl ?_
    refine G_rf rfl rfl (by decide) (hR 45 3 49 rfl) ?_
    refine G_go rfl rfl ?_
    refine G_go rfl rfl ?_
    refine G_rf rfl rfl (by decide) (hR 3 3 7 rfl) ?_
    refine G_go rfl rfl ?_
    refine G_ir (n := 6) rfl rfl (by decide) (by decide) g2 ?_
    refine G_iw (n := 6) rfl rfl (by decide) (by decide) g2 ?_
    have hR := refs_up (a := 49) (k := x2.toNat) (x := s 7 x2.toNat) hR rfl
    refine G_go rfl rfl ?_
    refine G_rf rfl rfl (by decide) (hR 45 4 50 rfl) ?_
    refine G_go rfl rfl ?_
    refine G_go rfl rfl ?_
    refine G_rf rfl rfl (by decide) (hR 3 4 8 rfl) ?_
    refine G_go rfl rfl ?_
    refine G_ir (n := 6) rfl rfl (by decide) (by decide) g2 ?_
    refine G_iw (n := 6) rfl rfl (by decide) (by decide) g2 ?_
    have hR := refs_up (a := 50) (k := x2.toNat) (x := s 8 x2.toNat) hR rfl
    refine G_go rfl rfl ?_
    refine G_rf rfl rfl (by decide) (hR 45 5 51 rfl) ?_
    refine G_go rfl rfl ?_
    refine G_go rfl rfl ?_
    refine G_rf rfl rfl (by decide) (hR 3 5 9 rfl) ?_
    refine G_go rfl rfl ?_
    refine G_zr (n := 6) rfl rfl (by decide) (by decide) g2 ?_
    obtain ⟨g3, h⟩ := h
    refine G_zw (n := 6) rfl rfl (by decide) (by decide) g2 g3 ?_
    have hR := refs_up (a := 51) (k := x2.toNat) (x := s 9 x2.toNat) hR rfl
    refine G_go rfl rfl ?_
    refine G_rf rfl rfl (by decide) (hR 45 6 52 rfl) ?_
    refine G_go rfl rfl ?_
    refine G_go rfl rfl ?_
    refine G_rf rfl rfl (by decide) (hR 3 6 10 rfl) ?_
    refine G_go rfl rfl ?_
    refine G_ir (n := 6) rfl rfl (by decide) (by decide) g2 ?_
    refine G_iw (n := 6) rfl rfl (by decide) (by decide) g2 ?_
    have hR := refs_up (a := 52) (k := x2.toNat) (x := s 10 x2.toNat) hR rfl
    refine G_go rfl rfl ?_
    refine G_rf rfl rfl (by decide) (hR 45 7 53 rfl) ?_
    refine G_go rfl rfl ?_
    refine G_go rfl rfl ?_
    refine G_rf rfl rfl (by decide) (hR 3 7 11 rfl) ?_
    refine G_go rfl rfl ?_
    refine G_ir (n := 6) rfl rfl (by decide) (by decide) g2 ?_
    refine G_iw (n := 6) rfl rfl (by decide) (by decide) g2 ?_
    have hR := refs_up (a := 53) (k := x2.toNat) (x := s 11 x2.toNat) hR rfl
    refine G_go rfl rfl ?_
    refine G_go rfl rfl ?_
    exact h
theorem c_become_45_3 (n : Nat) (s : Nat → Nat → Int) (Q : List Vl → Sto → Prop) (hR : refs s) (h1 : 0 ≤ s 3 9 ∧ s 3 9 ≤ 6) (h5 : ∀ p : Nat, (p : Int) < s 3 9 → s 9 p = 0 ∨ s 9 p = 1) (hq : ∀ s1, refs s1 → bcm 45 3 s s1 → Q [] (n, s1)) : G 2 120 7 0 [(3, 45), (3, 3), (0, 0)] [] (n, s) Q := by
  refine sb_X5_become_0_45_3 n s Q hR ?_
  refine G_up (s 3 9).toNat (fun k _ => ∀ s1, refs s1 → bci 45 3 s k s1 → G 2 120 7 2 [(3, 45), (3, 3), (1, (k : Int))] [] (n, s1) Q) (fun _ _ => ()) (fun _ _ => True) () trivial (fun _ _ _ _ => trivial) (fun k _ hk _ hg s1 hR1 hI => ?_) (fun _ s1 hR1 hI => ?_) s hR ⟨fun _ _ => rfl, fun _ _ p hp => absurd hp (by omega)⟩
  · have e3 : s1 3 = s 3 := hI.1 3 (by omega)
    have e9 : s1 9 = s 9 := hI.1 9 (by omega)
    have h5 := h5 k (by omega)
    rw [← e9] at h5
    rw [← wr_s hk (by omega)] at hg
    refine sb_X5_become_2_45_3 n s1 Q k hR1 ?_
    rw [Int.toNat_natCast, e3]
    exact ⟨fun e => absurd e (by omega), fun _ => ⟨by omega, h5, hg (cp1 45 3 k s1) (refs_up (refs_up (refs_up (refs_up (refs_up (refs_up (refs_up (refs_up hR1 rfl) rfl) rfl) rfl) rfl) rfl) rfl) rfl) (bci_step (by omega) hI)⟩⟩
  · have e3 : s1 3 = s 3 := hI.1 3 (by omega)
    refine sb_X5_become_2_45_3 n s1 Q _ hR1 ⟨fun _ => hq _ (refs_up (refs_up hR1 rfl) rfl) (bcm_end (by omega) hI), fun e => absurd e ?_⟩
    rw [e3]
    omega
theorem sb_X5_become_0_55_3 (n : Nat) (s : Nat → Nat → Int) (Q : List Vl → Sto → Prop) (hR : refs s)
    (h : G 2 120 7 2 [(3, 55), (3, 3), (1, 0)] [] (n, s) Q) :
    G 2 120 7 0 [(3, 55), (3, 3), (0, 0)] [] (n, s) Q := by
  refine G_go rfl rfl ?_
  refine G_go rfl rfl ?_
  show G 2 120 7 2 [(3, 55), (3, 3), (1, 0)] [] (n, s) Q
  exact h
theorem sb_X5_become_2_55_3 (n : Nat) (s : Nat → Nat → Int) (Q : List Vl → Sto → Prop) (x2 : Int) (hR : refs s)
    (h : (s 3 9 ≤ x2 → Q [] (n, upS (upS s 55 9 (s 3 9)) 55 10 (s 3 10))) ∧ (x2 < s 3 9 → (0 ≤ x2 ∧ x2 < 6) ∧ ((s 9 x2.toNat = 0 ∨ s 9 x2.toNat = 1) ∧ (G 2 120 7 2 [(3, 55), (3, 3), (1, wr (x2 + 1))] [] (n, upS (upS (upS (upS (upS (upS (upS (upS s 56 x2.toNat (s 4 x2.toNat)) 57 x2.toNat (s 5 x2.toNat)) 58 x2.toNat (s 6 x2.toNat)) 59 x2.toNat (s 7 x2.toNat)) 60 x2.toNat (s 8 x2.toNat)) 61 x2.toNat (s 9 x2.toNat)) 62 x2.toNat (s 10 x2.toNat)) 63 x2.toNat (s 11 x2.toNat)) Q)))) :
    G 2 120 7 2 [(3, 55), (3, 3), (1, x2)] [] (n, s) Q := by
  refine G_go rfl rfl ?_
  refine G_go rfl rfl ?_
  refine G_rd rfl rfl (by decide) ?_
  refine G_ge rfl rfl (fun c1 => ?_) (fun c1 => ?_)
  · have h := h.1 c1
    refine G_go rfl rfl ?_
    refine G_go rfl rfl ?_
    refine G_rd rfl rfl (by decide) ?_
    refine G_wr rfl rfl (by decide) ?_
    have hR := refs_up (a := 55) (k := 9) (x := s 3 9) hR rfl
    refine G_go rfl rfl ?_
    refine G_go rfl rfl ?_
    refine G_rd rfl rfl (by decide) ?_
    refine G_wr rfl rfl (by decide) ?_
    have hR := refs_up (a := 55) (k := 10) (x := s 3 10) hR rfl
    exact G_ret rfl rfl h
  · have h := h.2 c1
    refine G_go rfl rfl ?_
    refine G_rf rfl rfl (by decide) (hR 55 0 56 rfl) ?_
    refine G_go rfl rfl ?_
    refine G_go rfl rfl ?_
    refine G_rf rfl rfl (by decide) (hR 3 0 4 rfl) ?_
    refine G_go rfl rfl ?_
    obtain ⟨g2, h⟩ := h
    refine G_ir (n := 6) rfl rfl (by decide) (by decide) g2 ?_
    refine G_iw (n := 6) rfl rfl (by decide) (by decide) g2 ?_
    have hR := refs_up (a := 56) (k := x2.toNat) (x := s 4 x2.toNat) hR rfl
    refine G_go rfl rfl ?_
    refine G_rf rfl rfl (by decide) (hR 55 1 57 rfl) ?_
    refine G_go rfl rfl ?_
    refine G_go rfl rfl ?_
    refine G_rf rfl rfl (by decide) (hR 3 1 5 rfl) ?_
    refine G_go rfl rfl ?_
    refine G_ir (n := 6) rfl rfl (by decide) (by decide) g2 ?_
    refine G_iw (n := 6) rfl rfl (by decide) (by decide) g2 ?_
    have hR := refs_up (a := 57) (k := x2.toNat) (x := s 5 x2.toNat) hR rfl
    refine G_go rfl rfl ?_
    refine G_rf rfl rfl (by decide) (hR 55 2 58 rfl) ?_
    refine G_go rfl rfl ?_
    refine G_go rfl rfl ?_
    refine G_rf rfl rfl (by decide) (hR 3 2 6 rfl) ?_
    refine G_go rfl rfl ?_
    refine G_ir (n := 6) rfl rfl (by decide) (by decide) g2 ?_
    refine G_iw (n := 6) rfl rfl (by decide) (by decide) g2 ?_
    have hR := refs_up (a := 58) (k := x2.toNat) (x := s 6 x2.toNat) hR rfl
    refine G_go rfl rfl ?_
    refine G_rf rfl rfl (by decide) (hR 55 3 59 rfl) ?_
    refine G_go rfl rfl ?_
    refine G_go rfl rfl ?_
    refine G_rf rfl rfl (by decide) (hR 3 3 7 rfl) ?_
    refine G_go rfl rfl ?_
    refine G_ir (n := 6) rfl rfl (by decide) (by decide) g2 ?_
    refine G_iw (n := 6) rfl rfl (by decide) (by decide) g2 ?_
    have hR := refs_up (a := 59) (k := x2.toNat) (x := s 7 x2.toNat) hR rfl
    refine G_go rfl rfl ?_
    refine G_rf rfl rfl (by decide) (hR 55 4 60 rfl) ?_
    refine G_go rfl rfl ?_
    refine G_go rfl rfl ?_
    refine G_rf rfl rfl (by decide) (hR 3 4 8 rfl) ?_
    refine G_go rfl rfl ?_
    refine G_ir (n := 6) rfl rfl (by decide) (by decide) g2 ?_
    refine G_iw (n := 6) rfl rfl (by decide) (by decide) g2 ?_
    have hR := refs_up (a := 60) (k := x2.toNat) (x := s 8 x2.toNat) hR rfl
    refine G_go rfl rfl ?_
    refine G_rf rfl rfl (by decide) (hR 55 5 61 rfl) ?_
    refine G_go rfl rfl ?_
    refine G_go rfl rfl ?_
    refine G_rf rfl rfl (by decide) (hR 3 5 9 rfl) ?_
    refine G_go rfl rfl ?_
    refine G_zr (n := 6) rfl rfl (by decide) (by decide) g2 ?_
    obtain ⟨g3, h⟩ := h
    refine G_zw (n := 6) rfl rfl (by decide) (by decide) g2 g3 ?_
    have hR := refs_up (a := 61) (k := x2.toNat) (x := s 9 x2.toNat) hR rfl
    refine G_go rfl rfl ?_
    refine G_rf rfl rfl (by decide) (hR 55 6 62 rfl) ?_
    refine G_go rfl rfl ?_
    refine G_go rfl rfl ?_
    refine G_rf rfl rfl (by decide) (hR 3 6 10 rfl) ?_
    refine G_go rfl rfl ?_
    refine G_ir (n := 6) rfl rfl (by decide) (by decide) g2 ?_
    refine G_iw (n := 6) rfl rfl (by decide) (by decide) g2 ?_
    have hR := refs_up (a := 62) (k := x2.toNat) (x := s 10 x2.toNat) hR rfl
    refine G_go rfl rfl ?_
    refine G_rf rfl rfl (by decide) (hR 55 7 63 rfl) ?_
    refine G_go rfl rfl ?_
    refine G_go rfl rfl ?_
    refine G_rf rfl rfl (by decide) (hR 3 7 11 rfl) ?_
    refine G_go rfl rfl ?_
    refine G_ir (n := 6) rfl rfl (by decide) (by decide) g2 ?_
    refine G_iw (n := 6) rfl rfl (by decide) (by decide) g2 ?_
    have hR := refs_up (a := 63) (k := x2.toNat) (x := s 11 x2.toNat) hR rfl
    refine G_go rfl rfl ?_
    refine G_go rfl rfl ?_
    exact h
theorem c_become_55_3 (n : Nat) (s : Nat → Nat → Int) (Q : List Vl → Sto → Prop) (hR : refs s) (h1 : 0 ≤ s 3 9 ∧ s 3 9 ≤ 6) (h5 : ∀ p : Nat, (p : Int) < s 3 9 → s 9 p = 0 ∨ s 9 p = 1) (hq : ∀ s1, refs s1 → bcm 55 3 s s1 → Q [] (n, s1)) : G 2 120 7 0 [(3, 55), (3, 3), (0, 0)] [] (n, s) Q := by
  refine sb_X5_become_0_55_3 n s Q hR ?_
  refine G_up (s 3 9).toNat (fun k _ => ∀ s1, refs s1 → bci 55 3 s k s1 → G 2 120 7 2 [(3, 55), (3, 3), (1, (k : Int))] [] (n, s1) Q) (fun _ _ => ()) (fun _ _ => True) () trivial (fun _ _ _ _ => trivial) (fun k _ hk _ hg s1 hR1 hI => ?_) (fun _ s1 hR1 hI => ?_) s hR ⟨fun _ _ => rfl, fun _ _ p hp => absurd hp (by omega)⟩
  · have e3 : s1 3 = s 3 := hI.1 3 (by omega)
    have e9 : s1 9 = s 9 := hI.1 9 (by omega)
    have h5 := h5 k (by omega)
    rw [← e9] at h5
    rw [← wr_s hk (by omega)] at hg
    refine sb_X5_become_2_55_3 n s1 Q k hR1 ?_
    rw [Int.toNat_natCast, e3]
    exact ⟨fun e => absurd e (by omega), fun _ => ⟨by omega, h5, hg (cp1 55 3 k s1) (refs_up (refs_up (refs_up (refs_up (refs_up (refs_up (refs_up (refs_up hR1 rfl) rfl) rfl) rfl) rfl) rfl) rfl) rfl) (bci_step (by omega) hI)⟩⟩
  · have e3 : s1 3 = s 3 := hI.1 3 (by omega)
    refine sb_X5_become_2_55_3 n s1 Q _ hR1 ⟨fun _ => hq _ (refs_up (refs_up hR1 rfl) rfl) (bcm_end (by omega) hI), fun e => absurd e ?_⟩
    rw [e3]
    omega
theorem sb_X5_become_0_65_3 (n : Nat) (s : Nat → Nat → Int) (Q : List Vl → Sto → Prop) (hR : refs s)
    (h : G 2 120 7 2 [(3, 65), (3, 3), (1, 0)] [] (n, s) Q) :
    G 2 120 7 0 [(3, 65), (3, 3), (0, 0)] [] (n, s) Q := by
  refine G_go rfl rfl ?_
  refine G_go rfl rfl ?_
  show G 2 120 7 2 [(3, 65), (3, 3), (1, 0)] [] (n, s) Q
  exact h
theorem sb_X5_become_2_65_3 (n : Nat) (s : Nat → Nat → Int) (Q : List Vl → Sto → Prop) (x2 : Int) (hR : refs s)
    (h : (s 3 9 ≤ x2 → Q [] (n, upS (upS s 65 9 (s 3 9)) 65 10 (s 3 10))) ∧ (x2 < s 3 9 → (0 ≤ x2 ∧ x2 < 6) ∧ ((s 9 x2.toNat = 0 ∨ s 9 x2.toNat = 1) ∧ (G 2 120 7 2 [(3, 65), (3, 3), (1, wr (x2 + 1))] [] (n, upS (upS (upS (upS (upS (upS (upS (upS s 66 x2.toNat (s 4 x2.toNat)) 67 x2.toNat (s 5 x2.toNat)) 68 x2.toNat (s 6 x2.toNat)) 69 x2.toNat (s 7 x2.toNat)) 70 x2.toNat (s 8 x2.toNat)) 71 x2.toNat (s 9 x2.toNat)) 72 x2.toNat (s 10 x2.toNat)) 73 x2.toNat (s 11 x2.toNat)) Q)))) :
    G 2 120 7 2 [(3, 65), (3, 3), (1, x2)] [] (n, s) Q := by
  refine G_go rfl rfl ?_
  refine G_go rfl rfl ?_
  refine G_rd rfl rfl (by decide) ?_
  refine G_ge rfl rfl (fun c1 => ?_) (fun c1 => ?_)
  · have h := h.1 c1
    refine G_go rfl rfl ?_
    refine G_go rfl rfl ?_
    refine G_rd rfl rfl (by decide) ?_
    refine G_wr rfl rfl (by decide) ?_
    have hR := refs_up (a := 65) (k := 9) (x := s 3 9) hR rfl
    refine G_go rfl rfl ?_
    refine G_go rfl rfl ?_
    refine G_rd rfl rfl (by decide) ?_
    refine G_wr rfl rfl (by decide) ?_
    have hR := refs_up (a := 65) (k := 10) (x := s 3 10) hR rfl
    exact G_ret rfl rfl h
  · have h := h.2 c1
    refine G_go rfl rfl ?_
    refine G_rf rfl rfl (by decide) (hR 65 0 66 rfl) ?_
    refine G_go rfl rfl ?_
    refine G_go rfl rfl ?_
    refine G_rf rfl rfl (by decide) (hR 3 0 4 rfl) ?_
    refine G_go rfl rfl ?_
    obtain ⟨g2, h⟩ := h
    refine G_ir (n := 6) rfl rfl (by decide) (by decide) g2 ?_
    refine G_iw (n := 6) rfl rfl (by decide) (by decide) g2 ?_
    have hR := refs_up (a := 66) (k := x2.toNat) (x := s 4 x2.toNat) hR rfl
    refine G_go rfl rfl ?_
    refine G_rf rfl rfl (by decide) (hR 65 1 67 rfl) ?_
    refine G_go rfl rfl ?_
    refine G_go rfl rfl ?_
    refine G_rf rfl rfl (by decide) (hR 3 1 5 rfl) ?_
    refine G_go rfl rfl ?_
    refine G_ir (n := 6) rfl rfl (by decide) (by decide) g2 ?_
    refine G_iw (n := 6) rfl rfl (by decide) (by decide) g2 ?_
    have hR := refs_up (a := 67) (k := x2.toNat) (x := s 5 x2.toNat) hR rfl
    refine G_go rfl rfl ?_
    refine G_rf rfl rfl (by decide) (hR 65 2 68 rfl) ?_
    refine G_go rfl rfl ?_
    refine G_go rfl rfl ?_
    refine G_rf rfl rfl (by decide) (hR 3 2 6 rfl) ?_
    refine G_go rfl rfl ?_
    refine G_ir (n := 6) rfl rfl (by decide) (by decide) g2 ?_
    refine G_iw (n := 6) rfl rfl (by decide) (by decide) g2 ?_
    have hR := refs_up (a := 68) (k := x2.toNat) (x := s 6 x2.toNat) hR rfl
    refine G_go rfl rfl ?_
    refine G_rf rfl rfl (by decide) (hR 65 3 69 rfl) ?_
    refine G_go rfl rfl ?_
    refine G_go rfl rfl ?_
    refine G_rf rfl rfl (by decide) (hR 3 3 7 rfl) ?_
    refine G_go rfl rfl ?_
    refine G_ir (n := 6) rfl rfl (by decide) (by decide) g2 ?_
    refine G_iw (n := 6) rfl rfl (by decide) (by decide) g2 ?_
    have hR := refs_up (a := 69) (k := x2.toNat) (x := s 7 x2.toNat) hR rfl
    refine G_go rfl rfl ?_
    refine G_rf rfl rfl (by decide) (hR 65 4 70 rfl) ?_
    refine G_go rfl rfl ?_
    refine G_go rfl rfl ?_
    refine G_rf rfl rfl (by decide) (hR 3 4 8 rfl) ?_
    refine G_go rfl rfl ?_
    refine G_ir (n := 6) rfl rfl (by decide) (by decide) g2 ?_
    refine G_iw (n := 6) rfl rfl (by decide) (by decide) g2 ?_
    have hR := refs_up (a := 70) (k := x2.toNat) (x := s 8 x2.toNat) hR rfl
    refine G_go rfl rfl ?_
    refine G_rf rfl rfl (by decide) (hR 65 5 71 rfl) ?_
    refine G_go rfl rfl ?_
    refine G_go rfl rfl ?_
    refine G_rf rfl rfl (by decide) (hR 3 5 9 rfl) ?_
    refine G_go rfl rfl ?_
    refine G_zr (n := 6) rfl rfl (by decide) (by decide) g2 ?_
    obtain ⟨g3, h⟩ := h
    refine G_zw (n := 6) rfl rfl (by decide) (by decide) g2 g3 ?_
    have hR := refs_up (a := 71) (k := x2.toNat) (x := s 9 x2.toNat) hR rfl
    refine G_go rfl rfl ?_
    refine G_rf rfl rfl (by decide) (hR 65 6 72 rfl) ?_
    refine G_go rfl rfl ?_
    refine G_go rfl rfl ?_
    refine G_rf rfl rfl (by decide) (hR 3 6 10 rfl) ?_
    refine G_go rfl rfl ?_
    refine G_ir (n := 6) rfl rfl (by decide) (by decide) g2 ?_
    refine G_iw (n := 6) rfl rfl (by decide) (by decide) g2 ?_
    have hR := refs_up (a := 72) (k := x2.toNat) (x := s 10 x2.toNat) hR rfl
    refine G_go rfl rfl ?_
    refine G_rf rfl rfl (by decide) (hR 65 7 73 rfl) ?_
    refine G_go rfl rfl ?_
    refine G_go rfl rfl ?_
    refine G_rf rfl rfl (by decide) (hR 3 7 11 rfl) ?_
    refine G_go rfl rfl ?_
    refine G_ir (n := 6) rfl rfl (by decide) (by decide) g2 ?_
    refine G_iw (n := 6) rfl rfl (by decide) (by decide) g2 ?_
    have hR := refs_up (a := 73) (k := x2.toNat) (x := s 11 x2.toNat) hR rfl
    refine G_go rfl rfl ?_
    refine G_go rfl rfl ?_
    exact h
theorem c_become_65_3 (n : Nat) (s : Nat → Nat → Int) (Q : List Vl → Sto → Prop) (hR : refs s) (h1 : 0 ≤ s 3 9 ∧ s 3 9 ≤ 6) (h5 : ∀ p : Nat, (p : Int) < s 3 9 → s 9 p = 0 ∨ s 9 p = 1) (hq : ∀ s1, refs s1 → bcm 65 3 s s1 → Q [] (n, s1)) : G 2 120 7 0 [(3, 65), (3, 3), (0, 0)] [] (n, s) Q := by
  refine sb_X5_become_0_65_3 n s Q hR ?_
  refine G_up (s 3 9).toNat (fun k _ => ∀ s1, refs s1 → bci 65 3 s k s1 → G 2 120 7 2 [(3, 65), (3, 3), (1, (k : Int))] [] (n, s1) Q) (fun _ _ => ()) (fun _ _ => True) () trivial (fun _ _ _ _ => trivial) (fun k _ hk _ hg s1 hR1 hI => ?_) (fun _ s1 hR1 hI => ?_) s hR ⟨fun _ _ => rfl, fun _ _ p hp => absurd hp (by omega)⟩
  · have e3 : s1 3 = s 3 := hI.1 3 (by omega)
    have e9 : s1 9 = s 9 := hI.1 9 (by omega)
    have h5 := h5 k (by omega)
    rw [← e9] at h5
    rw [← wr_s hk (by omega)] at hg
    refine sb_X5_become_2_65_3 n s1 Q k hR1 ?_
    rw [Int.toNat_natCast, e3]
    exact ⟨fun e => absurd e (by omega), fun _ => ⟨by omega, h5, hg (cp1 65 3 k s1) (refs_up (refs_up (refs_up (refs_up (refs_up (refs_up (refs_up (refs_up hR1 rfl) rfl) rfl) rfl) rfl) rfl) rfl) rfl) (bci_step (by omega) hI)⟩⟩
  · have e3 : s1 3 = s 3 := hI.1 3 (by omega)
    refine sb_X5_become_2_65_3 n s1 Q _ hR1 ⟨fun _ => hq _ (refs_up (refs_up hR1 rfl) rfl) (bcm_end (by omega) hI), fun e => absurd e ?_⟩
    rw [e3]
    omega
theorem sb_X5_become_0_75_3 (n : Nat) (s : Nat → Nat → Int) (Q : List Vl → Sto → Prop) (hR : refs s)
    (h : G 2 120 7 2 [(3, 75), (3, 3), (1, 0)] [] (n, s) Q) :
    G 2 120 7 0 [(3, 75), (3, 3), (0, 0)] [] (n, s) Q := by
  refine G_go rfl rfl ?_
  refine G_go rfl rfl ?_
  show G 2 120 7 2 [(3, 75), (3, 3), (1, 0)] [] (n, s) Q
  exact h
theorem sb_X5_become_2_75_3 (n : Nat) (s : Nat → Nat → Int) (Q : List Vl → Sto → Prop) (x2 : Int) (hR : refs s)
    (h : (s 3 9 ≤ x2 → Q [] (n, upS (upS s 75 9 (s 3 9)) 75 10 (s 3 10))) ∧ (x2 < s 3 9 → (0 ≤ x2 ∧ x2 < 6) ∧ ((s 9 x2.toNat = 0 ∨ s 9 x2.toNat = 1) ∧ (G 2 120 7 2 [(3, 75), (3, 3), (1, wr (x2 + 1))] [] (n, upS (upS (upS (upS (upS (upS (upS (upS s 76 x2.toNat (s 4 x2.toNat)) 77 x2.toNat (s 5 x2.toNat)) 78 x2.toNat (s 6 x2.toNat)) 79 x2.toNat (s 7 x2.toNat)) 80 x2.toNat (s 8 x2.toNat)) 81 x2.toNat (s 9 x2.toNat)) 82 x2.toNat (s 10 x2.toNat)) 83 x2.toNat (s 11 x2.toNat)) Q)))) :
    G 2 120 7 2 [(3, 75), (3, 3), (1, x2)] [] (n, s) Q := by
  refine G_go rfl rfl ?_
  refine G_go rfl rfl ?_
  refine G_rd rfl rfl (by decide) ?_
  refine G_ge rfl rfl (fun c1 => ?_) (fun c1 => ?_)
  · have h := h.1 c1
    refine G_go rfl rfl ?_
    refine G_go rfl rfl ?_
    refine G_rd rfl rfl (by decide) ?_
    refine G_wr rfl rfl (by decide) ?_
    have hR := refs_up (a := 75) (k := 9) (x := s 3 9) hR rfl
    refine G_go rfl rfl ?_
    refine G_go rfl rfl ?_
    refine G_rd rfl rfl (by decide) ?_
    refine G_wr rfl rfl (by decide) ?_
    have hR := refs_up (a := 75) (k := 10) (x := s 3 10) hR rfl
    exact G_ret rfl rfl h
  · have h := h.2 c1
    refine G_go rfl rfl ?_
    refine G_rf rfl rfl (by decide) (hR 75 0 76 rfl) ?_
    refine G_go rfl rfl ?_
    refine G_go rfl rfl ?_
    refine G_rf rfl rfl (by decide) (hR 3 0 4 rfl) ?_
    refine G_go rfl rfl ?_
    obtain ⟨g2, h⟩ := h
    refine G_ir (n := 6) rfl rfl (by decide) (by decide) g2 ?_
    refine G_iw (n := 6) rfl rfl (by decide) (by decide) g2 ?_
    have hR := refs_up (a := 76) (k := x2.toNat) (x := s 4 x2.toNat) hR rfl
    refine G_go rfl rfl ?_
    refine G_rf rfl rfl (by decide) (hR 75 1 77 rfl) ?_
    refine G_go rfl rfl ?_
    refine G_go rfl rfl ?_
    refine G_rf rfl rfl (by decide) (hR 3 1 5 rfl) ?_
    refine G_go rfl rfl ?_
    refine G_ir (n := 6) rfl rfl (by decide) (by decide) g2 ?_
    refine G_iw (n := 6) rfl rfl (by decide) (by decide) g2 ?_
    have hR := refs_up (a := 77) (k := x2.toNat) (x := s 5 x2.toNat) hR rfl
    refine G_go rfl rfl ?_
    refine G_rf rfl rfl (by decide) (hR 75 2 78 rfl) ?_
    refine G_go rfl rfl ?_
    refine G_go rfl rfl ?_
    refine G_rf rfl rfl (by decide) (hR 3 2 6 rfl) ?_
    refine G_go rfl rfl ?_
    refine G_ir (n := 6) rfl rfl (by decide) (by decide) g2 ?_
    refine G_iw (n := 6) rfl rfl (by decide) (by decide) g2 ?_
    have hR := refs_up (a := 78) (k := x2.toNat) (x := s 6 x2.toNat) hR rfl
    refine G_go rfl rfl ?_
    refine G_rf rfl rfl (by decide) (hR 75 3 79 rfl) ?_
    refine G_go rfl rfl ?_
    refine G_go rfl rfl ?_
    refine G_rf rfl rfl (by decide) (hR 3 3 7 rfl) ?_
    refine G_go rfl rfl ?_
    refine G_ir (n := 6) rfl rfl (by decide) (by decide) g2 ?_
    refine G_iw (n := 6) rfl rfl (by decide) (by decide) g2 ?_
    have hR := refs_up (a := 79) (k := x2.toNat) (x := s 7 x2.toNat) hR rfl
    refine G_go rfl rfl ?_
    refine G_rf rfl rfl (by decide) (hR 75 4 80 rfl) ?_
    refine G_go rfl rfl ?_
    refine G_go rfl rfl ?_
    refine G_rf rfl rfl (by decide) (hR 3 4 8 rfl) ?_
    refine G_go rfl rfl ?_
    refine G_ir (n := 6) rfl rfl (by decide) (by decide) g2 ?_
    refine G_iw (n := 6) rfl rfl (by decide) (by decide) g2 ?_
    have hR := refs_up (a := 80) (k := x2.toNat) (x := s 8 x2.toNat) hR rfl
    refine G_go rfl rfl ?_
    refine G_rf rfl rfl (by decide) (hR 75 5 81 rfl) ?_
    refine G_go rfl rfl ?_
    refine G_go rfl rfl ?_
    refine G_rf rfl rfl (by decide) (hR 3 5 9 rfl) ?_
    refine G_go rfl rfl ?_
    refine G_zr (n := 6) rfl rfl (by decide) (by decide) g2 ?_
    obtain ⟨g3, h⟩ := h
    refine G_zw (n := 6) rfl rfl (by decide) (by decide) g2 g3 ?_
    have hR := refs_up (a := 81) (k := x2.toNat) (x := s 9 x2.toNat) hR rfl
    refine G_go rfl rfl ?_
    refine G_rf rfl rfl (by decide) (hR 75 6 82 rfl) ?_
    refine G_go rfl rfl ?_
    refine G_go rfl rfl ?_
    refine G_rf rfl rfl (by decide) (hR 3 6 10 rfl) ?_
    refine G_go rfl rfl ?_
    refine G_ir (n := 6) rfl rfl (by decide) (by decide) g2 ?_
    refine G_iw (n := 6) rfl rfl (by decide) (by decide) g2 ?_
    have hR := refs_up (a := 82) (k := x2.toNat) (x := s 10 x2.toNat) hR rfl
    refine G_go rfl rfl ?_
    refine G_rf rfl rfl (by decide) (hR 75 7 83 rfl) ?_
    refine G_go rfl rfl ?_
    refine G_go rfl rfl ?_
    refine G_rf rfl rfl (by decide) (hR 3 7 11 rfl) ?_
    refine G_go rfl rfl ?_
    refine G_ir (n := 6) rfl rfl (by decide) (by decide) g2 ?_
    refine G_iw (n := 6) rfl rfl (by decide) (by decide) g2 ?_
    have hR := refs_up (a := 83) (k := x2.toNat) (x := s 11 x2.toNat) hR rfl
    refine G_go rfl rfl ?_
    refine G_go rfl rfl ?_
    exact h
theorem c_become_75_3 (n : Nat) (s : Nat → Nat → Int) (Q : List Vl → Sto → Prop) (hR : refs s) (h1 : 0 ≤ s 3 9 ∧ s 3 9 ≤ 6) (h5 : ∀ p : Nat, (p : Int) < s 3 9 → s 9 p = 0 ∨ s 9 p = 1) (hq : ∀ s1, refs s1 → bcm 75 3 s s1 → Q [] (n, s1)) : G 2 120 7 0 [(3, 75), (3, 3), (0, 0)] [] (n, s) Q := by
  refine sb_X5_become_0_75_3 n s Q hR ?_
  refine G_up (s 3 9).toNat (fun k _ => ∀ s1, refs s1 → bci 75 3 s k s1 → G 2 120 7 2 [(3, 75), (3, 3), (1, (k : Int))] [] (n, s1) Q) (fun _ _ => ()) (fun _ _ => True) () trivial (fun _ _ _ _ => trivial) (fun k _ hk _ hg s1 hR1 hI => ?_) (fun _ s1 hR1 hI => ?_) s hR ⟨fun _ _ => rfl, fun _ _ p hp => absurd hp (by omega)⟩
  · have e3 : s1 3 = s 3 := hI.1 3 (by omega)
    have e9 : s1 9 = s 9 := hI.1 9 (by omega)
    have h5 := h5 k (by omega)
    rw [← e9] at h5
    rw [← wr_s hk (by omega)] at hg
    refine sb_X5_become_2_75_3 n s1 Q k hR1 ?_
    rw [Int.toNat_natCast, e3]
    exact ⟨fun e => absurd e (by omega), fun _ => ⟨by omega, h5, hg (cp1 75 3 k s1) (refs_up (refs_up (refs_up (refs_up (refs_up (refs_up (refs_up (refs_up hR1 rfl) rfl) rfl) rfl) rfl) rfl) rfl) rfl) (bci_step (by omega) hI)⟩⟩
  · have e3 : s1 3 = s 3 := hI.1 3 (by omega)
    refine sb_X5_become_2_75_3 n s1 Q _ hR1 ⟨fun _ => hq _ (refs_up (refs_up hR1 rfl) rfl) (bcm_end (by omega) hI), fun e => absurd e ?_⟩
    rw [e3]
    omega
theorem sb_X5_become_0_85_3 (n : Nat) (s : Nat → Nat → Int) (Q : List Vl → Sto → Prop) (hR : refs s)
    (h : G 2 120 7 2 [(3, 85), (3, 3), (1, 0)] [] (n, s) Q) :
    G 2 120 7 0 [(3, 85), (3, 3), (0, 0)] [] (n, s) Q := by
  refine G_go rfl rfl ?_
  refine G_go rfl rfl ?_
  show G 2 120 7 2 [(3, 85), (3, 3), (1, 0)] [] (n, s) Q
  exact h
theorem sb_X5_become_2_85_3 (n : Nat) (s : Nat → Nat → Int) (Q : List Vl → Sto → Prop) (x2 : Int) (hR : refs s)
    (h : (s 3 9 ≤ x2 → Q [] (n, upS (upS s 85 9 (s 3 9)) 85 10 (s 3 10))) ∧ (x2 < s 3 9 → (0 ≤ x2 ∧ x2 < 6) ∧ ((s 9 x2.toNat = 0 ∨ s 9 x2.toNat = 1) ∧ (G 2 120 7 2 [(3, 85), (3, 3), (1, wr (x2 + 1))] [] (n, upS (upS (upS (upS (upS (upS (upS (upS s 86 x2.toNat (s 4 x2.toNat)) 87 x2.toNat (s 5 x2.toNat)) 88 x2.toNat (s 6 x2.toNat)) 89 x2.toNat (s 7 x2.toNat)) 90 x2.toNat (s 8 x2.toNat)) 91 x2.toNat (s 9 x2.toNat)) 92 x2.toNat (s 10 x2.toNat)) 93 x2.toNat (s 11 x2.toNat)) Q)))) :
    G 2 120 7 2 [(3, 85), (3, 3), (1, x2)] [] (n, s) Q := by
  refine G_go rfl rfl ?_
  refine G_go rfl rfl ?_
  refine G_rd rfl rfl (by decide) ?_
  refine G_ge rfl rfl (fun c1 => ?_) (fun c1 => ?_)
  · have h := h.1 c1
    refine G_go rfl rfl ?_
    refine G_go rfl rfl ?_
    refine G_rd rfl rfl (by decide) ?_
    refine G_wr rfl rfl (by decide) ?_
    have hR := refs_up (a := 85) (k := 9) (x := s 3 9) hR rfl
    refine G_go rfl rfl ?_
    refine G_go rfl rfl ?_
    refine G_rd rfl rfl (by decide) ?_
    refine G_wr rfl rfl (by decide) ?_
    have hR := refs_up (a := 85) (k := 10) (x := s 3 10) hR rfl
    exact G_ret rfl rfl h
  · have h := h.2 c1
    refine G_go rfl rfl ?_
    refine G_rf rfl rfl (by decide) (hR 85 0 86 rfl) ?_
    refine G_go rfl rfl ?_
    refine G_go rfl rfl ?_
    refine G_rf rfl rfl (by decide) (hR 3 0 4 rfl) ?_
    refine G_go rfl rfl ?_
    obtain ⟨g2, h⟩ := h
    refine G_ir (n := 6) rfl rfl (by decide) (by decide) g2 ?_
    refine G_iw (n := 6) rfl rfl (by decide) (by decide) g2 ?_
    have hR := refs_up (a := 86) (k := x2.toNat) (x := s 4 x2.toNat) hR rfl
    refine G_go rfl rfl ?_
    refine G_rf rfl rfl (by decide) (hR 85 1 87 rfl) ?_
    refine G_go rfl rfl ?_
    refine G_go rfl rfl ?_
    refine G_rf rfl rfl (by decide) (hR 3 1 5 rfl) ?_
    refine G_go rfl rfl ?_
    refine G_ir (n := 6) rfl rfl (by decide) (by decide) g2 ?_
    refine G_iw (n := 6) rfl rfl (by decide) (by decide) g2 ?_
    have hR := refs_up (a := 87) (k := x2.toNat) (x := s 5 x2.toNat) hR rfl
    refine G_go rfl rfl ?_
    refine G_rf rfl rfl (by decide) (hR 85 2 88 rfl) ?_
    refine G_go rfl rfl ?_
    refine G_go rfl rfl ?_
    refine G_rf rfl rfl (by decide) (hR 3 2 6 rfl) ?_
    refine G_go rfl rfl ?_
    refine G_ir (n := 6) rfl rfl (by decide) (by decide) g2 ?_
    refine G_iw (n := 6) rfl rfl (by decide) (by decide) g2 ?_
    have hR := refs_up (a := 88) (k := x2.toNat) (x := s 6 x2.toNat) hR rfl
    refine G_go rfl rfl ?_
    refine G_rf rfl rfl (by decide) (hR 85 3 89 rfl) ?_
    refine G_go rfl rfl ?_
    refine G_go rfl rfl ?_
    refine G_rf rfl rfl (by decide) (hR 3 3 7 rfl) ?_
    refine G_go rfl rfl ?_
    refine G_ir (n := 6) rfl rfl (by decide) (by decide) g2 ?_
    refine G_iw (n := 6) rfl rfl (by decide) (by decide) g2 ?_
    have hR := refs_up (a := 89) (k := x2.toNat) (x := s 7 x2.toNat) hR rfl
    refine G_go rfl rfl ?_
    refine G_rf rfl rfl (by decide) (hR 85 4 90 rfl) ?_
    refine G_go rfl rfl ?_
    refine G_go rfl rfl ?_
    refine G_rf rfl rfl (by decide) (hR 3 4 8 rfl) ?_
    refine G_go rfl rfl ?_
    refine G_ir (n := 6) rfl rfl (by decide) (by decide) g2 ?_
    refine G_iw (n := 6) rfl rfl (by decide) (by decide) g2 ?_
    have hR := refs_up (a := 90) (k := x2.toNat) (x := s 8 x2.toNat) hR rfl
    refine G_go rfl rfl ?_
    refine G_rf rfl rfl (by decide) (hR 85 5 91 rfl) ?_
    refine G_go rfl rfl ?_
    refine G_go rfl rfl ?_
    refine G_rf rfl rfl (by decide) (hR 3 5 9 rfl) ?_
    refine G_go rfl rfl ?_
    refine G_zr (n := 6) rfl rfl (by decide) (by decide) g2 ?_
    obtain ⟨g3, h⟩ := h
    refine G_zw (n := 6) rfl rfl (by decide) (by decide) g2 g3 ?_
    have hR := refs_up (a := 91) (k := x2.toNat) (x := s 9 x2.toNat) hR rfl
    refine G_go rfl rfl ?_
    refine G_rf rfl rfl (by decide) (hR 85 6 92 rfl) ?_
    refine G_go rfl rfl ?_
    refine G_go rfl rfl ?_
    refine G_rf rfl rfl (by decide) (hR 3 6 10 rfl) ?_
    refine G_go rfl rfl ?_
    refine G_ir (n := 6) rfl rfl (by decide) (by decide) g2 ?_
    refine G_iw (n := 6) rfl rfl (by decide) (by decide) g2 ?_
    have hR := refs_up (a := 92) (k := x2.toNat) (x := s 10 x2.toNat) hR rfl
    refine G_go rfl rfl ?_
    refine G_rf rfl rfl (by decide) (hR 85 7 93 rfl) ?_
    refine G_go rfl rfl ?_
    refine G_go rfl rfl ?_
    refine G_rf rfl rfl (by decide) (hR 3 7 11 rfl) ?_
    refine G_go rfl rfl ?_
    refine G_ir (n := 6) rfl rfl (by decide) (by decide) g2 ?_
    refine G_iw (n := 6) rfl rfl (by decide) (by decide) g2 ?_
    have hR := refs_up (a := 93) (k := x2.toNat) (x := s 11 x2.toNat) hR rfl
    refine G_go rfl rfl ?_
    refine G_go rfl rfl ?_
    exact h
theorem c_become_85_3 (n : Nat) (s : Nat → Nat → Int) (Q : List Vl → Sto → Prop) (hR : refs s) (h1 : 0 ≤ s 3 9 ∧ s 3 9 ≤ 6) (h5 : ∀ p : Nat, (p : Int) < s 3 9 → s 9 p = 0 ∨ s 9 p = 1) (hq : ∀ s1, refs s1 → bcm 85 3 s s1 → Q [] (n, s1)) : G 2 120 7 0 [(3, 85), (3, 3), (0, 0)] [] (n, s) Q := by
  refine sb_X5_become_0_85_3 n s Q hR ?_
  refine G_up (s 3 9).toNat (fun k _ => ∀ s1, refs s1 → bci 85 3 s k s1 → G 2 120 7 2 [(3, 85), (3, 3), (1, (k : Int))] [] (n, s1) Q) (fun _ _ => ()) (fun _ _ => True) () trivial (fun _ _ _ _ => trivial) (fun k _ hk _ hg s1 hR1 hI => ?_) (fun _ s1 hR1 hI => ?_) s hR ⟨fun _ _ => rfl, fun _ _ p hp => absurd hp (by omega)⟩
  · have e3 : s1 3 = s 3 := hI.1 3 (by omega)
    have e9 : s1 9 = s 9 := hI.1 9 (by omega)
    have h5 := h5 k (by omega)
    rw [← e9] at h5
    rw [← wr_s hk (by omega)] at hg
    refine sb_X5_become_2_85_3 n s1 Q k hR1 ?_
    rw [Int.toNat_natCast, e3]
    exact ⟨fun e => absurd e (by omega), fun _ => ⟨by omega, h5, hg (cp1 85 3 k s1) (refs_up (refs_up (refs_up (refs_up (refs_up (refs_up (refs_up (refs_up hR1 rfl) rfl) rfl) rfl) rfl) rfl) rfl) rfl) (bci_step (by omega) hI)⟩⟩
  · have e3 : s1 3 = s 3 := hI.1 3 (by omega)
    refine sb_X5_become_2_85_3 n s1 Q _ hR1 ⟨fun _ => hq _ (refs_up (refs_up hR1 rfl) rfl) (bcm_end (by omega) hI), fun e => absurd e ?_⟩
    rw [e3]
    omega
theorem sb_X5_become_0_95_3 (n : Nat) (s : Nat → Nat → Int) (Q : List Vl → Sto → Prop) (hR : refs s)
    (h : G 2 120 7 2 [(3, 95), (3, 3), (1, 0)] [] (n, s) Q) :
    G 2 120 7 0 [(3, 95), (3, 3), (0, 0)] [] (n, s) Q := by
  refine G_go rfl rfl ?_
  refine G_go rfl rfl ?_
  show G 2 120 7 2 [(3, 95), (3, 3), (1, 0)] [] (n, s) Q
  exact h
theorem sb_X5_become_2_95_3 (n : Nat) (s : Nat → Nat → Int) (Q : List Vl → Sto → Prop) (x2 : Int) (hR : refs s)
    (h : (s 3 9 ≤ x2 → Q [] (n, upS (upS s 95 9 (s 3 9)) 95 10 (s 3 10))) ∧ (x2 < s 3 9 → (0 ≤ x2 ∧ x2 < 6) ∧ ((s 9 x2.toNat = 0 ∨ s 9 x2.toNat = 1) ∧ (G 2 120 7 2 [(3, 95), (3, 3), (1, wr (x2 + 1))] [] (n, upS (upS (upS (upS (upS (upS (upS (upS s 96 x2.toNat (s 4 x2.toNat)) 97 x2.toNat (s 5 x2.toNat)) 98 x2.toNat (s 6 x2.toNat)) 99 x2.toNat (s 7 x2.toNat)) 100 x2.toNat (s 8 x2.toNat)) 101 x2.toNat (s 9 x2.toNat)) 102 x2.toNat (s 10 x2.toNat)) 103 x2.toNat (s 11 x2.toNat)) Q)))) :
    G 2 120 7 2 [(3, 95), (3, 3), (1, x2)] [] (n, s) Q := by
  refine G_go rfl rfl ?_
  refine G_go rfl rfl ?_
  refine G_rd rfl rfl (by decide) ?_
  refine G_ge rfl rfl (fun c1 => ?_) (fun c1 => ?_)
  · have h := h.1 c1
    refine G_go rfl rfl ?_
    refine G_go rfl rfl ?_
    refine G_rd rfl rfl (by decide) ?_
    refine G_wr rfl rfl (by decide) ?_
    have hR := refs_up (a := 95) (k := 9) (x := s 3 9) hR rfl
    refine G_go rfl rfl ?_
    refine G_go rfl rfl ?_
    refine G_rd rfl rfl (by decide) ?_
    refine G_wr rfl rfl (by decide) ?_
    have hR := refs_up (a := 95) (k := 10) (x := s 3 10) hR rfl
    exact G_ret rfl rfl h
  · have h := h.2 c1
    refine G_go rfl rfl ?_
    refine G_rf rfl rfl (by decide) (hR 95 0 96 rfl) ?_
    refine G_go rfl rfl ?_
    refine G_go rfl rfl ?_
    refine G_rf rfl rfl (by decide) (hR 3 0 4 rfl) ?_
    refine G_go rfl rfl ?_
    obtain ⟨g2, h⟩ := h
    refine G_ir (n := 6) rfl rfl (by decide) (by decide) g2 ?_
    refine G_iw (n := 6) rfl rfl (by decide) (by decide) g2 ?_
    have hR := refs_up (a := 96) (k := x2.toNat) (x := s 4 x2.toNat) hR rfl
    refine G_go rfl rfl ?_
    refine G_rf rfl rfl (by decide) (hR 95 1 97 rfl) ?_
    refine G_go rfl rfl ?_
    refine G_go rfl rfl ?_
    refine G_rf rfl rfl (by decide) (hR 3 1 5 rfl) ?_
    refine G_go rfl rfl ?_
    refine G_ir (n := 6) rfl rfl (by decide) (by decide) g2 ?_
    refine G_iw (n := 6) rfl rfl (by decide) (by decide) g2 ?_
    have hR := refs_up (a := 97) (k := x2.toNat) (x := s 5 x2.toNat) hR rfl
    refine G_go rfl rfl ?_
    refine G_rf rfl rfl (by decide) (hR 95 2 98 rfl) ?_
    refine G_go rfl rfl ?_
    refine G_go rfl rfl ?_
    refine G_rf rfl rfl (by decide) (hR 3 2 6 rfl) ?_
    refine G_go rfl rfl ?_
    refine G_ir (n := 6) rfl rfl (by decide) (by decide) g2 ?_
    refine G_iw (n := 6) rfl rfl (by decide) (by decide) g2 ?_
    have hR := refs_up (a := 98) (k := x2.toNat) (x := s 6 x2.toNat) hR rfl
    refine G_go rfl rfl ?_
    refine G_rf rfl rfl (by decide) (hR 95 3 99 rfl) ?_
    refine G_go rfl rfl ?_
    refine G_go rfl rfl ?_
    refine G_rf rfl rfl (by decide) (hR 3 3 7 rfl) ?_
    refine G_go rfl rfl ?_
    refine G_ir (n := 6) rfl rfl (by decide) (by decide) g2 ?_
    refine G_iw (n := 6) rfl rfl (by decide) (by decide) g2 ?_
    have hR := refs_up (a := 99) (k := x2.toNat) (x := s 7 x2.toNat) hR rfl
    refine G_go rfl rfl ?_
    refine G_rf rfl rfl (by decide) (hR 95 4 100 rfl) ?_
    refine G_go rfl rfl ?_
    refine G_go rfl rfl ?_
    refine G_rf rfl rfl (by decide) (hR 3 4 8 rfl) ?_
    refine G_go rfl rfl ?_
    refine G_ir (n := 6) rfl rfl (by decide) (by decide) g2 ?_
    refine G_iw (n := 6) rfl rfl (by decide) (by decide) g2 ?_
    have hR := refs_up (a := 100) (k := x2.toNat) (x := s 8 x2.toNat) hR rfl
    refine G_go rfl rfl ?_
    refine G_rf rfl rfl (by decide) (hR 95 5 101 rfl) ?_
    refine G_go rfl rfl ?_
    refine G_go rfl rfl ?_
    refine G_rf rfl rfl (by decide) (hR 3 5 9 rfl) ?_
    refine G_go rfl rfl ?_
    refine G_zr (n := 6) rfl rfl (by decide) (by decide) g2 ?_
    obtain ⟨g3, h⟩ := h
    refine G_zw (n := 6) rfl rfl (by decide) (by decide) g2 g3 ?_
    have hR := refs_up (a := 101) (k := x2.toNat) (x := s 9 x2.toNat) hR rfl
    refine G_go rfl rfl ?_
    refine G_rf rfl rfl (by decide) (hR 95 6 102 rfl) ?_
    refine G_go rfl rfl ?_
    refine G_go rfl rfl ?_
    refine G_rf rfl rfl (by decide) (hR 3 6 10 rfl) ?_
    refine G_go rfl rfl ?_
    refine G_ir (n := 6) rfl rfl (by decide) (by decide) g2 ?_
    refine G_iw (n := 6) rfl rfl (by decide) (by decide) g2 ?_
    have hR := refs_up (a := 102) (k := x2.toNat) (x := s 10 x2.toNat) hR rfl
    refine G_go rfl rfl ?_
    refine G_rf rfl rfl (by decide) (hR 95 7 103 rfl) ?_
    refine G_go rfl rfl ?_
    refine G_go rfl rfl ?_
    refine G_rf rfl rfl (by decide) (hR 3 7 11 rfl) ?_
    refine G_go rfl rfl ?_
    refine G_ir (n := 6) rfl rfl (by decide) (by decide) g2 ?_
    refine G_iw (n := 6) rfl rfl (by decide) (by decide) g2 ?_
    have hR := refs_up (a := 103) (k := x2.toNat) (x := s 11 x2.toNat) hR rfl
    refine G_go rfl rfl ?_
    refine G_go rfl rfl ?_
    exact h
theorem c_become_95_3 (n : Nat) (s : Nat → Nat → Int) (Q : List Vl → Sto → Prop) (hR : refs s) (h1 : 0 ≤ s 3 9 ∧ s 3 9 ≤ 6) (h5 : ∀ p : Nat, (p : Int) < s 3 9 → s 9 p = 0 ∨ s 9 p = 1) (hq : ∀ s1, refs s1 → bcm 95 3 s s1 → Q [] (n, s1)) : G 2 120 7 0 [(3, 95), (3, 3), (0, 0)] [] (n, s) Q := by
  refine sb_X5_become_0_95_3 n s Q hR ?_
  refine G_up (s 3 9).toNat (fun k _ => ∀ s1, refs s1 → bci 95 3 s k s1 → G 2 120 7 2 [(3, 95), (3, 3), (1, (k : Int))] [] (n, s1) Q) (fun _ _ => ()) (fun _ _ => True) () trivial (fun _ _ _ _ => trivial) (fun k _ hk _ hg s1 hR1 hI => ?_) (fun _ s1 hR1 hI => ?_) s hR ⟨fun _ _ => rfl, fun _ _ p hp => absurd hp (by omega)⟩
  · have e3 : s1 3 = s 3 := hI.1 3 (by omega)
    have e9 : s1 9 = s 9 := hI.1 9 (by omega)
    have h5 := h5 k (by omega)
    rw [← e9] at h5
    rw [← wr_s hk (by omega)] at hg
    refine sb_X5_become_2_95_3 n s1 Q k hR1 ?_
    rw [Int.toNat_natCast, e3]
    exact ⟨fun e => absurd e (by omega), fun _ => ⟨by omega, h5, hg (cp1 95 3 k s1) (refs_up (refs_up (refs_up (refs_up (refs_up (refs_up (refs_up (refs_up hR1 rfl) rfl) rfl) rfl) rfl) rfl) rfl) rfl) (bci_step (by omega) hI)⟩⟩
  · have e3 : s1 3 = s 3 := hI.1 3 (by omega)
    refine sb_X5_become_2_95_3 n s1 Q _ hR1 ⟨fun _ => hq _ (refs_up (refs_up hR1 rfl) rfl) (bcm_end (by omega) hI), fun e => absurd e ?_⟩
    rw [e3]
    omega
theorem sb_X5_become_0_105_3 (n : Nat) (s : Nat → Nat → Int) (Q : List Vl → Sto → Prop) (hR : refs s)
    (h : G 2 120 7 2 [(3, 105), (3, 3), (1, 0)] [] (n, s) Q) :
    G 2 120 7 0 [(3, 105), (3, 3), (0, 0)] [] (n, s) Q := by
  refine G_go rfl rfl ?_
  refine G_go rfl rfl ?_
  show G 2 120 7 2 [(3, 105), (3, 3), (1, 0)] [] (n, s) Q
  exact h
theorem sb_X5_become_2_105_3 (n : Nat) (s : Nat → Nat → Int) (Q : List Vl → Sto → Prop) (x2 : Int) (hR : refs s)
    (h : (s 3 9 ≤ x2 → Q [] (n, upS (upS s 105 9 (s 3 9)) 105 10 (s 3 10))) ∧ (x2 < s 3 9 → (0 ≤ x2 ∧ x2 < 6) ∧ ((s 9 x2.toNat = 0 ∨ s 9 x2.toNat = 1) ∧ (G 2 120 7 2 [(3, 105), (3, 3), (1, wr (x2 + 1))] [] (n, upS (upS (upS (upS (upS (upS (upS (upS s 106 x2.toNat (s 4 x2.toNat)) 107 x2.toNat (s 5 x2.toNat)) 108 x2.toNat (s 6 x2.toNat)) 109 x2.toNat (s 7 x2.toNat)) 110 x2.toNat (s 8 x2.toNat)) 111 x2.toNat (s 9 x2.toNat)) 112 x2.toNat (s 10 x2.toNat)) 113 x2.toNat (s 11 x2.toNat)) Q)))) :
    G 2 120 7 2 [(3, 105), (3, 3), (1, x2)] [] (n, s) Q := by
  refine G_go rfl rfl ?_
  refine G_go rfl rfl ?_
  refine G_rd rfl rfl (by decide) ?_
  refine G_ge rfl rfl (fun c1 => ?_) (fun c1 => ?_)
  · have h := h.1 c1
    refine G_go rfl rfl ?_
    refine G_go rfl rfl ?_
    refine G_rd rfl rfl (by decide) ?_
    refine G_wr rfl rfl (by decide) ?_
    have hR := refs_up (a := 105) (k := 9) (x := s 3 9) hR rfl
    refine G_go rfl rfl ?_
    refine G_go rfl rfl ?_
    refine G_rd rfl rfl (by decide) ?_
    refine G_wr rfl rfl (by decide) ?_
    have hR := refs_up (a := 105) (k := 10) (x := s 3 10) hR rfl
    exact G_ret rfl rfl h
  · have h := h.2 c1
    refine G_go rfl rfl ?_
    refine G_rf rfl rfl (by decide) (hR 105 0 106 rfl) ?_
    refine G_go rfl rfl ?_
    refine G_go rfl rfl ?_
    refine G_rf rfl rfl (by decide) (hR 3 0 4 rfl) ?_
    refine G_go rfl rfl ?_
    obtain ⟨g2, h⟩ := h
    refine G_ir (n := 6) rfl rfl (by decide) (by decide) g2 ?_
    refine G_iw (n := 6) rfl rfl (by decide) (by decide) g2 ?_
    have hR := refs_up (a := 106) (k := x2.toNat) (x := s 4 x2.toNat) hR rfl
    refine G_go rfl rfl ?_
    refine G_rf rfl rfl (by decide) (hR 105 1 107 rfl) ?_
    refine G_go rfl rfl ?_
    refine G_go rfl rfl ?_
    refine G_rf rfl rfl (by decide) (hR 3 1 5 rfl) ?_
    refine G_go rfl rfl ?_
    refine G_ir (n := 6) rfl rfl (by decide) (by decide) g2 ?_
    refine G_iw (n := 6) rfl rfl (by decide) (by decide) g2 ?_
    have hR := refs_up (a := 107) (k := x2.toNat) (x := s 5 x2.toNat) hR rfl
    refine G_go rfl rfl ?_
    refine G_rf rfl rfl (by decide) (hR 105 2 108 rfl) ?_
    refine G_go rfl rfl ?_
    refine G_go rfl rfl ?_
    refine G_rf rfl rfl (by decide) (hR 3 2 6 rfl) ?_
    refine G_go rfl rfl ?_
    refine G_ir (n := 6) rfl rfl (by decide) (by decide) g2 ?_
    refine G_iw (n := 6) rfl rfl (by decide) (by decide) g2 ?_
    have hR := refs_up (a := 108) (k := x2.toNat) (x := s 6 x2.toNat) hR rfl
    refine G_go rfl rfl ?_
    refine G_rf rfl rfl (by decide) (hR 105 3 109 rfl) ?_
    refine G_go rfl rfl ?_
    refine G_go rfl rfl ?_
    refine G_rf rfl rfl (by decide) (hR 3 3 7 rfl) ?_
    refine G_go rfl rfl ?_
    refine G_ir (n := 6) rfl rfl (by decide) (by decide) g2 ?_
    refine G_iw (n := 6) rfl rfl (by decide) (by decide) g2 ?_
    have hR := refs_up (a := 109) (k := x2.toNat) (x := s 7 x2.toNat) hR rfl
    refine G_go rfl rfl ?_
    refine G_rf rfl rfl (by decide) (hR 105 4 110 rfl) ?_
    refine G_go rfl rfl ?_
    refine G_go rfl rfl ?_
    refine G_rf rfl rfl (by decide) (hR 3 4 8 rfl) ?_
    refine G_go rfl rfl ?_
    refine G_ir (n := 6) rfl rfl (by decide) (by decide) g2 ?_
    refine G_iw (n := 6) rfl rfl (by decide) (by decide) g2 ?_
    have hR := refs_up (a := 110) (k := x2.toNat) (x := s 8 x2.toNat) hR rfl
    refine G_go rfl rfl ?_
    refine G_rf rfl rfl (by decide) (hR 105 5 111 rfl) ?_
    refine G_go rfl rfl ?_
    refine G_go rfl rfl ?_
    refine G_rf rfl rfl (by decide) (hR 3 5 9 rfl) ?_
    refine G_go rfl rfl ?_
    refine G_zr (n := 6) rfl rfl (by decide) (by decide) g2 ?_
    obtain ⟨g3, h⟩ := h
    refine G_zw (n := 6) rfl rfl (by decide) (by decide) g2 g3 ?_
    have hR := refs_up (a := 111) (k := x2.toNat) (x := s 9 x2.toNat) hR rfl
    refine G_go rfl rfl ?_
    refine G_rf rfl rfl (by decide) (hR 105 6 112 rfl) ?_
    refine G_go rfl rfl ?_
    refine G_go rfl rfl ?_
    refine G_rf rfl rfl (by decide) (hR 3 6 10 rfl) ?_
    refine G_go rfl rfl ?_
    refine G_ir (n := 6) rfl rfl (by decide) (by decide) g2 ?_
    refine G_iw (n := 6) rfl rfl (by decide) (by decide) g2 ?_
    have hR := refs_up (a := 112) (k := x2.toNat) (x := s 10 x2.toNat) hR rfl
    refine G_go rfl rfl ?_
    refine G_rf rfl rfl (by decide) (hR 105 7 113 rfl) ?_
    refine G_go rfl rfl ?_
    refine G_go rfl rfl ?_
    refine G_rf rfl rfl (by decide) (hR 3 7 11 rfl) ?_
    refine G_go rfl rfl ?_
    refine G_ir (n := 6) rfl rfl (by decide) (by decide) g2 ?_
    refine G_iw (n := 6) rfl rfl (by decide) (by decide) g2 ?_
    have hR := refs_up (a := 113) (k := x2.toNat) (x := s 11 x2.toNat) hR rfl
    refine G_go rfl rfl ?_
    refine G_go rfl rfl ?_
    exact h
theorem c_become_105_3 (n : Nat) (s : Nat → Nat → Int) (Q : List Vl → Sto → Prop) (hR : refs s) (h1 : 0 ≤ s 3 9 ∧ s 3 9 ≤ 6) (h5 : ∀ p : Nat, (p : Int) < s 3 9 → s 9 p = 0 ∨ s 9 p = 1) (hq : ∀ s1, refs s1 → bcm 105 3 s s1 → Q [] (n, s1)) : G 2 120 7 0 [(3, 105), (3, 3), (0, 0)] [] (n, s) Q := by
  refine sb_X5_become_0_105_3 n s Q hR ?_
  refine G_up (s 3 9).toNat (fun k _ => ∀ s1, refs s1 → bci 105 3 s k s1 → G 2 120 7 2 [(3, 105), (3, 3), (1, (k : Int))] [] (n, s1) Q) (fun _ _ => ()) (fun _ _ => True) () trivial (fun _ _ _ _ => trivial) (fun k _ hk _ hg s1 hR1 hI => ?_) (fun _ s1 hR1 hI => ?_) s hR ⟨fun _ _ => rfl, fun _ _ p hp => absurd hp (by omega)⟩
  · have e3 : s1 3 = s 3 := hI.1 3 (by omega)
    have e9 : s1 9 = s 9 := hI.1 9 (by omega)
    have h5 := h5 k (by omega)
    rw [← e9] at h5
    rw [← wr_s hk (by omega)] at hg
    refine sb_X5_become_2_105_3 n s1 Q k hR1 ?_
    rw [Int.toNat_natCast, e3]
    exact ⟨fun e => absurd e (by omega), fun _ => ⟨by omega, h5, hg (cp1 105 3 k s1) (refs_up (refs_up (refs_up (refs_up (refs_up (refs_up (refs_up (refs_up hR1 rfl) rfl) rfl) rfl) rfl) rfl) rfl) rfl) (bci_step (by omega) hI)⟩⟩
  · have e3 : s1 3 = s 3 := hI.1 3 (by omega)
    refine sb_X5_become_2_105_3 n s1 Q _ hR1 ⟨fun _ => hq _ (refs_up (refs_up hR1 rfl) rfl) (bcm_end (by omega) hI), fun e => absurd e ?_⟩
    rw [e3]
    omega
theorem sb_X5_become_0_3_35 (n : Nat) (s : Nat → Nat → Int) (Q : List Vl → Sto → Prop) (hR : refs s)
    (h : G 2 120 7 2 [(3, 3), (3, 35), (1, 0)] [] (n, s) Q) :
    G 2 120 7 0 [(3, 3), (3, 35), (0, 0)] [] (n, s) Q := by
  refine G_go rfl rfl ?_
  refine G_go rfl rfl ?_
  show G 2 120 7 2 [(3, 3), (3, 35), (1, 0)] [] (n, s) Q
  exact h
theorem sb_X5_become_2_3_35 (n : Nat) (s : Nat → Nat → Int) (Q : List Vl → Sto → Prop) (x2 : Int) (hR : refs s)
    (h : (s 35 9 ≤ x2 → Q [] (n, upS (upS s 3 9 (s 35 9)) 3 10 (s 35 10))) ∧ (x2 < s 35 9 → (0 ≤ x2 ∧ x2 < 6) ∧ ((s 41 x2.toNat = 0 ∨ s 41 x2.toNat = 1) ∧ (G 2 120 7 2 [(3, 3), (3, 35), (1, wr (x2 + 1))] [] (n, upS (upS (upS (upS (upS (upS (upS (upS s 4 x2.toNat (s 36 x2.toNat)) 5 x2.toNat (s 37 x2.toNat)) 6 x2.toNat (s 38 x2.toNat)) 7 x2.toNat (s 39 x2.toNat)) 8 x2.toNat (s 40 x2.toNat)) 9 x2.toNat (s 41 x2.toNat)) 10 x2.toNat (s 42 x2.toNat)) 11 x2.toNat (s 43 x2.toNat)) Q)))) :
    G 2 120 7 2 [(3, 3), (3, 35), (1, x2)] [] (n, s) Q := by
  refine G_go rfl rfl ?_
  refine G_go rfl rfl ?_
  refine G_rd rfl rfl (by decide) ?_
  refine G_ge rfl rfl (fun c1 => ?_) (fun c1 => ?_)
  · have h := h.1 c1
    refine G_go rfl rfl ?_
    refine G_go rfl rfl ?_
    refine G_rd rfl rfl (by decide) ?_
    refine G_wr rfl rfl (by decide) ?_
    have hR := refs_up (a := 3) (k := 9) (x := s 35 9) hR rfl
    refine G_go rfl rfl ?_
    refine G_go rfl rfl ?_
    refine G_rd rfl rfl (by decide) ?_
    refine G_wr rfl rfl (by decide) ?_
    have hR := refs_up (a := 3) (k := 10) (x := s 35 10) hR rfl
    exact G_ret rfl rfl h
  · have h := h.2 c1
    refine G_go rfl rfl ?_
    refine G_rf rfl rfl (by decide) (hR 3 0 4 rfl) ?_
    refine G_go rfl rfl ?_
    refine G_go rfl rfl ?_
    refine G_rf rfl rfl (by decide) (hR 35 0 36 rfl) ?_
    refine G_go rfl rfl ?_
    obtain ⟨g2, h⟩ := h
    refine G_ir (n := 6) rfl rfl (by decide) (by decide) g2 ?_
    refine G_iw (n := 6) rfl rfl (by decide) (by decide) g2 ?_
    have hR := refs_up (a := 4) (k := x2.toNat) (x := s 36 x2.toNat) hR rfl
    refine G_go rfl rfl ?_
    refine G_rf rfl rfl (by decide) (hR 3 1 5 rfl) ?_
    refine G_go rfl rfl ?_
    refine G_go rfl rfl ?_
    refine G_rf rfl rfl (by decide) (hR 35 1 37 rfl) ?_
    refine G_go rfl rfl ?_
    refine G_ir (n := 6) rfl rfl (by decide) (by decide) g2 ?_
    refine G_iw (n := 6) rfl rfl (by decide) (by decide) g2 ?_
    have hR := refs_up (a := 5) (k := x2.toNat) (x := s 37 x2.toNat) hR rfl
    refine G_go rfl rfl ?_
    refine G_rf rfl rfl (by decide) (hR 3 2 6 rfl) ?_
    refine G_go rfl rfl ?_
    refine G_go rfl rfl ?_
    refine G_rf rfl rfl (by decide) (hR 35 2 38 rfl) ?_
    refine G_go rfl rfl ?_
    refine G_ir (n := 6) rfl rfl (by decide) (by decide) g2 ?_
    refine G_iw (n := 6) rfl rfl (by decide) (by decide) g2 ?_
    have hR := refs_up (a := 6) (k := x2.toNat) (x := s 38 x2.toNat) hR rfl
    refine G_go rfl rfl ?_
    refine G_rf rfl rfl (by decide) (hR 3 3 7 rfl) ?_
    refine G_go rfl rfl ?_
    refine G_go rfl rfl ?_
    refine G_rf rfl rfl (by decide) (hR 35 3 39 rfl) ?_
    refine G_go rfl rfl ?_
    refine G_ir (n := 6) rfl rfl (by decide) (by decide) g2 ?_
    refine G_iw (n := 6) rfl rfl (by decide) (by decide) g2 ?_
    have hR := refs_up (a := 7) (k := x2.toNat) (x := s 39 x2.toNat) hR rfl
    refine G_go rfl rfl ?_
    refine G_rf rfl rfl (by decide) (hR 3 4 8 rfl) ?_
    refine G_go rfl rfl ?_
    refine G_go rfl rfl ?_
    refine G_rf rfl rfl (by decide) (hR 35 4 40 rfl) ?_
    refine G_go rfl rfl ?_
    refine G_ir (n := 6) rfl rfl (by decide) (by decide) g2 ?_
    refine G_iw (n := 6) rfl rfl (by decide) (by decide) g2 ?_
    have hR := refs_up (a := 8) (k := x2.toNat) (x := s 40 x2.toNat) hR rfl
    refine G_go rfl rfl ?_
    refine G_rf rfl rfl (by decide) (hR 3 5 9 rfl) ?_
    refine G_go rfl rfl ?_
    refine G_go rfl rfl ?_
    refine G_rf rfl rfl (by decide) (hR 35 5 41 rfl) ?_
    refine G_go rfl rfl ?_
    refine G_zr (n := 6) rfl rfl (by decide) (by decide) g2 ?_
    obtain ⟨g3, h⟩ := h
    refine G_zw (n := 6) rfl rfl (by decide) (by decide) g2 g3 ?_
    have hR := refs_up (a := 9) (k := x2.toNat) (x := s 41 x2.toNat) hR rfl
    refine G_go rfl rfl ?_
    refine G_rf rfl rfl (by decide) (hR 3 6 10 rfl) ?_
    refine G_go rfl rfl ?_
    refine G_go rfl rfl ?_
    refine G_rf rfl rfl (by decide) (hR 35 6 42 rfl) ?_
    refine G_go rfl rfl ?_
    refine G_ir (n := 6) rfl rfl (by decide) (by decide) g2 ?_
    refine G_iw (n := 6) rfl rfl (by decide) (by decide) g2 ?_
    have hR := refs_up (a := 10) (k := x2.toNat) (x := s 42 x2.toNat) hR rfl
    refine G_go rfl rfl ?_
    refine G_rf rfl rfl (by decide) (hR 3 7 11 rfl) ?_
    refine G_go rfl rfl ?_
    refine G_go rfl rfl ?_
    refine G_rf rfl rfl (by decide) (hR 35 7 43 rfl) ?_
    refine G_go rfl rfl ?_
    refine G_ir (n := 6) rfl rfl (by decide) (by decide) g2 ?_
    refine G_iw (n := 6) rfl rfl (by decide) (by decide) g2 ?_
    have hR := refs_up (a := 11) (k := x2.toNat) (x := s 43 x2.toNat) hR rfl
    refine G_go rfl rfl ?_
    refine G_go rfl rfl ?_
    exact h
theorem c_become_3_35 (n : Nat) (s : Nat → Nat → Int) (Q : List Vl → Sto → Prop) (hR : refs s) (h1 : 0 ≤ s 35 9 ∧ s 35 9 ≤ 6) (h5 : ∀ p : Nat, (p : Int) < s 35 9 → s 41 p = 0 ∨ s 41 p = 1) (hq : ∀ s1, refs s1 → bcm 3 35 s s1 → Q [] (n, s1)) : G 2 120 7 0 [(3, 3), (3, 35), (0, 0)] [] (n, s) Q := by
  refine sb_X5_become_0_3_35 n s Q hR ?_
  refine G_up (s 35 9).toNat (fun k _ => ∀ s1, refs s1 → bci 3 35 s k s1 → G 2 120 7 2 [(3, 3), (3, 35), (1, (k : Int))] [] (n, s1) Q) (fun _ _ => ()) (fun _ _ => True) () trivial (fun _ _ _ _ => trivial) (fun k _ hk _ hg s1 hR1 hI => ?_) (fun _ s1 hR1 hI => ?_) s hR ⟨fun _ _ => rfl, fun _ _ p hp => absurd hp (by omega)⟩
  · have e3 : s1 35 = s 35 := hI.1 35 (by omega)
    have e9 : s1 41 = s 41 := hI.1 41 (by omega)
    have h5 := h5 k (by omega)
    rw [← e9] at h5
    rw [← wr_s hk (by omega)] at hg
    refine sb_X5_become_2_3_35 n s1 Q k hR1 ?_
    rw [Int.toNat_natCast, e3]
    exact ⟨fun e => absurd e (by omega), fun _ => ⟨by omega, h5, hg (cp1 3 35 k s1) (refs_up (refs_up (refs_up (refs_up (refs_up (refs_up (refs_up (refs_up hR1 rfl) rfl) rfl) rfl) rfl) rfl) rfl) rfl) (bci_step (by omega) hI)⟩⟩
  · have e3 : s1 35 = s 35 := hI.1 35 (by omega)
    refine sb_X5_become_2_3_35 n s1 Q _ hR1 ⟨fun _ => hq _ (refs_up (refs_up hR1 rfl) rfl) (bcm_end (by omega) hI), fun e => absurd e ?_⟩
    rw [e3]
    omega
theorem sb_X5_become_0_3_45 (n : Nat) (s : Nat → Nat → Int) (Q : List Vl → Sto → Prop) (hR : refs s)
    (h : G 2 120 7 2 [(3, 3), (3, 45), (1, 0)] [] (n, s) Q) :
    G 2 120 7 0 [(3, 3), (3, 45), (0, 0)] [] (n, s) Q := by
  refine G_go rfl rfl ?_
  refine G_go rfl rfl ?_
  show G 2 120 7 2 [(3, 3), (3, 45), (1, 0)] [] (n, s) Q
  exact h
theorem sb_X5_become_2_3_45 (n : Nat) (s : Nat → Nat → Int) (Q : List Vl → Sto → Prop) (x2 : Int) (hR : refs s)
    (h : (s 45 9 ≤ x2 → Q [] (n, upS (upS s 3 9 (s 45 9)) 3 10 (s 45 10))) ∧ (x2 < s 45 9 → (0 ≤ x2 ∧ x2 < 6) ∧ ((s 51 x2.toNat = 0 ∨ s 51 x2.toNat = 1) ∧ (G 2 120 7 2 [(3, 3), (3, 45), (1, wr (x2 + 1))] [] (n, upS (upS (upS (upS (upS (upS (upS (upS s 4 x2.toNat (s 46 x2.toNat)) 5 x2.toNat (s 47 x2.toNat)) 6 x2.toNat (s 48 x2.toNat)) 7 x2.toNat (s 49 x2.toNat)) 8 x2.toNat (s 50 x2.toNat)) 9 x2.toNat (s 51 x2.toNat)) 10 x2.toNat (s 52 x2.toNat)) 11 x2.toNat (s 53 x2.toNat)) Q)))) :
    G 2 120 7 2 [(3, 3), (3, 45), (1, x2)] [] (n, s) Q := by
  refine G_go rfl rfl ?_
  refine G_go rfl rfl ?_
  refine G_rd rfl rfl (by decide) ?_
  refine G_ge rfl rfl (fun c1 => ?_) (fun c1 => ?_)
  · have h := h.1 c1
    refine G_go rfl rfl ?_
    refine G_go rfl rfl ?_
    refine G_rd rfl rfl (by decide) ?_
    refine G_wr rfl rfl (by decide) ?_
    have hR := refs_up (a := 3) (k := 9) (x := s 45 9) hR rfl
    refine G_go rfl rfl ?_
    refine G_go rfl rfl ?_
    refine G_rd rfl rfl (by decide) ?_
    refine G_wr rfl rfl (by decide) ?_
    have hR := refs_up (a := 3) (k := 10) (x := s 45 10) hR rfl
    exact G_ret rfl rfl h
  · have h := h.2 c1
    refine G_go rfl rfl ?_
    refine G_rf rfl rfl (by decide) (hR 3 0 4 rfl) ?_
    refine G_go rfl rfl ?_
    refine G_go rfl rfl ?_
    refine G_rf rfl rfl (by decide) (hR 45 0 46 rfl) ?_
    refine G_go rfl rfl ?_
    obtain ⟨g2, h⟩ := h
    refine G_ir (n := 6) rfl rfl (by decide) (by decide) g2 ?_
    refine G_iw (n := 6) rfl rfl (by decide) (by decide) g2 ?_
    have hR := refs_up (a := 4) (k := x2.toNat) (x := s 46 x2.toNat) hR rfl
    refine G_go rfl rfl ?_
    refine G_rf rfl rfl (by decide) (hR 3 1 5 rfl) ?_
    refine G_go rfl rfl ?_
    refine G_go rfl rfl ?_
    refine G_rf rfl rfl (by decide) (hR 45 1 47 rfl) ?_
    refine G_go rfl rfl ?_
    refine G_ir (n := 6) rfl rfl (by decide) (by decide) g2 ?_
    refine G_iw (n := 6) rfl rfl (by decide) (by decide) g2 ?_
    have hR := refs_up (a := 5) (k := x2.toNat) (x := s 47 x2.toNat) hR rfl
    refine G_go rfl rfl ?_
    refine G_rf rfl rfl (by decide) (hR 3 2 6 rfl) ?_
    refine G_go rfl rfl ?_
    refine G_go rfl rfl ?_
    refine G_rf rfl rfl (by decide) (hR 45 2 48 rfl) ?_
    refine G_go rfl rfl ?_
    refine G_ir (n := 6) rfl rfl (by decide) (by decide) g2 ?_
    refine G_iw (n := 6) rfl rfl (by decide) (by decide) g2 ?_
    have hR := refs_up (a := 6) (k := x2.toNat) (x := s 48 x2.toNat) hR rfl
    refine G_go rfl rfl ?_
    refine G_rf rfl rfl (by decide) (hR 3 3 7 rfl) ?_
    refine G_go rfl rfl ?_
    refine G_go rfl rfl ?_
    refine G_rf rfl rfl (by decide) (hR 45 3 49 rfl) ?_
    refine G_go rfl rfl ?_
    refine G_ir (n := 6) rfl rfl (by decide) (by decide) g2 ?_
    refine G_iw (n := 6) rfl rfl (by decide) (by decide) g2 ?_
    have hR := refs_up (a := 7) (k := x2.toNat) (x := s 49 x2.toNat) hR rfl
    refine G_go rfl rfl ?_
    refine G_rf rfl rfl (by decide) (hR 3 4 8 rfl) ?_
    refine G_go rfl rfl ?_
    refine G_go rfl rfl ?_
    refine G_rf rfl rfl (by decide) (hR 45 4 50 rfl) ?_
    refine G_go rfl rfl ?_
    refine G_ir (n := 6) rfl rfl (by decide) (by decide) g2 ?_
    refine G_iw (n := 6) rfl rfl (by decide) (by decide) g2 ?_
    have hR := refs_up (a := 8) (k := x2.toNat) (x := s 50 x2.toNat) hR rfl
    refine G_go rfl rfl ?_
    refine G_rf rfl rfl (by decide) (hR 3 5 9 rfl) ?_
    refine G_go rfl rfl ?_
    refine G_go rfl rfl ?_
    refine G_rf rfl rfl (by decide) (hR 45 5 51 rfl) ?_
    refine G_go rfl rfl ?_
    refine G_zr (n := 6) rfl rfl (by decide) (by decide) g2 ?_
    obtain ⟨g3, h⟩ := h
    refine G_zw (n := 6) rfl rfl (by decide) (by decide) g2 g3 ?_
    have hR := refs_up (a := 9) (k := x2.toNat) (x := s 51 x2.toNat) hR rfl
    refine G_go rfl rfl ?_
    refine G_rf rfl rfl (by decide) (hR 3 6 10 rfl) ?_
    refine G_go rfl rfl ?_
    refine G_go rfl rfl ?_
    refine G_rf rfl rfl (by decide) (hR 45 6 52 rfl) ?_
    refine G_go rfl rfl ?_
    refine G_ir (n := 6) rfl rfl (by decide) (by decide) g2 ?_
    refine G_iw (n := 6) rfl rfl (by decide) (by decide) g2 ?_
    have hR := refs_up (a := 10) (k := x2.toNat) (x := s 52 x2.toNat) hR rfl
    refine G_go rfl rfl ?_
    refine G_rf rfl rfl (by decide) (hR 3 7 11 rfl) ?_
    refine G_go rfl rfl ?_
    refine G_go rfl rfl ?_
    refine G_rf rfl rfl (by decide) (hR 45 7 53 rfl) ?_
    refine G_go rfl rfl ?_
    refine G_ir (n := 6) rfl rfl (by decide) (by decide) g2 ?_
    refine G_iw (n := 6) rfl rfl (by decide) (by decide) g2 ?_
    have hR := refs_up (a := 11) (k := x2.toNat) (x := s 53 x2.toNat) hR rfl
    refine G_go rfl rfl ?_
    refine G_go rfl rfl ?_
    exact h
theorem c_become_3_45 (n : Nat) (s : Nat → Nat → Int) (Q : List Vl → Sto → Prop) (hR : refs s) (h1 : 0 ≤ s 45 9 ∧ s 45 9 ≤ 6) (h5 : ∀ p : Nat, (p : Int) < s 45 9 → s 51 p = 0 ∨ s 51 p = 1) (hq : ∀ s1, refs s1 → bcm 3 45 s s1 → Q [] (n, s1)) : G 2 120 7 0 [(3, 3), (3, 45), (0, 0)] [] (n, s) Q := by
  refine sb_X5_become_0_3_45 n s Q hR ?_
  refine G_up (s 45 9).toNat (fun k _ => ∀ s1, refs s1 → bci 3 45 s k s1 → G 2 120 7 2 [(3, 3), (3, 45), (1, (k : Int))] [] (n, s1) Q) (fun _ _ => ()) (fun _ _ => True) () trivial (fun _ _ _ _ => trivial) (fun k _ hk _ hg s1 hR1 hI => ?_) (fun _ s1 hR1 hI => ?_) s hR ⟨fun _ _ => rfl, fun _ _ p hp => absurd hp (by omega)⟩
  · have e3 : s1 45 = s 45 := hI.1 45 (by omega)
    have e9 : s1 51 = s 51 := hI.1 51 (by omega)
    have h5 := h5 k (by omega)
    rw [← e9] at h5
    rw [← wr_s hk (by omega)] at hg
    refine sb_X5_become_2_3_45 n s1 Q k hR1 ?_
    rw [Int.toNat_natCast, e3]
    exact ⟨fun e => absurd e (by omega), fun _ => ⟨by omega, h5, hg (cp1 3 45 k s1) (refs_up (refs_up (refs_up (refs_up (refs_up (refs_up (refs_up (refs_up hR1 rfl) rfl) rfl) rfl) rfl) rfl) rfl) rfl) (bci_step (by omega) hI)⟩⟩
  · have e3 : s1 45 = s 45 := hI.1 45 (by omega)
    refine sb_X5_become_2_3_45 n s1 Q _ hR1 ⟨fun _ => hq _ (refs_up (refs_up hR1 rfl) rfl) (bcm_end (by omega) hI), fun e => absurd e ?_⟩
    rw [e3]
    omega
theorem sb_X5_become_0_3_55 (n : Nat) (s : Nat → Nat → Int) (Q : List Vl → Sto → Prop) (hR : refs s)
    (h : G 2 120 7 2 [(3, 3), (3, 55), (1, 0)] [] (n, s) Q) :
    G 2 120 7 0 [(3, 3), (3, 55), (0, 0)] [] (n, s) Q := by
  refine G_go rfl rfl ?_
  refine G_go rfl rfl ?_
  show G 2 120 7 2 [(3, 3), (3, 55), (1, 0)] [] (n, s) Q
  exact h
theorem sb_X5_become_2_3_55 (n : Nat) (s : Nat → Nat → Int) (Q : List Vl → Sto → Prop) (x2 : Int) (hR : refs s)
    (h : (s 55 9 ≤ x2 → Q [] (n, upS (upS s 3 9 (s 55 9)) 3 10 (s 55 10))) ∧ (x2 < s 55 9 → (0 ≤ x2 ∧ x2 < 6) ∧ ((s 61 x2.toNat = 0 ∨ s 61 x2.toNat = 1) ∧ (G 2 120 7 2 [(3, 3), (3, 55), (1, wr (x2 + 1))] [] (n, upS (upS (upS (upS (upS (upS (upS (upS s 4 x2.toNat (s 56 x2.toNat)) 5 x2.toNat (s 57 x2.toNat)) 6 x2.toNat (s 58 x2.toNat)) 7 x2.toNat (s 59 x2.toNat)) 8 x2.toNat (s 60 x2.toNat)) 9 x2.toNat (s 61 x2.toNat)) 10 x2.toNat (s 62 x2.toNat)) 11 x2.toNat (s 63 x2.toNat)) Q)))) :
    G 2 120 7 2 [(3, 3), (3, 55), (1, x2)] [] (n, s) Q := by
  refine G_go rfl rfl ?_
  refine G_go rfl rfl ?_
  refine G_rd rfl rfl (by decide) ?_
  refine G_ge rfl rfl (fun c1 => ?_) (fun c1 => ?_)
  · have h := h.1 c1
    refine G_go rfl rfl ?_
    refine G_go rfl rfl ?_
    refine G_rd rfl rfl (by decide) ?_
    refine G_wr rfl rfl (by decide) ?_
    have hR := refs_up (a := 3) (k := 9) (x := s 55 9) hR rfl
    refine G_go rfl rfl ?_
    refine G_go rfl rfl ?_
    refine G_rd rfl rfl (by decide) ?_
    refine G_wr rfl rfl (by decide) ?_
    have hR := refs_up (a := 3) (k := 10) (x := s 55 10) hR rfl
    exact G_ret rfl rfl h
  · have h := h.2 c1
    refine G_go rfl rfl ?_
    refine G_rf rfl rfl (by decide) (hR 3 0 4 rfl) ?_
    refine G_go rfl rfl ?_
    refine G_go rfl rfl ?_
    refine G_rf rfl rfl (by decide) (hR 55 0 56 rfl) ?_
    refine G_go rfl rfl ?_
    obtain ⟨g2, h⟩ := h
    refine G_ir (n := 6) rfl rfl (by decide) (by decide) g2 ?_
    refine G_iw (n := 6) rfl rfl (by decide) (by decide) g2 ?_
    have hR := refs_up (a := 4) (k := x2.toNat) (x := s 56 x2.toNat) hR rfl
    refine G_go rfl rfl ?_
    refine G_rf rfl rfl (by decide) (hR 3 1 5 rfl) ?_
    refine G_go rfl rfl ?_
    refine G_go rfl rfl ?_
    refine G_rf rfl rfl (by decide) (hR 55 1 57 rfl) ?_
    refine G_go rfl rfl ?_
    refine G_ir (n := 6) rfl rfl (by decide) (by decide) g2 ?_
    refine G_iw (n := 6) rfl rfl (by decide) (by decide) g2 ?_
    have hR := refs_up (a := 5) (k := x2.toNat) (x := s 57 x2.toNat) hR rfl
    refine G_go rfl rfl ?_
    refine G_rf rfl rfl (by decide) (hR 3 2 6 rfl) ?_
    refine G_go rfl rfl ?_
    refine G_go rfl rfl ?_
    refine G_rf rfl rfl (by decide) (hR 55 2 58 rfl) ?_
    refine G_go rfl rfl ?_
    refine G_ir (n := 6) rfl rfl (by decide) (by decide) g2 ?_
    refine G_iw (n := 6) rfl rfl (by decide) (by decide) g2 ?_
    have hR := refs_up (a := 6) (k := x2.toNat) (x := s 58 x2.toNat) hR rfl
    refine G_go rfl rfl ?_
    refine G_rf rfl rfl (by decide) (hR 3 3 7 rfl) ?_
    refine G_go rfl rfl ?_
    refine G_go rfl rfl ?_
    refine G_rf rfl rfl (by decide) (hR 55 3 59 rfl) ?_
    refine G_go rfl rfl ?_
    refine G_ir (n := 6) rfl rfl (by decide) (by decide) g2 ?_
    refine G_iw (n := 6) rfl rfl (by decide) (by decide) g2 ?_
    have hR := refs_up (a := 7) (k := x2.toNat) (x := s 59 x2.toNat) hR rfl
    refine G_go rfl rfl ?_
    refine G_rf rfl rfl (by decide) (hR 3 4 8 rfl) ?_
    refine G_go rfl rfl ?_
    refine G_go rfl rfl ?_
    refine G_rf rfl rfl (by decide) (hR 55 4 60 rfl) ?_
    refine G_go rfl rfl ?_
    refine G_ir (n := 6) rfl rfl (by decide) (by decide) g2 ?_
    refine G_iw (n := 6) rfl rfl (by decide) (by decide) g2 ?_
    have hR := refs_up (a := 8) (k := x2.toNat) (x := s 60 x2.toNat) hR rfl
    refine G_go rfl rfl ?_
    refine G_rf rfl rfl (by decide) (hR 3 5 9 rfl) ?_
    refine G_go rfl rfl ?_
    refine G_go rfl rfl ?_
    refine G_rf rfl rfl (by decide) (hR 55 5 61 rfl) ?_
    refine G_go rfl rfl ?_
    refine G_zr (n := 6) rfl rfl (by decide) (by decide) g2 ?_
    obtain ⟨g3, h⟩ := h
    refine G_zw (n := 6) rfl rfl (by decide) (by decide) g2 g3 ?_
    have hR := refs_up (a := 9) (k := x2.toNat) (x := s 61 x2.toNat) hR rfl
    refine G_go rfl rfl ?_
    refine G_rf rfl rfl (by decide) (hR 3 6 10 rfl) ?_
    refine G_go rfl rfl ?_
    refine G_go rfl rfl ?_
    refine G_rf rfl rfl (by decide) (hR 55 6 62 rfl) ?_
    refine G_go rfl rfl ?_
    refine G_ir (n := 6) rfl rfl (by decide) (by decide) g2 ?_
    refine G_iw (n := 6) rfl rfl (by decide) (by decide) g2 ?_
    have hR := refs_up (a := 10) (k := x2.toNat) (x := s 62 x2.toNat) hR rfl
    refine G_go rfl rfl ?_
    refine G_rf rfl rfl (by decide) (hR 3 7 11 rfl) ?_
    refine G_go rfl rfl ?_
    refine G_go rfl rfl ?_
    refine G_rf rfl rfl (by decide) (hR 55 7 63 rfl) ?_
    refine G_go rfl rfl ?_
    refine G_ir (n := 6) rfl rfl (by decide) (by decide) g2 ?_
    refine G_iw (n := 6) rfl rfl (by decide) (by decide) g2 ?_
    have hR := refs_up (a := 11) (k := x2.toNat) (x := s 63 x2.toNat) hR rfl
    refine G_go rfl rfl ?_
    refine G_go rfl rfl ?_
    exact h
theorem c_become_3_55 (n : Nat) (s : Nat → Nat → Int) (Q : List Vl → Sto → Prop) (hR : refs s) (h1 : 0 ≤ s 55 9 ∧ s 55 9 ≤ 6) (h5 : ∀ p : Nat, (p : Int) < s 55 9 → s 61 p = 0 ∨ s 61 p = 1) (hq : ∀ s1, refs s1 → bcm 3 55 s s1 → Q [] (n, s1)) : G 2 120 7 0 [(3, 3), (3, 55), (0, 0)] [] (n, s) Q := by
  refine sb_X5_become_0_3_55 n s Q hR ?_
  refine G_up (s 55 9).toNat (fun k _ => ∀ s1, refs s1 → bci 3 55 s k s1 → G 2 120 7 2 [(3, 3), (3, 55), (1, (k : Int))] [] (n, s1) Q) (fun _ _ => ()) (fun _ _ => True) () trivial (fun _ _ _ _ => trivial) (fun k _ hk _ hg s1 hR1 hI => ?_) (fun _ s1 hR1 hI => ?_) s hR ⟨fun _ _ => rfl, fun _ _ p hp => absurd hp (by omega)⟩
  · have e3 : s1 55 = s 55 := hI.1 55 (by omega)
    have e9 : s1 61 = s 61 := hI.1 61 (by omega)
    have h5 := h5 k (by omega)
    rw [← e9] at h5
    rw [← wr_s hk (by omega)] at hg
    refine sb_X5_become_2_3_55 n s1 Q k hR1 ?_
    rw [Int.toNat_natCast, e3]
    exact ⟨fun e => absurd e (by omega), fun _ => ⟨by omega, h5, hg (cp1 3 55 k s1) (refs_up (refs_up (refs_up (refs_up (refs_up (refs_up (refs_up (refs_up hR1 rfl) rfl) rfl) rfl) rfl) rfl) rfl) rfl) (bci_step (by omega) hI)⟩⟩
  · have e3 : s1 55 = s 55 := hI.1 55 (by omega)
    refine sb_X5_become_2_3_55 n s1 Q _ hR1 ⟨fun _ => hq _ (refs_up (refs_up hR1 rfl) rfl) (bcm_end (by omega) hI), fun e => absurd e ?_⟩
    rw [e3]
    omega
theorem sb_X5_become_0_3_65 (n : Nat) (s : Nat → Nat → Int) (Q : List Vl → Sto → Prop) (hR : refs s)
    (h : G 2 120 7 2 [(3, 3), (3, 65), (1, 0)] [] (n, s) Q) :
    G 2 120 7 0 [(3, 3), (3, 65), (0, 0)] [] (n, s) Q := by
  refine G_go rfl rfl ?_
  refine G_go rfl rfl ?_
  show G 2 120 7 2 [(3, 3), (3, 65), (1, 0)] [] (n, s) Q
  exact h
theorem sb_X5_become_2_3_65 (n : Nat) (s : Nat → Nat → Int) (Q : List Vl → Sto → Prop) (x2 : Int) (hR : refs s)
    (h : (s 65 9 ≤ x2 → Q [] (n, upS (upS s 3 9 (s 65 9)) 3 10 (s 65 10))) ∧ (x2 < s 65 9 → (0 ≤ x2 ∧ x2 < 6) ∧ ((s 71 x2.toNat = 0 ∨ s 71 x2.toNat = 1) ∧ (G 2 120 7 2 [(3, 3), (3, 65), (1, wr (x2 + 1))] [] (n, upS (upS (upS (upS (upS (upS (upS (upS s 4 x2.toNat (s 66 x2.toNat)) 5 x2.toNat (s 67 x2.toNat)) 6 x2.toNat (s 68 x2.toNat)) 7 x2.toNat (s 69 x2.toNat)) 8 x2.toNat (s 70 x2.toNat)) 9 x2.toNat (s 71 x2.toNat)) 10 x2.toNat (s 72 x2.toNat)) 11 x2.toNat (s 73 x2.toNat)) Q)))) :
    G 2 120 7 2 [(3, 3), (3, 65), (1, x2)] [] (n, s) Q := by
  refine G_go rfl rfl ?_
  refine G_go rfl rfl ?_
  refine G_rd rfl rfl (by decide) ?_
  refine G_ge rfl rfl (fun c1 => ?_) (fun c1 => ?_)
  · have h := h.1 c1
    refine G_go rfl rfl ?_
    refine G_go rfl rfl ?_
    refine G_rd rfl rfl (by decide) ?_
    refine G_wr rfl rfl (by decide) ?_
    have hR := refs_up (a := 3) (k := 9) (x := s 65 9) hR rfl
    refine G_go rfl rfl ?_
    refine G_go rfl rfl ?_
    refine G_rd rfl rfl (by decide) ?_
    refine G_wr rfl rfl (by decide) ?_
    have hR := refs_up (a := 3) (k := 10) (x := s 65 10) hR rfl
    exact G_ret rfl rfl h
  · have h := h.2 c1
    refine G_go rfl rfl ?_
    refine G_rf rfl rfl (by decide) (hR 3 0 4 rfl) ?_
    refine G_go rfl rfl ?_
    refine G_go rfl rfl ?_
    refine G_rf rfl rfl (by decide) (hR 65 0 66 rfl) ?_
    refine G_go rfl rfl ?_
    obtain ⟨g2, h⟩ := h
    refine G_ir (n := 6) rfl rfl (by decide) (by decide) g2 ?_
    refine G_iw (n := 6) rfl rfl (by decide) (by decide) g2 ?_
    have hR := refs_up (a := 4) (k := x2.toNat) (x := s 66 x2.toNat) hR rfl
    refine G_go rfl rfl ?_
    refine G_rf rfl rfl (by decide) (hR 3 1 5 rfl) ?_
    refine G_go rfl rfl ?_
    refine G_go rfl rfl ?_
    refine G_rf rfl rfl (by decide) (hR 65 1 67 rfl) ?_
    refine G_go rfl rfl ?_
    refine G_ir (n := 6) rfl rfl (by decide) (by decide) g2 ?_
    refine G_iw (n := 6) rfl rfl (by decide) (by decide) g2 ?_
    have hR := refs_up (a := 5) (k := x2.toNat) (x := s 67 x2.toNat) hR rfl
    refine G_go rfl rfl ?_
    refine G_rf rfl rfl (by decide) (hR 3 2 6 rfl) ?_
    refine G_go rfl rfl ?_
    refine G_go rfl rfl ?_
    refine G_rf rfl rfl (by decide) (hR 65 2 68 rfl) ?_
    refine G_go rfl rfl ?_
    refine G_ir (n := 6) rfl rfl (by decide) (by decide) g2 ?_
    refine G_iw (n := 6) rfl rfl (by decide) (by decide) g2 ?_
    have hR := refs_up (a := 6) (k := x2.toNat) (x := s 68 x2.toNat) hR rfl
    refine G_go rfl rfl ?_
    refine G_rf rfl rfl (by decide) (hR 3 3 7 rfl) ?_
    refine G_go rfl rfl ?_
    refine G_go rfl rfl ?_
    refine G_rf rfl rfl (by decide) (hR 65 3 69 rfl) ?_
    refine G_go rfl rfl ?_
    refine G_ir (n := 6) rfl rfl (by decide) (by decide) g2 ?_
    refine G_iw (n := 6) rfl rfl (by decide) (by decide) g2 ?_
    have hR := refs_up (a := 7) (k := x2.toNat) (x := s 69 x2.toNat) hR rfl
    refine G_go rfl rfl ?_
    refine G_rf rfl rfl (by decide) (hR 3 4 8 rfl) ?_
    refine G_go rfl rfl ?_
    refine G_go rfl rfl ?_
    refine G_rf rfl rfl (by decide) (hR 65 4 70 rfl) ?_
    refine G_go rfl rfl ?_
    refine G_ir (n := 6) rfl rfl (by decide) (by decide) g2 ?_
    refine G_iw (n := 6) rfl rfl (by decide) (by decide) g2 ?_
    have hR := refs_up (a := 8) (k := x2.toNat) (x := s 70 x2.toNat) hR rfl
    refine G_go rfl rfl ?_
    refine G_rf rfl rfl (by decide) (hR 3 5 9 rfl) ?_
    refine G_go rfl rfl ?_
    refine G_go rfl rfl ?_
    refine G_rf rfl rfl (by decide) (hR 65 5 71 rfl) ?_
    refine G_go rfl rfl ?_
    refine G_zr (n := 6) rfl rfl (by decide) (by decide) g2 ?_
    obtain ⟨g3, h⟩ := h
    refine G_zw (n := 6) rfl rfl (by decide) (by decide) g2 g3 ?_
    have hR := refs_up (a := 9) (k := x2.toNat) (x := s 71 x2.toNat) hR rfl
    refine G_go rfl rfl ?_
    refine G_rf rfl rfl (by decide) (hR 3 6 10 rfl) ?_
    refine G_go rfl rfl ?_
    refine G_go rfl rfl ?_
    refine G_rf rfl rfl (by decide) (hR 65 6 72 rfl) ?_
    refine G_go rfl rfl ?_
    refine G_ir (n := 6) rfl rfl (by decide) (by decide) g2 ?_
    refine G_iw (n := 6) rfl rfl (by decide) (by decide) g2 ?_
    have hR := refs_up (a := 10) (k := x2.toNat) (x := s 72 x2.toNat) hR rfl
    refine G_go rfl rfl ?_
    refine G_rf rfl rfl (by decide) (hR 3 7 11 rfl) ?_
    refine G_go rfl rfl ?_
    refine G_go rfl rfl ?_
    refine G_rf rfl rfl (by decide) (hR 65 7 73 rfl) ?_
    refine G_go rfl rfl ?_
    refine G_ir (n := 6) rfl rfl (by decide) (by decide) g2 ?_
    refine G_iw (n := 6) rfl rfl (by decide) (by decide) g2 ?_
    have hR := refs_up (a := 11) (k := x2.toNat) (x := s 73 x2.toNat) hR rfl
    refine G_go rfl rfl ?_
    refine G_go rfl rfl ?_
    exact h
theorem c_become_3_65 (n : Nat) (s : Nat → Nat → Int) (Q : List Vl → Sto → Prop) (hR : refs s) (h1 : 0 ≤ s 65 9 ∧ s 65 9 ≤ 6) (h5 : ∀ p : Nat, (p : Int) < s 65 9 → s 71 p = 0 ∨ s 71 p = 1) (hq : ∀ s1, refs s1 → bcm 3 65 s s1 → Q [] (n, s1)) : G 2 120 7 0 [(3, 3), (3, 65), (0, 0)] [] (n, s) Q := by
  refine sb_X5_become_0_3_65 n s Q hR ?_
  refine G_up (s 65 9).toNat (fun k _ => ∀ s1, refs s1 → bci 3 65 s k s1 → G 2 120 7 2 [(3, 3), (3, 65), (1, (k : Int))] [] (n, s1) Q) (fun _ _ => ()) (fun _ _ => True) () trivial (fun _ _ _ _ => trivial) (fun k _ hk _ hg s1 hR1 hI => ?_) (fun _ s1 hR1 hI => ?_) s hR ⟨fun _ _ => rfl, fun _ _ p hp => absurd hp (by omega)⟩
  · have e3 : s1 65 = s 65 := hI.1 65 (by omega)
    have e9 : s1 71 = s 71 := hI.1 71 (by omega)
    have h5 := h5 k (by omega)
    rw [← e9] at h5
    rw [← wr_s hk (by omega)] at hg
    refine sb_X5_become_2_3_65 n s1 Q k hR1 ?_
    rw [Int.toNat_natCast, e3]
    exact ⟨fun e => absurd e (by omega), fun _ => ⟨by omega, h5, hg (cp1 3 65 k s1) (refs_up (refs_up (refs_up (refs_up (refs_up (refs_up (refs_up (refs_up hR1 rfl) rfl) rfl) rfl) rfl) rfl) rfl) rfl) (bci_step (by omega) hI)⟩⟩
  · have e3 : s1 65 = s 65 := hI.1 65 (by omega)
    refine sb_X5_become_2_3_65 n s1 Q _ hR1 ⟨fun _ => hq _ (refs_up (refs_up hR1 rfl) rfl) (bcm_end (by omega) hI), fun e => absurd e ?_⟩
    rw [e3]
    omega
theorem sb_X5_become_0_3_75 (n : Nat) (s : Nat → Nat → Int) (Q : List Vl → Sto → Prop) (hR : refs s)
    (h : G 2 120 7 2 [(3, 3), (3, 75), (1, 0)] [] (n, s) Q) :
    G 2 120 7 0 [(3, 3), (3, 75), (0, 0)] [] (n, s) Q := by
  refine G_go rfl rfl ?_
  refine G_go rfl rfl ?_
  show G 2 120 7 2 [(3, 3), (3, 75), (1, 0)] [] (n, s) Q
  exact h
theorem sb_X5_become_2_3_75 (n : Nat) (s : Nat → Nat → Int) (Q : List Vl → Sto → Prop) (x2 : Int) (hR : refs s)
    (h : (s 75 9 ≤ x2 → Q [] (n, upS (upS s 3 9 (s 75 9)) 3 10 (s 75 10))) ∧ (x2 < s 75 9 → (0 ≤ x2 ∧ x2 < 6) ∧ ((s 81 x2.toNat = 0 ∨ s 81 x2.toNat = 1) ∧ (G 2 120 7 2 [(3, 3), (3, 75), (1, wr (x2 + 1))] [] (n, upS (upS (upS (upS (upS (upS (upS (upS s 4 x2.toNat (s 76 x2.toNat)) 5 x2.toNat (s 77 x2.toNat)) 6 x2.toNat (s 78 x2.toNat)) 7 x2.toNat (s 79 x2.toNat)) 8 x2.toNat (s 80 x2.toNat)) 9 x2.toNat (s 81 x2.toNat)) 10 x2.toNat (s 82 x2.toNat)) 11 x2.toNat (s 83 x2.toNat)) Q)))) :
    G 2 120 7 2 [(3, 3), (3, 75), (1, x2)] [] (n, s) Q := by
  refine G_go rfl rfl ?_
  refine G_go rfl rfl ?_
  refine G_rd rfl rfl (by decide) ?_
  refine G_ge rfl rfl (fun c1 => ?_) (fun c1 => ?_)
  · have h := h.1 c1
    refine G_go rfl rfl ?_
    refine G_go rfl rfl ?_
    refine G_rd rfl rfl (by decide) ?_
    refine G_wr rfl rfl (by decide) ?_
    have hR := refs_up (a := 3) (k := 9) (x := s 75 9) hR rfl
    refine G_go rfl rfl ?_
    refine G_go rfl rfl ?_
    refine G_rd rfl rfl (by decide) ?_
    refine G_wr rfl rfl (by decide) ?_
    have hR := refs_up (a := 3) (k := 10) (x := s 75 10) hR rfl
    exact G_ret rfl rfl h
  · have h := h.2 c1
    refine G_go rfl rfl ?_
    refine G_rf rfl rfl (by decide) (hR 3 0 4 rfl) ?_
    refine G_go rfl rfl ?_
    refine G_go rfl rfl ?_
    refine G_rf rfl rfl (by decide) (hR 75 0 76 rfl) ?_
    refine G_go rfl rfl ?_
    obtain ⟨g2, h⟩ := h
    refine G_ir (n := 6) rfl rfl (by decide) (by decide) g2 ?_
    refine G_iw (n := 6) rfl rfl (by decide) (by decide) g2 ?_
    have hR := refs_up (a := 4) (k := x2.toNat) (x := s 76 x2.toNat) hR rfl
    refine G_go rfl rfl ?_
    refine G_rf rfl rfl (by decide) (hR 3 1 5 rfl) ?_
    refine G_go rfl rfl ?_
    refine G_go rfl rfl ?_
    refine G_rf rfl rfl (by decide) (hR 75 1 77 rfl) ?_
    refine G_go rfl rfl ?_
    refine G_ir (n := 6) rfl rfl (by decide) (by decide) g2 ?_
    refine G_iw (n := 6) rfl rfl (by decide) (by decide) g2 ?_
    have hR := refs_up (a := 5) (k := x2.toNat) (x := s 77 x2.toNat) hR rfl
    refine G_go rfl rfl ?_
    refine G_rf rfl rfl (by decide) (hR 3 2 6 rfl) ?_
    refine G_go rfl rfl ?_
    refine G_go rfl rfl ?_
    refine G_rf rfl rfl (by decide) (hR 75 2 78 rfl) ?_
    refine G_go rfl rfl ?_
    refine G_ir (n := 6) rfl rfl (by decide) (by decide) g2 ?_
    refine G_iw (n := 6) rfl rfl (by decide) (by decide) g2 ?_
    have hR := refs_up (a := 6) (k := x2.toNat) (x := s 78 x2.toNat) hR rfl
    refine G_go rfl rfl ?_
    refine G_rf rfl rfl (by decide) (hR 3 3 7 rfl) ?_
    refine G_go rfl rfl ?_
    refine G_go rfl rfl ?_
    refine G_rf rfl rfl (by decide) (hR 75 3 79 rfl) ?_
    refine G_go rfl rfl ?_
    refine G_ir (n := 6) rfl rfl (by decide) (by decide) g2 ?_
    refine G_iw (n := 6) rfl rfl (by decide) (by decide) g2 ?_
    have hR := refs_up (a := 7) (k := x2.toNat) (x := s 79 x2.toNat) hR rfl
    refine G_go rfl rfl ?_
    refine G_rf rfl rfl (by decide) (hR 3 4 8 rfl) ?_
    refine G_go rfl rfl ?_
    refine G_go rfl rfl ?_
    refine G_rf rfl rfl (by decide) (hR 75 4 80 rfl) ?_
    refine G_go rfl rfl ?_
    refine G_ir (n := 6) rfl rfl (by decide) (by decide) g2 ?_
    refine G_iw (n := 6) rfl rfl (by decide) (by decide) g2 ?_
    have hR := refs_up (a := 8) (k := x2.toNat) (x := s 80 x2.toNat) hR rfl
    refine G_go rfl rfl ?_
    refine G_rf rfl rfl (by decide) (hR 3 5 9 rfl) ?_
    refine G_go rfl rfl ?_
    refine G_go rfl rfl ?_
    refine G_rf rfl rfl (by decide) (hR 75 5 81 rfl) ?_
    refine G_go rfl rfl ?_
    refine G_zr (n := 6) rfl rfl (by decide) (by decide) g2 ?_
    obtain ⟨g3, h⟩ := h
    refine G_zw (n := 6) rfl rfl (by decide) (by decide) g2 g3 ?_
    have hR := refs_up (a := 9) (k := x2.toNat) (x := s 81 x2.toNat) hR rfl
    refine G_go rfl rfl ?_
    refine G_rf rfl rfl (by decide) (hR 3 6 10 rfl) ?_
    refine G_go rfl rfl ?_
    refine G_go rfl rfl ?_
    refine G_rf rfl rfl (by decide) (hR 75 6 82 rfl) ?_
    refine G_go rfl rfl ?_
    refine G_ir (n := 6) rfl rfl (by decide) (by decide) g2 ?_
    refine G_iw (n := 6) rfl rfl (by decide) (by decide) g2 ?_
    have hR := refs_up (a := 10) (k := x2.toNat) (x := s 82 x2.toNat) hR rfl
    refine G_go rfl rfl ?_
    refine G_rf rfl rfl (by decide) (hR 3 7 11 rfl) ?_
    refine G_go rfl rfl ?_
    refine G_go rfl rfl ?_
    refine G_rf rfl rfl (by decide) (hR 75 7 83 rfl) ?_
    refine G_go rfl rfl ?_
    refine G_ir (n := 6) rfl rfl (by decide) (by decide) g2 ?_
    refine G_iw (n := 6) rfl rfl (by decide) (by decide) g2 ?_
    have hR := refs_up (a := 11) (k := x2.toNat) (x := s 83 x2.toNat) hR rfl
    refine G_go rfl rfl ?_
    refine G_go rfl rfl ?_
    exact h
theorem c_become_3_75 (n : Nat) (s : Nat → Nat → Int) (Q : List Vl → Sto → Prop) (hR : refs s) (h1 : 0 ≤ s 75 9 ∧ s 75 9 ≤ 6) (h5 : ∀ p : Nat, (p : Int) < s 75 9 → s 81 p = 0 ∨ s 81 p = 1) (hq : ∀ s1, refs s1 → bcm 3 75 s s1 → Q [] (n, s1)) : G 2 120 7 0 [(3, 3), (3, 75), (0, 0)] [] (n, s) Q := by
  refine sb_X5_become_0_3_75 n s Q hR ?_
  refine G_up (s 75 9).toNat (fun k _ => ∀ s1, refs s1 → bci 3 75 s k s1 → G 2 120 7 2 [(3, 3), (3, 75), (1, (k : Int))] [] (n, s1) Q) (fun _ _ => ()) (fun _ _ => True) () trivial (fun _ _ _ _ => trivial) (fun k _ hk _ hg s1 hR1 hI => ?_) (fun _ s1 hR1 hI => ?_) s hR ⟨fun _ _ => rfl, fun _ _ p hp => absurd hp (by omega)⟩
  · have e3 : s1 75 = s 75 := hI.1 75 (by omega)
    have e9 : s1 81 = s 81 := hI.1 81 (by omega)
    have h5 := h5 k (by omega)
    rw [← e9] at h5
    rw [← wr_s hk (by omega)] at hg
    refine sb_X5_become_2_3_75 n s1 Q k hR1 ?_
    rw [Int.toNat_natCast, e3]
    exact ⟨fun e => absurd e (by omega), fun _ => ⟨by omega, h5, hg (cp1 3 75 k s1) (refs_up (refs_up (refs_up (refs_up (refs_up (refs_up (refs_up (refs_up hR1 rfl) rfl) rfl) rfl) rfl) rfl) rfl) rfl) (bci_step (by omega) hI)⟩⟩
  · have e3 : s1 75 = s 75 := hI.1 75 (by omega)
    refine sb_X5_become_2_3_75 n s1 Q _ hR1 ⟨fun _ => hq _ (refs_up (refs_up hR1 rfl) rfl) (bcm_end (by omega) hI), fun e => absurd e ?_⟩
    rw [e3]
    omega
theorem sb_X5_become_0_3_85 (n : Nat) (s : Nat → Nat → Int) (Q : List Vl → Sto → Prop) (hR : refs s)
    (h : G 2 120 7 2 [(3, 3), (3, 85), (1, 0)] [] (n, s) Q) :
    G 2 120 7 0 [(3, 3), (3, 85), (0, 0)] [] (n, s) Q := by
  refine G_go rfl rfl ?_
  refine G_go rfl rfl ?_
  show G 2 120 7 2 [(3, 3), (3, 85), (1, 0)] [] (n, s) Q
  exact h
theorem sb_X5_become_2_3_85 (n : Nat) (s : Nat → Nat → Int) (Q : List Vl → Sto → Prop) (x2 : Int) (hR : refs s)
    (h : (s 85 9 ≤ x2 → Q [] (n, upS (upS s 3 9 (s 85 9)) 3 10 (s 85 10))) ∧ (x2 < s 85 9 → (0 ≤ x2 ∧ x2 < 6) ∧ ((s 91 x2.toNat = 0 ∨ s 91 x2.toNat = 1) ∧ (G 2 120 7 2 [(3, 3), (3, 85), (1, wr (x2 + 1))] [] (n, upS (upS (upS (upS (upS (upS (upS (upS s 4 x2.toNat (s 86 x2.toNat)) 5 x2.toNat (s 87 x2.toNat)) 6 x2.toNat (s 88 x2.toNat)) 7 x2.toNat (s 89 x2.toNat)) 8 x2.toNat (s 90 x2.toNat)) 9 x2.toNat (s 91 x2.toNat)) 10 x2.toNat (s 92 x2.toNat)) 11 x2.toNat (s 93 x2.toNat)) Q)))) :
    G 2 120 7 2 [(3, 3), (3, 85), (1, x2)] [] (n, s) Q := by
  refine G_go rfl rfl ?_
  refine G_go rfl rfl ?_
  refine G_rd rfl rfl (by decide) ?_
  refine G_ge rfl rfl (fun c1 => ?_) (fun c1 => ?_)
  · have h := h.1 c1
    refine G_go rfl rfl ?_
    refine G_go rfl rfl ?_
    refine G_rd rfl rfl (by decide) ?_
    refine G_wr rfl rfl (by decide) ?_
    have hR := refs_up (a := 3) (k := 9) (x := s 85 9) hR rfl
    refine G_go rfl rfl ?_
    refine G_go rfl rfl ?_
    refine G_rd rfl rfl (by decide) ?_
    refine G_wr rfl rfl (by decide) ?_
    have hR := refs_up (a := 3) (k := 10) (x := s 85 10) hR rfl
    exact G_ret rfl rfl h
  · have h := h.2 c1
    refine G_go rfl rfl ?_
    refine G_rf rfl rfl (by decide) (hR 3 0 4 rfl) ?_
    refine G_go rfl rfl ?_
    refine G_go rfl rfl ?_
    refine G_rf rfl rfl (by decide) (hR 85 0 86 rfl) ?_
    refine G_go rfl rfl ?_
    obtain ⟨g2, h⟩ := h
    refine G_ir (n := 6) rfl rfl (by decide) (by decide) g2 ?_
    refine G_iw (n := 6) rfl rfl (by decide) (by decide) g2 ?_
    have hR := refs_up (a := 4) (k := x2.toNat) (x := s 86 x2.toNat) hR rfl
    refine G_go rfl rfl ?_
    refine G_rf rfl rfl (by decide) (hR 3 1 5 rfl) ?_
    refine G_go rfl rfl ?_
    refine G_go rfl rfl ?_
    refine G_rf rfl rfl (by decide) (hR 85 1 87 rfl) ?_
    refine G_go rfl rfl ?_
    refine G_ir (n := 6) rfl rfl (by decide) (by decide) g2 ?_
    refine G_iw (n := 6) rfl rfl (by decide) (by decide) g2 ?_
    have hR := refs_up (a := 5) (k := x2.toNat) (x := s 87 x2.toNat) hR rfl
    refine G_go rfl rfl ?_
    refine G_rf rfl rfl (by decide) (hR 3 2 6 rfl) ?_
    refine G_go rfl rfl ?_
    refine G_go rfl rfl ?_
    refine G_rf rfl rfl (by decide) (hR 85 2 88 rfl) ?_
    refine G_go rfl rfl ?_
    refine G_ir (n := 6) rfl rfl (by decide) (by decide) g2 ?_
    refine G_iw (n := 6) rfl rfl (by decide) (by decide) g2 ?_
    have hR := refs_up (a := 6) (k := x2.toNat) (x := s 88 x2.toNat) hR rfl
    refine G_go rfl rfl ?_
    refine G_rf rfl rfl (by decide) (hR 3 3 7 rfl) ?_
    refine G_go rfl rfl ?_
    refine G_go rfl rfl ?_
    refine G_rf rfl rfl (by decide) (hR 85 3 89 rfl) ?_
    refine G_go rfl rfl ?_
    refine G_ir (n := 6) rfl rfl (by decide) (by decide) g2 ?_
    refine G_iw (n := 6) rfl rfl (by decide) (by decide) g2 ?_
    have hR := refs_up (a := 7) (k := x2.toNat) (x := s 89 x2.toNat) hR rfl
    refine G_go rfl rfl ?_
    refine G_rf rfl rfl (by decide) (hR 3 4 8 rfl) ?_
    refine G_go rfl rfl ?_
    refine G_go rfl rfl ?_
    refine G_rf rfl rfl (by decide) (hR 85 4 90 rfl) ?_
    refine G_go rfl rfl ?_
    refine G_ir (n := 6) rfl rfl (by decide) (by decide) g2 ?_
    refine G_iw (n := 6) rfl rfl (by decide) (by decide) g2 ?_
    have hR := refs_up (a := 8) (k := x2.toNat) (x := s 90 x2.toNat) hR rfl
    refine G_go rfl rfl ?_
    refine G_rf rfl rfl (by decide) (hR 3 5 9 rfl) ?_
    refine G_go rfl rfl ?_
    refine G_go rfl rfl ?_
    refine G_rf rfl rfl (by decide) (hR 85 5 91 rfl) ?_
    refine G_go rfl rfl ?_
    refine G_zr (n := 6) rfl rfl (by decide) (by decide) g2 ?_
    obtain ⟨g3, h⟩ := h
    refine G_zw (n := 6) rfl rfl (by decide) (by decide) g2 g3 ?_
    have hR := refs_up (a := 9) (k := x2.toNat) (x := s 91 x2.toNat) hR rfl
    refine G_go rfl rfl ?_
    refine G_rf rfl rfl (by decide) (hR 3 6 10 rfl) ?_
    refine G_go rfl rfl ?_
    refine G_go rfl rfl ?_
    refine G_rf rfl rfl (by decide) (hR 85 6 92 rfl) ?_
    refine G_go rfl rfl ?_
    refine G_ir (n := 6) rfl rfl (by decide) (by decide) g2 ?_
    refine G_iw (n := 6) rfl rfl (by decide) (by decide) g2 ?_
    have hR := refs_up (a := 10) (k := x2.toNat) (x := s 92 x2.toNat) hR rfl
    refine G_go rfl rfl ?_
    refine G_rf rfl rfl (by decide) (hR 3 7 11 rfl) ?_
    refine G_go rfl rfl ?_
    refine G_go rfl rfl ?_
    refine G_rf rfl rfl (by decide) (hR 85 7 93 rfl) ?_
    refine G_go rfl rfl ?_
    refine G_ir (n := 6) rfl rfl (by decide) (by decide) g2 ?_
    refine G_iw (n := 6) rfl rfl (by decide) (by decide) g2 ?_
    have hR := refs_up (a := 11) (k := x2.toNat) (x := s 93 x2.toNat) hR rfl
    refine G_go rfl rfl ?_
    refine G_go rfl rfl ?_
    exact h
theorem c_become_3_85 (n : Nat) (s : Nat → Nat → Int) (Q : List Vl → Sto → Prop) (hR : refs s) (h1 : 0 ≤ s 85 9 ∧ s 85 9 ≤ 6) (h5 : ∀ p : Nat, (p : Int) < s 85 9 → s 91 p = 0 ∨ s 91 p = 1) (hq : ∀ s1, refs s1 → bcm 3 85 s s1 → Q [] (n, s1)) : G 2 120 7 0 [(3, 3), (3, 85), (0, 0)] [] (n, s) Q := by
  refine sb_X5_become_0_3_85 n s Q hR ?_
  refine G_up (s 85 9).toNat (fun k _ => ∀ s1, refs s1 → bci 3 85 s k s1 → G 2 120 7 2 [(3, 3), (3, 85), (1, (k : Int))] [] (n, s1) Q) (fun _ _ => ()) (fun _ _ => True) () trivial (fun _ _ _ _ => trivial) (fun k _ hk _ hg s1 hR1 hI => ?_) (fun _ s1 hR1 hI => ?_) s hR ⟨fun _ _ => rfl, fun _ _ p hp => absurd hp (by omega)⟩
  · have e3 : s1 85 = s 85 := hI.1 85 (by omega)
    have e9 : s1 91 = s 91 := hI.1 91 (by omega)
    have h5 := h5 k (by omega)
    rw [← e9] at h5
    rw [← wr_s hk (by omega)] at hg
    refine sb_X5_become_2_3_85 n s1 Q k hR1 ?_
    rw [Int.toNat_natCast, e3]
    exact ⟨fun e => absurd e (by omega), fun _ => ⟨by omega, h5, hg (cp1 3 85 k s1) (refs_up (refs_up (refs_up (refs_up (refs_up (refs_up (refs_up (refs_up hR1 rfl) rfl) rfl) rfl) rfl) rfl) rfl) rfl) (bci_step (by omega) hI)⟩⟩
  · have e3 : s1 85 = s 85 := hI.1 85 (by omega)
    refine sb_X5_become_2_3_85 n s1 Q _ hR1 ⟨fun _ => hq _ (refs_up (refs_up hR1 rfl) rfl) (bcm_end (by omega) hI), fun e => absurd e ?_⟩
    rw [e3]
    omega
theorem sb_X5_become_0_3_95 (n : Nat) (s : Nat → Nat → Int) (Q : List Vl → Sto → Prop) (hR : refs s)
    (h : G 2 120 7 2 [(3, 3), (3, 95), (1, 0)] [] (n, s) Q) :
    G 2 120 7 0 [(3, 3), (3, 95), (0, 0)] [] (n, s) Q := by
  refine G_go rfl rfl ?_
  refine G_go rfl rfl ?_
  show G 2 120 7 2 [(3, 3), (3, 95), (1, 0)] [] (n, s) Q
  exact h
theorem sb_X5_become_2_3_95 (n : Nat) (s : Nat → Nat → Int) (Q : List Vl → Sto → Prop) (x2 : Int) (hR : refs s)
    (h : (s 95 9 ≤ x2 → Q [] (n, upS (upS s 3 9 (s 95 9)) 3 10 (s 95 10))) ∧ (x2 < s 95 9 → (0 ≤ x2 ∧ x2 < 6) ∧ ((s 101 x2.toNat = 0 ∨ s 101 x2.toNat = 1) ∧ (G 2 120 7 2 [(3, 3), (3, 95), (1, wr (x2 + 1))] [] (n, upS (upS (upS (upS (upS (upS (upS (upS s 4 x2.toNat (s 96 x2.toNat)) 5 x2.toNat (s 97 x2.toNat)) 6 x2.toNat (s 98 x2.toNat)) 7 x2.toNat (s 99 x2.toNat)) 8 x2.toNat (s 100 x2.toNat)) 9 x2.toNat (s 101 x2.toNat)) 10 x2.toNat (s 102 x2.toNat)) 11 x2.toNat (s 103 x2.toNat)) Q)))) :
    G 2 120 7 2 [(3, 3), (3, 95), (1, x2)] [] (n, s) Q := by
  refine G_go rfl rfl ?_
  refine G_go rfl rfl ?_
  refine G_rd rfl rfl (by decide) ?_
  refine G_ge rfl rfl (fun c1 => ?_) (fun c1 => ?_)
  · have h := h.1 c1
    refine G_go rfl rfl ?_
    refine G_go rfl rfl ?_
    refine G_rd rfl rfl (by decide) ?_
    refine G_wr rfl rfl (by decide) ?_
    have hR := refs_up (a := 3) (k := 9) (x := s 95 9) hR rfl
    refine G_go rfl rfl ?_
    refine G_go rfl rfl ?_
    refine G_rd rfl rfl (by decide) ?_
    refine G_wr rfl rfl (by decide) ?_
    have hR := refs_up (a := 3) (k := 10) (x := s 95 10) hR rfl
    exact G_ret rfl rfl h
  · have h := h.2 c1
    refine G_go rfl rfl ?_
    refine G_rf rfl rfl (by decide) (hR 3 0 4 rfl) ?_
    refine G_go rfl rfl ?_
    refine G_go rfl rfl ?_
    refine G_rf rfl rfl (by decide) (hR 95 0 96 rfl) ?_
    refine G_go rfl rfl ?_
    obtain ⟨g2, h⟩ := h
    refine G_ir (n := 6) rfl rfl (by decide) (by decide) g2 ?_
    refine G_iw (n := 6) rfl rfl (by decide) (by decide) g2 ?_
    have hR := refs_up (a := 4) (k := x2.toNat) (x := s 96 x2.toNat) hR rfl
    refine G_go rfl rfl ?_
    refine G_rf rfl rfl (by decide) (hR 3 1 5 rfl) ?_
    refine G_go rfl rfl ?_
    refine G_go rfl rfl ?_
    refine G_rf rfl rfl (by decide) (hR 95 1 97 rfl) ?_
    refine G_go rfl rfl ?_
    refine G_ir (n := 6) rfl rfl (by decide) (by decide) g2 ?_
    refine G_iw (n := 6) rfl rfl (by decide) (by decide) g2 ?_
    have hR := refs_up (a := 5) (k := x2.toNat) (x := s 97 x2.toNat) hR rfl
    refine G_go rfl rfl ?_
    refine G_rf rfl rfl (by decide) (hR 3 2 6 rfl) ?_
    refine G_go rfl rfl ?_
    refine G_go rfl rfl ?_
    refine G_rf rfl rfl (by decide) (hR 95 2 98 rfl) ?_
    refine G_go rfl rfl ?_
    refine G_ir (n := 6) rfl rfl (by decide) (by decide) g2 ?_
    refine G_iw (n := 6) rfl rfl (by decide) (by decide) g2 ?_
    have hR := refs_up (a := 6) (k := x2.toNat) (x := s 98 x2.toNat) hR rfl
    refine G_go rfl rfl ?_
    refine G_rf rfl rfl (by decide) (hR 3 3 7 rfl) ?_
    refine G_go rfl rfl ?_
    refine G_go rfl rfl ?_
    refine G_rf rfl rfl (by decide) (hR 95 3 99 rfl) ?_
    refine G_go rfl rfl ?_
    refine G_ir (n := 6) rfl rfl (by decide) (by decide) g2 ?_
    refine G_iw (n := 6) rfl rfl (by decide) (by decide) g2 ?_
    have hR := refs_up (a := 7) (k := x2.toNat) (x := s 99 x2.toNat) hR rfl
    refine G_go rfl rfl ?_
    refine G_rf rfl rfl (by decide) (hR 3 4 8 rfl) ?_
    refine G_go rfl rfl ?_
    refine G_go rfl rfl ?_
    refine G_rf rfl rfl (by decide) (hR 95 4 100 rfl) ?_
    refine G_go rfl rfl ?_
    refine G_ir (n := 6) rfl rfl (by decide) (by decide) g2 ?_
    refine G_iw (n := 6) rfl rfl (by decide) (by decide) g2 ?_
    have hR := refs_up (a := 8) (k := x2.toNat) (x := s 100 x2.toNat) hR rfl
    refine G_go rfl rfl ?_
    refine G_rf rfl rfl (by decide) (hR 3 5 9 rfl) ?_
    refine G_go rfl rfl ?_
    refine G_go rfl rfl ?_
    refine G_rf rfl rfl (by decide) (hR 95 5 101 rfl) ?_
    refine G_go rfl rfl ?_
    refine G_zr (n := 6) rfl rfl (by decide) (by decide) g2 ?_
    obtain ⟨g3, h⟩ := h
    refine G_zw (n := 6) rfl rfl (by decide) (by decide) g2 g3 ?_
    have hR := refs_up (a := 9) (k := x2.toNat) (x := s 101 x2.toNat) hR rfl
    refine G_go rfl rfl ?_
    refine G_rf rfl rfl (by decide) (hR 3 6 10 rfl) ?_
    refine G_go rfl rfl ?_
    refine G_go rfl rfl ?_
    refine G_rf rfl rfl (by decide) (hR 95 6 102 rfl) ?_
    refine G_go rfl rfl ?_
    refine G_ir (n := 6) rfl rfl (by decide) (by decide) g2 ?_
    refine G_iw (n := 6) rfl rfl (by decide) (by decide) g2 ?_
    have hR := refs_up (a := 10) (k := x2.toNat) (x := s 102 x2.toNat) hR rfl
    refine G_go rfl rfl ?_
    refine G_rf rfl rfl (by decide) (hR 3 7 11 rfl) ?_
    refine G_go rfl rfl ?_
    refine G_go rfl rfl ?_
    refine G_rf rfl rfl (by decide) (hR 95 7 103 rfl) ?_
    refine G_go rfl rfl ?_
    refine G_ir (n := 6) rfl rfl (by decide) (by decide) g2 ?_
    refine G_iw (n := 6) rfl rfl (by decide) (by decide) g2 ?_
    have hR := refs_up (a := 11) (k := x2.toNat) (x := s 103 x2.toNat) hR rfl
    refine G_go rfl rfl ?_
    refine G_go rfl rfl ?_
    exact h
theorem c_become_3_95 (n : Nat) (s : Nat → Nat → Int) (Q : List Vl → Sto → Prop) (hR : refs s) (h1 : 0 ≤ s 95 9 ∧ s 95 9 ≤ 6) (h5 : ∀ p : Nat, (p : Int) < s 95 9 → s 101 p = 0 ∨ s 101 p = 1) (hq : ∀ s1, refs s1 → bcm 3 95 s s1 → Q [] (n, s1)) : G 2 120 7 0 [(3, 3), (3, 95), (0, 0)] [] (n, s) Q := by
  refine sb_X5_become_0_3_95 n s Q hR ?_
  refine G_up (s 95 9).toNat (fun k _ => ∀ s1, refs s1 → bci 3 95 s k s1 → G 2 120 7 2 [(3, 3), (3, 95), (1, (k : Int))] [] (n, s1) Q) (fun _ _ => ()) (fun _ _ => True) () trivial (fun _ _ _ _ => trivial) (fun k _ hk _ hg s1 hR1 hI => ?_) (fun _ s1 hR1 hI => ?_) s hR ⟨fun _ _ => rfl, fun _ _ p hp => absurd hp (by omega)⟩
  · have e3 : s1 95 = s 95 := hI.1 95 (by omega)
    have e9 : s1 101 = s 101 := hI.1 101 (by omega)
    have h5 := h5 k (by omega)
    rw [← e9] at h5
    rw [← wr_s hk (by omega)] at hg
    refine sb_X5_become_2_3_95 n s1 Q k hR1 ?_
    rw [Int.toNat_natCast, e3]
    exact ⟨fun e => absurd e (by omega), fun _ => ⟨by omega, h5, hg (cp1 3 95 k s1) (refs_up (refs_up (refs_up (refs_up (refs_up (refs_up (refs_up (refs_up hR1 rfl) rfl) rfl) rfl) rfl) rfl) rfl) rfl) (bci_step (by omega) hI)⟩⟩
  · have e3 : s1 95 = s 95 := hI.1 95 (by omega)
    refine sb_X5_become_2_3_95 n s1 Q _ hR1 ⟨fun _ => hq _ (refs_up (refs_up hR1 rfl) rfl) (bcm_end (by omega) hI), fun e => absurd e ?_⟩
    rw [e3]
    omega
theorem sb_X5_become_0_3_105 (n : Nat) (s : Nat → Nat → Int) (Q : List Vl → Sto → Prop) (hR : refs s)
    (h : G 2 120 7 2 [(3, 3), (3, 105), (1, 0)] [] (n, s) Q) :
    G 2 120 7 0 [(3, 3), (3, 105), (0, 0)] [] (n, s) Q := by
  refine G_go rfl rfl ?_
  refine G_go rfl rfl ?_
  show G 2 120 7 2 [(3, 3), (3, 105), (1, 0)] [] (n, s) Q
  exact h
theorem sb_X5_become_2_3_105 (n : Nat) (s : Nat → Nat → Int) (Q : List Vl → Sto → Prop) (x2 : Int) (hR : refs s)
    (h : (s 105 9 ≤ x2 → Q [] (n, upS (upS s 3 9 (s 105 9)) 3 10 (s 105 10))) ∧ (x2 < s 105 9 → (0 ≤ x2 ∧ x2 < 6) ∧ ((s 111 x2.toNat = 0 ∨ s 111 x2.toNat = 1) ∧ (G 2 120 7 2 [(3, 3), (3, 105), (1, wr (x2 + 1))] [] (n, upS (upS (upS (upS (upS (upS (upS (upS s 4 x2.toNat (s 106 x2.toNat)) 5 x2.toNat (s 107 x2.toNat)) 6 x2.toNat (s 108 x2.toNat)) 7 x2.toNat (s 109 x2.toNat)) 8 x2.toNat (s 110 x2.toNat)) 9 x2.toNat (s 111 x2.toNat)) 10 x2.toNat (s 112 x2.toNat)) 11 x2.toNat (s 113 x2.toNat)) Q)))) :
    G 2 120 7 2 [(3, 3), (3, 105), (1, x2)] [] (n, s) Q := by
  refine G_go rfl rfl ?_
  refine G_go rfl rfl ?_
  refine G_rd rfl rfl (by decide) ?_
  refine G_ge rfl rfl (fun c1 => ?_) (fun c1 => ?_)
  · have h := h.1 c1
    refine G_go rfl rfl ?_
    refine G_go rfl rfl ?_
    refine G_rd rfl rfl (by decide) ?_
    refine G_wr rfl rfl (by decide) ?_
    have hR := refs_up (a := 3) (k := 9) (x := s 105 9) hR rfl
    refine G_go rfl rfl ?_
    refine G_go rfl rfl ?_
    refine G_rd rfl rfl (by decide) ?_
    refine G_wr rfl rfl (by decide) ?_
    have hR := refs_up (a := 3) (k := 10) (x := s 105 10) hR rfl
    exact G_ret rfl rfl h
  · have h := h.2 c1
    refine G_go rfl rfl ?_
    refine G_rf rfl rfl (by decide) (hR 3 0 4 rfl) ?_
    refine G_go rfl rfl ?_
    refine G_go rfl rfl ?_
    refine G_rf rfl rfl (by decide) (hR 105 0 106 rfl) ?_
    refine G_go rfl rfl ?_
    obtain ⟨g2, h⟩ := h
    refine G_ir (n := 6) rfl rfl (by decide) (by decide) g2 ?_
    refine G_iw (n := 6) rfl rfl (by decide) (by decide) g2 ?_
    have hR := refs_up (a := 4) (k := x2.toNat) (x := s 106 x2.toNat) hR rfl
    refine G_go rfl rfl ?_
    refine G_rf rfl rfl (by decide) (hR 3 1 5 rfl) ?_
    refine G_go rfl rfl ?_
    refine G_go rfl rfl ?_
    refine G_rf rfl rfl (by decide) (hR 105 1 107 rfl) ?_
    refine G_go rfl rfl ?_
    refine G_ir (n := 6) rfl rfl (by decide) (by decide) g2 ?_
    refine G_iw (n := 6) rfl rfl (by decide) (by decide) g2 ?_
    have hR := refs_up (a := 5) (k := x2.toNat) (x := s 107 x2.toNat) hR rfl
    refine G_go rfl rfl ?_
    refine G_rf rfl rfl (by decide) (hR 3 2 6 rfl) ?_
    refine G_go rfl rfl ?_
    refine G_go rfl rfl ?_
    refine G_rf rfl rfl (by decide) (hR 105 2 108 rfl) ?_
    refine G_go rfl rfl ?_
    refine G_ir (n := 6) rfl rfl (by decide) (by decide) g2 ?_
    refine G_iw (n := 6) rfl rfl (by decide) (by decide) g2 ?_
    have hR := refs_up (a := 6) (k := x2.toNat) (x := s 108 x2.toNat) hR rfl
    refine G_go rfl rfl ?_
    refine G_rf rfl rfl (by decide) (hR 3 3 7 rfl) ?_
    refine G_go rfl rfl ?_
    refine G_go rfl rfl ?_
    refine G_rf rfl rfl (by decide) (hR 105 3 109 rfl) ?_
    refine G_go rfl rfl ?_
    refine G_ir (n := 6) rfl rfl (by decide) (by decide) g2 ?_
    refine G_iw (n := 6) rfl rfl (by decide) (by decide) g2 ?_
    have hR := refs_up (a := 7) (k := x2.toNat) (x := s 109 x2.toNat) hR rfl
    refine G_go rfl rfl ?_
    refine G_rf rfl rfl (by decide) (hR 3 4 8 rfl) ?_
    refine G_go rfl rfl ?_
    refine G_go rfl rfl ?_
    refine G_rf rfl rfl (by decide) (hR 105 4 110 rfl) ?_
    refine G_go rfl rfl ?_
    refine G_ir (n := 6) rfl rfl (by decide) (by decide) g2 ?_
    refine G_iw (n := 6) rfl rfl (by decide) (by decide) g2 ?_
    have hR := refs_up (a := 8) (k := x2.toNat) (x := s 110 x2.toNat) hR rfl
    refine G_go rfl rfl ?_
    refine G_rf rfl rfl (by decide) (hR 3 5 9 rfl) ?_
    refine G_go rfl rfl ?_
    refine G_go rfl rfl ?_
    refine G_rf rfl rfl (by decide) (hR 105 5 111 rfl) ?_
    refine G_go rfl rfl ?_
    refine G_zr (n := 6) rfl rfl (by decide) (by decide) g2 ?_
    obtain ⟨g3, h⟩ := h
    refine G_zw (n := 6) rfl rfl (by decide) (by decide) g2 g3 ?_
    have hR := refs_up (a := 9) (k := x2.toNat) (x := s 111 x2.toNat) hR rfl
    refine G_go rfl rfl ?_
    refine G_rf rfl rfl (by decide) (hR 3 6 10 rfl) ?_
    refine G_go rfl rfl ?_
    refine G_go rfl rfl ?_
    refine G_rf rfl rfl (by decide) (hR 105 6 112 rfl) ?_
    refine G_go rfl rfl ?_
    refine G_ir (n := 6) rfl rfl (by decide) (by decide) g2 ?_
    refine G_iw (n := 6) rfl rfl (by decide) (by decide) g2 ?_
    have hR := refs_up (a := 10) (k := x2.toNat) (x := s 112 x2.toNat) hR rfl
    refine G_go rfl rfl ?_
    refine G_rf rfl rfl (by decide) (hR 3 7 11 rfl) ?_
    refine G_go rfl rfl ?_
    refine G_go rfl rfl ?_
    refine G_rf rfl rfl (by decide) (hR 105 7 113 rfl) ?_
    refine G_go rfl rfl ?_
    refine G_ir (n := 6) rfl rfl (by decide) (by decide) g2 ?_
    refine G_iw (n := 6) rfl rfl (by decide) (by decide) g2 ?_
    have hR := refs_up (a := 11) (k := x2.toNat) (x := s 113 x2.toNat) hR rfl
    refine G_go rfl rfl ?_
    refine G_go rfl rfl ?_
    exact h
theorem c_become_3_105 (n : Nat) (s : Nat → Nat → Int) (Q : List Vl → Sto → Prop) (hR : refs s) (h1 : 0 ≤ s 105 9 ∧ s 105 9 ≤ 6) (h5 : ∀ p : Nat, (p : Int) < s 105 9 → s 111 p = 0 ∨ s 111 p = 1) (hq : ∀ s1, refs s1 → bcm 3 105 s s1 → Q [] (n, s1)) : G 2 120 7 0 [(3, 3), (3, 105), (0, 0)] [] (n, s) Q := by
  refine sb_X5_become_0_3_105 n s Q hR ?_
  refine G_up (s 105 9).toNat (fun k _ => ∀ s1, refs s1 → bci 3 105 s k s1 → G 2 120 7 2 [(3, 3), (3, 105), (1, (k : Int))] [] (n, s1) Q) (fun _ _ => ()) (fun _ _ => True) () trivial (fun _ _ _ _ => trivial) (fun k _ hk _ hg s1 hR1 hI => ?_) (fun _ s1 hR1 hI => ?_) s hR ⟨fun _ _ => rfl, fun _ _ p hp => absurd hp (by omega)⟩
  · have e3 : s1 105 = s 105 := hI.1 105 (by omega)
    have e9 : s1 111 = s 111 := hI.1 111 (by omega)
    have h5 := h5 k (by omega)
    rw [← e9] at h5
    rw [← wr_s hk (by omega)] at hg
    refine sb_X5_become_2_3_105 n s1 Q k hR1 ?_
    rw [Int.toNat_natCast, e3]
    exact ⟨fun e => absurd e (by omega), fun _ => ⟨by omega, h5, hg (cp1 3 105 k s1) (refs_up (refs_up (refs_up (refs_up (refs_up (refs_up (refs_up (refs_up hR1 rfl) rfl) rfl) rfl) rfl) rfl) rfl) rfl) (bci_step (by omega) hI)⟩⟩
  · have e3 : s1 105 = s 105 := hI.1 105 (by omega)
    refine sb_X5_become_2_3_105 n s1 Q _ hR1 ⟨fun _ => hq _ (refs_up (refs_up hR1 rfl) rfl) (bcm_end (by omega) hI), fun e => absurd e ?_⟩
    rw [e3]
    omega
theorem sb_X5_become_0_23_3 (n : Nat) (s : Nat → Nat → Int) (Q : List Vl → Sto → Prop) (hR : refs s)
    (h : G 2 120 7 2 [(3, 23), (3, 3), (1, 0)] [] (n, s) Q) :
    G 2 120 7 0 [(3, 23), (3, 3), (0, 0)] [] (n, s) Q := by
  refine G_go rfl rfl ?_
  refine G_go rfl rfl ?_
  show G 2 120 7 2 [(3, 23), (3, 3), (1, 0)] [] (n, s) Q
  exact h
theorem sb_X5_become_2_23_3 (n : Nat) (s : Nat → Nat → Int) (Q : List Vl → Sto → Prop) (x2 : Int) (hR : refs s)
    (h : (s 3 9 ≤ x2 → Q [] (n, upS (upS s 23 9 (s 3 9)) 23 10 (s 3 10))) ∧ (x2 < s 3 9 → (0 ≤ x2 ∧ x2 < 6) ∧ ((s 9 x2.toNat = 0 ∨ s 9 x2.toNat = 1) ∧ (G 2 120 7 2 [(3, 23), (3, 3), (1, wr (x2 + 1))] [] (n, upS (upS (upS (upS (upS (upS (upS (upS s 24 x2.toNat (s 4 x2.toNat)) 25 x2.toNat (s 5 x2.toNat)) 26 x2.toNat (s 6 x2.toNat)) 27 x2.toNat (s 7 x2.toNat)) 28 x2.toNat (s 8 x2.toNat)) 29 x2.toNat (s 9 x2.toNat)) 30 x2.toNat (s 10 x2.toNat)) 31 x2.toNat (s 11 x2.toNat)) Q)))) :
    G 2 120 7 2 [(3, 23), (3, 3), (1, x2)] [] (n, s) Q := by
  refine G_go rfl rfl ?_
  refine G_go rfl rfl ?_
  refine G_rd rfl rfl (by decide) ?_
  refine G_ge rfl rfl (fun c1 => ?_) (fun c1 => ?_)
  · have h := h.1 c1
    refine G_go rfl rfl ?_
    refine G_go rfl rfl ?_
    refine G_rd rfl rfl (by decide) ?_
    refine G_wr rfl rfl (by decide) ?_
    have hR := refs_up (a := 23) (k := 9) (x := s 3 9) hR rfl
    refine G_go rfl rfl ?_
    refine G_go rfl rfl ?_
    refine G_rd rfl rfl (by decide) ?_
    refine G_wr rfl rfl (by decide) ?_
    have hR := refs_up (a := 23) (k := 10) (x := s 3 10) hR rfl
    exact G_ret rfl rfl h
  · have h := h.2 c1
    refine G_go rfl rfl ?_
    refine G_rf rfl rfl (by decide) (hR 23 0 24 rfl) ?_
    refine G_go rfl rfl ?_
    refine G_go rfl rfl ?_
    refine G_rf rfl rfl (by decide) (hR 3 0 4 rfl) ?_
    refine G_go rfl rfl ?_
    obtain ⟨g2, h⟩ := h
    refine G_ir (n := 6) rfl rfl (by decide) (by decide) g2 ?_
    refine G_iw (n := 6) rfl rfl (by decide) (by decide) g2 ?_
    have hR := refs_up (a := 24) (k := x2.toNat) (x := s 4 x2.toNat) hR rfl
    refine G_go rfl rfl ?_
    refine G_rf rfl rfl (by decide) (hR 23 1 25 rfl) ?_
    refine G_go rfl rfl ?_
    refine G_go rfl rfl ?_
    refine G_rf rfl rfl (by decide) (hR 3 1 5 rfl) ?_
    refine G_go rfl rfl ?_
    refine G_ir (n := 6) rfl rfl (by decide) (by decide) g2 ?_
    refine G_iw (n := 6) rfl rfl (by decide) (by decide) g2 ?_
    have hR := refs_up (a := 25) (k := x2.toNat) (x := s 5 x2.toNat) hR rfl
    refine G_go rfl rfl ?_
    refine G_rf rfl rfl (by decide) (hR 23 2 26 rfl) ?_
    refine G_go rfl rfl ?_
    refine G_go rfl rfl ?_
    refine G_rf rfl rfl (by decide) (hR 3 2 6 rfl) ?_
    refine G_go rfl rfl ?_
    refine G_ir (n := 6) rfl rfl (by decide) (by decide) g2 ?_
    refine G_iw (n := 6) rfl rfl (by decide) (by decide) g2 ?_
    have hR := refs_up (a := 26) (k := x2.toNat) (x := s 6 x2.toNat) hR rfl
    refine G_go rfl rfl ?_
    refine G_rf rfl rfl (by decide) (hR 23 3 27 rfl) ?_
    refine G_go rfl rfl ?_
    refine G_go rfl rfl ?_
    refine G_rf rfl rfl (by decide) (hR 3 3 7 rfl) ?_
    refine G_go rfl rfl ?_
    refine G_ir (n := 6) rfl rfl (by decide) (by decide) g2 ?_
    refine G_iw (n := 6) rfl rfl (by decide) (by decide) g2 ?_
    have hR := refs_up (a := 27) (k := x2.toNat) (x := s 7 x2.toNat) hR rfl
    refine G_go rfl rfl ?_
    refine G_rf rfl rfl (by decide) (hR 23 4 28 rfl) ?_
    refine G_go rfl rfl ?_
    refine G_go rfl rfl ?_
    refine G_rf rfl rfl (by decide) (hR 3 4 8 rfl) ?_
    refine G_go rfl rfl ?_
    refine G_ir (n := 6) rfl rfl (by decide) (by decide) g2 ?_
    refine G_iw (n := 6) rfl rfl (by decide) (by decide) g2 ?_
    have hR := refs_up (a := 28) (k := x2.toNat) (x := s 8 x2.toNat) hR rfl
    refine G_go rfl rfl ?_
    refine G_rf rfl rfl (by decide) (hR 23 5 29 rfl) ?_
    refine G_go rfl rfl ?_
    refine G_go rfl rfl ?_
    refine G_rf rfl rfl (by decide) (hR 3 5 9 rfl) ?_
    refine G_go rfl rfl ?_
    refine G_zr (n := 6) rfl rfl (by decide) (by decide) g2 ?_
    obtain ⟨g3, h⟩ := h
    refine G_zw (n := 6) rfl rfl (by decide) (by decide) g2 g3 ?_
    have hR := refs_up (a := 29) (k := x2.toNat) (x := s 9 x2.toNat) hR rfl
    refine G_go rfl rfl ?_
    refine G_rf rfl rfl (by decide) (hR 23 6 30 rfl) ?_
    refine G_go rfl rfl ?_
    refine G_go rfl rfl ?_
    refine G_rf rfl rfl (by decide) (hR 3 6 10 rfl) ?_
    refine G_go rfl rfl ?_
    refine G_ir (n := 6) rfl rfl (by decide) (by decide) g2 ?_
    refine G_iw (n := 6) rfl rfl (by decide) (by decide) g2 ?_
    have hR := refs_up (a := 30) (k := x2.toNat) (x := s 10 x2.toNat) hR rfl
    refine G_go rfl rfl ?_
    refine G_rf rfl rfl (by decide) (hR 23 7 31 rfl) ?_
    refine G_go rfl rfl ?_
    refine G_go rfl rfl ?_
    refine G_rf rfl rfl (by decide) (hR 3 7 11 rfl) ?_
    refine G_go rfl rfl ?_
    refine G_ir (n := 6) rfl rfl (by decide) (by decide) g2 ?_
    refine G_iw (n := 6) rfl rfl (by decide) (by decide) g2 ?_
    have hR := refs_up (a := 31) (k := x2.toNat) (x := s 11 x2.toNat) hR rfl
    refine G_go rfl rfl ?_
    refine G_go rfl rfl ?_
    exact h
theorem c_become_23_3 (n : Nat) (s : Nat → Nat → Int) (Q : List Vl → Sto → Prop) (hR : refs s) (h1 : 0 ≤ s 3 9 ∧ s 3 9 ≤ 6) (h5 : ∀ p : Nat, (p : Int) < s 3 9 → s 9 p = 0 ∨ s 9 p = 1) (hq : ∀ s1, refs s1 → bcm 23 3 s s1 → Q [] (n, s1)) : G 2 120 7 0 [(3, 23), (3, 3), (0, 0)] [] (n, s) Q := by
  refine sb_X5_become_0_23_3 n s Q hR ?_
  refine G_up (s 3 9).toNat (fun k _ => ∀ s1, refs s1 → bci 23 3 s k s1 → G 2 120 7 2 [(3, 23), (3, 3), (1, (k : Int))] [] (n, s1) Q) (fun _ _ => ()) (fun _ _ => True) () trivial (fun _ _ _ _ => trivial) (fun k _ hk _ hg s1 hR1 hI => ?_) (fun _ s1 hR1 hI => ?_) s hR ⟨fun _ _ => rfl, fun _ _ p hp => absurd hp (by omega)⟩
  · have e3 : s1 3 = s 3 := hI.1 3 (by omega)
    have e9 : s1 9 = s 9 := hI.1 9 (by omega)
    have h5 := h5 k (by omega)
    rw [← e9] at h5
    rw [← wr_s hk (by omega)] at hg
    refine sb_X5_become_2_23_3 n s1 Q k hR1 ?_
    rw [Int.toNat_natCast, e3]
    exact ⟨fun e => absurd e (by omega), fun _ => ⟨by omega, h5, hg (cp1 23 3 k s1) (refs_up (refs_up (refs_up (refs_up (refs_up (refs_up (refs_up (refs_up hR1 rfl) rfl) rfl) rfl) rfl) rfl) rfl) rfl) (bci_step (by omega) hI)⟩⟩
  · have e3 : s1 3 = s 3 := hI.1 3 (by omega)
    refine sb_X5_become_2_23_3 n s1 Q _ hR1 ⟨fun _ => hq _ (refs_up (refs_up hR1 rfl) rfl) (bcm_end (by omega) hI), fun e => absurd e ?_⟩
    rw [e3]
    omega
theorem sb_X5_become_0_3_23 (n : Nat) (s : Nat → Nat → Int) (Q : List Vl → Sto → Prop) (hR : refs s)
    (h : G 2 120 7 2 [(3, 3), (3, 23), (1, 0)] [] (n, s) Q) :
    G 2 120 7 0 [(3, 3), (3, 23), (0, 0)] [] (n, s) Q := by
  refine G_go rfl rfl ?_
  refine G_go rfl rfl ?_
  show G 2 120 7 2 [(3, 3), (3, 23), (1, 0)] [] (n, s) Q
  exact h
theorem sb_X5_become_2_3_23 (n : Nat) (s : Nat → Nat → Int) (Q : List Vl → Sto → Prop) (x2 : Int) (hR : refs s)
    (h : (s 23 9 ≤ x2 → Q [] (n, upS (upS s 3 9 (s 23 9)) 3 10 (s 23 10))) ∧ (x2 < s 23 9 → (0 ≤ x2 ∧ x2 < 6) ∧ ((s 29 x2.toNat = 0 ∨ s 29 x2.toNat = 1) ∧ (G 2 120 7 2 [(3, 3), (3, 23), (1, wr (x2 + 1))] [] (n, upS (upS (upS (upS (upS (upS (upS (upS s 4 x2.toNat (s 24 x2.toNat)) 5 x2.toNat (s 25 x2.toNat)) 6 x2.toNat (s 26 x2.toNat)) 7 x2.toNat (s 27 x2.toNat)) 8 x2.toNat (s 28 x2.toNat)) 9 x2.toNat (s 29 x2.toNat)) 10 x2.toNat (s 30 x2.toNat)) 11 x2.toNat (s 31 x2.toNat)) Q)))) :
    G 2 120 7 2 [(3, 3), (3, 23), (1, x2)] [] (n, s) Q := by
  refine G_go rfl rfl ?_
  refine G_go rfl rfl ?_
  refine G_rd rfl rfl (by decide) ?_
  refine G_ge rfl rfl (fun c1 => ?_) (fun c1 => ?_)
  · have h := h.1 c1
    refine G_go rfl rfl ?_
    refine G_go rfl rfl ?_
    refine G_rd rfl rfl (by decide) ?_
    refine G_wr rfl rfl (by decide) ?_
    have hR := refs_up (a := 3) (k := 9) (x := s 23 9) hR rfl
    refine G_go rfl rfl ?_
    refine G_go rfl rfl ?_
    refine G_rd rfl rfl (by decide) ?_
    refine G_wr rfl rfl (by decide) ?_
    have hR := refs_up (a := 3) (k := 10) (x := s 23 10) hR rfl
    exact G_ret rfl rfl h
  · have h := h.2 c1
    refine G_go rfl rfl ?_
    refine G_rf rfl rfl (by decide) (hR 3 0 4 rfl) ?_
    refine G_go rfl rfl ?_
    refine G_go rfl rfl ?_
    refine G_rf rfl rfl (by decide) (hR 23 0 24 rfl) ?_
    refine G_go rfl rfl ?_
    obtain ⟨g2, h⟩ := h
    refine G_ir (n := 6) rfl rfl (by decide) (by decide) g2 ?_
    refine G_iw (n := 6) rfl rfl (by decide) (by decide) g2 ?_
    have hR := refs_up (a := 4) (k := x2.toNat) (x := s 24 x2.toNat) hR rfl
    refine G_go rfl rfl ?_
    refine G_rf rfl rfl (by decide) (hR 3 1 5 rfl) ?_
    refine G_go rfl rfl ?_
    refine G_go rfl rfl ?_
    refine G_rf rfl rfl (by decide) (hR 23 1 25 rfl) ?_
    refine G_go rfl rfl ?_
    refine G_ir (n := 6) rfl rfl (by decide) (by decide) g2 ?_
    refine G_iw (n := 6) rfl rfl (by decide) (by decide) g2 ?_
    have hR := refs_up (a := 5) (k := x2.toNat) (x := s 25 x2.toNat) hR rfl
    refine G_go rfl rfl ?_
    refine G_rf rfl rfl (by decide) (hR 3 2 6 rfl) ?_
    refine G_go rfl rfl ?_
    refine G_go rfl rfl ?_
    refine G_rf rfl rfl (by decide) (hR 23 2 26 rfl) ?_
    refine G_go rfl rfl ?_
    refine G_ir (n := 6) rfl rfl (by decide) (by decide) g2 ?_
    refine G_iw (n := 6) rfl rfl (by decide) (by decide) g2 ?_
    have hR := refs_up (a := 6) (k := x2.toNat) (x := s 26 x2.toNat) hR rfl
    refine G_go rfl rfl ?_
    refine G_rf rfl rfl (by decide) (hR 3 3 7 rfl) ?_
    refine G_go rfl rfl ?_
    refine G_go rfl rfl ?_
    refine G_rf rfl rfl (by decide) (hR 23 3 27 rfl) ?_
    refine G_go rfl rfl ?_
    refine G_ir (n := 6) rfl rfl (by decide) (by decide) g2 ?_
    refine G_iw (n := 6) rfl rfl (by decide) (by decide) g2 ?_
    have hR := refs_up (a := 7) (k := x2.toNat) (x := s 27 x2.toNat) hR rfl
    refine G_go rfl rfl ?_
    refine G_rf rfl rfl (by decide) (hR 3 4 8 rfl) ?_
    refine G_go rfl rfl ?_
    refine G_go rfl rfl ?_
    refine G_rf rfl rfl (by decide) (hR 23 4 28 rfl) ?_
    refine G_go rfl rfl ?_
    refine G_ir (n := 6) rfl rfl (by decide) (by decide) g2 ?_
    refine G_iw (n := 6) rfl rfl (by decide) (by decide) g2 ?_
    have hR := refs_up (a := 8) (k := x2.toNat) (x := s 28 x2.toNat) hR rfl
    refine G_go rfl rfl ?_
    refine G_rf rfl rfl (by decide) (hR 3 5 9 rfl) ?_
    refine G_go rfl rfl ?_
    refine G_go rfl rfl ?_
    refine G_rf rfl rfl (by decide) (hR 23 5 29 rfl) ?_
    refine G_go rfl rfl ?_
    refine G_zr (n := 6) rfl rfl (by decide) (by decide) g2 ?_
    obtain ⟨g3, h⟩ := h
    refine G_zw (n := 6) rfl rfl (by decide) (by decide) g2 g3 ?_
    have hR := refs_up (a := 9) (k := x2.toNat) (x := s 29 x2.toNat) hR rfl
    refine G_go rfl rfl ?_
    refine G_rf rfl rfl (by decide) (hR 3 6 10 rfl) ?_
    refine G_go rfl rfl ?_
    refine G_go rfl rfl ?_
    refine G_rf rfl rfl (by decide) (hR 23 6 30 rfl) ?_
    refine G_go rfl rfl ?_
    refine G_ir (n := 6) rfl rfl (by decide) (by decide) g2 ?_
    refine G_iw (n := 6) rfl rfl (by decide) (by decide) g2 ?_
    have hR := refs_up (a := 10) (k := x2.toNat) (x := s 30 x2.toNat) hR rfl
    refine G_go rfl rfl ?_
    refine G_rf rfl rfl (by decide) (hR 3 7 11 rfl) ?_
    refine G_go rfl rfl ?_
    refine G_go rfl rfl ?_
    refine G_rf rfl rfl (by decide) (hR 23 7 31 rfl) ?_
    refine G_go rfl rfl ?_
    refine G_ir (n := 6) rfl rfl (by decide) (by decide) g2 ?_
    refine G_iw (n := 6) rfl rfl (by decide) (by decide) g2 ?_
    have hR := refs_up (a := 11) (k := x2.toNat) (x := s 31 x2.toNat) hR rfl
    refine G_go rfl rfl ?_
    refine G_go rfl rfl ?_
    exact h
theorem c_become_3_23 (n : Nat) (s : Nat → Nat → Int) (Q : List Vl → Sto → Prop) (hR : refs s) (h1 : 0 ≤ s 23 9 ∧ s 23 9 ≤ 6) (h5 : ∀ p : Nat, (p : Int) < s 23 9 → s 29 p = 0 ∨ s 29 p = 1) (hq : ∀ s1, refs s1 → bcm 3 23 s s1 → Q [] (n, s1)) : G 2 120 7 0 [(3, 3), (3, 23), (0, 0)] [] (n, s) Q := by
  refine sb_X5_become_0_3_23 n s Q hR ?_
  refine G_up (s 23 9).toNat (fun k _ => ∀ s1, refs s1 → bci 3 23 s k s1 → G 2 120 7 2 [(3, 3), (3, 23), (1, (k : Int))] [] (n, s1) Q) (fun _ _ => ()) (fun _ _ => True) () trivial (fun _ _ _ _ => trivial) (fun k _ hk _ hg s1 hR1 hI => ?_) (fun _ s1 hR1 hI => ?_) s hR ⟨fun _ _ => rfl, fun _ _ p hp => absurd hp (by omega)⟩
  · have e3 : s1 23 = s 23 := hI.1 23 (by omega)
    have e9 : s1 29 = s 29 := hI.1 29 (by omega)
    have h5 := h5 k (by omega)
    rw [← e9] at h5
    rw [← wr_s hk (by omega)] at hg
    refine sb_X5_become_2_3_23 n s1 Q k hR1 ?_
    rw [Int.toNat_natCast, e3]
    exact ⟨fun e => absurd e (by omega), fun _ => ⟨by omega, h5, hg (cp1 3 23 k s1) (refs_up (refs_up (refs_up (refs_up (refs_up (refs_up (refs_up (refs_up hR1 rfl) rfl) rfl) rfl) rfl) rfl) rfl) rfl) (bci_step (by omega) hI)⟩⟩
  · have e3 : s1 23 = s 23 := hI.1 23 (by omega)
    refine sb_X5_become_2_3_23 n s1 Q _ hR1 ⟨fun _ => hq _ (refs_up (refs_up hR1 rfl) rfl) (bcm_end (by omega) hI), fun e => absurd e ?_⟩
    rw [e3]
    omega
theorem sb_X5_become_0_3_13 (n : Nat) (s : Nat → Nat → Int) (Q : List Vl → Sto → Prop) (hR : refs s)
    (h : G 2 120 7 2 [(3, 3), (3, 13), (1, 0)] [] (n, s) Q) :
    G 2 120 7 0 [(3, 3), (3, 13), (0, 0)] [] (n, s) Q := by
  refine G_go rfl rfl ?_
  refine G_go rfl rfl ?_
  show G 2 120 7 2 [(3, 3), (3, 13), (1, 0)] [] (n, s) Q
  exact h
theorem sb_X5_become_2_3_13 (n : Nat) (s : Nat → Nat → Int) (Q : List Vl → Sto → Prop) (x2 : Int) (hR : refs s)
    (h : (s 13 9 ≤ x2 → Q [] (n, upS (upS s 3 9 (s 13 9)) 3 10 (s 13 10))) ∧ (x2 < s 13 9 → (0 ≤ x2 ∧ x2 < 6) ∧ ((s 19 x2.toNat = 0 ∨ s 19 x2.toNat = 1) ∧ (G 2 120 7 2 [(3, 3), (3, 13), (1, wr (x2 + 1))] [] (n, upS (upS (upS (upS (upS (upS (upS (upS s 4 x2.toNat (s 14 x2.toNat)) 5 x2.toNat (s 15 x2.toNat)) 6 x2.toNat (s 16 x2.toNat)) 7 x2.toNat (s 17 x2.toNat)) 8 x2.toNat (s 18 x2.toNat)) 9 x2.toNat (s 19 x2.toNat)) 10 x2.toNat (s 20 x2.toNat)) 11 x2.toNat (s 21 x2.toNat)) Q)))) :
    G 2 120 7 2 [(3, 3), (3, 13), (1, x2)] [] (n, s) Q := by
  refine G_go rfl rfl ?_
  refine G_go rfl rfl ?_
  refine G_rd rfl rfl (by decide) ?_
  refine G_ge rfl rfl (fun c1 => ?_) (fun c1 => ?_)
  · have h := h.1 c1
    refine G_go rfl rfl ?_
    refine G_go rfl rfl ?_
    refine G_rd rfl rfl (by decide) ?_
    refine G_wr rfl rfl (by decide) ?_
    have hR := refs_up (a := 3) (k := 9) (x := s 13 9) hR rfl
    refine G_go rfl rfl ?_
    refine G_go rfl rfl ?_
    refine G_rd rfl rfl (by decide) ?_
    refine G_wr rfl rfl (by decide) ?_
    have hR := refs_up (a := 3) (k := 10) (x := s 13 10) hR rfl
    exact G_ret rfl rfl h
  · have h := h.2 c1
    refine G_go rfl rfl ?_
    refine G_rf rfl rfl (by decide) (hR 3 0 4 rfl) ?_
    refine G_go rfl rfl ?_
    refine G_go rfl rfl ?_
    refine G_rf rfl rfl (by decide) (hR 13 0 14 rfl) ?_
    refine G_go rfl rfl ?_
    obtain ⟨g2, h⟩ := h
    refine G_ir (n := 6) rfl rfl (by decide) (by decide) g2 ?_
    refine G_iw (n := 6) rfl rfl (by decide) (by decide) g2 ?_
    have hR := refs_up (a := 4) (k := x2.toNat) (x := s 14 x2.toNat) hR rfl
    refine G_go rfl rfl ?_
    refine G_rf rfl rfl (by decide) (hR 3 1 5 rfl) ?_
    refine G_go rfl rfl ?_
    refine G_go rfl rfl ?_
    refine G_rf rfl rfl (by decide) (hR 13 1 15 rfl) ?_
    refine G_go rfl rfl ?_
    refine G_ir (n := 6) rfl rfl (by decide) (by decide) g2 ?_
    refine G_iw (n := 6) rfl rfl (by decide) (by decide) g2 ?_
    have hR := refs_up (a := 5) (k := x2.toNat) (x := s 15 x2.toNat) hR rfl
    refine G_go rfl rfl ?_
    refine G_rf rfl rfl (by decide) (hR 3 2 6 rfl) ?_
    refine G_go rfl rfl ?_
    refine G_go rfl rfl ?_
    refine G_rf rfl rfl (by decide) (hR 13 2 16 rfl) ?_
    refine G_go rfl rfl ?_
    refine G_ir (n := 6) rfl rfl (by decide) (by decide) g2 ?_
    refine G_iw (n := 6) rfl rfl (by decide) (by decide) g2 ?_
    have hR := refs_up (a := 6) (k := x2.toNat) (x := s 16 x2.toNat) hR rfl
    refine G_go rfl rfl ?_
    refine G_rf rfl rfl (by decide) (hR 3 3 7 rfl) ?_
    refine G_go rfl rfl ?_
    refine G_go rfl rfl ?_
    refine G_rf rfl rfl (by decide) (hR 13 3 17 rfl) ?_
    refine G_go rfl rfl ?_
    refine G_ir (n := 6) rfl rfl (by decide) (by decide) g2 ?_
    refine G_iw (n := 6) rfl rfl (by decide) (by decide) g2 ?_
    have hR := refs_up (a := 7) (k := x2.toNat) (x := s 17 x2.toNat) hR rfl
    refine G_go rfl rfl ?_
    refine G_rf rfl rfl (by decide) (hR 3 4 8 rfl) ?_
    refine G_go rfl rfl ?_
    refine G_go rfl rfl ?_
    refine G_rf rfl rfl (by decide) (hR 13 4 18 rfl) ?_
    refine G_go rfl rfl ?_
    refine G_ir (n := 6) rfl rfl (by decide) (by decide) g2 ?_
    refine G_iw (n := 6) rfl rfl (by decide) (by decide) g2 ?_
    have hR := refs_up (a := 8) (k := x2.toNat) (x := s 18 x2.toNat) hR rfl
    refine G_go rfl rfl ?_
    refine G_rf rfl rfl (by decide) (hR 3 5 9 rfl) ?_
    refine G_go rfl rfl ?_
    refine G_go rfl rfl ?_
    refine G_rf rfl rfl (by decide) (hR 13 5 19 rfl) ?_
    refine G_go rfl rfl ?_
    refine G_zr (n := 6) rfl rfl (by decide) (by decide) g2 ?_
    obtain ⟨g3, h⟩ := h
    refine G_zw (n := 6) rfl rfl (by decide) (by decide) g2 g3 ?_
    have hR := refs_up (a := 9) (k := x2.toNat) (x := s 19 x2.toNat) hR rfl
    refine G_go rfl rfl ?_
    refine G_rf rfl rfl (by decide) (hR 3 6 10 rfl) ?_
    refine G_go rfl rfl ?_
    refine G_go rfl rfl ?_
    refine G_rf rfl rfl (by decide) (hR 13 6 20 rfl) ?_
    refine G_go rfl rfl ?_
    refine G_ir (n := 6) rfl rfl (by decide) (by decide) g2 ?_
    refine G_iw (n := 6) rfl rfl (by decide) (by decide) g2 ?_
    have hR := refs_up (a := 10) (k := x2.toNat) (x := s 20 x2.toNat) hR rfl
    refine G_go rfl rfl ?_
    refine G_rf rfl rfl (by decide) (hR 3 7 11 rfl) ?_
    refine G_go rfl rfl ?_
    refine G_go rfl rfl ?_
    refine G_rf rfl rfl (by decide) (hR 13 7 21 rfl) ?_
    refine G_go rfl rfl ?_
    refine G_ir (n := 6) rfl rfl (by decide) (by decide) g2 ?_
    refine G_iw (n := 6) rfl rfl (by decide) (by decide) g2 ?_
    have hR := refs_up (a := 11) (k := x2.toNat) (x := s 21 x2.toNat) hR rfl
    refine G_go rfl rfl ?_
    refine G_go rfl rfl ?_
    exact h
theorem c_become_3_13 (n : Nat) (s : Nat → Nat → Int) (Q : List Vl → Sto → Prop) (hR : refs s) (h1 : 0 ≤ s 13 9 ∧ s 13 9 ≤ 6) (h5 : ∀ p : Nat, (p : Int) < s 13 9 → s 19 p = 0 ∨ s 19 p = 1) (hq : ∀ s1, refs s1 → bcm 3 13 s s1 → Q [] (n, s1)) : G 2 120 7 0 [(3, 3), (3, 13), (0, 0)] [] (n, s) Q := by
  refine sb_X5_become_0_3_13 n s Q hR ?_
  refine G_up (s 13 9).toNat (fun k _ => ∀ s1, refs s1 → bci 3 13 s k s1 → G 2 120 7 2 [(3, 3), (3, 13), (1, (k : Int))] [] (n, s1) Q) (fun _ _ => ()) (fun _ _ => True) () trivial (fun _ _ _ _ => trivial) (fun k _ hk _ hg s1 hR1 hI => ?_) (fun _ s1 hR1 hI => ?_) s hR ⟨fun _ _ => rfl, fun _ _ p hp => absurd hp (by omega)⟩
  · have e3 : s1 13 = s 13 := hI.1 13 (by omega)
    have e9 : s1 19 = s 19 := hI.1 19 (by omega)
    have h5 := h5 k (by omega)
    rw [← e9] at h5
    rw [← wr_s hk (by omega)] at hg
    refine sb_X5_become_2_3_13 n s1 Q k hR1 ?_
    rw [Int.toNat_natCast, e3]
    exact ⟨fun e => absurd e (by omega), fun _ => ⟨by omega, h5, hg (cp1 3 13 k s1) (refs_up (refs_up (refs_up (refs_up (refs_up (refs_up (refs_up (refs_up hR1 rfl) rfl) rfl) rfl) rfl) rfl) rfl) rfl) (bci_step (by omega) hI)⟩⟩
  · have e3 : s1 13 = s 13 := hI.1 13 (by omega)
    refine sb_X5_become_2_3_13 n s1 Q _ hR1 ⟨fun _ => hq _ (refs_up (refs_up hR1 rfl) rfl) (bcm_end (by omega) hI), fun e => absurd e ?_⟩
    rw [e3]
    omega
theorem sb_X7_carry_136 (n : Nat) (s : Nat → Nat → Int) (Q : List Vl → Sto → Prop) (a0 : Int) (hR : refs s) (hV : s 120 26 = 136)
    (h : (s 120 25 = 0 → (0 ≤ wr ((wr ((s 120 24) + 1)) - 1) ∧ wr ((wr ((s 120 24) + 1)) - 1) < 50) ∧ (Q [(1, s 136 ((wr ((wr ((s 120 24) + 1)) - 1)).toNat))] (n, upS s 120 24 (wr ((s 120 24) + 1))))) ∧ (s 120 25 ≠ 0 → (0 ≤ s 120 24 ∧ s 120 24 < 50) ∧ ((0 ≤ wr ((wr ((s 120 24) + 1)) - 1) ∧ wr ((wr ((s 120 24) + 1)) - 1) < 50) ∧ (Q [(1, (upS s 136 ((s 120 24).toNat) a0) 136 ((wr ((wr ((s 120 24) + 1)) - 1)).toNat))] (n, upS (upS s 136 ((s 120 24).toNat) a0) 120 24 (wr ((s 120 24) + 1))))))) :
    G 120 140 138 0 [(3, 120), (1, a0)] [] (n, s) Q := by
  refine G_go rfl rfl ?_
  refine G_rd rfl rfl (by decide) ?_
  refine G_eq rfl rfl (fun c1 => ?_) (fun c1 => ?_)
  · have h := h.1 c1
    refine G_go rfl rfl ?_
    refine G_go rfl rfl ?_
    refine G_rd rfl rfl (by decide) ?_
    refine G_go rfl rfl ?_
    refine G_go rfl rfl ?_
    refine G_wr rfl rfl (by decide) ?_
    have hR := refs_up (a := 120) (k := 24) (x := wr ((s 120 24) + 1)) hR rfl
    refine G_go rfl rfl ?_
    refine G_rf rfl rfl (by decide) hV ?_
    refine G_go rfl rfl ?_
    refine G_rdv (v := wr ((s 120 24) + 1)) rfl rfl (by decide) (by simp [upS]) ?_
    refine G_go rfl rfl ?_
    refine G_go rfl rfl ?_
    obtain ⟨g2, h⟩ := h
    refine G_ir (n := 50) rfl rfl (by decide) (by decide) g2 ?_
    exact G_ret rfl rfl h
  · have h := h.2 c1
    refine G_go rfl rfl ?_
    refine G_rf rfl rfl (by decide) hV ?_
    refine G_go rfl rfl ?_
    refine G_rd rfl rfl (by decide) ?_
    refine G_go rfl rfl ?_
    obtain ⟨g3, h⟩ := h
    refine G_iw (n := 50) rfl rfl (by decide) (by decide) g3 ?_
    have hR := refs_up (a := 136) (k := (s 120 24).toNat) (x := a0) hR rfl
    refine G_go rfl rfl ?_
    refine G_go rfl rfl ?_
    refine G_rd rfl rfl (by decide) ?_
    refine G_go rfl rfl ?_
    refine G_go rfl rfl ?_
    refine G_wr rfl rfl (by decide) ?_
    have hR := refs_up (a := 120) (k := 24) (x := wr ((s 120 24) + 1)) hR rfl
    refine G_go rfl rfl ?_
    refine G_rf rfl rfl (by decide) hV ?_
    refine G_go rfl rfl ?_
    refine G_rdv (v := wr ((s 120 24) + 1)) rfl rfl (by decide) (by simp [upS]) ?_
    refine G_go rfl rfl ?_
    refine G_go rfl rfl ?_
    obtain ⟨g4, h⟩ := h
    refine G_ir (n := 50) rfl rfl (by decide) (by decide) g4 ?_
    exact G_ret rfl rfl h
theorem c_carryT_136 (n : Nat) (s : Nat → Nat → Int) (Q : List Vl → Sto → Prop) (v : Int) (k : Nat) (hR : refs s) (hV : s 120 26 = 136) (hT : s 120 25 = 1) (hk : s 120 24 = (k : Int)) (g : k < 50) (hq : Q [(1, v)] (n, upS (upS s 136 k v) 120 24 ((k + 1 : Nat) : Int))) : G 120 140 138 0 [(3, 120), (1, v)] [] (n, s) Q := by
  refine sb_X7_carry_136 n s Q v hR hV ?_
  have e1 : wr ((k : Int) + 1) = ((k + 1 : Nat) : Int) := wr_s g (by omega)
  have e2 : wr (((k + 1 : Nat) : Int) - 1) = (k : Int) := by
    rw [wr_id (by omega) (by omega)]
    omega
  rw [hk, hT, e1, e2, Int.toNat_natCast]
  refine ⟨fun e => absurd e (by decide), fun _ => ⟨by omega, by omega, ?_⟩⟩
  rw [show upS s 136 k v 136 k = v by simp [upS]]
  exact hq
theorem c_carryF_136 (n : Nat) (s : Nat → Nat → Int) (Q : List Vl → Sto → Prop) (v : Int) (k : Nat) (hR : refs s) (hV : s 120 26 = 136) (hT : s 120 25 = 0) (hk : s 120 24 = (k : Int)) (g : k < 50) (hq : Q [(1, s 136 k)] (n, upS s 120 24 ((k + 1 : Nat) : Int))) : G 120 140 138 0 [(3, 120), (1, v)] [] (n, s) Q := by
  refine sb_X7_carry_136 n s Q v hR hV ?_
  have e1 : wr ((k : Int) + 1) = ((k + 1 : Nat) : Int) := wr_s g (by omega)
  have e2 : wr (((k + 1 : Nat) : Int) - 1) = (k : Int) := by
    rw [wr_id (by omega) (by omega)]
    omega
  rw [hk, hT, e1, e2, Int.toNat_natCast]
  exact ⟨fun _ => ⟨by omega, hq⟩, fun e => absurd rfl e⟩
theorem sb_X7_carryAll_0_136_1 (n : Nat) (s : Nat → Nat → Int) (Q : List Vl → Sto → Prop) (hR : refs s)
    (h : G 120 140 139 41 [(3, 120), (3, 136), (1, 1), (1, 0)] [] (n, upS (upS (upS (upS (upS (upS (upS (upS (upS s 120 26 136) 120 25 1) 120 24 0) 136 0 (s 120 0)) 120 24 ((1 : Nat) : Int)) 120 0 (s 120 0)) 136 1 (s 120 9)) 120 24 ((2 : Nat) : Int)) 120 9 (s 120 9)) Q) :
    G 120 140 139 0 [(3, 120), (3, 136), (1, 1), (0, 0)] [] (n, s) Q := by
  refine G_go rfl rfl ?_
  refine G_go rfl rfl ?_
  refine G_wr rfl rfl (by decide) ?_
  have hR := refs_up (a := 120) (k := 26) (x := 136) hR rfl
  have hV : (upS s 120 26 136) 120 26 = 136 := rfl
  refine G_go rfl rfl ?_
  refine G_go rfl rfl ?_
  refine G_wr rfl rfl (by decide) ?_
  have hR := refs_up (a := 120) (k := 25) (x := 1) hR rfl
  refine G_go rfl rfl ?_
  refine G_go rfl rfl ?_
  refine G_wr rfl rfl (by decide) ?_
  have hR := refs_up (a := 120) (k := 24) (x := 0) hR rfl
  refine G_go rfl rfl ?_
  refine G_go rfl rfl ?_
  refine G_go rfl rfl ?_
  refine G_rd rfl rfl (by decide) ?_
  refine G_call rfl rfl ?_
  refine c_carryT_136 n _ _ (s 120 0) 0 hR hV rfl rfl (by decide) ?_
  have hR := refs_up (a := 120) (k := 24) (x := ((1 : Nat) : Int)) (refs_up (a := 136) (k := 0) (x := s 120 0) hR rfl) rfl
  refine G_wr rfl rfl (by decide) ?_
  have hR := refs_up (a := 120) (k := 0) (x := s 120 0) hR rfl
  refine G_go rfl rfl ?_
  refine G_go rfl rfl ?_
  refine G_go rfl rfl ?_
  refine G_rd rfl rfl (by decide) ?_
  refine G_call rfl rfl ?_
  refine c_carryT_136 n _ _ (s 120 9) 1 hR hV rfl rfl (by decide) ?_
  have hR := refs_up (a := 120) (k := 24) (x := ((2 : Nat) : Int)) (refs_up (a := 136) (k := 1) (x := s 120 9) hR rfl) rfl
  refine G_wr rfl rfl (by decide) ?_
  have hR := refs_up (a := 120) (k := 9) (x := s 120 9) hR rfl
  refine G_go rfl rfl ?_
  refine G_go rfl rfl ?_
  show G 120 140 139 41 [(3, 120), (3, 136), (1, 1), (1, 0)] [] (n, upS (upS (upS (upS (upS (upS (upS (upS (upS s 120 26 136) 120 25 1) 120 24 0) 136 0 (s 120 0)) 120 24 ((1 : Nat) : Int)) 120 0 (s 120 0)) 136 1 (s 120 9)) 120 24 ((2 : Nat) : Int)) 120 9 (s 120 9)) Q
  exact h
theorem sb_X7_carryAll_41_136_1 (n : Nat) (s : Nat → Nat → Int) (Q : List Vl → Sto → Prop) (x3 : Int) (hR : refs s) (m : Nat) (hm : s 120 24 = (m : Int)) (hV : s 120 26 = 136) (hT : s 120 25 = 1)
    (h : (6 ≤ x3 → Q [] (n, s)) ∧ (x3 < 6 → (0 ≤ x3 ∧ x3 < 6) ∧ ((m < 50) ∧ ((m + 1 < 50) ∧ ((m + 2 < 50) ∧ ((m + 3 < 50) ∧ ((m + 4 < 50) ∧ ((m + 5 < 50) ∧ ((m + 6 < 50) ∧ ((m + 7 < 50) ∧ (G 120 140 139 41 [(3, 120), (3, 136), (1, 1), (1, wr (x3 + 1))] [] (n, upS (upS (upS (upS (upS (upS (upS (upS (upS (upS (upS (upS (upS (upS (upS (upS (upS (upS (upS (upS (upS (upS (upS (upS s 136 m (s 121 x3.toNat)) 120 24 ((m + 1 : Nat) : Int)) 121 x3.toNat (s 121 x3.toNat)) 136 (m + 1) (s 122 x3.toNat)) 120 24 ((m + 2 : Nat) : Int)) 122 x3.toNat (s 122 x3.toNat)) 136 (m + 2) (s 123 x3.toNat)) 120 24 ((m + 3 : Nat) : Int)) 123 x3.toNat (s 123 x3.toNat)) 136 (m + 3) (s 124 x3.toNat)) 120 24 ((m + 4 : Nat) : Int)) 124 x3.toNat (s 124 x3.toNat)) 136 (m + 4) (s 125 x3.toNat)) 120 24 ((m + 5 : Nat) : Int)) 125 x3.toNat (s 125 x3.toNat)) 136 (m + 5) (s 126 x3.toNat)) 120 24 ((m + 6 : Nat) : Int)) 126 x3.toNat (s 126 x3.toNat)) 136 (m + 6) (s 127 x3.toNat)) 120 24 ((m + 7 : Nat) : Int)) 127 x3.toNat (s 127 x3.toNat)) 136 (m + 7) (s 128 x3.toNat)) 120 24 ((m + 8 : Nat) : Int)) 128 x3.toNat (s 128 x3.toNat)) Q))))))))))) :
    G 120 140 139 41 [(3, 120), (3, 136), (1, 1), (1, x3)] [] (n, s) Q := by
  refine G_go rfl rfl ?_
  refine G_go rfl rfl ?_
  refine G_ge rfl rfl (fun c1 => ?_) (fun c1 => ?_)
  · have h := h.1 c1
    exact G_ret rfl rfl h
  · have h := h.2 c1
    refine G_go rfl rfl ?_
    refine G_rf rfl rfl (by decide) (hR 120 1 121 rfl) ?_
    refine G_go rfl rfl ?_
    refine G_go rfl rfl ?_
    refine G_go rfl rfl ?_
    refine G_rf rfl rfl (by decide) (hR 120 1 121 rfl) ?_
    refine G_go rfl rfl ?_
    obtain ⟨g2, h⟩ := h
    refine G_ir (n := 6) rfl rfl (by decide) (by decide) g2 ?_
    refine G_call rfl rfl ?_
    obtain ⟨g3, h⟩ := h
    refine c_carryT_136 n _ _ (s 121 x3.toNat) m hR hV hT hm g3 ?_
    have hR := refs_up (a := 120) (k := 24) (x := ((m + 1 : Nat) : Int)) (refs_up (a := 136) (k := m) (x := s 121 x3.toNat) hR rfl) rfl
    refine G_iw (n := 6) rfl rfl (by decide) (by decide) g2 ?_
    have hR := refs_up (a := 121) (k := x3.toNat) (x := s 121 x3.toNat) hR rfl
    refine G_go rfl rfl ?_
    refine G_rf rfl rfl (by decide) (hR 120 2 122 rfl) ?_
    refine G_go rfl rfl ?_
    refine G_go rfl rfl ?_
    refine G_go rfl rfl ?_
    refine G_rf rfl rfl (by decide) (hR 120 2 122 rfl) ?_
    refine G_go rfl rfl ?_
    refine G_ir (n := 6) rfl rfl (by decide) (by decide) g2 ?_
    refine G_call rfl rfl ?_
    obtain ⟨g4, h⟩ := h
    refine c_carryT_136 n _ _ (s 122 x3.toNat) (m + 1) hR hV hT rfl g4 ?_
    have hR := refs_up (a := 120) (k := 24) (x := ((m + 2 : Nat) : Int)) (refs_up (a := 136) (k := m + 1) (x := s 122 x3.toNat) hR rfl) rfl
    refine G_iw (n := 6) rfl rfl (by decide) (by decide) g2 ?_
    have hR := refs_up (a := 122) (k := x3.toNat) (x := s 122 x3.toNat) hR rfl
    refine G_go rfl rfl ?_
    refine G_rf rfl rfl (by decide) (hR 120 3 123 rfl) ?_
    refine G_go rfl rfl ?_
    refine G_go rfl rfl ?_
    refine G_go rfl rfl ?_
    refine G_rf rfl rfl (by decide) (hR 120 3 123 rfl) ?_
    refine G_go rfl rfl ?_
    refine G_ir (n := 6) rfl rfl (by decide) (by decide) g2 ?_
    refine G_call rfl rfl ?_
    obtain ⟨g5, h⟩ := h
    refine c_carryT_136 n _ _ (s 123 x3.toNat) (m + 2) hR hV hT rfl g5 ?_
    have hR := refs_up (a := 120) (k := 24) (x := ((m + 3 : Nat) : Int)) (refs_up (a := 136) (k := m + 2) (x := s 123 x3.toNat) hR rfl) rfl
    refine G_iw (n := 6) rfl rfl (by decide) (by decide) g2 ?_
    have hR := refs_up (a := 123) (k := x3.toNat) (x := s 123 x3.toNat) hR rfl
    refine G_go rfl rfl ?_
    refine G_rf rfl rfl (by decide) (hR 120 4 124 rfl) ?_
    refine G_go rfl rfl ?_
    refine G_go rfl rfl ?_
    refine G_go rfl rfl ?_
    refine G_rf rfl rfl (by decide) (hR 120 4 124 rfl) ?_
    refine G_go rfl rfl ?_
    refine G_ir (n := 6) rfl rfl (by decide) (by decide) g2 ?_
    refine G_call rfl rfl ?_
    obtain ⟨g6, h⟩ := h
    refine c_carryT_136 n _ _ (s 124 x3.toNat) (m + 3) hR hV hT rfl g6 ?_
    have hR := refs_up (a := 120) (k := 24) (x := ((m + 4 : Nat) : Int)) (refs_up (a := 136) (k := m + 3) (x := s 124 x3.toNat) hR rfl) rfl
    refine G_iw (n := 6) rfl rfl (by decide) (by decide) g2 ?_
    have hR := refs_up (a := 124) (k := x3.toNat) (x := s 124 x3.toNat) hR rfl
    refine G_go rfl rfl ?_
    refine G_rf rfl rfl (by decide) (hR 120 5 125 rfl) ?_
    refine G_go rfl rfl ?_
    refine G_go rfl rfl ?_
    refine G_go rfl rfl ?_
    refine G_rf rfl rfl (by decide) (hR 120 5 125 rfl) ?_
    refine G_go rfl rfl ?_
    refine G_ir (n := 6) rfl rfl (by decide) (by decide) g2 ?_
    refine G_call rfl rfl ?_
    obtain ⟨g7, h⟩ := h
    refine c_carryT_136 n _ _ (s 125 x3.toNat) (m + 4) hR hV hT rfl g7 ?_
    have hR := refs_up (a := 120) (k := 24) (x := ((m + 5 : Nat) : Int)) (refs_up (a := 136) (k := m + 4) (x := s 125 x3.toNat) hR rfl) rfl
    refine G_iw (n := 6) rfl rfl (by decide) (by decide) g2 ?_
    have hR := refs_up (a := 125) (k := x3.toNat) (x := s 125 x3.toNat) hR rfl
    refine G_go rfl rfl ?_
    refine G_rf rfl rfl (by decide) (hR 120 6 126 rfl) ?_
    refine G_go rfl rfl ?_
    refine G_go rfl rfl ?_
    refine G_go rfl rfl ?_
    refine G_rf rfl rfl (by decide) (hR 120 6 126 rfl) ?_
    refine G_go rfl rfl ?_
    refine G_ir (n := 6) rfl rfl (by decide) (by decide) g2 ?_
    refine G_call rfl rfl ?_
    obtain ⟨g8, h⟩ := h
    refine c_carryT_136 n _ _ (s 126 x3.toNat) (m + 5) hR hV hT rfl g8 ?_
    have hR := refs_up (a := 120) (k := 24) (x := ((m + 6 : Nat) : Int)) (refs_up (a := 136) (k := m + 5) (x := s 126 x3.toNat) hR rfl) rfl
    refine G_iw (n := 6) rfl rfl (by decide) (by decide) g2 ?_
    have hR := refs_up (a := 126) (k := x3.toNat) (x := s 126 x3.toNat) hR rfl
    refine G_go rfl rfl ?_
    refine G_rf rfl rfl (by decide) (hR 120 7 127 rfl) ?_
    refine G_go rfl rfl ?_
    refine G_go rfl rfl ?_
    refine G_go rfl rfl ?_
    refine G_rf rfl rfl (by decide) (hR 120 7 127 rfl) ?_
    refine G_go rfl rfl ?_
    refine G_ir (n := 6) rfl rfl (by decide) (by decide) g2 ?_
    refine G_call rfl rfl ?_
    obtain ⟨g9, h⟩ := h
    refine c_carryT_136 n _ _ (s 127 x3.toNat) (m + 6) hR hV hT rfl g9 ?_
    have hR := refs_up (a := 120) (k := 24) (x := ((m + 7 : Nat) : Int)) (refs_up (a := 136) (k := m + 6) (x := s 127 x3.toNat) hR rfl) rfl
    refine G_iw (n := 6) rfl rfl (by decide) (by decide) g2 ?_
    have hR := refs_up (a := 127) (k := x3.toNat) (x := s 127 x3.toNat) hR rfl
    refine G_go rfl rfl ?_
    refine G_rf rfl rfl (by decide) (hR 120 8 128 rfl) ?_
    refine G_go rfl rfl ?_
    refine G_go rfl rfl ?_
    refine G_go rfl rfl ?_
    refine G_rf rfl rfl (by decide) (hR 120 8 128 rfl) ?_
    refine G_go rfl rfl ?_
    refine G_ir (n := 6) rfl rfl (by decide) (by decide) g2 ?_
    refine G_call rfl rfl ?_
    obtain ⟨g10, h⟩ := h
    refine c_carryT_136 n _ _ (s 128 x3.toNat) (m + 7) hR hV hT rfl g10 ?_
    have hR := refs_up (a := 120) (k := 24) (x := ((m + 8 : Nat) : Int)) (refs_up (a := 136) (k := m + 7) (x := s 128 x3.toNat) hR rfl) rfl
    refine G_iw (n := 6) rfl rfl (by decide) (by decide) g2 ?_
    have hR := refs_up (a := 128) (k := x3.toNat) (x := s 128 x3.toNat) hR rfl
    refine G_go rfl rfl ?_
    refine G_go rfl rfl ?_
    exact h
def ckT_136 (m k : Nat) (s : Nat → Nat → Int) : Nat → Nat → Int := upS (upS (upS (upS (upS (upS (upS (upS (upS (upS (upS (upS (upS (upS (upS (upS (upS (upS (upS (upS (upS (upS (upS (upS s 136 m (s 121 k)) 120 24 ((m + 1 : Nat) : Int)) 121 k (s 121 k)) 136 (m + 1) (s 122 k)) 120 24 ((m + 2 : Nat) : Int)) 122 k (s 122 k)) 136 (m + 2) (s 123 k)) 120 24 ((m + 3 : Nat) : Int)) 123 k (s 123 k)) 136 (m + 3) (s 124 k)) 120 24 ((m + 4 : Nat) : Int)) 124 k (s 124 k)) 136 (m + 4) (s 125 k)) 120 24 ((m + 5 : Nat) : Int)) 125 k (s 125 k)) 136 (m + 5) (s 126 k)) 120 24 ((m + 6 : Nat) : Int)) 126 k (s 126 k)) 136 (m + 6) (s 127 k)) 120 24 ((m + 7 : Nat) : Int)) 127 k (s 127 k)) 136 (m + 7) (s 128 k)) 120 24 ((m + 8 : Nat) : Int)) 128 k (s 128 k)
theorem ckT_136_c {m k : Nat} {s : Nat → Nat → Int} {j : Nat} (hj : j < 8) : ckT_136 m k s 136 (m + j) = s (121 + j) k := by
  rcases lt8 hj with rfl | rfl | rfl | rfl | rfl | rfl | rfl | rfl
  all_goals simp [ckT_136, upS]
theorem ckT_136_c2 {m k : Nat} {s : Nat → Nat → Int} {i : Nat} (hi : i < m) : ckT_136 m k s 136 i = s 136 i := by
  simp [ckT_136, upS, show i ≠ m by omega, show i ≠ m + 1 by omega, show i ≠ m + 2 by omega, show i ≠ m + 3 by omega, show i ≠ m + 4 by omega, show i ≠ m + 5 by omega, show i ≠ m + 6 by omega, show i ≠ m + 7 by omega]
theorem ckT_136_row {m k : Nat} {s : Nat → Nat → Int} {b : Nat} (h1 : 121 ≤ b) (h2 : b ≤ 128) : ckT_136 m k s b = s b := by
  funext z
  have : b = 121 ∨ b = 122 ∨ b = 123 ∨ b = 124 ∨ b = 125 ∨ b = 126 ∨ b = 127 ∨ b = 128 := by omega
  by_cases e : z = k
  · subst e
    rcases this with rfl | rfl | rfl | rfl | rfl | rfl | rfl | rfl
    all_goals simp [ckT_136, upS]
  · rcases this with rfl | rfl | rfl | rfl | rfl | rfl | rfl | rfl
    all_goals simp [ckT_136, upS, e]
theorem ckT_136_24 {m k : Nat} {s : Nat → Nat → Int} : ckT_136 m k s 120 24 = ((m + 8 : Nat) : Int) := by
  simp [ckT_136, upS]
theorem ckT_136_120 {m k : Nat} {s : Nat → Nat → Int} {i : Nat} (hi : i ≠ 24) : ckT_136 m k s 120 i = s 120 i := by
  simp [ckT_136, upS, hi]
theorem ckT_136_out {m k : Nat} {s : Nat → Nat → Int} {b : Nat} (h1 : b ≠ 136) (h2 : 128 < b) : ckT_136 m k s b = s b := by
  funext z
  simp [ckT_136, upS, h1, show b ≠ 120 by omega, show b ≠ 121 by omega, show b ≠ 122 by omega, show b ≠ 123 by omega, show b ≠ 124 by omega, show b ≠ 125 by omega, show b ≠ 126 by omega, show b ≠ 127 by omega, show b ≠ 128 by omega]
def caT_136 (s : Nat → Nat → Int) (k : Nat) (s1 : Nat → Nat → Int) : Prop := frX 136 s s1 ∧ s1 120 24 = ((2 + 8 * k : Nat) : Int) ∧ s1 120 25 = 1 ∧ s1 120 26 = 136 ∧ s1 120 0 = s 120 0 ∧ s1 120 9 = s 120 9 ∧ s1 136 0 = s 120 0 ∧ s1 136 1 = s 120 9 ∧ (∀ b, 121 ≤ b → b ≤ 128 → s1 b = s b) ∧ ∀ j, j < 8 → ∀ p, p < k → s1 136 (2 + 8 * p + j) = s (121 + j) p
theorem caT_136_step {s s1 : Nat → Nat → Int} {k : Nat} (h : caT_136 s k s1) : caT_136 s (k + 1) (ckT_136 (2 + 8 * k) k s1) := by
  obtain ⟨h1, h2, h3, h4, h5, h6, h7, h8, h9, h10⟩ := h
  refine ⟨⟨fun b b1 b2 b3 => ?_, fun i i1 i2 i3 i4 i5 => ?_⟩, ?_, ?_, ?_, ?_, ?_, ?_, ?_, fun b b1 b2 => ?_, fun j hj p hp => ?_⟩
  · rw [ckT_136_out b3 b1]
    exact h1.1 b b1 b2 b3
  · rw [ckT_136_120 i3]
    exact h1.2 i i1 i2 i3 i4 i5
  · rw [ckT_136_24]
    omega
  · rw [ckT_136_120 (by decide)]
    exact h3
  · rw [ckT_136_120 (by decide)]
    exact h4
  · rw [ckT_136_120 (by decide)]
    exact h5
  · rw [ckT_136_120 (by decide)]
    exact h6
  · rw [ckT_136_c2 (by omega)]
    exact h7
  · rw [ckT_136_c2 (by omega)]
    exact h8
  · rw [ckT_136_row b1 b2]
    exact h9 b b1 b2
  · by_cases e : p = k
    · subst e
      rw [ckT_136_c hj, h9 (121 + j) (by omega) (by omega)]
    · rw [ckT_136_c2 (by omega)]
      exact h10 j hj p (by omega)
theorem c_carryAllT_136 (n : Nat) (s : Nat → Nat → Int) (Q : List Vl → Sto → Prop) (np h : Int) (V : Nat → Nat → Int) (hR : refs s) (h6 : np ≤ 6) (ht : twR s np h V) (hq : ∀ s1, refs s1 → frX 136 s s1 → twR s1 np h V → twK 136 0 s1 np h V → Q [] (n, s1)) : G 120 140 139 0 [(3, 120), (3, 136), (1, 1), (0, 0)] [] (n, s) Q := by
  refine sb_X7_carryAll_0_136_1 n s Q hR ?_
  refine G_up 6 (fun k _ => ∀ s1, refs s1 → caT_136 s k s1 → G 120 140 139 41 [(3, 120), (3, 136), (1, 1), (1, (k : Int))] [] (n, s1) Q) (fun _ _ => ()) (fun _ _ => True) () trivial (fun _ _ _ _ => trivial) (fun k _ hk _ hg s1 hR1 hI => ?_) (fun _ s1 hR1 hI => ?_) _ (refs_up (refs_up (refs_up (refs_up (refs_up (refs_up (refs_up (refs_up (refs_up hR rfl) rfl) rfl) rfl) rfl) rfl) rfl) rfl) rfl) ?_
  · rw [← wr_s hk (by omega)] at hg
    refine sb_X7_carryAll_41_136_1 n s1 Q k hR1 (2 + 8 * k) hI.2.1 hI.2.2.2.1 hI.2.2.1 ⟨fun e => by omega, fun _ => ⟨by omega, by omega, by omega, by omega, by omega, by omega, by omega, by omega, by omega, ?_⟩⟩
    rw [Int.toNat_natCast]
    exact hg (ckT_136 (2 + 8 * k) k s1) (refs_up (refs_up (refs_up (refs_up (refs_up (refs_up (refs_up (refs_up (refs_up (refs_up (refs_up (refs_up (refs_up (refs_up (refs_up (refs_up (refs_up (refs_up (refs_up (refs_up (refs_up (refs_up (refs_up (refs_up hR1 rfl) rfl) rfl) rfl) rfl) rfl) rfl) rfl) rfl) rfl) rfl) rfl) rfl) rfl) rfl) rfl) rfl) rfl) rfl) rfl) rfl) rfl) rfl) rfl) (caT_136_step hI)
  · obtain ⟨h1, h2, h3, h4, h5, h6, h7, h8, h9, h10⟩ := hI
    obtain ⟨t1, t2, t3⟩ := ht
    refine sb_X7_carryAll_41_136_1 n s1 Q _ hR1 50 ?_ h4 h3 ⟨fun _ => hq s1 hR1 h1 ⟨by rw [h5, t1], by rw [h6, t2], fun j hj p hp => ?_⟩ ⟨by rw [h7, t1], by rw [h8, t2], fun j hj p hp => ?_⟩, fun e => by omega⟩
    · rw [h2]
    · rw [h9 (121 + j) (by omega) (by omega)]
      exact t3 j hj p hp
    · unfold fw
      rw [Nat.zero_add, h10 j hj p (by omega)]
      exact t3 j hj p hp
  · refine ⟨⟨fun b b1 b2 b3 => ?_, fun i i1 i2 i3 i4 i5 => ?_⟩, rfl, rfl, rfl, rfl, rfl, rfl, rfl, fun b b1 b2 => ?_, fun j hj p hp => absurd hp (by omega)⟩
    · funext z
      simp [upS, b3, show b ≠ 120 by omega]
    · simp [upS, i1, i2, i3, i4, i5]
    · funext z
      simp [upS, show b ≠ 120 by omega, show b ≠ 136 by omega]

theorem sb_X7_carryAll_0_136_0 (n : Nat) (s : Nat → Nat → Int) (Q : List Vl → Sto → Prop) (hR : refs s)
    (h : G 120 140 139 41 [(3, 120), (3, 136), (1, 0), (1, 0)] [] (n, upS (upS (upS (upS (upS (upS (upS s 120 26 136) 120 25 0) 120 24 0) 120 24 ((1 : Nat) : Int)) 120 0 (s 136 0)) 120 24 ((2 : Nat) : Int)) 120 9 (s 136 1)) Q) :
    G 120 140 139 0 [(3, 120), (3, 136), (1, 0), (0, 0)] [] (n, s) Q := by
  refine G_go rfl rfl ?_
  refine G_go rfl rfl ?_
  refine G_wr rfl rfl (by decide) ?_
  have hR := refs_up (a := 120) (k := 26) (x := 136) hR rfl
  have hV : (upS s 120 26 136) 120 26 = 136 := rfl
  refine G_go rfl rfl ?_
  refine G_go rfl rfl ?_
  refine G_wr rfl rfl (by decide) ?_
  have hR := refs_up (a := 120) (k := 25) (x := 0) hR rfl
  refine G_go rfl rfl ?_
  refine G_go rfl rfl ?_
  refine G_wr rfl rfl (by decide) ?_
  have hR := refs_up (a := 120) (k := 24) (x := 0) hR rfl
  refine G_go rfl rfl ?_
  refine G_go rfl rfl ?_
  refine G_go rfl rfl ?_
  refine G_rd rfl rfl (by decide) ?_
  refine G_call rfl rfl ?_
  refine c_carryF_136 n _ _ (s 120 0) 0 hR hV rfl rfl (by decide) ?_
  have hR := refs_up (a := 120) (k := 24) (x := ((1 : Nat) : Int)) hR rfl
  refine G_wr rfl rfl (by decide) ?_
  have hR := refs_up (a := 120) (k := 0) (x := s 136 0) hR rfl
  refine G_go rfl rfl ?_
  refine G_go rfl rfl ?_
  refine G_go rfl rfl ?_
  refine G_rd rfl rfl (by decide) ?_
  refine G_call rfl rfl ?_
  refine c_carryF_136 n _ _ (s 120 9) 1 hR hV rfl rfl (by decide) ?_
  have hR := refs_up (a := 120) (k := 24) (x := ((2 : Nat) : Int)) hR rfl
  refine G_wr rfl rfl (by decide) ?_
  have hR := refs_up (a := 120) (k := 9) (x := s 136 1) hR rfl
  refine G_go rfl rfl ?_
  refine G_go rfl rfl ?_
  show G 120 140 139 41 [(3, 120), (3, 136), (1, 0), (1, 0)] [] (n, upS (upS (upS (upS (upS (upS (upS s 120 26 136) 120 25 0) 120 24 0) 120 24 ((1 : Nat) : Int)) 120 0 (s 136 0)) 120 24 ((2 : Nat) : Int)) 120 9 (s 136 1)) Q
  exact h
theorem sb_X7_carryAll_41_136_0 (n : Nat) (s : Nat → Nat → Int) (Q : List Vl → Sto → Prop) (x3 : Int) (hR : refs s) (m : Nat) (hm : s 120 24 = (m : Int)) (hV : s 120 26 = 136) (hT : s 120 25 = 0)
    (h : (6 ≤ x3 → Q [] (n, s)) ∧ (x3 < 6 → (0 ≤ x3 ∧ x3 < 6) ∧ ((m < 50) ∧ ((m + 1 < 50) ∧ ((m + 2 < 50) ∧ ((m + 3 < 50) ∧ ((m + 4 < 50) ∧ ((m + 5 < 50) ∧ ((m + 6 < 50) ∧ ((m + 7 < 50) ∧ (G 120 140 139 41 [(3, 120), (3, 136), (1, 0), (1, wr (x3 + 1))] [] (n, upS (upS (upS (upS (upS (upS (upS (upS (upS (upS (upS (upS (upS (upS (upS (upS s 120 24 ((m + 1 : Nat) : Int)) 121 x3.toNat (s 136 m)) 120 24 ((m + 2 : Nat) : Int)) 122 x3.toNat (s 136 (m + 1))) 120 24 ((m + 3 : Nat) : Int)) 123 x3.toNat (s 136 (m + 2))) 120 24 ((m + 4 : Nat) : Int)) 124 x3.toNat (s 136 (m + 3))) 120 24 ((m + 5 : Nat) : Int)) 125 x3.toNat (s 136 (m + 4))) 120 24 ((m + 6 : Nat) : Int)) 126 x3.toNat (s 136 (m + 5))) 120 24 ((m + 7 : Nat) : Int)) 127 x3.toNat (s 136 (m + 6))) 120 24 ((m + 8 : Nat) : Int)) 128 x3.toNat (s 136 (m + 7))) Q))))))))))) :
    G 120 140 139 41 [(3, 120), (3, 136), (1, 0), (1, x3)] [] (n, s) Q := by
  refine G_go rfl rfl ?_
  refine G_go rfl rfl ?_
  refine G_ge rfl rfl (fun c1 => ?_) (fun c1 => ?_)
  · have h := h.1 c1
    exact G_ret rfl rfl h
  · have h := h.2 c1
    refine G_go rfl rfl ?_
    refine G_rf rfl rfl (by decide) (hR 120 1 121 rfl) ?_
    refine G_go rfl rfl ?_
    refine G_go rfl rfl ?_
    refine G_go rfl rfl ?_
    refine G_rf rfl rfl (by decide) (hR 120 1 121 rfl) ?_
    refine G_go rfl rfl ?_
    obtain ⟨g2, h⟩ := h
    refine G_ir (n := 6) rfl rfl (by decide) (by decide) g2 ?_
    refine G_call rfl rfl ?_
    obtain ⟨g3, h⟩ := h
    refine c_carryF_136 n _ _ (s 121 x3.toNat) m hR hV hT hm g3 ?_
    have hR := refs_up (a := 120) (k := 24) (x := ((m + 1 : Nat) : Int)) hR rfl
    refine G_iw (n := 6) rfl rfl (by decide) (by decide) g2 ?_
    have hR := refs_up (a := 121) (k := x3.toNat) (x := s 136 m) hR rfl
    refine G_go rfl rfl ?_
    refine G_rf rfl rfl (by decide) (hR 120 2 122 rfl) ?_
    refine G_go rfl rfl ?_
    refine G_go rfl rfl ?_
    refine G_go rfl rfl ?_
    refine G_rf rfl rfl (by decide) (hR 120 2 122 rfl) ?_
    refine G_go rfl rfl ?_
    refine G_ir (n := 6) rfl rfl (by decide) (by decide) g2 ?_
    refine G_call rfl rfl ?_
    obtain ⟨g4, h⟩ := h
    refine c_carryF_136 n _ _ (s 122 x3.toNat) (m + 1) hR hV hT rfl g4 ?_
    have hR := refs_up (a := 120) (k := 24) (x := ((m + 2 : Nat) : Int)) hR rfl
    refine G_iw (n := 6) rfl rfl (by decide) (by decide) g2 ?_
    have hR := refs_up (a := 122) (k := x3.toNat) (x := s 136 (m + 1)) hR rfl
    refine G_go rfl rfl ?_
    refine G_rf rfl rfl (by decide) (hR 120 3 123 rfl) ?_
    refine G_go rfl rfl ?_
    refine G_go rfl rfl ?_
    refine G_go rfl rfl ?_
    refine G_rf rfl rfl (by decide) (hR 120 3 123 rfl) ?_
    refine G_go rfl rfl ?_
    refine G_ir (n := 6) rfl rfl (by decide) (by decide) g2 ?_
    refine G_call rfl rfl ?_
    obtain ⟨g5, h⟩ := h
    refine c_carryF_136 n _ _ (s 123 x3.toNat) (m + 2) hR hV hT rfl g5 ?_
    have hR := refs_up (a := 120) (k := 24) (x := ((m + 3 : Nat) : Int)) hR rfl
    refine G_iw (n := 6) rfl rfl (by decide) (by decide) g2 ?_
    have hR := refs_up (a := 123) (k := x3.toNat) (x := s 136 (m + 2)) hR rfl
    refine G_go rfl rfl ?_
    refine G_rf rfl rfl (by decide) (hR 120 4 124 rfl) ?_
    refine G_go rfl rfl ?_
    refine G_go rfl rfl ?_
    refine G_go rfl rfl ?_
    refine G_rf rfl rfl (by decide) (hR 120 4 124 rfl) ?_
    refine G_go rfl rfl ?_
    refine G_ir (n := 6) rfl rfl (by decide) (by decide) g2 ?_
    refine G_call rfl rfl ?_
    obtain ⟨g6, h⟩ := h
    refine c_carryF_136 n _ _ (s 124 x3.toNat) (m + 3) hR hV hT rfl g6 ?_
    have hR := refs_up (a := 120) (k := 24) (x := ((m + 4 : Nat) : Int)) hR rfl
    refine G_iw (n := 6) rfl rfl (by decide) (by decide) g2 ?_
    have hR := refs_up (a := 124) (k := x3.toNat) (x := s 136 (m + 3)) hR rfl
    refine G_go rfl rfl ?_
    refine G_rf rfl rfl (by decide) (hR 120 5 125 rfl) ?_
    refine G_go rfl rfl ?_
    refine G_go rfl rfl ?_
    refine G_go rfl rfl ?_
    refine G_rf rfl rfl (by decide) (hR 120 5 125 rfl) ?_
    refine G_go rfl rfl ?_
    refine G_ir (n := 6) rfl rfl (by decide) (by decide) g2 ?_
    refine G_call rfl rfl ?_
    obtain ⟨g7, h⟩ := h
    refine c_carryF_136 n _ _ (s 125 x3.toNat) (m + 4) hR hV hT rfl g7 ?_
    have hR := refs_up (a := 120) (k := 24) (x := ((m + 5 : Nat) : Int)) hR rfl
    refine G_iw (n := 6) rfl rfl (by decide) (by decide) g2 ?_
    have hR := refs_up (a := 125) (k := x3.toNat) (x := s 136 (m + 4)) hR rfl
    refine G_go rfl rfl ?_
    refine G_rf rfl rfl (by decide) (hR 120 6 126 rfl) ?_
    refine G_go rfl rfl ?_
    refine G_go rfl rfl ?_
    refine G_go rfl rfl ?_
    refine G_rf rfl rfl (by decide) (hR 120 6 126 rfl) ?_
    refine G_go rfl rfl ?_
    refine G_ir (n := 6) rfl rfl (by decide) (by decide) g2 ?_
    refine G_call rfl rfl ?_
    obtain ⟨g8, h⟩ := h
    refine c_carryF_136 n _ _ (s 126 x3.toNat) (m + 5) hR hV hT rfl g8 ?_
    have hR := refs_up (a := 120) (k := 24) (x := ((m + 6 : Nat) : Int)) hR rfl
    refine G_iw (n := 6) rfl rfl (by decide) (by decide) g2 ?_
    have hR := refs_up (a := 126) (k := x3.toNat) (x := s 136 (m + 5)) hR rfl
    refine G_go rfl rfl ?_
    refine G_rf rfl rfl (by decide) (hR 120 7 127 rfl) ?_
    refine G_go rfl rfl ?_
    refine G_go rfl rfl ?_
    refine G_go rfl rfl ?_
    refine G_rf rfl rfl (by decide) (hR 120 7 127 rfl) ?_
    refine G_go rfl rfl ?_
    refine G_ir (n := 6) rfl rfl (by decide) (by decide) g2 ?_
    refine G_call rfl rfl ?_
    obtain ⟨g9, h⟩ := h
    refine c_carryF_136 n _ _ (s 127 x3.toNat) (m + 6) hR hV hT rfl g9 ?_
    have hR := refs_up (a := 120) (k := 24) (x := ((m + 7 : Nat) : Int)) hR rfl
    refine G_iw (n := 6) rfl rfl (by decide) (by decide) g2 ?_
    have hR := refs_up (a := 127) (k := x3.toNat) (x := s 136 (m + 6)) hR rfl
    refine G_go rfl rfl ?_
    refine G_rf rfl rfl (by decide) (hR 120 8 128 rfl) ?_
    refine G_go rfl rfl ?_
    refine G_go rfl rfl ?_
    refine G_go rfl rfl ?_
    refine G_rf rfl rfl (by decide) (hR 120 8 128 rfl) ?_
    refine G_go rfl rfl ?_
    refine G_ir (n := 6) rfl rfl (by decide) (by decide) g2 ?_
    refine G_call rfl rfl ?_
    obtain ⟨g10, h⟩ := h
    refine c_carryF_136 n _ _ (s 128 x3.toNat) (m + 7) hR hV hT rfl g10 ?_
    have hR := refs_up (a := 120) (k := 24) (x := ((m + 8 : Nat) : Int)) hR rfl
    refine G_iw (n := 6) rfl rfl (by decide) (by decide) g2 ?_
    have hR := refs_up (a := 128) (k := x3.toNat) (x := s 136 (m + 7)) hR rfl
    refine G_go rfl rfl ?_
    refine G_go rfl rfl ?_
    exact h
def ckF_136 (m k : Nat) (s : Nat → Nat → Int) : Nat → Nat → Int := upS (upS (upS (upS (upS (upS (upS (upS (upS (upS (upS (upS (upS (upS (upS (upS s 120 24 ((m + 1 : Nat) : Int)) 121 k (s 136 m)) 120 24 ((m + 2 : Nat) : Int)) 122 k (s 136 (m + 1))) 120 24 ((m + 3 : Nat) : Int)) 123 k (s 136 (m + 2))) 120 24 ((m + 4 : Nat) : Int)) 124 k (s 136 (m + 3))) 120 24 ((m + 5 : Nat) : Int)) 125 k (s 136 (m + 4))) 120 24 ((m + 6 : Nat) : Int)) 126 k (s 136 (m + 5))) 120 24 ((m + 7 : Nat) : Int)) 127 k (s 136 (m + 6))) 120 24 ((m + 8 : Nat) : Int)) 128 k (s 136 (m + 7))
theorem ckF_136_row {m k : Nat} {s : Nat → Nat → Int} {j p : Nat} (hj : j < 8) : ckF_136 m k s (121 + j) p = if p = k then s 136 (m + j) else s (121 + j) p := by
  rcases lt8 hj with rfl | rfl | rfl | rfl | rfl | rfl | rfl | rfl
  all_goals simp [ckF_136, upS]
theorem ckF_136_24 {m k : Nat} {s : Nat → Nat → Int} : ckF_136 m k s 120 24 = ((m + 8 : Nat) : Int) := by
  simp [ckF_136, upS]
theorem ckF_136_120 {m k : Nat} {s : Nat → Nat → Int} {i : Nat} (hi : i ≠ 24) : ckF_136 m k s 120 i = s 120 i := by
  simp [ckF_136, upS, hi]
theorem ckF_136_out {m k : Nat} {s : Nat → Nat → Int} {b : Nat} (h1 : True) (h2 : 128 < b) : ckF_136 m k s b = s b := by
  funext z
  simp [ckF_136, upS, show b ≠ 120 by omega, show b ≠ 121 by omega, show b ≠ 122 by omega, show b ≠ 123 by omega, show b ≠ 124 by omega, show b ≠ 125 by omega, show b ≠ 126 by omega, show b ≠ 127 by omega, show b ≠ 128 by omega]
def caF_136 (s : Nat → Nat → Int) (k : Nat) (s1 : Nat → Nat → Int) : Prop := frX 130 s s1 ∧ s1 120 24 = ((2 + 8 * k : Nat) : Int) ∧ s1 120 25 = 0 ∧ s1 120 26 = 136 ∧ s1 120 0 = s 136 0 ∧ s1 120 9 = s 136 1 ∧ s1 136 = s 136 ∧ ∀ j, j < 8 → ∀ p, p < k → s1 (121 + j) p = s 136 (2 + 8 * p + j)
theorem caF_136_step {s s1 : Nat → Nat → Int} {k : Nat} (h : caF_136 s k s1) : caF_136 s (k + 1) (ckF_136 (2 + 8 * k) k s1) := by
  obtain ⟨h1, h2, h3, h4, h5, h6, h7, h8⟩ := h
  refine ⟨⟨fun b b1 b2 b3 => ?_, fun i i1 i2 i3 i4 i5 => ?_⟩, ?_, ?_, ?_, ?_, ?_, ?_, fun j hj p hp => ?_⟩
  · rw [ckF_136_out trivial b1]
    exact h1.1 b b1 b2 b3
  · rw [ckF_136_120 i3]
    exact h1.2 i i1 i2 i3 i4 i5
  · rw [ckF_136_24]
    omega
  · rw [ckF_136_120 (by decide)]
    exact h3
  · rw [ckF_136_120 (by decide)]
    exact h4
  · rw [ckF_136_120 (by decide)]
    exact h5
  · rw [ckF_136_120 (by decide)]
    exact h6
  · rw [ckF_136_out trivial (by decide)]
    exact h7
  · rw [ckF_136_row hj]
    by_cases e : p = k
    · rw [if_pos e, e, h7]
    · rw [if_neg e]
      exact h8 j hj p (by omega)
theorem c_carryAllF_136 (n : Nat) (s : Nat → Nat → Int) (Q : List Vl → Sto → Prop) (np h : Int) (V : Nat → Nat → Int) (hR : refs s) (h6 : np ≤ 6) (ht : twK 136 0 s np h V) (hq : ∀ s1, refs s1 → frX 130 s s1 → twR s1 np h V → Q [] (n, s1)) : G 120 140 139 0 [(3, 120), (3, 136), (1, 0), (0, 0)] [] (n, s) Q := by
  refine sb_X7_carryAll_0_136_0 n s Q hR ?_
  refine G_up 6 (fun k _ => ∀ s1, refs s1 → caF_136 s k s1 → G 120 140 139 41 [(3, 120), (3, 136), (1, 0), (1, (k : Int))] [] (n, s1) Q) (fun _ _ => ()) (fun _ _ => True) () trivial (fun _ _ _ _ => trivial) (fun k _ hk _ hg s1 hR1 hI => ?_) (fun _ s1 hR1 hI => ?_) _ (refs_up (refs_up (refs_up (refs_up (refs_up (refs_up (refs_up hR rfl) rfl) rfl) rfl) rfl) rfl) rfl) ?_
  · rw [← wr_s hk (by omega)] at hg
    refine sb_X7_carryAll_41_136_0 n s1 Q k hR1 (2 + 8 * k) hI.2.1 hI.2.2.2.1 hI.2.2.1 ⟨fun e => by omega, fun _ => ⟨by omega, by omega, by omega, by omega, by omega, by omega, by omega, by omega, by omega, ?_⟩⟩
    rw [Int.toNat_natCast]
    exact hg (ckF_136 (2 + 8 * k) k s1) (refs_up (refs_up (refs_up (refs_up (refs_up (refs_up (refs_up (refs_up (refs_up (refs_up (refs_up (refs_up (refs_up (refs_up (refs_up (refs_up hR1 rfl) rfl) rfl) rfl) rfl) rfl) rfl) rfl) rfl) rfl) rfl) rfl) rfl) rfl) rfl) rfl) (caF_136_step hI)
  · obtain ⟨h1, h2, h3, h4, h5, h6, h7, h8⟩ := hI
    obtain ⟨t1, t2, t3⟩ := ht
    refine sb_X7_carryAll_41_136_0 n s1 Q _ hR1 50 ?_ h4 h3 ⟨fun _ => hq s1 hR1 h1 ⟨by rw [h5, t1], by rw [h6]; exact t2, fun j hj p hp => ?_⟩, fun e => by omega⟩
    · rw [h2]
    · rw [h8 j hj p (by omega), ← t3 j hj p hp]
      unfold fw
      rw [Nat.zero_add]
  · refine ⟨⟨fun b b1 b2 b3 => ?_, fun i i1 i2 i3 i4 i5 => ?_⟩, rfl, rfl, rfl, rfl, rfl, ?_, fun j hj p hp => absurd hp (by omega)⟩
    · funext z
      simp [upS, show b ≠ 120 by omega]
    · simp [upS, i1, i2, i3, i4, i5]
    · funext z
      simp [upS]

theorem sb_X7_carry_138 (n : Nat) (s : Nat → Nat → Int) (Q : List Vl → Sto → Prop) (a0 : Int) (hR : refs s) (hV : s 120 26 = 138)
    (h : (s 120 25 = 0 → (0 ≤ wr ((wr ((s 120 24) + 1)) - 1) ∧ wr ((wr ((s 120 24) + 1)) - 1) < 50) ∧ (Q [(1, s 138 ((wr ((wr ((s 120 24) + 1)) - 1)).toNat))] (n, upS s 120 24 (wr ((s 120 24) + 1))))) ∧ (s 120 25 ≠ 0 → (0 ≤ s 120 24 ∧ s 120 24 < 50) ∧ ((0 ≤ wr ((wr ((s 120 24) + 1)) - 1) ∧ wr ((wr ((s 120 24) + 1)) - 1) < 50) ∧ (Q [(1, (upS s 138 ((s 120 24).toNat) a0) 138 ((wr ((wr ((s 120 24) + 1)) - 1)).toNat))] (n, upS (upS s 138 ((s 120 24).toNat) a0) 120 24 (wr ((s 120 24) + 1))))))) :
    G 120 140 138 0 [(3, 120), (1, a0)] [] (n, s) Q := by
  refine G_go rfl rfl ?_
  refine G_rd rfl rfl (by decide) ?_
  refine G_eq rfl rfl (fun c1 => ?_) (fun c1 => ?_)
  · have h := h.1 c1
    refine G_go rfl rfl ?_
    refine G_go rfl rfl ?_
    refine G_rd rfl rfl (by decide) ?_
    refine G_go rfl rfl ?_
    refine G_go rfl rfl ?_
    refine G_wr rfl rfl (by decide) ?_
    have hR := refs_up (a := 120) (k := 24) (x := wr ((s 120 24) + 1)) hR rfl
    refine G_go rfl rfl ?_
    refine G_rf rfl rfl (by decide) hV ?_
    refine G_go rfl rfl ?_
    refine G_rdv (v := wr ((s 120 24) + 1)) rfl rfl (by decide) (by simp [upS]) ?_
    refine G_go rfl rfl ?_
    refine G_go rfl rfl ?_
    obtain ⟨g2, h⟩ := h
    refine G_ir (n := 50) rfl rfl (by decide) (by decide) g2 ?_
    exact G_ret rfl rfl h
  · have h := h.2 c1
    refine G_go rfl rfl ?_
    refine G_rf rfl rfl (by decide) hV ?_
    refine G_go rfl rfl ?_
    refine G_rd rfl rfl (by decide) ?_
    refine G_go rfl rfl ?_
    obtain ⟨g3, h⟩ := h
    refine G_iw (n := 50) rfl rfl (by decide) (by decide) g3 ?_
    have hR := refs_up (a := 138) (k := (s 120 24).toNat) (x := a0) hR rfl
    refine G_go rfl rfl ?_
    refine G_go rfl rfl ?_
    refine G_rd rfl rfl (by decide) ?_
    refine G_go rfl rfl ?_
    refine G_go rfl rfl ?_
    refine G_wr rfl rfl (by decide) ?_
    have hR := refs_up (a := 120) (k := 24) (x := wr ((s 120 24) + 1)) hR rfl
    refine G_go rfl rfl ?_
    refine G_rf rfl rfl (by decide) hV ?_
    refine G_go rfl rfl ?_
    refine G_rdv (v := wr ((s 120 24) + 1)) rfl rfl (by decide) (by simp [upS]) ?_
    refine G_go rfl rfl ?_
    refine G_go rfl rfl ?_
    obtain ⟨g4, h⟩ := h
    refine G_ir (n := 50) rfl rfl (by decide) (by decide) g4 ?_
    exact G_ret rfl rfl h
theorem c_carryT_138 (n : Nat) (s : Nat → Nat → Int) (Q : List Vl → Sto → Prop) (v : Int) (k : Nat) (hR : refs s) (hV : s 120 26 = 138) (hT : s 120 25 = 1) (hk : s 120 24 = (k : Int)) (g : k < 50) (hq : Q [(1, v)] (n, upS (upS s 138 k v) 120 24 ((k + 1 : Nat) : Int))) : G 120 140 138 0 [(3, 120), (1, v)] [] (n, s) Q := by
  refine sb_X7_carry_138 n s Q v hR hV ?_
  have e1 : wr ((k : Int) + 1) = ((k + 1 : Nat) : Int) := wr_s g (by omega)
  have e2 : wr (((k + 1 : Nat) : Int) - 1) = (k : Int) := by
    rw [wr_id (by omega) (by omega)]
    omega
  rw [hk, hT, e1, e2, Int.toNat_natCast]
  refine ⟨fun e => absurd e (by decide), fun _ => ⟨by omega, by omega, ?_⟩⟩
  rw [show upS s 138 k v 138 k = v by simp [upS]]
  exact hq
theorem c_carryF_138 (n : Nat) (s : Nat → Nat → Int) (Q : List Vl → Sto → Prop) (v : Int) (k : Nat) (hR : refs s) (hV : s 120 26 = 138) (hT : s 120 25 = 0) (hk : s 120 24 = (k : Int)) (g : k < 50) (hq : Q [(1, s 138 k)] (n, upS s 120 24 ((k + 1 : Nat) : Int))) : G 120 140 138 0 [(3, 120), (1, v)] [] (n, s) Q := by
  refine sb_X7_carry_138 n s Q v hR hV ?_
  have e1 : wr ((k : Int) + 1) = ((k + 1 : Nat) : Int) := wr_s g (by omega)
  have e2 : wr (((k + 1 : Nat) : Int) - 1) = (k : Int) := by
    rw [wr_id (by omega) (by omega)]
    omega
  rw [hk, hT, e1, e2, Int.toNat_natCast]
  exact ⟨fun _ => ⟨by omega, hq⟩, fun e => absurd rfl e⟩
theorem sb_X7_carryAll_0_138_1 (n : Nat) (s : Nat → Nat → Int) (Q : List Vl → Sto → Prop) (hR : refs s)
    (h : G 120 140 139 41 [(3, 120), (3, 138), (1, 1), (1, 0)] [] (n, upS (upS (upS (upS (upS (upS (upS (upS (upS s 120 26 138) 120 25 1) 120 24 0) 138 0 (s 120 0)) 120 24 ((1 : Nat) : Int)) 120 0 (s 120 0)) 138 1 (s 120 9)) 120 24 ((2 : Nat) : Int)) 120 9 (s 120 9)) Q) :
    G 120 140 139 0 [(3, 120), (3, 138), (1, 1), (0, 0)] [] (n, s) Q := by
  refine G_go rfl rfl ?_
  refine G_go rfl rfl ?_
  refine G_wr rfl rfl (by decide) ?_
  have hR := refs_up (a := 120) (k := 26) (x := 138) hR rfl
  have hV : (upS s 120 26 138) 120 26 = 138 := rfl
  refine G_go rfl rfl ?_
  refine G_go rfl rfl ?_
  refine G_wr rfl rfl (by decide) ?_
  have hR := refs_up (a := 120) (k := 25) (x := 1) hR rfl
  refine G_go rfl rfl ?_
  refine G_go rfl rfl ?_
  refine G_wr rfl rfl (by decide) ?_
  have hR := refs_up (a := 120) (k := 24) (x := 0) hR rfl
  refine G_go rfl rfl ?_
  refine G_go rfl rfl ?_
  refine G_go rfl rfl ?_
  refine G_rd rfl rfl (by decide) ?_
  refine G_call rfl rfl ?_
  refine c_carryT_138 n _ _ (s 120 0) 0 hR hV rfl rfl (by decide) ?_
  have hR := refs_up (a := 120) (k := 24) (x := ((1 : Nat) : Int)) (refs_up (a := 138) (k := 0) (x := s 120 0) hR rfl) rfl
  refine G_wr rfl rfl (by decide) ?_
  have hR := refs_up (a := 120) (k := 0) (x := s 120 0) hR rfl
  refine G_go rfl rfl ?_
  refine G_go rfl rfl ?_
  refine G_go rfl rfl ?_
  refine G_rd rfl rfl (by decide) ?_
  refine G_call rfl rfl ?_
  refine c_carryT_138 n _ _ (s 120 9) 1 hR hV rfl rfl (by decide) ?_
  have hR := refs_up (a := 120) (k := 24) (x := ((2 : Nat) : Int)) (refs_up (a := 138) (k := 1) (x := s 120 9) hR rfl) rfl
  refine G_wr rfl rfl (by decide) ?_
  have hR := refs_up (a := 120) (k := 9) (x := s 120 9) hR rfl
  refine G_go rfl rfl ?_
  refine G_go rfl rfl ?_
  show G 120 140 139 41 [(3, 120), (3, 138), (1, 1), (1, 0)] [] (n, upS (upS (upS (upS (upS (upS (upS (upS (upS s 120 26 138) 120 25 1) 120 24 0) 138 0 (s 120 0)) 120 24 ((1 : Nat) : Int)) 120 0 (s 120 0)) 138 1 (s 120 9)) 120 24 ((2 : Nat) : Int)) 120 9 (s 120 9)) Q
  exact h
theorem sb_X7_carryAll_41_138_1 (n : Nat) (s : Nat → Nat → Int) (Q : List Vl → Sto → Prop) (x3 : Int) (hR : refs s) (m : Nat) (hm : s 120 24 = (m : Int)) (hV : s 120 26 = 138) (hT : s 120 25 = 1)
    (h : (6 ≤ x3 → Q [] (n, s)) ∧ (x3 < 6 → (0 ≤ x3 ∧ x3 < 6) ∧ ((m < 50) ∧ ((m + 1 < 50) ∧ ((m + 2 < 50) ∧ ((m + 3 < 50) ∧ ((m + 4 < 50) ∧ ((m + 5 < 50) ∧ ((m + 6 < 50) ∧ ((m + 7 < 50) ∧ (G 120 140 139 41 [(3, 120), (3, 138), (1, 1), (1, wr (x3 + 1))] [] (n, upS (upS (upS (upS (upS (upS (upS (upS (upS (upS (upS (upS (upS (upS (upS (upS (upS (upS (upS (upS (upS (upS (upS (upS s 138 m (s 121 x3.toNat)) 120 24 ((m + 1 : Nat) : Int)) 121 x3.toNat (s 121 x3.toNat)) 138 (m + 1) (s 122 x3.toNat)) 120 24 ((m + 2 : Nat) : Int)) 122 x3.toNat (s 122 x3.toNat)) 138 (m + 2) (s 123 x3.toNat)) 120 24 ((m + 3 : Nat) : Int)) 123 x3.toNat (s 123 x3.toNat)) 138 (m + 3) (s 124 x3.toNat)) 120 24 ((m + 4 : Nat) : Int)) 124 x3.toNat (s 124 x3.toNat)) 138 (m + 4) (s 125 x3.toNat)) 120 24 ((m + 5 : Nat) : Int)) 125 x3.toNat (s 125 x3.toNat)) 138 (m + 5) (s 126 x3.toNat)) 120 24 ((m + 6 : Nat) : Int)) 126 x3.toNat (s 126 x3.toNat)) 138 (m + 6) (s 127 x3.toNat)) 120 24 ((m + 7 : Nat) : Int)) 127 x3.toNat (s 127 x3.toNat)) 138 (m + 7) (s 128 x3.toNat)) 120 24 ((m + 8 : Nat) : Int)) 128 x3.toNat (s 128 x3.toNat)) Q))))))))))) :
    G 120 140 139 41 [(3, 120), (3, 138), (1, 1), (1, x3)] [] (n, s) Q := by
  refine G_go rfl rfl ?_
  refine G_go rfl rfl ?_
  refine G_ge rfl rfl (fun c1 => ?_) (fun c1 => ?_)
  · have h := h.1 c1
    exact G_ret rfl rfl h
  · have h := h.2 c1
    refine G_go rfl rfl ?_
    refine G_rf rfl rfl (by decide) (hR 120 1 121 rfl) ?_
    refine G_go rfl rfl ?_
    refine G_go rfl rfl ?_
    refine G_go rfl rfl ?_
    refine G_rf rfl rfl (by decide) (hR 120 1 121 rfl) ?_
    refine G_go rfl rfl ?_
    obtain ⟨g2, h⟩ := h
    refine G_ir (n := 6) rfl rfl (by decide) (by decide) g2 ?_
    refine G_call rfl rfl ?_
    obtain ⟨g3, h⟩ := h
    refine c_carryT_138 n _ _ (s 121 x3.toNat) m hR hV hT hm g3 ?_
    have hR := refs_up (a := 120) (k := 24) (x := ((m + 1 : Nat) : Int)) (refs_up (a := 138) (k := m) (x := s 121 x3.toNat) hR rfl) rfl
    refine G_iw (n := 6) rfl rfl (by decide) (by decide) g2 ?_
    have hR := refs_up (a := 121) (k := x3.toNat) (x := s 121 x3.toNat) hR rfl
    refine G_go rfl rfl ?_
    refine G_rf rfl rfl (by decide) (hR 120 2 122 rfl) ?_
    refine G_go rfl rfl ?_
    refine G_go rfl rfl ?_
    refine G_go rfl rfl ?_
    refine G_rf rfl rfl (by decide) (hR 120 2 122 rfl) ?_
    refine G_go rfl rfl ?_
    refine G_ir (n := 6) rfl rfl (by decide) (by decide) g2 ?_
    refine G_call rfl rfl ?_
    obtain ⟨g4, h⟩ := h
    refine c_carryT_138 n _ _ (s 122 x3.toNat) (m + 1) hR hV hT rfl g4 ?_
    have hR := refs_up (a := 120) (k := 24) (x := ((m + 2 : Nat) : Int)) (refs_up (a := 138) (k := m + 1) (x := s 122 x3.toNat) hR rfl) rfl
    refine G_iw (n := 6) rfl rfl (by decide) (by decide) g2 ?_
    have hR := refs_up (a := 122) (k := x3.toNat) (x := s 122 x3.toNat) hR rfl
    refine G_go rfl rfl ?_
    refine G_rf rfl rfl (by decide) (hR 120 3 123 rfl) ?_
    refine G_go rfl rfl ?_
    refine G_go rfl rfl ?_
    refine G_go rfl rfl ?_
    refine G_rf rfl rfl (by decide) (hR 120 3 123 rfl) ?_
    refine G_go rfl rfl ?_
    refine G_ir (n := 6) rfl rfl (by decide) (by decide) g2 ?_
    refine G_call rfl rfl ?_
    obtain ⟨g5, h⟩ := h
    refine c_carryT_138 n _ _ (s 123 x3.toNat) (m + 2) hR hV hT rfl g5 ?_
    have hR := refs_up (a := 120) (k := 24) (x := ((m + 3 : Nat) : Int)) (refs_up (a := 138) (k := m + 2) (x := s 123 x3.toNat) hR rfl) rfl
    refine G_iw (n := 6) rfl rfl (by decide) (by decide) g2 ?_
    have hR := refs_up (a := 123) (k := x3.toNat) (x := s 123 x3.toNat) hR rfl
    refine G_go rfl rfl ?_
    refine G_rf rfl rfl (by decide) (hR 120 4 124 rfl) ?_
    refine G_go rfl rfl ?_
    refine G_go rfl rfl ?_
    refine G_go rfl rfl ?_
    refine G_rf rfl rfl (by decide) (hR 120 4 124 rfl) ?_
    refine G_go rfl rfl ?_
    refine G_ir (n := 6) rfl rfl (by decide) (by decide) g2 ?_
    refine G_call rfl rfl ?_
    obtain ⟨g6, h⟩ := h
    refine c_carryT_138 n _ _ (s 124 x3.toNat) (m + 3) hR hV hT rfl g6 ?_
    have hR := refs_up (a := 120) (k := 24) (x := ((m + 4 : Nat) : Int)) (refs_up (a := 138) (k := m + 3) (x := s 124 x3.toNat) hR rfl) rfl
    refine G_iw (n := 6) rfl rfl (by decide) (by decide) g2 ?_
    have hR := refs_up (a := 124) (k := x3.toNat) (x := s 124 x3.toNat) hR rfl
    refine G_go rfl rfl ?_
    refine G_rf rfl rfl (by decide) (hR 120 5 125 rfl) ?_
    refine G_go rfl rfl ?_
    refine G_go rfl rfl ?_
    refine G_go rfl rfl ?_
    refine G_rf rfl rfl (by decide) (hR 120 5 125 rfl) ?_
    refine G_go rfl rfl ?_
    refine G_ir (n := 6) rfl rfl (by decide) (by decide) g2 ?_
    refine G_call rfl rfl ?_
    obtain ⟨g7, h⟩ := h
    refine c_carryT_138 n _ _ (s 125 x3.toNat) (m + 4) hR hV hT rfl g7 ?_
    have hR := refs_up (a := 120) (k := 24) (x := ((m + 5 : Nat) : Int)) (refs_up (a := 138) (k := m + 4) (x := s 125 x3.toNat) hR rfl) rfl
    refine G_iw (n := 6) rfl rfl (by decide) (by decide) g2 ?_
    have hR := refs_up (a := 125) (k := x3.toNat) (x := s 125 x3.toNat) hR rfl
    refine G_go rfl rfl ?_
    refine G_rf rfl rfl (by decide) (hR 120 6 126 rfl) ?_
    refine G_go rfl rfl ?_
    refine G_go rfl rfl ?_
    refine G_go rfl rfl ?_
    refine G_rf rfl rfl (by decide) (hR 120 6 126 rfl) ?_
    refine G_go rfl rfl ?_
    refine G_ir (n := 6) rfl rfl (by decide) (by decide) g2 ?_
    refine G_call rfl rfl ?_
    obtain ⟨g8, h⟩ := h
    refine c_carryT_138 n _ _ (s 126 x3.toNat) (m + 5) hR hV hT rfl g8 ?_
    have hR := refs_up (a := 120) (k := 24) (x := ((m + 6 : Nat) : Int)) (refs_up (a := 138) (k := m + 5) (x := s 126 x3.toNat) hR rfl) rfl
    refine G_iw (n := 6) rfl rfl (by decide) (by decide) g2 ?_
    have hR := refs_up (a := 126) (k := x3.toNat) (x := s 126 x3.toNat) hR rfl
    refine G_go rfl rfl ?_
    refine G_rf rfl rfl (by decide) (hR 120 7 127 rfl) ?_
    refine G_go rfl rfl ?_
    refine G_go rfl rfl ?_
    refine G_go rfl rfl ?_
    refine G_rf rfl rfl (by decide) (hR 120 7 127 rfl) ?_
    refine G_go rfl rfl ?_
    refine G_ir (n := 6) rfl rfl (by decide) (by decide) g2 ?_
    refine G_call rfl rfl ?_
    obtain ⟨g9, h⟩ := h
    refine c_carryT_138 n _ _ (s 127 x3.toNat) (m + 6) hR hV hT rfl g9 ?_
    have hR := refs_up (a := 120) (k := 24) (x := ((m + 7 : Nat) : Int)) (refs_up (a := 138) (k := m + 6) (x := s 127 x3.toNat) hR rfl) rfl
    refine G_iw (n := 6) rfl rfl (by decide) (by decide) g2 ?_
    have hR := refs_up (a := 127) (k := x3.toNat) (x := s 127 x3.toNat) hR rfl
    refine G_go rfl rfl ?_
    refine G_rf rfl rfl (by decide) (hR 120 8 128 rfl) ?_
    refine G_go rfl rfl ?_
    refine G_go rfl rfl ?_
    refine G_go rfl rfl ?_
    refine G_rf rfl rfl (by decide) (hR 120 8 128 rfl) ?_
    refine G_go rfl rfl ?_
    refine G_ir (n := 6) rfl rfl (by decide) (by decide) g2 ?_
    refine G_call rfl rfl ?_
    obtain ⟨g10, h⟩ := h
    refine c_carryT_138 n _ _ (s 128 x3.toNat) (m + 7) hR hV hT rfl g10 ?_
    have hR := refs_up (a := 120) (k := 24) (x := ((m + 8 : Nat) : Int)) (refs_up (a := 138) (k := m + 7) (x := s 128 x3.toNat) hR rfl) rfl
    refine G_iw (n := 6) rfl rfl (by decide) (by decide) g2 ?_
    have hR := refs_up (a := 128) (k := x3.toNat) (x := s 128 x3.toNat) hR rfl
    refine G_go rfl rfl ?_
    refine G_go rfl rfl ?_
    exact h
def ckT_138 (m k : Nat) (s : Nat → Nat → Int) : Nat → Nat → Int := upS (upS (upS (upS (upS (upS (upS (upS (upS (upS (upS (upS (upS (upS (upS (upS (upS (upS (upS (upS (upS (upS (upS (upS s 138 m (s 121 k)) 120 24 ((m + 1 : Nat) : Int)) 121 k (s 121 k)) 138 (m + 1) (s 122 k)) 120 24 ((m + 2 : Nat) : Int)) 122 k (s 122 k)) 138 (m + 2) (s 123 k)) 120 24 ((m + 3 : Nat) : Int)) 123 k (s 123 k)) 138 (m + 3) (s 124 k)) 120 24 ((m + 4 : Nat) : Int)) 124 k (s 124 k)) 138 (m + 4) (s 125 k)) 120 24 ((m + 5 : Nat) : Int)) 125 k (s 125 k)) 138 (m + 5) (s 126 k)) 120 24 ((m + 6 : Nat) : Int)) 126 k (s 126 k)) 138 (m + 6) (s 127 k)) 120 24 ((m + 7 : Nat) : Int)) 127 k (s 127 k)) 138 (m + 7) (s 128 k)) 120 24 ((m + 8 : Nat) : Int)) 128 k (s 128 k)
theorem ckT_138_c {m k : Nat} {s : Nat → Nat → Int} {j : Nat} (hj : j < 8) : ckT_138 m k s 138 (m + j) = s (121 + j) k := by
  rcases lt8 hj with rfl | rfl | rfl | rfl | rfl | rfl | rfl | rfl
  all_goals simp [ckT_138, upS]
theorem ckT_138_c2 {m k : Nat} {s : Nat → Nat → Int} {i : Nat} (hi : i < m) : ckT_138 m k s 138 i = s 138 i := by
  simp [ckT_138, upS, show i ≠ m by omega, show i ≠ m + 1 by omega, show i ≠ m + 2 by omega, show i ≠ m + 3 by omega, show i ≠ m + 4 by omega, show i ≠ m + 5 by omega, show i ≠ m + 6 by omega, show i ≠ m + 7 by omega]
theorem ckT_138_row {m k : Nat} {s : Nat → Nat → Int} {b : Nat} (h1 : 121 ≤ b) (h2 : b ≤ 128) : ckT_138 m k s b = s b := by
  funext z
  have : b = 121 ∨ b = 122 ∨ b = 123 ∨ b = 124 ∨ b = 125 ∨ b = 126 ∨ b = 127 ∨ b = 128 := by omega
  by_cases e : z = k
  · subst e
    rcases this with rfl | rfl | rfl | rfl | rfl | rfl | rfl | rfl
    all_goals simp [ckT_138, upS]
  · rcases this with rfl | rfl | rfl | rfl | rfl | rfl | rfl | rfl
    all_goals simp [ckT_138, upS, e]
theorem ckT_138_24 {m k : Nat} {s : Nat → Nat → Int} : ckT_138 m k s 120 24 = ((m + 8 : Nat) : Int) := by
  simp [ckT_138, upS]
theorem ckT_138_120 {m k : Nat} {s : Nat → Nat → Int} {i : Nat} (hi : i ≠ 24) : ckT_138 m k s 120 i = s 120 i := by
  simp [ckT_138, upS, hi]
theorem ckT_138_out {m k : Nat} {s : Nat → Nat → Int} {b : Nat} (h1 : b ≠ 138) (h2 : 128 < b) : ckT_138 m k s b = s b := by
  funext z
  simp [ckT_138, upS, h1, show b ≠ 120 by omega, show b ≠ 121 by omega, show b ≠ 122 by omega, show b ≠ 123 by omega, show b ≠ 124 by omega, show b ≠ 125 by omega, show b ≠ 126 by omega, show b ≠ 127 by omega, show b ≠ 128 by omega]
def caT_138 (s : Nat → Nat → Int) (k : Nat) (s1 : Nat → Nat → Int) : Prop := frX 138 s s1 ∧ s1 120 24 = ((2 + 8 * k : Nat) : Int) ∧ s1 120 25 = 1 ∧ s1 120 26 = 138 ∧ s1 120 0 = s 120 0 ∧ s1 120 9 = s 120 9 ∧ s1 138 0 = s 120 0 ∧ s1 138 1 = s 120 9 ∧ (∀ b, 121 ≤ b → b ≤ 128 → s1 b = s b) ∧ ∀ j, j < 8 → ∀ p, p < k → s1 138 (2 + 8 * p + j) = s (121 + j) p
theorem caT_138_step {s s1 : Nat → Nat → Int} {k : Nat} (h : caT_138 s k s1) : caT_138 s (k + 1) (ckT_138 (2 + 8 * k) k s1) := by
  obtain ⟨h1, h2, h3, h4, h5, h6, h7, h8, h9, h10⟩ := h
  refine ⟨⟨fun b b1 b2 b3 => ?_, fun i i1 i2 i3 i4 i5 => ?_⟩, ?_, ?_, ?_, ?_, ?_, ?_, ?_, fun b b1 b2 => ?_, fun j hj p hp => ?_⟩
  · rw [ckT_138_out b3 b1]
    exact h1.1 b b1 b2 b3
  · rw [ckT_138_120 i3]
    exact h1.2 i i1 i2 i3 i4 i5
  · rw [ckT_138_24]
    omega
  · rw [ckT_138_120 (by decide)]
    exact h3
  · rw [ckT_138_120 (by decide)]
    exact h4
  · rw [ckT_138_120 (by decide)]
    exact h5
  · rw [ckT_138_120 (by decide)]
    exact h6
  · rw [ckT_138_c2 (by omega)]
    exact h7
  · rw [ckT_138_c2 (by omega)]
    exact h8
  · rw [ckT_138_row b1 b2]
    exact h9 b b1 b2
  · by_cases e : p = k
    · subst e
      rw [ckT_138_c hj, h9 (121 + j) (by omega) (by omega)]
    · rw [ckT_138_c2 (by omega)]
      exact h10 j hj p (by omega)
theorem c_carryAllT_138 (n : Nat) (s : Nat → Nat → Int) (Q : List Vl → Sto → Prop) (np h : Int) (V : Nat → Nat → Int) (hR : refs s) (h6 : np ≤ 6) (ht : twR s np h V) (hq : ∀ s1, refs s1 → frX 138 s s1 → twR s1 np h V → twK 138 0 s1 np h V → Q [] (n, s1)) : G 120 140 139 0 [(3, 120), (3, 138), (1, 1), (0, 0)] [] (n, s) Q := by
  refine sb_X7_carryAll_0_138_1 n s Q hR ?_
  refine G_up 6 (fun k _ => ∀ s1, refs s1 → caT_138 s k s1 → G 120 140 139 41 [(3, 120), (3, 138), (1, 1), (1, (k : Int))] [] (n, s1) Q) (fun _ _ => ()) (fun _ _ => True) () trivial (fun _ _ _ _ => trivial) (fun k _ hk _ hg s1 hR1 hI => ?_) (fun _ s1 hR1 hI => ?_) _ (refs_up (refs_up (refs_up (refs_up (refs_up (refs_up (refs_up (refs_up (refs_up hR rfl) rfl) rfl) rfl) rfl) rfl) rfl) rfl) rfl) ?_
  · rw [← wr_s hk (by omega)] at hg
    refine sb_X7_carryAll_41_138_1 n s1 Q k hR1 (2 + 8 * k) hI.2.1 hI.2.2.2.1 hI.2.2.1 ⟨fun e => by omega, fun _ => ⟨by omega, by omega, by omega, by omega, by omega, by omega, by omega, by omega, by omega, ?_⟩⟩
    rw [Int.toNat_natCast]
    exact hg (ckT_138 (2 + 8 * k) k s1) (refs_up (refs_up (refs_up (refs_up (refs_up (refs_up (refs_up (refs_up (refs_up (refs_up (refs_up (refs_up (refs_up (refs_up (refs_up (refs_up (refs_up (refs_up (refs_up (refs_up (refs_up (refs_up (refs_up (refs_up hR1 rfl) rfl) rfl) rfl) rfl) rfl) rfl) rfl) rfl) rfl) rfl) rfl) rfl) rfl) rfl) rfl) rfl) rfl) rfl) rfl) rfl) rfl) rfl) rfl) (caT_138_step hI)
  · obtain ⟨h1, h2, h3, h4, h5, h6, h7, h8, h9, h10⟩ := hI
    obtain ⟨t1, t2, t3⟩ := ht
    refine sb_X7_carryAll_41_138_1 n s1 Q _ hR1 50 ?_ h4 h3 ⟨fun _ => hq s1 hR1 h1 ⟨by rw [h5, t1], by rw [h6, t2], fun j hj p hp => ?_⟩ ⟨by rw [h7, t1], by rw [h8, t2], fun j hj p hp => ?_⟩, fun e => by omega⟩
    · rw [h2]
    · rw [h9 (121 + j) (by omega) (by omega)]
      exact t3 j hj p hp
    · unfold fw
      rw [Nat.zero_add, h10 j hj p (by omega)]
      exact t3 j hj p hp
  · refine ⟨⟨fun b b1 b2 b3 => ?_, fun i i1 i2 i3 i4 i5 => ?_⟩, rfl, rfl, rfl, rfl, rfl, rfl, rfl, fun b b1 b2 => ?_, fun j hj p hp => absurd hp (by omega)⟩
    · funext z
      simp [upS, b3, show b ≠ 120 by omega]
    · simp [upS, i1, i2, i3, i4, i5]
    · funext z
      simp [upS, show b ≠ 120 by omega, show b ≠ 138 by omega]

theorem sb_X7_carryAll_0_138_0 (n : Nat) (s : Nat → Nat → Int) (Q : List Vl → Sto → Prop) (hR : refs s)
    (h : G 120 140 139 41 [(3, 120), (3, 138), (1, 0), (1, 0)] [] (n, upS (upS (upS (upS (upS (upS (upS s 120 26 138) 120 25 0) 120 24 0) 120 24 ((1 : Nat) : Int)) 120 0 (s 138 0)) 120 24 ((2 : Nat) : Int)) 120 9 (s 138 1)) Q) :
    G 120 140 139 0 [(3, 120), (3, 138), (1, 0), (0, 0)] [] (n, s) Q := by
  refine G_go rfl rfl ?_
  refine G_go rfl rfl ?_
  refine G_wr rfl rfl (by decide) ?_
  have hR := refs_up (a := 120) (k := 26) (x := 138) hR rfl
  have hV : (upS s 120 26 138) 120 26 = 138 := rfl
  refine G_go rfl rfl ?_
  refine G_go rfl rfl ?_
  refine G_wr rfl rfl (by decide) ?_
  have hR := refs_up (a := 120) (k := 25) (x := 0) hR rfl
  refine G_go rfl rfl ?_
  refine G_go rfl rfl ?_
  refine G_wr rfl rfl (by decide) ?_
  have hR := refs_up (a := 120) (k := 24) (x := 0) hR rfl
  refine G_go rfl rfl ?_
  refine G_go rfl rfl ?_
  refine G_go rfl rfl ?_
  refine G_rd rfl rfl (by decide) ?_
  refine G_call rfl rfl ?_
  refine c_carryF_138 n _ _ (s 120 0) 0 hR hV rfl rfl (by decide) ?_
  have hR := refs_up (a := 120) (k := 24) (x := ((1 : Nat) : Int)) hR rfl
  refine G_wr rfl rfl (by decide) ?_
  have hR := refs_up (a := 120) (k := 0) (x := s 138 0) hR rfl
  refine G_go rfl rfl ?_
  refine G_go rfl rfl ?_
  refine G_go rfl rfl ?_
  refine G_rd rfl rfl (by decide) ?_
  refine G_call rfl rfl ?_
  refine c_carryF_138 n _ _ (s 120 9) 1 hR hV rfl rfl (by decide) ?_
  have hR := refs_up (a := 120) (k := 24) (x := ((2 : Nat) : Int)) hR rfl
  refine G_wr rfl rfl (by decide) ?_
  have hR := refs_up (a := 120) (k := 9) (x := s 138 1) hR rfl
  refine G_go rfl rfl ?_
  refine G_go rfl rfl ?_
  show G 120 140 139 41 [(3, 120), (3, 138), (1, 0), (1, 0)] [] (n, upS (upS (upS (upS (upS (upS (upS s 120 26 138) 120 25 0) 120 24 0) 120 24 ((1 : Nat) : Int)) 120 0 (s 138 0)) 120 24 ((2 : Nat) : Int)) 120 9 (s 138 1)) Q
  exact h
theorem sb_X7_carryAll_41_138_0 (n : Nat) (s : Nat → Nat → Int) (Q : List Vl → Sto → Prop) (x3 : Int) (hR : refs s) (m : Nat) (hm : s 120 24 = (m : Int)) (hV : s 120 26 = 138) (hT : s 120 25 = 0)
    (h : (6 ≤ x3 → Q [] (n, s)) ∧ (x3 < 6 → (0 ≤ x3 ∧ x3 < 6) ∧ ((m < 50) ∧ ((m + 1 < 50) ∧ ((m + 2 < 50) ∧ ((m + 3 < 50) ∧ ((m + 4 < 50) ∧ ((m + 5 < 50) ∧ ((m + 6 < 50) ∧ ((m + 7 < 50) ∧ (G 120 140 139 41 [(3, 120), (3, 138), (1, 0), (1, wr (x3 + 1))] [] (n, upS (upS (upS (upS (upS (upS (upS (upS (upS (upS (upS (upS (upS (upS (upS (upS s 120 24 ((m + 1 : Nat) : Int)) 121 x3.toNat (s 138 m)) 120 24 ((m + 2 : Nat) : Int)) 122 x3.toNat (s 138 (m + 1))) 120 24 ((m + 3 : Nat) : Int)) 123 x3.toNat (s 138 (m + 2))) 120 24 ((m + 4 : Nat) : Int)) 124 x3.toNat (s 138 (m + 3))) 120 24 ((m + 5 : Nat) : Int)) 125 x3.toNat (s 138 (m + 4))) 120 24 ((m + 6 : Nat) : Int)) 126 x3.toNat (s 138 (m + 5))) 120 24 ((m + 7 : Nat) : Int)) 127 x3.toNat (s 138 (m + 6))) 120 24 ((m + 8 : Nat) : Int)) 128 x3.toNat (s 138 (m + 7))) Q))))))))))) :
    G 120 140 139 41 [(3, 120), (3, 138), (1, 0), (1, x3)] [] (n, s) Q := by
  refine G_go rfl rfl ?_
  refine G_go rfl rfl ?_
  refine G_ge rfl rfl (fun c1 => ?_) (fun c1 => ?_)
  · have h := h.1 c1
    exact G_ret rfl rfl h
  · have h := h.2 c1
    refine G_go rfl rfl ?_
    refine G_rf rfl rfl (by decide) (hR 120 1 121 rfl) ?_
    refine G_go rfl rfl ?_
    refine G_go rfl rfl ?_
    refine G_go rfl rfl ?_
    refine G_rf rfl rfl (by decide) (hR 120 1 121 rfl) ?_
    refine G_go rfl rfl ?_
    obtain ⟨g2, h⟩ := h
    refine G_ir (n := 6) rfl rfl (by decide) (by decide) g2 ?_
    refine G_call rfl rfl ?_
    obtain ⟨g3, h⟩ := h
    refine c_carryF_138 n _ _ (s 121 x3.toNat) m hR hV hT hm g3 ?_
    have hR := refs_up (a := 120) (k := 24) (x := ((m + 1 : Nat) : Int)) hR rfl
    refine G_iw (n := 6) rfl rfl (by decide) (by decide) g2 ?_
    have hR := refs_up (a := 121) (k := x3.toNat) (x := s 138 m) hR rfl
    refine G_go rfl rfl ?_
    refine G_rf rfl rfl (by decide) (hR 120 2 122 rfl) ?_
    refine G_go rfl rfl ?_
    refine G_go rfl rfl ?_
    refine G_go rfl rfl ?_
    refine G_rf rfl rfl (by decide) (hR 120 2 122 rfl) ?_
    refine G_go rfl rfl ?_
    refine G_ir (n := 6) rfl rfl (by decide) (by decide) g2 ?_
    refine G_call rfl rfl ?_
    obtain ⟨g4, h⟩ := h
    refine c_carryF_138 n _ _ (s 122 x3.toNat) (m + 1) hR hV hT rfl g4 ?_
    have hR := refs_up (a := 120) (k := 24) (x := ((m + 2 : Nat) : Int)) hR rfl
    refine G_iw (n := 6) rfl rfl (by decide) (by decide) g2 ?_
    have hR := refs_up (a := 122) (k := x3.toNat) (x := s 138 (m + 1)) hR rfl
    refine G_go rfl rfl ?_
    refine G_rf rfl rfl (by decide) (hR 120 3 123 rfl) ?_
    refine G_go rfl rfl ?_
    refine G_go rfl rfl ?_
    refine G_go rfl rfl ?_
    refine G_rf rfl rfl (by decide) (hR 120 3 123 rfl) ?_
    refine G_go rfl rfl ?_
    refine G_ir (n := 6) rfl rfl (by decide) (by decide) g2 ?_
    refine G_call rfl rfl ?_
    obtain ⟨g5, h⟩ := h
    refine c_carryF_138 n _ _ (s 123 x3.toNat) (m + 2) hR hV hT rfl g5 ?_
    have hR := refs_up (a := 120) (k := 24) (x := ((m + 3 : Nat) : Int)) hR rfl
    refine G_iw (n := 6) rfl rfl (by decide) (by decide) g2 ?_
    have hR := refs_up (a := 123) (k := x3.toNat) (x := s 138 (m + 2)) hR rfl
    refine G_go rfl rfl ?_
    refine G_rf rfl rfl (by decide) (hR 120 4 124 rfl) ?_
    refine G_go rfl rfl ?_
    refine G_go rfl rfl ?_
    refine G_go rfl rfl ?_
    refine G_rf rfl rfl (by decide) (hR 120 4 124 rfl) ?_
    refine G_go rfl rfl ?_
    refine G_ir (n := 6) rfl rfl (by decide) (by decide) g2 ?_
    refine G_call rfl rfl ?_
    obtain ⟨g6, h⟩ := h
    refine c_carryF_138 n _ _ (s 124 x3.toNat) (m + 3) hR hV hT rfl g6 ?_
    have hR := refs_up (a := 120) (k := 24) (x := ((m + 4 : Nat) : Int)) hR rfl
    refine G_iw (n := 6) rfl rfl (by decide) (by decide) g2 ?_
    have hR := refs_up (a := 124) (k := x3.toNat) (x := s 138 (m + 3)) hR rfl
    refine G_go rfl rfl ?_
    refine G_rf rfl rfl (by decide) (hR 120 5 125 rfl) ?_
    refine G_go rfl rfl ?_
    refine G_go rfl rfl ?_
    refine G_go rfl rfl ?_
    refine G_rf rfl rfl (by decide) (hR 120 5 125 rfl) ?_
    refine G_go rfl rfl ?_
    refine G_ir (n := 6) rfl rfl (by decide) (by decide) g2 ?_
    refine G_call rfl rfl ?_
    obtain ⟨g7, h⟩ := h
    refine c_carryF_138 n _ _ (s 125 x3.toNat) (m + 4) hR hV hT rfl g7 ?_
    have hR := refs_up (a := 120) (k := 24) (x := ((m + 5 : Nat) : Int)) hR rfl
    refine G_iw (n := 6) rfl rfl (by decide) (by decide) g2 ?_
    have hR := refs_up (a := 125) (k := x3.toNat) (x := s 138 (m + 4)) hR rfl
    refine G_go rfl rfl ?_
    refine G_rf rfl rfl (by decide) (hR 120 6 126 rfl) ?_
    refine G_go rfl rfl ?_
    refine G_go rfl rfl ?_
    refine G_go rfl rfl ?_
    refine G_rf rfl rfl (by decide) (hR 120 6 126 rfl) ?_
    refine G_go rfl rfl ?_
    refine G_ir (n := 6) rfl rfl (by decide) (by decide) g2 ?_
    refine G_call rfl rfl ?_
    obtain ⟨g8, h⟩ := h
    refine c_carryF_138 n _ _ (s 126 x3.toNat) (m + 5) hR hV hT rfl g8 ?_
    have hR := refs_up (a := 120) (k := 24) (x := ((m + 6 : Nat) : Int)) hR rfl
    refine G_iw (n := 6) rfl rfl (by decide) (by decide) g2 ?_
    have hR := refs_up (a := 126) (k := x3.toNat) (x := s 138 (m + 5)) hR rfl
    refine G_go rfl rfl ?_
    refine G_rf rfl rfl (by decide) (hR 120 7 127 rfl) ?_
    refine G_go rfl rfl ?_
    refine G_go rfl rfl ?_
    refine G_go rfl rfl ?_
    refine G_rf rfl rfl (by decide) (hR 120 7 127 rfl) ?_
    refine G_go rfl rfl ?_
    refine G_ir (n := 6) rfl rfl (by decide) (by decide) g2 ?_
    refine G_call rfl rfl ?_
    obtain ⟨g9, h⟩ := h
    refine c_carryF_138 n _ _ (s 127 x3.toNat) (m + 6) hR hV hT rfl g9 ?_
    have hR := refs_up (a := 120) (k := 24) (x := ((m + 7 : Nat) : Int)) hR rfl
    refine G_iw (n := 6) rfl rfl (by decide) (by decide) g2 ?_
    have hR := refs_up (a := 127) (k := x3.toNat) (x := s 138 (m + 6)) hR rfl
    refine G_go rfl rfl ?_
    refine G_rf rfl rfl (by decide) (hR 120 8 128 rfl) ?_
    refine G_go rfl rfl ?_
    refine G_go rfl rfl ?_
    refine G_go rfl rfl ?_
    refine G_rf rfl rfl (by decide) (hR 120 8 128 rfl) ?_
    refine G_go rfl rfl ?_
    refine G_ir (n := 6) rfl rfl (by decide) (by decide) g2 ?_
    refine G_call rfl rfl ?_
    obtain ⟨g10, h⟩ := h
    refine c_carryF_138 n _ _ (s 128 x3.toNat) (m + 7) hR hV hT rfl g10 ?_
    have hR := refs_up (a := 120) (k := 24) (x := ((m + 8 : Nat) : Int)) hR rfl
    refine G_iw (n := 6) rfl rfl (by decide) (by decide) g2 ?_
    have hR := refs_up (a := 128) (k := x3.toNat) (x := s 138 (m + 7)) hR rfl
    refine G_go rfl rfl ?_
    refine G_go rfl rfl ?_
    exact h
def ckF_138 (m k : Nat) (s : Nat → Nat → Int) : Nat → Nat → Int := upS (upS (upS (upS (upS (upS (upS (upS (upS (upS (upS (upS (upS (upS (upS (upS s 120 24 ((m + 1 : Nat) : Int)) 121 k (s 138 m)) 120 24 ((m + 2 : Nat) : Int)) 122 k (s 138 (m + 1))) 120 24 ((m + 3 : Nat) : Int)) 123 k (s 138 (m + 2))) 120 24 ((m + 4 : Nat) : Int)) 124 k (s 138 (m + 3))) 120 24 ((m + 5 : Nat) : Int)) 125 k (s 138 (m + 4))) 120 24 ((m + 6 : Nat) : Int)) 126 k (s 138 (m + 5))) 120 24 ((m + 7 : Nat) : Int)) 127 k (s 138 (m + 6))) 120 24 ((m + 8 : Nat) : Int)) 128 k (s 138 (m + 7))
theorem ckF_138_row {m k : Nat} {s : Nat → Nat → Int} {j p : Nat} (hj : j < 8) : ckF_138 m k s (121 + j) p = if p = k then s 138 (m + j) else s (121 + j) p := by
  rcases lt8 hj with rfl | rfl | rfl | rfl | rfl | rfl | rfl | rfl
  all_goals simp [ckF_138, upS]
theorem ckF_138_24 {m k : Nat} {s : Nat → Nat → Int} : ckF_138 m k s 120 24 = ((m + 8 : Nat) : Int) := by
  simp [ckF_138, upS]
theorem ckF_138_120 {m k : Nat} {s : Nat → Nat → Int} {i : Nat} (hi : i ≠ 24) : ckF_138 m k s 120 i = s 120 i := by
  simp [ckF_138, upS, hi]
theorem ckF_138_out {m k : Nat} {s : Nat → Nat → Int} {b : Nat} (h1 : True) (h2 : 128 < b) : ckF_138 m k s b = s b := by
  funext z
  simp [ckF_138, upS, show b ≠ 120 by omega, show b ≠ 121 by omega, show b ≠ 122 by omega, show b ≠ 123 by omega, show b ≠ 124 by omega, show b ≠ 125 by omega, show b ≠ 126 by omega, show b ≠ 127 by omega, show b ≠ 128 by omega]
def caF_138 (s : Nat → Nat → Int) (k : Nat) (s1 : Nat → Nat → Int) : Prop := frX 130 s s1 ∧ s1 120 24 = ((2 + 8 * k : Nat) : Int) ∧ s1 120 25 = 0 ∧ s1 120 26 = 138 ∧ s1 120 0 = s 138 0 ∧ s1 120 9 = s 138 1 ∧ s1 138 = s 138 ∧ ∀ j, j < 8 → ∀ p, p < k → s1 (121 + j) p = s 138 (2 + 8 * p + j)
theorem caF_138_step {s s1 : Nat → Nat → Int} {k : Nat} (h : caF_138 s k s1) : caF_138 s (k + 1) (ckF_138 (2 + 8 * k) k s1) := by
  obtain ⟨h1, h2, h3, h4, h5, h6, h7, h8⟩ := h
  refine ⟨⟨fun b b1 b2 b3 => ?_, fun i i1 i2 i3 i4 i5 => ?_⟩, ?_, ?_, ?_, ?_, ?_, ?_, fun j hj p hp => ?_⟩
  · rw [ckF_138_out trivial b1]
    exact h1.1 b b1 b2 b3
  · rw [ckF_138_120 i3]
    exact h1.2 i i1 i2 i3 i4 i5
  · rw [ckF_138_24]
    omega
  · rw [ckF_138_120 (by decide)]
    exact h3
  · rw [ckF_138_120 (by decide)]
    exact h4
  · rw [ckF_138_120 (by decide)]
    exact h5
  · rw [ckF_138_120 (by decide)]
    exact h6
  · rw [ckF_138_out trivial (by decide)]
    exact h7
  · rw [ckF_138_row hj]
    by_cases e : p = k
    · rw [if_pos e, e, h7]
    · rw [if_neg e]
      exact h8 j hj p (by omega)
theorem c_carryAllF_138 (n : Nat) (s : Nat → Nat → Int) (Q : List Vl → Sto → Prop) (np h : Int) (V : Nat → Nat → Int) (hR : refs s) (h6 : np ≤ 6) (ht : twK 138 0 s np h V) (hq : ∀ s1, refs s1 → frX 130 s s1 → twR s1 np h V → Q [] (n, s1)) : G 120 140 139 0 [(3, 120), (3, 138), (1, 0), (0, 0)] [] (n, s) Q := by
  refine sb_X7_carryAll_0_138_0 n s Q hR ?_
  refine G_up 6 (fun k _ => ∀ s1, refs s1 → caF_138 s k s1 → G 120 140 139 41 [(3, 120), (3, 138), (1, 0), (1, (k : Int))] [] (n, s1) Q) (fun _ _ => ()) (fun _ _ => True) () trivial (fun _ _ _ _ => trivial) (fun k _ hk _ hg s1 hR1 hI => ?_) (fun _ s1 hR1 hI => ?_) _ (refs_up (refs_up (refs_up (refs_up (refs_up (refs_up (refs_up hR rfl) rfl) rfl) rfl) rfl) rfl) rfl) ?_
  · rw [← wr_s hk (by omega)] at hg
    refine sb_X7_carryAll_41_138_0 n s1 Q k hR1 (2 + 8 * k) hI.2.1 hI.2.2.2.1 hI.2.2.1 ⟨fun e => by omega, fun _ => ⟨by omega, by omega, by omega, by omega, by omega, by omega, by omega, by omega, by omega, ?_⟩⟩
    rw [Int.toNat_natCast]
    exact hg (ckF_138 (2 + 8 * k) k s1) (refs_up (refs_up (refs_up (refs_up (refs_up (refs_up (refs_up (refs_up (refs_up (refs_up (refs_up (refs_up (refs_up (refs_up (refs_up (refs_up hR1 rfl) rfl) rfl) rfl) rfl) rfl) rfl) rfl) rfl) rfl) rfl) rfl) rfl) rfl) rfl) rfl) (caF_138_step hI)
  · obtain ⟨h1, h2, h3, h4, h5, h6, h7, h8⟩ := hI
    obtain ⟨t1, t2, t3⟩ := ht
    refine sb_X7_carryAll_41_138_0 n s1 Q _ hR1 50 ?_ h4 h3 ⟨fun _ => hq s1 hR1 h1 ⟨by rw [h5, t1], by rw [h6]; exact t2, fun j hj p hp => ?_⟩, fun e => by omega⟩
    · rw [h2]
    · rw [h8 j hj p (by omega), ← t3 j hj p hp]
      unfold fw
      rw [Nat.zero_add]
  · refine ⟨⟨fun b b1 b2 b3 => ?_, fun i i1 i2 i3 i4 i5 => ?_⟩, rfl, rfl, rfl, rfl, rfl, ?_, fun j hj p hp => absurd hp (by omega)⟩
    · funext z
      simp [upS, show b ≠ 120 by omega]
    · simp [upS, i1, i2, i3, i4, i5]
    · funext z
      simp [upS]


/-! TOWNS LAID APART, AND COPIES OF THEM. -/
def eqP (C V : Nat → Nat → Int) (p : Nat) : Prop := C 0 p = V 0 p ∧ C 1 p = V 1 p ∧ C 2 p = V 2 p ∧ C 3 p = V 3 p ∧ C 4 p = V 4 p ∧ C 5 p = V 5 p ∧ C 6 p = V 6 p ∧ ((V 7 p = -9 ∧ C 7 p = -1) ∨ (0 ≤ V 7 p ∧ C 7 p = V 7 p))
def twC (a : Nat) (s : Nat → Nat → Int) (np h : Int) (V : Nat → Nat → Int) : Prop := s a 9 = np ∧ s a 10 = h ∧ eqV np (vw (a + 1) s) V
def twR (t : Nat → Nat → Int) (np h : Int) (V : Nat → Nat → Int) : Prop := t 120 0 = np ∧ t 120 9 = h ∧ ∀ j, j < 8 → ∀ p : Nat, (p : Int) < np → t (121 + j) p = V j p
def twK (c off : Nat) (t : Nat → Nat → Int) (np h : Int) (V : Nat → Nat → Int) : Prop := t c off = np ∧ t c (off + 1) = h ∧ ∀ j, j < 8 → ∀ p : Nat, (p : Int) < np → fw c off t j p = V j p
def okT (np : Int) (V : Nat → Nat → Int) : Prop := (0 ≤ np ∧ np ≤ 6) ∧ okV np V
def frT (a : Nat) (s s1 : Nat → Nat → Int) : Prop := ∀ c, c < a ∨ a + 10 ≤ c → s1 c = s c
def frX (X : Nat) (t t1 : Nat → Nat → Int) : Prop := (∀ c, 128 < c → c ≠ 130 → c ≠ X → t1 c = t c) ∧ ∀ k, k ≠ 0 → k ≠ 9 → k ≠ 24 → k ≠ 25 → k ≠ 26 → t1 120 k = t 120 k
theorem frT_trans {a : Nat} {s s1 s2 : Nat → Nat → Int} (h : frT a s s1) (g : frT a s1 s2) : frT a s s2 := fun c hc => by rw [g c hc, h c hc]
theorem frT_rfl {a : Nat} {s : Nat → Nat → Int} : frT a s s := fun _ _ => rfl
theorem frX_trans {X : Nat} {t t1 t2 : Nat → Nat → Int} (h : frX X t t1) (g : frX X t1 t2) : frX X t t2 := ⟨fun c h1 h2 h3 => by rw [g.1 c h1 h2 h3, h.1 c h1 h2 h3], fun k h1 h2 h3 h4 h5 => by rw [g.2 k h1 h2 h3 h4 h5, h.2 k h1 h2 h3 h4 h5]⟩
theorem frX_w {X : Nat} {t t1 : Nat → Nat → Int} (h : frX 130 t t1) : frX X t t1 := ⟨fun c h1 h2 _ => h.1 c h1 h2 h2, h.2⟩
theorem frX_rfl {X : Nat} {t : Nat → Nat → Int} : frX X t t := ⟨fun _ _ _ _ => rfl, fun _ _ _ _ _ _ => rfl⟩
theorem eqV_put {np : Int} (k : Nat) {C D V W : Nat → Nat → Int} (h : eqV np C V) (e : ∀ p : Nat, (p : Int) < np → p ≠ k → ∀ j, j < 8 → D j p = C j p ∧ W j p = V j p) (hk : (k : Int) < np → eqP D W k) : eqV np D W := by
  intro p hp
  by_cases c : p = k
  · subst c
    exact hk hp
  · have g := h p hp
    have f := e p hp c
    rw [(f 0 (by decide)).1, (f 1 (by decide)).1, (f 2 (by decide)).1, (f 3 (by decide)).1, (f 4 (by decide)).1, (f 5 (by decide)).1, (f 6 (by decide)).1, (f 7 (by decide)).1, (f 0 (by decide)).2, (f 1 (by decide)).2, (f 2 (by decide)).2, (f 3 (by decide)).2, (f 4 (by decide)).2, (f 5 (by decide)).2, (f 6 (by decide)).2, (f 7 (by decide)).2]
    exact g
theorem lt8 {j : Nat} (h : j < 8) : j = 0 ∨ j = 1 ∨ j = 2 ∨ j = 3 ∨ j = 4 ∨ j = 5 ∨ j = 6 ∨ j = 7 := by omega
def cp1 (a b k : Nat) (s : Nat → Nat → Int) : Nat → Nat → Int := upS (upS (upS (upS (upS (upS (upS (upS s (a + 1) k (s (b + 1) k)) (a + 2) k (s (b + 2) k)) (a + 3) k (s (b + 3) k)) (a + 4) k (s (b + 4) k)) (a + 5) k (s (b + 5) k)) (a + 6) k (s (b + 6) k)) (a + 7) k (s (b + 7) k)) (a + 8) k (s (b + 8) k)
theorem cp1_out {a b k c : Nat} {s : Nat → Nat → Int} (h : c < a + 1 ∨ a + 8 < c) : cp1 a b k s c = s c := by
  funext z
  unfold cp1
  rw [upS_1 (by omega), upS_1 (by omega), upS_1 (by omega), upS_1 (by omega), upS_1 (by omega), upS_1 (by omega), upS_1 (by omega), upS_1 (by omega)]
theorem cp1_in {a b k j p : Nat} {s : Nat → Nat → Int} (hj : j < 8) : cp1 a b k s (a + 1 + j) p = if p = k then s (b + 1 + j) k else s (a + 1 + j) p := by
  rcases lt8 hj with rfl | rfl | rfl | rfl | rfl | rfl | rfl | rfl
  all_goals simp [cp1, upS, Nat.add_assoc]
def bcm (a b : Nat) (s s1 : Nat → Nat → Int) : Prop := frT a s s1 ∧ s1 a 9 = s b 9 ∧ s1 a 10 = s b 10 ∧ ∀ j, j < 8 → ∀ p : Nat, (p : Int) < s b 9 → s1 (a + 1 + j) p = s (b + 1 + j) p
def bci (a b : Nat) (s : Nat → Nat → Int) (k : Nat) (s1 : Nat → Nat → Int) : Prop := (∀ c, c ≤ a ∨ a + 10 ≤ c → s1 c = s c) ∧ ∀ j, j < 8 → ∀ p, p < k → s1 (a + 1 + j) p = s (b + 1 + j) p
theorem bci_step {a b k : Nat} {s s1 : Nat → Nat → Int} (hd : a + 10 ≤ b ∨ b + 10 ≤ a) (h : bci a b s k s1) : bci a b s (k + 1) (cp1 a b k s1) := by
  refine ⟨fun c hc => ?_, fun j hj p hp => ?_⟩
  · rw [cp1_out (by omega)]
    exact h.1 c hc
  · rw [cp1_in hj]
    by_cases e : p = k
    · rw [if_pos e, e, h.1 (b + 1 + j) (by omega)]
    · rw [if_neg e]
      exact h.2 j hj p (by omega)
theorem bcm_end {a b : Nat} {s s1 : Nat → Nat → Int} (hd : a + 10 ≤ b ∨ b + 10 ≤ a) (h : bci a b s (s b 9).toNat s1) : bcm a b s (upS (upS s1 a 9 (s1 b 9)) a 10 (s1 b 10)) := by
  have eb : s1 b = s b := h.1 b (by omega)
  rw [eb]
  refine ⟨fun c hc => ?_, by simp [upS], by simp [upS], fun j hj p hp => ?_⟩
  · funext z
    rw [upS_1 (by omega), upS_1 (by omega), h.1 c (by omega)]
  · rw [upS_1 (by omega), upS_1 (by omega)]
    exact h.2 j hj p (by omega)
theorem bcm_tw {a b : Nat} {s s1 : Nat → Nat → Int} {np h : Int} {V : Nat → Nat → Int} (hb : twC b s np h V) (g : bcm a b s s1) : twC a s1 np h V := by
  obtain ⟨h1, h2, h3⟩ := hb
  obtain ⟨g1, g2, g3, g4⟩ := g
  refine ⟨by rw [g2, h1], by rw [g3, h2], eqV_ext h3 (fun j hj p hp => ?_) (fun _ _ _ _ => rfl)⟩
  exact g4 j hj p (by rw [h1]; exact hp)
theorem sb_X5_become_0_13_3 (n : Nat) (s : Nat → Nat → Int) (Q : List Vl → Sto → Prop) (hR : refs s)
    (h : G 2 120 7 2 [(3, 13), (3, 3), (1, 0)] [] (n, s) Q) :
    G 2 120 7 0 [(3, 13), (3, 3), (0, 0)] [] (n, s) Q := by
  refine G_go rfl rfl ?_
  refine G_go rfl rfl ?_
  show G 2 120 7 2 [(3, 13), (3, 3), (1, 0)] [] (n, s) Q
  exact h
theorem sb_X5_become_2_13_3 (n : Nat) (s : Nat → Nat → Int) (Q : List Vl → Sto → Prop) (x2 : Int) (hR : refs s)
    (h : (s 3 9 ≤ x2 → Q [] (n, upS (upS s 13 9 (s 3 9)) 13 10 (s 3 10))) ∧ (x2 < s 3 9 → (0 ≤ x2 ∧ x2 < 6) ∧ ((s 9 x2.toNat = 0 ∨ s 9 x2.toNat = 1) ∧ (G 2 120 7 2 [(3, 13), (3, 3), (1, wr (x2 + 1))] [] (n, upS (upS (upS (upS (upS (upS (upS (upS s 14 x2.toNat (s 4 x2.toNat)) 15 x2.toNat (s 5 x2.toNat)) 16 x2.toNat (s 6 x2.toNat)) 17 x2.toNat (s 7 x2.toNat)) 18 x2.toNat (s 8 x2.toNat)) 19 x2.toNat (s 9 x2.toNat)) 20 x2.toNat (s 10 x2.toNat)) 21 x2.toNat (s 11 x2.toNat)) Q)))) :
    G 2 120 7 2 [(3, 13), (3, 3), (1, x2)] [] (n, s) Q := by
  refine G_go rfl rfl ?_
  refine G_go rfl rfl ?_
  refine G_rd rfl rfl (by decide) ?_
  refine G_ge rfl rfl (fun c1 => ?_) (fun c1 => ?_)
  · have h := h.1 c1
    refine G_go rfl rfl ?_
    refine G_go rfl rfl ?_
    refine G_rd rfl rfl (by decide) ?_
    refine G_wr rfl rfl (by decide) ?_
    have hR := refs_up (a := 13) (k := 9) (x := s 3 9) hR rfl
    refine G_go rfl rfl ?_
    refine G_go rfl rfl ?_
    refine G_rd rfl rfl (by decide) ?_
    refine G_wr rfl rfl (by decide) ?_
    have hR := refs_up (a := 13) (k := 10) (x := s 3 10) hR rfl
    exact G_ret rfl rfl h
  · have h := h.2 c1
    refine G_go rfl rfl ?_
    refine G_rf rfl rfl (by decide) (hR 13 0 14 rfl) ?_
    refine G_go rfl rfl ?_
    refine G_go rfl rfl ?_
    refine G_rf rfl rfl (by decide) (hR 3 0 4 rfl) ?_
    refine G_go rfl rfl ?_
    obtain ⟨g2, h⟩ := h
    refine G_ir (n := 6) rfl rfl (by decide) (by decide) g2 ?_
    refine G_iw (n := 6) rfl rfl (by decide) (by decide) g2 ?_
    have hR := refs_up (a := 14) (k := x2.toNat) (x := s 4 x2.toNat) hR rfl
    refine G_go rfl rfl ?_
    refine G_rf rfl rfl (by decide) (hR 13 1 15 rfl) ?_
    refine G_go rfl rfl ?_
    refine G_go rfl rfl ?_
    refine G_rf rfl rfl (by decide) (hR 3 1 5 rfl) ?_
    refine G_go rfl rfl ?_
    refine G_ir (n := 6) rfl rfl (by decide) (by decide) g2 ?_
    refine G_iw (n := 6) rfl rfl (by decide) (by decide) g2 ?_
    have hR := refs_up (a := 15) (k := x2.toNat) (x := s 5 x2.toNat) hR rfl
    refine G_go rfl rfl ?_
    refine G_rf rfl rfl (by decide) (hR 13 2 16 rfl) ?_
    refine G_go rfl rfl ?_
    refine G_go rfl rfl ?_
    refine G_rf rfl rfl (by decide) (hR 3 2 6 rfl) ?_
    refine G_go rfl rfl ?_
    refine G_ir (n := 6) rfl rfl (by decide) (by decide) g2 ?_
    refine G_iw (n := 6) rfl rfl (by decide) (by decide) g2 ?_
    have hR := refs_up (a := 16) (k := x2.toNat) (x := s 6 x2.toNat) hR rfl
    refine G_go rfl rfl ?_
    refine G_rf rfl rfl (by decide) (hR 13 3 17 rfl) ?_
    refine G_go rfl rfl ?_
    refine G_go rfl rfl ?_
    refine G_rf rfl rfl (by decide) (hR 3 3 7 rfl) ?_
    refine G_go rfl rfl ?_
    refine G_ir (n := 6) rfl rfl (by decide) (by decide) g2 ?_
    refine G_iw (n := 6) rfl rfl (by decide) (by decide) g2 ?_
    have hR := refs_up (a := 17) (k := x2.toNat) (x := s 7 x2.toNat) hR rfl
    refine G_go rfl rfl ?_
    refine G_rf rfl rfl (by decide) (hR 13 4 18 rfl) ?_
    refine G_go rfl rfl ?_
    refine G_go rfl rfl ?_
    refine G_rf rfl rfl (by decide) (hR 3 4 8 rfl) ?_
    refine G_go rfl rfl ?_
    refine G_ir (n := 6) rfl rfl (by decide) (by decide) g2 ?_
    refine G_iw (n := 6) rfl rfl (by decide) (by decide) g2 ?_
    have hR := refs_up (a := 18) (k := x2.toNat) (x := s 8 x2.toNat) hR rfl
    refine G_go rfl rfl ?_
    refine G_rf rfl rfl (by decide) (hR 13 5 19 rfl) ?_
    refine G_go rfl rfl ?_
    refine G_go rfl rfl ?_
    refine G_rf rfl rfl (by decide) (hR 3 5 9 rfl) ?_
    refine G_go rfl rfl ?_
    refine G_zr (n := 6) rfl rfl (by decide) (by decide) g2 ?_
    obtain ⟨g3, h⟩ := h
    refine G_zw (n := 6) rfl rfl (by decide) (by decide) g2 g3 ?_
    have hR := refs_up (a := 19) (k := x2.toNat) (x := s 9 x2.toNat) hR rfl
    refine G_go rfl rfl ?_
    refine G_rf rfl rfl (by decide) (hR 13 6 20 rfl) ?_
    refine G_go rfl rfl ?_
    refine G_go rfl rfl ?_
    refine G_rf rfl rfl (by decide) (hR 3 6 10 rfl) ?_
    refine G_go rfl rfl ?_
    refine G_ir (n := 6) rfl rfl (by decide) (by decide) g2 ?_
    refine G_iw (n := 6) rfl rfl (by decide) (by decide) g2 ?_
    have hR := refs_up (a := 20) (k := x2.toNat) (x := s 10 x2.toNat) hR rfl
    refine G_go rfl rfl ?_
    refine G_rf rfl rfl (by decide) (hR 13 7 21 rfl) ?_
    refine G_go rfl rfl ?_
    refine G_go rfl rfl ?_
    refine G_rf rfl rfl (by decide) (hR 3 7 11 rfl) ?_
    refine G_go rfl rfl ?_
    refine G_ir (n := 6) rfl rfl (by decide) (by decide) g2 ?_
    refine G_iw (n := 6) rfl rfl (by decide) (by decide) g2 ?_
    have hR := refs_up (a := 21) (k := x2.toNat) (x := s 11 x2.toNat) hR rfl
    refine G_go rfl rfl ?_
    refine G_go rfl rfl ?_
    exact h
theorem c_become_13_3 (n : Nat) (s : Nat → Nat → Int) (Q : List Vl → Sto → Prop) (hR : refs s) (h1 : 0 ≤ s 3 9 ∧ s 3 9 ≤ 6) (h5 : ∀ p : Nat, (p : Int) < s 3 9 → s 9 p = 0 ∨ s 9 p = 1) (hq : ∀ s1, refs s1 → bcm 13 3 s s1 → Q [] (n, s1)) : G 2 120 7 0 [(3, 13), (3, 3), (0, 0)] [] (n, s) Q := by
  refine sb_X5_become_0_13_3 n s Q hR ?_
  refine G_up (s 3 9).toNat (fun k _ => ∀ s1, refs s1 → bci 13 3 s k s1 → G 2 120 7 2 [(3, 13), (3, 3), (1, (k : Int))] [] (n, s1) Q) (fun _ _ => ()) (fun _ _ => True) () trivial (fun _ _ _ _ => trivial) (fun k _ hk _ hg s1 hR1 hI => ?_) (fun _ s1 hR1 hI => ?_) s hR ⟨fun _ _ => rfl, fun _ _ p hp => absurd hp (by omega)⟩
  · have e3 : s1 3 = s 3 := hI.1 3 (by omega)
    have e9 : s1 9 = s 9 := hI.1 9 (by omega)
    have h5 := h5 k (by omega)
    rw [← e9] at h5
    rw [← wr_s hk (by omega)] at hg
    refine sb_X5_become_2_13_3 n s1 Q k hR1 ?_
    rw [Int.toNat_natCast, e3]
    exact ⟨fun e => absurd e (by omega), fun _ => ⟨by omega, h5, hg (cp1 13 3 k s1) (refs_up (refs_up (refs_up (refs_up (refs_up (refs_up (refs_up (refs_up hR1 rfl) rfl) rfl) rfl) rfl) rfl) rfl) rfl) (bci_step (by omega) hI)⟩⟩
  · have e3 : s1 3 = s 3 := hI.1 3 (by omega)
    refine sb_X5_become_2_13_3 n s1 Q _ hR1 ⟨fun _ => hq _ (refs_up (refs_up hR1 rfl) rfl) (bcm_end (by omega) hI), fun e => absurd e ?_⟩
    rw [e3]
    omega
theorem sb_X7_carry_135 (n : Nat) (s : Nat → Nat → Int) (Q : List Vl → Sto → Prop) (a0 : Int) (hR : refs s) (hV : s 120 26 = 135)
    (h : (s 120 25 = 0 → (0 ≤ wr ((wr ((s 120 24) + 1)) - 1) ∧ wr ((wr ((s 120 24) + 1)) - 1) < 50) ∧ (Q [(1, s 135 ((wr ((wr ((s 120 24) + 1)) - 1)).toNat))] (n, upS s 120 24 (wr ((s 120 24) + 1))))) ∧ (s 120 25 ≠ 0 → (0 ≤ s 120 24 ∧ s 120 24 < 50) ∧ ((0 ≤ wr ((wr ((s 120 24) + 1)) - 1) ∧ wr ((wr ((s 120 24) + 1)) - 1) < 50) ∧ (Q [(1, (upS s 135 ((s 120 24).toNat) a0) 135 ((wr ((wr ((s 120 24) + 1)) - 1)).toNat))] (n, upS (upS s 135 ((s 120 24).toNat) a0) 120 24 (wr ((s 120 24) + 1))))))) :
    G 120 140 138 0 [(3, 120), (1, a0)] [] (n, s) Q := by
  refine G_go rfl rfl ?_
  refine G_rd rfl rfl (by decide) ?_
  refine G_eq rfl rfl (fun c1 => ?_) (fun c1 => ?_)
  · have h := h.1 c1
    refine G_go rfl rfl ?_
    refine G_go rfl rfl ?_
    refine G_rd rfl rfl (by decide) ?_
    refine G_go rfl rfl ?_
    refine G_go rfl rfl ?_
    refine G_wr rfl rfl (by decide) ?_
    have hR := refs_up (a := 120) (k := 24) (x := wr ((s 120 24) + 1)) hR rfl
    refine G_go rfl rfl ?_
    refine G_rf rfl rfl (by decide) hV ?_
    refine G_go rfl rfl ?_
    refine G_rdv (v := wr ((s 120 24) + 1)) rfl rfl (by decide) (by simp [upS]) ?_
    refine G_go rfl rfl ?_
    refine G_go rfl rfl ?_
    obtain ⟨g2, h⟩ := h
    refine G_ir (n := 50) rfl rfl (by decide) (by decide) g2 ?_
    exact G_ret rfl rfl h
  · have h := h.2 c1
    refine G_go rfl rfl ?_
    refine G_rf rfl rfl (by decide) hV ?_
    refine G_go rfl rfl ?_
    refine G_rd rfl rfl (by decide) ?_
    refine G_go rfl rfl ?_
    obtain ⟨g3, h⟩ := h
    refine G_iw (n := 50) rfl rfl (by decide) (by decide) g3 ?_
    have hR := refs_up (a := 135) (k := (s 120 24).toNat) (x := a0) hR rfl
    refine G_go rfl rfl ?_
    refine G_go rfl rfl ?_
    refine G_rd rfl rfl (by decide) ?_
    refine G_go rfl rfl ?_
    refine G_go rfl rfl ?_
    refine G_wr rfl rfl (by decide) ?_
    have hR := refs_up (a := 120) (k := 24) (x := wr ((s 120 24) + 1)) hR rfl
    refine G_go rfl rfl ?_
    refine G_rf rfl rfl (by decide) hV ?_
    refine G_go rfl rfl ?_
    refine G_rdv (v := wr ((s 120 24) + 1)) rfl rfl (by decide) (by simp [upS]) ?_
    refine G_go rfl rfl ?_
    refine G_go rfl rfl ?_
    obtain ⟨g4, h⟩ := h
    refine G_ir (n := 50) rfl rfl (by decide) (by decide) g4 ?_
    exact G_ret rfl rfl h
theorem c_carryT_135 (n : Nat) (s : Nat → Nat → Int) (Q : List Vl → Sto → Prop) (v : Int) (k : Nat) (hR : refs s) (hV : s 120 26 = 135) (hT : s 120 25 = 1) (hk : s 120 24 = (k : Int)) (g : k < 50) (hq : Q [(1, v)] (n, upS (upS s 135 k v) 120 24 ((k + 1 : Nat) : Int))) : G 120 140 138 0 [(3, 120), (1, v)] [] (n, s) Q := by
  refine sb_X7_carry_135 n s Q v hR hV ?_
  have e1 : wr ((k : Int) + 1) = ((k + 1 : Nat) : Int) := wr_s g (by omega)
  have e2 : wr (((k + 1 : Nat) : Int) - 1) = (k : Int) := by
    rw [wr_id (by omega) (by omega)]
    omega
  rw [hk, hT, e1, e2, Int.toNat_natCast]
  refine ⟨fun e => absurd e (by decide), fun _ => ⟨by omega, by omega, ?_⟩⟩
  rw [show upS s 135 k v 135 k = v by simp [upS]]
  exact hq
theorem c_carryF_135 (n : Nat) (s : Nat → Nat → Int) (Q : List Vl → Sto → Prop) (v : Int) (k : Nat) (hR : refs s) (hV : s 120 26 = 135) (hT : s 120 25 = 0) (hk : s 120 24 = (k : Int)) (g : k < 50) (hq : Q [(1, s 135 k)] (n, upS s 120 24 ((k + 1 : Nat) : Int))) : G 120 140 138 0 [(3, 120), (1, v)] [] (n, s) Q := by
  refine sb_X7_carry_135 n s Q v hR hV ?_
  have e1 : wr ((k : Int) + 1) = ((k + 1 : Nat) : Int) := wr_s g (by omega)
  have e2 : wr (((k + 1 : Nat) : Int) - 1) = (k : Int) := by
    rw [wr_id (by omega) (by omega)]
    omega
  rw [hk, hT, e1, e2, Int.toNat_natCast]
  exact ⟨fun _ => ⟨by omega, hq⟩, fun e => absurd rfl e⟩
theorem sb_X7_carryAll_0_135_1 (n : Nat) (s : Nat → Nat → Int) (Q : List Vl → Sto → Prop) (hR : refs s)
    (h : G 120 140 139 41 [(3, 120), (3, 135), (1, 1), (1, 0)] [] (n, upS (upS (upS (upS (upS (upS (upS (upS (upS s 120 26 135) 120 25 1) 120 24 0) 135 0 (s 120 0)) 120 24 ((1 : Nat) : Int)) 120 0 (s 120 0)) 135 1 (s 120 9)) 120 24 ((2 : Nat) : Int)) 120 9 (s 120 9)) Q) :
    G 120 140 139 0 [(3, 120), (3, 135), (1, 1), (0, 0)] [] (n, s) Q := by
  refine G_go rfl rfl ?_
  refine G_go rfl rfl ?_
  refine G_wr rfl rfl (by decide) ?_
  have hR := refs_up (a := 120) (k := 26) (x := 135) hR rfl
  have hV : (upS s 120 26 135) 120 26 = 135 := rfl
  refine G_go rfl rfl ?_
  refine G_go rfl rfl ?_
  refine G_wr rfl rfl (by decide) ?_
  have hR := refs_up (a := 120) (k := 25) (x := 1) hR rfl
  refine G_go rfl rfl ?_
  refine G_go rfl rfl ?_
  refine G_wr rfl rfl (by decide) ?_
  have hR := refs_up (a := 120) (k := 24) (x := 0) hR rfl
  refine G_go rfl rfl ?_
  refine G_go rfl rfl ?_
  refine G_go rfl rfl ?_
  refine G_rd rfl rfl (by decide) ?_
  refine G_call rfl rfl ?_
  refine c_carryT_135 n _ _ (s 120 0) 0 hR hV rfl rfl (by decide) ?_
  have hR := refs_up (a := 120) (k := 24) (x := ((1 : Nat) : Int)) (refs_up (a := 135) (k := 0) (x := s 120 0) hR rfl) rfl
  refine G_wr rfl rfl (by decide) ?_
  have hR := refs_up (a := 120) (k := 0) (x := s 120 0) hR rfl
  refine G_go rfl rfl ?_
  refine G_go rfl rfl ?_
  refine G_go rfl rfl ?_
  refine G_rd rfl rfl (by decide) ?_
  refine G_call rfl rfl ?_
  refine c_carryT_135 n _ _ (s 120 9) 1 hR hV rfl rfl (by decide) ?_
  have hR := refs_up (a := 120) (k := 24) (x := ((2 : Nat) : Int)) (refs_up (a := 135) (k := 1) (x := s 120 9) hR rfl) rfl
  refine G_wr rfl rfl (by decide) ?_
  have hR := refs_up (a := 120) (k := 9) (x := s 120 9) hR rfl
  refine G_go rfl rfl ?_
  refine G_go rfl rfl ?_
  show G 120 140 139 41 [(3, 120), (3, 135), (1, 1), (1, 0)] [] (n, upS (upS (upS (upS (upS (upS (upS (upS (upS s 120 26 135) 120 25 1) 120 24 0) 135 0 (s 120 0)) 120 24 ((1 : Nat) : Int)) 120 0 (s 120 0)) 135 1 (s 120 9)) 120 24 ((2 : Nat) : Int)) 120 9 (s 120 9)) Q
  exact h
theorem sb_X7_carryAll_41_135_1 (n : Nat) (s : Nat → Nat → Int) (Q : List Vl → Sto → Prop) (x3 : Int) (hR : refs s) (m : Nat) (hm : s 120 24 = (m : Int)) (hV : s 120 26 = 135) (hT : s 120 25 = 1)
    (h : (6 ≤ x3 → Q [] (n, s)) ∧ (x3 < 6 → (0 ≤ x3 ∧ x3 < 6) ∧ ((m < 50) ∧ ((m + 1 < 50) ∧ ((m + 2 < 50) ∧ ((m + 3 < 50) ∧ ((m + 4 < 50) ∧ ((m + 5 < 50) ∧ ((m + 6 < 50) ∧ ((m + 7 < 50) ∧ (G 120 140 139 41 [(3, 120), (3, 135), (1, 1), (1, wr (x3 + 1))] [] (n, upS (upS (upS (upS (upS (upS (upS (upS (upS (upS (upS (upS (upS (upS (upS (upS (upS (upS (upS (upS (upS (upS (upS (upS s 135 m (s 121 x3.toNat)) 120 24 ((m + 1 : Nat) : Int)) 121 x3.toNat (s 121 x3.toNat)) 135 (m + 1) (s 122 x3.toNat)) 120 24 ((m + 2 : Nat) : Int)) 122 x3.toNat (s 122 x3.toNat)) 135 (m + 2) (s 123 x3.toNat)) 120 24 ((m + 3 : Nat) : Int)) 123 x3.toNat (s 123 x3.toNat)) 135 (m + 3) (s 124 x3.toNat)) 120 24 ((m + 4 : Nat) : Int)) 124 x3.toNat (s 124 x3.toNat)) 135 (m + 4) (s 125 x3.toNat)) 120 24 ((m + 5 : Nat) : Int)) 125 x3.toNat (s 125 x3.toNat)) 135 (m + 5) (s 126 x3.toNat)) 120 24 ((m + 6 : Nat) : Int)) 126 x3.toNat (s 126 x3.toNat)) 135 (m + 6) (s 127 x3.toNat)) 120 24 ((m + 7 : Nat) : Int)) 127 x3.toNat (s 127 x3.toNat)) 135 (m + 7) (s 128 x3.toNat)) 120 24 ((m + 8 : Nat) : Int)) 128 x3.toNat (s 128 x3.toNat)) Q))))))))))) :
    G 120 140 139 41 [(3, 120), (3, 135), (1, 1), (1, x3)] [] (n, s) Q := by
  refine G_go rfl rfl ?_
  refine G_go rfl rfl ?_
  refine G_ge rfl rfl (fun c1 => ?_) (fun c1 => ?_)
  · have h := h.1 c1
    exact G_ret rfl rfl h
  · have h := h.2 c1
    refine G_go rfl rfl ?_
    refine G_rf rfl rfl (by decide) (hR 120 1 121 rfl) ?_
    refine G_go rfl rfl ?_
    refine G_go rfl rfl ?_
    refine G_go rfl rfl ?_
    refine G_rf rfl rfl (by decide) (hR 120 1 121 rfl) ?_
    refine G_go rfl rfl ?_
    obtain ⟨g2, h⟩ := h
    refine G_ir (n := 6) rfl rfl (by decide) (by decide) g2 ?_
    refine G_call rfl rfl ?_
    obtain ⟨g3, h⟩ := h
    refine c_carryT_135 n _ _ (s 121 x3.toNat) m hR hV hT hm g3 ?_
    have hR := refs_up (a := 120) (k := 24) (x := ((m + 1 : Nat) : Int)) (refs_up (a := 135) (k := m) (x := s 121 x3.toNat) hR rfl) rfl
    refine G_iw (n := 6) rfl rfl (by decide) (by decide) g2 ?_
    have hR := refs_up (a := 121) (k := x3.toNat) (x := s 121 x3.toNat) hR rfl
    refine G_go rfl rfl ?_
    refine G_rf rfl rfl (by decide) (hR 120 2 122 rfl) ?_
    refine G_go rfl rfl ?_
    refine G_go rfl rfl ?_
    refine G_go rfl rfl ?_
    refine G_rf rfl rfl (by decide) (hR 120 2 122 rfl) ?_
    refine G_go rfl rfl ?_
    refine G_ir (n := 6) rfl rfl (by decide) (by decide) g2 ?_
    refine G_call rfl rfl ?_
    obtain ⟨g4, h⟩ := h
    refine c_carryT_135 n _ _ (s 122 x3.toNat) (m + 1) hR hV hT rfl g4 ?_
    have hR := refs_up (a := 120) (k := 24) (x := ((m + 2 : Nat) : Int)) (refs_up (a := 135) (k := m + 1) (x := s 122 x3.toNat) hR rfl) rfl
    refine G_iw (n := 6) rfl rfl (by decide) (by decide) g2 ?_
    have hR := refs_up (a := 122) (k := x3.toNat) (x := s 122 x3.toNat) hR rfl
    refine G_go rfl rfl ?_
    refine G_rf rfl rfl (by decide) (hR 120 3 123 rfl) ?_
    refine G_go rfl rfl ?_
    refine G_go rfl rfl ?_
    refine G_go rfl rfl ?_
    refine G_rf rfl rfl (by decide) (hR 120 3 123 rfl) ?_
    refine G_go rfl rfl ?_
    refine G_ir (n := 6) rfl rfl (by decide) (by decide) g2 ?_
    refine G_call rfl rfl ?_
    obtain ⟨g5, h⟩ := h
    refine c_carryT_135 n _ _ (s 123 x3.toNat) (m + 2) hR hV hT rfl g5 ?_
    have hR := refs_up (a := 120) (k := 24) (x := ((m + 3 : Nat) : Int)) (refs_up (a := 135) (k := m + 2) (x := s 123 x3.toNat) hR rfl) rfl
    refine G_iw (n := 6) rfl rfl (by decide) (by decide) g2 ?_
    have hR := refs_up (a := 123) (k := x3.toNat) (x := s 123 x3.toNat) hR rfl
    refine G_go rfl rfl ?_
    refine G_rf rfl rfl (by decide) (hR 120 4 124 rfl) ?_
    refine G_go rfl rfl ?_
    refine G_go rfl rfl ?_
    refine G_go rfl rfl ?_
    refine G_rf rfl rfl (by decide) (hR 120 4 124 rfl) ?_
    refine G_go rfl rfl ?_
    refine G_ir (n := 6) rfl rfl (by decide) (by decide) g2 ?_
    refine G_call rfl rfl ?_
    obtain ⟨g6, h⟩ := h
    refine c_carryT_135 n _ _ (s 124 x3.toNat) (m + 3) hR hV hT rfl g6 ?_
    have hR := refs_up (a := 120) (k := 24) (x := ((m + 4 : Nat) : Int)) (refs_up (a := 135) (k := m + 3) (x := s 124 x3.toNat) hR rfl) rfl
    refine G_iw (n := 6) rfl rfl (by decide) (by decide) g2 ?_
    have hR := refs_up (a := 124) (k := x3.toNat) (x := s 124 x3.toNat) hR rfl
    refine G_go rfl rfl ?_
    refine G_rf rfl rfl (by decide) (hR 120 5 125 rfl) ?_
    refine G_go rfl rfl ?_
    refine G_go rfl rfl ?_
    refine G_go rfl rfl ?_
    refine G_rf rfl rfl (by decide) (hR 120 5 125 rfl) ?_
    refine G_go rfl rfl ?_
    refine G_ir (n := 6) rfl rfl (by decide) (by decide) g2 ?_
    refine G_call rfl rfl ?_
    obtain ⟨g7, h⟩ := h
    refine c_carryT_135 n _ _ (s 125 x3.toNat) (m + 4) hR hV hT rfl g7 ?_
    have hR := refs_up (a := 120) (k := 24) (x := ((m + 5 : Nat) : Int)) (refs_up (a := 135) (k := m + 4) (x := s 125 x3.toNat) hR rfl) rfl
    refine G_iw (n := 6) rfl rfl (by decide) (by decide) g2 ?_
    have hR := refs_up (a := 125) (k := x3.toNat) (x := s 125 x3.toNat) hR rfl
    refine G_go rfl rfl ?_
    refine G_rf rfl rfl (by decide) (hR 120 6 126 rfl) ?_
    refine G_go rfl rfl ?_
    refine G_go rfl rfl ?_
    refine G_go rfl rfl ?_
    refine G_rf rfl rfl (by decide) (hR 120 6 126 rfl) ?_
    refine G_go rfl rfl ?_
    refine G_ir (n := 6) rfl rfl (by decide) (by decide) g2 ?_
    refine G_call rfl rfl ?_
    obtain ⟨g8, h⟩ := h
    refine c_carryT_135 n _ _ (s 126 x3.toNat) (m + 5) hR hV hT rfl g8 ?_
    have hR := refs_up (a := 120) (k := 24) (x := ((m + 6 : Nat) : Int)) (refs_up (a := 135) (k := m + 5) (x := s 126 x3.toNat) hR rfl) rfl
    refine G_iw (n := 6) rfl rfl (by decide) (by decide) g2 ?_
    have hR := refs_up (a := 126) (k := x3.toNat) (x := s 126 x3.toNat) hR rfl
    refine G_go rfl rfl ?_
    refine G_rf rfl rfl (by decide) (hR 120 7 127 rfl) ?_
    refine G_go rfl rfl ?_
    refine G_go rfl rfl ?_
    refine G_go rfl rfl ?_
    refine G_rf rfl rfl (by decide) (hR 120 7 127 rfl) ?_
    refine G_go rfl rfl ?_
    refine G_ir (n := 6) rfl rfl (by decide) (by decide) g2 ?_
    refine G_call rfl rfl ?_
    obtain ⟨g9, h⟩ := h
    refine c_carryT_135 n _ _ (s 127 x3.toNat) (m + 6) hR hV hT rfl g9 ?_
    have hR := refs_up (a := 120) (k := 24) (x := ((m + 7 : Nat) : Int)) (refs_up (a := 135) (k := m + 6) (x := s 127 x3.toNat) hR rfl) rfl
    refine G_iw (n := 6) rfl rfl (by decide) (by decide) g2 ?_
    have hR := refs_up (a := 127) (k := x3.toNat) (x := s 127 x3.toNat) hR rfl
    refine G_go rfl rfl ?_
    refine G_rf rfl rfl (by decide) (hR 120 8 128 rfl) ?_
    refine G_go rfl rfl ?_
    refine G_go rfl rfl ?_
    refine G_go rfl rfl ?_
    refine G_rf rfl rfl (by decide) (hR 120 8 128 rfl) ?_
    refine G_go rfl rfl ?_
    refine G_ir (n := 6) rfl rfl (by decide) (by decide) g2 ?_
    refine G_call rfl rfl ?_
    obtain ⟨g10, h⟩ := h
    refine c_carryT_135 n _ _ (s 128 x3.toNat) (m + 7) hR hV hT rfl g10 ?_
    have hR := refs_up (a := 120) (k := 24) (x := ((m + 8 : Nat) : Int)) (refs_up (a := 135) (k := m + 7) (x := s 128 x3.toNat) hR rfl) rfl
    refine G_iw (n := 6) rfl rfl (by decide) (by decide) g2 ?_
    have hR := refs_up (a := 128) (k := x3.toNat) (x := s 128 x3.toNat) hR rfl
    refine G_go rfl rfl ?_
    refine G_go rfl rfl ?_
    exact h
def ckT_135 (m k : Nat) (s : Nat → Nat → Int) : Nat → Nat → Int := upS (upS (upS (upS (upS (upS (upS (upS (upS (upS (upS (upS (upS (upS (upS (upS (upS (upS (upS (upS (upS (upS (upS (upS s 135 m (s 121 k)) 120 24 ((m + 1 : Nat) : Int)) 121 k (s 121 k)) 135 (m + 1) (s 122 k)) 120 24 ((m + 2 : Nat) : Int)) 122 k (s 122 k)) 135 (m + 2) (s 123 k)) 120 24 ((m + 3 : Nat) : Int)) 123 k (s 123 k)) 135 (m + 3) (s 124 k)) 120 24 ((m + 4 : Nat) : Int)) 124 k (s 124 k)) 135 (m + 4) (s 125 k)) 120 24 ((m + 5 : Nat) : Int)) 125 k (s 125 k)) 135 (m + 5) (s 126 k)) 120 24 ((m + 6 : Nat) : Int)) 126 k (s 126 k)) 135 (m + 6) (s 127 k)) 120 24 ((m + 7 : Nat) : Int)) 127 k (s 127 k)) 135 (m + 7) (s 128 k)) 120 24 ((m + 8 : Nat) : Int)) 128 k (s 128 k)
theorem ckT_135_c {m k : Nat} {s : Nat → Nat → Int} {j : Nat} (hj : j < 8) : ckT_135 m k s 135 (m + j) = s (121 + j) k := by
  rcases lt8 hj with rfl | rfl | rfl | rfl | rfl | rfl | rfl | rfl
  all_goals simp [ckT_135, upS]
theorem ckT_135_c2 {m k : Nat} {s : Nat → Nat → Int} {i : Nat} (hi : i < m) : ckT_135 m k s 135 i = s 135 i := by
  simp [ckT_135, upS, show i ≠ m by omega, show i ≠ m + 1 by omega, show i ≠ m + 2 by omega, show i ≠ m + 3 by omega, show i ≠ m + 4 by omega, show i ≠ m + 5 by omega, show i ≠ m + 6 by omega, show i ≠ m + 7 by omega]
theorem ckT_135_row {m k : Nat} {s : Nat → Nat → Int} {b : Nat} (h1 : 121 ≤ b) (h2 : b ≤ 128) : ckT_135 m k s b = s b := by
  funext z
  have : b = 121 ∨ b = 122 ∨ b = 123 ∨ b = 124 ∨ b = 125 ∨ b = 126 ∨ b = 127 ∨ b = 128 := by omega
  by_cases e : z = k
  · subst e
    rcases this with rfl | rfl | rfl | rfl | rfl | rfl | rfl | rfl
    all_goals simp [ckT_135, upS]
  · rcases this with rfl | rfl | rfl | rfl | rfl | rfl | rfl | rfl
    all_goals simp [ckT_135, upS, e]
theorem ckT_135_24 {m k : Nat} {s : Nat → Nat → Int} : ckT_135 m k s 120 24 = ((m + 8 : Nat) : Int) := by
  simp [ckT_135, upS]
theorem ckT_135_120 {m k : Nat} {s : Nat → Nat → Int} {i : Nat} (hi : i ≠ 24) : ckT_135 m k s 120 i = s 120 i := by
  simp [ckT_135, upS, hi]
theorem ckT_135_out {m k : Nat} {s : Nat → Nat → Int} {b : Nat} (h1 : b ≠ 135) (h2 : 128 < b) : ckT_135 m k s b = s b := by
  funext z
  simp [ckT_135, upS, h1, show b ≠ 120 by omega, show b ≠ 121 by omega, show b ≠ 122 by omega, show b ≠ 123 by omega, show b ≠ 124 by omega, show b ≠ 125 by omega, show b ≠ 126 by omega, show b ≠ 127 by omega, show b ≠ 128 by omega]
def caT_135 (s : Nat → Nat → Int) (k : Nat) (s1 : Nat → Nat → Int) : Prop := frX 135 s s1 ∧ s1 120 24 = ((2 + 8 * k : Nat) : Int) ∧ s1 120 25 = 1 ∧ s1 120 26 = 135 ∧ s1 120 0 = s 120 0 ∧ s1 120 9 = s 120 9 ∧ s1 135 0 = s 120 0 ∧ s1 135 1 = s 120 9 ∧ (∀ b, 121 ≤ b → b ≤ 128 → s1 b = s b) ∧ ∀ j, j < 8 → ∀ p, p < k → s1 135 (2 + 8 * p + j) = s (121 + j) p
theorem caT_135_step {s s1 : Nat → Nat → Int} {k : Nat} (h : caT_135 s k s1) : caT_135 s (k + 1) (ckT_135 (2 + 8 * k) k s1) := by
  obtain ⟨h1, h2, h3, h4, h5, h6, h7, h8, h9, h10⟩ := h
  refine ⟨⟨fun b b1 b2 b3 => ?_, fun i i1 i2 i3 i4 i5 => ?_⟩, ?_, ?_, ?_, ?_, ?_, ?_, ?_, fun b b1 b2 => ?_, fun j hj p hp => ?_⟩
  · rw [ckT_135_out b3 b1]
    exact h1.1 b b1 b2 b3
  · rw [ckT_135_120 i3]
    exact h1.2 i i1 i2 i3 i4 i5
  · rw [ckT_135_24]
    omega
  · rw [ckT_135_120 (by decide)]
    exact h3
  · rw [ckT_135_120 (by decide)]
    exact h4
  · rw [ckT_135_120 (by decide)]
    exact h5
  · rw [ckT_135_120 (by decide)]
    exact h6
  · rw [ckT_135_c2 (by omega)]
    exact h7
  · rw [ckT_135_c2 (by omega)]
    exact h8
  · rw [ckT_135_row b1 b2]
    exact h9 b b1 b2
  · by_cases e : p = k
    · subst e
      rw [ckT_135_c hj, h9 (121 + j) (by omega) (by omega)]
    · rw [ckT_135_c2 (by omega)]
      exact h10 j hj p (by omega)
theorem c_carryAllT_135 (n : Nat) (s : Nat → Nat → Int) (Q : List Vl → Sto → Prop) (np h : Int) (V : Nat → Nat → Int) (hR : refs s) (h6 : np ≤ 6) (ht : twR s np h V) (hq : ∀ s1, refs s1 → frX 135 s s1 → twR s1 np h V → twK 135 0 s1 np h V → Q [] (n, s1)) : G 120 140 139 0 [(3, 120), (3, 135), (1, 1), (0, 0)] [] (n, s) Q := by
  refine sb_X7_carryAll_0_135_1 n s Q hR ?_
  refine G_up 6 (fun k _ => ∀ s1, refs s1 → caT_135 s k s1 → G 120 140 139 41 [(3, 120), (3, 135), (1, 1), (1, (k : Int))] [] (n, s1) Q) (fun _ _ => ()) (fun _ _ => True) () trivial (fun _ _ _ _ => trivial) (fun k _ hk _ hg s1 hR1 hI => ?_) (fun _ s1 hR1 hI => ?_) _ (refs_up (refs_up (refs_up (refs_up (refs_up (refs_up (refs_up (refs_up (refs_up hR rfl) rfl) rfl) rfl) rfl) rfl) rfl) rfl) rfl) ?_
  · rw [← wr_s hk (by omega)] at hg
    refine sb_X7_carryAll_41_135_1 n s1 Q k hR1 (2 + 8 * k) hI.2.1 hI.2.2.2.1 hI.2.2.1 ⟨fun e => by omega, fun _ => ⟨by omega, by omega, by omega, by omega, by omega, by omega, by omega, by omega, by omega, ?_⟩⟩
    rw [Int.toNat_natCast]
    exact hg (ckT_135 (2 + 8 * k) k s1) (refs_up (refs_up (refs_up (refs_up (refs_up (refs_up (refs_up (refs_up (refs_up (refs_up (refs_up (refs_up (refs_up (refs_up (refs_up (refs_up (refs_up (refs_up (refs_up (refs_up (refs_up (refs_up (refs_up (refs_up hR1 rfl) rfl) rfl) rfl) rfl) rfl) rfl) rfl) rfl) rfl) rfl) rfl) rfl) rfl) rfl) rfl) rfl) rfl) rfl) rfl) rfl) rfl) rfl) rfl) (caT_135_step hI)
  · obtain ⟨h1, h2, h3, h4, h5, h6, h7, h8, h9, h10⟩ := hI
    obtain ⟨t1, t2, t3⟩ := ht
    refine sb_X7_carryAll_41_135_1 n s1 Q _ hR1 50 ?_ h4 h3 ⟨fun _ => hq s1 hR1 h1 ⟨by rw [h5, t1], by rw [h6, t2], fun j hj p hp => ?_⟩ ⟨by rw [h7, t1], by rw [h8, t2], fun j hj p hp => ?_⟩, fun e => by omega⟩
    · rw [h2]
    · rw [h9 (121 + j) (by omega) (by omega)]
      exact t3 j hj p hp
    · unfold fw
      rw [Nat.zero_add, h10 j hj p (by omega)]
      exact t3 j hj p hp
  · refine ⟨⟨fun b b1 b2 b3 => ?_, fun i i1 i2 i3 i4 i5 => ?_⟩, rfl, rfl, rfl, rfl, rfl, rfl, rfl, fun b b1 b2 => ?_, fun j hj p hp => absurd hp (by omega)⟩
    · funext z
      simp [upS, b3, show b ≠ 120 by omega]
    · simp [upS, i1, i2, i3, i4, i5]
    · funext z
      simp [upS, show b ≠ 120 by omega, show b ≠ 135 by omega]

theorem sb_X7_carryAll_0_135_0 (n : Nat) (s : Nat → Nat → Int) (Q : List Vl → Sto → Prop) (hR : refs s)
    (h : G 120 140 139 41 [(3, 120), (3, 135), (1, 0), (1, 0)] [] (n, upS (upS (upS (upS (upS (upS (upS s 120 26 135) 120 25 0) 120 24 0) 120 24 ((1 : Nat) : Int)) 120 0 (s 135 0)) 120 24 ((2 : Nat) : Int)) 120 9 (s 135 1)) Q) :
    G 120 140 139 0 [(3, 120), (3, 135), (1, 0), (0, 0)] [] (n, s) Q := by
  refine G_go rfl rfl ?_
  refine G_go rfl rfl ?_
  refine G_wr rfl rfl (by decide) ?_
  have hR := refs_up (a := 120) (k := 26) (x := 135) hR rfl
  have hV : (upS s 120 26 135) 120 26 = 135 := rfl
  refine G_go rfl rfl ?_
  refine G_go rfl rfl ?_
  refine G_wr rfl rfl (by decide) ?_
  have hR := refs_up (a := 120) (k := 25) (x := 0) hR rfl
  refine G_go rfl rfl ?_
  refine G_go rfl rfl ?_
  refine G_wr rfl rfl (by decide) ?_
  have hR := refs_up (a := 120) (k := 24) (x := 0) hR rfl
  refine G_go rfl rfl ?_
  refine G_go rfl rfl ?_
  refine G_go rfl rfl ?_
  refine G_rd rfl rfl (by decide) ?_
  refine G_call rfl rfl ?_
  refine c_carryF_135 n _ _ (s 120 0) 0 hR hV rfl rfl (by decide) ?_
  have hR := refs_up (a := 120) (k := 24) (x := ((1 : Nat) : Int)) hR rfl
  refine G_wr rfl rfl (by decide) ?_
  have hR := refs_up (a := 120) (k := 0) (x := s 135 0) hR rfl
  refine G_go rfl rfl ?_
  refine G_go rfl rfl ?_
  refine G_go rfl rfl ?_
  refine G_rd rfl rfl (by decide) ?_
  refine G_call rfl rfl ?_
  refine c_carryF_135 n _ _ (s 120 9) 1 hR hV rfl rfl (by decide) ?_
  have hR := refs_up (a := 120) (k := 24) (x := ((2 : Nat) : Int)) hR rfl
  refine G_wr rfl rfl (by decide) ?_
  have hR := refs_up (a := 120) (k := 9) (x := s 135 1) hR rfl
  refine G_go rfl rfl ?_
  refine G_go rfl rfl ?_
  show G 120 140 139 41 [(3, 120), (3, 135), (1, 0), (1, 0)] [] (n, upS (upS (upS (upS (upS (upS (upS s 120 26 135) 120 25 0) 120 24 0) 120 24 ((1 : Nat) : Int)) 120 0 (s 135 0)) 120 24 ((2 : Nat) : Int)) 120 9 (s 135 1)) Q
  exact h
theorem sb_X7_carryAll_41_135_0 (n : Nat) (s : Nat → Nat → Int) (Q : List Vl → Sto → Prop) (x3 : Int) (hR : refs s) (m : Nat) (hm : s 120 24 = (m : Int)) (hV : s 120 26 = 135) (hT : s 120 25 = 0)
    (h : (6 ≤ x3 → Q [] (n, s)) ∧ (x3 < 6 → (0 ≤ x3 ∧ x3 < 6) ∧ ((m < 50) ∧ ((m + 1 < 50) ∧ ((m + 2 < 50) ∧ ((m + 3 < 50) ∧ ((m + 4 < 50) ∧ ((m + 5 < 50) ∧ ((m + 6 < 50) ∧ ((m + 7 < 50) ∧ (G 120 140 139 41 [(3, 120), (3, 135), (1, 0), (1, wr (x3 + 1))] [] (n, upS (upS (upS (upS (upS (upS (upS (upS (upS (upS (upS (upS (upS (upS (upS (upS s 120 24 ((m + 1 : Nat) : Int)) 121 x3.toNat (s 135 m)) 120 24 ((m + 2 : Nat) : Int)) 122 x3.toNat (s 135 (m + 1))) 120 24 ((m + 3 : Nat) : Int)) 123 x3.toNat (s 135 (m + 2))) 120 24 ((m + 4 : Nat) : Int)) 124 x3.toNat (s 135 (m + 3))) 120 24 ((m + 5 : Nat) : Int)) 125 x3.toNat (s 135 (m + 4))) 120 24 ((m + 6 : Nat) : Int)) 126 x3.toNat (s 135 (m + 5))) 120 24 ((m + 7 : Nat) : Int)) 127 x3.toNat (s 135 (m + 6))) 120 24 ((m + 8 : Nat) : Int)) 128 x3.toNat (s 135 (m + 7))) Q))))))))))) :
    G 120 140 139 41 [(3, 120), (3, 135), (1, 0), (1, x3)] [] (n, s) Q := by
  refine G_go rfl rfl ?_
  refine G_go rfl rfl ?_
  refine G_ge rfl rfl (fun c1 => ?_) (fun c1 => ?_)
  · have h := h.1 c1
    exact G_ret rfl rfl h
  · have h := h.2 c1
    refine G_go rfl rfl ?_
    refine G_rf rfl rfl (by decide) (hR 120 1 121 rfl) ?_
    refine G_go rfl rfl ?_
    refine G_go rfl rfl ?_
    refine G_go rfl rfl ?_
    refine G_rf rfl rfl (by decide) (hR 120 1 121 rfl) ?_
    refine G_go rfl rfl ?_
    obtain ⟨g2, h⟩ := h
    refine G_ir (n := 6) rfl rfl (by decide) (by decide) g2 ?_
    refine G_call rfl rfl ?_
    obtain ⟨g3, h⟩ := h
    refine c_carryF_135 n _ _ (s 121 x3.toNat) m hR hV hT hm g3 ?_
    have hR := refs_up (a := 120) (k := 24) (x := ((m + 1 : Nat) : Int)) hR rfl
    refine G_iw (n := 6) rfl rfl (by decide) (by decide) g2 ?_
    have hR := refs_up (a := 121) (k := x3.toNat) (x := s 135 m) hR rfl
    refine G_go rfl rfl ?_
    refine G_rf rfl rfl (by decide) (hR 120 2 122 rfl) ?_
    refine G_go rfl rfl ?_
    refine G_go rfl rfl ?_
    refine G_go rfl rfl ?_
    refine G_rf rfl rfl (by decide) (hR 120 2 122 rfl) ?_
    refine G_go rfl rfl ?_
    refine G_ir (n := 6) rfl rfl (by decide) (by decide) g2 ?_
    refine G_call rfl rfl ?_
    obtain ⟨g4, h⟩ := h
    refine c_carryF_135 n _ _ (s 122 x3.toNat) (m + 1) hR hV hT rfl g4 ?_
    have hR := refs_up (a := 120) (k := 24) (x := ((m + 2 : Nat) : Int)) hR rfl
    refine G_iw (n := 6) rfl rfl (by decide) (by decide) g2 ?_
    have hR := refs_up (a := 122) (k := x3.toNat) (x := s 135 (m + 1)) hR rfl
    refine G_go rfl rfl ?_
    refine G_rf rfl rfl (by decide) (hR 120 3 123 rfl) ?_
    refine G_go rfl rfl ?_
    refine G_go rfl rfl ?_
    refine G_go rfl rfl ?_
    refine G_rf rfl rfl (by decide) (hR 120 3 123 rfl) ?_
    refine G_go rfl rfl ?_
    refine G_ir (n := 6) rfl rfl (by decide) (by decide) g2 ?_
    refine G_call rfl rfl ?_
    obtain ⟨g5, h⟩ := h
    refine c_carryF_135 n _ _ (s 123 x3.toNat) (m + 2) hR hV hT rfl g5 ?_
    have hR := refs_up (a := 120) (k := 24) (x := ((m + 3 : Nat) : Int)) hR rfl
    refine G_iw (n := 6) rfl rfl (by decide) (by decide) g2 ?_
    have hR := refs_up (a := 123) (k := x3.toNat) (x := s 135 (m + 2)) hR rfl
    refine G_go rfl rfl ?_
    refine G_rf rfl rfl (by decide) (hR 120 4 124 rfl) ?_
    refine G_go rfl rfl ?_
    refine G_go rfl rfl ?_
    refine G_go rfl rfl ?_
    refine G_rf rfl rfl (by decide) (hR 120 4 124 rfl) ?_
    refine G_go rfl rfl ?_
    refine G_ir (n := 6) rfl rfl (by decide) (by decide) g2 ?_
    refine G_call rfl rfl ?_
    obtain ⟨g6, h⟩ := h
    refine c_carryF_135 n _ _ (s 124 x3.toNat) (m + 3) hR hV hT rfl g6 ?_
    have hR := refs_up (a := 120) (k := 24) (x := ((m + 4 : Nat) : Int)) hR rfl
    refine G_iw (n := 6) rfl rfl (by decide) (by decide) g2 ?_
    have hR := refs_up (a := 124) (k := x3.toNat) (x := s 135 (m + 3)) hR rfl
    refine G_go rfl rfl ?_
    refine G_rf rfl rfl (by decide) (hR 120 5 125 rfl) ?_
    refine G_go rfl rfl ?_
    refine G_go rfl rfl ?_
    refine G_go rfl rfl ?_
    refine G_rf rfl rfl (by decide) (hR 120 5 125 rfl) ?_
    refine G_go rfl rfl ?_
    refine G_ir (n := 6) rfl rfl (by decide) (by decide) g2 ?_
    refine G_call rfl rfl ?_
    obtain ⟨g7, h⟩ := h
    refine c_carryF_135 n _ _ (s 125 x3.toNat) (m + 4) hR hV hT rfl g7 ?_
    have hR := refs_up (a := 120) (k := 24) (x := ((m + 5 : Nat) : Int)) hR rfl
    refine G_iw (n := 6) rfl rfl (by decide) (by decide) g2 ?_
    have hR := refs_up (a := 125) (k := x3.toNat) (x := s 135 (m + 4)) hR rfl
    refine G_go rfl rfl ?_
    refine G_rf rfl rfl (by decide) (hR 120 6 126 rfl) ?_
    refine G_go rfl rfl ?_
    refine G_go rfl rfl ?_
    refine G_go rfl rfl ?_
    refine G_rf rfl rfl (by decide) (hR 120 6 126 rfl) ?_
    refine G_go rfl rfl ?_
    refine G_ir (n := 6) rfl rfl (by decide) (by decide) g2 ?_
    refine G_call rfl rfl ?_
    obtain ⟨g8, h⟩ := h
    refine c_carryF_135 n _ _ (s 126 x3.toNat) (m + 5) hR hV hT rfl g8 ?_
    have hR := refs_up (a := 120) (k := 24) (x := ((m + 6 : Nat) : Int)) hR rfl
    refine G_iw (n := 6) rfl rfl (by decide) (by decide) g2 ?_
    have hR := refs_up (a := 126) (k := x3.toNat) (x := s 135 (m + 5)) hR rfl
    refine G_go rfl rfl ?_
    refine G_rf rfl rfl (by decide) (hR 120 7 127 rfl) ?_
    refine G_go rfl rfl ?_
    refine G_go rfl rfl ?_
    refine G_go rfl rfl ?_
    refine G_rf rfl rfl (by decide) (hR 120 7 127 rfl) ?_
    refine G_go rfl rfl ?_
    refine G_ir (n := 6) rfl rfl (by decide) (by decide) g2 ?_
    refine G_call rfl rfl ?_
    obtain ⟨g9, h⟩ := h
    refine c_carryF_135 n _ _ (s 127 x3.toNat) (m + 6) hR hV hT rfl g9 ?_
    have hR := refs_up (a := 120) (k := 24) (x := ((m + 7 : Nat) : Int)) hR rfl
    refine G_iw (n := 6) rfl rfl (by decide) (by decide) g2 ?_
    have hR := refs_up (a := 127) (k := x3.toNat) (x := s 135 (m + 6)) hR rfl
    refine G_go rfl rfl ?_
    refine G_rf rfl rfl (by decide) (hR 120 8 128 rfl) ?_
    refine G_go rfl rfl ?_
    refine G_go rfl rfl ?_
    refine G_go rfl rfl ?_
    refine G_rf rfl rfl (by decide) (hR 120 8 128 rfl) ?_
    refine G_go rfl rfl ?_
    refine G_ir (n := 6) rfl rfl (by decide) (by decide) g2 ?_
    refine G_call rfl rfl ?_
    obtain ⟨g10, h⟩ := h
    refine c_carryF_135 n _ _ (s 128 x3.toNat) (m + 7) hR hV hT rfl g10 ?_
    have hR := refs_up (a := 120) (k := 24) (x := ((m + 8 : Nat) : Int)) hR rfl
    refine G_iw (n := 6) rfl rfl (by decide) (by decide) g2 ?_
    have hR := refs_up (a := 128) (k := x3.toNat) (x := s 135 (m + 7)) hR rfl
    refine G_go rfl rfl ?_
    refine G_go rfl rfl ?_
    exact h
def ckF_135 (m k : Nat) (s : Nat → Nat → Int) : Nat → Nat → Int := upS (upS (upS (upS (upS (upS (upS (upS (upS (upS (upS (upS (upS (upS (upS (upS s 120 24 ((m + 1 : Nat) : Int)) 121 k (s 135 m)) 120 24 ((m + 2 : Nat) : Int)) 122 k (s 135 (m + 1))) 120 24 ((m + 3 : Nat) : Int)) 123 k (s 135 (m + 2))) 120 24 ((m + 4 : Nat) : Int)) 124 k (s 135 (m + 3))) 120 24 ((m + 5 : Nat) : Int)) 125 k (s 135 (m + 4))) 120 24 ((m + 6 : Nat) : Int)) 126 k (s 135 (m + 5))) 120 24 ((m + 7 : Nat) : Int)) 127 k (s 135 (m + 6))) 120 24 ((m + 8 : Nat) : Int)) 128 k (s 135 (m + 7))
theorem ckF_135_row {m k : Nat} {s : Nat → Nat → Int} {j p : Nat} (hj : j < 8) : ckF_135 m k s (121 + j) p = if p = k then s 135 (m + j) else s (121 + j) p := by
  rcases lt8 hj with rfl | rfl | rfl | rfl | rfl | rfl | rfl | rfl
  all_goals simp [ckF_135, upS]
theorem ckF_135_24 {m k : Nat} {s : Nat → Nat → Int} : ckF_135 m k s 120 24 = ((m + 8 : Nat) : Int) := by
  simp [ckF_135, upS]
theorem ckF_135_120 {m k : Nat} {s : Nat → Nat → Int} {i : Nat} (hi : i ≠ 24) : ckF_135 m k s 120 i = s 120 i := by
  simp [ckF_135, upS, hi]
theorem ckF_135_out {m k : Nat} {s : Nat → Nat → Int} {b : Nat} (h1 : True) (h2 : 128 < b) : ckF_135 m k s b = s b := by
  funext z
  simp [ckF_135, upS, show b ≠ 120 by omega, show b ≠ 121 by omega, show b ≠ 122 by omega, show b ≠ 123 by omega, show b ≠ 124 by omega, show b ≠ 125 by omega, show b ≠ 126 by omega, show b ≠ 127 by omega, show b ≠ 128 by omega]
def caF_135 (s : Nat → Nat → Int) (k : Nat) (s1 : Nat → Nat → Int) : Prop := frX 130 s s1 ∧ s1 120 24 = ((2 + 8 * k : Nat) : Int) ∧ s1 120 25 = 0 ∧ s1 120 26 = 135 ∧ s1 120 0 = s 135 0 ∧ s1 120 9 = s 135 1 ∧ s1 135 = s 135 ∧ ∀ j, j < 8 → ∀ p, p < k → s1 (121 + j) p = s 135 (2 + 8 * p + j)
theorem caF_135_step {s s1 : Nat → Nat → Int} {k : Nat} (h : caF_135 s k s1) : caF_135 s (k + 1) (ckF_135 (2 + 8 * k) k s1) := by
  obtain ⟨h1, h2, h3, h4, h5, h6, h7, h8⟩ := h
  refine ⟨⟨fun b b1 b2 b3 => ?_, fun i i1 i2 i3 i4 i5 => ?_⟩, ?_, ?_, ?_, ?_, ?_, ?_, fun j hj p hp => ?_⟩
  · rw [ckF_135_out trivial b1]
    exact h1.1 b b1 b2 b3
  · rw [ckF_135_120 i3]
    exact h1.2 i i1 i2 i3 i4 i5
  · rw [ckF_135_24]
    omega
  · rw [ckF_135_120 (by decide)]
    exact h3
  · rw [ckF_135_120 (by decide)]
    exact h4
  · rw [ckF_135_120 (by decide)]
    exact h5
  · rw [ckF_135_120 (by decide)]
    exact h6
  · rw [ckF_135_out trivial (by decide)]
    exact h7
  · rw [ckF_135_row hj]
    by_cases e : p = k
    · rw [if_pos e, e, h7]
    · rw [if_neg e]
      exact h8 j hj p (by omega)
theorem c_carryAllF_135 (n : Nat) (s : Nat → Nat → Int) (Q : List Vl → Sto → Prop) (np h : Int) (V : Nat → Nat → Int) (hR : refs s) (h6 : np ≤ 6) (ht : twK 135 0 s np h V) (hq : ∀ s1, refs s1 → frX 130 s s1 → twR s1 np h V → Q [] (n, s1)) : G 120 140 139 0 [(3, 120), (3, 135), (1, 0), (0, 0)] [] (n, s) Q := by
  refine sb_X7_carryAll_0_135_0 n s Q hR ?_
  refine G_up 6 (fun k _ => ∀ s1, refs s1 → caF_135 s k s1 → G 120 140 139 41 [(3, 120), (3, 135), (1, 0), (1, (k : Int))] [] (n, s1) Q) (fun _ _ => ()) (fun _ _ => True) () trivial (fun _ _ _ _ => trivial) (fun k _ hk _ hg s1 hR1 hI => ?_) (fun _ s1 hR1 hI => ?_) _ (refs_up (refs_up (refs_up (refs_up (refs_up (refs_up (refs_up hR rfl) rfl) rfl) rfl) rfl) rfl) rfl) ?_
  · rw [← wr_s hk (by omega)] at hg
    refine sb_X7_carryAll_41_135_0 n s1 Q k hR1 (2 + 8 * k) hI.2.1 hI.2.2.2.1 hI.2.2.1 ⟨fun e => by omega, fun _ => ⟨by omega, by omega, by omega, by omega, by omega, by omega, by omega, by omega, by omega, ?_⟩⟩
    rw [Int.toNat_natCast]
    exact hg (ckF_135 (2 + 8 * k) k s1) (refs_up (refs_up (refs_up (refs_up (refs_up (refs_up (refs_up (refs_up (refs_up (refs_up (refs_up (refs_up (refs_up (refs_up (refs_up (refs_up hR1 rfl) rfl) rfl) rfl) rfl) rfl) rfl) rfl) rfl) rfl) rfl) rfl) rfl) rfl) rfl) rfl) (caF_135_step hI)
  · obtain ⟨h1, h2, h3, h4, h5, h6, h7, h8⟩ := hI
    obtain ⟨t1, t2, t3⟩ := ht
    refine sb_X7_carryAll_41_135_0 n s1 Q _ hR1 50 ?_ h4 h3 ⟨fun _ => hq s1 hR1 h1 ⟨by rw [h5, t1], by rw [h6]; exact t2, fun j hj p hp => ?_⟩, fun e => by omega⟩
    · rw [h2]
    · rw [h8 j hj p (by omega), ← t3 j hj p hp]
      unfold fw
      rw [Nat.zero_add]
  · refine ⟨⟨fun b b1 b2 b3 => ?_, fun i i1 i2 i3 i4 i5 => ?_⟩, rfl, rfl, rfl, rfl, rfl, ?_, fun j hj p hp => absurd hp (by omega)⟩
    · funext z
      simp [upS, show b ≠ 120 by omega]
    · simp [upS, i1, i2, i3, i4, i5]
    · funext z
      simp [upS]

theorem sb_X7_think_0 (n : Nat) (s : Nat → Nat → Int) (Q : List Vl → Sto → Prop) (hR : refs s)
    (h : G 120 140 139 0 [(3, 120), (3, 135), (1, 1), (0, 0)] [] (n, s) (fun r s1 => G 120 140 143 9 [(3, 120)] (r ++ []) s1 Q)) :
    G 120 140 143 0 [(3, 120)] [] (n, s) Q := by
  refine G_go rfl rfl ?_
  refine G_go rfl rfl ?_
  refine G_rf rfl rfl (by decide) (hR 120 21 135 rfl) ?_
  refine G_go rfl rfl ?_
  exact G_call rfl rfl h
theorem sb_X7_think_9 (n : Nat) (s : Nat → Nat → Int) (Q : List Vl → Sto → Prop) (hR : refs s)
    (h : Q [] (n, s)) :
    G 120 140 143 9 [(3, 120)] [] (n, s) Q := by
  exact G_ret rfl rfl h
theorem sb_X7_again_0 (n : Nat) (s : Nat → Nat → Int) (Q : List Vl → Sto → Prop) (hR : refs s)
    (h : G 120 140 139 0 [(3, 120), (3, 135), (1, 0), (0, 0)] [] (n, s) (fun r s1 => G 120 140 140 9 [(3, 120)] (r ++ []) s1 Q)) :
    G 120 140 140 0 [(3, 120)] [] (n, s) Q := by
  refine G_go rfl rfl ?_
  refine G_go rfl rfl ?_
  refine G_rf rfl rfl (by decide) (hR 120 21 135 rfl) ?_
  refine G_go rfl rfl ?_
  exact G_call rfl rfl h
theorem sb_X7_again_9 (n : Nat) (s : Nat → Nat → Int) (Q : List Vl → Sto → Prop) (hR : refs s)
    (h : Q [] (n, s)) :
    G 120 140 140 9 [(3, 120)] [] (n, s) Q := by
  exact G_ret rfl rfl h
theorem c_think (n : Nat) (s : Nat → Nat → Int) (Q : List Vl → Sto → Prop) (np h : Int) (V : Nat → Nat → Int) (hR : refs s) (h6 : np ≤ 6) (ht : twR s np h V) (hq : ∀ s1, refs s1 → frX 135 s s1 → twR s1 np h V → twK 135 0 s1 np h V → Q [] (n, s1)) : G 120 140 143 0 [(3, 120)] [] (n, s) Q :=
  sb_X7_think_0 n s Q hR (c_carryAllT_135 n s _ np h V hR h6 ht (fun s1 r1 f1 t1 k1 => sb_X7_think_9 n s1 Q r1 (hq s1 r1 f1 t1 k1)))
theorem c_again (n : Nat) (s : Nat → Nat → Int) (Q : List Vl → Sto → Prop) (np h : Int) (V : Nat → Nat → Int) (hR : refs s) (h6 : np ≤ 6) (ht : twK 135 0 s np h V) (hq : ∀ s1, refs s1 → frX 130 s s1 → twR s1 np h V → Q [] (n, s1)) : G 120 140 140 0 [(3, 120)] [] (n, s) Q :=
  sb_X7_again_0 n s Q hR (c_carryAllF_135 n s _ np h V hR h6 ht (fun s1 r1 f1 t1 => sb_X7_again_9 n s1 Q r1 (hq s1 r1 f1 t1)))

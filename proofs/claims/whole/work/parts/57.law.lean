/-! THE LAW'S CASES. -/
theorem wr_i {i : Nat} (j : Nat) (h : i + 5 ≤ 2560) (hj : j < 10) : wr ((i : Int) + (j : Int)) = ((i + j : Nat) : Int) := by
  rw [wr_id (by omega) (by omega)]
  omega
set_option maxRecDepth 100000 in
theorem lw_0 (s : Nat → Nat → Int) (i : Nat) (hL : s 0 0 ≤ 2560) (hi : (i : Int) + 5 ≤ s 0 0) (h : REL s s) (Q : List Vl → Sto → Prop) (K : ∀ s1, REL s1 s1 → (∀ a, a < 2 → s1 a = s a) → G 0 140 225 1519 [(3, 1), (3, 2), (3, 120), (1, (i : Int))] [] (140, s1) Q) : G 0 140 225 236 [(3, 1), (3, 2), (3, 120), (1, (i : Int))] [] (140, s) Q := by
  have i5 : i + 5 ≤ 2560 := by omega
  have g1 : ((i + 1 : Nat) : Int) < s 0 0 := by omega
  have w1 : wr ((i : Int) + 1) = ((i + 1 : Nat) : Int) := wr_i 1 i5 (by decide)
  refine G_go rfl rfl ?_
  refine G_go rfl rfl ?_
  refine G_go rfl rfl ?_
  refine G_go rfl rfl ?_
  refine G_go rfl rfl ?_
  refine G_scv (j := i + 1) (v := s 1 (i + 1)) rfl (by decide) w1 g1 rfl ?_
  show G 0 140 225 242 [(3, 1), (3, 2), (3, 120), (1, (i : Int))] [(1, s 1 (i + 1)), (3, 2)] (140, s) Q
  refine G_call rfl rfl ?_
  refine G_mono (both_call (tg := 1) (Or.inl ⟨rfl, rfl⟩) (op_feed 140 s s h (s 1 (i + 1)))) (fun r s1 hk => ?_)
  obtain ⟨x, hr, e1, hk⟩ := hk
  subst hr
  show G 0 140 225 245 [(3, 1), (3, 2), (3, 120), (1, (i : Int))] [(1, x)] s1 Q
  have e10 : s1.2 0 = s 0 := e1 0 (by decide)
  have e11 : s1.2 1 = s 1 := e1 1 (by decide)
  refine G_go rfl rfl ?_
  refine G_go rfl rfl ?_
  refine G_go rfl rfl ?_
  refine G_go rfl rfl ?_
  refine G_go rfl rfl ?_
  refine G_scv (j := i + 1) (v := s 1 (i + 1)) rfl (by decide) w1 (by rw [e10]; exact g1) (by rw [e11]) ?_
  show G 0 140 225 251 [(3, 1), (3, 2), (3, 120), (1, (i : Int))] [(1, s 1 (i + 1)), (3, 120), (1, x)] s1 Q
  refine G_call rfl rfl ?_
  refine G_mono hk (fun r2 s2 hq => ?_)
  obtain ⟨hr, h2, hn, e2⟩ := hq
  subst hr
  obtain ⟨n2, t2⟩ := s2
  have hn : n2 = 140 := hn
  subst hn
  show G 0 140 225 254 [(3, 1), (3, 2), (3, 120), (1, (i : Int))] [(1, x), (1, x)] (140, t2) Q
  refine G_eq rfl rfl (fun _ => ?_) (fun c => absurd rfl c)
  exact K t2 h2 e2
set_option maxRecDepth 100000 in
theorem lw_1 (s : Nat → Nat → Int) (i : Nat) (hL : s 0 0 ≤ 2560) (hi : (i : Int) + 5 ≤ s 0 0) (h : REL s s) (Q : List Vl → Sto → Prop) (K : ∀ s1, REL s1 s1 → (∀ a, a < 2 → s1 a = s a) → G 0 140 225 1519 [(3, 1), (3, 2), (3, 120), (1, (i : Int))] [] (140, s1) Q) : G 0 140 225 259 [(3, 1), (3, 2), (3, 120), (1, (i : Int))] [] (140, s) Q := by
  refine G_go rfl rfl ?_
  refine G_call rfl rfl ?_
  refine G_mono (both_call (tg := 1) (Or.inl ⟨rfl, rfl⟩) (op_town 140 s s h )) (fun r s1 hk => ?_)
  obtain ⟨x, hr, e1, hk⟩ := hk
  subst hr
  show G 0 140 225 263 [(3, 1), (3, 2), (3, 120), (1, (i : Int))] [(1, x)] s1 Q
  refine G_go rfl rfl ?_
  refine G_call rfl rfl ?_
  refine G_mono hk (fun r2 s2 hq => ?_)
  obtain ⟨hr, h2, hn, e2⟩ := hq
  subst hr
  obtain ⟨n2, t2⟩ := s2
  have hn : n2 = 140 := hn
  subst hn
  show G 0 140 225 267 [(3, 1), (3, 2), (3, 120), (1, (i : Int))] [(1, x), (1, x)] (140, t2) Q
  refine G_eq rfl rfl (fun _ => ?_) (fun c => absurd rfl c)
  exact K t2 h2 e2
set_option maxRecDepth 100000 in
theorem lw_2 (s : Nat → Nat → Int) (i : Nat) (hL : s 0 0 ≤ 2560) (hi : (i : Int) + 5 ≤ s 0 0) (h : REL s s) (Q : List Vl → Sto → Prop) (K : ∀ s1, REL s1 s1 → (∀ a, a < 2 → s1 a = s a) → G 0 140 225 1519 [(3, 1), (3, 2), (3, 120), (1, (i : Int))] [] (140, s1) Q) : G 0 140 225 272 [(3, 1), (3, 2), (3, 120), (1, (i : Int))] [] (140, s) Q := by
  have i5 : i + 5 ≤ 2560 := by omega
  have g1 : ((i + 1 : Nat) : Int) < s 0 0 := by omega
  have g2 : ((i + 2 : Nat) : Int) < s 0 0 := by omega
  have w1 : wr ((i : Int) + 1) = ((i + 1 : Nat) : Int) := wr_i 1 i5 (by decide)
  have w2 : wr ((i : Int) + 2) = ((i + 2 : Nat) : Int) := wr_i 2 i5 (by decide)
  refine G_go rfl rfl ?_
  refine G_go rfl rfl ?_
  refine G_go rfl rfl ?_
  refine G_go rfl rfl ?_
  refine G_go rfl rfl ?_
  refine G_scv (j := i + 1) (v := s 1 (i + 1)) rfl (by decide) w1 g1 rfl ?_
  show G 0 140 225 278 [(3, 1), (3, 2), (3, 120), (1, (i : Int))] [(1, s 1 (i + 1)), (3, 2)] (140, s) Q
  refine G_go rfl rfl ?_
  refine G_go rfl rfl ?_
  refine G_go rfl rfl ?_
  refine G_go rfl rfl ?_
  refine G_scv (j := i + 2) (v := s 1 (i + 2)) rfl (by decide) w2 g2 rfl ?_
  show G 0 140 225 283 [(3, 1), (3, 2), (3, 120), (1, (i : Int))] [(1, s 1 (i + 2)), (1, s 1 (i + 1)), (3, 2)] (140, s) Q
  refine G_call rfl rfl ?_
  refine G_mono (both_call (tg := 1) (Or.inl ⟨rfl, rfl⟩) (op_personOf 140 s s h (s 1 (i + 1)) (s 1 (i + 2)))) (fun r s1 hk => ?_)
  obtain ⟨x, hr, e1, hk⟩ := hk
  subst hr
  show G 0 140 225 286 [(3, 1), (3, 2), (3, 120), (1, (i : Int))] [(1, x)] s1 Q
  have e10 : s1.2 0 = s 0 := e1 0 (by decide)
  have e11 : s1.2 1 = s 1 := e1 1 (by decide)
  refine G_go rfl rfl ?_
  refine G_go rfl rfl ?_
  refine G_go rfl rfl ?_
  refine G_go rfl rfl ?_
  refine G_go rfl rfl ?_
  refine G_scv (j := i + 1) (v := s 1 (i + 1)) rfl (by decide) w1 (by rw [e10]; exact g1) (by rw [e11]) ?_
  show G 0 140 225 292 [(3, 1), (3, 2), (3, 120), (1, (i : Int))] [(1, s 1 (i + 1)), (3, 120), (1, x)] s1 Q
  refine G_go rfl rfl ?_
  refine G_go rfl rfl ?_
  refine G_go rfl rfl ?_
  refine G_go rfl rfl ?_
  refine G_scv (j := i + 2) (v := s 1 (i + 2)) rfl (by decide) w2 (by rw [e10]; exact g2) (by rw [e11]) ?_
  show G 0 140 225 297 [(3, 1), (3, 2), (3, 120), (1, (i : Int))] [(1, s 1 (i + 2)), (1, s 1 (i + 1)), (3, 120), (1, x)] s1 Q
  refine G_call rfl rfl ?_
  refine G_mono hk (fun r2 s2 hq => ?_)
  obtain ⟨hr, h2, hn, e2⟩ := hq
  subst hr
  obtain ⟨n2, t2⟩ := s2
  have hn : n2 = 140 := hn
  subst hn
  show G 0 140 225 300 [(3, 1), (3, 2), (3, 120), (1, (i : Int))] [(1, x), (1, x)] (140, t2) Q
  refine G_eq rfl rfl (fun _ => ?_) (fun c => absurd rfl c)
  exact K t2 h2 e2
set_option maxRecDepth 100000 in
theorem lw_3 (s : Nat → Nat → Int) (i : Nat) (hL : s 0 0 ≤ 2560) (hi : (i : Int) + 5 ≤ s 0 0) (h : REL s s) (Q : List Vl → Sto → Prop) (K : ∀ s1, REL s1 s1 → (∀ a, a < 2 → s1 a = s a) → G 0 140 225 1519 [(3, 1), (3, 2), (3, 120), (1, (i : Int))] [] (140, s1) Q) : G 0 140 225 305 [(3, 1), (3, 2), (3, 120), (1, (i : Int))] [] (140, s) Q := by
  have i5 : i + 5 ≤ 2560 := by omega
  have g1 : ((i + 1 : Nat) : Int) < s 0 0 := by omega
  have g2 : ((i + 2 : Nat) : Int) < s 0 0 := by omega
  have g3 : ((i + 3 : Nat) : Int) < s 0 0 := by omega
  have w1 : wr ((i : Int) + 1) = ((i + 1 : Nat) : Int) := wr_i 1 i5 (by decide)
  have w2 : wr ((i : Int) + 2) = ((i + 2 : Nat) : Int) := wr_i 2 i5 (by decide)
  have w3 : wr ((i : Int) + 3) = ((i + 3 : Nat) : Int) := wr_i 3 i5 (by decide)
  refine G_go rfl rfl ?_
  refine G_go rfl rfl ?_
  refine G_go rfl rfl ?_
  refine G_go rfl rfl ?_
  refine G_go rfl rfl ?_
  refine G_scv (j := i + 1) (v := s 1 (i + 1)) rfl (by decide) w1 g1 rfl ?_
  show G 0 140 225 311 [(3, 1), (3, 2), (3, 120), (1, (i : Int))] [(1, s 1 (i + 1)), (3, 2)] (140, s) Q
  refine G_go rfl rfl ?_
  refine G_go rfl rfl ?_
  refine G_go rfl rfl ?_
  refine G_go rfl rfl ?_
  refine G_scv (j := i + 2) (v := s 1 (i + 2)) rfl (by decide) w2 g2 rfl ?_
  show G 0 140 225 316 [(3, 1), (3, 2), (3, 120), (1, (i : Int))] [(1, s 1 (i + 2)), (1, s 1 (i + 1)), (3, 2)] (140, s) Q
  refine G_go rfl rfl ?_
  refine G_go rfl rfl ?_
  refine G_go rfl rfl ?_
  refine G_go rfl rfl ?_
  refine G_scv (j := i + 3) (v := s 1 (i + 3)) rfl (by decide) w3 g3 rfl ?_
  show G 0 140 225 321 [(3, 1), (3, 2), (3, 120), (1, (i : Int))] [(1, s 1 (i + 3)), (1, s 1 (i + 2)), (1, s 1 (i + 1)), (3, 2)] (140, s) Q
  refine G_call rfl rfl ?_
  refine G_mono (both_call (tg := 1) (Or.inl ⟨rfl, rfl⟩) (op_person 140 s s h (s 1 (i + 1)) (s 1 (i + 2)) (s 1 (i + 3)))) (fun r s1 hk => ?_)
  obtain ⟨x, hr, e1, hk⟩ := hk
  subst hr
  show G 0 140 225 324 [(3, 1), (3, 2), (3, 120), (1, (i : Int))] [(1, x)] s1 Q
  have e10 : s1.2 0 = s 0 := e1 0 (by decide)
  have e11 : s1.2 1 = s 1 := e1 1 (by decide)
  refine G_go rfl rfl ?_
  refine G_go rfl rfl ?_
  refine G_go rfl rfl ?_
  refine G_go rfl rfl ?_
  refine G_go rfl rfl ?_
  refine G_scv (j := i + 1) (v := s 1 (i + 1)) rfl (by decide) w1 (by rw [e10]; exact g1) (by rw [e11]) ?_
  show G 0 140 225 330 [(3, 1), (3, 2), (3, 120), (1, (i : Int))] [(1, s 1 (i + 1)), (3, 120), (1, x)] s1 Q
  refine G_go rfl rfl ?_
  refine G_go rfl rfl ?_
  refine G_go rfl rfl ?_
  refine G_go rfl rfl ?_
  refine G_scv (j := i + 2) (v := s 1 (i + 2)) rfl (by decide) w2 (by rw [e10]; exact g2) (by rw [e11]) ?_
  show G 0 140 225 335 [(3, 1), (3, 2), (3, 120), (1, (i : Int))] [(1, s 1 (i + 2)), (1, s 1 (i + 1)), (3, 120), (1, x)] s1 Q
  refine G_go rfl rfl ?_
  refine G_go rfl rfl ?_
  refine G_go rfl rfl ?_
  refine G_go rfl rfl ?_
  refine G_scv (j := i + 3) (v := s 1 (i + 3)) rfl (by decide) w3 (by rw [e10]; exact g3) (by rw [e11]) ?_
  show G 0 140 225 340 [(3, 1), (3, 2), (3, 120), (1, (i : Int))] [(1, s 1 (i + 3)), (1, s 1 (i + 2)), (1, s 1 (i + 1)), (3, 120), (1, x)] s1 Q
  refine G_call rfl rfl ?_
  refine G_mono hk (fun r2 s2 hq => ?_)
  obtain ⟨hr, h2, hn, e2⟩ := hq
  subst hr
  obtain ⟨n2, t2⟩ := s2
  have hn : n2 = 140 := hn
  subst hn
  show G 0 140 225 343 [(3, 1), (3, 2), (3, 120), (1, (i : Int))] [(1, x), (1, x)] (140, t2) Q
  refine G_eq rfl rfl (fun _ => ?_) (fun c => absurd rfl c)
  exact K t2 h2 e2
set_option maxRecDepth 100000 in
theorem lw_4 (s : Nat → Nat → Int) (i : Nat) (hL : s 0 0 ≤ 2560) (hi : (i : Int) + 5 ≤ s 0 0) (h : REL s s) (Q : List Vl → Sto → Prop) (K : ∀ s1, REL s1 s1 → (∀ a, a < 2 → s1 a = s a) → G 0 140 225 1519 [(3, 1), (3, 2), (3, 120), (1, (i : Int))] [] (140, s1) Q) : G 0 140 225 348 [(3, 1), (3, 2), (3, 120), (1, (i : Int))] [] (140, s) Q := by
  have i5 : i + 5 ≤ 2560 := by omega
  have g1 : ((i + 1 : Nat) : Int) < s 0 0 := by omega
  have g2 : ((i + 2 : Nat) : Int) < s 0 0 := by omega
  have g3 : ((i + 3 : Nat) : Int) < s 0 0 := by omega
  have w1 : wr ((i : Int) + 1) = ((i + 1 : Nat) : Int) := wr_i 1 i5 (by decide)
  have w2 : wr ((i : Int) + 2) = ((i + 2 : Nat) : Int) := wr_i 2 i5 (by decide)
  have w3 : wr ((i : Int) + 3) = ((i + 3 : Nat) : Int) := wr_i 3 i5 (by decide)
  refine G_go rfl rfl ?_
  refine G_go rfl rfl ?_
  refine G_go rfl rfl ?_
  refine G_go rfl rfl ?_
  refine G_go rfl rfl ?_
  refine G_scv (j := i + 1) (v := s 1 (i + 1)) rfl (by decide) w1 g1 rfl ?_
  show G 0 140 225 354 [(3, 1), (3, 2), (3, 120), (1, (i : Int))] [(1, s 1 (i + 1)), (3, 2)] (140, s) Q
  refine G_go rfl rfl ?_
  refine G_go rfl rfl ?_
  refine G_go rfl rfl ?_
  refine G_go rfl rfl ?_
  refine G_scv (j := i + 2) (v := s 1 (i + 2)) rfl (by decide) w2 g2 rfl ?_
  show G 0 140 225 359 [(3, 1), (3, 2), (3, 120), (1, (i : Int))] [(1, s 1 (i + 2)), (1, s 1 (i + 1)), (3, 2)] (140, s) Q
  refine G_go rfl rfl ?_
  refine G_go rfl rfl ?_
  refine G_go rfl rfl ?_
  refine G_go rfl rfl ?_
  refine G_scv (j := i + 3) (v := s 1 (i + 3)) rfl (by decide) w3 g3 rfl ?_
  show G 0 140 225 364 [(3, 1), (3, 2), (3, 120), (1, (i : Int))] [(1, s 1 (i + 3)), (1, s 1 (i + 2)), (1, s 1 (i + 1)), (3, 2)] (140, s) Q
  refine G_call rfl rfl ?_
  refine G_mono (both_call (tg := 1) (Or.inl ⟨rfl, rfl⟩) (op_sets 140 s s h (s 1 (i + 1)) (s 1 (i + 2)) (s 1 (i + 3)))) (fun r s1 hk => ?_)
  obtain ⟨x, hr, e1, hk⟩ := hk
  subst hr
  show G 0 140 225 367 [(3, 1), (3, 2), (3, 120), (1, (i : Int))] [(1, x)] s1 Q
  have e10 : s1.2 0 = s 0 := e1 0 (by decide)
  have e11 : s1.2 1 = s 1 := e1 1 (by decide)
  refine G_go rfl rfl ?_
  refine G_go rfl rfl ?_
  refine G_go rfl rfl ?_
  refine G_go rfl rfl ?_
  refine G_go rfl rfl ?_
  refine G_scv (j := i + 1) (v := s 1 (i + 1)) rfl (by decide) w1 (by rw [e10]; exact g1) (by rw [e11]) ?_
  show G 0 140 225 373 [(3, 1), (3, 2), (3, 120), (1, (i : Int))] [(1, s 1 (i + 1)), (3, 120), (1, x)] s1 Q
  refine G_go rfl rfl ?_
  refine G_go rfl rfl ?_
  refine G_go rfl rfl ?_
  refine G_go rfl rfl ?_
  refine G_scv (j := i + 2) (v := s 1 (i + 2)) rfl (by decide) w2 (by rw [e10]; exact g2) (by rw [e11]) ?_
  show G 0 140 225 378 [(3, 1), (3, 2), (3, 120), (1, (i : Int))] [(1, s 1 (i + 2)), (1, s 1 (i + 1)), (3, 120), (1, x)] s1 Q
  refine G_go rfl rfl ?_
  refine G_go rfl rfl ?_
  refine G_go rfl rfl ?_
  refine G_go rfl rfl ?_
  refine G_scv (j := i + 3) (v := s 1 (i + 3)) rfl (by decide) w3 (by rw [e10]; exact g3) (by rw [e11]) ?_
  show G 0 140 225 383 [(3, 1), (3, 2), (3, 120), (1, (i : Int))] [(1, s 1 (i + 3)), (1, s 1 (i + 2)), (1, s 1 (i + 1)), (3, 120), (1, x)] s1 Q
  refine G_call rfl rfl ?_
  refine G_mono hk (fun r2 s2 hq => ?_)
  obtain ⟨hr, h2, hn, e2⟩ := hq
  subst hr
  obtain ⟨n2, t2⟩ := s2
  have hn : n2 = 140 := hn
  subst hn
  show G 0 140 225 386 [(3, 1), (3, 2), (3, 120), (1, (i : Int))] [(1, x), (1, x)] (140, t2) Q
  refine G_eq rfl rfl (fun _ => ?_) (fun c => absurd rfl c)
  exact K t2 h2 e2
set_option maxRecDepth 100000 in
theorem lw_5 (s : Nat → Nat → Int) (i : Nat) (hL : s 0 0 ≤ 2560) (hi : (i : Int) + 5 ≤ s 0 0) (h : REL s s) (Q : List Vl → Sto → Prop) (K : ∀ s1, REL s1 s1 → (∀ a, a < 2 → s1 a = s a) → G 0 140 225 1519 [(3, 1), (3, 2), (3, 120), (1, (i : Int))] [] (140, s1) Q) : G 0 140 225 391 [(3, 1), (3, 2), (3, 120), (1, (i : Int))] [] (140, s) Q := by
  have i5 : i + 5 ≤ 2560 := by omega
  have g1 : ((i + 1 : Nat) : Int) < s 0 0 := by omega
  have g2 : ((i + 2 : Nat) : Int) < s 0 0 := by omega
  have w1 : wr ((i : Int) + 1) = ((i + 1 : Nat) : Int) := wr_i 1 i5 (by decide)
  have w2 : wr ((i : Int) + 2) = ((i + 2 : Nat) : Int) := wr_i 2 i5 (by decide)
  refine G_go rfl rfl ?_
  refine G_go rfl rfl ?_
  refine G_go rfl rfl ?_
  refine G_go rfl rfl ?_
  refine G_go rfl rfl ?_
  refine G_scv (j := i + 1) (v := s 1 (i + 1)) rfl (by decide) w1 g1 rfl ?_
  show G 0 140 225 397 [(3, 1), (3, 2), (3, 120), (1, (i : Int))] [(1, s 1 (i + 1)), (3, 2)] (140, s) Q
  refine G_go rfl rfl ?_
  refine G_go rfl rfl ?_
  refine G_go rfl rfl ?_
  refine G_go rfl rfl ?_
  refine G_scv (j := i + 2) (v := s 1 (i + 2)) rfl (by decide) w2 g2 rfl ?_
  show G 0 140 225 402 [(3, 1), (3, 2), (3, 120), (1, (i : Int))] [(1, s 1 (i + 2)), (1, s 1 (i + 1)), (3, 2)] (140, s) Q
  refine G_call rfl rfl ?_
  refine G_mono (both_call (tg := 1) (Or.inl ⟨rfl, rfl⟩) (op_trusts 140 s s h (s 1 (i + 1)) (s 1 (i + 2)))) (fun r s1 hk => ?_)
  obtain ⟨x, hr, e1, hk⟩ := hk
  subst hr
  show G 0 140 225 405 [(3, 1), (3, 2), (3, 120), (1, (i : Int))] [(1, x)] s1 Q
  have e10 : s1.2 0 = s 0 := e1 0 (by decide)
  have e11 : s1.2 1 = s 1 := e1 1 (by decide)
  refine G_go rfl rfl ?_
  refine G_go rfl rfl ?_
  refine G_go rfl rfl ?_
  refine G_go rfl rfl ?_
  refine G_go rfl rfl ?_
  refine G_scv (j := i + 1) (v := s 1 (i + 1)) rfl (by decide) w1 (by rw [e10]; exact g1) (by rw [e11]) ?_
  show G 0 140 225 411 [(3, 1), (3, 2), (3, 120), (1, (i : Int))] [(1, s 1 (i + 1)), (3, 120), (1, x)] s1 Q
  refine G_go rfl rfl ?_
  refine G_go rfl rfl ?_
  refine G_go rfl rfl ?_
  refine G_go rfl rfl ?_
  refine G_scv (j := i + 2) (v := s 1 (i + 2)) rfl (by decide) w2 (by rw [e10]; exact g2) (by rw [e11]) ?_
  show G 0 140 225 416 [(3, 1), (3, 2), (3, 120), (1, (i : Int))] [(1, s 1 (i + 2)), (1, s 1 (i + 1)), (3, 120), (1, x)] s1 Q
  refine G_call rfl rfl ?_
  refine G_mono hk (fun r2 s2 hq => ?_)
  obtain ⟨hr, h2, hn, e2⟩ := hq
  subst hr
  obtain ⟨n2, t2⟩ := s2
  have hn : n2 = 140 := hn
  subst hn
  show G 0 140 225 419 [(3, 1), (3, 2), (3, 120), (1, (i : Int))] [(1, x), (1, x)] (140, t2) Q
  refine G_eq rfl rfl (fun _ => ?_) (fun c => absurd rfl c)
  exact K t2 h2 e2
set_option maxRecDepth 100000 in
theorem lw_6 (s : Nat → Nat → Int) (i : Nat) (hL : s 0 0 ≤ 2560) (hi : (i : Int) + 5 ≤ s 0 0) (h : REL s s) (Q : List Vl → Sto → Prop) (K : ∀ s1, REL s1 s1 → (∀ a, a < 2 → s1 a = s a) → G 0 140 225 1519 [(3, 1), (3, 2), (3, 120), (1, (i : Int))] [] (140, s1) Q) : G 0 140 225 424 [(3, 1), (3, 2), (3, 120), (1, (i : Int))] [] (140, s) Q := by
  have i5 : i + 5 ≤ 2560 := by omega
  have g1 : ((i + 1 : Nat) : Int) < s 0 0 := by omega
  have w1 : wr ((i : Int) + 1) = ((i + 1 : Nat) : Int) := wr_i 1 i5 (by decide)
  refine G_go rfl rfl ?_
  refine G_go rfl rfl ?_
  refine G_go rfl rfl ?_
  refine G_go rfl rfl ?_
  refine G_go rfl rfl ?_
  refine G_scv (j := i + 1) (v := s 1 (i + 1)) rfl (by decide) w1 g1 rfl ?_
  show G 0 140 225 430 [(3, 1), (3, 2), (3, 120), (1, (i : Int))] [(1, s 1 (i + 1)), (3, 2)] (140, s) Q
  refine G_call rfl rfl ?_
  refine G_mono (both_call (tg := 1) (Or.inl ⟨rfl, rfl⟩) (op_lights 140 s s h (s 1 (i + 1)))) (fun r s1 hk => ?_)
  obtain ⟨x, hr, e1, hk⟩ := hk
  subst hr
  show G 0 140 225 433 [(3, 1), (3, 2), (3, 120), (1, (i : Int))] [(1, x)] s1 Q
  have e10 : s1.2 0 = s 0 := e1 0 (by decide)
  have e11 : s1.2 1 = s 1 := e1 1 (by decide)
  refine G_go rfl rfl ?_
  refine G_go rfl rfl ?_
  refine G_go rfl rfl ?_
  refine G_go rfl rfl ?_
  refine G_go rfl rfl ?_
  refine G_scv (j := i + 1) (v := s 1 (i + 1)) rfl (by decide) w1 (by rw [e10]; exact g1) (by rw [e11]) ?_
  show G 0 140 225 439 [(3, 1), (3, 2), (3, 120), (1, (i : Int))] [(1, s 1 (i + 1)), (3, 120), (1, x)] s1 Q
  refine G_call rfl rfl ?_
  refine G_mono hk (fun r2 s2 hq => ?_)
  obtain ⟨hr, h2, hn, e2⟩ := hq
  subst hr
  obtain ⟨n2, t2⟩ := s2
  have hn : n2 = 140 := hn
  subst hn
  show G 0 140 225 442 [(3, 1), (3, 2), (3, 120), (1, (i : Int))] [(1, x), (1, x)] (140, t2) Q
  refine G_eq rfl rfl (fun _ => ?_) (fun c => absurd rfl c)
  exact K t2 h2 e2
set_option maxRecDepth 100000 in
theorem lw_7 (s : Nat → Nat → Int) (i : Nat) (hL : s 0 0 ≤ 2560) (hi : (i : Int) + 5 ≤ s 0 0) (h : REL s s) (Q : List Vl → Sto → Prop) (K : ∀ s1, REL s1 s1 → (∀ a, a < 2 → s1 a = s a) → G 0 140 225 1519 [(3, 1), (3, 2), (3, 120), (1, (i : Int))] [] (140, s1) Q) : G 0 140 225 447 [(3, 1), (3, 2), (3, 120), (1, (i : Int))] [] (140, s) Q := by
  have i5 : i + 5 ≤ 2560 := by omega
  have g1 : ((i + 1 : Nat) : Int) < s 0 0 := by omega
  have g2 : ((i + 2 : Nat) : Int) < s 0 0 := by omega
  have g3 : ((i + 3 : Nat) : Int) < s 0 0 := by omega
  have w1 : wr ((i : Int) + 1) = ((i + 1 : Nat) : Int) := wr_i 1 i5 (by decide)
  have w2 : wr ((i : Int) + 2) = ((i + 2 : Nat) : Int) := wr_i 2 i5 (by decide)
  have w3 : wr ((i : Int) + 3) = ((i + 3 : Nat) : Int) := wr_i 3 i5 (by decide)
  refine G_go rfl rfl ?_
  refine G_go rfl rfl ?_
  refine G_go rfl rfl ?_
  refine G_go rfl rfl ?_
  refine G_go rfl rfl ?_
  refine G_scv (j := i + 1) (v := s 1 (i + 1)) rfl (by decide) w1 g1 rfl ?_
  show G 0 140 225 453 [(3, 1), (3, 2), (3, 120), (1, (i : Int))] [(1, s 1 (i + 1)), (3, 2)] (140, s) Q
  refine G_go rfl rfl ?_
  refine G_go rfl rfl ?_
  refine G_go rfl rfl ?_
  refine G_go rfl rfl ?_
  refine G_scv (j := i + 2) (v := s 1 (i + 2)) rfl (by decide) w2 g2 rfl ?_
  show G 0 140 225 458 [(3, 1), (3, 2), (3, 120), (1, (i : Int))] [(1, s 1 (i + 2)), (1, s 1 (i + 1)), (3, 2)] (140, s) Q
  refine G_go rfl rfl ?_
  refine G_go rfl rfl ?_
  refine G_go rfl rfl ?_
  refine G_go rfl rfl ?_
  refine G_scv (j := i + 3) (v := s 1 (i + 3)) rfl (by decide) w3 g3 rfl ?_
  show G 0 140 225 463 [(3, 1), (3, 2), (3, 120), (1, (i : Int))] [(1, s 1 (i + 3)), (1, s 1 (i + 2)), (1, s 1 (i + 1)), (3, 2)] (140, s) Q
  refine G_call rfl rfl ?_
  refine G_mono (both_call (tg := 1) (Or.inl ⟨rfl, rfl⟩) (op_gives 140 s s h (s 1 (i + 1)) (s 1 (i + 2)) (s 1 (i + 3)))) (fun r s1 hk => ?_)
  obtain ⟨x, hr, e1, hk⟩ := hk
  subst hr
  show G 0 140 225 466 [(3, 1), (3, 2), (3, 120), (1, (i : Int))] [(1, x)] s1 Q
  have e10 : s1.2 0 = s 0 := e1 0 (by decide)
  have e11 : s1.2 1 = s 1 := e1 1 (by decide)
  refine G_go rfl rfl ?_
  refine G_go rfl rfl ?_
  refine G_go rfl rfl ?_
  refine G_go rfl rfl ?_
  refine G_go rfl rfl ?_
  refine G_scv (j := i + 1) (v := s 1 (i + 1)) rfl (by decide) w1 (by rw [e10]; exact g1) (by rw [e11]) ?_
  show G 0 140 225 472 [(3, 1), (3, 2), (3, 120), (1, (i : Int))] [(1, s 1 (i + 1)), (3, 120), (1, x)] s1 Q
  refine G_go rfl rfl ?_
  refine G_go rfl rfl ?_
  refine G_go rfl rfl ?_
  refine G_go rfl rfl ?_
  refine G_scv (j := i + 2) (v := s 1 (i + 2)) rfl (by decide) w2 (by rw [e10]; exact g2) (by rw [e11]) ?_
  show G 0 140 225 477 [(3, 1), (3, 2), (3, 120), (1, (i : Int))] [(1, s 1 (i + 2)), (1, s 1 (i + 1)), (3, 120), (1, x)] s1 Q
  refine G_go rfl rfl ?_
  refine G_go rfl rfl ?_
  refine G_go rfl rfl ?_
  refine G_go rfl rfl ?_
  refine G_scv (j := i + 3) (v := s 1 (i + 3)) rfl (by decide) w3 (by rw [e10]; exact g3) (by rw [e11]) ?_
  show G 0 140 225 482 [(3, 1), (3, 2), (3, 120), (1, (i : Int))] [(1, s 1 (i + 3)), (1, s 1 (i + 2)), (1, s 1 (i + 1)), (3, 120), (1, x)] s1 Q
  refine G_call rfl rfl ?_
  refine G_mono hk (fun r2 s2 hq => ?_)
  obtain ⟨hr, h2, hn, e2⟩ := hq
  subst hr
  obtain ⟨n2, t2⟩ := s2
  have hn : n2 = 140 := hn
  subst hn
  show G 0 140 225 485 [(3, 1), (3, 2), (3, 120), (1, (i : Int))] [(1, x), (1, x)] (140, t2) Q
  refine G_eq rfl rfl (fun _ => ?_) (fun c => absurd rfl c)
  exact K t2 h2 e2
set_option maxRecDepth 100000 in
theorem lw_8 (s : Nat → Nat → Int) (i : Nat) (hL : s 0 0 ≤ 2560) (hi : (i : Int) + 5 ≤ s 0 0) (h : REL s s) (Q : List Vl → Sto → Prop) (K : ∀ s1, REL s1 s1 → (∀ a, a < 2 → s1 a = s a) → G 0 140 225 1519 [(3, 1), (3, 2), (3, 120), (1, (i : Int))] [] (140, s1) Q) : G 0 140 225 490 [(3, 1), (3, 2), (3, 120), (1, (i : Int))] [] (140, s) Q := by
  have i5 : i + 5 ≤ 2560 := by omega
  have g1 : ((i + 1 : Nat) : Int) < s 0 0 := by omega
  have w1 : wr ((i : Int) + 1) = ((i + 1 : Nat) : Int) := wr_i 1 i5 (by decide)
  refine G_go rfl rfl ?_
  refine G_go rfl rfl ?_
  refine G_go rfl rfl ?_
  refine G_go rfl rfl ?_
  refine G_go rfl rfl ?_
  refine G_scv (j := i + 1) (v := s 1 (i + 1)) rfl (by decide) w1 g1 rfl ?_
  show G 0 140 225 496 [(3, 1), (3, 2), (3, 120), (1, (i : Int))] [(1, s 1 (i + 1)), (3, 2)] (140, s) Q
  refine G_call rfl rfl ?_
  refine G_mono (both_call (tg := 1) (Or.inl ⟨rfl, rfl⟩) (op_hours 140 s s h (s 1 (i + 1)))) (fun r s1 hk => ?_)
  obtain ⟨x, hr, e1, hk⟩ := hk
  subst hr
  show G 0 140 225 499 [(3, 1), (3, 2), (3, 120), (1, (i : Int))] [(1, x)] s1 Q
  have e10 : s1.2 0 = s 0 := e1 0 (by decide)
  have e11 : s1.2 1 = s 1 := e1 1 (by decide)
  refine G_go rfl rfl ?_
  refine G_go rfl rfl ?_
  refine G_go rfl rfl ?_
  refine G_go rfl rfl ?_
  refine G_go rfl rfl ?_
  refine G_scv (j := i + 1) (v := s 1 (i + 1)) rfl (by decide) w1 (by rw [e10]; exact g1) (by rw [e11]) ?_
  show G 0 140 225 505 [(3, 1), (3, 2), (3, 120), (1, (i : Int))] [(1, s 1 (i + 1)), (3, 120), (1, x)] s1 Q
  refine G_call rfl rfl ?_
  refine G_mono hk (fun r2 s2 hq => ?_)
  obtain ⟨hr, h2, hn, e2⟩ := hq
  subst hr
  obtain ⟨n2, t2⟩ := s2
  have hn : n2 = 140 := hn
  subst hn
  show G 0 140 225 508 [(3, 1), (3, 2), (3, 120), (1, (i : Int))] [(1, x), (1, x)] (140, t2) Q
  refine G_eq rfl rfl (fun _ => ?_) (fun c => absurd rfl c)
  exact K t2 h2 e2
set_option maxRecDepth 100000 in
theorem lw_9 (s : Nat → Nat → Int) (i : Nat) (hL : s 0 0 ≤ 2560) (hi : (i : Int) + 5 ≤ s 0 0) (h : REL s s) (Q : List Vl → Sto → Prop) (K : ∀ s1, REL s1 s1 → (∀ a, a < 2 → s1 a = s a) → G 0 140 225 1519 [(3, 1), (3, 2), (3, 120), (1, (i : Int))] [] (140, s1) Q) : G 0 140 225 513 [(3, 1), (3, 2), (3, 120), (1, (i : Int))] [] (140, s) Q := by
  have i5 : i + 5 ≤ 2560 := by omega
  have g1 : ((i + 1 : Nat) : Int) < s 0 0 := by omega
  have w1 : wr ((i : Int) + 1) = ((i + 1 : Nat) : Int) := wr_i 1 i5 (by decide)
  refine G_go rfl rfl ?_
  refine G_go rfl rfl ?_
  refine G_go rfl rfl ?_
  refine G_go rfl rfl ?_
  refine G_go rfl rfl ?_
  refine G_scv (j := i + 1) (v := s 1 (i + 1)) rfl (by decide) w1 g1 rfl ?_
  show G 0 140 225 519 [(3, 1), (3, 2), (3, 120), (1, (i : Int))] [(1, s 1 (i + 1)), (3, 2)] (140, s) Q
  refine G_call rfl rfl ?_
  refine G_mono (both_call (tg := 1) (Or.inl ⟨rfl, rfl⟩) (op_nights 140 s s h (s 1 (i + 1)))) (fun r s1 hk => ?_)
  obtain ⟨x, hr, e1, hk⟩ := hk
  subst hr
  show G 0 140 225 522 [(3, 1), (3, 2), (3, 120), (1, (i : Int))] [(1, x)] s1 Q
  have e10 : s1.2 0 = s 0 := e1 0 (by decide)
  have e11 : s1.2 1 = s 1 := e1 1 (by decide)
  refine G_go rfl rfl ?_
  refine G_go rfl rfl ?_
  refine G_go rfl rfl ?_
  refine G_go rfl rfl ?_
  refine G_go rfl rfl ?_
  refine G_scv (j := i + 1) (v := s 1 (i + 1)) rfl (by decide) w1 (by rw [e10]; exact g1) (by rw [e11]) ?_
  show G 0 140 225 528 [(3, 1), (3, 2), (3, 120), (1, (i : Int))] [(1, s 1 (i + 1)), (3, 120), (1, x)] s1 Q
  refine G_call rfl rfl ?_
  refine G_mono hk (fun r2 s2 hq => ?_)
  obtain ⟨hr, h2, hn, e2⟩ := hq
  subst hr
  obtain ⟨n2, t2⟩ := s2
  have hn : n2 = 140 := hn
  subst hn
  show G 0 140 225 531 [(3, 1), (3, 2), (3, 120), (1, (i : Int))] [(1, x), (1, x)] (140, t2) Q
  refine G_eq rfl rfl (fun _ => ?_) (fun c => absurd rfl c)
  exact K t2 h2 e2
set_option maxRecDepth 100000 in
theorem lw_10 (s : Nat → Nat → Int) (i : Nat) (hL : s 0 0 ≤ 2560) (hi : (i : Int) + 5 ≤ s 0 0) (h : REL s s) (Q : List Vl → Sto → Prop) (K : ∀ s1, REL s1 s1 → (∀ a, a < 2 → s1 a = s a) → G 0 140 225 1519 [(3, 1), (3, 2), (3, 120), (1, (i : Int))] [] (140, s1) Q) : G 0 140 225 536 [(3, 1), (3, 2), (3, 120), (1, (i : Int))] [] (140, s) Q := by
  refine G_go rfl rfl ?_
  refine G_call rfl rfl ?_
  refine G_mono (both_call (tg := 1) (Or.inl ⟨rfl, rfl⟩) (op_back 140 s s h )) (fun r s1 hk => ?_)
  obtain ⟨x, hr, e1, hk⟩ := hk
  subst hr
  show G 0 140 225 540 [(3, 1), (3, 2), (3, 120), (1, (i : Int))] [(1, x)] s1 Q
  refine G_go rfl rfl ?_
  refine G_call rfl rfl ?_
  refine G_mono hk (fun r2 s2 hq => ?_)
  obtain ⟨hr, h2, hn, e2⟩ := hq
  subst hr
  obtain ⟨n2, t2⟩ := s2
  have hn : n2 = 140 := hn
  subst hn
  show G 0 140 225 544 [(3, 1), (3, 2), (3, 120), (1, (i : Int))] [(1, x), (1, x)] (140, t2) Q
  refine G_eq rfl rfl (fun _ => ?_) (fun c => absurd rfl c)
  exact K t2 h2 e2
set_option maxRecDepth 100000 in
theorem lw_11 (s : Nat → Nat → Int) (i : Nat) (hL : s 0 0 ≤ 2560) (hi : (i : Int) + 5 ≤ s 0 0) (h : REL s s) (Q : List Vl → Sto → Prop) (K : ∀ s1, REL s1 s1 → (∀ a, a < 2 → s1 a = s a) → G 0 140 225 1519 [(3, 1), (3, 2), (3, 120), (1, (i : Int))] [] (140, s1) Q) : G 0 140 225 549 [(3, 1), (3, 2), (3, 120), (1, (i : Int))] [] (140, s) Q := by
  have i5 : i + 5 ≤ 2560 := by omega
  have g1 : ((i + 1 : Nat) : Int) < s 0 0 := by omega
  have g2 : ((i + 2 : Nat) : Int) < s 0 0 := by omega
  have g3 : ((i + 3 : Nat) : Int) < s 0 0 := by omega
  have w1 : wr ((i : Int) + 1) = ((i + 1 : Nat) : Int) := wr_i 1 i5 (by decide)
  have w2 : wr ((i : Int) + 2) = ((i + 2 : Nat) : Int) := wr_i 2 i5 (by decide)
  have w3 : wr ((i : Int) + 3) = ((i + 3 : Nat) : Int) := wr_i 3 i5 (by decide)
  refine G_go rfl rfl ?_
  refine G_go rfl rfl ?_
  refine G_go rfl rfl ?_
  refine G_go rfl rfl ?_
  refine G_go rfl rfl ?_
  refine G_scv (j := i + 1) (v := s 1 (i + 1)) rfl (by decide) w1 g1 rfl ?_
  show G 0 140 225 555 [(3, 1), (3, 2), (3, 120), (1, (i : Int))] [(1, s 1 (i + 1)), (3, 2)] (140, s) Q
  refine G_go rfl rfl ?_
  refine G_go rfl rfl ?_
  refine G_go rfl rfl ?_
  refine G_go rfl rfl ?_
  refine G_scv (j := i + 2) (v := s 1 (i + 2)) rfl (by decide) w2 g2 rfl ?_
  show G 0 140 225 560 [(3, 1), (3, 2), (3, 120), (1, (i : Int))] [(1, s 1 (i + 2)), (1, s 1 (i + 1)), (3, 2)] (140, s) Q
  refine G_go rfl rfl ?_
  refine G_go rfl rfl ?_
  refine G_go rfl rfl ?_
  refine G_go rfl rfl ?_
  refine G_scv (j := i + 3) (v := s 1 (i + 3)) rfl (by decide) w3 g3 rfl ?_
  show G 0 140 225 565 [(3, 1), (3, 2), (3, 120), (1, (i : Int))] [(1, s 1 (i + 3)), (1, s 1 (i + 2)), (1, s 1 (i + 1)), (3, 2)] (140, s) Q
  refine G_call rfl rfl ?_
  refine G_mono (both_call (tg := 1) (Or.inl ⟨rfl, rfl⟩) (op_behind 140 s s h (s 1 (i + 1)) (s 1 (i + 2)) (s 1 (i + 3)))) (fun r s1 hk => ?_)
  obtain ⟨x, hr, e1, hk⟩ := hk
  subst hr
  show G 0 140 225 568 [(3, 1), (3, 2), (3, 120), (1, (i : Int))] [(1, x)] s1 Q
  have e10 : s1.2 0 = s 0 := e1 0 (by decide)
  have e11 : s1.2 1 = s 1 := e1 1 (by decide)
  refine G_go rfl rfl ?_
  refine G_go rfl rfl ?_
  refine G_go rfl rfl ?_
  refine G_go rfl rfl ?_
  refine G_go rfl rfl ?_
  refine G_scv (j := i + 1) (v := s 1 (i + 1)) rfl (by decide) w1 (by rw [e10]; exact g1) (by rw [e11]) ?_
  show G 0 140 225 574 [(3, 1), (3, 2), (3, 120), (1, (i : Int))] [(1, s 1 (i + 1)), (3, 120), (1, x)] s1 Q
  refine G_go rfl rfl ?_
  refine G_go rfl rfl ?_
  refine G_go rfl rfl ?_
  refine G_go rfl rfl ?_
  refine G_scv (j := i + 2) (v := s 1 (i + 2)) rfl (by decide) w2 (by rw [e10]; exact g2) (by rw [e11]) ?_
  show G 0 140 225 579 [(3, 1), (3, 2), (3, 120), (1, (i : Int))] [(1, s 1 (i + 2)), (1, s 1 (i + 1)), (3, 120), (1, x)] s1 Q
  refine G_go rfl rfl ?_
  refine G_go rfl rfl ?_
  refine G_go rfl rfl ?_
  refine G_go rfl rfl ?_
  refine G_scv (j := i + 3) (v := s 1 (i + 3)) rfl (by decide) w3 (by rw [e10]; exact g3) (by rw [e11]) ?_
  show G 0 140 225 584 [(3, 1), (3, 2), (3, 120), (1, (i : Int))] [(1, s 1 (i + 3)), (1, s 1 (i + 2)), (1, s 1 (i + 1)), (3, 120), (1, x)] s1 Q
  refine G_call rfl rfl ?_
  refine G_mono hk (fun r2 s2 hq => ?_)
  obtain ⟨hr, h2, hn, e2⟩ := hq
  subst hr
  obtain ⟨n2, t2⟩ := s2
  have hn : n2 = 140 := hn
  subst hn
  show G 0 140 225 587 [(3, 1), (3, 2), (3, 120), (1, (i : Int))] [(1, x), (1, x)] (140, t2) Q
  refine G_eq rfl rfl (fun _ => ?_) (fun c => absurd rfl c)
  exact K t2 h2 e2
set_option maxRecDepth 100000 in
theorem lw_12 (s : Nat → Nat → Int) (i : Nat) (hL : s 0 0 ≤ 2560) (hi : (i : Int) + 5 ≤ s 0 0) (h : REL s s) (Q : List Vl → Sto → Prop) (K : ∀ s1, REL s1 s1 → (∀ a, a < 2 → s1 a = s a) → G 0 140 225 1519 [(3, 1), (3, 2), (3, 120), (1, (i : Int))] [] (140, s1) Q) : G 0 140 225 592 [(3, 1), (3, 2), (3, 120), (1, (i : Int))] [] (140, s) Q := by
  have i5 : i + 5 ≤ 2560 := by omega
  have g1 : ((i + 1 : Nat) : Int) < s 0 0 := by omega
  have g2 : ((i + 2 : Nat) : Int) < s 0 0 := by omega
  have w1 : wr ((i : Int) + 1) = ((i + 1 : Nat) : Int) := wr_i 1 i5 (by decide)
  have w2 : wr ((i : Int) + 2) = ((i + 2 : Nat) : Int) := wr_i 2 i5 (by decide)
  refine G_go rfl rfl ?_
  refine G_go rfl rfl ?_
  refine G_go rfl rfl ?_
  refine G_go rfl rfl ?_
  refine G_go rfl rfl ?_
  refine G_scv (j := i + 1) (v := s 1 (i + 1)) rfl (by decide) w1 g1 rfl ?_
  show G 0 140 225 598 [(3, 1), (3, 2), (3, 120), (1, (i : Int))] [(1, s 1 (i + 1)), (3, 2)] (140, s) Q
  refine G_go rfl rfl ?_
  refine G_go rfl rfl ?_
  refine G_go rfl rfl ?_
  refine G_go rfl rfl ?_
  refine G_scv (j := i + 2) (v := s 1 (i + 2)) rfl (by decide) w2 g2 rfl ?_
  show G 0 140 225 603 [(3, 1), (3, 2), (3, 120), (1, (i : Int))] [(1, s 1 (i + 2)), (1, s 1 (i + 1)), (3, 2)] (140, s) Q
  refine G_call rfl rfl ?_
  refine G_mono (both_call (tg := 1) (Or.inl ⟨rfl, rfl⟩) (op_all 140 s s h (s 1 (i + 1)) (s 1 (i + 2)))) (fun r s1 hk => ?_)
  obtain ⟨x, hr, e1, hk⟩ := hk
  subst hr
  show G 0 140 225 606 [(3, 1), (3, 2), (3, 120), (1, (i : Int))] [(1, x)] s1 Q
  have e10 : s1.2 0 = s 0 := e1 0 (by decide)
  have e11 : s1.2 1 = s 1 := e1 1 (by decide)
  refine G_go rfl rfl ?_
  refine G_go rfl rfl ?_
  refine G_go rfl rfl ?_
  refine G_go rfl rfl ?_
  refine G_go rfl rfl ?_
  refine G_scv (j := i + 1) (v := s 1 (i + 1)) rfl (by decide) w1 (by rw [e10]; exact g1) (by rw [e11]) ?_
  show G 0 140 225 612 [(3, 1), (3, 2), (3, 120), (1, (i : Int))] [(1, s 1 (i + 1)), (3, 120), (1, x)] s1 Q
  refine G_go rfl rfl ?_
  refine G_go rfl rfl ?_
  refine G_go rfl rfl ?_
  refine G_go rfl rfl ?_
  refine G_scv (j := i + 2) (v := s 1 (i + 2)) rfl (by decide) w2 (by rw [e10]; exact g2) (by rw [e11]) ?_
  show G 0 140 225 617 [(3, 1), (3, 2), (3, 120), (1, (i : Int))] [(1, s 1 (i + 2)), (1, s 1 (i + 1)), (3, 120), (1, x)] s1 Q
  refine G_call rfl rfl ?_
  refine G_mono hk (fun r2 s2 hq => ?_)
  obtain ⟨hr, h2, hn, e2⟩ := hq
  subst hr
  obtain ⟨n2, t2⟩ := s2
  have hn : n2 = 140 := hn
  subst hn
  show G 0 140 225 620 [(3, 1), (3, 2), (3, 120), (1, (i : Int))] [(1, x), (1, x)] (140, t2) Q
  refine G_eq rfl rfl (fun _ => ?_) (fun c => absurd rfl c)
  exact K t2 h2 e2
set_option maxRecDepth 100000 in
theorem lw_13 (s : Nat → Nat → Int) (i : Nat) (hL : s 0 0 ≤ 2560) (hi : (i : Int) + 5 ≤ s 0 0) (h : REL s s) (Q : List Vl → Sto → Prop) (K : ∀ s1, REL s1 s1 → (∀ a, a < 2 → s1 a = s a) → G 0 140 225 1519 [(3, 1), (3, 2), (3, 120), (1, (i : Int))] [] (140, s1) Q) : G 0 140 225 625 [(3, 1), (3, 2), (3, 120), (1, (i : Int))] [] (140, s) Q := by
  have i5 : i + 5 ≤ 2560 := by omega
  have g1 : ((i + 1 : Nat) : Int) < s 0 0 := by omega
  have w1 : wr ((i : Int) + 1) = ((i + 1 : Nat) : Int) := wr_i 1 i5 (by decide)
  refine G_go rfl rfl ?_
  refine G_go rfl rfl ?_
  refine G_go rfl rfl ?_
  refine G_go rfl rfl ?_
  refine G_go rfl rfl ?_
  refine G_scv (j := i + 1) (v := s 1 (i + 1)) rfl (by decide) w1 g1 rfl ?_
  show G 0 140 225 631 [(3, 1), (3, 2), (3, 120), (1, (i : Int))] [(1, s 1 (i + 1)), (3, 2)] (140, s) Q
  refine G_call rfl rfl ?_
  refine G_mono (both_call (tg := 1) (Or.inl ⟨rfl, rfl⟩) (op_lasts 140 s s h (s 1 (i + 1)))) (fun r s1 hk => ?_)
  obtain ⟨x, hr, e1, hk⟩ := hk
  subst hr
  show G 0 140 225 634 [(3, 1), (3, 2), (3, 120), (1, (i : Int))] [(1, x)] s1 Q
  have e10 : s1.2 0 = s 0 := e1 0 (by decide)
  have e11 : s1.2 1 = s 1 := e1 1 (by decide)
  refine G_go rfl rfl ?_
  refine G_go rfl rfl ?_
  refine G_go rfl rfl ?_
  refine G_go rfl rfl ?_
  refine G_go rfl rfl ?_
  refine G_scv (j := i + 1) (v := s 1 (i + 1)) rfl (by decide) w1 (by rw [e10]; exact g1) (by rw [e11]) ?_
  show G 0 140 225 640 [(3, 1), (3, 2), (3, 120), (1, (i : Int))] [(1, s 1 (i + 1)), (3, 120), (1, x)] s1 Q
  refine G_call rfl rfl ?_
  refine G_mono hk (fun r2 s2 hq => ?_)
  obtain ⟨hr, h2, hn, e2⟩ := hq
  subst hr
  obtain ⟨n2, t2⟩ := s2
  have hn : n2 = 140 := hn
  subst hn
  show G 0 140 225 643 [(3, 1), (3, 2), (3, 120), (1, (i : Int))] [(1, x), (1, x)] (140, t2) Q
  refine G_eq rfl rfl (fun _ => ?_) (fun c => absurd rfl c)
  exact K t2 h2 e2
set_option maxRecDepth 100000 in
theorem lw_14 (s : Nat → Nat → Int) (i : Nat) (hL : s 0 0 ≤ 2560) (hi : (i : Int) + 5 ≤ s 0 0) (h : REL s s) (Q : List Vl → Sto → Prop) (K : ∀ s1, REL s1 s1 → (∀ a, a < 2 → s1 a = s a) → G 0 140 225 1519 [(3, 1), (3, 2), (3, 120), (1, (i : Int))] [] (140, s1) Q) : G 0 140 225 648 [(3, 1), (3, 2), (3, 120), (1, (i : Int))] [] (140, s) Q := by
  have i5 : i + 5 ≤ 2560 := by omega
  have g1 : ((i + 1 : Nat) : Int) < s 0 0 := by omega
  have w1 : wr ((i : Int) + 1) = ((i + 1 : Nat) : Int) := wr_i 1 i5 (by decide)
  refine G_go rfl rfl ?_
  refine G_go rfl rfl ?_
  refine G_go rfl rfl ?_
  refine G_go rfl rfl ?_
  refine G_go rfl rfl ?_
  refine G_scv (j := i + 1) (v := s 1 (i + 1)) rfl (by decide) w1 g1 rfl ?_
  show G 0 140 225 654 [(3, 1), (3, 2), (3, 120), (1, (i : Int))] [(1, s 1 (i + 1)), (3, 2)] (140, s) Q
  refine G_call rfl rfl ?_
  refine G_mono (both_call (tg := 1) (Or.inl ⟨rfl, rfl⟩) (op_longest 140 s s h (s 1 (i + 1)))) (fun r s1 hk => ?_)
  obtain ⟨x, hr, e1, hk⟩ := hk
  subst hr
  show G 0 140 225 657 [(3, 1), (3, 2), (3, 120), (1, (i : Int))] [(1, x)] s1 Q
  have e10 : s1.2 0 = s 0 := e1 0 (by decide)
  have e11 : s1.2 1 = s 1 := e1 1 (by decide)
  refine G_go rfl rfl ?_
  refine G_go rfl rfl ?_
  refine G_go rfl rfl ?_
  refine G_go rfl rfl ?_
  refine G_go rfl rfl ?_
  refine G_scv (j := i + 1) (v := s 1 (i + 1)) rfl (by decide) w1 (by rw [e10]; exact g1) (by rw [e11]) ?_
  show G 0 140 225 663 [(3, 1), (3, 2), (3, 120), (1, (i : Int))] [(1, s 1 (i + 1)), (3, 120), (1, x)] s1 Q
  refine G_call rfl rfl ?_
  refine G_mono hk (fun r2 s2 hq => ?_)
  obtain ⟨hr, h2, hn, e2⟩ := hq
  subst hr
  obtain ⟨n2, t2⟩ := s2
  have hn : n2 = 140 := hn
  subst hn
  show G 0 140 225 666 [(3, 1), (3, 2), (3, 120), (1, (i : Int))] [(1, x), (1, x)] (140, t2) Q
  refine G_eq rfl rfl (fun _ => ?_) (fun c => absurd rfl c)
  exact K t2 h2 e2
set_option maxRecDepth 100000 in
theorem lw_15 (s : Nat → Nat → Int) (i : Nat) (hL : s 0 0 ≤ 2560) (hi : (i : Int) + 5 ≤ s 0 0) (h : REL s s) (Q : List Vl → Sto → Prop) (K : ∀ s1, REL s1 s1 → (∀ a, a < 2 → s1 a = s a) → G 0 140 225 1519 [(3, 1), (3, 2), (3, 120), (1, (i : Int))] [] (140, s1) Q) : G 0 140 225 671 [(3, 1), (3, 2), (3, 120), (1, (i : Int))] [] (140, s) Q := by
  have i5 : i + 5 ≤ 2560 := by omega
  have g1 : ((i + 1 : Nat) : Int) < s 0 0 := by omega
  have g2 : ((i + 2 : Nat) : Int) < s 0 0 := by omega
  have g3 : ((i + 3 : Nat) : Int) < s 0 0 := by omega
  have w1 : wr ((i : Int) + 1) = ((i + 1 : Nat) : Int) := wr_i 1 i5 (by decide)
  have w2 : wr ((i : Int) + 2) = ((i + 2 : Nat) : Int) := wr_i 2 i5 (by decide)
  have w3 : wr ((i : Int) + 3) = ((i + 3 : Nat) : Int) := wr_i 3 i5 (by decide)
  refine G_go rfl rfl ?_
  refine G_go rfl rfl ?_
  refine G_go rfl rfl ?_
  refine G_go rfl rfl ?_
  refine G_go rfl rfl ?_
  refine G_scv (j := i + 1) (v := s 1 (i + 1)) rfl (by decide) w1 g1 rfl ?_
  show G 0 140 225 677 [(3, 1), (3, 2), (3, 120), (1, (i : Int))] [(1, s 1 (i + 1)), (3, 2)] (140, s) Q
  refine G_go rfl rfl ?_
  refine G_go rfl rfl ?_
  refine G_go rfl rfl ?_
  refine G_go rfl rfl ?_
  refine G_scv (j := i + 2) (v := s 1 (i + 2)) rfl (by decide) w2 g2 rfl ?_
  show G 0 140 225 682 [(3, 1), (3, 2), (3, 120), (1, (i : Int))] [(1, s 1 (i + 2)), (1, s 1 (i + 1)), (3, 2)] (140, s) Q
  refine G_go rfl rfl ?_
  refine G_go rfl rfl ?_
  refine G_go rfl rfl ?_
  refine G_go rfl rfl ?_
  refine G_scv (j := i + 3) (v := s 1 (i + 3)) rfl (by decide) w3 g3 rfl ?_
  show G 0 140 225 687 [(3, 1), (3, 2), (3, 120), (1, (i : Int))] [(1, s 1 (i + 3)), (1, s 1 (i + 2)), (1, s 1 (i + 1)), (3, 2)] (140, s) Q
  refine G_call rfl rfl ?_
  refine G_mono (both_call (tg := 1) (Or.inl ⟨rfl, rfl⟩) (op_give 140 s s h (s 1 (i + 1)) (s 1 (i + 2)) (s 1 (i + 3)))) (fun r s1 hk => ?_)
  obtain ⟨x, hr, e1, hk⟩ := hk
  subst hr
  show G 0 140 225 690 [(3, 1), (3, 2), (3, 120), (1, (i : Int))] [(1, x)] s1 Q
  have e10 : s1.2 0 = s 0 := e1 0 (by decide)
  have e11 : s1.2 1 = s 1 := e1 1 (by decide)
  refine G_go rfl rfl ?_
  refine G_go rfl rfl ?_
  refine G_go rfl rfl ?_
  refine G_go rfl rfl ?_
  refine G_go rfl rfl ?_
  refine G_scv (j := i + 1) (v := s 1 (i + 1)) rfl (by decide) w1 (by rw [e10]; exact g1) (by rw [e11]) ?_
  show G 0 140 225 696 [(3, 1), (3, 2), (3, 120), (1, (i : Int))] [(1, s 1 (i + 1)), (3, 120), (1, x)] s1 Q
  refine G_go rfl rfl ?_
  refine G_go rfl rfl ?_
  refine G_go rfl rfl ?_
  refine G_go rfl rfl ?_
  refine G_scv (j := i + 2) (v := s 1 (i + 2)) rfl (by decide) w2 (by rw [e10]; exact g2) (by rw [e11]) ?_
  show G 0 140 225 701 [(3, 1), (3, 2), (3, 120), (1, (i : Int))] [(1, s 1 (i + 2)), (1, s 1 (i + 1)), (3, 120), (1, x)] s1 Q
  refine G_go rfl rfl ?_
  refine G_go rfl rfl ?_
  refine G_go rfl rfl ?_
  refine G_go rfl rfl ?_
  refine G_scv (j := i + 3) (v := s 1 (i + 3)) rfl (by decide) w3 (by rw [e10]; exact g3) (by rw [e11]) ?_
  show G 0 140 225 706 [(3, 1), (3, 2), (3, 120), (1, (i : Int))] [(1, s 1 (i + 3)), (1, s 1 (i + 2)), (1, s 1 (i + 1)), (3, 120), (1, x)] s1 Q
  refine G_call rfl rfl ?_
  refine G_mono hk (fun r2 s2 hq => ?_)
  obtain ⟨hr, h2, hn, e2⟩ := hq
  subst hr
  obtain ⟨n2, t2⟩ := s2
  have hn : n2 = 140 := hn
  subst hn
  show G 0 140 225 709 [(3, 1), (3, 2), (3, 120), (1, (i : Int))] [(1, x), (1, x)] (140, t2) Q
  refine G_eq rfl rfl (fun _ => ?_) (fun c => absurd rfl c)
  exact K t2 h2 e2
set_option maxRecDepth 100000 in
theorem lw_16 (s : Nat → Nat → Int) (i : Nat) (hL : s 0 0 ≤ 2560) (hi : (i : Int) + 5 ≤ s 0 0) (h : REL s s) (Q : List Vl → Sto → Prop) (K : ∀ s1, REL s1 s1 → (∀ a, a < 2 → s1 a = s a) → G 0 140 225 1519 [(3, 1), (3, 2), (3, 120), (1, (i : Int))] [] (140, s1) Q) : G 0 140 225 714 [(3, 1), (3, 2), (3, 120), (1, (i : Int))] [] (140, s) Q := by
  have i5 : i + 5 ≤ 2560 := by omega
  have g1 : ((i + 1 : Nat) : Int) < s 0 0 := by omega
  have g2 : ((i + 2 : Nat) : Int) < s 0 0 := by omega
  have w1 : wr ((i : Int) + 1) = ((i + 1 : Nat) : Int) := wr_i 1 i5 (by decide)
  have w2 : wr ((i : Int) + 2) = ((i + 2 : Nat) : Int) := wr_i 2 i5 (by decide)
  refine G_go rfl rfl ?_
  refine G_go rfl rfl ?_
  refine G_go rfl rfl ?_
  refine G_go rfl rfl ?_
  refine G_go rfl rfl ?_
  refine G_scv (j := i + 1) (v := s 1 (i + 1)) rfl (by decide) w1 g1 rfl ?_
  show G 0 140 225 720 [(3, 1), (3, 2), (3, 120), (1, (i : Int))] [(1, s 1 (i + 1)), (3, 2)] (140, s) Q
  refine G_go rfl rfl ?_
  refine G_go rfl rfl ?_
  refine G_go rfl rfl ?_
  refine G_go rfl rfl ?_
  refine G_scv (j := i + 2) (v := s 1 (i + 2)) rfl (by decide) w2 g2 rfl ?_
  show G 0 140 225 725 [(3, 1), (3, 2), (3, 120), (1, (i : Int))] [(1, s 1 (i + 2)), (1, s 1 (i + 1)), (3, 2)] (140, s) Q
  refine G_call rfl rfl ?_
  refine G_mono (both_call (tg := 1) (Or.inl ⟨rfl, rfl⟩) (op_bestFriend 140 s s h (s 1 (i + 1)) (s 1 (i + 2)))) (fun r s1 hk => ?_)
  obtain ⟨x, hr, e1, hk⟩ := hk
  subst hr
  show G 0 140 225 728 [(3, 1), (3, 2), (3, 120), (1, (i : Int))] [(1, x)] s1 Q
  have e10 : s1.2 0 = s 0 := e1 0 (by decide)
  have e11 : s1.2 1 = s 1 := e1 1 (by decide)
  refine G_go rfl rfl ?_
  refine G_go rfl rfl ?_
  refine G_go rfl rfl ?_
  refine G_go rfl rfl ?_
  refine G_go rfl rfl ?_
  refine G_scv (j := i + 1) (v := s 1 (i + 1)) rfl (by decide) w1 (by rw [e10]; exact g1) (by rw [e11]) ?_
  show G 0 140 225 734 [(3, 1), (3, 2), (3, 120), (1, (i : Int))] [(1, s 1 (i + 1)), (3, 120), (1, x)] s1 Q
  refine G_go rfl rfl ?_
  refine G_go rfl rfl ?_
  refine G_go rfl rfl ?_
  refine G_go rfl rfl ?_
  refine G_scv (j := i + 2) (v := s 1 (i + 2)) rfl (by decide) w2 (by rw [e10]; exact g2) (by rw [e11]) ?_
  show G 0 140 225 739 [(3, 1), (3, 2), (3, 120), (1, (i : Int))] [(1, s 1 (i + 2)), (1, s 1 (i + 1)), (3, 120), (1, x)] s1 Q
  refine G_call rfl rfl ?_
  refine G_mono hk (fun r2 s2 hq => ?_)
  obtain ⟨hr, h2, hn, e2⟩ := hq
  subst hr
  obtain ⟨n2, t2⟩ := s2
  have hn : n2 = 140 := hn
  subst hn
  show G 0 140 225 742 [(3, 1), (3, 2), (3, 120), (1, (i : Int))] [(1, x), (1, x)] (140, t2) Q
  refine G_eq rfl rfl (fun _ => ?_) (fun c => absurd rfl c)
  exact K t2 h2 e2
set_option maxRecDepth 100000 in
theorem lw_17 (s : Nat → Nat → Int) (i : Nat) (hL : s 0 0 ≤ 2560) (hi : (i : Int) + 5 ≤ s 0 0) (h : REL s s) (Q : List Vl → Sto → Prop) (K : ∀ s1, REL s1 s1 → (∀ a, a < 2 → s1 a = s a) → G 0 140 225 1519 [(3, 1), (3, 2), (3, 120), (1, (i : Int))] [] (140, s1) Q) : G 0 140 225 747 [(3, 1), (3, 2), (3, 120), (1, (i : Int))] [] (140, s) Q := by
  have i5 : i + 5 ≤ 2560 := by omega
  have g1 : ((i + 1 : Nat) : Int) < s 0 0 := by omega
  have g2 : ((i + 2 : Nat) : Int) < s 0 0 := by omega
  have g3 : ((i + 3 : Nat) : Int) < s 0 0 := by omega
  have w1 : wr ((i : Int) + 1) = ((i + 1 : Nat) : Int) := wr_i 1 i5 (by decide)
  have w2 : wr ((i : Int) + 2) = ((i + 2 : Nat) : Int) := wr_i 2 i5 (by decide)
  have w3 : wr ((i : Int) + 3) = ((i + 3 : Nat) : Int) := wr_i 3 i5 (by decide)
  refine G_go rfl rfl ?_
  refine G_go rfl rfl ?_
  refine G_go rfl rfl ?_
  refine G_go rfl rfl ?_
  refine G_go rfl rfl ?_
  refine G_scv (j := i + 1) (v := s 1 (i + 1)) rfl (by decide) w1 g1 rfl ?_
  show G 0 140 225 753 [(3, 1), (3, 2), (3, 120), (1, (i : Int))] [(1, s 1 (i + 1)), (3, 2)] (140, s) Q
  refine G_go rfl rfl ?_
  refine G_go rfl rfl ?_
  refine G_go rfl rfl ?_
  refine G_go rfl rfl ?_
  refine G_scv (j := i + 2) (v := s 1 (i + 2)) rfl (by decide) w2 g2 rfl ?_
  show G 0 140 225 758 [(3, 1), (3, 2), (3, 120), (1, (i : Int))] [(1, s 1 (i + 2)), (1, s 1 (i + 1)), (3, 2)] (140, s) Q
  refine G_go rfl rfl ?_
  refine G_go rfl rfl ?_
  refine G_go rfl rfl ?_
  refine G_go rfl rfl ?_
  refine G_scv (j := i + 3) (v := s 1 (i + 3)) rfl (by decide) w3 g3 rfl ?_
  show G 0 140 225 763 [(3, 1), (3, 2), (3, 120), (1, (i : Int))] [(1, s 1 (i + 3)), (1, s 1 (i + 2)), (1, s 1 (i + 1)), (3, 2)] (140, s) Q
  refine G_call rfl rfl ?_
  refine G_mono (both_call (tg := 1) (Or.inl ⟨rfl, rfl⟩) (op_both 140 s s h (s 1 (i + 1)) (s 1 (i + 2)) (s 1 (i + 3)))) (fun r s1 hk => ?_)
  obtain ⟨x, hr, e1, hk⟩ := hk
  subst hr
  show G 0 140 225 766 [(3, 1), (3, 2), (3, 120), (1, (i : Int))] [(1, x)] s1 Q
  have e10 : s1.2 0 = s 0 := e1 0 (by decide)
  have e11 : s1.2 1 = s 1 := e1 1 (by decide)
  refine G_go rfl rfl ?_
  refine G_go rfl rfl ?_
  refine G_go rfl rfl ?_
  refine G_go rfl rfl ?_
  refine G_go rfl rfl ?_
  refine G_scv (j := i + 1) (v := s 1 (i + 1)) rfl (by decide) w1 (by rw [e10]; exact g1) (by rw [e11]) ?_
  show G 0 140 225 772 [(3, 1), (3, 2), (3, 120), (1, (i : Int))] [(1, s 1 (i + 1)), (3, 120), (1, x)] s1 Q
  refine G_go rfl rfl ?_
  refine G_go rfl rfl ?_
  refine G_go rfl rfl ?_
  refine G_go rfl rfl ?_
  refine G_scv (j := i + 2) (v := s 1 (i + 2)) rfl (by decide) w2 (by rw [e10]; exact g2) (by rw [e11]) ?_
  show G 0 140 225 777 [(3, 1), (3, 2), (3, 120), (1, (i : Int))] [(1, s 1 (i + 2)), (1, s 1 (i + 1)), (3, 120), (1, x)] s1 Q
  refine G_go rfl rfl ?_
  refine G_go rfl rfl ?_
  refine G_go rfl rfl ?_
  refine G_go rfl rfl ?_
  refine G_scv (j := i + 3) (v := s 1 (i + 3)) rfl (by decide) w3 (by rw [e10]; exact g3) (by rw [e11]) ?_
  show G 0 140 225 782 [(3, 1), (3, 2), (3, 120), (1, (i : Int))] [(1, s 1 (i + 3)), (1, s 1 (i + 2)), (1, s 1 (i + 1)), (3, 120), (1, x)] s1 Q
  refine G_call rfl rfl ?_
  refine G_mono hk (fun r2 s2 hq => ?_)
  obtain ⟨hr, h2, hn, e2⟩ := hq
  subst hr
  obtain ⟨n2, t2⟩ := s2
  have hn : n2 = 140 := hn
  subst hn
  show G 0 140 225 785 [(3, 1), (3, 2), (3, 120), (1, (i : Int))] [(1, x), (1, x)] (140, t2) Q
  refine G_eq rfl rfl (fun _ => ?_) (fun c => absurd rfl c)
  exact K t2 h2 e2
set_option maxRecDepth 100000 in
theorem lw_18 (s : Nat → Nat → Int) (i : Nat) (hL : s 0 0 ≤ 2560) (hi : (i : Int) + 5 ≤ s 0 0) (h : REL s s) (Q : List Vl → Sto → Prop) (K : ∀ s1, REL s1 s1 → (∀ a, a < 2 → s1 a = s a) → G 0 140 225 1519 [(3, 1), (3, 2), (3, 120), (1, (i : Int))] [] (140, s1) Q) : G 0 140 225 790 [(3, 1), (3, 2), (3, 120), (1, (i : Int))] [] (140, s) Q := by
  have i5 : i + 5 ≤ 2560 := by omega
  have g1 : ((i + 1 : Nat) : Int) < s 0 0 := by omega
  have w1 : wr ((i : Int) + 1) = ((i + 1 : Nat) : Int) := wr_i 1 i5 (by decide)
  refine G_go rfl rfl ?_
  refine G_go rfl rfl ?_
  refine G_go rfl rfl ?_
  refine G_go rfl rfl ?_
  refine G_go rfl rfl ?_
  refine G_scv (j := i + 1) (v := s 1 (i + 1)) rfl (by decide) w1 g1 rfl ?_
  show G 0 140 225 796 [(3, 1), (3, 2), (3, 120), (1, (i : Int))] [(1, s 1 (i + 1)), (3, 2)] (140, s) Q
  refine G_call rfl rfl ?_
  refine G_mono (both_call (tg := 1) (Or.inl ⟨rfl, rfl⟩) (op_borrow 140 s s h (s 1 (i + 1)))) (fun r s1 hk => ?_)
  obtain ⟨x, hr, e1, hk⟩ := hk
  subst hr
  show G 0 140 225 799 [(3, 1), (3, 2), (3, 120), (1, (i : Int))] [(1, x)] s1 Q
  have e10 : s1.2 0 = s 0 := e1 0 (by decide)
  have e11 : s1.2 1 = s 1 := e1 1 (by decide)
  refine G_go rfl rfl ?_
  refine G_go rfl rfl ?_
  refine G_go rfl rfl ?_
  refine G_go rfl rfl ?_
  refine G_go rfl rfl ?_
  refine G_scv (j := i + 1) (v := s 1 (i + 1)) rfl (by decide) w1 (by rw [e10]; exact g1) (by rw [e11]) ?_
  show G 0 140 225 805 [(3, 1), (3, 2), (3, 120), (1, (i : Int))] [(1, s 1 (i + 1)), (3, 120), (1, x)] s1 Q
  refine G_call rfl rfl ?_
  refine G_mono hk (fun r2 s2 hq => ?_)
  obtain ⟨hr, h2, hn, e2⟩ := hq
  subst hr
  obtain ⟨n2, t2⟩ := s2
  have hn : n2 = 140 := hn
  subst hn
  show G 0 140 225 808 [(3, 1), (3, 2), (3, 120), (1, (i : Int))] [(1, x), (1, x)] (140, t2) Q
  refine G_eq rfl rfl (fun _ => ?_) (fun c => absurd rfl c)
  exact K t2 h2 e2
set_option maxRecDepth 100000 in
theorem lw_19 (s : Nat → Nat → Int) (i : Nat) (hL : s 0 0 ≤ 2560) (hi : (i : Int) + 5 ≤ s 0 0) (h : REL s s) (Q : List Vl → Sto → Prop) (K : ∀ s1, REL s1 s1 → (∀ a, a < 2 → s1 a = s a) → G 0 140 225 1519 [(3, 1), (3, 2), (3, 120), (1, (i : Int))] [] (140, s1) Q) : G 0 140 225 813 [(3, 1), (3, 2), (3, 120), (1, (i : Int))] [] (140, s) Q := by
  have i5 : i + 5 ≤ 2560 := by omega
  have g1 : ((i + 1 : Nat) : Int) < s 0 0 := by omega
  have g2 : ((i + 2 : Nat) : Int) < s 0 0 := by omega
  have g3 : ((i + 3 : Nat) : Int) < s 0 0 := by omega
  have w1 : wr ((i : Int) + 1) = ((i + 1 : Nat) : Int) := wr_i 1 i5 (by decide)
  have w2 : wr ((i : Int) + 2) = ((i + 2 : Nat) : Int) := wr_i 2 i5 (by decide)
  have w3 : wr ((i : Int) + 3) = ((i + 3 : Nat) : Int) := wr_i 3 i5 (by decide)
  refine G_go rfl rfl ?_
  refine G_go rfl rfl ?_
  refine G_go rfl rfl ?_
  refine G_go rfl rfl ?_
  refine G_go rfl rfl ?_
  refine G_scv (j := i + 1) (v := s 1 (i + 1)) rfl (by decide) w1 g1 rfl ?_
  show G 0 140 225 819 [(3, 1), (3, 2), (3, 120), (1, (i : Int))] [(1, s 1 (i + 1)), (3, 2)] (140, s) Q
  refine G_go rfl rfl ?_
  refine G_go rfl rfl ?_
  refine G_go rfl rfl ?_
  refine G_go rfl rfl ?_
  refine G_scv (j := i + 2) (v := s 1 (i + 2)) rfl (by decide) w2 g2 rfl ?_
  show G 0 140 225 824 [(3, 1), (3, 2), (3, 120), (1, (i : Int))] [(1, s 1 (i + 2)), (1, s 1 (i + 1)), (3, 2)] (140, s) Q
  refine G_go rfl rfl ?_
  refine G_go rfl rfl ?_
  refine G_go rfl rfl ?_
  refine G_go rfl rfl ?_
  refine G_scv (j := i + 3) (v := s 1 (i + 3)) rfl (by decide) w3 g3 rfl ?_
  show G 0 140 225 829 [(3, 1), (3, 2), (3, 120), (1, (i : Int))] [(1, s 1 (i + 3)), (1, s 1 (i + 2)), (1, s 1 (i + 1)), (3, 2)] (140, s) Q
  refine G_call rfl rfl ?_
  refine G_mono (both_call (tg := 1) (Or.inl ⟨rfl, rfl⟩) (op_night 140 s s h (s 1 (i + 1)) (s 1 (i + 2)) (s 1 (i + 3)))) (fun r s1 hk => ?_)
  obtain ⟨x, hr, e1, hk⟩ := hk
  subst hr
  show G 0 140 225 832 [(3, 1), (3, 2), (3, 120), (1, (i : Int))] [(1, x)] s1 Q
  have e10 : s1.2 0 = s 0 := e1 0 (by decide)
  have e11 : s1.2 1 = s 1 := e1 1 (by decide)
  refine G_go rfl rfl ?_
  refine G_go rfl rfl ?_
  refine G_go rfl rfl ?_
  refine G_go rfl rfl ?_
  refine G_go rfl rfl ?_
  refine G_scv (j := i + 1) (v := s 1 (i + 1)) rfl (by decide) w1 (by rw [e10]; exact g1) (by rw [e11]) ?_
  show G 0 140 225 838 [(3, 1), (3, 2), (3, 120), (1, (i : Int))] [(1, s 1 (i + 1)), (3, 120), (1, x)] s1 Q
  refine G_go rfl rfl ?_
  refine G_go rfl rfl ?_
  refine G_go rfl rfl ?_
  refine G_go rfl rfl ?_
  refine G_scv (j := i + 2) (v := s 1 (i + 2)) rfl (by decide) w2 (by rw [e10]; exact g2) (by rw [e11]) ?_
  show G 0 140 225 843 [(3, 1), (3, 2), (3, 120), (1, (i : Int))] [(1, s 1 (i + 2)), (1, s 1 (i + 1)), (3, 120), (1, x)] s1 Q
  refine G_go rfl rfl ?_
  refine G_go rfl rfl ?_
  refine G_go rfl rfl ?_
  refine G_go rfl rfl ?_
  refine G_scv (j := i + 3) (v := s 1 (i + 3)) rfl (by decide) w3 (by rw [e10]; exact g3) (by rw [e11]) ?_
  show G 0 140 225 848 [(3, 1), (3, 2), (3, 120), (1, (i : Int))] [(1, s 1 (i + 3)), (1, s 1 (i + 2)), (1, s 1 (i + 1)), (3, 120), (1, x)] s1 Q
  refine G_call rfl rfl ?_
  refine G_mono hk (fun r2 s2 hq => ?_)
  obtain ⟨hr, h2, hn, e2⟩ := hq
  subst hr
  obtain ⟨n2, t2⟩ := s2
  have hn : n2 = 140 := hn
  subst hn
  show G 0 140 225 851 [(3, 1), (3, 2), (3, 120), (1, (i : Int))] [(1, x), (1, x)] (140, t2) Q
  refine G_eq rfl rfl (fun _ => ?_) (fun c => absurd rfl c)
  exact K t2 h2 e2
set_option maxRecDepth 100000 in
theorem lw_20 (s : Nat → Nat → Int) (i : Nat) (hL : s 0 0 ≤ 2560) (hi : (i : Int) + 5 ≤ s 0 0) (h : REL s s) (Q : List Vl → Sto → Prop) (K : ∀ s1, REL s1 s1 → (∀ a, a < 2 → s1 a = s a) → G 0 140 225 1519 [(3, 1), (3, 2), (3, 120), (1, (i : Int))] [] (140, s1) Q) : G 0 140 225 856 [(3, 1), (3, 2), (3, 120), (1, (i : Int))] [] (140, s) Q := by
  have i5 : i + 5 ≤ 2560 := by omega
  have g1 : ((i + 1 : Nat) : Int) < s 0 0 := by omega
  have g2 : ((i + 2 : Nat) : Int) < s 0 0 := by omega
  have w1 : wr ((i : Int) + 1) = ((i + 1 : Nat) : Int) := wr_i 1 i5 (by decide)
  have w2 : wr ((i : Int) + 2) = ((i + 2 : Nat) : Int) := wr_i 2 i5 (by decide)
  refine G_go rfl rfl ?_
  refine G_go rfl rfl ?_
  refine G_go rfl rfl ?_
  refine G_go rfl rfl ?_
  refine G_go rfl rfl ?_
  refine G_scv (j := i + 1) (v := s 1 (i + 1)) rfl (by decide) w1 g1 rfl ?_
  show G 0 140 225 862 [(3, 1), (3, 2), (3, 120), (1, (i : Int))] [(1, s 1 (i + 1)), (3, 2)] (140, s) Q
  refine G_go rfl rfl ?_
  refine G_go rfl rfl ?_
  refine G_go rfl rfl ?_
  refine G_go rfl rfl ?_
  refine G_scv (j := i + 2) (v := s 1 (i + 2)) rfl (by decide) w2 g2 rfl ?_
  show G 0 140 225 867 [(3, 1), (3, 2), (3, 120), (1, (i : Int))] [(1, s 1 (i + 2)), (1, s 1 (i + 1)), (3, 2)] (140, s) Q
  refine G_call rfl rfl ?_
  refine G_mono (both_call (tg := 1) (Or.inl ⟨rfl, rfl⟩) (op_nightOfAll 140 s s h (s 1 (i + 1)) (s 1 (i + 2)))) (fun r s1 hk => ?_)
  obtain ⟨x, hr, e1, hk⟩ := hk
  subst hr
  show G 0 140 225 870 [(3, 1), (3, 2), (3, 120), (1, (i : Int))] [(1, x)] s1 Q
  have e10 : s1.2 0 = s 0 := e1 0 (by decide)
  have e11 : s1.2 1 = s 1 := e1 1 (by decide)
  refine G_go rfl rfl ?_
  refine G_go rfl rfl ?_
  refine G_go rfl rfl ?_
  refine G_go rfl rfl ?_
  refine G_go rfl rfl ?_
  refine G_scv (j := i + 1) (v := s 1 (i + 1)) rfl (by decide) w1 (by rw [e10]; exact g1) (by rw [e11]) ?_
  show G 0 140 225 876 [(3, 1), (3, 2), (3, 120), (1, (i : Int))] [(1, s 1 (i + 1)), (3, 120), (1, x)] s1 Q
  refine G_go rfl rfl ?_
  refine G_go rfl rfl ?_
  refine G_go rfl rfl ?_
  refine G_go rfl rfl ?_
  refine G_scv (j := i + 2) (v := s 1 (i + 2)) rfl (by decide) w2 (by rw [e10]; exact g2) (by rw [e11]) ?_
  show G 0 140 225 881 [(3, 1), (3, 2), (3, 120), (1, (i : Int))] [(1, s 1 (i + 2)), (1, s 1 (i + 1)), (3, 120), (1, x)] s1 Q
  refine G_call rfl rfl ?_
  refine G_mono hk (fun r2 s2 hq => ?_)
  obtain ⟨hr, h2, hn, e2⟩ := hq
  subst hr
  obtain ⟨n2, t2⟩ := s2
  have hn : n2 = 140 := hn
  subst hn
  show G 0 140 225 884 [(3, 1), (3, 2), (3, 120), (1, (i : Int))] [(1, x), (1, x)] (140, t2) Q
  refine G_eq rfl rfl (fun _ => ?_) (fun c => absurd rfl c)
  exact K t2 h2 e2
set_option maxRecDepth 100000 in
theorem lw_21 (s : Nat → Nat → Int) (i : Nat) (hL : s 0 0 ≤ 2560) (hi : (i : Int) + 5 ≤ s 0 0) (h : REL s s) (Q : List Vl → Sto → Prop) (K : ∀ s1, REL s1 s1 → (∀ a, a < 2 → s1 a = s a) → G 0 140 225 1519 [(3, 1), (3, 2), (3, 120), (1, (i : Int))] [] (140, s1) Q) : G 0 140 225 889 [(3, 1), (3, 2), (3, 120), (1, (i : Int))] [] (140, s) Q := by
  have i5 : i + 5 ≤ 2560 := by omega
  have g1 : ((i + 1 : Nat) : Int) < s 0 0 := by omega
  have g2 : ((i + 2 : Nat) : Int) < s 0 0 := by omega
  have w1 : wr ((i : Int) + 1) = ((i + 1 : Nat) : Int) := wr_i 1 i5 (by decide)
  have w2 : wr ((i : Int) + 2) = ((i + 2 : Nat) : Int) := wr_i 2 i5 (by decide)
  refine G_go rfl rfl ?_
  refine G_go rfl rfl ?_
  refine G_go rfl rfl ?_
  refine G_go rfl rfl ?_
  refine G_go rfl rfl ?_
  refine G_scv (j := i + 1) (v := s 1 (i + 1)) rfl (by decide) w1 g1 rfl ?_
  show G 0 140 225 895 [(3, 1), (3, 2), (3, 120), (1, (i : Int))] [(1, s 1 (i + 1)), (3, 2)] (140, s) Q
  refine G_go rfl rfl ?_
  refine G_go rfl rfl ?_
  refine G_go rfl rfl ?_
  refine G_go rfl rfl ?_
  refine G_scv (j := i + 2) (v := s 1 (i + 2)) rfl (by decide) w2 g2 rfl ?_
  show G 0 140 225 900 [(3, 1), (3, 2), (3, 120), (1, (i : Int))] [(1, s 1 (i + 2)), (1, s 1 (i + 1)), (3, 2)] (140, s) Q
  refine G_call rfl rfl ?_
  refine G_mono (both_call (tg := 1) (Or.inl ⟨rfl, rfl⟩) (op_trust 140 s s h (s 1 (i + 1)) (s 1 (i + 2)))) (fun r s1 hk => ?_)
  obtain ⟨x, hr, e1, hk⟩ := hk
  subst hr
  show G 0 140 225 903 [(3, 1), (3, 2), (3, 120), (1, (i : Int))] [(1, x)] s1 Q
  have e10 : s1.2 0 = s 0 := e1 0 (by decide)
  have e11 : s1.2 1 = s 1 := e1 1 (by decide)
  refine G_go rfl rfl ?_
  refine G_go rfl rfl ?_
  refine G_go rfl rfl ?_
  refine G_go rfl rfl ?_
  refine G_go rfl rfl ?_
  refine G_scv (j := i + 1) (v := s 1 (i + 1)) rfl (by decide) w1 (by rw [e10]; exact g1) (by rw [e11]) ?_
  show G 0 140 225 909 [(3, 1), (3, 2), (3, 120), (1, (i : Int))] [(1, s 1 (i + 1)), (3, 120), (1, x)] s1 Q
  refine G_go rfl rfl ?_
  refine G_go rfl rfl ?_
  refine G_go rfl rfl ?_
  refine G_go rfl rfl ?_
  refine G_scv (j := i + 2) (v := s 1 (i + 2)) rfl (by decide) w2 (by rw [e10]; exact g2) (by rw [e11]) ?_
  show G 0 140 225 914 [(3, 1), (3, 2), (3, 120), (1, (i : Int))] [(1, s 1 (i + 2)), (1, s 1 (i + 1)), (3, 120), (1, x)] s1 Q
  refine G_call rfl rfl ?_
  refine G_mono hk (fun r2 s2 hq => ?_)
  obtain ⟨hr, h2, hn, e2⟩ := hq
  subst hr
  obtain ⟨n2, t2⟩ := s2
  have hn : n2 = 140 := hn
  subst hn
  show G 0 140 225 917 [(3, 1), (3, 2), (3, 120), (1, (i : Int))] [(1, x), (1, x)] (140, t2) Q
  refine G_eq rfl rfl (fun _ => ?_) (fun c => absurd rfl c)
  exact K t2 h2 e2
set_option maxRecDepth 100000 in
theorem lw_22 (s : Nat → Nat → Int) (i : Nat) (hL : s 0 0 ≤ 2560) (hi : (i : Int) + 5 ≤ s 0 0) (h : REL s s) (Q : List Vl → Sto → Prop) (K : ∀ s1, REL s1 s1 → (∀ a, a < 2 → s1 a = s a) → G 0 140 225 1519 [(3, 1), (3, 2), (3, 120), (1, (i : Int))] [] (140, s1) Q) : G 0 140 225 922 [(3, 1), (3, 2), (3, 120), (1, (i : Int))] [] (140, s) Q := by
  have i5 : i + 5 ≤ 2560 := by omega
  have g1 : ((i + 1 : Nat) : Int) < s 0 0 := by omega
  have g2 : ((i + 2 : Nat) : Int) < s 0 0 := by omega
  have w1 : wr ((i : Int) + 1) = ((i + 1 : Nat) : Int) := wr_i 1 i5 (by decide)
  have w2 : wr ((i : Int) + 2) = ((i + 2 : Nat) : Int) := wr_i 2 i5 (by decide)
  refine G_go rfl rfl ?_
  refine G_go rfl rfl ?_
  refine G_go rfl rfl ?_
  refine G_go rfl rfl ?_
  refine G_go rfl rfl ?_
  refine G_scv (j := i + 1) (v := s 1 (i + 1)) rfl (by decide) w1 g1 rfl ?_
  show G 0 140 225 928 [(3, 1), (3, 2), (3, 120), (1, (i : Int))] [(1, s 1 (i + 1)), (3, 2)] (140, s) Q
  refine G_go rfl rfl ?_
  refine G_go rfl rfl ?_
  refine G_go rfl rfl ?_
  refine G_go rfl rfl ?_
  refine G_scv (j := i + 2) (v := s 1 (i + 2)) rfl (by decide) w2 g2 rfl ?_
  show G 0 140 225 933 [(3, 1), (3, 2), (3, 120), (1, (i : Int))] [(1, s 1 (i + 2)), (1, s 1 (i + 1)), (3, 2)] (140, s) Q
  refine G_call rfl rfl ?_
  refine G_mono (both_call (tg := 1) (Or.inl ⟨rfl, rfl⟩) (op_safe 140 s s h (s 1 (i + 1)) (s 1 (i + 2)))) (fun r s1 hk => ?_)
  obtain ⟨x, hr, e1, hk⟩ := hk
  subst hr
  show G 0 140 225 936 [(3, 1), (3, 2), (3, 120), (1, (i : Int))] [(1, x)] s1 Q
  have e10 : s1.2 0 = s 0 := e1 0 (by decide)
  have e11 : s1.2 1 = s 1 := e1 1 (by decide)
  refine G_go rfl rfl ?_
  refine G_go rfl rfl ?_
  refine G_go rfl rfl ?_
  refine G_go rfl rfl ?_
  refine G_go rfl rfl ?_
  refine G_scv (j := i + 1) (v := s 1 (i + 1)) rfl (by decide) w1 (by rw [e10]; exact g1) (by rw [e11]) ?_
  show G 0 140 225 942 [(3, 1), (3, 2), (3, 120), (1, (i : Int))] [(1, s 1 (i + 1)), (3, 120), (1, x)] s1 Q
  refine G_go rfl rfl ?_
  refine G_go rfl rfl ?_
  refine G_go rfl rfl ?_
  refine G_go rfl rfl ?_
  refine G_scv (j := i + 2) (v := s 1 (i + 2)) rfl (by decide) w2 (by rw [e10]; exact g2) (by rw [e11]) ?_
  show G 0 140 225 947 [(3, 1), (3, 2), (3, 120), (1, (i : Int))] [(1, s 1 (i + 2)), (1, s 1 (i + 1)), (3, 120), (1, x)] s1 Q
  refine G_call rfl rfl ?_
  refine G_mono hk (fun r2 s2 hq => ?_)
  obtain ⟨hr, h2, hn, e2⟩ := hq
  subst hr
  obtain ⟨n2, t2⟩ := s2
  have hn : n2 = 140 := hn
  subst hn
  show G 0 140 225 950 [(3, 1), (3, 2), (3, 120), (1, (i : Int))] [(1, x), (1, x)] (140, t2) Q
  refine G_eq rfl rfl (fun _ => ?_) (fun c => absurd rfl c)
  exact K t2 h2 e2
set_option maxRecDepth 100000 in
theorem lw_23 (s : Nat → Nat → Int) (i : Nat) (hL : s 0 0 ≤ 2560) (hi : (i : Int) + 5 ≤ s 0 0) (h : REL s s) (Q : List Vl → Sto → Prop) (K : ∀ s1, REL s1 s1 → (∀ a, a < 2 → s1 a = s a) → G 0 140 225 1519 [(3, 1), (3, 2), (3, 120), (1, (i : Int))] [] (140, s1) Q) : G 0 140 225 955 [(3, 1), (3, 2), (3, 120), (1, (i : Int))] [] (140, s) Q := by
  have i5 : i + 5 ≤ 2560 := by omega
  have g1 : ((i + 1 : Nat) : Int) < s 0 0 := by omega
  have w1 : wr ((i : Int) + 1) = ((i + 1 : Nat) : Int) := wr_i 1 i5 (by decide)
  refine G_go rfl rfl ?_
  refine G_go rfl rfl ?_
  refine G_go rfl rfl ?_
  refine G_go rfl rfl ?_
  refine G_go rfl rfl ?_
  refine G_scv (j := i + 1) (v := s 1 (i + 1)) rfl (by decide) w1 g1 rfl ?_
  show G 0 140 225 961 [(3, 1), (3, 2), (3, 120), (1, (i : Int))] [(1, s 1 (i + 1)), (3, 2)] (140, s) Q
  refine G_call rfl rfl ?_
  refine G_mono (both_call (tg := 1) (Or.inl ⟨rfl, rfl⟩) (op_relay 140 s s h (s 1 (i + 1)))) (fun r s1 hk => ?_)
  obtain ⟨x, hr, e1, hk⟩ := hk
  subst hr
  show G 0 140 225 964 [(3, 1), (3, 2), (3, 120), (1, (i : Int))] [(1, x)] s1 Q
  have e10 : s1.2 0 = s 0 := e1 0 (by decide)
  have e11 : s1.2 1 = s 1 := e1 1 (by decide)
  refine G_go rfl rfl ?_
  refine G_go rfl rfl ?_
  refine G_go rfl rfl ?_
  refine G_go rfl rfl ?_
  refine G_go rfl rfl ?_
  refine G_scv (j := i + 1) (v := s 1 (i + 1)) rfl (by decide) w1 (by rw [e10]; exact g1) (by rw [e11]) ?_
  show G 0 140 225 970 [(3, 1), (3, 2), (3, 120), (1, (i : Int))] [(1, s 1 (i + 1)), (3, 120), (1, x)] s1 Q
  refine G_call rfl rfl ?_
  refine G_mono hk (fun r2 s2 hq => ?_)
  obtain ⟨hr, h2, hn, e2⟩ := hq
  subst hr
  obtain ⟨n2, t2⟩ := s2
  have hn : n2 = 140 := hn
  subst hn
  show G 0 140 225 973 [(3, 1), (3, 2), (3, 120), (1, (i : Int))] [(1, x), (1, x)] (140, t2) Q
  refine G_eq rfl rfl (fun _ => ?_) (fun c => absurd rfl c)
  exact K t2 h2 e2
set_option maxRecDepth 100000 in
theorem lw_24 (s : Nat → Nat → Int) (i : Nat) (hL : s 0 0 ≤ 2560) (hi : (i : Int) + 5 ≤ s 0 0) (h : REL s s) (Q : List Vl → Sto → Prop) (K : ∀ s1, REL s1 s1 → (∀ a, a < 2 → s1 a = s a) → G 0 140 225 1519 [(3, 1), (3, 2), (3, 120), (1, (i : Int))] [] (140, s1) Q) : G 0 140 225 978 [(3, 1), (3, 2), (3, 120), (1, (i : Int))] [] (140, s) Q := by
  have i5 : i + 5 ≤ 2560 := by omega
  have g1 : ((i + 1 : Nat) : Int) < s 0 0 := by omega
  have g2 : ((i + 2 : Nat) : Int) < s 0 0 := by omega
  have w1 : wr ((i : Int) + 1) = ((i + 1 : Nat) : Int) := wr_i 1 i5 (by decide)
  have w2 : wr ((i : Int) + 2) = ((i + 2 : Nat) : Int) := wr_i 2 i5 (by decide)
  refine G_go rfl rfl ?_
  refine G_go rfl rfl ?_
  refine G_go rfl rfl ?_
  refine G_go rfl rfl ?_
  refine G_go rfl rfl ?_
  refine G_scv (j := i + 1) (v := s 1 (i + 1)) rfl (by decide) w1 g1 rfl ?_
  show G 0 140 225 984 [(3, 1), (3, 2), (3, 120), (1, (i : Int))] [(1, s 1 (i + 1)), (3, 2)] (140, s) Q
  refine G_go rfl rfl ?_
  refine G_go rfl rfl ?_
  refine G_go rfl rfl ?_
  refine G_go rfl rfl ?_
  refine G_scv (j := i + 2) (v := s 1 (i + 2)) rfl (by decide) w2 g2 rfl ?_
  show G 0 140 225 989 [(3, 1), (3, 2), (3, 120), (1, (i : Int))] [(1, s 1 (i + 2)), (1, s 1 (i + 1)), (3, 2)] (140, s) Q
  refine G_call rfl rfl ?_
  refine G_mono (both_call (tg := 1) (Or.inl ⟨rfl, rfl⟩) (op_tax 140 s s h (s 1 (i + 1)) (s 1 (i + 2)))) (fun r s1 hk => ?_)
  obtain ⟨x, hr, e1, hk⟩ := hk
  subst hr
  show G 0 140 225 992 [(3, 1), (3, 2), (3, 120), (1, (i : Int))] [(1, x)] s1 Q
  have e10 : s1.2 0 = s 0 := e1 0 (by decide)
  have e11 : s1.2 1 = s 1 := e1 1 (by decide)
  refine G_go rfl rfl ?_
  refine G_go rfl rfl ?_
  refine G_go rfl rfl ?_
  refine G_go rfl rfl ?_
  refine G_go rfl rfl ?_
  refine G_scv (j := i + 1) (v := s 1 (i + 1)) rfl (by decide) w1 (by rw [e10]; exact g1) (by rw [e11]) ?_
  show G 0 140 225 998 [(3, 1), (3, 2), (3, 120), (1, (i : Int))] [(1, s 1 (i + 1)), (3, 120), (1, x)] s1 Q
  refine G_go rfl rfl ?_
  refine G_go rfl rfl ?_
  refine G_go rfl rfl ?_
  refine G_go rfl rfl ?_
  refine G_scv (j := i + 2) (v := s 1 (i + 2)) rfl (by decide) w2 (by rw [e10]; exact g2) (by rw [e11]) ?_
  show G 0 140 225 1003 [(3, 1), (3, 2), (3, 120), (1, (i : Int))] [(1, s 1 (i + 2)), (1, s 1 (i + 1)), (3, 120), (1, x)] s1 Q
  refine G_call rfl rfl ?_
  refine G_mono hk (fun r2 s2 hq => ?_)
  obtain ⟨hr, h2, hn, e2⟩ := hq
  subst hr
  obtain ⟨n2, t2⟩ := s2
  have hn : n2 = 140 := hn
  subst hn
  show G 0 140 225 1006 [(3, 1), (3, 2), (3, 120), (1, (i : Int))] [(1, x), (1, x)] (140, t2) Q
  refine G_eq rfl rfl (fun _ => ?_) (fun c => absurd rfl c)
  exact K t2 h2 e2
set_option maxRecDepth 100000 in
theorem lw_25 (s : Nat → Nat → Int) (i : Nat) (hL : s 0 0 ≤ 2560) (hi : (i : Int) + 5 ≤ s 0 0) (h : REL s s) (Q : List Vl → Sto → Prop) (K : ∀ s1, REL s1 s1 → (∀ a, a < 2 → s1 a = s a) → G 0 140 225 1519 [(3, 1), (3, 2), (3, 120), (1, (i : Int))] [] (140, s1) Q) : G 0 140 225 1011 [(3, 1), (3, 2), (3, 120), (1, (i : Int))] [] (140, s) Q := by
  have i5 : i + 5 ≤ 2560 := by omega
  have g1 : ((i + 1 : Nat) : Int) < s 0 0 := by omega
  have w1 : wr ((i : Int) + 1) = ((i + 1 : Nat) : Int) := wr_i 1 i5 (by decide)
  refine G_go rfl rfl ?_
  refine G_go rfl rfl ?_
  refine G_go rfl rfl ?_
  refine G_go rfl rfl ?_
  refine G_go rfl rfl ?_
  refine G_scv (j := i + 1) (v := s 1 (i + 1)) rfl (by decide) w1 g1 rfl ?_
  show G 0 140 225 1017 [(3, 1), (3, 2), (3, 120), (1, (i : Int))] [(1, s 1 (i + 1)), (3, 2)] (140, s) Q
  refine G_call rfl rfl ?_
  refine G_mono (both_call (tg := 1) (Or.inl ⟨rfl, rfl⟩) (op_hide 140 s s h (s 1 (i + 1)))) (fun r s1 hk => ?_)
  obtain ⟨x, hr, e1, hk⟩ := hk
  subst hr
  show G 0 140 225 1020 [(3, 1), (3, 2), (3, 120), (1, (i : Int))] [(1, x)] s1 Q
  have e10 : s1.2 0 = s 0 := e1 0 (by decide)
  have e11 : s1.2 1 = s 1 := e1 1 (by decide)
  refine G_go rfl rfl ?_
  refine G_go rfl rfl ?_
  refine G_go rfl rfl ?_
  refine G_go rfl rfl ?_
  refine G_go rfl rfl ?_
  refine G_scv (j := i + 1) (v := s 1 (i + 1)) rfl (by decide) w1 (by rw [e10]; exact g1) (by rw [e11]) ?_
  show G 0 140 225 1026 [(3, 1), (3, 2), (3, 120), (1, (i : Int))] [(1, s 1 (i + 1)), (3, 120), (1, x)] s1 Q
  refine G_call rfl rfl ?_
  refine G_mono hk (fun r2 s2 hq => ?_)
  obtain ⟨hr, h2, hn, e2⟩ := hq
  subst hr
  obtain ⟨n2, t2⟩ := s2
  have hn : n2 = 140 := hn
  subst hn
  show G 0 140 225 1029 [(3, 1), (3, 2), (3, 120), (1, (i : Int))] [(1, x), (1, x)] (140, t2) Q
  refine G_eq rfl rfl (fun _ => ?_) (fun c => absurd rfl c)
  exact K t2 h2 e2
set_option maxRecDepth 100000 in
theorem lw_26 (s : Nat → Nat → Int) (i : Nat) (hL : s 0 0 ≤ 2560) (hi : (i : Int) + 5 ≤ s 0 0) (h : REL s s) (Q : List Vl → Sto → Prop) (K : ∀ s1, REL s1 s1 → (∀ a, a < 2 → s1 a = s a) → G 0 140 225 1519 [(3, 1), (3, 2), (3, 120), (1, (i : Int))] [] (140, s1) Q) : G 0 140 225 1034 [(3, 1), (3, 2), (3, 120), (1, (i : Int))] [] (140, s) Q := by
  have i5 : i + 5 ≤ 2560 := by omega
  have g1 : ((i + 1 : Nat) : Int) < s 0 0 := by omega
  have g2 : ((i + 2 : Nat) : Int) < s 0 0 := by omega
  have w1 : wr ((i : Int) + 1) = ((i + 1 : Nat) : Int) := wr_i 1 i5 (by decide)
  have w2 : wr ((i : Int) + 2) = ((i + 2 : Nat) : Int) := wr_i 2 i5 (by decide)
  refine G_go rfl rfl ?_
  refine G_go rfl rfl ?_
  refine G_go rfl rfl ?_
  refine G_go rfl rfl ?_
  refine G_go rfl rfl ?_
  refine G_scv (j := i + 1) (v := s 1 (i + 1)) rfl (by decide) w1 g1 rfl ?_
  show G 0 140 225 1040 [(3, 1), (3, 2), (3, 120), (1, (i : Int))] [(1, s 1 (i + 1)), (3, 2)] (140, s) Q
  refine G_go rfl rfl ?_
  refine G_go rfl rfl ?_
  refine G_go rfl rfl ?_
  refine G_go rfl rfl ?_
  refine G_scv (j := i + 2) (v := s 1 (i + 2)) rfl (by decide) w2 g2 rfl ?_
  show G 0 140 225 1045 [(3, 1), (3, 2), (3, 120), (1, (i : Int))] [(1, s 1 (i + 2)), (1, s 1 (i + 1)), (3, 2)] (140, s) Q
  refine G_call rfl rfl ?_
  refine G_mono (both_call (tg := 1) (Or.inl ⟨rfl, rfl⟩) (op_whatHeHolds 140 s s h (s 1 (i + 1)) (s 1 (i + 2)))) (fun r s1 hk => ?_)
  obtain ⟨x, hr, e1, hk⟩ := hk
  subst hr
  show G 0 140 225 1048 [(3, 1), (3, 2), (3, 120), (1, (i : Int))] [(1, x)] s1 Q
  have e10 : s1.2 0 = s 0 := e1 0 (by decide)
  have e11 : s1.2 1 = s 1 := e1 1 (by decide)
  refine G_go rfl rfl ?_
  refine G_go rfl rfl ?_
  refine G_go rfl rfl ?_
  refine G_go rfl rfl ?_
  refine G_go rfl rfl ?_
  refine G_scv (j := i + 1) (v := s 1 (i + 1)) rfl (by decide) w1 (by rw [e10]; exact g1) (by rw [e11]) ?_
  show G 0 140 225 1054 [(3, 1), (3, 2), (3, 120), (1, (i : Int))] [(1, s 1 (i + 1)), (3, 120), (1, x)] s1 Q
  refine G_go rfl rfl ?_
  refine G_go rfl rfl ?_
  refine G_go rfl rfl ?_
  refine G_go rfl rfl ?_
  refine G_scv (j := i + 2) (v := s 1 (i + 2)) rfl (by decide) w2 (by rw [e10]; exact g2) (by rw [e11]) ?_
  show G 0 140 225 1059 [(3, 1), (3, 2), (3, 120), (1, (i : Int))] [(1, s 1 (i + 2)), (1, s 1 (i + 1)), (3, 120), (1, x)] s1 Q
  refine G_call rfl rfl ?_
  refine G_mono hk (fun r2 s2 hq => ?_)
  obtain ⟨hr, h2, hn, e2⟩ := hq
  subst hr
  obtain ⟨n2, t2⟩ := s2
  have hn : n2 = 140 := hn
  subst hn
  show G 0 140 225 1062 [(3, 1), (3, 2), (3, 120), (1, (i : Int))] [(1, x), (1, x)] (140, t2) Q
  refine G_eq rfl rfl (fun _ => ?_) (fun c => absurd rfl c)
  exact K t2 h2 e2
set_option maxRecDepth 100000 in
theorem lw_27 (s : Nat → Nat → Int) (i : Nat) (hL : s 0 0 ≤ 2560) (hi : (i : Int) + 5 ≤ s 0 0) (h : REL s s) (Q : List Vl → Sto → Prop) (K : ∀ s1, REL s1 s1 → (∀ a, a < 2 → s1 a = s a) → G 0 140 225 1519 [(3, 1), (3, 2), (3, 120), (1, (i : Int))] [] (140, s1) Q) : G 0 140 225 1067 [(3, 1), (3, 2), (3, 120), (1, (i : Int))] [] (140, s) Q := by
  have i5 : i + 5 ≤ 2560 := by omega
  have g1 : ((i + 1 : Nat) : Int) < s 0 0 := by omega
  have w1 : wr ((i : Int) + 1) = ((i + 1 : Nat) : Int) := wr_i 1 i5 (by decide)
  refine G_go rfl rfl ?_
  refine G_go rfl rfl ?_
  refine G_go rfl rfl ?_
  refine G_go rfl rfl ?_
  refine G_go rfl rfl ?_
  refine G_scv (j := i + 1) (v := s 1 (i + 1)) rfl (by decide) w1 g1 rfl ?_
  show G 0 140 225 1073 [(3, 1), (3, 2), (3, 120), (1, (i : Int))] [(1, s 1 (i + 1)), (3, 2)] (140, s) Q
  refine G_call rfl rfl ?_
  refine G_mono (both_call (tg := 1) (Or.inl ⟨rfl, rfl⟩) (op_whoGave 140 s s h (s 1 (i + 1)))) (fun r s1 hk => ?_)
  obtain ⟨x, hr, e1, hk⟩ := hk
  subst hr
  show G 0 140 225 1076 [(3, 1), (3, 2), (3, 120), (1, (i : Int))] [(1, x)] s1 Q
  have e10 : s1.2 0 = s 0 := e1 0 (by decide)
  have e11 : s1.2 1 = s 1 := e1 1 (by decide)
  refine G_go rfl rfl ?_
  refine G_go rfl rfl ?_
  refine G_go rfl rfl ?_
  refine G_go rfl rfl ?_
  refine G_go rfl rfl ?_
  refine G_scv (j := i + 1) (v := s 1 (i + 1)) rfl (by decide) w1 (by rw [e10]; exact g1) (by rw [e11]) ?_
  show G 0 140 225 1082 [(3, 1), (3, 2), (3, 120), (1, (i : Int))] [(1, s 1 (i + 1)), (3, 120), (1, x)] s1 Q
  refine G_call rfl rfl ?_
  refine G_mono hk (fun r2 s2 hq => ?_)
  obtain ⟨hr, h2, hn, e2⟩ := hq
  subst hr
  obtain ⟨n2, t2⟩ := s2
  have hn : n2 = 140 := hn
  subst hn
  show G 0 140 225 1085 [(3, 1), (3, 2), (3, 120), (1, (i : Int))] [(1, x), (1, x)] (140, t2) Q
  refine G_eq rfl rfl (fun _ => ?_) (fun c => absurd rfl c)
  exact K t2 h2 e2
set_option maxRecDepth 100000 in
theorem lw_28 (s : Nat → Nat → Int) (i : Nat) (hL : s 0 0 ≤ 2560) (hi : (i : Int) + 5 ≤ s 0 0) (h : REL s s) (Q : List Vl → Sto → Prop) (K : ∀ s1, REL s1 s1 → (∀ a, a < 2 → s1 a = s a) → G 0 140 225 1519 [(3, 1), (3, 2), (3, 120), (1, (i : Int))] [] (140, s1) Q) : G 0 140 225 1090 [(3, 1), (3, 2), (3, 120), (1, (i : Int))] [] (140, s) Q := by
  have i5 : i + 5 ≤ 2560 := by omega
  have g1 : ((i + 1 : Nat) : Int) < s 0 0 := by omega
  have g2 : ((i + 2 : Nat) : Int) < s 0 0 := by omega
  have w1 : wr ((i : Int) + 1) = ((i + 1 : Nat) : Int) := wr_i 1 i5 (by decide)
  have w2 : wr ((i : Int) + 2) = ((i + 2 : Nat) : Int) := wr_i 2 i5 (by decide)
  refine G_go rfl rfl ?_
  refine G_go rfl rfl ?_
  refine G_go rfl rfl ?_
  refine G_go rfl rfl ?_
  refine G_go rfl rfl ?_
  refine G_scv (j := i + 1) (v := s 1 (i + 1)) rfl (by decide) w1 g1 rfl ?_
  show G 0 140 225 1096 [(3, 1), (3, 2), (3, 120), (1, (i : Int))] [(1, s 1 (i + 1)), (3, 2)] (140, s) Q
  refine G_go rfl rfl ?_
  refine G_go rfl rfl ?_
  refine G_go rfl rfl ?_
  refine G_go rfl rfl ?_
  refine G_scv (j := i + 2) (v := s 1 (i + 2)) rfl (by decide) w2 g2 rfl ?_
  show G 0 140 225 1101 [(3, 1), (3, 2), (3, 120), (1, (i : Int))] [(1, s 1 (i + 2)), (1, s 1 (i + 1)), (3, 2)] (140, s) Q
  refine G_call rfl rfl ?_
  refine G_mono (both_call (tg := 1) (Or.inl ⟨rfl, rfl⟩) (op_halve 140 s s h (s 1 (i + 1)) (s 1 (i + 2)))) (fun r s1 hk => ?_)
  obtain ⟨x, hr, e1, hk⟩ := hk
  subst hr
  show G 0 140 225 1104 [(3, 1), (3, 2), (3, 120), (1, (i : Int))] [(1, x)] s1 Q
  have e10 : s1.2 0 = s 0 := e1 0 (by decide)
  have e11 : s1.2 1 = s 1 := e1 1 (by decide)
  refine G_go rfl rfl ?_
  refine G_go rfl rfl ?_
  refine G_go rfl rfl ?_
  refine G_go rfl rfl ?_
  refine G_go rfl rfl ?_
  refine G_scv (j := i + 1) (v := s 1 (i + 1)) rfl (by decide) w1 (by rw [e10]; exact g1) (by rw [e11]) ?_
  show G 0 140 225 1110 [(3, 1), (3, 2), (3, 120), (1, (i : Int))] [(1, s 1 (i + 1)), (3, 120), (1, x)] s1 Q
  refine G_go rfl rfl ?_
  refine G_go rfl rfl ?_
  refine G_go rfl rfl ?_
  refine G_go rfl rfl ?_
  refine G_scv (j := i + 2) (v := s 1 (i + 2)) rfl (by decide) w2 (by rw [e10]; exact g2) (by rw [e11]) ?_
  show G 0 140 225 1115 [(3, 1), (3, 2), (3, 120), (1, (i : Int))] [(1, s 1 (i + 2)), (1, s 1 (i + 1)), (3, 120), (1, x)] s1 Q
  refine G_call rfl rfl ?_
  refine G_mono hk (fun r2 s2 hq => ?_)
  obtain ⟨hr, h2, hn, e2⟩ := hq
  subst hr
  obtain ⟨n2, t2⟩ := s2
  have hn : n2 = 140 := hn
  subst hn
  show G 0 140 225 1118 [(3, 1), (3, 2), (3, 120), (1, (i : Int))] [(1, x), (1, x)] (140, t2) Q
  refine G_eq rfl rfl (fun _ => ?_) (fun c => absurd rfl c)
  exact K t2 h2 e2
set_option maxRecDepth 100000 in
theorem lw_29 (s : Nat → Nat → Int) (i : Nat) (hL : s 0 0 ≤ 2560) (hi : (i : Int) + 5 ≤ s 0 0) (h : REL s s) (Q : List Vl → Sto → Prop) (K : ∀ s1, REL s1 s1 → (∀ a, a < 2 → s1 a = s a) → G 0 140 225 1519 [(3, 1), (3, 2), (3, 120), (1, (i : Int))] [] (140, s1) Q) : G 0 140 225 1123 [(3, 1), (3, 2), (3, 120), (1, (i : Int))] [] (140, s) Q := by
  have i5 : i + 5 ≤ 2560 := by omega
  have g1 : ((i + 1 : Nat) : Int) < s 0 0 := by omega
  have g2 : ((i + 2 : Nat) : Int) < s 0 0 := by omega
  have g3 : ((i + 3 : Nat) : Int) < s 0 0 := by omega
  have g4 : ((i + 4 : Nat) : Int) < s 0 0 := by omega
  have w1 : wr ((i : Int) + 1) = ((i + 1 : Nat) : Int) := wr_i 1 i5 (by decide)
  have w2 : wr ((i : Int) + 2) = ((i + 2 : Nat) : Int) := wr_i 2 i5 (by decide)
  have w3 : wr ((i : Int) + 3) = ((i + 3 : Nat) : Int) := wr_i 3 i5 (by decide)
  have w4 : wr ((i : Int) + 4) = ((i + 4 : Nat) : Int) := wr_i 4 i5 (by decide)
  refine G_go rfl rfl ?_
  refine G_go rfl rfl ?_
  refine G_go rfl rfl ?_
  refine G_go rfl rfl ?_
  refine G_go rfl rfl ?_
  refine G_scv (j := i + 1) (v := s 1 (i + 1)) rfl (by decide) w1 g1 rfl ?_
  show G 0 140 225 1129 [(3, 1), (3, 2), (3, 120), (1, (i : Int))] [(1, s 1 (i + 1)), (3, 2)] (140, s) Q
  refine G_go rfl rfl ?_
  refine G_go rfl rfl ?_
  refine G_go rfl rfl ?_
  refine G_go rfl rfl ?_
  refine G_scv (j := i + 2) (v := s 1 (i + 2)) rfl (by decide) w2 g2 rfl ?_
  show G 0 140 225 1134 [(3, 1), (3, 2), (3, 120), (1, (i : Int))] [(1, s 1 (i + 2)), (1, s 1 (i + 1)), (3, 2)] (140, s) Q
  refine G_go rfl rfl ?_
  refine G_go rfl rfl ?_
  refine G_go rfl rfl ?_
  refine G_go rfl rfl ?_
  refine G_scv (j := i + 3) (v := s 1 (i + 3)) rfl (by decide) w3 g3 rfl ?_
  show G 0 140 225 1139 [(3, 1), (3, 2), (3, 120), (1, (i : Int))] [(1, s 1 (i + 3)), (1, s 1 (i + 2)), (1, s 1 (i + 1)), (3, 2)] (140, s) Q
  refine G_go rfl rfl ?_
  refine G_go rfl rfl ?_
  refine G_go rfl rfl ?_
  refine G_go rfl rfl ?_
  refine G_scv (j := i + 4) (v := s 1 (i + 4)) rfl (by decide) w4 g4 rfl ?_
  show G 0 140 225 1144 [(3, 1), (3, 2), (3, 120), (1, (i : Int))] [(1, s 1 (i + 4)), (1, s 1 (i + 3)), (1, s 1 (i + 2)), (1, s 1 (i + 1)), (3, 2)] (140, s) Q
  refine G_call rfl rfl ?_
  refine G_mono (both_call (tg := 2) (Or.inr ⟨rfl, rfl⟩) (op_draft 140 s s h (s 1 (i + 1)) (s 1 (i + 2)) (s 1 (i + 3)) (s 1 (i + 4)))) (fun r s1 hk => ?_)
  obtain ⟨x, hr, e1, hk⟩ := hk
  subst hr
  show G 0 140 225 1147 [(3, 1), (3, 2), (3, 120), (1, (i : Int))] [(2, x)] s1 Q
  have e10 : s1.2 0 = s 0 := e1 0 (by decide)
  have e11 : s1.2 1 = s 1 := e1 1 (by decide)
  refine G_go rfl rfl ?_
  refine G_go rfl rfl ?_
  refine G_go rfl rfl ?_
  refine G_go rfl rfl ?_
  refine G_go rfl rfl ?_
  refine G_scv (j := i + 1) (v := s 1 (i + 1)) rfl (by decide) w1 (by rw [e10]; exact g1) (by rw [e11]) ?_
  show G 0 140 225 1153 [(3, 1), (3, 2), (3, 120), (1, (i : Int))] [(1, s 1 (i + 1)), (3, 120), (2, x)] s1 Q
  refine G_go rfl rfl ?_
  refine G_go rfl rfl ?_
  refine G_go rfl rfl ?_
  refine G_go rfl rfl ?_
  refine G_scv (j := i + 2) (v := s 1 (i + 2)) rfl (by decide) w2 (by rw [e10]; exact g2) (by rw [e11]) ?_
  show G 0 140 225 1158 [(3, 1), (3, 2), (3, 120), (1, (i : Int))] [(1, s 1 (i + 2)), (1, s 1 (i + 1)), (3, 120), (2, x)] s1 Q
  refine G_go rfl rfl ?_
  refine G_go rfl rfl ?_
  refine G_go rfl rfl ?_
  refine G_go rfl rfl ?_
  refine G_scv (j := i + 3) (v := s 1 (i + 3)) rfl (by decide) w3 (by rw [e10]; exact g3) (by rw [e11]) ?_
  show G 0 140 225 1163 [(3, 1), (3, 2), (3, 120), (1, (i : Int))] [(1, s 1 (i + 3)), (1, s 1 (i + 2)), (1, s 1 (i + 1)), (3, 120), (2, x)] s1 Q
  refine G_go rfl rfl ?_
  refine G_go rfl rfl ?_
  refine G_go rfl rfl ?_
  refine G_go rfl rfl ?_
  refine G_scv (j := i + 4) (v := s 1 (i + 4)) rfl (by decide) w4 (by rw [e10]; exact g4) (by rw [e11]) ?_
  show G 0 140 225 1168 [(3, 1), (3, 2), (3, 120), (1, (i : Int))] [(1, s 1 (i + 4)), (1, s 1 (i + 3)), (1, s 1 (i + 2)), (1, s 1 (i + 1)), (3, 120), (2, x)] s1 Q
  refine G_call rfl rfl ?_
  refine G_mono hk (fun r2 s2 hq => ?_)
  obtain ⟨hr, h2, hn, e2⟩ := hq
  subst hr
  obtain ⟨n2, t2⟩ := s2
  have hn : n2 = 140 := hn
  subst hn
  show G 0 140 225 1171 [(3, 1), (3, 2), (3, 120), (1, (i : Int))] [(2, x), (2, x)] (140, t2) Q
  refine G_go rfl rfl ?_
  refine G_eq rfl rfl (fun _ => ?_) (fun c => absurd (xl_self x) c)
  exact K t2 h2 e2
set_option maxRecDepth 100000 in
theorem lw_30 (s : Nat → Nat → Int) (i : Nat) (hL : s 0 0 ≤ 2560) (hi : (i : Int) + 5 ≤ s 0 0) (h : REL s s) (Q : List Vl → Sto → Prop) (K : ∀ s1, REL s1 s1 → (∀ a, a < 2 → s1 a = s a) → G 0 140 225 1519 [(3, 1), (3, 2), (3, 120), (1, (i : Int))] [] (140, s1) Q) : G 0 140 225 1177 [(3, 1), (3, 2), (3, 120), (1, (i : Int))] [] (140, s) Q := by
  have i5 : i + 5 ≤ 2560 := by omega
  have g1 : ((i + 1 : Nat) : Int) < s 0 0 := by omega
  have w1 : wr ((i : Int) + 1) = ((i + 1 : Nat) : Int) := wr_i 1 i5 (by decide)
  refine G_go rfl rfl ?_
  refine G_go rfl rfl ?_
  refine G_go rfl rfl ?_
  refine G_go rfl rfl ?_
  refine G_go rfl rfl ?_
  refine G_scv (j := i + 1) (v := s 1 (i + 1)) rfl (by decide) w1 g1 rfl ?_
  show G 0 140 225 1183 [(3, 1), (3, 2), (3, 120), (1, (i : Int))] [(1, s 1 (i + 1)), (3, 2)] (140, s) Q
  refine G_call rfl rfl ?_
  refine G_mono (both_call (tg := 1) (Or.inl ⟨rfl, rfl⟩) (op_shares 140 s s h (s 1 (i + 1)))) (fun r s1 hk => ?_)
  obtain ⟨x, hr, e1, hk⟩ := hk
  subst hr
  show G 0 140 225 1186 [(3, 1), (3, 2), (3, 120), (1, (i : Int))] [(1, x)] s1 Q
  have e10 : s1.2 0 = s 0 := e1 0 (by decide)
  have e11 : s1.2 1 = s 1 := e1 1 (by decide)
  refine G_go rfl rfl ?_
  refine G_go rfl rfl ?_
  refine G_go rfl rfl ?_
  refine G_go rfl rfl ?_
  refine G_go rfl rfl ?_
  refine G_scv (j := i + 1) (v := s 1 (i + 1)) rfl (by decide) w1 (by rw [e10]; exact g1) (by rw [e11]) ?_
  show G 0 140 225 1192 [(3, 1), (3, 2), (3, 120), (1, (i : Int))] [(1, s 1 (i + 1)), (3, 120), (1, x)] s1 Q
  refine G_call rfl rfl ?_
  refine G_mono hk (fun r2 s2 hq => ?_)
  obtain ⟨hr, h2, hn, e2⟩ := hq
  subst hr
  obtain ⟨n2, t2⟩ := s2
  have hn : n2 = 140 := hn
  subst hn
  show G 0 140 225 1195 [(3, 1), (3, 2), (3, 120), (1, (i : Int))] [(1, x), (1, x)] (140, t2) Q
  refine G_eq rfl rfl (fun _ => ?_) (fun c => absurd rfl c)
  exact K t2 h2 e2
set_option maxRecDepth 100000 in
theorem lw_31 (s : Nat → Nat → Int) (i : Nat) (hL : s 0 0 ≤ 2560) (hi : (i : Int) + 5 ≤ s 0 0) (h : REL s s) (Q : List Vl → Sto → Prop) (K : ∀ s1, REL s1 s1 → (∀ a, a < 2 → s1 a = s a) → G 0 140 225 1519 [(3, 1), (3, 2), (3, 120), (1, (i : Int))] [] (140, s1) Q) : G 0 140 225 1200 [(3, 1), (3, 2), (3, 120), (1, (i : Int))] [] (140, s) Q := by
  have i5 : i + 5 ≤ 2560 := by omega
  have g1 : ((i + 1 : Nat) : Int) < s 0 0 := by omega
  have w1 : wr ((i : Int) + 1) = ((i + 1 : Nat) : Int) := wr_i 1 i5 (by decide)
  refine G_go rfl rfl ?_
  refine G_go rfl rfl ?_
  refine G_go rfl rfl ?_
  refine G_go rfl rfl ?_
  refine G_go rfl rfl ?_
  refine G_scv (j := i + 1) (v := s 1 (i + 1)) rfl (by decide) w1 g1 rfl ?_
  show G 0 140 225 1206 [(3, 1), (3, 2), (3, 120), (1, (i : Int))] [(1, s 1 (i + 1)), (3, 2)] (140, s) Q
  refine G_call rfl rfl ?_
  refine G_mono (both_call (tg := 1) (Or.inl ⟨rfl, rfl⟩) (op_richest 140 s s h (s 1 (i + 1)))) (fun r s1 hk => ?_)
  obtain ⟨x, hr, e1, hk⟩ := hk
  subst hr
  show G 0 140 225 1209 [(3, 1), (3, 2), (3, 120), (1, (i : Int))] [(1, x)] s1 Q
  have e10 : s1.2 0 = s 0 := e1 0 (by decide)
  have e11 : s1.2 1 = s 1 := e1 1 (by decide)
  refine G_go rfl rfl ?_
  refine G_go rfl rfl ?_
  refine G_go rfl rfl ?_
  refine G_go rfl rfl ?_
  refine G_go rfl rfl ?_
  refine G_scv (j := i + 1) (v := s 1 (i + 1)) rfl (by decide) w1 (by rw [e10]; exact g1) (by rw [e11]) ?_
  show G 0 140 225 1215 [(3, 1), (3, 2), (3, 120), (1, (i : Int))] [(1, s 1 (i + 1)), (3, 120), (1, x)] s1 Q
  refine G_call rfl rfl ?_
  refine G_mono hk (fun r2 s2 hq => ?_)
  obtain ⟨hr, h2, hn, e2⟩ := hq
  subst hr
  obtain ⟨n2, t2⟩ := s2
  have hn : n2 = 140 := hn
  subst hn
  show G 0 140 225 1218 [(3, 1), (3, 2), (3, 120), (1, (i : Int))] [(1, x), (1, x)] (140, t2) Q
  refine G_eq rfl rfl (fun _ => ?_) (fun c => absurd rfl c)
  exact K t2 h2 e2
set_option maxRecDepth 100000 in
theorem lw_32 (s : Nat → Nat → Int) (i : Nat) (hL : s 0 0 ≤ 2560) (hi : (i : Int) + 5 ≤ s 0 0) (h : REL s s) (Q : List Vl → Sto → Prop) (K : ∀ s1, REL s1 s1 → (∀ a, a < 2 → s1 a = s a) → G 0 140 225 1519 [(3, 1), (3, 2), (3, 120), (1, (i : Int))] [] (140, s1) Q) : G 0 140 225 1223 [(3, 1), (3, 2), (3, 120), (1, (i : Int))] [] (140, s) Q := by
  have i5 : i + 5 ≤ 2560 := by omega
  have g1 : ((i + 1 : Nat) : Int) < s 0 0 := by omega
  have w1 : wr ((i : Int) + 1) = ((i + 1 : Nat) : Int) := wr_i 1 i5 (by decide)
  refine G_go rfl rfl ?_
  refine G_go rfl rfl ?_
  refine G_go rfl rfl ?_
  refine G_go rfl rfl ?_
  refine G_go rfl rfl ?_
  refine G_scv (j := i + 1) (v := s 1 (i + 1)) rfl (by decide) w1 g1 rfl ?_
  show G 0 140 225 1229 [(3, 1), (3, 2), (3, 120), (1, (i : Int))] [(1, s 1 (i + 1)), (3, 2)] (140, s) Q
  refine G_call rfl rfl ?_
  refine G_mono (both_call (tg := 2) (Or.inr ⟨rfl, rfl⟩) (op_mean 140 s s h (s 1 (i + 1)))) (fun r s1 hk => ?_)
  obtain ⟨x, hr, e1, hk⟩ := hk
  subst hr
  show G 0 140 225 1232 [(3, 1), (3, 2), (3, 120), (1, (i : Int))] [(2, x)] s1 Q
  have e10 : s1.2 0 = s 0 := e1 0 (by decide)
  have e11 : s1.2 1 = s 1 := e1 1 (by decide)
  refine G_go rfl rfl ?_
  refine G_go rfl rfl ?_
  refine G_go rfl rfl ?_
  refine G_go rfl rfl ?_
  refine G_go rfl rfl ?_
  refine G_scv (j := i + 1) (v := s 1 (i + 1)) rfl (by decide) w1 (by rw [e10]; exact g1) (by rw [e11]) ?_
  show G 0 140 225 1238 [(3, 1), (3, 2), (3, 120), (1, (i : Int))] [(1, s 1 (i + 1)), (3, 120), (2, x)] s1 Q
  refine G_call rfl rfl ?_
  refine G_mono hk (fun r2 s2 hq => ?_)
  obtain ⟨hr, h2, hn, e2⟩ := hq
  subst hr
  obtain ⟨n2, t2⟩ := s2
  have hn : n2 = 140 := hn
  subst hn
  show G 0 140 225 1241 [(3, 1), (3, 2), (3, 120), (1, (i : Int))] [(2, x), (2, x)] (140, t2) Q
  refine G_go rfl rfl ?_
  refine G_eq rfl rfl (fun _ => ?_) (fun c => absurd (xl_self x) c)
  exact K t2 h2 e2
set_option maxRecDepth 100000 in
theorem lw_33 (s : Nat → Nat → Int) (i : Nat) (hL : s 0 0 ≤ 2560) (hi : (i : Int) + 5 ≤ s 0 0) (h : REL s s) (Q : List Vl → Sto → Prop) (K : ∀ s1, REL s1 s1 → (∀ a, a < 2 → s1 a = s a) → G 0 140 225 1519 [(3, 1), (3, 2), (3, 120), (1, (i : Int))] [] (140, s1) Q) : G 0 140 225 1247 [(3, 1), (3, 2), (3, 120), (1, (i : Int))] [] (140, s) Q := by
  refine G_go rfl rfl ?_
  refine G_call rfl rfl ?_
  refine G_mono (both_call (tg := 1) (Or.inl ⟨rfl, rfl⟩) (op_apart 140 s s h )) (fun r s1 hk => ?_)
  obtain ⟨x, hr, e1, hk⟩ := hk
  subst hr
  show G 0 140 225 1251 [(3, 1), (3, 2), (3, 120), (1, (i : Int))] [(1, x)] s1 Q
  refine G_go rfl rfl ?_
  refine G_call rfl rfl ?_
  refine G_mono hk (fun r2 s2 hq => ?_)
  obtain ⟨hr, h2, hn, e2⟩ := hq
  subst hr
  obtain ⟨n2, t2⟩ := s2
  have hn : n2 = 140 := hn
  subst hn
  show G 0 140 225 1255 [(3, 1), (3, 2), (3, 120), (1, (i : Int))] [(1, x), (1, x)] (140, t2) Q
  refine G_eq rfl rfl (fun _ => ?_) (fun c => absurd rfl c)
  exact K t2 h2 e2
set_option maxRecDepth 100000 in
theorem lw_34 (s : Nat → Nat → Int) (i : Nat) (hL : s 0 0 ≤ 2560) (hi : (i : Int) + 5 ≤ s 0 0) (h : REL s s) (Q : List Vl → Sto → Prop) (K : ∀ s1, REL s1 s1 → (∀ a, a < 2 → s1 a = s a) → G 0 140 225 1519 [(3, 1), (3, 2), (3, 120), (1, (i : Int))] [] (140, s1) Q) : G 0 140 225 1260 [(3, 1), (3, 2), (3, 120), (1, (i : Int))] [] (140, s) Q := by
  have i5 : i + 5 ≤ 2560 := by omega
  have g1 : ((i + 1 : Nat) : Int) < s 0 0 := by omega
  have w1 : wr ((i : Int) + 1) = ((i + 1 : Nat) : Int) := wr_i 1 i5 (by decide)
  refine G_go rfl rfl ?_
  refine G_go rfl rfl ?_
  refine G_go rfl rfl ?_
  refine G_go rfl rfl ?_
  refine G_go rfl rfl ?_
  refine G_scv (j := i + 1) (v := s 1 (i + 1)) rfl (by decide) w1 g1 rfl ?_
  show G 0 140 225 1266 [(3, 1), (3, 2), (3, 120), (1, (i : Int))] [(1, s 1 (i + 1)), (3, 2)] (140, s) Q
  refine G_call rfl rfl ?_
  refine G_mono (both_call (tg := 1) (Or.inl ⟨rfl, rfl⟩) (op_ring 140 s s h (s 1 (i + 1)))) (fun r s1 hk => ?_)
  obtain ⟨x, hr, e1, hk⟩ := hk
  subst hr
  show G 0 140 225 1269 [(3, 1), (3, 2), (3, 120), (1, (i : Int))] [(1, x)] s1 Q
  have e10 : s1.2 0 = s 0 := e1 0 (by decide)
  have e11 : s1.2 1 = s 1 := e1 1 (by decide)
  refine G_go rfl rfl ?_
  refine G_go rfl rfl ?_
  refine G_go rfl rfl ?_
  refine G_go rfl rfl ?_
  refine G_go rfl rfl ?_
  refine G_scv (j := i + 1) (v := s 1 (i + 1)) rfl (by decide) w1 (by rw [e10]; exact g1) (by rw [e11]) ?_
  show G 0 140 225 1275 [(3, 1), (3, 2), (3, 120), (1, (i : Int))] [(1, s 1 (i + 1)), (3, 120), (1, x)] s1 Q
  refine G_call rfl rfl ?_
  refine G_mono hk (fun r2 s2 hq => ?_)
  obtain ⟨hr, h2, hn, e2⟩ := hq
  subst hr
  obtain ⟨n2, t2⟩ := s2
  have hn : n2 = 140 := hn
  subst hn
  show G 0 140 225 1278 [(3, 1), (3, 2), (3, 120), (1, (i : Int))] [(1, x), (1, x)] (140, t2) Q
  refine G_eq rfl rfl (fun _ => ?_) (fun c => absurd rfl c)
  exact K t2 h2 e2
set_option maxRecDepth 100000 in
theorem lw_35 (s : Nat → Nat → Int) (i : Nat) (hL : s 0 0 ≤ 2560) (hi : (i : Int) + 5 ≤ s 0 0) (h : REL s s) (Q : List Vl → Sto → Prop) (K : ∀ s1, REL s1 s1 → (∀ a, a < 2 → s1 a = s a) → G 0 140 225 1519 [(3, 1), (3, 2), (3, 120), (1, (i : Int))] [] (140, s1) Q) : G 0 140 225 1283 [(3, 1), (3, 2), (3, 120), (1, (i : Int))] [] (140, s) Q := by
  have i5 : i + 5 ≤ 2560 := by omega
  have g1 : ((i + 1 : Nat) : Int) < s 0 0 := by omega
  have w1 : wr ((i : Int) + 1) = ((i + 1 : Nat) : Int) := wr_i 1 i5 (by decide)
  refine G_go rfl rfl ?_
  refine G_go rfl rfl ?_
  refine G_go rfl rfl ?_
  refine G_go rfl rfl ?_
  refine G_go rfl rfl ?_
  refine G_scv (j := i + 1) (v := s 1 (i + 1)) rfl (by decide) w1 g1 rfl ?_
  show G 0 140 225 1289 [(3, 1), (3, 2), (3, 120), (1, (i : Int))] [(1, s 1 (i + 1)), (3, 2)] (140, s) Q
  refine G_call rfl rfl ?_
  refine G_mono (both_call (tg := 1) (Or.inl ⟨rfl, rfl⟩) (op_above 140 s s h (s 1 (i + 1)))) (fun r s1 hk => ?_)
  obtain ⟨x, hr, e1, hk⟩ := hk
  subst hr
  show G 0 140 225 1292 [(3, 1), (3, 2), (3, 120), (1, (i : Int))] [(1, x)] s1 Q
  have e10 : s1.2 0 = s 0 := e1 0 (by decide)
  have e11 : s1.2 1 = s 1 := e1 1 (by decide)
  refine G_go rfl rfl ?_
  refine G_go rfl rfl ?_
  refine G_go rfl rfl ?_
  refine G_go rfl rfl ?_
  refine G_go rfl rfl ?_
  refine G_scv (j := i + 1) (v := s 1 (i + 1)) rfl (by decide) w1 (by rw [e10]; exact g1) (by rw [e11]) ?_
  show G 0 140 225 1298 [(3, 1), (3, 2), (3, 120), (1, (i : Int))] [(1, s 1 (i + 1)), (3, 120), (1, x)] s1 Q
  refine G_call rfl rfl ?_
  refine G_mono hk (fun r2 s2 hq => ?_)
  obtain ⟨hr, h2, hn, e2⟩ := hq
  subst hr
  obtain ⟨n2, t2⟩ := s2
  have hn : n2 = 140 := hn
  subst hn
  show G 0 140 225 1301 [(3, 1), (3, 2), (3, 120), (1, (i : Int))] [(1, x), (1, x)] (140, t2) Q
  refine G_eq rfl rfl (fun _ => ?_) (fun c => absurd rfl c)
  exact K t2 h2 e2
set_option maxRecDepth 100000 in
theorem lw_36 (s : Nat → Nat → Int) (i : Nat) (hL : s 0 0 ≤ 2560) (hi : (i : Int) + 5 ≤ s 0 0) (h : REL s s) (Q : List Vl → Sto → Prop) (K : ∀ s1, REL s1 s1 → (∀ a, a < 2 → s1 a = s a) → G 0 140 225 1519 [(3, 1), (3, 2), (3, 120), (1, (i : Int))] [] (140, s1) Q) : G 0 140 225 1306 [(3, 1), (3, 2), (3, 120), (1, (i : Int))] [] (140, s) Q := by
  have i5 : i + 5 ≤ 2560 := by omega
  have g1 : ((i + 1 : Nat) : Int) < s 0 0 := by omega
  have w1 : wr ((i : Int) + 1) = ((i + 1 : Nat) : Int) := wr_i 1 i5 (by decide)
  refine G_go rfl rfl ?_
  refine G_go rfl rfl ?_
  refine G_go rfl rfl ?_
  refine G_go rfl rfl ?_
  refine G_go rfl rfl ?_
  refine G_scv (j := i + 1) (v := s 1 (i + 1)) rfl (by decide) w1 g1 rfl ?_
  show G 0 140 225 1312 [(3, 1), (3, 2), (3, 120), (1, (i : Int))] [(1, s 1 (i + 1)), (3, 2)] (140, s) Q
  refine G_call rfl rfl ?_
  refine G_mono (both_call (tg := 1) (Or.inl ⟨rfl, rfl⟩) (op_trusted 140 s s h (s 1 (i + 1)))) (fun r s1 hk => ?_)
  obtain ⟨x, hr, e1, hk⟩ := hk
  subst hr
  show G 0 140 225 1315 [(3, 1), (3, 2), (3, 120), (1, (i : Int))] [(1, x)] s1 Q
  have e10 : s1.2 0 = s 0 := e1 0 (by decide)
  have e11 : s1.2 1 = s 1 := e1 1 (by decide)
  refine G_go rfl rfl ?_
  refine G_go rfl rfl ?_
  refine G_go rfl rfl ?_
  refine G_go rfl rfl ?_
  refine G_go rfl rfl ?_
  refine G_scv (j := i + 1) (v := s 1 (i + 1)) rfl (by decide) w1 (by rw [e10]; exact g1) (by rw [e11]) ?_
  show G 0 140 225 1321 [(3, 1), (3, 2), (3, 120), (1, (i : Int))] [(1, s 1 (i + 1)), (3, 120), (1, x)] s1 Q
  refine G_call rfl rfl ?_
  refine G_mono hk (fun r2 s2 hq => ?_)
  obtain ⟨hr, h2, hn, e2⟩ := hq
  subst hr
  obtain ⟨n2, t2⟩ := s2
  have hn : n2 = 140 := hn
  subst hn
  show G 0 140 225 1324 [(3, 1), (3, 2), (3, 120), (1, (i : Int))] [(1, x), (1, x)] (140, t2) Q
  refine G_eq rfl rfl (fun _ => ?_) (fun c => absurd rfl c)
  exact K t2 h2 e2
set_option maxRecDepth 100000 in
theorem lw_37 (s : Nat → Nat → Int) (i : Nat) (hL : s 0 0 ≤ 2560) (hi : (i : Int) + 5 ≤ s 0 0) (h : REL s s) (Q : List Vl → Sto → Prop) (K : ∀ s1, REL s1 s1 → (∀ a, a < 2 → s1 a = s a) → G 0 140 225 1519 [(3, 1), (3, 2), (3, 120), (1, (i : Int))] [] (140, s1) Q) : G 0 140 225 1329 [(3, 1), (3, 2), (3, 120), (1, (i : Int))] [] (140, s) Q := by
  refine G_go rfl rfl ?_
  refine G_call rfl rfl ?_
  refine G_mono (both_call (tg := 1) (Or.inl ⟨rfl, rfl⟩) (op_unlit 140 s s h )) (fun r s1 hk => ?_)
  obtain ⟨x, hr, e1, hk⟩ := hk
  subst hr
  show G 0 140 225 1333 [(3, 1), (3, 2), (3, 120), (1, (i : Int))] [(1, x)] s1 Q
  refine G_go rfl rfl ?_
  refine G_call rfl rfl ?_
  refine G_mono hk (fun r2 s2 hq => ?_)
  obtain ⟨hr, h2, hn, e2⟩ := hq
  subst hr
  obtain ⟨n2, t2⟩ := s2
  have hn : n2 = 140 := hn
  subst hn
  show G 0 140 225 1337 [(3, 1), (3, 2), (3, 120), (1, (i : Int))] [(1, x), (1, x)] (140, t2) Q
  refine G_eq rfl rfl (fun _ => ?_) (fun c => absurd rfl c)
  exact K t2 h2 e2
set_option maxRecDepth 100000 in
theorem lw_38 (s : Nat → Nat → Int) (i : Nat) (hL : s 0 0 ≤ 2560) (hi : (i : Int) + 5 ≤ s 0 0) (h : REL s s) (Q : List Vl → Sto → Prop) (K : ∀ s1, REL s1 s1 → (∀ a, a < 2 → s1 a = s a) → G 0 140 225 1519 [(3, 1), (3, 2), (3, 120), (1, (i : Int))] [] (140, s1) Q) : G 0 140 225 1342 [(3, 1), (3, 2), (3, 120), (1, (i : Int))] [] (140, s) Q := by
  have i5 : i + 5 ≤ 2560 := by omega
  have g1 : ((i + 1 : Nat) : Int) < s 0 0 := by omega
  have w1 : wr ((i : Int) + 1) = ((i + 1 : Nat) : Int) := wr_i 1 i5 (by decide)
  refine G_go rfl rfl ?_
  refine G_go rfl rfl ?_
  refine G_go rfl rfl ?_
  refine G_go rfl rfl ?_
  refine G_go rfl rfl ?_
  refine G_scv (j := i + 1) (v := s 1 (i + 1)) rfl (by decide) w1 g1 rfl ?_
  show G 0 140 225 1348 [(3, 1), (3, 2), (3, 120), (1, (i : Int))] [(1, s 1 (i + 1)), (3, 2)] (140, s) Q
  refine G_call rfl rfl ?_
  refine G_mono (both_call (tg := 1) (Or.inl ⟨rfl, rfl⟩) (op_gap 140 s s h (s 1 (i + 1)))) (fun r s1 hk => ?_)
  obtain ⟨x, hr, e1, hk⟩ := hk
  subst hr
  show G 0 140 225 1351 [(3, 1), (3, 2), (3, 120), (1, (i : Int))] [(1, x)] s1 Q
  have e10 : s1.2 0 = s 0 := e1 0 (by decide)
  have e11 : s1.2 1 = s 1 := e1 1 (by decide)
  refine G_go rfl rfl ?_
  refine G_go rfl rfl ?_
  refine G_go rfl rfl ?_
  refine G_go rfl rfl ?_
  refine G_go rfl rfl ?_
  refine G_scv (j := i + 1) (v := s 1 (i + 1)) rfl (by decide) w1 (by rw [e10]; exact g1) (by rw [e11]) ?_
  show G 0 140 225 1357 [(3, 1), (3, 2), (3, 120), (1, (i : Int))] [(1, s 1 (i + 1)), (3, 120), (1, x)] s1 Q
  refine G_call rfl rfl ?_
  refine G_mono hk (fun r2 s2 hq => ?_)
  obtain ⟨hr, h2, hn, e2⟩ := hq
  subst hr
  obtain ⟨n2, t2⟩ := s2
  have hn : n2 = 140 := hn
  subst hn
  show G 0 140 225 1360 [(3, 1), (3, 2), (3, 120), (1, (i : Int))] [(1, x), (1, x)] (140, t2) Q
  refine G_eq rfl rfl (fun _ => ?_) (fun c => absurd rfl c)
  exact K t2 h2 e2
set_option maxRecDepth 100000 in
theorem lw_39 (s : Nat → Nat → Int) (i : Nat) (hL : s 0 0 ≤ 2560) (hi : (i : Int) + 5 ≤ s 0 0) (h : REL s s) (Q : List Vl → Sto → Prop) (K : ∀ s1, REL s1 s1 → (∀ a, a < 2 → s1 a = s a) → G 0 140 225 1519 [(3, 1), (3, 2), (3, 120), (1, (i : Int))] [] (140, s1) Q) : G 0 140 225 1365 [(3, 1), (3, 2), (3, 120), (1, (i : Int))] [] (140, s) Q := by
  refine G_go rfl rfl ?_
  refine G_call rfl rfl ?_
  refine G_mono (both_call (tg := 1) (Or.inl ⟨rfl, rfl⟩) (op_same 140 s s h )) (fun r s1 hk => ?_)
  obtain ⟨x, hr, e1, hk⟩ := hk
  subst hr
  show G 0 140 225 1369 [(3, 1), (3, 2), (3, 120), (1, (i : Int))] [(1, x)] s1 Q
  refine G_go rfl rfl ?_
  refine G_call rfl rfl ?_
  refine G_mono hk (fun r2 s2 hq => ?_)
  obtain ⟨hr, h2, hn, e2⟩ := hq
  subst hr
  obtain ⟨n2, t2⟩ := s2
  have hn : n2 = 140 := hn
  subst hn
  show G 0 140 225 1373 [(3, 1), (3, 2), (3, 120), (1, (i : Int))] [(1, x), (1, x)] (140, t2) Q
  refine G_eq rfl rfl (fun _ => ?_) (fun c => absurd rfl c)
  exact K t2 h2 e2
set_option maxRecDepth 100000 in
theorem lw_40 (s : Nat → Nat → Int) (i : Nat) (hL : s 0 0 ≤ 2560) (hi : (i : Int) + 5 ≤ s 0 0) (h : REL s s) (Q : List Vl → Sto → Prop) (K : ∀ s1, REL s1 s1 → (∀ a, a < 2 → s1 a = s a) → G 0 140 225 1519 [(3, 1), (3, 2), (3, 120), (1, (i : Int))] [] (140, s1) Q) : G 0 140 225 1378 [(3, 1), (3, 2), (3, 120), (1, (i : Int))] [] (140, s) Q := by
  have i5 : i + 5 ≤ 2560 := by omega
  have g1 : ((i + 1 : Nat) : Int) < s 0 0 := by omega
  have w1 : wr ((i : Int) + 1) = ((i + 1 : Nat) : Int) := wr_i 1 i5 (by decide)
  refine G_go rfl rfl ?_
  refine G_go rfl rfl ?_
  refine G_go rfl rfl ?_
  refine G_go rfl rfl ?_
  refine G_go rfl rfl ?_
  refine G_scv (j := i + 1) (v := s 1 (i + 1)) rfl (by decide) w1 g1 rfl ?_
  show G 0 140 225 1384 [(3, 1), (3, 2), (3, 120), (1, (i : Int))] [(1, s 1 (i + 1)), (3, 2)] (140, s) Q
  refine G_call rfl rfl ?_
  refine G_mono (both_call (tg := 1) (Or.inl ⟨rfl, rfl⟩) (op_row 140 s s h (s 1 (i + 1)))) (fun r s1 hk => ?_)
  obtain ⟨x, hr, e1, hk⟩ := hk
  subst hr
  show G 0 140 225 1387 [(3, 1), (3, 2), (3, 120), (1, (i : Int))] [(1, x)] s1 Q
  have e10 : s1.2 0 = s 0 := e1 0 (by decide)
  have e11 : s1.2 1 = s 1 := e1 1 (by decide)
  refine G_go rfl rfl ?_
  refine G_go rfl rfl ?_
  refine G_go rfl rfl ?_
  refine G_go rfl rfl ?_
  refine G_go rfl rfl ?_
  refine G_scv (j := i + 1) (v := s 1 (i + 1)) rfl (by decide) w1 (by rw [e10]; exact g1) (by rw [e11]) ?_
  show G 0 140 225 1393 [(3, 1), (3, 2), (3, 120), (1, (i : Int))] [(1, s 1 (i + 1)), (3, 120), (1, x)] s1 Q
  refine G_call rfl rfl ?_
  refine G_mono hk (fun r2 s2 hq => ?_)
  obtain ⟨hr, h2, hn, e2⟩ := hq
  subst hr
  obtain ⟨n2, t2⟩ := s2
  have hn : n2 = 140 := hn
  subst hn
  show G 0 140 225 1396 [(3, 1), (3, 2), (3, 120), (1, (i : Int))] [(1, x), (1, x)] (140, t2) Q
  refine G_eq rfl rfl (fun _ => ?_) (fun c => absurd rfl c)
  exact K t2 h2 e2
set_option maxRecDepth 100000 in
theorem lw_41 (s : Nat → Nat → Int) (i : Nat) (hL : s 0 0 ≤ 2560) (hi : (i : Int) + 5 ≤ s 0 0) (h : REL s s) (Q : List Vl → Sto → Prop) (K : ∀ s1, REL s1 s1 → (∀ a, a < 2 → s1 a = s a) → G 0 140 225 1519 [(3, 1), (3, 2), (3, 120), (1, (i : Int))] [] (140, s1) Q) : G 0 140 225 1401 [(3, 1), (3, 2), (3, 120), (1, (i : Int))] [] (140, s) Q := by
  refine G_go rfl rfl ?_
  refine G_call rfl rfl ?_
  refine G_mono (both_call (tg := 1) (Or.inl ⟨rfl, rfl⟩) (op_judge 140 s s h )) (fun r s1 hk => ?_)
  obtain ⟨x, hr, e1, hk⟩ := hk
  subst hr
  show G 0 140 225 1405 [(3, 1), (3, 2), (3, 120), (1, (i : Int))] [(1, x)] s1 Q
  refine G_go rfl rfl ?_
  refine G_call rfl rfl ?_
  refine G_mono hk (fun r2 s2 hq => ?_)
  obtain ⟨hr, h2, hn, e2⟩ := hq
  subst hr
  obtain ⟨n2, t2⟩ := s2
  have hn : n2 = 140 := hn
  subst hn
  show G 0 140 225 1409 [(3, 1), (3, 2), (3, 120), (1, (i : Int))] [(1, x), (1, x)] (140, t2) Q
  refine G_eq rfl rfl (fun _ => ?_) (fun c => absurd rfl c)
  exact K t2 h2 e2
set_option maxRecDepth 100000 in
theorem lw_42 (s : Nat → Nat → Int) (i : Nat) (hL : s 0 0 ≤ 2560) (hi : (i : Int) + 5 ≤ s 0 0) (h : REL s s) (Q : List Vl → Sto → Prop) (K : ∀ s1, REL s1 s1 → (∀ a, a < 2 → s1 a = s a) → G 0 140 225 1519 [(3, 1), (3, 2), (3, 120), (1, (i : Int))] [] (140, s1) Q) : G 0 140 225 1414 [(3, 1), (3, 2), (3, 120), (1, (i : Int))] [] (140, s) Q := by
  refine G_go rfl rfl ?_
  refine G_call rfl rfl ?_
  refine G_mono (both_call (tg := 1) (Or.inl ⟨rfl, rfl⟩) (op_clear 140 s s h )) (fun r s1 hk => ?_)
  obtain ⟨x, hr, e1, hk⟩ := hk
  subst hr
  show G 0 140 225 1418 [(3, 1), (3, 2), (3, 120), (1, (i : Int))] [(1, x)] s1 Q
  refine G_go rfl rfl ?_
  refine G_call rfl rfl ?_
  refine G_mono hk (fun r2 s2 hq => ?_)
  obtain ⟨hr, h2, hn, e2⟩ := hq
  subst hr
  obtain ⟨n2, t2⟩ := s2
  have hn : n2 = 140 := hn
  subst hn
  show G 0 140 225 1422 [(3, 1), (3, 2), (3, 120), (1, (i : Int))] [(1, x), (1, x)] (140, t2) Q
  refine G_eq rfl rfl (fun _ => ?_) (fun c => absurd rfl c)
  exact K t2 h2 e2
set_option maxRecDepth 100000 in
theorem lw_43 (s : Nat → Nat → Int) (i : Nat) (hL : s 0 0 ≤ 2560) (hi : (i : Int) + 5 ≤ s 0 0) (h : REL s s) (Q : List Vl → Sto → Prop) (K : ∀ s1, REL s1 s1 → (∀ a, a < 2 → s1 a = s a) → G 0 140 225 1519 [(3, 1), (3, 2), (3, 120), (1, (i : Int))] [] (140, s1) Q) : G 0 140 225 1427 [(3, 1), (3, 2), (3, 120), (1, (i : Int))] [] (140, s) Q := by
  have i5 : i + 5 ≤ 2560 := by omega
  have g1 : ((i + 1 : Nat) : Int) < s 0 0 := by omega
  have g2 : ((i + 2 : Nat) : Int) < s 0 0 := by omega
  have g3 : ((i + 3 : Nat) : Int) < s 0 0 := by omega
  have w1 : wr ((i : Int) + 1) = ((i + 1 : Nat) : Int) := wr_i 1 i5 (by decide)
  have w2 : wr ((i : Int) + 2) = ((i + 2 : Nat) : Int) := wr_i 2 i5 (by decide)
  have w3 : wr ((i : Int) + 3) = ((i + 3 : Nat) : Int) := wr_i 3 i5 (by decide)
  refine G_go rfl rfl ?_
  refine G_go rfl rfl ?_
  refine G_go rfl rfl ?_
  refine G_go rfl rfl ?_
  refine G_go rfl rfl ?_
  refine G_scv (j := i + 1) (v := s 1 (i + 1)) rfl (by decide) w1 g1 rfl ?_
  show G 0 140 225 1433 [(3, 1), (3, 2), (3, 120), (1, (i : Int))] [(1, s 1 (i + 1)), (3, 2)] (140, s) Q
  refine G_go rfl rfl ?_
  refine G_go rfl rfl ?_
  refine G_go rfl rfl ?_
  refine G_go rfl rfl ?_
  refine G_scv (j := i + 2) (v := s 1 (i + 2)) rfl (by decide) w2 g2 rfl ?_
  show G 0 140 225 1438 [(3, 1), (3, 2), (3, 120), (1, (i : Int))] [(1, s 1 (i + 2)), (1, s 1 (i + 1)), (3, 2)] (140, s) Q
  refine G_go rfl rfl ?_
  refine G_go rfl rfl ?_
  refine G_go rfl rfl ?_
  refine G_go rfl rfl ?_
  refine G_scv (j := i + 3) (v := s 1 (i + 3)) rfl (by decide) w3 g3 rfl ?_
  show G 0 140 225 1443 [(3, 1), (3, 2), (3, 120), (1, (i : Int))] [(1, s 1 (i + 3)), (1, s 1 (i + 2)), (1, s 1 (i + 1)), (3, 2)] (140, s) Q
  refine G_call rfl rfl ?_
  refine G_mono (both_call (tg := 1) (Or.inl ⟨rfl, rfl⟩) (op_lots 140 s s h (s 1 (i + 1)) (s 1 (i + 2)) (s 1 (i + 3)))) (fun r s1 hk => ?_)
  obtain ⟨x, hr, e1, hk⟩ := hk
  subst hr
  show G 0 140 225 1446 [(3, 1), (3, 2), (3, 120), (1, (i : Int))] [(1, x)] s1 Q
  have e10 : s1.2 0 = s 0 := e1 0 (by decide)
  have e11 : s1.2 1 = s 1 := e1 1 (by decide)
  refine G_go rfl rfl ?_
  refine G_go rfl rfl ?_
  refine G_go rfl rfl ?_
  refine G_go rfl rfl ?_
  refine G_go rfl rfl ?_
  refine G_scv (j := i + 1) (v := s 1 (i + 1)) rfl (by decide) w1 (by rw [e10]; exact g1) (by rw [e11]) ?_
  show G 0 140 225 1452 [(3, 1), (3, 2), (3, 120), (1, (i : Int))] [(1, s 1 (i + 1)), (3, 120), (1, x)] s1 Q
  refine G_go rfl rfl ?_
  refine G_go rfl rfl ?_
  refine G_go rfl rfl ?_
  refine G_go rfl rfl ?_
  refine G_scv (j := i + 2) (v := s 1 (i + 2)) rfl (by decide) w2 (by rw [e10]; exact g2) (by rw [e11]) ?_
  show G 0 140 225 1457 [(3, 1), (3, 2), (3, 120), (1, (i : Int))] [(1, s 1 (i + 2)), (1, s 1 (i + 1)), (3, 120), (1, x)] s1 Q
  refine G_go rfl rfl ?_
  refine G_go rfl rfl ?_
  refine G_go rfl rfl ?_
  refine G_go rfl rfl ?_
  refine G_scv (j := i + 3) (v := s 1 (i + 3)) rfl (by decide) w3 (by rw [e10]; exact g3) (by rw [e11]) ?_
  show G 0 140 225 1462 [(3, 1), (3, 2), (3, 120), (1, (i : Int))] [(1, s 1 (i + 3)), (1, s 1 (i + 2)), (1, s 1 (i + 1)), (3, 120), (1, x)] s1 Q
  refine G_call rfl rfl ?_
  refine G_mono hk (fun r2 s2 hq => ?_)
  obtain ⟨hr, h2, hn, e2⟩ := hq
  subst hr
  obtain ⟨n2, t2⟩ := s2
  have hn : n2 = 140 := hn
  subst hn
  show G 0 140 225 1465 [(3, 1), (3, 2), (3, 120), (1, (i : Int))] [(1, x), (1, x)] (140, t2) Q
  refine G_eq rfl rfl (fun _ => ?_) (fun c => absurd rfl c)
  exact K t2 h2 e2
set_option maxRecDepth 100000 in
theorem lw_44 (s : Nat → Nat → Int) (i : Nat) (hL : s 0 0 ≤ 2560) (hi : (i : Int) + 5 ≤ s 0 0) (h : REL s s) (Q : List Vl → Sto → Prop) (K : ∀ s1, REL s1 s1 → (∀ a, a < 2 → s1 a = s a) → G 0 140 225 1519 [(3, 1), (3, 2), (3, 120), (1, (i : Int))] [] (140, s1) Q) : G 0 140 225 1470 [(3, 1), (3, 2), (3, 120), (1, (i : Int))] [] (140, s) Q := by
  refine G_go rfl rfl ?_
  refine G_call rfl rfl ?_
  refine G_mono (both_call (tg := 1) (Or.inl ⟨rfl, rfl⟩) (op_image 140 s s h )) (fun r s1 hk => ?_)
  obtain ⟨x, hr, e1, hk⟩ := hk
  subst hr
  show G 0 140 225 1474 [(3, 1), (3, 2), (3, 120), (1, (i : Int))] [(1, x)] s1 Q
  refine G_go rfl rfl ?_
  refine G_call rfl rfl ?_
  refine G_mono hk (fun r2 s2 hq => ?_)
  obtain ⟨hr, h2, hn, e2⟩ := hq
  subst hr
  obtain ⟨n2, t2⟩ := s2
  have hn : n2 = 140 := hn
  subst hn
  show G 0 140 225 1478 [(3, 1), (3, 2), (3, 120), (1, (i : Int))] [(1, x), (1, x)] (140, t2) Q
  refine G_eq rfl rfl (fun _ => ?_) (fun c => absurd rfl c)
  exact K t2 h2 e2
set_option maxRecDepth 100000 in
theorem lw_45 (s : Nat → Nat → Int) (i : Nat) (hL : s 0 0 ≤ 2560) (hi : (i : Int) + 5 ≤ s 0 0) (h : REL s s) (Q : List Vl → Sto → Prop) (K : ∀ s1, REL s1 s1 → (∀ a, a < 2 → s1 a = s a) → G 0 140 225 1519 [(3, 1), (3, 2), (3, 120), (1, (i : Int))] [] (140, s1) Q) : G 0 140 225 1483 [(3, 1), (3, 2), (3, 120), (1, (i : Int))] [] (140, s) Q := by
  refine G_go rfl rfl ?_
  refine G_call rfl rfl ?_
  refine G_mono (both_call (tg := 1) (Or.inl ⟨rfl, rfl⟩) (op_restore 140 s s h )) (fun r s1 hk => ?_)
  obtain ⟨x, hr, e1, hk⟩ := hk
  subst hr
  show G 0 140 225 1487 [(3, 1), (3, 2), (3, 120), (1, (i : Int))] [(1, x)] s1 Q
  refine G_go rfl rfl ?_
  refine G_call rfl rfl ?_
  refine G_mono hk (fun r2 s2 hq => ?_)
  obtain ⟨hr, h2, hn, e2⟩ := hq
  subst hr
  obtain ⟨n2, t2⟩ := s2
  have hn : n2 = 140 := hn
  subst hn
  show G 0 140 225 1491 [(3, 1), (3, 2), (3, 120), (1, (i : Int))] [(1, x), (1, x)] (140, t2) Q
  refine G_eq rfl rfl (fun _ => ?_) (fun c => absurd rfl c)
  exact K t2 h2 e2
set_option maxRecDepth 100000 in
theorem lw_46 (s : Nat → Nat → Int) (i : Nat) (hL : s 0 0 ≤ 2560) (hi : (i : Int) + 5 ≤ s 0 0) (h : REL s s) (Q : List Vl → Sto → Prop) (K : ∀ s1, REL s1 s1 → (∀ a, a < 2 → s1 a = s a) → G 0 140 225 1519 [(3, 1), (3, 2), (3, 120), (1, (i : Int))] [] (140, s1) Q) : G 0 140 225 1496 [(3, 1), (3, 2), (3, 120), (1, (i : Int))] [] (140, s) Q := by
  have i5 : i + 5 ≤ 2560 := by omega
  have g1 : ((i + 1 : Nat) : Int) < s 0 0 := by omega
  have w1 : wr ((i : Int) + 1) = ((i + 1 : Nat) : Int) := wr_i 1 i5 (by decide)
  refine G_go rfl rfl ?_
  refine G_go rfl rfl ?_
  refine G_go rfl rfl ?_
  refine G_go rfl rfl ?_
  refine G_go rfl rfl ?_
  refine G_scv (j := i + 1) (v := s 1 (i + 1)) rfl (by decide) w1 g1 rfl ?_
  show G 0 140 225 1502 [(3, 1), (3, 2), (3, 120), (1, (i : Int))] [(1, s 1 (i + 1)), (3, 2)] (140, s) Q
  refine G_call rfl rfl ?_
  refine G_mono (both_call (tg := 1) (Or.inl ⟨rfl, rfl⟩) (op_count 140 s s h (s 1 (i + 1)))) (fun r s1 hk => ?_)
  obtain ⟨x, hr, e1, hk⟩ := hk
  subst hr
  show G 0 140 225 1505 [(3, 1), (3, 2), (3, 120), (1, (i : Int))] [(1, x)] s1 Q
  have e10 : s1.2 0 = s 0 := e1 0 (by decide)
  have e11 : s1.2 1 = s 1 := e1 1 (by decide)
  refine G_go rfl rfl ?_
  refine G_go rfl rfl ?_
  refine G_go rfl rfl ?_
  refine G_go rfl rfl ?_
  refine G_go rfl rfl ?_
  refine G_scv (j := i + 1) (v := s 1 (i + 1)) rfl (by decide) w1 (by rw [e10]; exact g1) (by rw [e11]) ?_
  show G 0 140 225 1511 [(3, 1), (3, 2), (3, 120), (1, (i : Int))] [(1, s 1 (i + 1)), (3, 120), (1, x)] s1 Q
  refine G_call rfl rfl ?_
  refine G_mono hk (fun r2 s2 hq => ?_)
  obtain ⟨hr, h2, hn, e2⟩ := hq
  subst hr
  obtain ⟨n2, t2⟩ := s2
  have hn : n2 = 140 := hn
  subst hn
  show G 0 140 225 1514 [(3, 1), (3, 2), (3, 120), (1, (i : Int))] [(1, x), (1, x)] (140, t2) Q
  refine G_eq rfl rfl (fun _ => ?_) (fun c => absurd rfl c)
  exact K t2 h2 e2

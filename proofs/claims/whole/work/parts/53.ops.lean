theorem sb_X6_town_0 (n : Nat) (s : Nat → Nat → Int) (Q : List Vl → Sto → Prop) (hR : refs s)
    (h : G 2 120 34 0 [(3, 115), (0, 0), (0, 0)] [] (n, s) (fun r s1 => G 2 120 127 7 [(3, 2), (0, 0)] (r ++ []) s1 Q)) :
    G 2 120 127 0 [(3, 2), (0, 0)] [] (n, s) Q := by
  refine G_go rfl rfl ?_
  refine G_rf rfl rfl (by decide) (hR 2 5 115 rfl) ?_
  exact G_call rfl rfl h
theorem sb_X6_town_7 (n : Nat) (s : Nat → Nat → Int) (Q : List Vl → Sto → Prop) (y0 : Int) (hR : refs s)
    (h : (y0 ≠ 0 → (y0 ≤ 0 → Q [(1, y0)] (n, upS s 115 1 0)) ∧ (0 < y0 → G 2 120 7 0 [(3, 3), (3, 13), (0, 0)] [] (n, upS s 115 1 0) (fun r s1 => G 2 120 127 57 [(3, 2), (1, y0)] (r ++ []) s1 Q))) ∧ (y0 = 0 → G 2 120 7 0 [(3, 13), (3, 3), (0, 0)] [] (n, s) (fun r s1 => G 2 120 127 23 [(3, 2), (1, y0)] (r ++ []) s1 Q))) :
    G 2 120 127 7 [(3, 2), (0, 0)] [(1, y0)] (n, s) Q := by
  refine G_go rfl rfl ?_
  show G 2 120 127 8 [(3, 2), (1, y0)] [] (n, s) Q
  refine G_go rfl rfl ?_
  refine G_ne rfl rfl (fun c1 => ?_) (fun c1 => ?_)
  · have h := h.1 c1
    refine G_go rfl rfl ?_
    refine G_rf rfl rfl (by decide) (hR 2 5 115 rfl) ?_
    refine G_call rfl rfl ?_
    refine G_go rfl rfl ?_
    refine G_go rfl rfl ?_
    refine G_wr rfl rfl (by decide) ?_
    have hR := refs_up (a := 115) (k := 1) (x := 0) hR rfl
    refine G_ret rfl rfl ?_
    refine G_go rfl rfl ?_
    refine G_le rfl rfl (fun c2 => ?_) (fun c2 => ?_)
    · have h := h.1 c2
      refine G_go rfl rfl ?_
      exact G_ret rfl rfl h
    · have h := h.2 c2
      refine G_go rfl rfl ?_
      refine G_rf rfl rfl (by decide) (hR 2 0 3 rfl) ?_
      refine G_go rfl rfl ?_
      refine G_rf rfl rfl (by decide) (hR 2 1 13 rfl) ?_
      exact G_call rfl rfl h
  · have h := h.2 c1
    refine G_go rfl rfl ?_
    refine G_rf rfl rfl (by decide) (hR 2 1 13 rfl) ?_
    refine G_go rfl rfl ?_
    refine G_rf rfl rfl (by decide) (hR 2 0 3 rfl) ?_
    exact G_call rfl rfl h
theorem sb_X6_town_23 (n : Nat) (s : Nat → Nat → Int) (Q : List Vl → Sto → Prop) (x1 : Int) (hR : refs s)
    (h : G 2 120 37 0 [(3, 115), (3, 13), (0, 0), (0, 0)] [] (n, s) (fun r s1 => G 2 120 127 34 [(3, 2), (1, x1)] (r ++ []) s1 Q)) :
    G 2 120 127 23 [(3, 2), (1, x1)] [] (n, s) Q := by
  refine G_go rfl rfl ?_
  refine G_rf rfl rfl (by decide) (hR 2 5 115 rfl) ?_
  refine G_go rfl rfl ?_
  refine G_rf rfl rfl (by decide) (hR 2 1 13 rfl) ?_
  exact G_call rfl rfl h
theorem sb_X6_town_34 (n : Nat) (s : Nat → Nat → Int) (Q : List Vl → Sto → Prop) (x1 : Int) (y0 : Int) (hR : refs s)
    (h : (y0 ≤ 0 → Q [(1, y0)] (n, upS s 115 1 0)) ∧ (0 < y0 → G 2 120 7 0 [(3, 3), (3, 13), (0, 0)] [] (n, upS s 115 1 0) (fun r s1 => G 2 120 127 57 [(3, 2), (1, y0)] (r ++ []) s1 Q))) :
    G 2 120 127 34 [(3, 2), (1, x1)] [(1, y0)] (n, s) Q := by
  refine G_go rfl rfl ?_
  show G 2 120 127 35 [(3, 2), (1, y0)] [] (n, s) Q
  refine G_go rfl rfl ?_
  refine G_rf rfl rfl (by decide) (hR 2 5 115 rfl) ?_
  refine G_call rfl rfl ?_
  refine G_go rfl rfl ?_
  refine G_go rfl rfl ?_
  refine G_wr rfl rfl (by decide) ?_
  have hR := refs_up (a := 115) (k := 1) (x := 0) hR rfl
  refine G_ret rfl rfl ?_
  refine G_go rfl rfl ?_
  refine G_le rfl rfl (fun c1 => ?_) (fun c1 => ?_)
  · have h := h.1 c1
    refine G_go rfl rfl ?_
    exact G_ret rfl rfl h
  · have h := h.2 c1
    refine G_go rfl rfl ?_
    refine G_rf rfl rfl (by decide) (hR 2 0 3 rfl) ?_
    refine G_go rfl rfl ?_
    refine G_rf rfl rfl (by decide) (hR 2 1 13 rfl) ?_
    exact G_call rfl rfl h
theorem sb_X6_town_57 (n : Nat) (s : Nat → Nat → Int) (Q : List Vl → Sto → Prop) (x1 : Int) (hR : refs s)
    (h : Q [(1, x1)] (n, upS s 33 2 0)) :
    G 2 120 127 57 [(3, 2), (1, x1)] [] (n, s) Q := by
  refine G_go rfl rfl ?_
  refine G_rf rfl rfl (by decide) (hR 2 4 33 rfl) ?_
  refine G_call rfl rfl ?_
  refine G_go rfl rfl ?_
  refine G_go rfl rfl ?_
  refine G_wr rfl rfl (by decide) ?_
  have hR := refs_up (a := 33) (k := 2) (x := 0) hR rfl
  refine G_ret rfl rfl ?_
  refine G_go rfl rfl ?_
  exact G_ret rfl rfl h
theorem sb_X7_town_0 (n : Nat) (s : Nat → Nat → Int) (Q : List Vl → Sto → Prop) (hR : refs s)
    (h : G 120 140 218 20 [(3, 120), (0, 0)] [] (n, upS (upS (upS (upS s 120 10 0) 120 15 0) 120 16 0) 120 17 0) Q) :
    G 120 140 218 0 [(3, 120), (0, 0)] [] (n, s) Q := by
  refine G_go rfl rfl ?_
  refine G_go rfl rfl ?_
  refine G_wr rfl rfl (by decide) ?_
  have hR := refs_up (a := 120) (k := 10) (x := 0) hR rfl
  refine G_go rfl rfl ?_
  refine G_go rfl rfl ?_
  refine G_wr rfl rfl (by decide) ?_
  have hR := refs_up (a := 120) (k := 15) (x := 0) hR rfl
  refine G_go rfl rfl ?_
  refine G_go rfl rfl ?_
  refine G_wr rfl rfl (by decide) ?_
  have hR := refs_up (a := 120) (k := 16) (x := 0) hR rfl
  refine G_go rfl rfl ?_
  refine G_go rfl rfl ?_
  refine G_wr rfl rfl (by decide) ?_
  have hR := refs_up (a := 120) (k := 17) (x := 0) hR rfl
  exact h
theorem sb_X7_town_20 (n : Nat) (s : Nat → Nat → Int) (Q : List Vl → Sto → Prop) (hR : refs s)
    (h : (s 120 16 ≠ 0 → Q [(1, wr ((-1000) - (s 120 15)))] (n, upS s 120 14 0)) ∧ (s 120 16 = 0 → (s 120 17 = 0 → G 120 140 206 0 [(3, 120), (0, 0), (0, 0)] [] (n, s) (fun r s1 => G 120 140 218 49 [(3, 120), (0, 0)] (r ++ []) s1 Q)) ∧ (s 120 17 ≠ 0 → (s 120 14 ≤ s 120 15 → G 120 140 143 0 [(3, 120)] [] (n, upS s 120 14 0) (fun r s1 => G 120 140 218 77 [(3, 120), (0, 0)] (r ++ []) s1 Q)) ∧ (s 120 15 < s 120 14 → G 120 140 206 0 [(3, 120), (0, 0), (0, 0)] [] (n, s) (fun r s1 => G 120 140 218 49 [(3, 120), (0, 0)] (r ++ []) s1 Q))))) :
    G 120 140 218 20 [(3, 120), (0, 0)] [] (n, s) Q := by
  refine G_go rfl rfl ?_
  refine G_rd rfl rfl (by decide) ?_
  refine G_ne rfl rfl (fun c1 => ?_) (fun c1 => ?_)
  · have h := h.1 c1
    refine G_go rfl rfl ?_
    refine G_go rfl rfl ?_
    refine G_wr rfl rfl (by decide) ?_
    have hR := refs_up (a := 120) (k := 14) (x := 0) hR rfl
    refine G_go rfl rfl ?_
    refine G_rd rfl rfl (by decide) ?_
    refine G_eq rfl rfl (fun hc => absurd (show s 120 16 = 0 from hc) c1) (fun _ => ?_)
    refine G_go rfl rfl ?_
    refine G_go rfl rfl ?_
    refine G_rd rfl rfl (by decide) ?_
    refine G_go rfl rfl ?_
    exact G_ret rfl rfl h
  · have h := h.2 c1
    refine G_go rfl rfl ?_
    refine G_rd rfl rfl (by decide) ?_
    refine G_eq rfl rfl (fun c2 => ?_) (fun c2 => ?_)
    · have h := h.1 c2
      refine G_go rfl rfl ?_
      exact G_call rfl rfl h
    · have h := h.2 c2
      refine G_go rfl rfl ?_
      refine G_rd rfl rfl (by decide) ?_
      refine G_go rfl rfl ?_
      refine G_rd rfl rfl (by decide) ?_
      refine G_ge rfl rfl (fun c3 => ?_) (fun c3 => ?_)
      · have h := h.1 c3
        refine G_go rfl rfl ?_
        refine G_go rfl rfl ?_
        refine G_wr rfl rfl (by decide) ?_
        have hR := refs_up (a := 120) (k := 14) (x := 0) hR rfl
        refine G_go rfl rfl ?_
        refine G_rd rfl rfl (by decide) ?_
        refine G_eq rfl rfl (fun _ => ?_) (fun hc => absurd (show s 120 16 = 0 from c1) (show s 120 16 ≠ 0 from hc))
        refine G_go rfl rfl ?_
        exact G_call rfl rfl h
      · have h := h.2 c3
        refine G_go rfl rfl ?_
        exact G_call rfl rfl h
theorem sb_X7_town_49 (n : Nat) (s : Nat → Nat → Int) (Q : List Vl → Sto → Prop) (hR : refs s)
    (h : G 120 140 218 20 [(3, 120), (0, 0)] [] (n, s) Q) :
    G 120 140 218 49 [(3, 120), (0, 0)] [] (n, s) Q := by
  refine G_go rfl rfl ?_
  exact h
theorem sb_X7_town_77 (n : Nat) (s : Nat → Nat → Int) (Q : List Vl → Sto → Prop) (hR : refs s)
    (h : G 120 140 218 79 [(3, 120), (1, 0)] [] (n, s) Q) :
    G 120 140 218 77 [(3, 120), (0, 0)] [] (n, s) Q := by
  refine G_go rfl rfl ?_
  refine G_go rfl rfl ?_
  show G 120 140 218 79 [(3, 120), (1, 0)] [] (n, s) Q
  exact h
theorem sb_X7_town_79 (n : Nat) (s : Nat → Nat → Int) (Q : List Vl → Sto → Prop) (x1 : Int) (hR : refs s)
    (h : (s 120 17 ≤ x1 → Q [(1, s 120 17)] (n, upS s 120 29 0)) ∧ (x1 < s 120 17 → G 120 140 169 0 [(3, 120), (1, x1), (0, 0), (0, 0), (0, 0)] [] (n, s) (fun r s1 => G 120 140 218 92 [(3, 120), (1, x1)] (r ++ []) s1 Q))) :
    G 120 140 218 79 [(3, 120), (1, x1)] [] (n, s) Q := by
  refine G_go rfl rfl ?_
  refine G_go rfl rfl ?_
  refine G_rd rfl rfl (by decide) ?_
  refine G_ge rfl rfl (fun c1 => ?_) (fun c1 => ?_)
  · have h := h.1 c1
    refine G_go rfl rfl ?_
    refine G_go rfl rfl ?_
    refine G_wr rfl rfl (by decide) ?_
    have hR := refs_up (a := 120) (k := 29) (x := 0) hR rfl
    refine G_go rfl rfl ?_
    refine G_rd rfl rfl (by decide) ?_
    exact G_ret rfl rfl h
  · have h := h.2 c1
    refine G_go rfl rfl ?_
    refine G_go rfl rfl ?_
    exact G_call rfl rfl h
theorem sb_X7_town_92 (n : Nat) (s : Nat → Nat → Int) (Q : List Vl → Sto → Prop) (x1 : Int) (y0 : Int) (hR : refs s)
    (h : (y0 ≠ 0 → G 120 140 218 79 [(3, 120), (1, wr (x1 + 1))] [] (n, s) Q) ∧ (y0 = 0 → G 120 140 140 0 [(3, 120)] [] (n, s) (fun r s1 => G 120 140 218 99 [(3, 120), (1, x1)] (r ++ []) s1 Q))) :
    G 120 140 218 92 [(3, 120), (1, x1)] [(1, y0)] (n, s) Q := by
  refine G_ne rfl rfl (fun c1 => ?_) (fun c1 => ?_)
  · have h := h.1 c1
    refine G_go rfl rfl ?_
    refine G_go rfl rfl ?_
    exact h
  · have h := h.2 c1
    refine G_go rfl rfl ?_
    exact G_call rfl rfl h
theorem sb_X7_town_99 (n : Nat) (s : Nat → Nat → Int) (Q : List Vl → Sto → Prop) (x1 : Int) (hR : refs s)
    (h : (0 ≤ x1 ∧ x1 < 49) ∧ (Q [(1, wr ((-2000) - (s 132 x1.toNat)))] (n, s))) :
    G 120 140 218 99 [(3, 120), (1, x1)] [] (n, s) Q := by
  refine G_go rfl rfl ?_
  refine G_go rfl rfl ?_
  refine G_rf rfl rfl (by decide) (hR 120 18 132 rfl) ?_
  refine G_go rfl rfl ?_
  obtain ⟨g1, h⟩ := h
  refine G_ir (n := 49) rfl rfl (by decide) (by decide) g1 ?_
  refine G_go rfl rfl ?_
  exact G_ret rfl rfl h
/-! TOWN. -/
def frZ (t t1 : Nat → Nat → Int) : Prop := (∀ a, a ≠ 120 → a ≠ 132 → a ≠ 133 → a ≠ 134 → t1 a = t a) ∧ ∀ j, j ≠ 15 → j ≠ 16 → j ≠ 17 → t1 120 j = t 120 j
theorem frZ_rfl {t : Nat → Nat → Int} : frZ t t := ⟨fun _ _ _ _ _ => rfl, fun _ _ _ _ => rfl⟩
theorem tdS_S {c : Nat → Int} {j k p : Nat} {t t1 : Nat → Nat → Int} (h : tdS c j p t) (f : frS k t t1) (hj : j < k) : tdS c j p t1 := by
  obtain ⟨h1, h2, h3, h4, h5⟩ := h
  obtain ⟨-, -, f1, f2⟩ := f
  refine ⟨by rw [(f1 j hj).1]; exact h1, by rw [(f1 j hj).2]; exact h2, by rw [f2 _ (by omega)]; exact h3, fun a b => by rw [f2 _ (by omega)]; exact h4 a b, fun a => by rw [f2 _ (by omega)]; exact h5 a⟩
theorem tdS_X {c : Nat → Int} {j p : Nat} {t t1 : Nat → Nat → Int} (h : tdS c j p t) (f : ∀ a, a = 132 ∨ a = 133 ∨ a = 134 → t1 a = t a) : tdS c j p t1 := by
  obtain ⟨h1, h2, h3, h4, h5⟩ := h
  have f1 := f 132 (by decide)
  have f2 := f 133 (by decide)
  have f3 := f 134 (by decide)
  refine ⟨by rw [f1]; exact h1, by rw [f2]; exact h2, by rw [f3]; exact h3, fun a b => by rw [f3]; exact h4 a b, fun a => by rw [f3]; exact h5 a⟩
theorem tr_stmt (n : Nat) (t : Nat → Nat → Int) (Q : List Vl → Sto → Prop) (hR : refs t) (c : Nat → Int) (L : Nat) (hc : ∀ k, k < L → t 131 k = c k) (hL : t 120 14 = (L : Int)) (hL2 : L ≤ 96) (k p : Nat) (hk : k ≤ 32) (hp : p ≤ L) (hkp : k = 0 ∨ p < L) (hb : t 120 16 = 0) (hq : t 120 15 = (p : Int)) (h17 : t 120 17 = (k : Int))
    (K : ∀ t1, refs t1 → frS k t t1 → t1 120 17 = ((k + 1 : Nat) : Int) → (wfS c L p → t1 120 16 = 0 ∧ t1 120 15 = ((p + dgN c p + 2 : Nat) : Int) ∧ tdS c k p t1) → (∀ e, badS c L p e → t1 120 16 = 1 ∧ t1 120 15 = (e : Int)) → G 120 140 218 20 [(3, 120), (0, 0)] [] (n, t1) Q) : G 120 140 218 20 [(3, 120), (0, 0)] [] (n, t) Q := by
  have a : G 120 140 206 0 [(3, 120), (0, 0), (0, 0)] [] (n, t) (fun r s1 => G 120 140 218 49 [(3, 120), (0, 0)] (r ++ []) s1 Q) :=
    c_rs n t _ hR c L hc hL hL2 k p hk hp hb hq h17 (fun t1 r1 f1 e17 g b => sb_X7_town_49 n t1 Q r1 (K t1 r1 f1 e17 g b))
  exact sb_X7_town_20 n t Q hR ⟨fun e => absurd hb e, fun _ => ⟨fun _ => a, fun e => ⟨fun f => by omega, fun _ => a⟩⟩⟩
theorem tr_run (n : Nat) (t : Nat → Nat → Int) (Q : List Vl → Sto → Prop) (hR : refs t) (c : Nat → Int) (L : Nat) (hc : ∀ k, k < L → t 131 k = c k) (hL : t 120 14 = (L : Int)) (hL2 : L ≤ 96) (hb : t 120 16 = 0) (hq : t 120 15 = 0) (h17 : t 120 17 = 0) : ∀ K, wfN c L K → (∀ t1, refs t1 → frZ t t1 → t1 120 16 = 0 → t1 120 15 = ((stN c K : Nat) : Int) → t1 120 17 = (K : Int) → (∀ j, j < K → tdS c j (stN c j) t1) → G 120 140 218 20 [(3, 120), (0, 0)] [] (n, t1) Q) → G 120 140 218 20 [(3, 120), (0, 0)] [] (n, t) Q
  | 0, _, g => g t hR frZ_rfl hb hq h17 (fun j hj => absurd hj (by omega))
  | K + 1, w, g => by
    refine tr_run n t Q hR c L hc hL hL2 hb hq h17 K (wfN_le w (by omega)) (fun t1 r1 f1 b1 q1 e1 td => ?_)
    have wk := w K (by omega)
    have w3 := wk.2.2.1
    have k32 := st_le (wfN_le w (show K ≤ K + 1 by omega)) hL2
    refine tr_stmt n t1 Q r1 c L (fun k hk => by rw [f1.1 131 (by decide) (by decide) (by decide) (by decide)]; exact hc k hk) (by rw [f1.2 14 (by decide) (by decide) (by decide)]; exact hL) hL2 K (stN c K) k32 (by omega) (Or.inr (by omega)) b1 q1 e1 (fun t2 r2 f2 e2 gd _ => ?_)
    obtain ⟨b2, q2, td2⟩ := gd wk
    refine g t2 r2 ⟨fun a h1 h2 h3 h4 => by rw [f2.1 a h1 h2 h3 h4, f1.1 a h1 h2 h3 h4], fun j h1 h2 h3 => by rw [f2.2.1 j h1 h2 h3, f1.2 j h1 h2 h3]⟩ b2 q2 e2 (fun j hj => ?_)
    by_cases e : j = K
    · subst e
      exact td2
    · exact tdS_S (td j (by omega)) f2 (by omega)
theorem tq_run (n : Nat) (Q : List Vl → Sto → Prop) (c : Nat → Int) (L K : Nat) (np h : Int) (V : Nat → Nat → Int) (T0 : Twn) (u : Nat → Nat → Int) (hL2 : L ≤ 96) (hnp : np ≤ 6) (w : wfN c L K) (e17 : u 120 17 = (K : Int)) (td : ∀ j, j < K → tdS c j (stN c j) u) (k0 : twK 135 0 u np h V)
    (hb : ∀ j T, j < K → exI c T0 j = some T → exQ c j T = none → ∀ t, refs t → frX 130 u t → twR t np h V → Q [(1, -2000 - ((stN c j : Nat) : Int))] (n, t))
    (hg : ∀ T, exI c T0 K = some T → okW T → ∀ t, refs t → frX 130 u t → twR t T.1 T.2.1 T.2.2 → Q [(1, (K : Int))] (n, upS t 120 29 0)) :
    ∀ f k, k + f = K → ∀ t T, refs t → frX 130 u t → twR t T.1 T.2.1 T.2.2 → okW T → exI c T0 k = some T → G 120 140 218 79 [(3, 120), (1, (k : Int))] [] (n, t) Q := by
  intro f
  induction f with
  | zero =>
    intro k hk t T hR f1 ht o e
    have : k = K := by omega
    subst this
    refine sb_X7_town_79 n t Q k hR ?_
    rw [f1.2 17 (by decide) (by decide) (by decide) (by decide) (by decide), e17]
    exact ⟨fun _ => hg T e o t hR f1 ht, fun x => by omega⟩
  | succ f ih =>
    intro k hk t T hR f1 ht o e
    have k32 := st_le w hL2
    refine sb_X7_town_79 n t Q k hR ?_
    rw [f1.2 17 (by decide) (by decide) (by decide) (by decide) (by decide), e17]
    refine ⟨fun x => by omega, fun _ => ?_⟩
    have tdk := tdS_X (td k (by omega)) (fun a ha => f1.1 a (by omega) (by omega) (by omega))
    have st : stN c k < L := by
      have := (w k (by omega)).2.2.1
      omega
    refine c_told n t _ hR c L k (stN c k) T.1 (by omega) T.2.1 T.2.2 (w k (by omega)) o.1 o.2 ht tdk (fun e0 => ?_) (fun T' e1 t1 r1 f2 u1 => ?_)
    · refine sb_X7_town_92 n t Q k 0 hR ⟨fun x => absurd rfl x, fun _ => ?_⟩
      refine c_again n t _ np h V hR hnp (twK_fr k0 (f1.1 135 (by decide) (by decide) (by decide))) (fun t1 r1 f2 u1 => ?_)
      refine sb_X7_town_99 n t1 Q k r1 ⟨by omega, ?_⟩
      rw [Int.toNat_natCast, f2.1 132 (by decide) (by decide) (by decide), tdk.1, wr_id (by omega) (by omega)]
      exact hb k T (by omega) e e0 t1 r1 (frX_trans f1 f2) u1
    · refine sb_X7_town_92 n t1 Q k 1 r1 ⟨fun _ => ?_, fun x => absurd x (by decide)⟩
      rw [wr_s (show k < 96 by omega) (by decide)]
      refine ih (k + 1) (by omega) t1 T' r1 (frX_trans f1 f2) u1 (ok_exQ (w k (by omega)) o e1) ?_
      show (exI c T0 k).bind (exQ c k) = some T'
      rw [e]
      exact e1
theorem ex_dich (c : Nat → Int) (T0 : Twn) : ∀ K, (∃ T, exI c T0 K = some T) ∨ ∃ j T, j < K ∧ exI c T0 j = some T ∧ exQ c j T = none
  | 0 => Or.inl ⟨T0, rfl⟩
  | K + 1 => by
    rcases ex_dich c T0 K with ⟨T, e⟩ | ⟨j, T, h1, h2, h3⟩
    · cases q : exQ c K T with
      | none => exact Or.inr ⟨K, T, by omega, e, q⟩
      | some T' =>
        refine Or.inl ⟨T', ?_⟩
        show (exI c T0 K).bind (exQ c K) = some T'
        rw [e]
        exact q
    · exact Or.inr ⟨j, T, by omega, h2, h3⟩
theorem ex_none {c : Nat → Int} {T0 : Twn} {j : Nat} {T : Twn} (e : exI c T0 j = some T) (q : exQ c j T = none) : ∀ k, j < k → exI c T0 k = none
  | 0, h => absurd h (by omega)
  | k + 1, h => by
    show (exI c T0 k).bind (exQ c k) = none
    by_cases z : j = k
    · subst z
      rw [e]
      exact q
    · rw [ex_none e q k (by omega)]
      rfl
theorem ex_one {c : Nat → Int} {T0 : Twn} {i j : Nat} {T U : Twn} (e : exI c T0 i = some T) (q : exQ c i T = none) (e2 : exI c T0 j = some U) (q2 : exQ c j U = none) : i = j := by
  by_cases h : i < j
  · rw [ex_none e q j h] at e2
    cases e2
  · by_cases h2 : j < i
    · rw [ex_none e2 q2 i h2] at e
      cases e
    · omega
/-- letters forgotten on both sides, a scratch of the reference's written, the rest as it was -/
theorem REL_town {s t s1 t1 : Nat → Nat → Int} (h : REL s t) (r1 : refs s1) (q1 : refs t1) (es : ∀ c, (c < 13 ∨ 23 ≤ c) → c ≠ 115 → s1 c = s c) (e115 : s1 115 1 = 0) (et : ∀ c, 128 < c → c ≠ 130 → c ≠ 132 → c ≠ 133 → c ≠ 134 → c ≠ 135 → t1 c = t c) (ek : ∀ k, k ≠ 0 → k ≠ 9 → k ≠ 10 → k ≠ 14 → k ≠ 15 → k ≠ 16 → k ≠ 17 → k ≠ 24 → k ≠ 25 → k ≠ 26 → t1 120 k = t 120 k) (e14 : t1 120 14 = 0) (w : twR t1 (t 120 0) (t 120 9) (vw 121 t)) : REL s1 t1 := by
  obtain ⟨hn1, hn2, hn3, hn4⟩ := h.np
  have tw : twC 3 s1 (t 120 0) (t 120 9) (vw 121 t) := by
    have c := h.c
    refine ⟨by rw [es 3 (by decide) (by decide)]; exact c.1, by rw [es 3 (by decide) (by decide)]; exact c.2.1, eqV_ext c.2.2 (fun j hj p _ => ?_) (fun _ _ _ _ => rfl)⟩
    unfold vw
    rw [es _ (by omega) (by omega)]
  refine ⟨r1, q1, relN_of h.o hn4 tw w, ?_, ?_, ?_, ?_, ?_⟩
  · exact relI_fr h.i (by rw [es 2 (by decide) (by decide)]) (by rw [es 23 (by decide) (by decide)]) (by rw [es 23 (by decide) (by decide)]) (fun a h1 h2 => es a (by omega) (by omega)) (ek 23 (by decide) (by decide) (by decide) (by decide) (by decide) (by decide) (by decide) (by decide) (by decide) (by decide)) (et 136 (by decide) (by decide) (by decide) (by decide) (by decide) (by decide))
  · exact relH_fr h.h (by rw [es 33 (by decide) (by decide)]) (by rw [es 33 (by decide) (by decide)]) (fun a h1 h2 => es a (by omega) (by omega)) (ek 29 (by decide) (by decide) (by decide) (by decide) (by decide) (by decide) (by decide) (by decide) (by decide) (by decide)) (et 137 (by decide) (by decide) (by decide) (by decide) (by decide) (by decide))
  · exact ⟨by rw [e115, e14], by rw [e115]; decide, fun k hk => by rw [e115] at hk; omega⟩
  · exact relR_fr h.r (by rw [es 117 (by decide) (by decide)]) (es 118 (by decide) (by decide)) (ek 31 (by decide) (by decide) (by decide) (by decide) (by decide) (by decide) (by decide) (by decide) (by decide) (by decide)) (et 139 (by decide) (by decide) (by decide) (by decide) (by decide) (by decide))
  · exact relF_fr h.f (es 119 (by decide) (by decide)) (et 129 (by decide) (by decide) (by decide) (by decide) (by decide) (by decide))
/-- a town has been told: now is new, history forgotten -/
theorem REL_told {s t s1 t1 : Nat → Nat → Int} {np' h' : Int} {U : Nat → Nat → Int} (h : REL s t) (o : okT np' U) (hh : 0 ≤ h' ∧ h' ≤ 999) (r1 : refs s1) (q1 : refs t1) (es : ∀ c, 23 ≤ c → c ≠ 115 → c ≠ 33 → s1 c = s c) (e2 : s1 2 = s 2) (e115 : s1 115 1 = 0) (e33 : s1 33 1 = s 33 1) (e332 : s1 33 2 = 0) (et : ∀ c, 128 < c → c ≠ 130 → c ≠ 132 → c ≠ 133 → c ≠ 134 → c ≠ 135 → t1 c = t c) (ek : ∀ k, k ≠ 0 → k ≠ 9 → k ≠ 10 → k ≠ 14 → k ≠ 15 → k ≠ 16 → k ≠ 17 → k ≠ 24 → k ≠ 25 → k ≠ 26 → k ≠ 29 → t1 120 k = t 120 k) (e14 : t1 120 14 = 0) (e29 : t1 120 29 = 0) (tw : twC 3 s1 np' h' U) (w : twR t1 np' h' U) : REL s1 t1 := by
  refine ⟨r1, q1, relN_of o hh tw w, ?_, ?_, ?_, ?_, ?_⟩
  · exact relI_fr h.i (by rw [e2]) (by rw [es 23 (by decide) (by decide) (by decide)]) (by rw [es 23 (by decide) (by decide) (by decide)]) (fun a h1 h2 => es a (by omega) (by omega) (by omega)) (ek 23 (by decide) (by decide) (by decide) (by decide) (by decide) (by decide) (by decide) (by decide) (by decide) (by decide) (by decide)) (et 136 (by decide) (by decide) (by decide) (by decide) (by decide) (by decide))
  · exact ⟨by rw [e332, e29], by rw [e332]; decide, by rw [e33]; exact h.h.2.2.1, fun j hj => by rw [e332] at hj; omega⟩
  · exact ⟨by rw [e115, e14], by rw [e115]; decide, fun k hk => by rw [e115] at hk; omega⟩
  · exact relR_fr h.r (by rw [es 117 (by decide) (by decide) (by decide)]) (es 118 (by decide) (by decide) (by decide)) (ek 31 (by decide) (by decide) (by decide) (by decide) (by decide) (by decide) (by decide) (by decide) (by decide) (by decide) (by decide)) (et 139 (by decide) (by decide) (by decide) (by decide) (by decide) (by decide))
  · exact relF_fr h.f (es 119 (by decide) (by decide) (by decide)) (et 129 (by decide) (by decide) (by decide) (by decide) (by decide) (by decide))
theorem op_town (n : Nat) (s t : Nat → Nat → Int) (h : REL s t) : G 2 120 127 0 [(3, 2), (0, 0)] [] (n, s) (fun r s1 => G 120 140 218 0 [(3, 120), (0, 0)] [] (n, t) (Post n r s1)) := by
  obtain ⟨hn1, hn2, hn3, hn4⟩ := h.np
  obtain ⟨hl1, hl2, hl3⟩ := h.l
  obtain ⟨L, hL⟩ : ∃ L : Nat, s 115 1 = (L : Int) := ⟨(s 115 1).toNat, by omega⟩
  obtain ⟨m, hm⟩ : ∃ m : Nat, t 120 0 = (m : Int) := ⟨(t 120 0).toNat, by omega⟩
  have hL2 : L ≤ 96 := by omega
  -- the reference as it begins to read
  have t0 : ∀ Q, (∀ u, refs u → (∀ a, a ≠ 120 → u a = t a) → (∀ j, j ≠ 10 → j ≠ 15 → j ≠ 16 → j ≠ 17 → u 120 j = t 120 j) → u 120 16 = 0 → u 120 15 = 0 → u 120 17 = 0 → G 120 140 218 20 [(3, 120), (0, 0)] [] (n, u) Q) → G 120 140 218 0 [(3, 120), (0, 0)] [] (n, t) Q := by
    intro Q k
    refine sb_X7_town_0 n t Q h.2.1 (k _ ?_ (fun a ha => ?_) (fun j h1 h2 h3 h4 => ?_) ?_ ?_ ?_)
    · repeat first | exact h.2.1 | refine refs_up ?_ rfl
    · rw [upS_row ha, upS_row ha, upS_row ha, upS_row ha]
    · rw [upS_2 h4, upS_2 h3, upS_2 h2, upS_2 h1]
    · rw [upS_2 (by decide), upS_eq]
    · rw [upS_2 (by decide), upS_2 (by decide), upS_eq]
    · rw [upS_eq]
  refine sb_X6_town_0 n s _ h.1 ?_
  rcases tw_dich (s 116) L with ⟨K, hK, w, eK⟩ | ⟨K, e, w, hK, b⟩
  · have k32 := st_le w hL2
    refine c_form_ok n s _ h.1 L K hL hL2 hK w eK ?_
    refine sb_X6_town_7 n s _ 0 h.1 ⟨fun x => absurd rfl x, fun _ => ?_⟩
    refine c_mind n s t h _ (fun s1 r1 f1 c1 => ?_)
    refine sb_X6_town_23 n s1 _ 0 r1 ?_
    have e115 : s1 115 = s 115 := f1 115 (by decide)
    have e116 : s1 116 = s 116 := f1 116 (by decide)
    have T0 : okW (m, t 120 9, vw 121 t) := by
      refine ⟨?_, hn4⟩
      have := h.o
      rw [hm] at this
      exact this
    rw [hm] at c1
    -- the reference: all is read
    have rd : ∀ Q, (∀ u, refs u → (∀ a, 128 < a → a ≠ 132 → a ≠ 133 → a ≠ 134 → a ≠ 135 → a ≠ 130 → u a = t a) → (∀ j, j ≠ 0 → j ≠ 9 → j ≠ 10 → j ≠ 14 → j ≠ 15 → j ≠ 16 → j ≠ 17 → j ≠ 24 → j ≠ 25 → j ≠ 26 → u 120 j = t 120 j) → u 120 14 = 0 → u 120 17 = (K : Int) → (∀ j, j < K → tdS (s 116) j (stN (s 116) j) u) → twK 135 0 u (t 120 0) (t 120 9) (vw 121 t) → twR u (t 120 0) (t 120 9) (vw 121 t) → G 120 140 218 79 [(3, 120), (1, 0)] [] (n, u) Q) → G 120 140 218 0 [(3, 120), (0, 0)] [] (n, t) Q := by
      intro Q k
      refine t0 Q (fun u ur ua ub u16 u15 u17 => ?_)
      refine tr_run n u Q ur (s 116) L (fun j hj => by rw [ua 131 (by decide)]; exact (hl3 j (by omega)).1.symm) (by rw [ub 14 (by decide) (by decide) (by decide) (by decide), ← hl1]; exact hL) hL2 u16 u15 u17 K w (fun v vr vf v16 v15 v17 vt => ?_)
      have v14 : v 120 14 = (L : Int) := by rw [vf.2 14 (by decide) (by decide) (by decide), ub 14 (by decide) (by decide) (by decide) (by decide), ← hl1]; exact hL
      refine sb_X7_town_20 n v Q vr ⟨fun x => absurd v16 x, fun _ => ⟨fun x => by omega, fun _ => ⟨fun _ => ?_, fun x => by omega⟩⟩⟩
      have vw0 : twR (upS v 120 14 0) (t 120 0) (t 120 9) (vw 121 t) := by
        refine ⟨?_, ?_, fun j hj p hp => ?_⟩
        · rw [upS_2 (by decide), vf.2 0 (by decide) (by decide) (by decide), ub 0 (by decide) (by decide) (by decide) (by decide)]
        · rw [upS_2 (by decide), vf.2 9 (by decide) (by decide) (by decide), ub 9 (by decide) (by decide) (by decide) (by decide)]
        · rw [upS_row (by omega), vf.1 _ (by omega) (by omega) (by omega) (by omega), ua _ (by omega)]
          rfl
      refine c_think n _ _ (t 120 0) (t 120 9) (vw 121 t) (refs_up vr rfl) hn3.2 vw0 (fun y yr yf yw yk => ?_)
      refine sb_X7_town_77 n y Q yr (k y yr (fun a h1 h2 h3 h4 h5 h6 => ?_) (fun j h0 h1 h2 h3 h4 h5 h6 h7 h8 h9 => ?_) ?_ ?_ (fun j hj => ?_) yk yw)
      · rw [yf.1 a h1 h6 h5, upS_row (by omega), vf.1 a (by omega) h2 h3 h4, ua a (by omega)]
      · rw [yf.2 j h0 h1 h7 h8 h9, upS_2 h3, vf.2 j h4 h5 h6, ub j h2 h4 h5 h6]
      · rw [yf.2 14 (by decide) (by decide) (by decide) (by decide) (by decide), upS_eq]
      · rw [yf.2 17 (by decide) (by decide) (by decide) (by decide) (by decide), upS_2 (by decide), v17]
      · exact tdS_X (vt j hj) (fun a ha => by rw [yf.1 a (by omega) (by omega) (by omega), upS_row (by omega)])
    refine c_tellTo n s1 _ r1 (s 116) e116 L K (m, t 120 9, vw 121 t) (by rw [e115]; exact hL) hL2 hK w eK c1 T0 (fun j T hj ej qj s2 r2 f2 => ?_) (fun T eT oT s2 r2 f2 c2 => ?_)
    · have sj : stN (s 116) j ≤ L := by
        have := (w j hj).2.2.1
        omega
      refine sb_X6_town_34 n s2 _ 0 _ r2 ⟨fun _ => ?_, fun x => by omega⟩
      refine rd _ (fun u ur ua ub u14 u17 ut uk uw => ?_)
      refine tq_run n _ (s 116) L K (t 120 0) (t 120 9) (vw 121 t) (m, t 120 9, vw 121 t) u hL2 hn3.2 w u17 ut uk (fun i T' hi ei qi v vr vf vw' => ?_) (fun T' eT' _ _ _ _ _ => ?_) K 0 (by omega) u (m, t 120 9, vw 121 t) ur frX_rfl (by rw [hm] at uw; exact uw) T0 rfl
      · have := ex_one ej qj ei qi
        subst this
        refine post_rel rfl (REL_town h (refs_up r2 rfl) vr (fun c h1 h2 => ?_) upS_eq (fun c h1 h2 h3 h4 h5 h6 => ?_) (fun k h0 h1 h2 h3 h4 h5 h6 h7 h8 h9 => ?_) ?_ vw')
        · rw [upS_row h2, f2 c (by omega), f1 c (by omega)]
        · rw [vf.1 c h1 h2 h2, ua c h1 h3 h4 h5 h6 h2]
        · rw [vf.2 k h0 h1 h7 h8 h9, ub k h0 h1 h2 h3 h4 h5 h6 h7 h8 h9]
        · rw [vf.2 14 (by decide) (by decide) (by decide) (by decide) (by decide), u14]
      · rw [ex_none ej qj K hj] at eT'
        cases eT'
    · refine sb_X6_town_34 n s2 _ 0 _ r2 ⟨fun x => by omega, fun _ => ?_⟩
      obtain ⟨⟨oa, ob⟩, oh⟩ := oT
      have e139 : s2 13 9 = ((T.1 : Nat) : Int) := c2.1
      refine c_become_3_13 n _ _ (refs_up r2 rfl) (by rw [upS_row (by decide), e139]; exact oa) (fun p hp => ?_) (fun s3 r3 b3 => ?_)
      · rw [upS_row (by decide), e139] at hp
        rw [upS_row (by decide)]
        have q1 : s2 19 p = T.2.2 5 p := (c2.2.2 p hp).2.2.2.2.2.1
        rw [q1]
        exact (ob p hp).2.2.2.2.2.1
      refine sb_X6_town_57 n s3 _ _ r3 ?_
      have c0 : twC 13 (upS s2 115 1 0) T.1 T.2.1 T.2.2 := by
        refine ⟨by rw [upS_row (by decide)]; exact c2.1, by rw [upS_row (by decide)]; exact c2.2.1, eqV_ext c2.2.2 (fun j hj p _ => ?_) (fun _ _ _ _ => rfl)⟩
        unfold vw
        rw [upS_row (by omega)]
      have c3 := bcm_tw c0 b3
      have c4 : twC 3 (upS s3 33 2 0) T.1 T.2.1 T.2.2 := by
        refine ⟨by rw [upS_row (by decide)]; exact c3.1, by rw [upS_row (by decide)]; exact c3.2.1, eqV_ext c3.2.2 (fun j hj p _ => ?_) (fun _ _ _ _ => rfl)⟩
        unfold vw
        rw [upS_row (by omega)]
      have s3e : ∀ c, c < 3 ∨ 13 ≤ c → s3 c = upS s2 115 1 0 c := fun c hc => b3.1 c (by omega)
      refine rd _ (fun u ur ua ub u14 u17 ut uk uw => ?_)
      refine tq_run n _ (s 116) L K (t 120 0) (t 120 9) (vw 121 t) (m, t 120 9, vw 121 t) u hL2 hn3.2 w u17 ut uk (fun i T' hi ei qi v vr vf vw' => ?_) (fun T' eT' oT' v vr vf vw' => ?_) K 0 (by omega) u (m, t 120 9, vw 121 t) ur frX_rfl (by rw [hm] at uw; exact uw) T0 rfl
      · rw [ex_none ei qi K hi] at eT
        cases eT
      · rw [eT] at eT'
        cases eT'
        refine post_rel rfl (REL_told h ⟨oa, ob⟩ oh (refs_up r3 rfl) (refs_up vr rfl) (fun c h1 h2 h3 => ?_) ?_ ?_ ?_ upS_eq (fun c h1 h2 h3 h4 h5 h6 => ?_) (fun k h0 h1 h2 h3 h4 h5 h6 h7 h8 h9 h10 => ?_) ?_ upS_eq c4 ⟨?_, ?_, fun j hj p hp => ?_⟩)
        · rw [upS_row h3, s3e c (by omega), upS_row h2, f2 c (by omega), f1 c (by omega)]
        · rw [upS_row (by decide), s3e 2 (by decide), upS_row (by decide), f2 2 (by decide), f1 2 (by decide)]
        · rw [upS_row (by decide), s3e 115 (by decide), upS_eq]
        · rw [upS_2 (by decide), s3e 33 (by decide), upS_row (by decide), f2 33 (by decide), f1 33 (by decide)]
        · rw [upS_row (by omega), vf.1 c h1 h2 h2, ua c h1 h3 h4 h5 h6 h2]
        · rw [upS_2 h10, vf.2 k h0 h1 h7 h8 h9, ub k h0 h1 h2 h3 h4 h5 h6 h7 h8 h9]
        · rw [upS_2 (by decide), vf.2 14 (by decide) (by decide) (by decide) (by decide) (by decide), u14]
        · rw [upS_2 (by decide)]
          exact vw'.1
        · rw [upS_2 (by decide)]
          exact vw'.2.1
        · rw [upS_row (by omega)]
          exact vw'.2.2 j hj p hp
  · have k32 := st_le w hL2
    have pK : stN (s 116) K ≤ L := by
      rcases hK with rfl | hK
      · exact Nat.zero_le _
      · omega
    have eL : e ≤ L := by
      rcases b with ⟨rfl, _⟩ | ⟨b1, b2, b3⟩
      · exact pK
      · obtain ⟨d1, d2, d3⟩ := dgN_rg b2
        rcases b3 with ⟨j, hj, rfl, hg, _⟩ | ⟨rfl, hg, _⟩
        · by_cases z : j = 0
          · omega
          · have := (hg (j - 1) (by omega)).1
            omega
        · have := (hg (dgN (s 116) (stN (s 116) K) - 1) (by omega)).1
          omega
    refine c_form_bad n s _ h.1 L K e hL hL2 w hK b ?_
    refine sb_X6_town_7 n s _ _ h.1 ⟨fun _ => ⟨fun _ => ?_, fun x => by omega⟩, fun x => by omega⟩
    refine t0 _ (fun u ur ua ub u16 u15 u17 => ?_)
    have uc : ∀ k, k < L → u 131 k = s 116 k := fun j hj => by rw [ua 131 (by decide)]; exact (hl3 j (by omega)).1.symm
    have u14 : u 120 14 = (L : Int) := by rw [ub 14 (by decide) (by decide) (by decide) (by decide), ← hl1]; exact hL
    refine tr_run n u _ ur (s 116) L uc u14 hL2 u16 u15 u17 K w (fun v vr vf v16 v15 v17 vt => ?_)
    refine tr_stmt n v _ vr (s 116) L (fun j hj => by rw [vf.1 131 (by decide) (by decide) (by decide) (by decide)]; exact uc j hj) (by rw [vf.2 14 (by decide) (by decide) (by decide)]; exact u14) hL2 K (stN (s 116) K) k32 pK hK v16 v15 v17 (fun y yr yf _ _ yb => ?_)
    obtain ⟨y16, y15⟩ := yb e b
    refine sb_X7_town_20 n y _ yr ⟨fun _ => ?_, fun x => by omega⟩
    rw [y15, wr_id (by omega) (by omega)]
    refine post_rel rfl (REL_town h (refs_up h.1 rfl) (refs_up yr rfl) (fun c h1 h2 => upS_row h2) upS_eq (fun c h1 h2 h3 h4 h5 h6 => ?_) (fun k h0 h1 h2 h3 h4 h5 h6 h7 h8 h9 => ?_) upS_eq ⟨?_, ?_, fun j hj p hp => ?_⟩)
    · rw [upS_row (by omega), yf.1 c (by omega) h3 h4 h5, vf.1 c (by omega) h3 h4 h5, ua c (by omega)]
    · rw [upS_2 h3, yf.2.1 k h4 h5 h6, vf.2 k h4 h5 h6, ub k h2 h4 h5 h6]
    · rw [upS_2 (by decide), yf.2.1 0 (by decide) (by decide) (by decide), vf.2 0 (by decide) (by decide) (by decide), ub 0 (by decide) (by decide) (by decide) (by decide)]
    · rw [upS_2 (by decide), yf.2.1 9 (by decide) (by decide) (by decide), vf.2 9 (by decide) (by decide) (by decide), ub 9 (by decide) (by decide) (by decide) (by decide)]
    · rw [upS_row (by omega), yf.1 _ (by omega) (by omega) (by omega) (by omega), vf.1 _ (by omega) (by omega) (by omega) (by omega), ua _ (by omega)]
      rfl

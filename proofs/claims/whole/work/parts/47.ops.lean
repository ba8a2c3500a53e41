theorem sb_X2_digitsOf_0 (n : Nat) (s : Nat → Nat → Int) (Q : List Vl → Sto → Prop) (a0 : Int) (hR : refs s)
    (h : (a0 = 99 → Q [(1, 3)] (n, s)) ∧ (a0 = 100 → Q [(1, (-2))] (n, s)) ∧ (a0 = 101 → Q [(1, (-2))] (n, s)) ∧ (a0 = 102 → Q [(1, (-2))] (n, s)) ∧ (a0 = 103 → Q [(1, (-2))] (n, s)) ∧ (a0 = 104 → Q [(1, 3)] (n, s)) ∧ (a0 = 105 → Q [(1, (-2))] (n, s)) ∧ (a0 = 106 → Q [(1, (-2))] (n, s)) ∧ (a0 = 107 → Q [(1, (-2))] (n, s)) ∧ (a0 = 108 → Q [(1, 1)] (n, s)) ∧ (a0 = 109 → Q [(1, (-2))] (n, s)) ∧ (a0 = 110 → Q [(1, 2)] (n, s)) ∧ (a0 = 111 → Q [(1, (-2))] (n, s)) ∧ (a0 = 112 → Q [(1, 4)] (n, s)) ∧ (a0 = 113 → Q [(1, (-2))] (n, s)) ∧ (a0 = 114 → Q [(1, (-2))] (n, s)) ∧ (a0 = 115 → Q [(1, (-2))] (n, s)) ∧ (a0 = 116 → Q [(1, 2)] (n, s)) ∧ (a0 < 99 ∨ 116 < a0 → Q [(1, (-2))] (n, s))) :
    G 2 120 32 0 [(1, a0)] [] (n, s) Q := by
  refine G_go rfl rfl ?_
  by_cases hs1_0 : a0 = 99
  · refine G_k hs1_0 rfl rfl ?_
    have h := h.1 hs1_0
    refine G_go rfl rfl ?_
    exact G_ret rfl rfl h
  replace h := h.2
  by_cases hs1_1 : a0 = 100
  · refine G_k hs1_1 rfl rfl ?_
    have h := h.1 hs1_1
    refine G_go rfl rfl ?_
    exact G_ret rfl rfl h
  replace h := h.2
  by_cases hs1_2 : a0 = 101
  · refine G_k hs1_2 rfl rfl ?_
    have h := h.1 hs1_2
    refine G_go rfl rfl ?_
    exact G_ret rfl rfl h
  replace h := h.2
  by_cases hs1_3 : a0 = 102
  · refine G_k hs1_3 rfl rfl ?_
    have h := h.1 hs1_3
    refine G_go rfl rfl ?_
    exact G_ret rfl rfl h
  replace h := h.2
  by_cases hs1_4 : a0 = 103
  · refine G_k hs1_4 rfl rfl ?_
    have h := h.1 hs1_4
    refine G_go rfl rfl ?_
    exact G_ret rfl rfl h
  replace h := h.2
  by_cases hs1_5 : a0 = 104
  · refine G_k hs1_5 rfl rfl ?_
    have h := h.1 hs1_5
    refine G_go rfl rfl ?_
    exact G_ret rfl rfl h
  replace h := h.2
  by_cases hs1_6 : a0 = 105
  · refine G_k hs1_6 rfl rfl ?_
    have h := h.1 hs1_6
    refine G_go rfl rfl ?_
    exact G_ret rfl rfl h
  replace h := h.2
  by_cases hs1_7 : a0 = 106
  · refine G_k hs1_7 rfl rfl ?_
    have h := h.1 hs1_7
    refine G_go rfl rfl ?_
    exact G_ret rfl rfl h
  replace h := h.2
  by_cases hs1_8 : a0 = 107
  · refine G_k hs1_8 rfl rfl ?_
    have h := h.1 hs1_8
    refine G_go rfl rfl ?_
    exact G_ret rfl rfl h
  replace h := h.2
  by_cases hs1_9 : a0 = 108
  · refine G_k hs1_9 rfl rfl ?_
    have h := h.1 hs1_9
    refine G_go rfl rfl ?_
    exact G_ret rfl rfl h
  replace h := h.2
  by_cases hs1_10 : a0 = 109
  · refine G_k hs1_10 rfl rfl ?_
    have h := h.1 hs1_10
    refine G_go rfl rfl ?_
    exact G_ret rfl rfl h
  replace h := h.2
  by_cases hs1_11 : a0 = 110
  · refine G_k hs1_11 rfl rfl ?_
    have h := h.1 hs1_11
    refine G_go rfl rfl ?_
    exact G_ret rfl rfl h
  replace h := h.2
  by_cases hs1_12 : a0 = 111
  · refine G_k hs1_12 rfl rfl ?_
    have h := h.1 hs1_12
    refine G_go rfl rfl ?_
    exact G_ret rfl rfl h
  replace h := h.2
  by_cases hs1_13 : a0 = 112
  · refine G_k hs1_13 rfl rfl ?_
    have h := h.1 hs1_13
    refine G_go rfl rfl ?_
    exact G_ret rfl rfl h
  replace h := h.2
  by_cases hs1_14 : a0 = 113
  · refine G_k hs1_14 rfl rfl ?_
    have h := h.1 hs1_14
    refine G_go rfl rfl ?_
    exact G_ret rfl rfl h
  replace h := h.2
  by_cases hs1_15 : a0 = 114
  · refine G_k hs1_15 rfl rfl ?_
    have h := h.1 hs1_15
    refine G_go rfl rfl ?_
    exact G_ret rfl rfl h
  replace h := h.2
  by_cases hs1_16 : a0 = 115
  · refine G_k hs1_16 rfl rfl ?_
    have h := h.1 hs1_16
    refine G_go rfl rfl ?_
    exact G_ret rfl rfl h
  replace h := h.2
  by_cases hs1_17 : a0 = 116
  · refine G_k hs1_17 rfl rfl ?_
    have h := h.1 hs1_17
    refine G_go rfl rfl ?_
    exact G_ret rfl rfl h
  replace h := h.2
  have hd1 : a0 < 99 ∨ 116 < a0 := by omega
  refine G_tsd rfl rfl hd1 ?_
  replace h := h hd1
  refine G_go rfl rfl ?_
  exact G_ret rfl rfl h
theorem sb_X2_dueBehind_0 (n : Nat) (s : Nat → Nat → Int) (Q : List Vl → Sto → Prop) (a0 : Int) (a1 : Int) (hR : refs s)
    (h : (a0 ≠ (-1) → (a0 ≠ 0 → (a1 < 48 → Q [(1, (-2))] (n, s)) ∧ (48 ≤ a1 → (57 < a1 → Q [(1, (-2))] (n, s)) ∧ (a1 ≤ 57 → Q [(1, wr (a0 - 1))] (n, s)))) ∧ (a0 = 0 → (a1 ≠ 59 → Q [(1, (-2))] (n, s)) ∧ (a1 = 59 → Q [(1, (-1))] (n, s)))) ∧ (a0 = (-1) → G 2 120 32 0 [(1, a1)] [] (n, s) (fun r s1 => G 2 120 33 9 [(1, a0), (1, a1)] (r ++ []) s1 Q))) :
    G 2 120 33 0 [(1, a0), (1, a1)] [] (n, s) Q := by
  refine G_go rfl rfl ?_
  refine G_go rfl rfl ?_
  refine G_ne rfl rfl (fun c1 => ?_) (fun c1 => ?_)
  · have h := h.1 c1
    refine G_go rfl rfl ?_
    refine G_ne rfl rfl (fun c2 => ?_) (fun c2 => ?_)
    · have h := h.1 c2
      refine G_go rfl rfl ?_
      refine G_go rfl rfl ?_
      refine G_lt rfl rfl (fun c3 => ?_) (fun c3 => ?_)
      · have h := h.1 c3
        refine G_go rfl rfl ?_
        exact G_ret rfl rfl h
      · have h := h.2 c3
        refine G_go rfl rfl ?_
        refine G_go rfl rfl ?_
        refine G_gt rfl rfl (fun c4 => ?_) (fun c4 => ?_)
        · have h := h.1 c4
          refine G_go rfl rfl ?_
          exact G_ret rfl rfl h
        · have h := h.2 c4
          refine G_go rfl rfl ?_
          refine G_go rfl rfl ?_
          refine G_go rfl rfl ?_
          refine G_go rfl rfl ?_
          exact G_ret rfl rfl h
    · have h := h.2 c2
      refine G_go rfl rfl ?_
      refine G_go rfl rfl ?_
      refine G_ne rfl rfl (fun c5 => ?_) (fun c5 => ?_)
      · have h := h.1 c5
        refine G_go rfl rfl ?_
        exact G_ret rfl rfl h
      · have h := h.2 c5
        refine G_go rfl rfl ?_
        refine G_go rfl rfl ?_
        exact G_ret rfl rfl h
  · have h := h.2 c1
    refine G_go rfl rfl ?_
    exact G_call rfl rfl h
theorem sb_X2_dueBehind_9 (n : Nat) (s : Nat → Nat → Int) (Q : List Vl → Sto → Prop) (x0 : Int) (x1 : Int) (y0 : Int) (hR : refs s)
    (h : Q [(1, y0)] (n, s)) :
    G 2 120 33 9 [(1, x0), (1, x1)] [(1, y0)] (n, s) Q := by
  exact G_ret rfl rfl h
theorem sb_X2_faultOfForm_0 (n : Nat) (s : Nat → Nat → Int) (Q : List Vl → Sto → Prop) (hR : refs s)
    (h : G 2 120 34 4 [(3, 115), (1, (-1)), (1, 0)] [] (n, s) Q) :
    G 2 120 34 0 [(3, 115), (0, 0), (0, 0)] [] (n, s) Q := by
  refine G_go rfl rfl ?_
  refine G_go rfl rfl ?_
  show G 2 120 34 2 [(3, 115), (1, (-1)), (0, 0)] [] (n, s) Q
  refine G_go rfl rfl ?_
  refine G_go rfl rfl ?_
  show G 2 120 34 4 [(3, 115), (1, (-1)), (1, 0)] [] (n, s) Q
  exact h
theorem sb_X2_faultOfForm_4 (n : Nat) (s : Nat → Nat → Int) (Q : List Vl → Sto → Prop) (x1 : Int) (x2 : Int) (hR : refs s)
    (h : (s 115 1 ≤ x2 → (s 115 1 = 0 → Q [(1, wr ((-1000) - (s 115 1)))] (n, s)) ∧ (s 115 1 ≠ 0 → (x1 = (-1) → Q [(1, 0)] (n, s)) ∧ (x1 ≠ (-1) → Q [(1, wr ((-1000) - (s 115 1)))] (n, s)))) ∧ (x2 < s 115 1 → (0 ≤ x2 ∧ x2 < 96) ∧ (G 2 120 33 0 [(1, x1), (1, s 116 x2.toNat)] [] (n, s) (fun r s1 => G 2 120 34 22 [(3, 115), (1, x1), (1, x2)] (r ++ []) s1 Q)))) :
    G 2 120 34 4 [(3, 115), (1, x1), (1, x2)] [] (n, s) Q := by
  refine G_go rfl rfl ?_
  refine G_go rfl rfl ?_
  refine G_rd rfl rfl (by decide) ?_
  refine G_ge rfl rfl (fun c1 => ?_) (fun c1 => ?_)
  · have h := h.1 c1
    refine G_go rfl rfl ?_
    refine G_rd rfl rfl (by decide) ?_
    refine G_eq rfl rfl (fun c2 => ?_) (fun c2 => ?_)
    · have h := h.1 c2
      refine G_go rfl rfl ?_
      refine G_go rfl rfl ?_
      refine G_rd rfl rfl (by decide) ?_
      refine G_go rfl rfl ?_
      refine G_go rfl rfl ?_
      exact G_ret rfl rfl h
    · have h := h.2 c2
      refine G_go rfl rfl ?_
      refine G_go rfl rfl ?_
      refine G_eq rfl rfl (fun c3 => ?_) (fun c3 => ?_)
      · have h := h.1 c3
        refine G_go rfl rfl ?_
        exact G_ret rfl rfl h
      · have h := h.2 c3
        refine G_go rfl rfl ?_
        refine G_go rfl rfl ?_
        refine G_rd rfl rfl (by decide) ?_
        refine G_go rfl rfl ?_
        refine G_go rfl rfl ?_
        exact G_ret rfl rfl h
  · have h := h.2 c1
    refine G_go rfl rfl ?_
    refine G_go rfl rfl ?_
    refine G_rf rfl rfl (by decide) (hR 115 0 116 rfl) ?_
    refine G_go rfl rfl ?_
    obtain ⟨g4, h⟩ := h
    refine G_ir (n := 96) rfl rfl (by decide) (by decide) g4 ?_
    exact G_call rfl rfl h
theorem sb_X2_faultOfForm_22 (n : Nat) (s : Nat → Nat → Int) (Q : List Vl → Sto → Prop) (x1 : Int) (x2 : Int) (y0 : Int) (hR : refs s)
    (h : (y0 ≠ (-2) → G 2 120 34 4 [(3, 115), (1, y0), (1, wr (x2 + 1))] [] (n, s) Q) ∧ (y0 = (-2) → Q [(1, wr ((-1000) - x2))] (n, s))) :
    G 2 120 34 22 [(3, 115), (1, x1), (1, x2)] [(1, y0)] (n, s) Q := by
  refine G_go rfl rfl ?_
  show G 2 120 34 23 [(3, 115), (1, y0), (1, x2)] [] (n, s) Q
  refine G_go rfl rfl ?_
  refine G_go rfl rfl ?_
  refine G_ne rfl rfl (fun c1 => ?_) (fun c1 => ?_)
  · have h := h.1 c1
    refine G_go rfl rfl ?_
    refine G_go rfl rfl ?_
    exact h
  · have h := h.2 c1
    refine G_go rfl rfl ?_
    refine G_go rfl rfl ?_
    refine G_go rfl rfl ?_
    exact G_ret rfl rfl h
/-! TOWNS TOLD IN LETTERS. -/
def dgO (a : Int) : Int := if a = 112 then 4 else if a = 104 ∨ a = 99 then 3 else if a = 116 ∨ a = 110 then 2 else if a = 108 then 1 else -2
theorem dgO_rg (a : Int) : dgO a = -2 ∨ (1 ≤ dgO a ∧ dgO a ≤ 4) := by
  unfold dgO
  repeat' split
  all_goals omega
def goodD (c : Nat → Int) (L q : Nat) : Prop := q < L ∧ 48 ≤ c q ∧ c q ≤ 57
def dgN (c : Nat → Int) (p : Nat) : Nat := (dgO (c p)).toNat
def wfS (c : Nat → Int) (L p : Nat) : Prop := 1 ≤ dgO (c p) ∧ (∀ i, i < dgN c p → goodD c L (p + 1 + i)) ∧ p + 1 + dgN c p < L ∧ c (p + 1 + dgN c p) = 59
def badS (c : Nat → Int) (L p e : Nat) : Prop := (e = p ∧ (L ≤ p ∨ dgO (c p) = -2)) ∨ (p < L ∧ 1 ≤ dgO (c p) ∧ ((∃ j, j < dgN c p ∧ e = p + 1 + j ∧ (∀ i, i < j → goodD c L (p + 1 + i)) ∧ ¬ goodD c L e) ∨ (e = p + 1 + dgN c p ∧ (∀ i, i < dgN c p → goodD c L (p + 1 + i)) ∧ ¬ (e < L ∧ c e = 59))))
theorem st_dich (c : Nat → Int) (L p : Nat) : wfS c L p ∨ ∃ e, badS c L p e := by
  by_cases h : p < L
  · rcases dgO_rg (c p) with d | d
    · exact Or.inr ⟨p, Or.inl ⟨rfl, Or.inr d⟩⟩
    · have least : ∀ m, (∀ i, i < m → goodD c L (p + 1 + i)) ∨ ∃ j, j < m ∧ (∀ i, i < j → goodD c L (p + 1 + i)) ∧ ¬ goodD c L (p + 1 + j) := fun m => by
        induction m with
        | zero => exact Or.inl (fun i hi => absurd hi (by omega))
        | succ m ih =>
          rcases ih with ih | ⟨j, h1, h2, h3⟩
          · by_cases g : goodD c L (p + 1 + m)
            · refine Or.inl (fun i hi => ?_)
              by_cases e : i = m
              · rw [e]
                exact g
              · exact ih i (by omega)
            · exact Or.inr ⟨m, by omega, ih, g⟩
          · exact Or.inr ⟨j, by omega, h2, h3⟩
      rcases least (dgN c p) with g | ⟨j, h1, h2, h3⟩
      · by_cases f : p + 1 + dgN c p < L ∧ c (p + 1 + dgN c p) = 59
        · exact Or.inl ⟨d.1, g, f.1, f.2⟩
        · exact Or.inr ⟨_, Or.inr ⟨h, d.1, Or.inr ⟨rfl, g, f⟩⟩⟩
      · exact Or.inr ⟨_, Or.inr ⟨h, d.1, Or.inl ⟨j, h1, rfl, h2, h3⟩⟩⟩
  · exact Or.inr ⟨p, Or.inl ⟨rfl, Or.inl (by omega)⟩⟩
def stN (c : Nat → Int) : Nat → Nat
  | 0 => 0
  | k + 1 => stN c k + dgN c (stN c k) + 2
def wfN (c : Nat → Int) (L K : Nat) : Prop := ∀ k, k < K → wfS c L (stN c k)
theorem tw_dich (c : Nat → Int) (L : Nat) : (∃ K, 1 ≤ K ∧ wfN c L K ∧ stN c K = L) ∨ (∃ K e, wfN c L K ∧ (K = 0 ∨ stN c K < L) ∧ badS c L (stN c K) e) := by
  have loop : ∀ f K, L ≤ stN c K + f → wfN c L K → (K = 0 ∨ stN c K < L) → ((∃ K, 1 ≤ K ∧ wfN c L K ∧ stN c K = L) ∨ (∃ K e, wfN c L K ∧ (K = 0 ∨ stN c K < L) ∧ badS c L (stN c K) e)) := by
    intro f
    induction f with
    | zero =>
      intro K h1 h2 h3
      rcases st_dich c L (stN c K) with w | ⟨e, b⟩
      · have := w.2.2.1
        omega
      · exact Or.inr ⟨K, e, h2, h3, b⟩
    | succ f ih =>
      intro K h1 h2 h3
      rcases st_dich c L (stN c K) with w | ⟨e, b⟩
      · have g := w.2.2.1
        have es : stN c (K + 1) = stN c K + dgN c (stN c K) + 2 := rfl
        have wf : wfN c L (K + 1) := fun k hk => by
          by_cases e : k = K
          · rw [e]
            exact w
          · exact h2 k (by omega)
        by_cases e : stN c (K + 1) = L
        · exact Or.inl ⟨K + 1, by omega, wf, e⟩
        · exact ih (K + 1) (by omega) wf (Or.inr (by omega))
      · exact Or.inr ⟨K, e, h2, h3, b⟩
  exact loop L 0 (by omega) (fun k hk => absurd hk (by omega)) (Or.inl rfl)
theorem dgN_rg {c : Nat → Int} {p : Nat} (h : 1 ≤ dgO (c p)) : 1 ≤ dgN c p ∧ dgN c p ≤ 4 ∧ ((dgN c p : Nat) : Int) = dgO (c p) := by
  have := dgO_rg (c p)
  unfold dgN
  omega
theorem stN_ge {c : Nat → Int} {L : Nat} : ∀ K, wfN c L K → 3 * K ≤ stN c K ∧ (1 ≤ K → stN c K ≤ L)
  | 0, _ => ⟨by omega, fun h => absurd h (by omega)⟩
  | K + 1, h => by
    have ih := stN_ge K (fun k hk => h k (by omega))
    have w := h K (by omega)
    have d := dgN_rg w.1
    have es : stN c (K + 1) = stN c K + dgN c (stN c K) + 2 := rfl
    have := w.2.2.1
    exact ⟨by omega, fun _ => by omega⟩
theorem c_digitsOf (n : Nat) (s : Nat → Nat → Int) (Q : List Vl → Sto → Prop) (a : Int) (hR : refs s) (hq : Q [(1, dgO a)] (n, s)) : G 2 120 32 0 [(1, a)] [] (n, s) Q := by
  refine sb_X2_digitsOf_0 n s Q a hR ?_
  repeat' first | with_reducible refine And.intro ?_ ?_ | intro _
  all_goals refine Qe hq ?_
  all_goals unfold dgO
  all_goals repeat' split
  all_goals omega
def dbV (x a : Int) : Int := if x = -1 then dgO a else if x = 0 then (if a = 59 then -1 else -2) else if 48 ≤ a ∧ a ≤ 57 then x - 1 else -2
theorem c_dueBehind (n : Nat) (s : Nat → Nat → Int) (Q : List Vl → Sto → Prop) (x a : Int) (hR : refs s) (hx : -1 ≤ x ∧ x ≤ 4) (hq : Q [(1, dbV x a)] (n, s)) : G 2 120 33 0 [(1, x), (1, a)] [] (n, s) Q := by
  unfold dbV at hq
  refine sb_X2_dueBehind_0 n s Q x a hR ⟨fun e => ⟨fun f => ⟨fun g => ?_, fun g => ⟨fun k => ?_, fun k => ?_⟩⟩, fun f => ⟨fun g => ?_, fun g => ?_⟩⟩, fun e => ?_⟩
  · rw [if_neg e, if_neg f, if_neg (by omega)] at hq
    exact hq
  · rw [if_neg e, if_neg f, if_neg (by omega)] at hq
    exact hq
  · rw [if_neg e, if_neg f, if_pos ⟨g, k⟩] at hq
    rw [wr_id (x := x - 1) (by omega) (by omega)]
    exact hq
  · rw [if_neg e, if_pos f, if_neg g] at hq
    exact hq
  · rw [if_neg e, if_pos f, if_pos g] at hq
    exact hq
  · rw [if_pos e] at hq
    refine c_digitsOf n s _ a hR ?_
    exact sb_X2_dueBehind_9 n s Q x a _ hR hq
theorem ff_step (n : Nat) (s : Nat → Nat → Int) (Q : List Vl → Sto → Prop) (hR : refs s) (L q : Nat) (hL : s 115 1 = (L : Int)) (hL2 : L ≤ 96) (hq : q < L) (x : Int) (hx : -1 ≤ x ∧ x ≤ 4) (h1 : dbV x (s 116 q) = -2 → Q [(1, -1000 - (q : Int))] (n, s)) (h2 : dbV x (s 116 q) ≠ -2 → G 2 120 34 4 [(3, 115), (1, dbV x (s 116 q)), (1, ((q + 1 : Nat) : Int))] [] (n, s) Q) : G 2 120 34 4 [(3, 115), (1, x), (1, (q : Int))] [] (n, s) Q := by
  refine sb_X2_faultOfForm_4 n s Q x q hR ⟨fun e => by omega, fun _ => ⟨by omega, ?_⟩⟩
  rw [Int.toNat_natCast]
  refine c_dueBehind n s _ x _ hR hx ?_
  refine sb_X2_faultOfForm_22 n s Q x q _ hR ⟨fun c => ?_, fun c => ?_⟩
  · rw [wr_s (show q < 96 by omega) (by omega)]
    exact h2 c
  · rw [wr_id (x := -1000 - (q : Int)) (by omega) (by omega)]
    exact h1 c
theorem ff_digs (n : Nat) (s : Nat → Nat → Int) (Q : List Vl → Sto → Prop) (hR : refs s) (L : Nat) (hL : s 115 1 = (L : Int)) (hL2 : L ≤ 96) (d q : Nat) (hd : d ≤ 4) : ∀ j, j ≤ d → (∀ i, i < j → goodD (s 116) L (q + i)) → G 2 120 34 4 [(3, 115), (1, ((d - j : Nat) : Int)), (1, ((q + j : Nat) : Int))] [] (n, s) Q → G 2 120 34 4 [(3, 115), (1, (d : Int)), (1, (q : Int))] [] (n, s) Q
  | 0, _, _, g => g
  | j + 1, hj, hg, g => by
    refine ff_digs n s Q hR L hL hL2 d q hd j (by omega) (fun i hi => hg i (by omega)) ?_
    obtain ⟨g1, g2, g3⟩ := hg j (by omega)
    have e : dbV ((d - j : Nat) : Int) (s 116 (q + j)) = ((d - (j + 1) : Nat) : Int) := by
      unfold dbV
      rw [if_neg (by omega), if_neg (by omega), if_pos ⟨g2, g3⟩]
      omega
    refine ff_step n s Q hR L (q + j) hL hL2 g1 _ (by omega) (fun c => ?_) (fun _ => ?_)
    · rw [e] at c
      omega
    · rw [e]
      exact g
theorem ff_good (n : Nat) (s : Nat → Nat → Int) (Q : List Vl → Sto → Prop) (hR : refs s) (L p : Nat) (hL : s 115 1 = (L : Int)) (hL2 : L ≤ 96) (w : wfS (s 116) L p) (g : G 2 120 34 4 [(3, 115), (1, (-1)), (1, ((p + dgN (s 116) p + 2 : Nat) : Int))] [] (n, s) Q) : G 2 120 34 4 [(3, 115), (1, (-1)), (1, (p : Int))] [] (n, s) Q := by
  obtain ⟨w1, w2, w3, w4⟩ := w
  obtain ⟨d1, d2, d3⟩ := dgN_rg w1
  have e : dbV (-1) (s 116 p) = ((dgN (s 116) p : Nat) : Int) := by
    unfold dbV
    rw [if_pos rfl, d3]
  refine ff_step n s Q hR L p hL hL2 (by omega) _ (by decide) (fun c => ?_) (fun _ => ?_)
  · rw [e] at c
    omega
  · rw [e]
    refine ff_digs n s Q hR L hL hL2 _ (p + 1) d2 (dgN (s 116) p) (Nat.le_refl _) w2 ?_
    rw [Nat.sub_self]
    have e2 : dbV ((0 : Nat) : Int) (s 116 (p + 1 + dgN (s 116) p)) = -1 := by
      unfold dbV
      rw [if_neg (by decide), if_pos (show ((0 : Nat) : Int) = 0 from rfl), if_pos w4]
    refine ff_step n s Q hR L (p + 1 + dgN (s 116) p) hL hL2 w3 _ (by decide) (fun c => ?_) (fun _ => ?_)
    · rw [e2] at c
      exact absurd c (by decide)
    · rw [e2, show p + 1 + dgN (s 116) p + 1 = p + dgN (s 116) p + 2 by omega]
      exact g
theorem ff_end (n : Nat) (s : Nat → Nat → Int) (Q : List Vl → Sto → Prop) (hR : refs s) (L : Nat) (hL : s 115 1 = (L : Int)) (hL2 : L ≤ 96) (x : Int) (h : L = 0 ∨ x ≠ -1) (q : Q [(1, -1000 - (L : Int))] (n, s)) : G 2 120 34 4 [(3, 115), (1, x), (1, (L : Int))] [] (n, s) Q := by
  refine sb_X2_faultOfForm_4 n s Q x L hR ⟨fun _ => ?_, fun e => by omega⟩
  rw [hL, wr_id (x := -1000 - (L : Int)) (by omega) (by omega)]
  exact ⟨fun _ => q, fun e => ⟨fun f => absurd f (by omega), fun _ => q⟩⟩
theorem ff_bad (n : Nat) (s : Nat → Nat → Int) (Q : List Vl → Sto → Prop) (hR : refs s) (L p e : Nat) (hL : s 115 1 = (L : Int)) (hL2 : L ≤ 96) (hp : p < L ∨ (p = 0 ∧ L = 0)) (b : badS (s 116) L p e) (q : Q [(1, -1000 - (e : Int))] (n, s)) : G 2 120 34 4 [(3, 115), (1, (-1)), (1, (p : Int))] [] (n, s) Q := by
  rcases b with ⟨rfl, b⟩ | ⟨h, d, b⟩
  · by_cases h : e < L
    · have e2 : dbV (-1) (s 116 e) = -2 := by
        unfold dbV
        rw [if_pos rfl]
        rcases b with b | b
        · omega
        · exact b
      exact ff_step n s Q hR L e hL hL2 h _ (by decide) (fun _ => q) (fun c => absurd e2 c)
    · have e0 : e = L := by omega
      rw [e0] at q ⊢
      exact ff_end n s Q hR L hL hL2 _ (by omega) q
  · obtain ⟨d1, d2, d3⟩ := dgN_rg d
    have e1 : dbV (-1) (s 116 p) = ((dgN (s 116) p : Nat) : Int) := by
      unfold dbV
      rw [if_pos rfl, d3]
    refine ff_step n s Q hR L p hL hL2 h _ (by decide) (fun c => ?_) (fun _ => ?_)
    · rw [e1] at c
      omega
    · rw [e1]
      rcases b with ⟨j, hj, rfl, hg, hb⟩ | ⟨rfl, hg, hb⟩
      · refine ff_digs n s Q hR L hL hL2 _ (p + 1) d2 j (by omega) hg ?_
        by_cases h2 : p + 1 + j < L
        · have e2 : dbV ((dgN (s 116) p - j : Nat) : Int) (s 116 (p + 1 + j)) = -2 := by
            unfold dbV
            rw [if_neg (by omega), if_neg (by omega), if_neg]
            intro f
            exact hb ⟨h2, f.1, f.2⟩
          exact ff_step n s Q hR L (p + 1 + j) hL hL2 h2 _ (by omega) (fun _ => q) (fun c => absurd e2 c)
        · have e0 : p + 1 + j = L := by
            by_cases z : j = 0
            · omega
            · have := (hg (j - 1) (by omega)).1
              omega
          rw [e0] at q ⊢
          exact ff_end n s Q hR L hL hL2 _ (Or.inr (by omega)) q
      · refine ff_digs n s Q hR L hL hL2 _ (p + 1) d2 (dgN (s 116) p) (Nat.le_refl _) hg ?_
        rw [Nat.sub_self]
        by_cases h2 : p + 1 + dgN (s 116) p < L
        · have e2 : dbV ((0 : Nat) : Int) (s 116 (p + 1 + dgN (s 116) p)) = -2 := by
            unfold dbV
            rw [if_neg (by decide), if_pos (show ((0 : Nat) : Int) = 0 from rfl), if_neg]
            intro f
            exact hb ⟨h2, f⟩
          exact ff_step n s Q hR L (p + 1 + dgN (s 116) p) hL hL2 h2 _ (by decide) (fun _ => q) (fun c => absurd e2 c)
        · have e0 : p + 1 + dgN (s 116) p = L := by
            have := (hg (dgN (s 116) p - 1) (by omega)).1
            omega
          rw [e0] at q ⊢
          exact ff_end n s Q hR L hL hL2 _ (Or.inr (by decide)) q
theorem ff_run (n : Nat) (s : Nat → Nat → Int) (Q : List Vl → Sto → Prop) (hR : refs s) (L : Nat) (hL : s 115 1 = (L : Int)) (hL2 : L ≤ 96) : ∀ K, wfN (s 116) L K → G 2 120 34 4 [(3, 115), (1, (-1)), (1, ((stN (s 116) K : Nat) : Int))] [] (n, s) Q → G 2 120 34 4 [(3, 115), (1, (-1)), (1, 0)] [] (n, s) Q
  | 0, _, g => g
  | K + 1, h, g => ff_run n s Q hR L hL hL2 K (fun k hk => h k (by omega)) (ff_good n s Q hR L _ hL hL2 (h K (by omega)) g)
theorem c_form_ok (n : Nat) (s : Nat → Nat → Int) (Q : List Vl → Sto → Prop) (hR : refs s) (L K : Nat) (hL : s 115 1 = (L : Int)) (hL2 : L ≤ 96) (hK : 1 ≤ K) (w : wfN (s 116) L K) (e : stN (s 116) K = L) (q : Q [(1, 0)] (n, s)) : G 2 120 34 0 [(3, 115), (0, 0), (0, 0)] [] (n, s) Q := by
  refine sb_X2_faultOfForm_0 n s Q hR (ff_run n s Q hR L hL hL2 K w ?_)
  have := (stN_ge K w).1
  rw [e]
  refine sb_X2_faultOfForm_4 n s Q _ L hR ⟨fun _ => ⟨fun f => by omega, fun _ => ⟨fun _ => q, fun f => absurd rfl f⟩⟩, fun f => by omega⟩
theorem c_form_bad (n : Nat) (s : Nat → Nat → Int) (Q : List Vl → Sto → Prop) (hR : refs s) (L K e : Nat) (hL : s 115 1 = (L : Int)) (hL2 : L ≤ 96) (w : wfN (s 116) L K) (hK : K = 0 ∨ stN (s 116) K < L) (b : badS (s 116) L (stN (s 116) K) e) (q : Q [(1, -1000 - (e : Int))] (n, s)) : G 2 120 34 0 [(3, 115), (0, 0), (0, 0)] [] (n, s) Q := by
  refine sb_X2_faultOfForm_0 n s Q hR (ff_run n s Q hR L hL hL2 K w ?_)
  refine ff_bad n s Q hR L _ e hL hL2 ?_ b q
  rcases hK with rfl | h
  · have : stN (s 116) 0 = 0 := rfl
    omega
  · exact Or.inl h

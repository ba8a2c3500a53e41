/-! NUMBERS, AND THE LEAVES: wealth, burns, honest, lasts. -/
theorem wr_id {x : Int} (h1 : -2147483648 ≤ x) (h2 : x < 2147483648) : wr x = x := bm32 h1 h2
theorem ofInt_id {x : Int} (h1 : -2147483648 ≤ x) (h2 : x < 2147483648) : (Int32.ofInt x).toInt = x := by
  rw [Int32.toInt_ofInt]
  exact bm32 h1 h2
theorem xdiv_nn {a b : Int} (h1 : 0 ≤ a) (h2 : a < 2147483648) (h3 : 0 < b) (h4 : b < 2147483648) : xdiv a b = a / b := by
  unfold xdiv iB
  rw [Int32.toInt_div, ofInt_id (by omega) h2, ofInt_id (by omega) h4, Int.tdiv_eq_ediv_of_nonneg h1]
  have g1 : 0 ≤ a / b := Int.ediv_nonneg h1 (by omega)
  have g2 : a / b ≤ a := Int.ediv_le_self b h1
  exact bm32 (by omega) (by omega)
theorem xrem_nn {a b : Int} (h1 : 0 ≤ a) (h2 : a < 2147483648) (h3 : 0 < b) (h4 : b < 2147483648) : xrem a b = a % b := by
  have hq : (Int32.ofInt a / Int32.ofInt b).toInt = a / b := xdiv_nn h1 h2 h3 h4
  have g1 : 0 ≤ a / b := Int.ediv_nonneg h1 (by omega)
  have g2 : a / b ≤ a := Int.ediv_le_self b h1
  have g3 := Int.emod_nonneg a (show b ≠ 0 by omega)
  have g4 : b * (a / b) + a % b = a := Int.mul_ediv_add_emod a b
  have g6 : a / b * b = a - a % b := by rw [Int.mul_comm]; omega
  have g5 : a % b ≤ a := by
    have : 0 ≤ b * (a / b) := Int.mul_nonneg (by omega) g1
    omega
  unfold xrem iB
  rw [Int32.toInt_sub, Int32.toInt_mul, hq, ofInt_id (by omega) h2, ofInt_id (by omega) h4, g6, show Int.bmod (a - a % b) (2 ^ 32) = a - a % b from bm32 (by omega) (by omega)]
  rw [show a - (a - a % b) = a % b by omega]
  exact bm32 (by omega) (by omega)
def wlt (k f h d : Int) : Int := if k = 1 then h + d + 10 else if k = 2 then (if (h + d) / 2 > f then (h + d) / 2 - f else 0) else if k = 3 then h + d + d else if k = 4 then h + d + 10 - h / 2 else if k = 5 then f else h + d
def bns (k w : Int) : Int := if k = 1 ∨ k = 4 then 2 + w / 10 else if k = 3 then 1 + w / 5 else if k = 5 then 1 else 1 + w / 10
def hon (k f : Int) : Int := if k = 1 ∨ k = 4 ∨ k = 5 then 1 else if k = 3 then 0 else if 4 ≤ f then 1 else 0
def lst (c b : Int) : Int := (c + b - 1) / b
theorem wlt_rg {k f h d : Int} (g1 : 0 ≤ f ∧ f ≤ 9) (g2 : 0 ≤ h ∧ h ≤ 2000) (g3 : 0 ≤ d ∧ d ≤ 200) : 0 ≤ wlt k f h d ∧ wlt k f h d ≤ 9999 := by
  unfold wlt
  repeat' split
  all_goals omega
theorem bns_rg {k w : Int} (g : 0 ≤ w ∧ w ≤ 9999) : 1 ≤ bns k w ∧ bns k w ≤ 2001 := by
  unfold bns
  repeat' split
  all_goals omega
theorem hon_01 (k f : Int) : hon k f = 0 ∨ hon k f = 1 := by
  unfold hon
  repeat' split
  all_goals omega
theorem lst_rg {c b : Int} (g : 0 ≤ c ∧ c ≤ 99) (h : 1 ≤ b) : 0 ≤ lst c b ∧ lst c b ≤ 99 := by
  unfold lst
  have h1 : (c + b - 1) / b * b ≤ c + b - 1 := Int.ediv_mul_le _ (by omega)
  refine ⟨Int.ediv_nonneg (by omega) (by omega), ?_⟩
  have h2 : (c + b - 1) / b < 100 := by
    apply Int.ediv_lt_of_lt_mul (by omega)
    have : 99 * b ≥ 99 := by omega
    have : 100 * b = 99 * b + b := by omega
    omega
  omega
theorem Qe {Q : List Vl → Sto → Prop} {s : Sto} {t : Nat} {a b : Int} (h : Q [(t, b)] s) (e : a = b) : Q [(t, a)] s := e ▸ h
/-- eight rows from an address on: kind, figure, holds, hides, candle, lit, pages, cousin -/
def vw (β : Nat) (s : Nat → Nat → Int) : Nat → Nat → Int := fun k p => s (β + k) p
/-- what one burns who has c coins -/
def bnV (V : Nat → Nat → Int) (p : Nat) (c : Int) : Int := bns (V 0 p) (wlt (V 0 p) (V 1 p) c (V 3 p))
def lsV (V : Nat → Nat → Int) (p : Nat) (c : Int) : Int := lst (V 4 p) (bnV V p c)
def wlW (V : Nat → Nat → Int) (p : Nat) : Int := wlt (V 0 p) (V 1 p) (V 2 p) (V 3 p)
def bnW (V : Nat → Nat → Int) (p : Nat) : Int := bnV V p (V 2 p)
def hnW (V : Nat → Nat → Int) (p : Nat) : Int := hon (V 0 p) (V 1 p)
def lsW (V : Nat → Nat → Int) (p : Nat) : Int := lsV V p (V 2 p)
def rgP (V : Nat → Nat → Int) (p : Nat) : Prop := (0 ≤ V 1 p ∧ V 1 p ≤ 9) ∧ (0 ≤ V 3 p ∧ V 3 p ≤ 200)
theorem bnV_rg {V : Nat → Nat → Int} {p : Nat} {c : Int} (h : rgP V p) (hc : 0 ≤ c ∧ c ≤ 2000) : 1 ≤ bnV V p c ∧ bnV V p c ≤ 2001 := bns_rg (wlt_rg h.1 hc h.2)
theorem lsV_rg {V : Nat → Nat → Int} {p : Nat} {c : Int} (h : rgP V p) (hc : 0 ≤ c ∧ c ≤ 2000) (h4 : 0 ≤ V 4 p ∧ V 4 p ≤ 99) : 0 ≤ lsV V p c ∧ lsV V p c ≤ 99 := lst_rg h4 (bnV_rg h hc).1
theorem sb_X1_wealth_0 (n : Nat) (s : Nat → Nat → Int) (Q : List Vl → Sto → Prop) (a0 : Int) (a1 : Int) (a2 : Int) (a3 : Int) (hR : refs s)
    (h : (a0 = 1 → Q [(1, wr ((wr (a2 + a3)) + 10))] (n, s)) ∧ (a0 = 2 → (xdiv (wr (a2 + a3)) 2 ≤ a1 → Q [(1, 0)] (n, s)) ∧ (a1 < xdiv (wr (a2 + a3)) 2 → Q [(1, wr ((xdiv (wr (a2 + a3)) 2) - a1))] (n, s))) ∧ (a0 = 3 → Q [(1, wr (a2 + (wr (2 * a3))))] (n, s)) ∧ (a0 = 4 → Q [(1, wr ((wr ((wr (a2 + a3)) + 10)) - (xdiv a2 2)))] (n, s)) ∧ (a0 = 5 → Q [(1, a1)] (n, s)) ∧ (a0 < 1 ∨ 5 < a0 → Q [(1, wr (a2 + a3))] (n, s))) :
    G 2 120 3 0 [(1, a0), (1, a1), (1, a2), (1, a3), (0, 0)] [] (n, s) Q := by
  refine G_go rfl rfl ?_
  refine G_go rfl rfl ?_
  refine G_go rfl rfl ?_
  refine G_go rfl rfl ?_
  refine G_go rfl rfl ?_
  by_cases hs6_0 : a0 = 1
  · refine G_k hs6_0 rfl rfl ?_
    have h := h.1 hs6_0
    refine G_go rfl rfl ?_
    refine G_go rfl rfl ?_
    refine G_go rfl rfl ?_
    exact G_ret rfl rfl h
  replace h := h.2
  by_cases hs6_1 : a0 = 2
  · refine G_k hs6_1 rfl rfl ?_
    have h := h.1 hs6_1
    refine G_go rfl rfl ?_
    refine G_go rfl rfl ?_
    refine G_go rfl rfl ?_
    refine G_go rfl rfl ?_
    refine G_le rfl rfl (fun c1 => ?_) (fun c1 => ?_)
    · have h := h.1 c1
      refine G_go rfl rfl ?_
      exact G_ret rfl rfl h
    · have h := h.2 c1
      refine G_go rfl rfl ?_
      refine G_go rfl rfl ?_
      refine G_go rfl rfl ?_
      refine G_go rfl rfl ?_
      refine G_go rfl rfl ?_
      refine G_go rfl rfl ?_
      exact G_ret rfl rfl h
  replace h := h.2
  by_cases hs6_2 : a0 = 3
  · refine G_k hs6_2 rfl rfl ?_
    have h := h.1 hs6_2
    refine G_go rfl rfl ?_
    refine G_go rfl rfl ?_
    refine G_go rfl rfl ?_
    refine G_go rfl rfl ?_
    refine G_go rfl rfl ?_
    exact G_ret rfl rfl h
  replace h := h.2
  by_cases hs6_3 : a0 = 4
  · refine G_k hs6_3 rfl rfl ?_
    have h := h.1 hs6_3
    refine G_go rfl rfl ?_
    refine G_go rfl rfl ?_
    refine G_go rfl rfl ?_
    refine G_go rfl rfl ?_
    refine G_go rfl rfl ?_
    refine G_go rfl rfl ?_
    refine G_go rfl rfl ?_
    exact G_ret rfl rfl h
  replace h := h.2
  by_cases hs6_4 : a0 = 5
  · refine G_k hs6_4 rfl rfl ?_
    have h := h.1 hs6_4
    refine G_go rfl rfl ?_
    exact G_ret rfl rfl h
  replace h := h.2
  have hd6 : a0 < 1 ∨ 5 < a0 := by omega
  refine G_tsd rfl rfl hd6 ?_
  replace h := h hd6
  refine G_go rfl rfl ?_
  exact G_ret rfl rfl h
theorem sb_X1_burns_0 (n : Nat) (s : Nat → Nat → Int) (Q : List Vl → Sto → Prop) (a0 : Int) (a1 : Int) (hR : refs s)
    (h : (a0 = 1 → Q [(1, wr (2 + (xdiv a1 10)))] (n, s)) ∧ (a0 = 2 → Q [(1, wr (1 + (xdiv a1 10)))] (n, s)) ∧ (a0 = 3 → Q [(1, wr (1 + (xdiv a1 5)))] (n, s)) ∧ (a0 = 4 → Q [(1, wr (2 + (xdiv a1 10)))] (n, s)) ∧ (a0 = 5 → Q [(1, 1)] (n, s)) ∧ (a0 < 1 ∨ 5 < a0 → Q [(1, wr (1 + (xdiv a1 10)))] (n, s))) :
    G 2 120 1 0 [(1, a0), (1, a1)] [] (n, s) Q := by
  refine G_go rfl rfl ?_
  by_cases hs1_0 : a0 = 1
  · refine G_k hs1_0 rfl rfl ?_
    have h := h.1 hs1_0
    refine G_go rfl rfl ?_
    refine G_go rfl rfl ?_
    refine G_go rfl rfl ?_
    refine G_go rfl rfl ?_
    refine G_go rfl rfl ?_
    exact G_ret rfl rfl h
  replace h := h.2
  by_cases hs1_1 : a0 = 2
  · refine G_k hs1_1 rfl rfl ?_
    have h := h.1 hs1_1
    refine G_go rfl rfl ?_
    refine G_go rfl rfl ?_
    refine G_go rfl rfl ?_
    refine G_go rfl rfl ?_
    refine G_go rfl rfl ?_
    exact G_ret rfl rfl h
  replace h := h.2
  by_cases hs1_2 : a0 = 3
  · refine G_k hs1_2 rfl rfl ?_
    have h := h.1 hs1_2
    refine G_go rfl rfl ?_
    refine G_go rfl rfl ?_
    refine G_go rfl rfl ?_
    refine G_go rfl rfl ?_
    refine G_go rfl rfl ?_
    exact G_ret rfl rfl h
  replace h := h.2
  by_cases hs1_3 : a0 = 4
  · refine G_k hs1_3 rfl rfl ?_
    have h := h.1 hs1_3
    refine G_go rfl rfl ?_
    refine G_go rfl rfl ?_
    refine G_go rfl rfl ?_
    refine G_go rfl rfl ?_
    refine G_go rfl rfl ?_
    exact G_ret rfl rfl h
  replace h := h.2
  by_cases hs1_4 : a0 = 5
  · refine G_k hs1_4 rfl rfl ?_
    have h := h.1 hs1_4
    refine G_go rfl rfl ?_
    exact G_ret rfl rfl h
  replace h := h.2
  have hd1 : a0 < 1 ∨ 5 < a0 := by omega
  refine G_tsd rfl rfl hd1 ?_
  replace h := h hd1
  refine G_go rfl rfl ?_
  refine G_go rfl rfl ?_
  refine G_go rfl rfl ?_
  refine G_go rfl rfl ?_
  refine G_go rfl rfl ?_
  exact G_ret rfl rfl h
theorem sb_X1_honest_0 (n : Nat) (s : Nat → Nat → Int) (Q : List Vl → Sto → Prop) (a0 : Int) (a1 : Int) (hR : refs s)
    (h : (a0 = 1 → Q [(1, 1)] (n, s)) ∧ (a0 = 2 → (a1 < 4 → Q [(1, 0)] (n, s)) ∧ (4 ≤ a1 → Q [(1, 1)] (n, s))) ∧ (a0 = 3 → Q [(1, 0)] (n, s)) ∧ (a0 = 4 → Q [(1, 1)] (n, s)) ∧ (a0 = 5 → Q [(1, 1)] (n, s)) ∧ (a0 < 1 ∨ 5 < a0 → (a1 < 4 → Q [(1, 0)] (n, s)) ∧ (4 ≤ a1 → Q [(1, 1)] (n, s)))) :
    G 2 120 2 0 [(1, a0), (1, a1)] [] (n, s) Q := by
  refine G_go rfl rfl ?_
  by_cases hs1_0 : a0 = 1
  · refine G_k hs1_0 rfl rfl ?_
    have h := h.1 hs1_0
    refine G_go rfl rfl ?_
    exact G_ret rfl rfl h
  replace h := h.2
  by_cases hs1_1 : a0 = 2
  · refine G_k hs1_1 rfl rfl ?_
    have h := h.1 hs1_1
    refine G_go rfl rfl ?_
    refine G_go rfl rfl ?_
    refine G_lt rfl rfl (fun c1 => ?_) (fun c1 => ?_)
    · have h := h.1 c1
      refine G_go rfl rfl ?_
      exact G_ret rfl rfl h
    · have h := h.2 c1
      refine G_go rfl rfl ?_
      refine G_go rfl rfl ?_
      exact G_ret rfl rfl h
  replace h := h.2
  by_cases hs1_2 : a0 = 3
  · refine G_k hs1_2 rfl rfl ?_
    have h := h.1 hs1_2
    refine G_go rfl rfl ?_
    exact G_ret rfl rfl h
  replace h := h.2
  by_cases hs1_3 : a0 = 4
  · refine G_k hs1_3 rfl rfl ?_
    have h := h.1 hs1_3
    refine G_go rfl rfl ?_
    exact G_ret rfl rfl h
  replace h := h.2
  by_cases hs1_4 : a0 = 5
  · refine G_k hs1_4 rfl rfl ?_
    have h := h.1 hs1_4
    refine G_go rfl rfl ?_
    exact G_ret rfl rfl h
  replace h := h.2
  have hd1 : a0 < 1 ∨ 5 < a0 := by omega
  refine G_tsd rfl rfl hd1 ?_
  replace h := h hd1
  refine G_go rfl rfl ?_
  refine G_go rfl rfl ?_
  refine G_lt rfl rfl (fun c2 => ?_) (fun c2 => ?_)
  · have h := h.1 c2
    refine G_go rfl rfl ?_
    exact G_ret rfl rfl h
  · have h := h.2 c2
    refine G_go rfl rfl ?_
    refine G_go rfl rfl ?_
    exact G_ret rfl rfl h
theorem c_X1_wealth (n : Nat) (s : Nat → Nat → Int) (Q : List Vl → Sto → Prop) (k f h d : Int) (hR : refs s) (g1 : 0 ≤ f ∧ f ≤ 9) (g2 : 0 ≤ h ∧ h ≤ 2000) (g3 : 0 ≤ d ∧ d ≤ 200) (hq : Q [(1, wlt k f h d)] (n, s)) : G 2 120 3 0 [(1, k), (1, f), (1, h), (1, d), (0, 0)] [] (n, s) Q := by
  refine sb_X1_wealth_0 n s Q k f h d hR ⟨fun e => ?_, fun e => ⟨fun e2 => ?_, fun e2 => ?_⟩, fun e => ?_, fun e => ?_, fun e => ?_, fun e => ?_⟩
  all_goals refine Qe hq ?_
  all_goals try simp (disch := omega) only [wr_id, xdiv_nn] at e2
  all_goals try simp (disch := omega) only [wr_id, xdiv_nn]
  all_goals unfold wlt
  all_goals repeat' split
  all_goals omega
theorem c_X1_burns (n : Nat) (s : Nat → Nat → Int) (Q : List Vl → Sto → Prop) (k w : Int) (hR : refs s) (g : 0 ≤ w ∧ w ≤ 9999) (hq : Q [(1, bns k w)] (n, s)) : G 2 120 1 0 [(1, k), (1, w)] [] (n, s) Q := by
  refine sb_X1_burns_0 n s Q k w hR ⟨fun e => ?_, fun e => ?_, fun e => ?_, fun e => ?_, fun e => ?_, fun e => ?_⟩
  all_goals refine Qe hq ?_
  all_goals try simp (disch := omega) only [wr_id, xdiv_nn]
  all_goals unfold bns
  all_goals repeat' split
  all_goals omega
theorem c_X1_honest (n : Nat) (s : Nat → Nat → Int) (Q : List Vl → Sto → Prop) (k f : Int) (hR : refs s) (hq : Q [(1, hon k f)] (n, s)) : G 2 120 2 0 [(1, k), (1, f)] [] (n, s) Q := by
  refine sb_X1_honest_0 n s Q k f hR ⟨fun e => ?_, fun e => ⟨fun e2 => ?_, fun e2 => ?_⟩, fun e => ?_, fun e => ?_, fun e => ?_, fun e => ⟨fun e2 => ?_, fun e2 => ?_⟩⟩
  all_goals refine Qe hq ?_
  all_goals unfold hon
  all_goals repeat' split
  all_goals omega
theorem sb_X5_burnsHolding_0_3 (n : Nat) (s : Nat → Nat → Int) (Q : List Vl → Sto → Prop) (a0 : Int) (a1 : Int) (hR : refs s)
    (h : (0 ≤ a0 ∧ a0 < 6) ∧ ((0 ≤ s 5 a0.toNat ∧ s 5 a0.toNat ≤ 9) ∧ ((0 ≤ a1 ∧ a1 ≤ 2000) ∧ ((0 ≤ s 7 a0.toNat ∧ s 7 a0.toNat ≤ 200) ∧ ((0 ≤ wlt (s 4 a0.toNat) (s 5 a0.toNat) a1 (s 7 a0.toNat) ∧ wlt (s 4 a0.toNat) (s 5 a0.toNat) a1 (s 7 a0.toNat) ≤ 9999) ∧ (Q [(1, bns (s 4 a0.toNat) (wlt (s 4 a0.toNat) (s 5 a0.toNat) a1 (s 7 a0.toNat)))] (n, s))))))) :
    G 2 120 26 0 [(3, 3), (1, a0), (1, a1)] [] (n, s) Q := by
  refine G_go rfl rfl ?_
  refine G_rf rfl rfl (by decide) (hR 3 0 4 rfl) ?_
  refine G_go rfl rfl ?_
  obtain ⟨g1, h⟩ := h
  refine G_ir (n := 6) rfl rfl (by decide) (by decide) g1 ?_
  refine G_go rfl rfl ?_
  refine G_rf rfl rfl (by decide) (hR 3 0 4 rfl) ?_
  refine G_go rfl rfl ?_
  refine G_ir (n := 6) rfl rfl (by decide) (by decide) g1 ?_
  refine G_go rfl rfl ?_
  refine G_rf rfl rfl (by decide) (hR 3 1 5 rfl) ?_
  refine G_go rfl rfl ?_
  refine G_ir (n := 6) rfl rfl (by decide) (by decide) g1 ?_
  refine G_go rfl rfl ?_
  refine G_go rfl rfl ?_
  refine G_rf rfl rfl (by decide) (hR 3 3 7 rfl) ?_
  refine G_go rfl rfl ?_
  refine G_ir (n := 6) rfl rfl (by decide) (by decide) g1 ?_
  refine G_call rfl rfl ?_
  obtain ⟨g2, h⟩ := h
  obtain ⟨g3, h⟩ := h
  obtain ⟨g4, h⟩ := h
  refine c_X1_wealth n _ _ (s 4 a0.toNat) (s 5 a0.toNat) a1 (s 7 a0.toNat) hR g2 g3 g4 ?_
  refine G_call rfl rfl ?_
  obtain ⟨g5, h⟩ := h
  refine c_X1_burns n _ _ (s 4 a0.toNat) (wlt (s 4 a0.toNat) (s 5 a0.toNat) a1 (s 7 a0.toNat)) hR g5 ?_
  exact G_ret rfl rfl h
theorem c_X5_burnsHolding_3 (n : Nat) (s : Nat → Nat → Int) (Q : List Vl → Sto → Prop) (i c : Int) (hR : refs s) (g1 : 0 ≤ i ∧ i < 6) (g2 : rgP (vw 4 s) i.toNat) (g3 : 0 ≤ c ∧ c ≤ 2000) (hq : Q [(1, bnV (vw 4 s) i.toNat c)] (n, s)) : G 2 120 26 0 [(3, 3), (1, i), (1, c)] [] (n, s) Q :=
  sb_X5_burnsHolding_0_3 n s Q i c hR ⟨g1, g2.1, g3, g2.2, wlt_rg g2.1 g3 g2.2, hq⟩
theorem sb_X5_burnsHolding_0_13 (n : Nat) (s : Nat → Nat → Int) (Q : List Vl → Sto → Prop) (a0 : Int) (a1 : Int) (hR : refs s)
    (h : (0 ≤ a0 ∧ a0 < 6) ∧ ((0 ≤ s 15 a0.toNat ∧ s 15 a0.toNat ≤ 9) ∧ ((0 ≤ a1 ∧ a1 ≤ 2000) ∧ ((0 ≤ s 17 a0.toNat ∧ s 17 a0.toNat ≤ 200) ∧ ((0 ≤ wlt (s 14 a0.toNat) (s 15 a0.toNat) a1 (s 17 a0.toNat) ∧ wlt (s 14 a0.toNat) (s 15 a0.toNat) a1 (s 17 a0.toNat) ≤ 9999) ∧ (Q [(1, bns (s 14 a0.toNat) (wlt (s 14 a0.toNat) (s 15 a0.toNat) a1 (s 17 a0.toNat)))] (n, s))))))) :
    G 2 120 26 0 [(3, 13), (1, a0), (1, a1)] [] (n, s) Q := by
  refine G_go rfl rfl ?_
  refine G_rf rfl rfl (by decide) (hR 13 0 14 rfl) ?_
  refine G_go rfl rfl ?_
  obtain ⟨g1, h⟩ := h
  refine G_ir (n := 6) rfl rfl (by decide) (by decide) g1 ?_
  refine G_go rfl rfl ?_
  refine G_rf rfl rfl (by decide) (hR 13 0 14 rfl) ?_
  refine G_go rfl rfl ?_
  refine G_ir (n := 6) rfl rfl (by decide) (by decide) g1 ?_
  refine G_go rfl rfl ?_
  refine G_rf rfl rfl (by decide) (hR 13 1 15 rfl) ?_
  refine G_go rfl rfl ?_
  refine G_ir (n := 6) rfl rfl (by decide) (by decide) g1 ?_
  refine G_go rfl rfl ?_
  refine G_go rfl rfl ?_
  refine G_rf rfl rfl (by decide) (hR 13 3 17 rfl) ?_
  refine G_go rfl rfl ?_
  refine G_ir (n := 6) rfl rfl (by decide) (by decide) g1 ?_
  refine G_call rfl rfl ?_
  obtain ⟨g2, h⟩ := h
  obtain ⟨g3, h⟩ := h
  obtain ⟨g4, h⟩ := h
  refine c_X1_wealth n _ _ (s 14 a0.toNat) (s 15 a0.toNat) a1 (s 17 a0.toNat) hR g2 g3 g4 ?_
  refine G_call rfl rfl ?_
  obtain ⟨g5, h⟩ := h
  refine c_X1_burns n _ _ (s 14 a0.toNat) (wlt (s 14 a0.toNat) (s 15 a0.toNat) a1 (s 17 a0.toNat)) hR g5 ?_
  exact G_ret rfl rfl h
theorem c_X5_burnsHolding_13 (n : Nat) (s : Nat → Nat → Int) (Q : List Vl → Sto → Prop) (i c : Int) (hR : refs s) (g1 : 0 ≤ i ∧ i < 6) (g2 : rgP (vw 14 s) i.toNat) (g3 : 0 ≤ c ∧ c ≤ 2000) (hq : Q [(1, bnV (vw 14 s) i.toNat c)] (n, s)) : G 2 120 26 0 [(3, 13), (1, i), (1, c)] [] (n, s) Q :=
  sb_X5_burnsHolding_0_13 n s Q i c hR ⟨g1, g2.1, g3, g2.2, wlt_rg g2.1 g3 g2.2, hq⟩
theorem sb_X5_lastsHolding_0_3 (n : Nat) (s : Nat → Nat → Int) (Q : List Vl → Sto → Prop) (a0 : Int) (a1 : Int) (hR : refs s)
    (h : (0 ≤ a0 ∧ a0 < 6) ∧ ((rgP (vw 4 s) a0.toNat) ∧ ((0 ≤ a1 ∧ a1 ≤ 2000) ∧ ((1 ≤ bnV (vw 4 s) a0.toNat a1 → (bnV (vw 4 s) a0.toNat a1 ≠ 0) ∧ (Q [(1, min 99 (xdiv (wr ((wr ((s 8 a0.toNat) + (bnV (vw 4 s) a0.toNat a1))) - 1)) (bnV (vw 4 s) a0.toNat a1)))] (n, s))) ∧ (bnV (vw 4 s) a0.toNat a1 < 1 → Q [(1, 99)] (n, s)))))) :
    G 2 120 53 0 [(3, 3), (1, a0), (1, a1), (0, 0)] [] (n, s) Q := by
  refine G_go rfl rfl ?_
  refine G_go rfl rfl ?_
  refine G_go rfl rfl ?_
  refine G_call rfl rfl ?_
  obtain ⟨g1, h⟩ := h
  obtain ⟨g2, h⟩ := h
  obtain ⟨g3, h⟩ := h
  refine c_X5_burnsHolding_3 n _ _ a0 a1 hR g1 g2 g3 ?_
  refine G_go rfl rfl ?_
  refine G_go rfl rfl ?_
  refine G_go rfl rfl ?_
  refine G_ge rfl rfl (fun c4 => ?_) (fun c4 => ?_)
  · have h := h.1 c4
    refine G_go rfl rfl ?_
    refine G_go rfl rfl ?_
    refine G_rf rfl rfl (by decide) (hR 3 4 8 rfl) ?_
    refine G_go rfl rfl ?_
    refine G_ir (n := 6) rfl rfl (by decide) (by decide) g1 ?_
    refine G_go rfl rfl ?_
    refine G_go rfl rfl ?_
    refine G_go rfl rfl ?_
    refine G_go rfl rfl ?_
    refine G_go rfl rfl ?_
    obtain ⟨g5, h⟩ := h
    refine G_idiv rfl g5 ?_
    refine G_min rfl rfl ?_
    exact G_ret rfl rfl h
  · have h := h.2 c4
    refine G_go rfl rfl ?_
    exact G_ret rfl rfl h
theorem sb_X5_lastsHolding_0_13 (n : Nat) (s : Nat → Nat → Int) (Q : List Vl → Sto → Prop) (a0 : Int) (a1 : Int) (hR : refs s)
    (h : (0 ≤ a0 ∧ a0 < 6) ∧ ((rgP (vw 14 s) a0.toNat) ∧ ((0 ≤ a1 ∧ a1 ≤ 2000) ∧ ((1 ≤ bnV (vw 14 s) a0.toNat a1 → (bnV (vw 14 s) a0.toNat a1 ≠ 0) ∧ (Q [(1, min 99 (xdiv (wr ((wr ((s 18 a0.toNat) + (bnV (vw 14 s) a0.toNat a1))) - 1)) (bnV (vw 14 s) a0.toNat a1)))] (n, s))) ∧ (bnV (vw 14 s) a0.toNat a1 < 1 → Q [(1, 99)] (n, s)))))) :
    G 2 120 53 0 [(3, 13), (1, a0), (1, a1), (0, 0)] [] (n, s) Q := by
  refine G_go rfl rfl ?_
  refine G_go rfl rfl ?_
  refine G_go rfl rfl ?_
  refine G_call rfl rfl ?_
  obtain ⟨g1, h⟩ := h
  obtain ⟨g2, h⟩ := h
  obtain ⟨g3, h⟩ := h
  refine c_X5_burnsHolding_13 n _ _ a0 a1 hR g1 g2 g3 ?_
  refine G_go rfl rfl ?_
  refine G_go rfl rfl ?_
  refine G_go rfl rfl ?_
  refine G_ge rfl rfl (fun c4 => ?_) (fun c4 => ?_)
  · have h := h.1 c4
    refine G_go rfl rfl ?_
    refine G_go rfl rfl ?_
    refine G_rf rfl rfl (by decide) (hR 13 4 18 rfl) ?_
    refine G_go rfl rfl ?_
    refine G_ir (n := 6) rfl rfl (by decide) (by decide) g1 ?_
    refine G_go rfl rfl ?_
    refine G_go rfl rfl ?_
    refine G_go rfl rfl ?_
    refine G_go rfl rfl ?_
    refine G_go rfl rfl ?_
    obtain ⟨g5, h⟩ := h
    refine G_idiv rfl g5 ?_
    refine G_min rfl rfl ?_
    exact G_ret rfl rfl h
  · have h := h.2 c4
    refine G_go rfl rfl ?_
    exact G_ret rfl rfl h
theorem lst_eq {c b : Int} (g : 0 ≤ c ∧ c ≤ 99) (h : 1 ≤ b ∧ b ≤ 2001) : xdiv (wr (wr (c + b) - 1)) b = lst c b := by
  simp (disch := omega) only [wr_id, xdiv_nn]
  rfl
theorem c_X5_lastsHolding_3 (n : Nat) (s : Nat → Nat → Int) (Q : List Vl → Sto → Prop) (i c : Int) (hR : refs s) (g1 : 0 ≤ i ∧ i < 6) (g2 : rgP (vw 4 s) i.toNat) (g3 : 0 ≤ c ∧ c ≤ 2000) (g4 : 0 ≤ vw 4 s 4 i.toNat ∧ vw 4 s 4 i.toNat ≤ 99) (hq : Q [(1, lsV (vw 4 s) i.toNat c)] (n, s)) : G 2 120 53 0 [(3, 3), (1, i), (1, c), (0, 0)] [] (n, s) Q := by
  have hb := bnV_rg g2 g3
  have g5 : 0 ≤ s 8 i.toNat ∧ s 8 i.toNat ≤ 99 := g4
  have hl := lst_rg g5 hb.1
  refine sb_X5_lastsHolding_0_3 n s Q i c hR ⟨g1, g2, g3, fun e => ⟨by omega, Qe hq ?_⟩, fun e => by exfalso; omega⟩
  rw [lst_eq g5 hb]
  show min 99 (lst (s 8 i.toNat) (bnV (vw 4 s) i.toNat c)) = lst (s 8 i.toNat) (bnV (vw 4 s) i.toNat c)
  omega
theorem c_X5_lastsHolding_13 (n : Nat) (s : Nat → Nat → Int) (Q : List Vl → Sto → Prop) (i c : Int) (hR : refs s) (g1 : 0 ≤ i ∧ i < 6) (g2 : rgP (vw 14 s) i.toNat) (g3 : 0 ≤ c ∧ c ≤ 2000) (g4 : 0 ≤ vw 14 s 4 i.toNat ∧ vw 14 s 4 i.toNat ≤ 99) (hq : Q [(1, lsV (vw 14 s) i.toNat c)] (n, s)) : G 2 120 53 0 [(3, 13), (1, i), (1, c), (0, 0)] [] (n, s) Q := by
  have hb := bnV_rg g2 g3
  have g5 : 0 ≤ s 18 i.toNat ∧ s 18 i.toNat ≤ 99 := g4
  have hl := lst_rg g5 hb.1
  refine sb_X5_lastsHolding_0_13 n s Q i c hR ⟨g1, g2, g3, fun e => ⟨by omega, Qe hq ?_⟩, fun e => by exfalso; omega⟩
  rw [lst_eq g5 hb]
  show min 99 (lst (s 18 i.toNat) (bnV (vw 14 s) i.toNat c)) = lst (s 18 i.toNat) (bnV (vw 14 s) i.toNat c)
  omega
theorem sb_X7_wealthOf_0 (n : Nat) (s : Nat → Nat → Int) (Q : List Vl → Sto → Prop) (a0 : Int) (hR : refs s)
    (h : (0 ≤ a0 ∧ a0 < 6) ∧ ((s 121 a0.toNat = 1 → Q [(1, wr ((wr ((s 123 a0.toNat) + (s 124 a0.toNat))) + 10))] (n, s)) ∧ (s 121 a0.toNat = 2 → (xdiv (wr ((s 123 a0.toNat) + (s 124 a0.toNat))) 2 ≤ s 122 a0.toNat → Q [(1, 0)] (n, s)) ∧ (s 122 a0.toNat < xdiv (wr ((s 123 a0.toNat) + (s 124 a0.toNat))) 2 → Q [(1, wr ((xdiv (wr ((s 123 a0.toNat) + (s 124 a0.toNat))) 2) - (s 122 a0.toNat)))] (n, s))) ∧ (s 121 a0.toNat = 3 → Q [(1, wr ((wr ((s 123 a0.toNat) + (s 124 a0.toNat))) + (s 124 a0.toNat)))] (n, s)) ∧ (s 121 a0.toNat = 4 → Q [(1, wr ((wr ((wr ((s 123 a0.toNat) + (s 124 a0.toNat))) + 10)) - (xdiv (s 123 a0.toNat) 2)))] (n, s)) ∧ (s 121 a0.toNat = 5 → Q [(1, s 122 a0.toNat)] (n, s)) ∧ (s 121 a0.toNat < 1 ∨ 5 < s 121 a0.toNat → Q [(1, wr ((s 123 a0.toNat) + (s 124 a0.toNat)))] (n, s)))) :
    G 120 140 136 0 [(3, 120), (1, a0), (0, 0)] [] (n, s) Q := by
  refine G_go rfl rfl ?_
  refine G_rf rfl rfl (by decide) (hR 120 3 123 rfl) ?_
  refine G_go rfl rfl ?_
  obtain ⟨g1, h⟩ := h
  refine G_ir (n := 6) rfl rfl (by decide) (by decide) g1 ?_
  refine G_go rfl rfl ?_
  refine G_rf rfl rfl (by decide) (hR 120 4 124 rfl) ?_
  refine G_go rfl rfl ?_
  refine G_ir (n := 6) rfl rfl (by decide) (by decide) g1 ?_
  refine G_go rfl rfl ?_
  refine G_go rfl rfl ?_
  refine G_go rfl rfl ?_
  refine G_rf rfl rfl (by decide) (hR 120 1 121 rfl) ?_
  refine G_go rfl rfl ?_
  refine G_ir (n := 6) rfl rfl (by decide) (by decide) g1 ?_
  by_cases hs20_0 : s 121 a0.toNat = 1
  · refine G_k hs20_0 rfl rfl ?_
    have h := h.1 hs20_0
    refine G_go rfl rfl ?_
    refine G_go rfl rfl ?_
    refine G_go rfl rfl ?_
    exact G_ret rfl rfl h
  replace h := h.2
  by_cases hs20_1 : s 121 a0.toNat = 2
  · refine G_k hs20_1 rfl rfl ?_
    have h := h.1 hs20_1
    refine G_go rfl rfl ?_
    refine G_go rfl rfl ?_
    refine G_go rfl rfl ?_
    refine G_go rfl rfl ?_
    refine G_rf rfl rfl (by decide) (hR 120 2 122 rfl) ?_
    refine G_go rfl rfl ?_
    refine G_ir (n := 6) rfl rfl (by decide) (by decide) g1 ?_
    refine G_le rfl rfl (fun c2 => ?_) (fun c2 => ?_)
    · have h := h.1 c2
      refine G_go rfl rfl ?_
      exact G_ret rfl rfl h
    · have h := h.2 c2
      refine G_go rfl rfl ?_
      refine G_go rfl rfl ?_
      refine G_go rfl rfl ?_
      refine G_go rfl rfl ?_
      refine G_rf rfl rfl (by decide) (hR 120 2 122 rfl) ?_
      refine G_go rfl rfl ?_
      refine G_ir (n := 6) rfl rfl (by decide) (by decide) g1 ?_
      refine G_go rfl rfl ?_
      refine G_go rfl rfl ?_
      exact G_ret rfl rfl h
  replace h := h.2
  by_cases hs20_2 : s 121 a0.toNat = 3
  · refine G_k hs20_2 rfl rfl ?_
    have h := h.1 hs20_2
    refine G_go rfl rfl ?_
    refine G_go rfl rfl ?_
    refine G_rf rfl rfl (by decide) (hR 120 4 124 rfl) ?_
    refine G_go rfl rfl ?_
    refine G_ir (n := 6) rfl rfl (by decide) (by decide) g1 ?_
    refine G_go rfl rfl ?_
    exact G_ret rfl rfl h
  replace h := h.2
  by_cases hs20_3 : s 121 a0.toNat = 4
  · refine G_k hs20_3 rfl rfl ?_
    have h := h.1 hs20_3
    refine G_go rfl rfl ?_
    refine G_go rfl rfl ?_
    refine G_go rfl rfl ?_
    refine G_go rfl rfl ?_
    refine G_rf rfl rfl (by decide) (hR 120 3 123 rfl) ?_
    refine G_go rfl rfl ?_
    refine G_ir (n := 6) rfl rfl (by decide) (by decide) g1 ?_
    refine G_go rfl rfl ?_
    refine G_go rfl rfl ?_
    refine G_go rfl rfl ?_
    exact G_ret rfl rfl h
  replace h := h.2
  by_cases hs20_4 : s 121 a0.toNat = 5
  · refine G_k hs20_4 rfl rfl ?_
    have h := h.1 hs20_4
    refine G_go rfl rfl ?_
    refine G_rf rfl rfl (by decide) (hR 120 2 122 rfl) ?_
    refine G_go rfl rfl ?_
    refine G_ir (n := 6) rfl rfl (by decide) (by decide) g1 ?_
    exact G_ret rfl rfl h
  replace h := h.2
  have hd20 : s 121 a0.toNat < 1 ∨ 5 < s 121 a0.toNat := by omega
  refine G_tsd rfl rfl hd20 ?_
  replace h := h hd20
  refine G_go rfl rfl ?_
  exact G_ret rfl rfl h
theorem sb_X7_isHonest_0 (n : Nat) (s : Nat → Nat → Int) (Q : List Vl → Sto → Prop) (a0 : Int) (hR : refs s)
    (h : (0 ≤ a0 ∧ a0 < 6) ∧ ((s 121 a0.toNat = 1 → Q [(1, 1)] (n, s)) ∧ (s 121 a0.toNat = 2 → (s 122 a0.toNat < 4 → Q [(1, 0)] (n, s)) ∧ (4 ≤ s 122 a0.toNat → Q [(1, 1)] (n, s))) ∧ (s 121 a0.toNat = 3 → Q [(1, 0)] (n, s)) ∧ (s 121 a0.toNat = 4 → Q [(1, 1)] (n, s)) ∧ (s 121 a0.toNat = 5 → Q [(1, 1)] (n, s)) ∧ (s 121 a0.toNat < 1 ∨ 5 < s 121 a0.toNat → (s 122 a0.toNat < 4 → Q [(1, 0)] (n, s)) ∧ (4 ≤ s 122 a0.toNat → Q [(1, 1)] (n, s))))) :
    G 120 140 167 0 [(3, 120), (1, a0)] [] (n, s) Q := by
  refine G_go rfl rfl ?_
  refine G_rf rfl rfl (by decide) (hR 120 1 121 rfl) ?_
  refine G_go rfl rfl ?_
  obtain ⟨g1, h⟩ := h
  refine G_ir (n := 6) rfl rfl (by decide) (by decide) g1 ?_
  by_cases hs6_0 : s 121 a0.toNat = 1
  · refine G_k hs6_0 rfl rfl ?_
    have h := h.1 hs6_0
    refine G_go rfl rfl ?_
    exact G_ret rfl rfl h
  replace h := h.2
  by_cases hs6_1 : s 121 a0.toNat = 2
  · refine G_k hs6_1 rfl rfl ?_
    have h := h.1 hs6_1
    refine G_go rfl rfl ?_
    refine G_rf rfl rfl (by decide) (hR 120 2 122 rfl) ?_
    refine G_go rfl rfl ?_
    refine G_ir (n := 6) rfl rfl (by decide) (by decide) g1 ?_
    refine G_go rfl rfl ?_
    refine G_lt rfl rfl (fun c2 => ?_) (fun c2 => ?_)
    · have h := h.1 c2
      refine G_go rfl rfl ?_
      exact G_ret rfl rfl h
    · have h := h.2 c2
      refine G_go rfl rfl ?_
      refine G_go rfl rfl ?_
      exact G_ret rfl rfl h
  replace h := h.2
  by_cases hs6_2 : s 121 a0.toNat = 3
  · refine G_k hs6_2 rfl rfl ?_
    have h := h.1 hs6_2
    refine G_go rfl rfl ?_
    exact G_ret rfl rfl h
  replace h := h.2
  by_cases hs6_3 : s 121 a0.toNat = 4
  · refine G_k hs6_3 rfl rfl ?_
    have h := h.1 hs6_3
    refine G_go rfl rfl ?_
    exact G_ret rfl rfl h
  replace h := h.2
  by_cases hs6_4 : s 121 a0.toNat = 5
  · refine G_k hs6_4 rfl rfl ?_
    have h := h.1 hs6_4
    refine G_go rfl rfl ?_
    exact G_ret rfl rfl h
  replace h := h.2
  have hd6 : s 121 a0.toNat < 1 ∨ 5 < s 121 a0.toNat := by omega
  refine G_tsd rfl rfl hd6 ?_
  replace h := h hd6
  refine G_go rfl rfl ?_
  refine G_rf rfl rfl (by decide) (hR 120 2 122 rfl) ?_
  refine G_go rfl rfl ?_
  refine G_ir (n := 6) rfl rfl (by decide) (by decide) g1 ?_
  refine G_go rfl rfl ?_
  refine G_lt rfl rfl (fun c3 => ?_) (fun c3 => ?_)
  · have h := h.1 c3
    refine G_go rfl rfl ?_
    exact G_ret rfl rfl h
  · have h := h.2 c3
    refine G_go rfl rfl ?_
    refine G_go rfl rfl ?_
    exact G_ret rfl rfl h
theorem sb_X7_least_0 (n : Nat) (s : Nat → Nat → Int) (Q : List Vl → Sto → Prop) (a0 : Int) (a1 : Int) (hR : refs s)
    (h : (a1 ≤ a0 → Q [(1, a1)] (n, s)) ∧ (a0 < a1 → Q [(1, a0)] (n, s))) :
    G 120 140 144 0 [(1, a0), (1, a1)] [] (n, s) Q := by
  refine G_go rfl rfl ?_
  refine G_go rfl rfl ?_
  refine G_ge rfl rfl (fun c1 => ?_) (fun c1 => ?_)
  · have h := h.1 c1
    refine G_go rfl rfl ?_
    exact G_ret rfl rfl h
  · have h := h.2 c1
    refine G_go rfl rfl ?_
    refine G_go rfl rfl ?_
    exact G_ret rfl rfl h
theorem c_X7_least (n : Nat) (s : Nat → Nat → Int) (Q : List Vl → Sto → Prop) (a b : Int) (hR : refs s) (hq : Q [(1, min a b)] (n, s)) : G 120 140 144 0 [(1, a), (1, b)] [] (n, s) Q :=
  sb_X7_least_0 n s Q a b hR ⟨fun e => Qe hq (by omega), fun e => Qe hq (by omega)⟩
theorem c_X7_wealthOf (n : Nat) (s : Nat → Nat → Int) (Q : List Vl → Sto → Prop) (p : Int) (hR : refs s) (g1 : 0 ≤ p ∧ p < 6) (g2 : rgP (vw 121 s) p.toNat) (g3 : 0 ≤ vw 121 s 2 p.toNat ∧ vw 121 s 2 p.toNat ≤ 2000) (hq : Q [(1, wlW (vw 121 s) p.toNat)] (n, s)) : G 120 140 136 0 [(3, 120), (1, p), (0, 0)] [] (n, s) Q := by
  have h1 : 0 ≤ s 122 p.toNat ∧ s 122 p.toNat ≤ 9 := g2.1
  have h2 : 0 ≤ s 124 p.toNat ∧ s 124 p.toNat ≤ 200 := g2.2
  have h3 : 0 ≤ s 123 p.toNat ∧ s 123 p.toNat ≤ 2000 := g3
  have hq : Q [(1, wlt (s 121 p.toNat) (s 122 p.toNat) (s 123 p.toNat) (s 124 p.toNat))] (n, s) := hq
  refine sb_X7_wealthOf_0 n s Q p hR ⟨g1, fun e => ?_, fun e => ⟨fun e2 => ?_, fun e2 => ?_⟩, fun e => ?_, fun e => ?_, fun e => ?_, fun e => ?_⟩
  all_goals refine Qe hq ?_
  all_goals try simp (disch := omega) only [wr_id, xdiv_nn] at e2
  all_goals try simp (disch := omega) only [wr_id, xdiv_nn]
  all_goals unfold wlt
  all_goals repeat' split
  all_goals omega
theorem c_X7_isHonest (n : Nat) (s : Nat → Nat → Int) (Q : List Vl → Sto → Prop) (p : Int) (hR : refs s) (g1 : 0 ≤ p ∧ p < 6) (hq : Q [(1, hnW (vw 121 s) p.toNat)] (n, s)) : G 120 140 167 0 [(3, 120), (1, p)] [] (n, s) Q := by
  have hq : Q [(1, hon (s 121 p.toNat) (s 122 p.toNat))] (n, s) := hq
  refine sb_X7_isHonest_0 n s Q p hR ⟨g1, fun e => ?_, fun e => ⟨fun e2 => ?_, fun e2 => ?_⟩, fun e => ?_, fun e => ?_, fun e => ?_, fun e => ⟨fun e2 => ?_, fun e2 => ?_⟩⟩
  all_goals refine Qe hq ?_
  all_goals unfold hon
  all_goals repeat' split
  all_goals omega
theorem sb_X7_burnsOf_0 (n : Nat) (s : Nat → Nat → Int) (Q : List Vl → Sto → Prop) (a0 : Int) (hR : refs s)
    (h : (0 ≤ a0 ∧ a0 < 6) ∧ ((s 121 a0.toNat = 1 → (rgP (vw 121 s) a0.toNat) ∧ ((0 ≤ vw 121 s 2 a0.toNat ∧ vw 121 s 2 a0.toNat ≤ 2000) ∧ (Q [(1, wr (2 + (xdiv (wlW (vw 121 s) a0.toNat) 10)))] (n, s)))) ∧ (s 121 a0.toNat = 2 → (rgP (vw 121 s) a0.toNat) ∧ ((0 ≤ vw 121 s 2 a0.toNat ∧ vw 121 s 2 a0.toNat ≤ 2000) ∧ (Q [(1, wr (1 + (xdiv (wlW (vw 121 s) a0.toNat) 10)))] (n, s)))) ∧ (s 121 a0.toNat = 3 → (rgP (vw 121 s) a0.toNat) ∧ ((0 ≤ vw 121 s 2 a0.toNat ∧ vw 121 s 2 a0.toNat ≤ 2000) ∧ (Q [(1, wr (1 + (xdiv (wlW (vw 121 s) a0.toNat) 5)))] (n, s)))) ∧ (s 121 a0.toNat = 4 → (rgP (vw 121 s) a0.toNat) ∧ ((0 ≤ vw 121 s 2 a0.toNat ∧ vw 121 s 2 a0.toNat ≤ 2000) ∧ (Q [(1, wr (2 + (xdiv (wlW (vw 121 s) a0.toNat) 10)))] (n, s)))) ∧ (s 121 a0.toNat = 5 → Q [(1, 1)] (n, s)) ∧ (s 121 a0.toNat < 1 ∨ 5 < s 121 a0.toNat → (rgP (vw 121 s) a0.toNat) ∧ ((0 ≤ vw 121 s 2 a0.toNat ∧ vw 121 s 2 a0.toNat ≤ 2000) ∧ (Q [(1, wr (1 + (xdiv (wlW (vw 121 s) a0.toNat) 10)))] (n, s)))))) :
    G 120 140 145 0 [(3, 120), (1, a0)] [] (n, s) Q := by
  refine G_go rfl rfl ?_
  refine G_rf rfl rfl (by decide) (hR 120 1 121 rfl) ?_
  refine G_go rfl rfl ?_
  obtain ⟨g1, h⟩ := h
  refine G_ir (n := 6) rfl rfl (by decide) (by decide) g1 ?_
  by_cases hs6_0 : s 121 a0.toNat = 1
  · refine G_k hs6_0 rfl rfl ?_
    have h := h.1 hs6_0
    refine G_go rfl rfl ?_
    refine G_go rfl rfl ?_
    refine G_go rfl rfl ?_
    refine G_call rfl rfl ?_
    obtain ⟨g2, h⟩ := h
    obtain ⟨g3, h⟩ := h
    refine c_X7_wealthOf n _ _ a0 hR g1 g2 g3 ?_
    refine G_go rfl rfl ?_
    refine G_go rfl rfl ?_
    refine G_go rfl rfl ?_
    exact G_ret rfl rfl h
  replace h := h.2
  by_cases hs6_1 : s 121 a0.toNat = 2
  · refine G_k hs6_1 rfl rfl ?_
    have h := h.1 hs6_1
    refine G_go rfl rfl ?_
    refine G_go rfl rfl ?_
    refine G_go rfl rfl ?_
    refine G_call rfl rfl ?_
    obtain ⟨g4, h⟩ := h
    obtain ⟨g5, h⟩ := h
    refine c_X7_wealthOf n _ _ a0 hR g1 g4 g5 ?_
    refine G_go rfl rfl ?_
    refine G_go rfl rfl ?_
    refine G_go rfl rfl ?_
    exact G_ret rfl rfl h
  replace h := h.2
  by_cases hs6_2 : s 121 a0.toNat = 3
  · refine G_k hs6_2 rfl rfl ?_
    have h := h.1 hs6_2
    refine G_go rfl rfl ?_
    refine G_go rfl rfl ?_
    refine G_go rfl rfl ?_
    refine G_call rfl rfl ?_
    obtain ⟨g6, h⟩ := h
    obtain ⟨g7, h⟩ := h
    refine c_X7_wealthOf n _ _ a0 hR g1 g6 g7 ?_
    refine G_go rfl rfl ?_
    refine G_go rfl rfl ?_
    refine G_go rfl rfl ?_
    exact G_ret rfl rfl h
  replace h := h.2
  by_cases hs6_3 : s 121 a0.toNat = 4
  · refine G_k hs6_3 rfl rfl ?_
    have h := h.1 hs6_3
    refine G_go rfl rfl ?_
    refine G_go rfl rfl ?_
    refine G_go rfl rfl ?_
    refine G_call rfl rfl ?_
    obtain ⟨g8, h⟩ := h
    obtain ⟨g9, h⟩ := h
    refine c_X7_wealthOf n _ _ a0 hR g1 g8 g9 ?_
    refine G_go rfl rfl ?_
    refine G_go rfl rfl ?_
    refine G_go rfl rfl ?_
    exact G_ret rfl rfl h
  replace h := h.2
  by_cases hs6_4 : s 121 a0.toNat = 5
  · refine G_k hs6_4 rfl rfl ?_
    have h := h.1 hs6_4
    refine G_go rfl rfl ?_
    exact G_ret rfl rfl h
  replace h := h.2
  have hd6 : s 121 a0.toNat < 1 ∨ 5 < s 121 a0.toNat := by omega
  refine G_tsd rfl rfl hd6 ?_
  replace h := h hd6
  refine G_go rfl rfl ?_
  refine G_go rfl rfl ?_
  refine G_go rfl rfl ?_
  refine G_call rfl rfl ?_
  obtain ⟨g10, h⟩ := h
  obtain ⟨g11, h⟩ := h
  refine c_X7_wealthOf n _ _ a0 hR g1 g10 g11 ?_
  refine G_go rfl rfl ?_
  refine G_go rfl rfl ?_
  refine G_go rfl rfl ?_
  exact G_ret rfl rfl h
theorem c_X7_burnsOf (n : Nat) (s : Nat → Nat → Int) (Q : List Vl → Sto → Prop) (p : Int) (hR : refs s) (g1 : 0 ≤ p ∧ p < 6) (g2 : rgP (vw 121 s) p.toNat) (g3 : 0 ≤ vw 121 s 2 p.toNat ∧ vw 121 s 2 p.toNat ≤ 2000) (hq : Q [(1, bnW (vw 121 s) p.toNat)] (n, s)) : G 120 140 145 0 [(3, 120), (1, p)] [] (n, s) Q := by
  have hw : 0 ≤ wlW (vw 121 s) p.toNat ∧ wlW (vw 121 s) p.toNat ≤ 9999 := wlt_rg g2.1 g3 g2.2
  have hq : Q [(1, bns (s 121 p.toNat) (wlW (vw 121 s) p.toNat))] (n, s) := hq
  refine sb_X7_burnsOf_0 n s Q p hR ⟨g1, fun e => ⟨g2, g3, ?_⟩, fun e => ⟨g2, g3, ?_⟩, fun e => ⟨g2, g3, ?_⟩, fun e => ⟨g2, g3, ?_⟩, fun e => ?_, fun e => ⟨g2, g3, ?_⟩⟩
  all_goals refine Qe hq ?_
  all_goals try simp (disch := omega) only [wr_id, xdiv_nn]
  all_goals unfold bns
  all_goals repeat' split
  all_goals omega
theorem sb_X7_lastsOf_0 (n : Nat) (s : Nat → Nat → Int) (Q : List Vl → Sto → Prop) (a0 : Int) (hR : refs s)
    (h : (0 ≤ a0 ∧ a0 < 6) ∧ ((rgP (vw 121 s) a0.toNat) ∧ ((0 ≤ vw 121 s 2 a0.toNat ∧ vw 121 s 2 a0.toNat ≤ 2000) ∧ ((bnW (vw 121 s) a0.toNat ≠ 0) ∧ (Q [(1, xdiv (wr ((wr ((s 125 a0.toNat) + (bnW (vw 121 s) a0.toNat))) - 1)) (bnW (vw 121 s) a0.toNat))] (n, s)))))) :
    G 120 140 159 0 [(3, 120), (1, a0), (0, 0)] [] (n, s) Q := by
  refine G_go rfl rfl ?_
  refine G_go rfl rfl ?_
  refine G_call rfl rfl ?_
  obtain ⟨g1, h⟩ := h
  obtain ⟨g2, h⟩ := h
  obtain ⟨g3, h⟩ := h
  refine c_X7_burnsOf n _ _ a0 hR g1 g2 g3 ?_
  refine G_go rfl rfl ?_
  refine G_go rfl rfl ?_
  refine G_rf rfl rfl (by decide) (hR 120 5 125 rfl) ?_
  refine G_go rfl rfl ?_
  refine G_ir (n := 6) rfl rfl (by decide) (by decide) g1 ?_
  refine G_go rfl rfl ?_
  refine G_go rfl rfl ?_
  refine G_go rfl rfl ?_
  refine G_go rfl rfl ?_
  refine G_go rfl rfl ?_
  obtain ⟨g4, h⟩ := h
  refine G_idiv rfl g4 ?_
  exact G_ret rfl rfl h
theorem c_X7_lastsOf (n : Nat) (s : Nat → Nat → Int) (Q : List Vl → Sto → Prop) (p : Int) (hR : refs s) (g1 : 0 ≤ p ∧ p < 6) (g2 : rgP (vw 121 s) p.toNat) (g3 : 0 ≤ vw 121 s 2 p.toNat ∧ vw 121 s 2 p.toNat ≤ 2000) (g4 : 0 ≤ vw 121 s 4 p.toNat ∧ vw 121 s 4 p.toNat ≤ 99) (hq : Q [(1, lsW (vw 121 s) p.toNat)] (n, s)) : G 120 140 159 0 [(3, 120), (1, p), (0, 0)] [] (n, s) Q := by
  have hb : 1 ≤ bnW (vw 121 s) p.toNat ∧ bnW (vw 121 s) p.toNat ≤ 2001 := bnV_rg g2 g3
  have g5 : 0 ≤ s 125 p.toNat ∧ s 125 p.toNat ≤ 99 := g4
  refine sb_X7_lastsOf_0 n s Q p hR ⟨g1, g2, g3, by omega, Qe hq ?_⟩
  rw [lst_eq g5 hb]
  rfl

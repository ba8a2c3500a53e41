/-! WHETHER THE ROW TELLS A CANDLE -/
theorem sb_X4_fits_0 (n : Nat) (s : Nat → Nat → Int) (Q : List Vl → Sto → Prop) (a0 : Int) (a1 : Int) (hR : refs s)
    (h : G 2 120 43 2 [(3, 117), (1, a0), (1, a1), (1, 0)] [] (n, s) Q) :
    G 2 120 43 0 [(3, 117), (1, a0), (1, a1), (0, 0)] [] (n, s) Q := by
  refine G_go rfl rfl ?_
  refine G_go rfl rfl ?_
  show G 2 120 43 2 [(3, 117), (1, a0), (1, a1), (1, 0)] [] (n, s) Q
  exact h
theorem sb_X4_fits_2 (n : Nat) (s : Nat → Nat → Int) (Q : List Vl → Sto → Prop) (x1 : Int) (x2 : Int) (x3 : Int) (hR : refs s)
    (h : (s 117 1 ≤ x3 → Q [(1, 1)] (n, s)) ∧ (x3 < s 117 1 → (0 ≤ x3 ∧ x3 < 12) ∧ ((s 118 x3.toNat = max 0 (wr (x1 - (wr (x3 * x2)))) → G 2 120 43 2 [(3, 117), (1, x1), (1, x2), (1, wr (x3 + 1))] [] (n, s) Q) ∧ (s 118 x3.toNat ≠ max 0 (wr (x1 - (wr (x3 * x2)))) → Q [(1, 0)] (n, s))))) :
    G 2 120 43 2 [(3, 117), (1, x1), (1, x2), (1, x3)] [] (n, s) Q := by
  refine G_go rfl rfl ?_
  refine G_go rfl rfl ?_
  refine G_rd rfl rfl (by decide) ?_
  refine G_ge rfl rfl (fun c1 => ?_) (fun c1 => ?_)
  · have h := h.1 c1
    refine G_go rfl rfl ?_
    exact G_ret rfl rfl h
  · have h := h.2 c1
    refine G_go rfl rfl ?_
    refine G_rf rfl rfl (by decide) (hR 117 0 118 rfl) ?_
    refine G_go rfl rfl ?_
    obtain ⟨g2, h⟩ := h
    refine G_ir (n := 12) rfl rfl (by decide) (by decide) g2 ?_
    refine G_go rfl rfl ?_
    refine G_go rfl rfl ?_
    refine G_go rfl rfl ?_
    refine G_go rfl rfl ?_
    refine G_go rfl rfl ?_
    refine G_go rfl rfl ?_
    refine G_max rfl rfl ?_
    refine G_eq rfl rfl (fun c3 => ?_) (fun c3 => ?_)
    · have h := h.1 c3
      refine G_go rfl rfl ?_
      refine G_go rfl rfl ?_
      exact h
    · have h := h.2 c3
      refine G_go rfl rfl ?_
      exact G_ret rfl rfl h
theorem sb_X7_isRow_0 (n : Nat) (s : Nat → Nat → Int) (Q : List Vl → Sto → Prop) (a0 : Int) (hR : refs s)
    (h : (0 ≤ a0 ∧ a0 < 6) ∧ ((rgP (vw 121 s) a0.toNat) ∧ ((0 ≤ vw 121 s 2 a0.toNat ∧ vw 121 s 2 a0.toNat ≤ 2000) ∧ (G 120 140 191 19 [(3, 120), (1, a0), (1, bnW (vw 121 s) a0.toNat), (1, s 125 a0.toNat), (1, 1), (1, 0)] [] (n, s) Q)))) :
    G 120 140 191 0 [(3, 120), (1, a0), (0, 0), (0, 0), (0, 0), (0, 0)] [] (n, s) Q := by
  refine G_go rfl rfl ?_
  refine G_go rfl rfl ?_
  refine G_call rfl rfl ?_
  obtain ⟨g1, h⟩ := h
  obtain ⟨g2, h⟩ := h
  obtain ⟨g3, h⟩ := h
  refine c_X7_burnsOf n _ _ a0 hR g1 g2 g3 ?_
  refine G_go rfl rfl ?_
  show G 120 140 191 6 [(3, 120), (1, a0), (1, bnW (vw 121 s) a0.toNat), (0, 0), (0, 0), (0, 0)] [] (n, s) Q
  refine G_go rfl rfl ?_
  refine G_rf rfl rfl (by decide) (hR 120 5 125 rfl) ?_
  refine G_go rfl rfl ?_
  refine G_ir (n := 6) rfl rfl (by decide) (by decide) g1 ?_
  refine G_go rfl rfl ?_
  show G 120 140 191 13 [(3, 120), (1, a0), (1, bnW (vw 121 s) a0.toNat), (1, s 125 a0.toNat), (0, 0), (0, 0)] [] (n, s) Q
  refine G_go rfl rfl ?_
  refine G_go rfl rfl ?_
  show G 120 140 191 16 [(3, 120), (1, a0), (1, bnW (vw 121 s) a0.toNat), (1, s 125 a0.toNat), (1, 1), (0, 0)] [] (n, s) Q
  refine G_go rfl rfl ?_
  refine G_go rfl rfl ?_
  show G 120 140 191 19 [(3, 120), (1, a0), (1, bnW (vw 121 s) a0.toNat), (1, s 125 a0.toNat), (1, 1), (1, 0)] [] (n, s) Q
  exact h
theorem sb_X7_isRow_19 (n : Nat) (s : Nat → Nat → Int) (Q : List Vl → Sto → Prop) (x1 : Int) (x2 : Int) (x3 : Int) (x4 : Int) (x5 : Int) (hR : refs s)
    (h : (s 120 31 ≤ x5 → (x4 = 0 ∨ x4 = 1) ∧ (Q [(1, x4)] (n, s))) ∧ (x5 < s 120 31 → (x4 = 0 → (x3 ≤ x2 → G 120 140 191 19 [(3, 120), (1, x1), (1, x2), (1, 0), (1, 0), (1, wr (x5 + 1))] [] (n, s) Q) ∧ (x2 < x3 → G 120 140 191 19 [(3, 120), (1, x1), (1, x2), (1, wr (x3 - x2)), (1, 0), (1, wr (x5 + 1))] [] (n, s) Q)) ∧ (x4 ≠ 0 → (0 ≤ x5 ∧ x5 < 12) ∧ ((s 139 x5.toNat ≠ x3 → (x3 ≤ x2 → G 120 140 191 19 [(3, 120), (1, x1), (1, x2), (1, 0), (1, 0), (1, wr (x5 + 1))] [] (n, s) Q) ∧ (x2 < x3 → G 120 140 191 19 [(3, 120), (1, x1), (1, x2), (1, wr (x3 - x2)), (1, 0), (1, wr (x5 + 1))] [] (n, s) Q)) ∧ (s 139 x5.toNat = x3 → (x3 ≤ x2 → G 120 140 191 19 [(3, 120), (1, x1), (1, x2), (1, 0), (1, 1), (1, wr (x5 + 1))] [] (n, s) Q) ∧ (x2 < x3 → G 120 140 191 19 [(3, 120), (1, x1), (1, x2), (1, wr (x3 - x2)), (1, 1), (1, wr (x5 + 1))] [] (n, s) Q)))))) :
    G 120 140 191 19 [(3, 120), (1, x1), (1, x2), (1, x3), (1, x4), (1, x5)] [] (n, s) Q := by
  refine G_go rfl rfl ?_
  refine G_go rfl rfl ?_
  refine G_rd rfl rfl (by decide) ?_
  refine G_ge rfl rfl (fun c1 => ?_) (fun c1 => ?_)
  · have h := h.1 c1
    refine G_go rfl rfl ?_
    obtain ⟨g2, h⟩ := h
    exact G_retZ rfl rfl g2 h
  · have h := h.2 c1
    refine G_go rfl rfl ?_
    refine G_eq rfl rfl (fun c3 => ?_) (fun c3 => ?_)
    · have h := h.1 c3
      refine G_go rfl rfl ?_
      refine G_go rfl rfl ?_
      show G 120 140 191 51 [(3, 120), (1, x1), (1, x2), (1, x3), (1, 0), (1, x5)] [] (n, s) Q
      refine G_go rfl rfl ?_
      refine G_go rfl rfl ?_
      refine G_le rfl rfl (fun c4 => ?_) (fun c4 => ?_)
      · have h := h.1 c4
        refine G_go rfl rfl ?_
        refine G_go rfl rfl ?_
        show G 120 140 191 64 [(3, 120), (1, x1), (1, x2), (1, 0), (1, 0), (1, x5)] [] (n, s) Q
        refine G_go rfl rfl ?_
        refine G_go rfl rfl ?_
        exact h
      · have h := h.2 c4
        refine G_go rfl rfl ?_
        refine G_go rfl rfl ?_
        refine G_go rfl rfl ?_
        refine G_go rfl rfl ?_
        refine G_go rfl rfl ?_
        show G 120 140 191 64 [(3, 120), (1, x1), (1, x2), (1, wr (x3 - x2)), (1, 0), (1, x5)] [] (n, s) Q
        refine G_go rfl rfl ?_
        refine G_go rfl rfl ?_
        exact h
    · have h := h.2 c3
      refine G_go rfl rfl ?_
      refine G_rf rfl rfl (by decide) (hR 120 30 139 rfl) ?_
      refine G_go rfl rfl ?_
      obtain ⟨g5, h⟩ := h
      refine G_ir (n := 12) rfl rfl (by decide) (by decide) g5 ?_
      refine G_go rfl rfl ?_
      refine G_ne rfl rfl (fun c6 => ?_) (fun c6 => ?_)
      · have h := h.1 c6
        refine G_go rfl rfl ?_
        refine G_go rfl rfl ?_
        show G 120 140 191 51 [(3, 120), (1, x1), (1, x2), (1, x3), (1, 0), (1, x5)] [] (n, s) Q
        refine G_go rfl rfl ?_
        refine G_go rfl rfl ?_
        refine G_le rfl rfl (fun c7 => ?_) (fun c7 => ?_)
        · have h := h.1 c7
          refine G_go rfl rfl ?_
          refine G_go rfl rfl ?_
          show G 120 140 191 64 [(3, 120), (1, x1), (1, x2), (1, 0), (1, 0), (1, x5)] [] (n, s) Q
          refine G_go rfl rfl ?_
          refine G_go rfl rfl ?_
          exact h
        · have h := h.2 c7
          refine G_go rfl rfl ?_
          refine G_go rfl rfl ?_
          refine G_go rfl rfl ?_
          refine G_go rfl rfl ?_
          refine G_go rfl rfl ?_
          show G 120 140 191 64 [(3, 120), (1, x1), (1, x2), (1, wr (x3 - x2)), (1, 0), (1, x5)] [] (n, s) Q
          refine G_go rfl rfl ?_
          refine G_go rfl rfl ?_
          exact h
      · have h := h.2 c6
        refine G_go rfl rfl ?_
        refine G_go rfl rfl ?_
        refine G_go rfl rfl ?_
        show G 120 140 191 51 [(3, 120), (1, x1), (1, x2), (1, x3), (1, 1), (1, x5)] [] (n, s) Q
        refine G_go rfl rfl ?_
        refine G_go rfl rfl ?_
        refine G_le rfl rfl (fun c8 => ?_) (fun c8 => ?_)
        · have h := h.1 c8
          refine G_go rfl rfl ?_
          refine G_go rfl rfl ?_
          show G 120 140 191 64 [(3, 120), (1, x1), (1, x2), (1, 0), (1, 1), (1, x5)] [] (n, s) Q
          refine G_go rfl rfl ?_
          refine G_go rfl rfl ?_
          exact h
        · have h := h.2 c8
          refine G_go rfl rfl ?_
          refine G_go rfl rfl ?_
          refine G_go rfl rfl ?_
          refine G_go rfl rfl ?_
          refine G_go rfl rfl ?_
          show G 120 140 191 64 [(3, 120), (1, x1), (1, x2), (1, wr (x3 - x2)), (1, 1), (1, x5)] [] (n, s) Q
          refine G_go rfl rfl ?_
          refine G_go rfl rfl ?_
          exact h
def rwF (r : Nat → Int) (c b : Int) (k : Nat) (x : Int) : Int := if x = 1 ∧ r k = max 0 (c - (k : Int) * b) then 1 else 0
def rwV (r : Nat → Int) (c b : Int) (N : Nat) : Int := itr (rwF r c b) 1 N
theorem rw_stays (r : Nat → Int) (c b : Int) (k : Nat) (h : rwV r c b k = 0) : ∀ d, rwV r c b (k + d) = 0
  | 0 => h
  | d + 1 => by
    show rwF r c b (k + d) (rwV r c b (k + d)) = 0
    rw [rw_stays r c b k h d]
    exact if_neg (by omega)
theorem kb_rg {k : Nat} {b : Int} (hk : k ≤ 12) (hb : 0 ≤ b ∧ b ≤ 2001) : 0 ≤ (k : Int) * b ∧ (k : Int) * b ≤ 12 * 2001 :=
  ⟨Int.mul_nonneg (by omega) hb.1, Int.mul_le_mul (by omega) hb.2 hb.1 (by decide)⟩
theorem c_X4_fits (n : Nat) (s t : Nat → Nat → Int) (h : REL s t) (Q : List Vl → Sto → Prop) (c b : Int) (hc : 0 ≤ c ∧ c ≤ 99) (hb : 0 ≤ b ∧ b ≤ 2001) (hq : Q [(1, rwV (t 139) c b (t 120 31).toNat)] (n, s)) : G 2 120 43 0 [(3, 117), (1, c), (1, b), (0, 0)] [] (n, s) Q := by
  obtain ⟨r1, r2, r3⟩ := h.r
  refine sb_X4_fits_0 n s Q c b h.1 ?_
  have loop : ∀ d k : Nat, k + d = (t 120 31).toNat → rwV (t 139) c b k = 1 → G 2 120 43 2 [(3, 117), (1, c), (1, b), (1, (k : Int))] [] (n, s) Q := by
    intro d
    induction d with
    | zero =>
      intro k hk h1
      refine sb_X4_fits_2 n s Q c b k h.1 ⟨fun _ => ?_, fun e => by omega⟩
      rw [show k = (t 120 31).toNat by omega] at h1
      rw [h1] at hq
      exact hq
    | succ d ih =>
      intro k hk h1
      have hkk := kb_rg (show k ≤ 12 by omega) hb
      have hr := r3 k (by omega)
      have hN : wr ((k : Int) + 1) = ((k + 1 : Nat) : Int) := wr_s (show k < 12 by omega) (by omega)
      refine sb_X4_fits_2 n s Q c b k h.1 ?_
      rw [hN]
      clear hN
      rw [Int.toNat_natCast, wr_id (x := (k : Int) * b) (by omega) (by omega), wr_id (x := c - (k : Int) * b) (by omega) (by omega), hr.1]
      refine ⟨fun e => by omega, fun _ => ⟨by omega, fun e => ?_, fun e => ?_⟩⟩
      · refine ih (k + 1) (by omega) ?_
        show rwF (t 139) c b k (rwV (t 139) c b k) = 1
        rw [h1]
        exact if_pos ⟨rfl, e⟩
      · have h0 : rwV (t 139) c b (k + 1) = 0 := by
          show rwF (t 139) c b k (rwV (t 139) c b k) = 0
          rw [h1]
          exact if_neg (fun g => e g.2)
        have := rw_stays (t 139) c b (k + 1) h0 d
        rw [show k + 1 + d = (t 120 31).toNat by omega] at this
        rw [this] at hq
        exact hq
  exact loop _ 0 (Nat.zero_add _) rfl
theorem c_X7_isRow (n : Nat) (t : Nat → Nat → Int) (Q : List Vl → Sto → Prop) (p : Nat) (hp : p < 6) (hR : refs t) (g1 : rgP (vw 121 t) p) (g2 : 0 ≤ t 123 p ∧ t 123 p ≤ 2000) (g3 : 0 ≤ t 125 p ∧ t 125 p ≤ 99) (g4 : 0 ≤ t 120 31 ∧ t 120 31 ≤ 12) (hq : Q [(1, rwV (t 139) (t 125 p) (bnW (vw 121 t) p) (t 120 31).toNat)] (n, t)) : G 120 140 191 0 [(3, 120), (1, (p : Int)), (0, 0), (0, 0), (0, 0), (0, 0)] [] (n, t) Q := by
  have hb : 1 ≤ bnW (vw 121 t) p ∧ bnW (vw 121 t) p ≤ 2001 := bnV_rg g1 g2
  generalize ec : t 125 p = c at *
  refine sb_X7_isRow_0 n t Q p hR ?_
  rw [Int.toNat_natCast, ec]
  refine ⟨by omega, g1, g2, ?_⟩
  generalize bnW (vw 121 t) p = b at *
  have hI : ∀ k, rwV (t 139) c b k = 0 ∨ rwV (t 139) c b k = 1 := by
    intro k
    cases k with
    | zero => exact Or.inr rfl
    | succ k =>
      show rwF (t 139) c b k _ = 0 ∨ rwF (t 139) c b k _ = 1
      unfold rwF
      split
      · exact Or.inr rfl
      · exact Or.inl rfl
  have loop : ∀ d k : Nat, k + d = (t 120 31).toNat → G 120 140 191 19 [(3, 120), (1, (p : Int)), (1, b), (1, max 0 (c - (k : Int) * b)), (1, rwV (t 139) c b k), (1, (k : Int))] [] (n, t) Q := by
    intro d
    induction d with
    | zero =>
      intro k hk
      have hk : k = (t 120 31).toNat := by omega
      refine sb_X7_isRow_19 n t Q _ _ _ _ _ hR ⟨fun _ => ⟨hI k, ?_⟩, fun e => by omega⟩
      rw [hk]
      exact hq
    | succ d ih =>
      intro k hk
      have hkk := kb_rg (show k ≤ 12 by omega) (show 0 ≤ b ∧ b ≤ 2001 by omega)
      have ih := ih (k + 1) (by omega)
      have em : ((k + 1 : Nat) : Int) * b = (k : Int) * b + b := by
        rw [Int.natCast_add, Int.add_mul]
        simp
      rw [em, ← wr_s (show k < 12 by omega) (by omega)] at ih
      have e0 : rwV (t 139) c b (k + 1) = rwF (t 139) c b k (rwV (t 139) c b k) := rfl
      rw [e0] at ih
      have e1 : max 0 (c - (k : Int) * b) ≤ b → max 0 (c - ((k : Int) * b + b)) = 0 := by omega
      have e2 : b < max 0 (c - (k : Int) * b) → max 0 (c - ((k : Int) * b + b)) = max 0 (c - (k : Int) * b) - b := by omega
      refine sb_X7_isRow_19 n t Q _ _ _ _ _ hR ?_
      rw [Int.toNat_natCast, wr_id (x := max 0 (c - (k : Int) * b) - b) (by omega) (by omega)]
      refine ⟨fun e => by omega, fun _ => ⟨fun e => ⟨fun f => ?_, fun f => ?_⟩, fun e => ⟨by omega, fun g => ⟨fun f => ?_, fun f => ?_⟩, fun g => ⟨fun f => ?_, fun f => ?_⟩⟩⟩⟩
      all_goals first | rw [e1 f] at ih | rw [e2 f] at ih
      · rw [show rwF (t 139) c b k (rwV (t 139) c b k) = 0 from if_neg (by omega)] at ih
        exact ih
      · rw [show rwF (t 139) c b k (rwV (t 139) c b k) = 0 from if_neg (by omega)] at ih
        exact ih
      · rw [show rwF (t 139) c b k (rwV (t 139) c b k) = 0 from if_neg (fun z => g z.2)] at ih
        exact ih
      · rw [show rwF (t 139) c b k (rwV (t 139) c b k) = 0 from if_neg (fun z => g z.2)] at ih
        exact ih
      · rw [show rwF (t 139) c b k (rwV (t 139) c b k) = 1 from if_pos ⟨(hI k).resolve_left e, g⟩] at ih
        exact ih
      · rw [show rwF (t 139) c b k (rwV (t 139) c b k) = 1 from if_pos ⟨(hI k).resolve_left e, g⟩] at ih
        exact ih
  have h0 := loop _ 0 (Nat.zero_add _)
  rw [show max 0 (c - ((0 : Nat) : Int) * b) = c by
    rw [show ((0 : Nat) : Int) * b = 0 from Int.zero_mul b]
    omega] at h0
  exact h0

theorem sb_X2_tellTo_0 (n : Nat) (s : Nat → Nat → Int) (Q : List Vl → Sto → Prop) (hR : refs s)
    (h : G 2 120 37 4 [(3, 115), (3, 13), (1, 0), (1, 0)] [] (n, s) Q) :
    G 2 120 37 0 [(3, 115), (3, 13), (0, 0), (0, 0)] [] (n, s) Q := by
  refine G_go rfl rfl ?_
  refine G_go rfl rfl ?_
  show G 2 120 37 2 [(3, 115), (3, 13), (1, 0), (0, 0)] [] (n, s) Q
  refine G_go rfl rfl ?_
  refine G_go rfl rfl ?_
  show G 2 120 37 4 [(3, 115), (3, 13), (1, 0), (1, 0)] [] (n, s) Q
  exact h
theorem sb_X2_tellTo_4 (n : Nat) (s : Nat → Nat → Int) (Q : List Vl → Sto → Prop) (x2 : Int) (x3 : Int) (hR : refs s)
    (h : (s 115 1 ≤ x3 → Q [(1, x2)] (n, s)) ∧ (x3 < s 115 1 → (x3 = 0 → G 2 120 31 0 [(3, 115), (3, 13), (1, x3), (0, 0), (0, 0)] [] (n, s) (fun r s1 => G 2 120 37 35 [(3, 115), (3, 13), (1, x2), (1, x3)] (r ++ []) s1 Q)) ∧ (x3 ≠ 0 → (0 ≤ wr (x3 - 1) ∧ wr (x3 - 1) < 96) ∧ ((s 116 ((wr (x3 - 1)).toNat) ≠ 59 → G 2 120 37 4 [(3, 115), (3, 13), (1, x2), (1, wr (x3 + 1))] [] (n, s) Q) ∧ (s 116 ((wr (x3 - 1)).toNat) = 59 → G 2 120 31 0 [(3, 115), (3, 13), (1, x3), (0, 0), (0, 0)] [] (n, s) (fun r s1 => G 2 120 37 35 [(3, 115), (3, 13), (1, x2), (1, x3)] (r ++ []) s1 Q)))))) :
    G 2 120 37 4 [(3, 115), (3, 13), (1, x2), (1, x3)] [] (n, s) Q := by
  refine G_go rfl rfl ?_
  refine G_go rfl rfl ?_
  refine G_rd rfl rfl (by decide) ?_
  refine G_ge rfl rfl (fun c1 => ?_) (fun c1 => ?_)
  · have h := h.1 c1
    refine G_go rfl rfl ?_
    exact G_ret rfl rfl h
  · have h := h.2 c1
    refine G_go rfl rfl ?_
    refine G_eq rfl rfl (fun c2 => ?_) (fun c2 => ?_)
    · have h := h.1 c2
      refine G_go rfl rfl ?_
      refine G_go rfl rfl ?_
      refine G_go rfl rfl ?_
      exact G_call rfl rfl h
    · have h := h.2 c2
      refine G_go rfl rfl ?_
      refine G_rf rfl rfl (by decide) (hR 115 0 116 rfl) ?_
      refine G_go rfl rfl ?_
      refine G_go rfl rfl ?_
      refine G_go rfl rfl ?_
      obtain ⟨g3, h⟩ := h
      refine G_ir (n := 96) rfl rfl (by decide) (by decide) g3 ?_
      refine G_go rfl rfl ?_
      refine G_ne rfl rfl (fun c4 => ?_) (fun c4 => ?_)
      · have h := h.1 c4
        refine G_go rfl rfl ?_
        refine G_go rfl rfl ?_
        exact h
      · have h := h.2 c4
        refine G_go rfl rfl ?_
        refine G_go rfl rfl ?_
        refine G_go rfl rfl ?_
        exact G_call rfl rfl h
theorem sb_X2_tellTo_35 (n : Nat) (s : Nat → Nat → Int) (Q : List Vl → Sto → Prop) (x2 : Int) (x3 : Int) (y0 : Int) (hR : refs s)
    (h : (y0 ≠ 0 → G 2 120 37 4 [(3, 115), (3, 13), (1, wr (x2 + 1)), (1, wr (x3 + 1))] [] (n, s) Q) ∧ (y0 = 0 → Q [(1, wr ((-2000) - x3))] (n, s))) :
    G 2 120 37 35 [(3, 115), (3, 13), (1, x2), (1, x3)] [(1, y0)] (n, s) Q := by
  refine G_ne rfl rfl (fun c1 => ?_) (fun c1 => ?_)
  · have h := h.1 c1
    refine G_go rfl rfl ?_
    refine G_go rfl rfl ?_
    refine G_go rfl rfl ?_
    exact h
  · have h := h.2 c1
    refine G_go rfl rfl ?_
    refine G_go rfl rfl ?_
    refine G_go rfl rfl ?_
    exact G_ret rfl rfl h
/-! THE CLASS TELLS THE TOWN. -/
def okW (T : Twn) : Prop := okT ((T.1 : Nat) : Int) T.2.2 ∧ 0 ≤ T.2.1 ∧ T.2.1 ≤ 999
def exQ (c : Nat → Int) (k : Nat) (T : Twn) : Option Twn := exS (c (stN c k)) (tvA c (stN c k)) (tvB c (stN c k)) (tvC c (stN c k)) T.1 T.2.1 T.2.2
def exI (c : Nat → Int) (T : Twn) : Nat → Option Twn
  | 0 => some T
  | k + 1 => (exI c T k).bind (exQ c k)
theorem ok_exQ {c : Nat → Int} {L k : Nat} {T T' : Twn} (w : wfS c L (stN c k)) (o : okW T) (e : exQ c k T = some T') : okW T' := by
  obtain ⟨m, h, V⟩ := T
  obtain ⟨o1, o2, o3⟩ := o
  unfold exQ at e
  generalize stN c k = p at w e
  have o1 : okT (m : Int) V := o1
  have o2 : 0 ≤ h := o2
  have o3 : h ≤ 999 := o3
  have e : exS (c p) (tvA c p) (tvB c p) (tvC c p) m h V = some T' := e
  obtain ⟨w1, w2, w3, w4⟩ := w
  obtain ⟨d1, d2, d3⟩ := dgN_rg w1
  have g1 : goodD c L (p + 1) := w2 0 (by omega)
  have g2 : 2 ≤ dgN c p → goodD c L (p + 2) := fun k => w2 1 (by omega)
  have g3 : 3 ≤ dgN c p → goodD c L (p + 3) := fun k => w2 2 (by omega)
  have g4 : 4 ≤ dgN c p → goodD c L (p + 4) := fun k => w2 3 (by omega)
  have b1 := g1.2
  have no : ∀ {x : Int}, dgO (c p) = x → ((dgN c p : Nat) : Int) = x := fun k => by rw [d3, k]
  rcases dg_lt w1 with l | l | l | l | l | l
  · have q := no (x := 4) (by rw [l]; rfl)
    have b2 := (g2 (by omega)).2
    have b3 := (g3 (by omega)).2
    have b4 := (g4 (by omega)).2
    have ea : tvA c p = c (p + 1) - 48 := if_neg (by omega)
    have eb : tvB c p = c (p + 2) - 48 := if_neg (by omega)
    have ec : tvC c p = 10 * (c (p + 3) - 48) + (c (p + 4) - 48) := rfl
    rw [l, exS_p] at e
    split at e
    · cases e
      exact ⟨ok_add o1 (by omega) ⟨by omega, by omega⟩ ⟨by omega, by omega⟩ ⟨by omega, by omega⟩, o2, o3⟩
    · cases e
  · have q := no (x := 3) (by rw [l]; rfl)
    have b2 := (g2 (by omega)).2
    have b3 := (g3 (by omega)).2
    have ea : tvA c p = c (p + 1) - 48 := if_neg (by omega)
    have eb : tvB c p = 10 * (c (p + 2) - 48) + (c (p + 3) - 48) := if_pos (Or.inl l)
    rw [l, exS_h] at e
    split at e
    · cases e
      exact ⟨⟨o1.1, okV_set o1.2 (by omega)⟩, o2, o3⟩
    · cases e
  · have q := no (x := 3) (by rw [l]; rfl)
    have b2 := (g2 (by omega)).2
    have b3 := (g3 (by omega)).2
    have ea : tvA c p = c (p + 1) - 48 := if_neg (by omega)
    have eb : tvB c p = 10 * (c (p + 2) - 48) + (c (p + 3) - 48) := if_pos (Or.inr l)
    rw [l, exS_c] at e
    split at e
    · cases e
      refine ⟨⟨o1.1, ?_⟩, o2, o3⟩
      show okV (m : Int) (if tvB c p = 0 then upS (upS V 4 (tvA c p).toNat (tvB c p)) 5 (tvA c p).toNat 0 else upS V 4 (tvA c p).toNat (tvB c p))
      split
      · exact okV_set (okV_set o1.2 (by omega)) (by omega)
      · exact okV_set o1.2 (by omega)
    · cases e
  · have q := no (x := 2) (by rw [l]; rfl)
    have b2 := (g2 (by omega)).2
    have ea : tvA c p = c (p + 1) - 48 := if_neg (by omega)
    have eb : tvB c p = c (p + 2) - 48 := if_neg (by omega)
    rw [l, exS_t] at e
    split at e
    · cases e
      refine ⟨⟨o1.1, okV_set o1.2 ?_⟩, o2, o3⟩
      have : tuC V (tvA c p).toNat (tvB c p) = -9 ∨ tuC V (tvA c p).toNat (tvB c p) = tvB c p := by
        unfold tuC
        split
        · exact Or.inl rfl
        · exact Or.inr rfl
      omega
    · cases e
  · have q := no (x := 1) (by rw [l]; rfl)
    have ea : tvA c p = c (p + 1) - 48 := if_neg (by omega)
    rw [l, exS_l] at e
    split at e
    · cases e
      have o5 := (o1.2 (tvA c p).toNat (by omega)).2.2.2.2.2.1
      exact ⟨⟨o1.1, okV_set o1.2 (by omega)⟩, o2, o3⟩
    · cases e
  · have q := no (x := 2) (by rw [l]; rfl)
    rw [l, exS_n] at e
    split at e
    · cases e
      have eh := hrN_h (V := ltV m (dkV m V)) o2 (tvA c p).toNat (by omega)
      refine ⟨okT_nt o1, ?_⟩
      show 0 ≤ (hrN (tvA c p).toNat h (ltV m (dkV m V))).1 ∧ (hrN (tvA c p).toNat h (ltV m (dkV m V))).1 ≤ 999
      omega
    · cases e
theorem tl_skip (n : Nat) (s : Nat → Nat → Int) (Q : List Vl → Sto → Prop) (hR : refs s) (L p : Nat) (x2 : Int) (hL : s 115 1 = (L : Int)) (hL2 : L ≤ 96) (w : wfS (s 116) L p) : ∀ j, j ≤ dgN (s 116) p + 1 → G 2 120 37 4 [(3, 115), (3, 13), (1, x2), (1, ((p + 1 + j : Nat) : Int))] [] (n, s) Q → G 2 120 37 4 [(3, 115), (3, 13), (1, x2), (1, ((p + 1 : Nat) : Int))] [] (n, s) Q
  | 0, _, g => g
  | j + 1, hj, g => by
    refine tl_skip n s Q hR L p x2 hL hL2 w j (by omega) ?_
    obtain ⟨w1, w2, w3, w4⟩ := w
    have ne : s 116 (p + j) ≠ 59 := by
      by_cases z : j = 0
      · subst z
        have := dg_lt w1
        rw [Nat.add_zero]
        omega
      · have b := (w2 (j - 1) (by omega)).2
        rw [show p + 1 + (j - 1) = p + j by omega] at b
        omega
    have p96 : p + 1 + j < 96 := by omega
    refine sb_X2_tellTo_4 n s Q x2 _ hR ?_
    have ew : wr (((p + 1 + j : Nat) : Int) - 1) = ((p + j : Nat) : Int) := by
      rw [wr_id (by omega) (by omega)]
      omega
    rw [hL, ew, Int.toNat_natCast, wr_s p96 (by decide)]
    clear ew
    exact ⟨fun e => by omega, fun _ => ⟨fun e => by omega, fun _ => ⟨by omega, fun _ => g, fun e => absurd e ne⟩⟩⟩
theorem tl_stmt (n : Nat) (s : Nat → Nat → Int) (Q : List Vl → Sto → Prop) (hR : refs s) (c : Nat → Int) (hc : s 116 = c) (L k : Nat) (T : Twn) (hL : s 115 1 = (L : Int)) (hL2 : L ≤ 96) (hk : k ≤ 32) (w : wfS c L (stN c k)) (o : okW T) (ht : twC 13 s T.1 T.2.1 T.2.2) (h59 : stN c k ≠ 0 → c (stN c k - 1) = 59) (h0 : exQ c k T = none → Q [(1, -2000 - ((stN c k : Nat) : Int))] (n, s)) (h1 : ∀ T', exQ c k T = some T' → ∀ s1, refs s1 → frT 13 s s1 → twC 13 s1 T'.1 T'.2.1 T'.2.2 → G 2 120 37 4 [(3, 115), (3, 13), (1, ((k + 1 : Nat) : Int)), (1, ((stN c (k + 1) : Nat) : Int))] [] (n, s1) Q) : G 2 120 37 4 [(3, 115), (3, 13), (1, (k : Int)), (1, ((stN c k : Nat) : Int))] [] (n, s) Q := by
  subst hc
  have w3 := w.2.2.1
  have ei : stN (s 116) k + 1 + (dgN (s 116) (stN (s 116) k) + 1) = stN (s 116) (k + 1) := by
    show _ = stN (s 116) k + dgN (s 116) (stN (s 116) k) + 2
    omega
  have a : G 2 120 31 0 [(3, 115), (3, 13), (1, ((stN (s 116) k : Nat) : Int)), (0, 0), (0, 0)] [] (n, s) (fun r s1 => G 2 120 37 35 [(3, 115), (3, 13), (1, (k : Int)), (1, ((stN (s 116) k : Nat) : Int))] (r ++ []) s1 Q) := by
    refine c_comes n s _ hR L _ T.1 T.2.1 T.2.2 hL hL2 w o.1 o.2 ht (fun e => ?_) (fun T' e s1 r1 f1 t1 => ?_)
    · refine sb_X2_tellTo_35 n s Q k _ 0 hR ⟨fun c => absurd rfl c, fun _ => ?_⟩
      rw [wr_id (by omega) (by omega)]
      exact h0 e
    · refine sb_X2_tellTo_35 n s1 Q k _ 1 r1 ⟨fun _ => ?_, fun c => absurd c (by decide)⟩
      rw [wr_s (show k < 96 by omega) (by decide), wr_s (show stN (s 116) k < 96 by omega) (by decide)]
      have e15 : s1 115 = s 115 := f1 115 (by omega)
      have e16 : s1 116 = s 116 := f1 116 (by omega)
      refine tl_skip n s1 Q r1 L (stN (s 116) k) _ (by rw [e15]; exact hL) hL2 (by rw [e16]; exact w) (dgN (s 116) (stN (s 116) k) + 1) (by rw [e16]; exact Nat.le_refl _) ?_
      rw [ei]
      exact h1 T' e s1 r1 f1 t1
  refine sb_X2_tellTo_4 n s Q k _ hR ⟨fun e => by omega, fun _ => ⟨fun _ => a, fun e => ?_⟩⟩
  have ew : wr (((stN (s 116) k : Nat) : Int) - 1) = ((stN (s 116) k - 1 : Nat) : Int) := by
    rw [wr_id (by omega) (by omega)]
    omega
  rw [ew, Int.toNat_natCast]
  clear ew
  exact ⟨by omega, fun z => absurd (h59 (by omega)) z, fun _ => a⟩
theorem st_59 {c : Nat → Int} {L K : Nat} (w : wfN c L K) : ∀ k, k ≤ K → stN c k ≠ 0 → c (stN c k - 1) = 59
  | 0, _, h => absurd rfl h
  | k + 1, hk, _ => by
    have q := (w k (by omega)).2.2.2
    have ei : stN c (k + 1) - 1 = stN c k + 1 + dgN c (stN c k) := by
      show stN c k + dgN c (stN c k) + 2 - 1 = _
      omega
    rw [ei]
    exact q
theorem wfN_le {c : Nat → Int} {L K k : Nat} (w : wfN c L K) (h : k ≤ K) : wfN c L k := fun j hj => w j (by omega)
theorem st_le {c : Nat → Int} {L K : Nat} (w : wfN c L K) (hL2 : L ≤ 96) : K ≤ 32 := by
  have g := stN_ge K w
  by_cases z : K = 0
  · omega
  · have := g.2 (by omega)
    omega
theorem tl_run (n : Nat) (Q : List Vl → Sto → Prop) (c : Nat → Int) (L K : Nat) (T0 : Twn) (s0 : Nat → Nat → Int) (hL2 : L ≤ 96) (hK : 1 ≤ K) (w : wfN c L K) (eK : stN c K = L)
    (hb : ∀ j T, j < K → exI c T0 j = some T → exQ c j T = none → ∀ s, refs s → frT 13 s0 s → Q [(1, -2000 - ((stN c j : Nat) : Int))] (n, s))
    (hg : ∀ T, exI c T0 K = some T → okW T → ∀ s, refs s → frT 13 s0 s → twC 13 s T.1 T.2.1 T.2.2 → Q [(1, (K : Int))] (n, s)) :
    ∀ f k, k + f = K → ∀ s T, refs s → frT 13 s0 s → s 116 = c → s 115 1 = (L : Int) → twC 13 s T.1 T.2.1 T.2.2 → okW T → exI c T0 k = some T → G 2 120 37 4 [(3, 115), (3, 13), (1, (k : Int)), (1, ((stN c k : Nat) : Int))] [] (n, s) Q := by
  intro f
  induction f with
  | zero =>
    intro k hk s T hR f1 hc hL ht o e
    have : k = K := by omega
    subst this
    exact sb_X2_tellTo_4 n s Q k _ hR ⟨fun _ => hg T e o s hR f1 ht, fun x => by omega⟩
  | succ f ih =>
    intro k hk s T hR f1 hc hL ht o e
    have := st_le w hL2
    refine tl_stmt n s Q hR c hc L k T hL hL2 (by omega) (w k (by omega)) o ht (st_59 w k (by omega)) (fun e0 => hb k T (by omega) e e0 s hR f1) (fun T' e1 s1 r1 f2 t1 => ?_)
    refine ih (k + 1) (by omega) s1 T' r1 (frT_trans f1 f2) (by rw [f2 116 (by omega)]; exact hc) (by rw [f2 115 (by omega)]; exact hL) t1 (ok_exQ (w k (by omega)) o e1) ?_
    show (exI c T0 k).bind (exQ c k) = some T'
    rw [e]
    exact e1
theorem c_tellTo (n : Nat) (s : Nat → Nat → Int) (Q : List Vl → Sto → Prop) (hR : refs s) (c : Nat → Int) (hc : s 116 = c) (L K : Nat) (T0 : Twn) (hL : s 115 1 = (L : Int)) (hL2 : L ≤ 96) (hK : 1 ≤ K) (w : wfN c L K) (eK : stN c K = L) (ht : twC 13 s T0.1 T0.2.1 T0.2.2) (o : okW T0)
    (hb : ∀ j T, j < K → exI c T0 j = some T → exQ c j T = none → ∀ s1, refs s1 → frT 13 s s1 → Q [(1, -2000 - ((stN c j : Nat) : Int))] (n, s1))
    (hg : ∀ T, exI c T0 K = some T → okW T → ∀ s1, refs s1 → frT 13 s s1 → twC 13 s1 T.1 T.2.1 T.2.2 → Q [(1, (K : Int))] (n, s1)) : G 2 120 37 0 [(3, 115), (3, 13), (0, 0), (0, 0)] [] (n, s) Q :=
  sb_X2_tellTo_0 n s Q hR (tl_run n Q c L K T0 s hL2 hK w eK hb hg K 0 (by omega) s T0 hR frT_rfl hc hL ht o rfl)

/-! NIGHTS. Row 8 of a town: what each gave. -/
def dkF (p : Nat) (V : Nat → Nat → Int) : Nat → Nat → Int := if 0 ≤ V 7 p then upS (upS (upS V 8 p (V 2 p)) 2 p 0) 2 (V 7 p).toNat (min 999 (V 2 (V 7 p).toNat + V 2 p)) else V
def ltV (k : Nat) (V : Nat → Nat → Int) (j p : Nat) : Int := if j = 5 ∧ p < k then (if 0 < V 4 p then 1 else 0) else V j p
def dwF (p : Nat) (V : Nat → Nat → Int) : Nat → Nat → Int := if 0 ≤ V 7 p then upS (upS V 2 (V 7 p).toNat (V 2 (V 7 p).toNat - min (if hnW V (V 7 p).toNat = 0 then V 8 p / 2 else V 8 p) (V 2 (V 7 p).toNat))) 2 p (min 999 (V 2 p + min (if hnW V (V 7 p).toNat = 0 then V 8 p / 2 else V 8 p) (V 2 (V 7 p).toNat))) else V
def ofV (k : Nat) (V : Nat → Nat → Int) (j p : Nat) : Int := if j = 5 ∧ k ≤ p then 0 else V j p
def dkV (k : Nat) (V : Nat → Nat → Int) : Nat → Nat → Int := itr dkF V k
def dwV (np k : Nat) (V : Nat → Nat → Int) : Nat → Nat → Int := itr (fun i W => dwF (np - 1 - i) W) V k
def ntV (np N : Nat) (h : Int) (V : Nat → Nat → Int) : Nat → Nat → Int := ofV 0 (dwV np np (hrN N h (ltV np (dkV np V))).2)
theorem dk_o {p j q : Nat} {V : Nat → Nat → Int} (h2 : j ≠ 2) (h8 : j ≠ 8) : dkF p V j q = V j q := by
  unfold dkF
  split
  · rw [upS_1 h2, upS_1 h2, upS_1 h8]
  · rfl
theorem dk_8 {p q : Nat} {V : Nat → Nat → Int} (h : q ≠ p) : dkF p V 8 q = V 8 q := by
  unfold dkF
  split
  · rw [upS_1 (by decide), upS_1 (by decide), upS_2 h]
  · rfl
theorem dk_8p {p : Nat} {V : Nat → Nat → Int} (h : 0 ≤ V 7 p) : dkF p V 8 p = V 2 p := by
  unfold dkF
  rw [if_pos h, upS_1 (by decide), upS_1 (by decide), upS_eq]
theorem dk_2 {p q : Nat} {V : Nat → Nat → Int} (h : 0 ≤ V 7 p) (hc : (V 7 p).toNat ≠ p) : dkF p V 2 q = if q = (V 7 p).toNat then min 999 (V 2 q + V 2 p) else if q = p then 0 else V 2 q := by
  unfold dkF
  rw [if_pos h]
  by_cases c : q = (V 7 p).toNat
  · rw [if_pos c, ← c, upS_eq]
  · rw [if_neg c, upS_2 c]
    by_cases d : q = p
    · rw [if_pos d, d, upS_eq]
    · rw [if_neg d, upS_2 d, upS_1 (by decide)]
theorem dkV_o {k j q : Nat} {V : Nat → Nat → Int} (h2 : j ≠ 2) (h8 : j ≠ 8) : dkV k V j q = V j q := by
  induction k with
  | zero => rfl
  | succ k ih =>
    show dkF k (dkV k V) j q = V j q
    rw [dk_o h2 h8, ih]
theorem co_ne {np : Int} {V : Nat → Nat → Int} (h : okV np V) {p : Nat} (hp : (p : Int) < np) (c : 0 ≤ V 7 p) : (V 7 p).toNat ≠ p ∧ V 7 p < np := by
  obtain ⟨_, _, _, _, _, _, _, h7⟩ := h p hp
  omega
theorem ok_row2 {np : Int} {V W : Nat → Nat → Int} (h : okV np V) (e : ∀ j, j ≠ 2 → j ≠ 8 → ∀ q, W j q = V j q) (e2 : ∀ q : Nat, (q : Int) < np → 0 ≤ W 2 q ∧ W 2 q ≤ 999) : okV np W := by
  intro p hp
  have g := h p hp
  rw [e 0 (by decide) (by decide), e 1 (by decide) (by decide), e 3 (by decide) (by decide), e 4 (by decide) (by decide), e 5 (by decide) (by decide), e 6 (by decide) (by decide), e 7 (by decide) (by decide)]
  exact ⟨g.1, g.2.1, e2 p hp, g.2.2.2⟩
theorem okV_dk {np : Int} {V : Nat → Nat → Int} (h : okV np V) {p : Nat} (hp : (p : Int) < np) : okV np (dkF p V) := by
  by_cases c : 0 ≤ V 7 p
  · refine ok_row2 h (fun j h2 h8 q => dk_o h2 h8) (fun q hq => ?_)
    obtain ⟨c1, c2⟩ := co_ne h hp c
    rw [dk_2 c c1]
    have gp := (h p hp).2.2.1
    have gq := (h q hq).2.2.1
    split
    · omega
    · split <;> omega
  · unfold dkF
    rw [if_neg c]
    exact h
theorem okV_dkV {np : Int} {V : Nat → Nat → Int} (h : okV np V) : ∀ k : Nat, (k : Int) ≤ np → okV np (dkV k V)
  | 0, _ => h
  | k + 1, hk => okV_dk (okV_dkV h k (by omega)) (by omega)
theorem dkV_8 {np : Int} {V : Nat → Nat → Int} (h : okV np V) {p : Nat} (hp : (p : Int) < np) (c : 0 ≤ V 7 p) : ∀ k : Nat, (k : Int) ≤ np → p < k → 0 ≤ dkV k V 8 p ∧ dkV k V 8 p ≤ 999
  | 0, _, hk => absurd hk (by omega)
  | k + 1, hk, hpk => by
    show 0 ≤ dkF k (dkV k V) 8 p ∧ dkF k (dkV k V) 8 p ≤ 999
    by_cases e : p = k
    · subst e
      rw [dk_8p (by rw [dkV_o (by decide) (by decide)]; exact c)]
      exact (okV_dkV h p (by omega) p hp).2.2.1
    · rw [dk_8 e]
      exact dkV_8 h hp c k (by omega) (by omega)
theorem ltV_o {k j q : Nat} {V : Nat → Nat → Int} (h : j ≠ 5) : ltV k V j q = V j q := if_neg (fun e => h e.1)
theorem ltV_ne {k j q : Nat} {V : Nat → Nat → Int} (h : q ≠ k) : ltV (k + 1) V j q = ltV k V j q := by
  unfold ltV
  by_cases c : j = 5 ∧ q < k
  · rw [if_pos c, if_pos ⟨c.1, by omega⟩]
  · rw [if_neg c, if_neg (fun e => c ⟨e.1, by omega⟩)]
theorem ltV_s {k : Nat} {V : Nat → Nat → Int} : ltV (k + 1) V 5 k = if 0 < V 4 k then 1 else 0 := if_pos ⟨rfl, by omega⟩
theorem ltV_k {k j : Nat} {V : Nat → Nat → Int} : ltV k V j k = V j k := if_neg (fun e => absurd e.2 (by omega))
theorem ltV_0 {j q : Nat} {V : Nat → Nat → Int} : ltV 0 V j q = V j q := if_neg (fun e => absurd e.2 (by omega))
theorem okV_lt {np : Int} {V : Nat → Nat → Int} (h : okV np V) (k : Nat) : okV np (ltV k V) := by
  intro p hp
  have g := h p hp
  rw [ltV_o (j := 0) (by decide), ltV_o (j := 1) (by decide), ltV_o (j := 2) (by decide), ltV_o (j := 3) (by decide), ltV_o (j := 4) (by decide), ltV_o (j := 6) (by decide), ltV_o (j := 7) (by decide)]
  refine ⟨g.1, g.2.1, g.2.2.1, g.2.2.2.1, g.2.2.2.2.1, ?_, g.2.2.2.2.2.2⟩
  unfold ltV
  split
  · split
    · exact Or.inr rfl
    · exact Or.inl rfl
  · exact g.2.2.2.2.2.1
theorem ofV_o {k j q : Nat} {V : Nat → Nat → Int} (h : j ≠ 5) : ofV k V j q = V j q := if_neg (fun e => h e.1)
theorem ofV_ne {k j q : Nat} {V : Nat → Nat → Int} (h : q ≠ k) : ofV k V j q = ofV (k + 1) V j q := by
  unfold ofV
  by_cases c : j = 5 ∧ k + 1 ≤ q
  · rw [if_pos c, if_pos ⟨c.1, by omega⟩]
  · rw [if_neg c, if_neg (fun e => c ⟨e.1, by omega⟩)]
theorem ofV_s {k : Nat} {V : Nat → Nat → Int} : ofV k V 5 k = 0 := if_pos ⟨rfl, by omega⟩
theorem okV_of {np : Int} {V : Nat → Nat → Int} (h : okV np V) (k : Nat) : okV np (ofV k V) := by
  intro p hp
  have g := h p hp
  rw [ofV_o (j := 0) (by decide), ofV_o (j := 1) (by decide), ofV_o (j := 2) (by decide), ofV_o (j := 3) (by decide), ofV_o (j := 4) (by decide), ofV_o (j := 6) (by decide), ofV_o (j := 7) (by decide)]
  refine ⟨g.1, g.2.1, g.2.2.1, g.2.2.2.1, g.2.2.2.2.1, ?_, g.2.2.2.2.2.2⟩
  unfold ofV
  split
  · exact Or.inl rfl
  · exact g.2.2.2.2.2.1
/-- what comes back to one -/
def dueV (V : Nat → Nat → Int) (p : Nat) : Int := min (if hnW V (V 7 p).toNat = 0 then V 8 p / 2 else V 8 p) (V 2 (V 7 p).toNat)
theorem dw_o {p j q : Nat} {V : Nat → Nat → Int} (h2 : j ≠ 2) : dwF p V j q = V j q := by
  unfold dwF
  split
  · rw [upS_1 h2, upS_1 h2]
  · rfl
theorem dw_2 {p q : Nat} {V : Nat → Nat → Int} (h : 0 ≤ V 7 p) (hc : (V 7 p).toNat ≠ p) : dwF p V 2 q = if q = p then min 999 (V 2 p + dueV V p) else if q = (V 7 p).toNat then V 2 q - dueV V p else V 2 q := by
  unfold dwF
  rw [if_pos h]
  by_cases c : q = p
  · rw [if_pos c, c, upS_eq]
    rfl
  · rw [if_neg c, upS_2 c]
    by_cases d : q = (V 7 p).toNat
    · rw [if_pos d, ← d, upS_eq, d]
      rfl
    · rw [if_neg d, upS_2 d]
theorem due_rg {np : Int} {V : Nat → Nat → Int} (h : okV np V) {p : Nat} (hp : (p : Int) < np) (c : 0 ≤ V 7 p) (g : 0 ≤ V 8 p ∧ V 8 p ≤ 999) : 0 ≤ dueV V p ∧ dueV V p ≤ 999 ∧ dueV V p ≤ V 2 (V 7 p).toNat := by
  obtain ⟨c1, c2⟩ := co_ne h hp c
  have gc := (h (V 7 p).toNat (by omega)).2.2.1
  unfold dueV
  split <;> omega
theorem okV_dw {np : Int} {V : Nat → Nat → Int} (h : okV np V) {p : Nat} (hp : (p : Int) < np) (g : 0 ≤ V 7 p → 0 ≤ V 8 p ∧ V 8 p ≤ 999) : okV np (dwF p V) := by
  by_cases c : 0 ≤ V 7 p
  · refine ok_row2 h (fun j h2 h8 q => dw_o h2) (fun q hq => ?_)
    obtain ⟨c1, c2⟩ := co_ne h hp c
    have d := due_rg h hp c (g c)
    rw [dw_2 c c1]
    have gp := (h p hp).2.2.1
    have gq := (h q hq).2.2.1
    split
    · omega
    · split
      · rename_i e1 e2
        subst e2
        omega
      · exact gq
  · unfold dwF
    rw [if_neg c]
    exact h
theorem dwV_o {np k j q : Nat} {V : Nat → Nat → Int} (h2 : j ≠ 2) : dwV np k V j q = V j q := by
  induction k with
  | zero => rfl
  | succ k ih =>
    show dwF (np - 1 - k) (dwV np k V) j q = V j q
    rw [dw_o h2, ih]
def gvO (np : Int) (V : Nat → Nat → Int) : Prop := ∀ p : Nat, (p : Int) < np → 0 ≤ V 7 p → 0 ≤ V 8 p ∧ V 8 p ≤ 999
theorem okV_dwV {m : Nat} {V : Nat → Nat → Int} (h : okV (m : Int) V) (g : gvO m V) : ∀ k : Nat, k ≤ m → okV m (dwV m k V)
  | 0, _ => h
  | k + 1, hk => okV_dw (okV_dwV h g k (by omega)) (by omega) (fun c => by
      rw [dwV_o (by decide)] at c ⊢
      exact g _ (by omega) c)
theorem nt_gv {m N : Nat} {h : Int} {V : Nat → Nat → Int} (o : okV (m : Int) V) : gvO m (hrN N h (ltV m (dkV m V))).2 := by
  intro p hp c
  rw [hrN_7, ltV_o (by decide), dkV_o (by decide) (by decide)] at c
  rw [hrN_8, ltV_o (by decide)]
  exact dkV_8 o hp c m (Int.le_refl _) (by omega)
theorem okT_mid {m N : Nat} {h : Int} {V : Nat → Nat → Int} (o : okT (m : Int) V) : okT m (hrN N h (ltV m (dkV m V))).2 := okT_hrN ⟨o.1, okV_lt (okV_dkV o.2 m (Int.le_refl _)) m⟩ N
theorem okT_nt {m N : Nat} {h : Int} {V : Nat → Nat → Int} (o : okT (m : Int) V) : okT m (ntV m N h V) := ⟨o.1, okV_of (okV_dwV (okT_mid o).2 (nt_gv o.2) m (Nat.le_refl m)) 0⟩
theorem sb_X5_dusk_0_3 (n : Nat) (s : Nat → Nat → Int) (Q : List Vl → Sto → Prop) (hR : refs s)
    (h : G 2 120 25 2 [(3, 3), (1, 0), (0, 0)] [] (n, s) Q) :
    G 2 120 25 0 [(3, 3), (0, 0), (0, 0)] [] (n, s) Q := by
  refine G_go rfl rfl ?_
  refine G_go rfl rfl ?_
  show G 2 120 25 2 [(3, 3), (1, 0), (0, 0)] [] (n, s) Q
  exact h
theorem sb_X5_dusk_2_3 (n : Nat) (s : Nat → Nat → Int) (Q : List Vl → Sto → Prop) (x1 : Int) (w2 : Vl) (hR : refs s)
    (h : (s 3 9 ≤ x1 → Q [] (n, s)) ∧ (x1 < s 3 9 → (0 ≤ x1 ∧ x1 < 6) ∧ ((s 11 x1.toNat < 0 → (s 8 x1.toNat ≤ 0 → G 2 120 25 2 [(3, 3), (1, wr (x1 + 1)), (1, s 11 x1.toNat)] [] (n, upS s 9 x1.toNat 0) Q) ∧ (0 < s 8 x1.toNat → G 2 120 25 2 [(3, 3), (1, wr (x1 + 1)), (1, s 11 x1.toNat)] [] (n, upS s 9 x1.toNat 1) Q)) ∧ (0 ≤ s 11 x1.toNat → (s 3 9 ≤ s 11 x1.toNat → (s 8 x1.toNat ≤ 0 → G 2 120 25 2 [(3, 3), (1, wr (x1 + 1)), (1, s 11 x1.toNat)] [] (n, upS s 9 x1.toNat 0) Q) ∧ (0 < s 8 x1.toNat → G 2 120 25 2 [(3, 3), (1, wr (x1 + 1)), (1, s 11 x1.toNat)] [] (n, upS s 9 x1.toNat 1) Q)) ∧ (s 11 x1.toNat < s 3 9 → (0 ≤ s 11 x1.toNat ∧ s 11 x1.toNat < 6) ∧ ((s 8 x1.toNat ≤ 0 → G 2 120 25 2 [(3, 3), (1, wr (x1 + 1)), (1, s 11 x1.toNat)] [] (n, upS (upS (upS (upS s 12 x1.toNat (s 6 x1.toNat)) 6 x1.toNat 0) 6 ((s 11 x1.toNat).toNat) (min 999 (wr (((upS (upS s 12 x1.toNat (s 6 x1.toNat)) 6 x1.toNat 0) 6 ((s 11 x1.toNat).toNat)) + (s 6 x1.toNat))))) 9 x1.toNat 0) Q) ∧ (0 < s 8 x1.toNat → G 2 120 25 2 [(3, 3), (1, wr (x1 + 1)), (1, s 11 x1.toNat)] [] (n, upS (upS (upS (upS s 12 x1.toNat (s 6 x1.toNat)) 6 x1.toNat 0) 6 ((s 11 x1.toNat).toNat) (min 999 (wr (((upS (upS s 12 x1.toNat (s 6 x1.toNat)) 6 x1.toNat 0) 6 ((s 11 x1.toNat).toNat)) + (s 6 x1.toNat))))) 9 x1.toNat 1) Q))))))) :
    G 2 120 25 2 [(3, 3), (1, x1), w2] [] (n, s) Q := by
  refine G_go rfl rfl ?_
  refine G_go rfl rfl ?_
  refine G_rd rfl rfl (by decide) ?_
  refine G_ge rfl rfl (fun c1 => ?_) (fun c1 => ?_)
  · have h := h.1 c1
    exact G_ret rfl rfl h
  · have h := h.2 c1
    refine G_go rfl rfl ?_
    refine G_rf rfl rfl (by decide) (hR 3 7 11 rfl) ?_
    refine G_go rfl rfl ?_
    obtain ⟨g2, h⟩ := h
    refine G_ir (n := 6) rfl rfl (by decide) (by decide) g2 ?_
    refine G_go rfl rfl ?_
    show G 2 120 25 17 [(3, 3), (1, x1), (1, s 11 x1.toNat)] [] (n, s) Q
    refine G_go rfl rfl ?_
    refine G_go rfl rfl ?_
    refine G_call rfl rfl ?_
    refine G_go rfl rfl ?_
    refine G_lt rfl rfl (fun c3 => ?_) (fun c3 => ?_)
    · have h := h.1 c3
      refine G_go rfl rfl ?_
      refine G_ret rfl rfl ?_
      refine G_brT rfl rfl rfl ?_
      refine G_go rfl rfl ?_
      refine G_rf rfl rfl (by decide) (hR 3 5 9 rfl) ?_
      refine G_go rfl rfl ?_
      refine G_go rfl rfl ?_
      refine G_rf rfl rfl (by decide) (hR 3 4 8 rfl) ?_
      refine G_go rfl rfl ?_
      refine G_ir (n := 6) rfl rfl (by decide) (by decide) g2 ?_
      refine G_le rfl rfl (fun c4 => ?_) (fun c4 => ?_)
      · have h := h.1 c4
        refine G_go rfl rfl ?_
        refine G_zw (n := 6) rfl rfl (by decide) (by decide) g2 (by decide) ?_
        have hR := refs_up (a := 9) (k := x1.toNat) (x := 0) hR rfl
        refine G_go rfl rfl ?_
        refine G_go rfl rfl ?_
        exact h
      · have h := h.2 c4
        refine G_go rfl rfl ?_
        refine G_go rfl rfl ?_
        refine G_zw (n := 6) rfl rfl (by decide) (by decide) g2 (by decide) ?_
        have hR := refs_up (a := 9) (k := x1.toNat) (x := 1) hR rfl
        refine G_go rfl rfl ?_
        refine G_go rfl rfl ?_
        exact h
    · have h := h.2 c3
      refine G_go rfl rfl ?_
      refine G_go rfl rfl ?_
      refine G_rd rfl rfl (by decide) ?_
      refine G_ge rfl rfl (fun c5 => ?_) (fun c5 => ?_)
      · have h := h.1 c5
        refine G_go rfl rfl ?_
        refine G_ret rfl rfl ?_
        refine G_brT rfl rfl rfl ?_
        refine G_go rfl rfl ?_
        refine G_rf rfl rfl (by decide) (hR 3 5 9 rfl) ?_
        refine G_go rfl rfl ?_
        refine G_go rfl rfl ?_
        refine G_rf rfl rfl (by decide) (hR 3 4 8 rfl) ?_
        refine G_go rfl rfl ?_
        refine G_ir (n := 6) rfl rfl (by decide) (by decide) g2 ?_
        refine G_le rfl rfl (fun c6 => ?_) (fun c6 => ?_)
        · have h := h.1 c6
          refine G_go rfl rfl ?_
          refine G_zw (n := 6) rfl rfl (by decide) (by decide) g2 (by decide) ?_
          have hR := refs_up (a := 9) (k := x1.toNat) (x := 0) hR rfl
          refine G_go rfl rfl ?_
          refine G_go rfl rfl ?_
          exact h
        · have h := h.2 c6
          refine G_go rfl rfl ?_
          refine G_go rfl rfl ?_
          refine G_zw (n := 6) rfl rfl (by decide) (by decide) g2 (by decide) ?_
          have hR := refs_up (a := 9) (k := x1.toNat) (x := 1) hR rfl
          refine G_go rfl rfl ?_
          refine G_go rfl rfl ?_
          exact h
      · have h := h.2 c5
        refine G_go rfl rfl ?_
        refine G_go rfl rfl ?_
        refine G_ret rfl rfl ?_
        refine G_brF rfl rfl rfl ?_
        refine G_go rfl rfl ?_
        refine G_rf rfl rfl (by decide) (hR 3 8 12 rfl) ?_
        refine G_go rfl rfl ?_
        refine G_go rfl rfl ?_
        refine G_rf rfl rfl (by decide) (hR 3 2 6 rfl) ?_
        refine G_go rfl rfl ?_
        refine G_ir (n := 6) rfl rfl (by decide) (by decide) g2 ?_
        refine G_iw (n := 6) rfl rfl (by decide) (by decide) g2 ?_
        have hR := refs_up (a := 12) (k := x1.toNat) (x := s 6 x1.toNat) hR rfl
        refine G_go rfl rfl ?_
        refine G_rf rfl rfl (by decide) (hR 3 2 6 rfl) ?_
        refine G_go rfl rfl ?_
        refine G_go rfl rfl ?_
        refine G_iw (n := 6) rfl rfl (by decide) (by decide) g2 ?_
        have hR := refs_up (a := 6) (k := x1.toNat) (x := 0) hR rfl
        refine G_go rfl rfl ?_
        refine G_rf rfl rfl (by decide) (hR 3 2 6 rfl) ?_
        refine G_go rfl rfl ?_
        refine G_go rfl rfl ?_
        refine G_go rfl rfl ?_
        refine G_go rfl rfl ?_
        refine G_rf rfl rfl (by decide) (hR 3 8 12 rfl) ?_
        refine G_go rfl rfl ?_
        refine G_irv (n := 6) (v := s 6 x1.toNat) rfl rfl (by decide) (by decide) g2 (by simp [upS]) ?_
        refine G_call rfl rfl ?_
        refine G_go rfl rfl ?_
        refine G_go rfl rfl ?_
        refine G_rf rfl rfl (by decide) (hR 3 2 6 rfl) ?_
        refine G_go rfl rfl ?_
        obtain ⟨g7, h⟩ := h
        refine G_ir (n := 6) rfl rfl (by decide) (by decide) g7 ?_
        refine G_go rfl rfl ?_
        refine G_go rfl rfl ?_
        refine G_min rfl rfl ?_
        refine G_ret rfl rfl ?_
        refine G_iw (n := 6) rfl rfl (by decide) (by decide) g7 ?_
        have hR := refs_up (a := 6) (k := (s 11 x1.toNat).toNat) (x := min 999 (wr (((upS (upS s 12 x1.toNat (s 6 x1.toNat)) 6 x1.toNat 0) 6 ((s 11 x1.toNat).toNat)) + (s 6 x1.toNat)))) hR rfl
        refine G_go rfl rfl ?_
        refine G_rf rfl rfl (by decide) (hR 3 5 9 rfl) ?_
        refine G_go rfl rfl ?_
        refine G_go rfl rfl ?_
        refine G_rf rfl rfl (by decide) (hR 3 4 8 rfl) ?_
        refine G_go rfl rfl ?_
        refine G_ir (n := 6) rfl rfl (by decide) (by decide) g2 ?_
        refine G_le rfl rfl (fun c8 => ?_) (fun c8 => ?_)
        · have h := h.1 c8
          refine G_go rfl rfl ?_
          refine G_zw (n := 6) rfl rfl (by decide) (by decide) g2 (by decide) ?_
          have hR := refs_up (a := 9) (k := x1.toNat) (x := 0) hR rfl
          refine G_go rfl rfl ?_
          refine G_go rfl rfl ?_
          exact h
        · have h := h.2 c8
          refine G_go rfl rfl ?_
          refine G_go rfl rfl ?_
          refine G_zw (n := 6) rfl rfl (by decide) (by decide) g2 (by decide) ?_
          have hR := refs_up (a := 9) (k := x1.toNat) (x := 1) hR rfl
          refine G_go rfl rfl ?_
          refine G_go rfl rfl ?_
          exact h
theorem sb_X5_dawn_0_3 (n : Nat) (s : Nat → Nat → Int) (Q : List Vl → Sto → Prop) (hR : refs s)
    (h : G 2 120 29 7 [(3, 3), (1, wr ((s 3 9) - 1)), (0, 0), (0, 0), (0, 0)] [] (n, s) Q) :
    G 2 120 29 0 [(3, 3), (0, 0), (0, 0), (0, 0), (0, 0)] [] (n, s) Q := by
  refine G_go rfl rfl ?_
  refine G_rd rfl rfl (by decide) ?_
  refine G_go rfl rfl ?_
  refine G_go rfl rfl ?_
  refine G_go rfl rfl ?_
  show G 2 120 29 7 [(3, 3), (1, wr ((s 3 9) - 1)), (0, 0), (0, 0), (0, 0)] [] (n, s) Q
  exact h
theorem sb_X5_dawn_7_3 (n : Nat) (s : Nat → Nat → Int) (Q : List Vl → Sto → Prop) (x1 : Int) (w2 : Vl) (w3 : Vl) (w4 : Vl) (hR : refs s)
    (h : (x1 < 0 → Q [] (n, s)) ∧ (0 ≤ x1 → (0 ≤ x1 ∧ x1 < 6) ∧ ((s 11 x1.toNat < 0 → G 2 120 29 7 [(3, 3), (1, wr (x1 + (-1))), (1, s 11 x1.toNat), w3, w4] [] (n, upS s 9 x1.toNat 0) Q) ∧ (0 ≤ s 11 x1.toNat → (s 3 9 ≤ s 11 x1.toNat → G 2 120 29 7 [(3, 3), (1, wr (x1 + (-1))), (1, s 11 x1.toNat), w3, w4] [] (n, upS s 9 x1.toNat 0) Q) ∧ (s 11 x1.toNat < s 3 9 → (0 ≤ s 11 x1.toNat ∧ s 11 x1.toNat < 6) ∧ ((hon (s 4 ((s 11 x1.toNat).toNat)) (s 5 ((s 11 x1.toNat).toNat)) = 0 ∨ hon (s 4 ((s 11 x1.toNat).toNat)) (s 5 ((s 11 x1.toNat).toNat)) = 1) ∧ ((hon (s 4 ((s 11 x1.toNat).toNat)) (s 5 ((s 11 x1.toNat).toNat)) = 0 → G 2 120 29 7 [(3, 3), (1, wr (x1 + (-1))), (1, s 11 x1.toNat), (1, xdiv (s 12 x1.toNat) 2), (1, min (xdiv (s 12 x1.toNat) 2) (s 6 ((s 11 x1.toNat).toNat)))] [] (n, upS (upS (upS s 6 ((s 11 x1.toNat).toNat) (wr ((s 6 ((s 11 x1.toNat).toNat)) - (min (xdiv (s 12 x1.toNat) 2) (s 6 ((s 11 x1.toNat).toNat)))))) 6 x1.toNat (min 999 (wr (((upS s 6 ((s 11 x1.toNat).toNat) (wr ((s 6 ((s 11 x1.toNat).toNat)) - (min (xdiv (s 12 x1.toNat) 2) (s 6 ((s 11 x1.toNat).toNat)))))) 6 x1.toNat) + (min (xdiv (s 12 x1.toNat) 2) (s 6 ((s 11 x1.toNat).toNat))))))) 9 x1.toNat 0) Q) ∧ (hon (s 4 ((s 11 x1.toNat).toNat)) (s 5 ((s 11 x1.toNat).toNat)) ≠ 0 → G 2 120 29 7 [(3, 3), (1, wr (x1 + (-1))), (1, s 11 x1.toNat), (1, s 12 x1.toNat), (1, min (s 12 x1.toNat) (s 6 ((s 11 x1.toNat).toNat)))] [] (n, upS (upS (upS s 6 ((s 11 x1.toNat).toNat) (wr ((s 6 ((s 11 x1.toNat).toNat)) - (min (s 12 x1.toNat) (s 6 ((s 11 x1.toNat).toNat)))))) 6 x1.toNat (min 999 (wr (((upS s 6 ((s 11 x1.toNat).toNat) (wr ((s 6 ((s 11 x1.toNat).toNat)) - (min (s 12 x1.toNat) (s 6 ((s 11 x1.toNat).toNat)))))) 6 x1.toNat) + (min (s 12 x1.toNat) (s 6 ((s 11 x1.toNat).toNat))))))) 9 x1.toNat 0) Q)))))))) :
    G 2 120 29 7 [(3, 3), (1, x1), w2, w3, w4] [] (n, s) Q := by
  refine G_go rfl rfl ?_
  refine G_lt rfl rfl (fun c1 => ?_) (fun c1 => ?_)
  · have h := h.1 c1
    exact G_ret rfl rfl h
  · have h := h.2 c1
    refine G_go rfl rfl ?_
    refine G_rf rfl rfl (by decide) (hR 3 7 11 rfl) ?_
    refine G_go rfl rfl ?_
    obtain ⟨g2, h⟩ := h
    refine G_ir (n := 6) rfl rfl (by decide) (by decide) g2 ?_
    refine G_go rfl rfl ?_
    show G 2 120 29 18 [(3, 3), (1, x1), (1, s 11 x1.toNat), w3, w4] [] (n, s) Q
    refine G_go rfl rfl ?_
    refine G_go rfl rfl ?_
    refine G_call rfl rfl ?_
    refine G_go rfl rfl ?_
    refine G_lt rfl rfl (fun c3 => ?_) (fun c3 => ?_)
    · have h := h.1 c3
      refine G_go rfl rfl ?_
      refine G_ret rfl rfl ?_
      refine G_brT rfl rfl rfl ?_
      refine G_go rfl rfl ?_
      refine G_rf rfl rfl (by decide) (hR 3 5 9 rfl) ?_
      refine G_go rfl rfl ?_
      refine G_go rfl rfl ?_
      refine G_zw (n := 6) rfl rfl (by decide) (by decide) g2 (by decide) ?_
      have hR := refs_up (a := 9) (k := x1.toNat) (x := 0) hR rfl
      refine G_go rfl rfl ?_
      refine G_go rfl rfl ?_
      exact h
    · have h := h.2 c3
      refine G_go rfl rfl ?_
      refine G_go rfl rfl ?_
      refine G_rd rfl rfl (by decide) ?_
      refine G_ge rfl rfl (fun c4 => ?_) (fun c4 => ?_)
      · have h := h.1 c4
        refine G_go rfl rfl ?_
        refine G_ret rfl rfl ?_
        refine G_brT rfl rfl rfl ?_
        refine G_go rfl rfl ?_
        refine G_rf rfl rfl (by decide) (hR 3 5 9 rfl) ?_
        refine G_go rfl rfl ?_
        refine G_go rfl rfl ?_
        refine G_zw (n := 6) rfl rfl (by decide) (by decide) g2 (by decide) ?_
        have hR := refs_up (a := 9) (k := x1.toNat) (x := 0) hR rfl
        refine G_go rfl rfl ?_
        refine G_go rfl rfl ?_
        exact h
      · have h := h.2 c4
        refine G_go rfl rfl ?_
        refine G_go rfl rfl ?_
        refine G_ret rfl rfl ?_
        refine G_brF rfl rfl rfl ?_
        refine G_go rfl rfl ?_
        refine G_go rfl rfl ?_
        refine G_call rfl rfl ?_
        refine G_go rfl rfl ?_
        refine G_rf rfl rfl (by decide) (hR 3 0 4 rfl) ?_
        refine G_go rfl rfl ?_
        obtain ⟨g5, h⟩ := h
        refine G_ir (n := 6) rfl rfl (by decide) (by decide) g5 ?_
        refine G_go rfl rfl ?_
        refine G_rf rfl rfl (by decide) (hR 3 1 5 rfl) ?_
        refine G_go rfl rfl ?_
        refine G_ir (n := 6) rfl rfl (by decide) (by decide) g5 ?_
        refine G_call rfl rfl ?_
        refine c_X1_honest n _ _ (s 4 ((s 11 x1.toNat).toNat)) (s 5 ((s 11 x1.toNat).toNat)) hR ?_
        obtain ⟨g6, h⟩ := h
        refine G_retZ rfl rfl g6 ?_
        refine G_eq rfl rfl (fun c7 => ?_) (fun c7 => ?_)
        · have h := h.1 c7
          refine G_go rfl rfl ?_
          refine G_rf rfl rfl (by decide) (hR 3 8 12 rfl) ?_
          refine G_go rfl rfl ?_
          refine G_ir (n := 6) rfl rfl (by decide) (by decide) g2 ?_
          refine G_go rfl rfl ?_
          refine G_go rfl rfl ?_
          refine G_go rfl rfl ?_
          show G 2 120 29 52 [(3, 3), (1, x1), (1, s 11 x1.toNat), (1, xdiv (s 12 x1.toNat) 2), w4] [] (n, s) Q
          refine G_go rfl rfl ?_
          refine G_go rfl rfl ?_
          refine G_rf rfl rfl (by decide) (hR 3 2 6 rfl) ?_
          refine G_go rfl rfl ?_
          refine G_ir (n := 6) rfl rfl (by decide) (by decide) g5 ?_
          refine G_min rfl rfl ?_
          refine G_go rfl rfl ?_
          show G 2 120 29 64 [(3, 3), (1, x1), (1, s 11 x1.toNat), (1, xdiv (s 12 x1.toNat) 2), (1, min (xdiv (s 12 x1.toNat) 2) (s 6 ((s 11 x1.toNat).toNat)))] [] (n, s) Q
          refine G_go rfl rfl ?_
          refine G_rf rfl rfl (by decide) (hR 3 2 6 rfl) ?_
          refine G_go rfl rfl ?_
          refine G_go rfl rfl ?_
          refine G_ir (n := 6) rfl rfl (by decide) (by decide) g5 ?_
          refine G_go rfl rfl ?_
          refine G_go rfl rfl ?_
          refine G_iw (n := 6) rfl rfl (by decide) (by decide) g5 ?_
          have hR := refs_up (a := 6) (k := (s 11 x1.toNat).toNat) (x := wr ((s 6 ((s 11 x1.toNat).toNat)) - (min (xdiv (s 12 x1.toNat) 2) (s 6 ((s 11 x1.toNat).toNat))))) hR rfl
          refine G_go rfl rfl ?_
          refine G_rf rfl rfl (by decide) (hR 3 2 6 rfl) ?_
          refine G_go rfl rfl ?_
          refine G_go rfl rfl ?_
          refine G_go rfl rfl ?_
          refine G_go rfl rfl ?_
          refine G_call rfl rfl ?_
          refine G_go rfl rfl ?_
          refine G_go rfl rfl ?_
          refine G_rf rfl rfl (by decide) (hR 3 2 6 rfl) ?_
          refine G_go rfl rfl ?_
          refine G_ir (n := 6) rfl rfl (by decide) (by decide) g2 ?_
          refine G_go rfl rfl ?_
          refine G_go rfl rfl ?_
          refine G_min rfl rfl ?_
          refine G_ret rfl rfl ?_
          refine G_iw (n := 6) rfl rfl (by decide) (by decide) g2 ?_
          have hR := refs_up (a := 6) (k := x1.toNat) (x := min 999 (wr (((upS s 6 ((s 11 x1.toNat).toNat) (wr ((s 6 ((s 11 x1.toNat).toNat)) - (min (xdiv (s 12 x1.toNat) 2) (s 6 ((s 11 x1.toNat).toNat)))))) 6 x1.toNat) + (min (xdiv (s 12 x1.toNat) 2) (s 6 ((s 11 x1.toNat).toNat)))))) hR rfl
          refine G_go rfl rfl ?_
          refine G_rf rfl rfl (by decide) (hR 3 5 9 rfl) ?_
          refine G_go rfl rfl ?_
          refine G_go rfl rfl ?_
          refine G_zw (n := 6) rfl rfl (by decide) (by decide) g2 (by decide) ?_
          have hR := refs_up (a := 9) (k := x1.toNat) (x := 0) hR rfl
          refine G_go rfl rfl ?_
          refine G_go rfl rfl ?_
          exact h
        · have h := h.2 c7
          refine G_go rfl rfl ?_
          refine G_rf rfl rfl (by decide) (hR 3 8 12 rfl) ?_
          refine G_go rfl rfl ?_
          refine G_ir (n := 6) rfl rfl (by decide) (by decide) g2 ?_
          refine G_go rfl rfl ?_
          refine G_go rfl rfl ?_
          show G 2 120 29 52 [(3, 3), (1, x1), (1, s 11 x1.toNat), (1, s 12 x1.toNat), w4] [] (n, s) Q
          refine G_go rfl rfl ?_
          refine G_go rfl rfl ?_
          refine G_rf rfl rfl (by decide) (hR 3 2 6 rfl) ?_
          refine G_go rfl rfl ?_
          refine G_ir (n := 6) rfl rfl (by decide) (by decide) g5 ?_
          refine G_min rfl rfl ?_
          refine G_go rfl rfl ?_
          show G 2 120 29 64 [(3, 3), (1, x1), (1, s 11 x1.toNat), (1, s 12 x1.toNat), (1, min (s 12 x1.toNat) (s 6 ((s 11 x1.toNat).toNat)))] [] (n, s) Q
          refine G_go rfl rfl ?_
          refine G_rf rfl rfl (by decide) (hR 3 2 6 rfl) ?_
          refine G_go rfl rfl ?_
          refine G_go rfl rfl ?_
          refine G_ir (n := 6) rfl rfl (by decide) (by decide) g5 ?_
          refine G_go rfl rfl ?_
          refine G_go rfl rfl ?_
          refine G_iw (n := 6) rfl rfl (by decide) (by decide) g5 ?_
          have hR := refs_up (a := 6) (k := (s 11 x1.toNat).toNat) (x := wr ((s 6 ((s 11 x1.toNat).toNat)) - (min (s 12 x1.toNat) (s 6 ((s 11 x1.toNat).toNat))))) hR rfl
          refine G_go rfl rfl ?_
          refine G_rf rfl rfl (by decide) (hR 3 2 6 rfl) ?_
          refine G_go rfl rfl ?_
          refine G_go rfl rfl ?_
          refine G_go rfl rfl ?_
          refine G_go rfl rfl ?_
          refine G_call rfl rfl ?_
          refine G_go rfl rfl ?_
          refine G_go rfl rfl ?_
          refine G_rf rfl rfl (by decide) (hR 3 2 6 rfl) ?_
          refine G_go rfl rfl ?_
          refine G_ir (n := 6) rfl rfl (by decide) (by decide) g2 ?_
          refine G_go rfl rfl ?_
          refine G_go rfl rfl ?_
          refine G_min rfl rfl ?_
          refine G_ret rfl rfl ?_
          refine G_iw (n := 6) rfl rfl (by decide) (by decide) g2 ?_
          have hR := refs_up (a := 6) (k := x1.toNat) (x := min 999 (wr (((upS s 6 ((s 11 x1.toNat).toNat) (wr ((s 6 ((s 11 x1.toNat).toNat)) - (min (s 12 x1.toNat) (s 6 ((s 11 x1.toNat).toNat)))))) 6 x1.toNat) + (min (s 12 x1.toNat) (s 6 ((s 11 x1.toNat).toNat)))))) hR rfl
          refine G_go rfl rfl ?_
          refine G_rf rfl rfl (by decide) (hR 3 5 9 rfl) ?_
          refine G_go rfl rfl ?_
          refine G_go rfl rfl ?_
          refine G_zw (n := 6) rfl rfl (by decide) (by decide) g2 (by decide) ?_
          have hR := refs_up (a := 9) (k := x1.toNat) (x := 0) hR rfl
          refine G_go rfl rfl ?_
          refine G_go rfl rfl ?_
          exact h
theorem sb_X5_passNight_0_3 (n : Nat) (s : Nat → Nat → Int) (Q : List Vl → Sto → Prop) (a0 : Int) (hR : refs s)
    (h : G 2 120 25 0 [(3, 3), (0, 0), (0, 0)] [] (n, s) (fun r s1 => G 2 120 30 4 [(3, 3), (1, a0), (0, 0)] (r ++ []) s1 Q)) :
    G 2 120 30 0 [(3, 3), (1, a0), (0, 0)] [] (n, s) Q := by
  refine G_go rfl rfl ?_
  exact G_call rfl rfl h
theorem sb_X5_passNight_4_3 (n : Nat) (s : Nat → Nat → Int) (Q : List Vl → Sto → Prop) (x1 : Int) (hR : refs s)
    (h : G 2 120 30 6 [(3, 3), (1, x1), (1, 0)] [] (n, s) Q) :
    G 2 120 30 4 [(3, 3), (1, x1), (0, 0)] [] (n, s) Q := by
  refine G_go rfl rfl ?_
  refine G_go rfl rfl ?_
  show G 2 120 30 6 [(3, 3), (1, x1), (1, 0)] [] (n, s) Q
  exact h
theorem sb_X5_passNight_6_3 (n : Nat) (s : Nat → Nat → Int) (Q : List Vl → Sto → Prop) (x1 : Int) (x2 : Int) (hR : refs s)
    (h : (x1 ≤ x2 → G 2 120 29 0 [(3, 3), (0, 0), (0, 0), (0, 0), (0, 0)] [] (n, s) (fun r s1 => G 2 120 30 25 [(3, 3), (1, x1), (1, x2)] (r ++ []) s1 Q)) ∧ (x2 < x1 → G 2 120 27 0 [(3, 3), (0, 0)] [] (n, s) (fun r s1 => G 2 120 30 15 [(3, 3), (1, x1), (1, x2)] (r ++ []) s1 Q))) :
    G 2 120 30 6 [(3, 3), (1, x1), (1, x2)] [] (n, s) Q := by
  refine G_go rfl rfl ?_
  refine G_go rfl rfl ?_
  refine G_ge rfl rfl (fun c1 => ?_) (fun c1 => ?_)
  · have h := h.1 c1
    refine G_go rfl rfl ?_
    exact G_call rfl rfl h
  · have h := h.2 c1
    refine G_go rfl rfl ?_
    exact G_call rfl rfl h
theorem sb_X5_passNight_15_3 (n : Nat) (s : Nat → Nat → Int) (Q : List Vl → Sto → Prop) (x1 : Int) (x2 : Int) (hR : refs s)
    (h : G 2 120 30 6 [(3, 3), (1, x1), (1, wr (x2 + 1))] [] (n, s) Q) :
    G 2 120 30 15 [(3, 3), (1, x1), (1, x2)] [] (n, s) Q := by
  refine G_go rfl rfl ?_
  refine G_go rfl rfl ?_
  exact h
theorem sb_X5_passNight_25_3 (n : Nat) (s : Nat → Nat → Int) (Q : List Vl → Sto → Prop) (x1 : Int) (x2 : Int) (hR : refs s)
    (h : Q [] (n, s)) :
    G 2 120 30 25 [(3, 3), (1, x1), (1, x2)] [] (n, s) Q := by
  exact G_ret rfl rfl h
theorem c_dusk_3 (n : Nat) (s : Nat → Nat → Int) (Q : List Vl → Sto → Prop) (m : Nat) (h : Int) (V : Nat → Nat → Int) (hR : refs s) (ok : okT (m : Int) V) (ht : twC 3 s m h V) (hq : ∀ s1, refs s1 → frT 3 s s1 → twC 3 s1 m h (ltV m (dkV m V)) → (∀ p : Nat, p < m → 0 ≤ V 7 p → s1 12 p = dkV m V 8 p) → Q [] (n, s1)) : G 2 120 25 0 [(3, 3), (0, 0), (0, 0)] [] (n, s) Q := by
  obtain ⟨⟨o1, o2⟩, o3⟩ := ok
  refine sb_X5_dusk_0_3 n s Q hR ?_
  refine G_up m (fun k _ => ∀ w s1, refs s1 → (frT 3 s s1 ∧ twC 3 s1 m h (ltV k (dkV k V)) ∧ (∀ p : Nat, p < k → 0 ≤ V 7 p → s1 12 p = dkV k V 8 p)) → G 2 120 25 2 [(3, 3), (1, (k : Int)), w] [] (n, s1) Q) (fun _ _ => ()) (fun _ _ => True) () trivial (fun _ _ _ _ => trivial) (fun k _ hk _ hg w s1 hR1 hI => ?_) (fun _ w s1 hR1 hI => ?_) (0, 0) s hR ⟨fun _ _ => rfl, ?_, fun p hp => absurd hp (by omega)⟩
  · obtain ⟨f1, ⟨u1, u2, u3⟩, u4⟩ := hI
    have hp : (k : Int) < m := by omega
    have ok2 : okV (m : Int) (dkV k V) := okV_dkV o3 k (by omega)
    have hk1 : dkV (k + 1) V = dkF k (dkV k V) := rfl
    have h7 : ∀ q, dkV k V 7 q = V 7 q := fun q => dkV_o (by decide) (by decide)
    generalize dkV k V = W at *
    rw [hk1] at hg
    have e := u3 k hp
    simp only [ltV_k] at e
    obtain ⟨e0, e1, e2, e3, e4, e5, e6, e7⟩ := e
    obtain ⟨q0, q1, q2, q3, q4, q5, q6, q7⟩ := ok2 k hp
    have e2' : s1 6 k = W 2 k := e2
    have e4' : s1 8 k = W 4 k := e4
    have e7' : (W 7 k = -9 ∧ s1 11 k = -1) ∨ (0 ≤ W 7 k ∧ s1 11 k = W 7 k) := e7
    rw [← wr_s hk (by omega)] at hg
    refine sb_X5_dusk_2_3 n s1 Q k w hR1 ?_
    rw [Int.toNat_natCast, u1, e2', e4']
    have base : ∀ (s2 : Nat → Nat → Int), (∀ j, j < 8 → j ≠ 2 → j ≠ 5 → ∀ p, s2 (3 + 1 + j) p = s1 (3 + 1 + j) p) → (∀ p : Nat, p ≠ k → s2 9 p = s1 9 p) → s2 9 k = (if 0 < W 4 k then 1 else 0) → (∀ p : Nat, (p : Int) < m → s2 6 p = dkF k W 2 p) → eqV m (vw 4 s2) (ltV (k + 1) (dkF k W)) := fun s2 a b c d p hp => by
      obtain ⟨x0, x1, x2, x3, x4, x5, x6, x7⟩ := u3 p hp
      have y0 : s2 4 p = s1 4 p := a 0 (by decide) (by decide) (by decide) p
      have y1 : s2 5 p = s1 5 p := a 1 (by decide) (by decide) (by decide) p
      have y3 : s2 7 p = s1 7 p := a 3 (by decide) (by decide) (by decide) p
      have y4 : s2 8 p = s1 8 p := a 4 (by decide) (by decide) (by decide) p
      have y6 : s2 10 p = s1 10 p := a 6 (by decide) (by decide) (by decide) p
      have y7 : s2 11 p = s1 11 p := a 7 (by decide) (by decide) (by decide) p
      rw [ltV_o (j := 0) (by decide)] at x0 ⊢
      rw [ltV_o (j := 1) (by decide)] at x1 ⊢
      rw [ltV_o (j := 2) (by decide)] at x2 ⊢
      rw [ltV_o (j := 3) (by decide)] at x3 ⊢
      rw [ltV_o (j := 4) (by decide)] at x4 ⊢
      rw [ltV_o (j := 6) (by decide)] at x6 ⊢
      rw [ltV_o (j := 7) (by decide)] at x7 ⊢
      rw [dk_o (j := 0) (by decide) (by decide), dk_o (j := 1) (by decide) (by decide), dk_o (j := 3) (by decide) (by decide), dk_o (j := 4) (by decide) (by decide), dk_o (j := 6) (by decide) (by decide), dk_o (j := 7) (by decide) (by decide)]
      refine ⟨y0.trans x0, y1.trans x1, d p hp, y3.trans x3, y4.trans x4, ?_, y6.trans x6, ?_⟩
      · by_cases z : p = k
        · subst z
          rw [ltV_s, dk_o (by decide) (by decide)]
          exact c
        · rw [ltV_ne z]
          refine (b p z).trans (x5.trans ?_)
          unfold ltV
          rw [dk_o (j := 4) (by decide) (by decide), dk_o (j := 5) (by decide) (by decide)]
      · have y7 : vw 4 s2 7 p = vw 4 s1 7 p := y7
        rw [y7]
        exact x7
    have u3' : ∀ p : Nat, (p : Int) < m → s1 6 p = W 2 p := fun p hp => by
      have := (u3 p hp).2.2.1
      rw [ltV_o (by decide)] at this
      exact this
    have no : W 7 k = -9 → ∀ x, (x = if 0 < W 4 k then 1 else 0) → G 2 120 25 2 [(3, 3), (1, wr ((k : Int) + 1)), (1, s1 11 k)] [] (n, upS s1 9 k x) Q := fun c x hx => by
      have hd : dkF k W = W := if_neg (by omega)
      refine hg _ _ (refs_up hR1 rfl) ⟨fun c hc => ?_, ⟨u1, u2, base _ (fun j hj j2 j5 p => ?_) (fun p hpk => upS_2 hpk) (upS_eq.trans hx) (fun p hp => ?_)⟩, fun p hp h0 => ?_⟩
      · funext z
        rw [upS_1 (by omega), f1 c hc]
      · rw [upS_1 (by omega)]
      · rw [hd, upS_1 (by decide)]
        exact u3' p hp
      · rw [hd, upS_1 (by decide)]
        refine u4 p ?_ h0
        by_cases z : p = k
        · rw [z, ← h7] at h0
          omega
        · omega
    have yes : 0 ≤ W 7 k → ∀ x, (x = if 0 < W 4 k then 1 else 0) → G 2 120 25 2 [(3, 3), (1, wr ((k : Int) + 1)), (1, W 7 k)] [] (n, upS (upS (upS (upS s1 12 k (W 2 k)) 6 k 0) 6 (W 7 k).toNat (min 999 (wr (upS (upS s1 12 k (W 2 k)) 6 k 0 6 (W 7 k).toNat + W 2 k)))) 9 k x) Q := fun c x hx => by
      obtain ⟨c1, c2⟩ := co_ne ok2 hp c
      have hcc := u3' (W 7 k).toNat (by omega)
      have gc := (ok2 (W 7 k).toNat (by omega)).2.2.1
      rw [show upS (upS s1 12 k (W 2 k)) 6 k 0 6 (W 7 k).toNat = W 2 (W 7 k).toNat by rw [upS_2 c1, upS_1 (by decide), hcc], wr_id (x := W 2 (W 7 k).toNat + W 2 k) (by omega) (by omega)]
      refine hg _ _ (refs_up (refs_up (refs_up (refs_up hR1 rfl) rfl) rfl) rfl) ⟨fun c hc => ?_, ⟨u1, u2, base _ (fun j hj j2 j5 p => ?_) (fun p hpk => ?_) (upS_eq.trans hx) (fun p hp => ?_)⟩, fun p hp h0 => ?_⟩
      · funext z
        rw [upS_1 (by omega), upS_1 (by omega), upS_1 (by omega), upS_1 (by omega), f1 c hc]
      · rw [upS_1 (by omega), upS_1 (by omega), upS_1 (by omega), upS_1 (by omega)]
      · rw [upS_2 hpk, upS_1 (by decide), upS_1 (by decide), upS_1 (by decide)]
      · rw [dk_2 c c1, upS_1 (by decide)]
        by_cases z : p = (W 7 k).toNat
        · rw [if_pos z, z, upS_eq]
        · rw [if_neg z, upS_2 z]
          by_cases y : p = k
          · rw [if_pos y, y, upS_eq]
          · rw [if_neg y, upS_2 y, upS_1 (by decide)]
            exact u3' p hp
      · rw [upS_1 (by decide), upS_1 (by decide), upS_1 (by decide)]
        by_cases z : p = k
        · rw [z, upS_eq, dk_8p c]
        · rw [upS_2 z, dk_8 z]
          exact u4 p (by omega) h0
    rcases e7' with ⟨c1, c2⟩ | ⟨c1, c2⟩
    · refine ⟨fun e => by omega, fun _ => ⟨by omega, fun _ => ⟨fun d => no c1 0 (by rw [if_neg (by omega)]), fun d => no c1 1 (by rw [if_pos d])⟩, fun c => by omega⟩⟩
    · rw [c2]
      obtain ⟨c3, c4⟩ := co_ne ok2 hp c1
      exact ⟨fun e => by omega, fun _ => ⟨by omega, fun c => by omega, fun _ => ⟨fun c => by omega, fun _ => ⟨by omega, fun d => yes c1 0 (by rw [if_neg (by omega)]), fun d => yes c1 1 (by rw [if_pos d])⟩⟩⟩⟩
  · exact sb_X5_dusk_2_3 n s1 Q _ w hR1 ⟨fun _ => hq s1 hR1 hI.1 hI.2.1 hI.2.2, fun e => absurd e (by rw [hI.2.1.1]; omega)⟩
  · exact ⟨ht.1, ht.2.1, eqV_ext ht.2.2 (fun _ _ _ _ => rfl) (fun j _ p _ => ltV_0)⟩
theorem c_dawn_3 (n : Nat) (s : Nat → Nat → Int) (Q : List Vl → Sto → Prop) (m : Nat) (h : Int) (V : Nat → Nat → Int) (hR : refs s) (ok : okT (m : Int) V) (og : gvO m V) (ht : twC 3 s m h V) (hv : ∀ p : Nat, p < m → 0 ≤ V 7 p → s 12 p = V 8 p) (hq : ∀ s1, refs s1 → frT 3 s s1 → twC 3 s1 m h (ofV 0 (dwV m m V)) → Q [] (n, s1)) : G 2 120 29 0 [(3, 3), (0, 0), (0, 0), (0, 0), (0, 0)] [] (n, s) Q := by
  obtain ⟨⟨o1, o2⟩, o3⟩ := ok
  refine sb_X5_dawn_0_3 n s Q hR ?_
  rw [ht.1, wr_id (x := (m : Int) - 1) (by omega) (by omega)]
  have h0 : ((m : Int) - 1) = ((m : Int) - 1 - ((0 : Nat) : Int)) := by omega
  rw [h0]
  refine G_up m (fun k _ => ∀ w2 w3 w4 s1, refs s1 → (frT 3 s s1 ∧ s1 12 = s 12 ∧ twC 3 s1 m h (ofV (m - k) (dwV m k V))) → G 2 120 29 7 [(3, 3), (1, (m : Int) - 1 - (k : Int)), w2, w3, w4] [] (n, s1) Q) (fun _ _ => ()) (fun _ _ => True) () trivial (fun _ _ _ _ => trivial) (fun k _ hk _ hg w2 w3 w4 s1 hR1 hI => ?_) (fun _ w2 w3 w4 s1 hR1 hI => ?_) (0, 0) (0, 0) (0, 0) s hR ⟨fun _ _ => rfl, rfl, ?_⟩
  · obtain ⟨f1, f9, u1, u2, u3⟩ := hI
    have ok2 : okV (m : Int) (dwV m k V) := okV_dwV o3 og k (by omega)
    have h7 : ∀ q, dwV m k V 7 q = V 7 q := fun q => dwV_o (by decide)
    have h8 : ∀ q, dwV m k V 8 q = V 8 q := fun q => dwV_o (by decide)
    have hk1 : dwV m (k + 1) V = dwF (m - 1 - k) (dwV m k V) := rfl
    rw [hk1] at hg
    generalize dwV m k V = W at *
    obtain ⟨p, hpe⟩ : ∃ p : Nat, p = m - 1 - k := ⟨_, rfl⟩
    have hp : (p : Int) < m := by omega
    rw [← hpe, show m - (k + 1) = p by omega, show (m : Int) - 1 - ((k + 1 : Nat) : Int) = (p : Int) + (-1) by omega, ← wr_id (x := (p : Int) + (-1)) (by omega) (by omega)] at hg
    rw [show m - k = p + 1 by omega] at u3
    rw [show (m : Int) - 1 - (k : Int) = (p : Int) by omega]
    have e := u3 p hp
    obtain ⟨e0, e1, e2, e3, e4, e5, e6, e7⟩ := e
    rw [ofV_o (by decide)] at e2
    rw [ofV_o (by decide)] at e7
    obtain ⟨q0, q1, q2, q3, q4, q5, q6, q7⟩ := ok2 p hp
    have e2' : s1 6 p = W 2 p := e2
    have e7' : (W 7 p = -9 ∧ s1 11 p = -1) ∨ (0 ≤ W 7 p ∧ s1 11 p = W 7 p) := e7
    refine sb_X5_dawn_7_3 n s1 Q p w2 w3 w4 hR1 ?_
    rw [Int.toNat_natCast, u1]
    have u3' : ∀ q : Nat, (q : Int) < m → s1 6 q = W 2 q := fun q hq => by
      have := (u3 q hq).2.2.1
      rw [ofV_o (by decide)] at this
      exact this
    have base : ∀ (s2 : Nat → Nat → Int), (∀ j, j < 8 → j ≠ 2 → j ≠ 5 → ∀ q, s2 (3 + 1 + j) q = s1 (3 + 1 + j) q) → (∀ q : Nat, q ≠ p → s2 9 q = s1 9 q) → s2 9 p = 0 → (∀ q : Nat, (q : Int) < m → s2 6 q = dwF p W 2 q) → eqV m (vw 4 s2) (ofV p (dwF p W)) := fun s2 a b c d q hq => by
      obtain ⟨x0, x1, x2, x3, x4, x5, x6, x7⟩ := u3 q hq
      have y0 : s2 4 q = s1 4 q := a 0 (by decide) (by decide) (by decide) q
      have y1 : s2 5 q = s1 5 q := a 1 (by decide) (by decide) (by decide) q
      have y3 : s2 7 q = s1 7 q := a 3 (by decide) (by decide) (by decide) q
      have y4 : s2 8 q = s1 8 q := a 4 (by decide) (by decide) (by decide) q
      have y6 : s2 10 q = s1 10 q := a 6 (by decide) (by decide) (by decide) q
      have y7 : vw 4 s2 7 q = vw 4 s1 7 q := a 7 (by decide) (by decide) (by decide) q
      rw [ofV_o (j := 0) (by decide)] at x0 ⊢
      rw [ofV_o (j := 1) (by decide)] at x1 ⊢
      rw [ofV_o (j := 2) (by decide)] at x2 ⊢
      rw [ofV_o (j := 3) (by decide)] at x3 ⊢
      rw [ofV_o (j := 4) (by decide)] at x4 ⊢
      rw [ofV_o (j := 6) (by decide)] at x6 ⊢
      rw [ofV_o (j := 7) (by decide)] at x7 ⊢
      rw [dw_o (j := 0) (by decide), dw_o (j := 1) (by decide), dw_o (j := 3) (by decide), dw_o (j := 4) (by decide), dw_o (j := 6) (by decide), dw_o (j := 7) (by decide)]
      refine ⟨y0.trans x0, y1.trans x1, d q hq, y3.trans x3, y4.trans x4, ?_, y6.trans x6, ?_⟩
      · by_cases z : q = p
        · subst z
          rw [ofV_s]
          exact c
        · rw [ofV_ne z]
          refine (b q z).trans (x5.trans ?_)
          unfold ofV
          rw [dw_o (j := 5) (by decide)]
      · rw [y7]
        exact x7
    have no : W 7 p = -9 → G 2 120 29 7 [(3, 3), (1, wr ((p : Int) + (-1))), (1, s1 11 p), w3, w4] [] (n, upS s1 9 p 0) Q := fun c => by
      have hd : dwF p W = W := if_neg (by omega)
      refine hg _ _ _ _ (refs_up hR1 rfl) ⟨fun c hc => ?_, ?_, ⟨u1, u2, base _ (fun j hj j2 j5 q => ?_) (fun q hqp => upS_2 hqp) upS_eq (fun q hq => ?_)⟩⟩
      · funext z
        rw [upS_1 (by omega), f1 c hc]
      · funext z
        rw [upS_1 (by decide), f9]
      · rw [upS_1 (by omega)]
      · rw [hd, upS_1 (by decide)]
        exact u3' q hq
    have yes : 0 ≤ W 7 p → ∀ x y, x = dueV W p → G 2 120 29 7 [(3, 3), (1, wr ((p : Int) + (-1))), (1, W 7 p), (1, y), (1, x)] [] (n, upS (upS (upS s1 6 (W 7 p).toNat (wr (W 2 (W 7 p).toNat - x))) 6 p (min 999 (wr (upS s1 6 (W 7 p).toNat (wr (W 2 (W 7 p).toNat - x)) 6 p + x)))) 9 p 0) Q := fun c x y hx => by
      obtain ⟨c1, c2⟩ := co_ne ok2 hp c
      have gd := due_rg ok2 hp c (by rw [h8]; rw [h7] at c; exact og p hp c)
      have gc := (ok2 (W 7 p).toNat (by omega)).2.2.1
      rw [wr_id (x := W 2 (W 7 p).toNat - x) (by omega) (by omega), show upS s1 6 (W 7 p).toNat (W 2 (W 7 p).toNat - x) 6 p = W 2 p by rw [upS_2 (Ne.symm c1), e2'], wr_id (x := W 2 p + x) (by omega) (by omega)]
      refine hg _ _ _ _ (refs_up (refs_up (refs_up hR1 rfl) rfl) rfl) ⟨fun c hc => ?_, ?_, ⟨u1, u2, base _ (fun j hj j2 j5 q => ?_) (fun q hqp => ?_) upS_eq (fun q hq => ?_)⟩⟩
      · funext z
        rw [upS_1 (by omega), upS_1 (by omega), upS_1 (by omega), f1 c hc]
      · funext z
        rw [upS_1 (by decide), upS_1 (by decide), upS_1 (by decide), f9]
      · rw [upS_1 (by omega), upS_1 (by omega), upS_1 (by omega)]
      · rw [upS_2 hqp, upS_1 (by decide), upS_1 (by decide)]
      · rw [dw_2 c c1, upS_1 (by decide)]
        by_cases z : q = p
        · rw [if_pos z, z, upS_eq, hx]
        · rw [if_neg z, upS_2 z]
          by_cases y : q = (W 7 p).toNat
          · rw [if_pos y, y, upS_eq, hx]
          · rw [if_neg y, upS_2 y]
            exact u3' q hq
    rcases e7' with ⟨c1, c2⟩ | ⟨c1, c2⟩
    · exact ⟨fun e => by omega, fun _ => ⟨by omega, fun _ => no c1, fun c => by omega⟩⟩
    · rw [c2]
      obtain ⟨c3, c4⟩ := co_ne ok2 hp c1
      have hc : ((W 7 p).toNat : Int) < m := by omega
      have xc := u3 (W 7 p).toNat hc
      rw [ofV_o (by decide), ofV_o (by decide)] at xc
      have x0 : s1 4 (W 7 p).toNat = W 0 (W 7 p).toNat := xc.1
      have x1 : s1 5 (W 7 p).toNat = W 1 (W 7 p).toNat := xc.2.1
      have x9 : s1 12 p = W 8 p := by
        rw [f9, h8]
        rw [h7] at c1
        exact hv p (by omega) c1
      have g8 : 0 ≤ W 8 p ∧ W 8 p ≤ 999 := by
        rw [h8]
        rw [h7] at c1
        exact og p hp c1
      rw [u3' _ hc, x0, x1, x9, xdiv_nn (a := W 8 p) (b := 2) (by omega) (by omega) (by decide) (by decide)]
      refine ⟨fun e => by omega, fun _ => ⟨by omega, fun c => by omega, fun _ => ⟨fun c => by omega, fun _ => ⟨by omega, hon_01 _ _, fun d => yes c1 _ _ ?_, fun d => yes c1 _ _ ?_⟩⟩⟩⟩
      · unfold dueV hnW
        rw [if_pos d]
      · unfold dueV hnW
        rw [if_neg d]
  · rw [show m - m = 0 by omega] at hI
    exact sb_X5_dawn_7_3 n s1 Q _ w2 w3 w4 hR1 ⟨fun _ => hq s1 hR1 hI.1 hI.2.2, fun e => by omega⟩
  · refine ⟨ht.1, ht.2.1, eqV_ext ht.2.2 (fun _ _ _ _ => rfl) (fun j _ p hp => ?_)⟩
    show ofV (m - 0) V j p = V j p
    exact if_neg (fun e => absurd e.2 (by omega))
theorem c_passNight_3 (n : Nat) (s : Nat → Nat → Int) (Q : List Vl → Sto → Prop) (m : Nat) (h : Int) (V : Nat → Nat → Int) (N : Nat) (hN : N ≤ 99) (hR : refs s) (ok : okT (m : Int) V) (ht : twC 3 s m h V) (hq : ∀ s1, refs s1 → frT 3 s s1 → twC 3 s1 m (hrN N h (ltV m (dkV m V))).1 (ntV m N h V) → Q [] (n, s1)) : G 2 120 30 0 [(3, 3), (1, (N : Int)), (0, 0)] [] (n, s) Q := by
  refine sb_X5_passNight_0_3 n s Q N hR ?_
  refine c_dusk_3 n s _ m h V hR ok ht (fun s1 hR1 f1 u1 v1 => ?_)
  refine sb_X5_passNight_4_3 n s1 Q N hR1 ?_
  refine G_up N (fun k b => ∀ s2, refs s2 → (frH 3 s1 s2 ∧ okT (m : Int) b.2 ∧ twC 3 s2 m b.1 b.2) → G 2 120 30 6 [(3, 3), (1, (N : Int)), (1, (k : Int))] [] (n, s2) Q) (fun _ x => (wr (x.1 + 1), hrV x.2)) (fun _ _ => True) (h, ltV m (dkV m V)) trivial (fun _ _ _ _ => trivial) (fun k b hk _ hg s2 hR2 hI => ?_) (fun _ s2 hR2 hI => ?_) s1 hR1 ⟨fun _ _ => rfl, okT_mid (N := 0) (h := h) ok, u1⟩
  · obtain ⟨f2, o2, u2⟩ := hI
    rw [← wr_s hk (by omega)] at hg
    refine sb_X5_passNight_6_3 n s2 Q N k hR2 ⟨fun e => by omega, fun _ => ?_⟩
    refine c_passHour_3 n s2 _ m _ _ hR2 o2 u2 (fun s3 hR3 f3 u3 => ?_)
    exact sb_X5_passNight_15_3 n s3 Q N k hR3 (hg s3 hR3 ⟨frH_trans f2 f3, okT_hr o2, u3⟩)
  · obtain ⟨f2, o2, u2⟩ := hI
    refine sb_X5_passNight_6_3 n s2 Q N N hR2 ⟨fun _ => ?_, fun e => by omega⟩
    refine c_dawn_3 n s2 _ m _ (hrN N h (ltV m (dkV m V))).2 hR2 (okT_mid ok) (nt_gv ok.2) u2 (fun p hp c => ?_) (fun s3 hR3 f3 u3 => ?_)
    · rw [hrN_7, ltV_o (by decide), dkV_o (by decide) (by decide)] at c
      rw [f2 12 (by omega), hrN_8, ltV_o (by decide)]
      exact v1 p hp c
    · exact sb_X5_passNight_25_3 n s3 Q N N hR3 (hq s3 hR3 (frT_trans f1 (frT_trans (frH_t f2) f3)) u3)
theorem sb_X5_dusk_0_13 (n : Nat) (s : Nat → Nat → Int) (Q : List Vl → Sto → Prop) (hR : refs s)
    (h : G 2 120 25 2 [(3, 13), (1, 0), (0, 0)] [] (n, s) Q) :
    G 2 120 25 0 [(3, 13), (0, 0), (0, 0)] [] (n, s) Q := by
  refine G_go rfl rfl ?_
  refine G_go rfl rfl ?_
  show G 2 120 25 2 [(3, 13), (1, 0), (0, 0)] [] (n, s) Q
  exact h
theorem sb_X5_dusk_2_13 (n : Nat) (s : Nat → Nat → Int) (Q : List Vl → Sto → Prop) (x1 : Int) (w2 : Vl) (hR : refs s)
    (h : (s 13 9 ≤ x1 → Q [] (n, s)) ∧ (x1 < s 13 9 → (0 ≤ x1 ∧ x1 < 6) ∧ ((s 21 x1.toNat < 0 → (s 18 x1.toNat ≤ 0 → G 2 120 25 2 [(3, 13), (1, wr (x1 + 1)), (1, s 21 x1.toNat)] [] (n, upS s 19 x1.toNat 0) Q) ∧ (0 < s 18 x1.toNat → G 2 120 25 2 [(3, 13), (1, wr (x1 + 1)), (1, s 21 x1.toNat)] [] (n, upS s 19 x1.toNat 1) Q)) ∧ (0 ≤ s 21 x1.toNat → (s 13 9 ≤ s 21 x1.toNat → (s 18 x1.toNat ≤ 0 → G 2 120 25 2 [(3, 13), (1, wr (x1 + 1)), (1, s 21 x1.toNat)] [] (n, upS s 19 x1.toNat 0) Q) ∧ (0 < s 18 x1.toNat → G 2 120 25 2 [(3, 13), (1, wr (x1 + 1)), (1, s 21 x1.toNat)] [] (n, upS s 19 x1.toNat 1) Q)) ∧ (s 21 x1.toNat < s 13 9 → (0 ≤ s 21 x1.toNat ∧ s 21 x1.toNat < 6) ∧ ((s 18 x1.toNat ≤ 0 → G 2 120 25 2 [(3, 13), (1, wr (x1 + 1)), (1, s 21 x1.toNat)] [] (n, upS (upS (upS (upS s 22 x1.toNat (s 16 x1.toNat)) 16 x1.toNat 0) 16 ((s 21 x1.toNat).toNat) (min 999 (wr (((upS (upS s 22 x1.toNat (s 16 x1.toNat)) 16 x1.toNat 0) 16 ((s 21 x1.toNat).toNat)) + (s 16 x1.toNat))))) 19 x1.toNat 0) Q) ∧ (0 < s 18 x1.toNat → G 2 120 25 2 [(3, 13), (1, wr (x1 + 1)), (1, s 21 x1.toNat)] [] (n, upS (upS (upS (upS s 22 x1.toNat (s 16 x1.toNat)) 16 x1.toNat 0) 16 ((s 21 x1.toNat).toNat) (min 999 (wr (((upS (upS s 22 x1.toNat (s 16 x1.toNat)) 16 x1.toNat 0) 16 ((s 21 x1.toNat).toNat)) + (s 16 x1.toNat))))) 19 x1.toNat 1) Q))))))) :
    G 2 120 25 2 [(3, 13), (1, x1), w2] [] (n, s) Q := by
  refine G_go rfl rfl ?_
  refine G_go rfl rfl ?_
  refine G_rd rfl rfl (by decide) ?_
  refine G_ge rfl rfl (fun c1 => ?_) (fun c1 => ?_)
  · have h := h.1 c1
    exact G_ret rfl rfl h
  · have h := h.2 c1
    refine G_go rfl rfl ?_
    refine G_rf rfl rfl (by decide) (hR 13 7 21 rfl) ?_
    refine G_go rfl rfl ?_
    obtain ⟨g2, h⟩ := h
    refine G_ir (n := 6) rfl rfl (by decide) (by decide) g2 ?_
    refine G_go rfl rfl ?_
    show G 2 120 25 17 [(3, 13), (1, x1), (1, s 21 x1.toNat)] [] (n, s) Q
    refine G_go rfl rfl ?_
    refine G_go rfl rfl ?_
    refine G_call rfl rfl ?_
    refine G_go rfl rfl ?_
    refine G_lt rfl rfl (fun c3 => ?_) (fun c3 => ?_)
    · have h := h.1 c3
      refine G_go rfl rfl ?_
      refine G_ret rfl rfl ?_
      refine G_brT rfl rfl rfl ?_
      refine G_go rfl rfl ?_
      refine G_rf rfl rfl (by decide) (hR 13 5 19 rfl) ?_
      refine G_go rfl rfl ?_
      refine G_go rfl rfl ?_
      refine G_rf rfl rfl (by decide) (hR 13 4 18 rfl) ?_
      refine G_go rfl rfl ?_
      refine G_ir (n := 6) rfl rfl (by decide) (by decide) g2 ?_
      refine G_le rfl rfl (fun c4 => ?_) (fun c4 => ?_)
      · have h := h.1 c4
        refine G_go rfl rfl ?_
        refine G_zw (n := 6) rfl rfl (by decide) (by decide) g2 (by decide) ?_
        have hR := refs_up (a := 19) (k := x1.toNat) (x := 0) hR rfl
        refine G_go rfl rfl ?_
        refine G_go rfl rfl ?_
        exact h
      · have h := h.2 c4
        refine G_go rfl rfl ?_
        refine G_go rfl rfl ?_
        refine G_zw (n := 6) rfl rfl (by decide) (by decide) g2 (by decide) ?_
        have hR := refs_up (a := 19) (k := x1.toNat) (x := 1) hR rfl
        refine G_go rfl rfl ?_
        refine G_go rfl rfl ?_
        exact h
    · have h := h.2 c3
      refine G_go rfl rfl ?_
      refine G_go rfl rfl ?_
      refine G_rd rfl rfl (by decide) ?_
      refine G_ge rfl rfl (fun c5 => ?_) (fun c5 => ?_)
      · have h := h.1 c5
        refine G_go rfl rfl ?_
        refine G_ret rfl rfl ?_
        refine G_brT rfl rfl rfl ?_
        refine G_go rfl rfl ?_
        refine G_rf rfl rfl (by decide) (hR 13 5 19 rfl) ?_
        refine G_go rfl rfl ?_
        refine G_go rfl rfl ?_
        refine G_rf rfl rfl (by decide) (hR 13 4 18 rfl) ?_
        refine G_go rfl rfl ?_
        refine G_ir (n := 6) rfl rfl (by decide) (by decide) g2 ?_
        refine G_le rfl rfl (fun c6 => ?_) (fun c6 => ?_)
        · have h := h.1 c6
          refine G_go rfl rfl ?_
          refine G_zw (n := 6) rfl rfl (by decide) (by decide) g2 (by decide) ?_
          have hR := refs_up (a := 19) (k := x1.toNat) (x := 0) hR rfl
          refine G_go rfl rfl ?_
          refine G_go rfl rfl ?_
          exact h
        · have h := h.2 c6
          refine G_go rfl rfl ?_
          refine G_go rfl rfl ?_
          refine G_zw (n := 6) rfl rfl (by decide) (by decide) g2 (by decide) ?_
          have hR := refs_up (a := 19) (k := x1.toNat) (x := 1) hR rfl
          refine G_go rfl rfl ?_
          refine G_go rfl rfl ?_
          exact h
      · have h := h.2 c5
        refine G_go rfl rfl ?_
        refine G_go rfl rfl ?_
        refine G_ret rfl rfl ?_
        refine G_brF rfl rfl rfl ?_
        refine G_go rfl rfl ?_
        refine G_rf rfl rfl (by decide) (hR 13 8 22 rfl) ?_
        refine G_go rfl rfl ?_
        refine G_go rfl rfl ?_
        refine G_rf rfl rfl (by decide) (hR 13 2 16 rfl) ?_
        refine G_go rfl rfl ?_
        refine G_ir (n := 6) rfl rfl (by decide) (by decide) g2 ?_
        refine G_iw (n := 6) rfl rfl (by decide) (by decide) g2 ?_
        have hR := refs_up (a := 22) (k := x1.toNat) (x := s 16 x1.toNat) hR rfl
        refine G_go rfl rfl ?_
        refine G_rf rfl rfl (by decide) (hR 13 2 16 rfl) ?_
        refine G_go rfl rfl ?_
        refine G_go rfl rfl ?_
        refine G_iw (n := 6) rfl rfl (by decide) (by decide) g2 ?_
        have hR := refs_up (a := 16) (k := x1.toNat) (x := 0) hR rfl
        refine G_go rfl rfl ?_
        refine G_rf rfl rfl (by decide) (hR 13 2 16 rfl) ?_
        refine G_go rfl rfl ?_
        refine G_go rfl rfl ?_
        refine G_go rfl rfl ?_
        refine G_go rfl rfl ?_
        refine G_rf rfl rfl (by decide) (hR 13 8 22 rfl) ?_
        refine G_go rfl rfl ?_
        refine G_irv (n := 6) (v := s 16 x1.toNat) rfl rfl (by decide) (by decide) g2 (by simp [upS]) ?_
        refine G_call rfl rfl ?_
        refine G_go rfl rfl ?_
        refine G_go rfl rfl ?_
        refine G_rf rfl rfl (by decide) (hR 13 2 16 rfl) ?_
        refine G_go rfl rfl ?_
        obtain ⟨g7, h⟩ := h
        refine G_ir (n := 6) rfl rfl (by decide) (by decide) g7 ?_
        refine G_go rfl rfl ?_
        refine G_go rfl rfl ?_
        refine G_min rfl rfl ?_
        refine G_ret rfl rfl ?_
        refine G_iw (n := 6) rfl rfl (by decide) (by decide) g7 ?_
        have hR := refs_up (a := 16) (k := (s 21 x1.toNat).toNat) (x := min 999 (wr (((upS (upS s 22 x1.toNat (s 16 x1.toNat)) 16 x1.toNat 0) 16 ((s 21 x1.toNat).toNat)) + (s 16 x1.toNat)))) hR rfl
        refine G_go rfl rfl ?_
        refine G_rf rfl rfl (by decide) (hR 13 5 19 rfl) ?_
        refine G_go rfl rfl ?_
        refine G_go rfl rfl ?_
        refine G_rf rfl rfl (by decide) (hR 13 4 18 rfl) ?_
        refine G_go rfl rfl ?_
        refine G_ir (n := 6) rfl rfl (by decide) (by decide) g2 ?_
        refine G_le rfl rfl (fun c8 => ?_) (fun c8 => ?_)
        · have h := h.1 c8
          refine G_go rfl rfl ?_
          refine G_zw (n := 6) rfl rfl (by decide) (by decide) g2 (by decide) ?_
          have hR := refs_up (a := 19) (k := x1.toNat) (x := 0) hR rfl
          refine G_go rfl rfl ?_
          refine G_go rfl rfl ?_
          exact h
        · have h := h.2 c8
          refine G_go rfl rfl ?_
          refine G_go rfl rfl ?_
          refine G_zw (n := 6) rfl rfl (by decide) (by decide) g2 (by decide) ?_
          have hR := refs_up (a := 19) (k := x1.toNat) (x := 1) hR rfl
          refine G_go rfl rfl ?_
          refine G_go rfl rfl ?_
          exact h
theorem sb_X5_dawn_0_13 (n : Nat) (s : Nat → Nat → Int) (Q : List Vl → Sto → Prop) (hR : refs s)
    (h : G 2 120 29 7 [(3, 13), (1, wr ((s 13 9) - 1)), (0, 0), (0, 0), (0, 0)] [] (n, s) Q) :
    G 2 120 29 0 [(3, 13), (0, 0), (0, 0), (0, 0), (0, 0)] [] (n, s) Q := by
  refine G_go rfl rfl ?_
  refine G_rd rfl rfl (by decide) ?_
  refine G_go rfl rfl ?_
  refine G_go rfl rfl ?_
  refine G_go rfl rfl ?_
  show G 2 120 29 7 [(3, 13), (1, wr ((s 13 9) - 1)), (0, 0), (0, 0), (0, 0)] [] (n, s) Q
  exact h
theorem sb_X5_dawn_7_13 (n : Nat) (s : Nat → Nat → Int) (Q : List Vl → Sto → Prop) (x1 : Int) (w2 : Vl) (w3 : Vl) (w4 : Vl) (hR : refs s)
    (h : (x1 < 0 → Q [] (n, s)) ∧ (0 ≤ x1 → (0 ≤ x1 ∧ x1 < 6) ∧ ((s 21 x1.toNat < 0 → G 2 120 29 7 [(3, 13), (1, wr (x1 + (-1))), (1, s 21 x1.toNat), w3, w4] [] (n, upS s 19 x1.toNat 0) Q) ∧ (0 ≤ s 21 x1.toNat → (s 13 9 ≤ s 21 x1.toNat → G 2 120 29 7 [(3, 13), (1, wr (x1 + (-1))), (1, s 21 x1.toNat), w3, w4] [] (n, upS s 19 x1.toNat 0) Q) ∧ (s 21 x1.toNat < s 13 9 → (0 ≤ s 21 x1.toNat ∧ s 21 x1.toNat < 6) ∧ ((hon (s 14 ((s 21 x1.toNat).toNat)) (s 15 ((s 21 x1.toNat).toNat)) = 0 ∨ hon (s 14 ((s 21 x1.toNat).toNat)) (s 15 ((s 21 x1.toNat).toNat)) = 1) ∧ ((hon (s 14 ((s 21 x1.toNat).toNat)) (s 15 ((s 21 x1.toNat).toNat)) = 0 → G 2 120 29 7 [(3, 13), (1, wr (x1 + (-1))), (1, s 21 x1.toNat), (1, xdiv (s 22 x1.toNat) 2), (1, min (xdiv (s 22 x1.toNat) 2) (s 16 ((s 21 x1.toNat).toNat)))] [] (n, upS (upS (upS s 16 ((s 21 x1.toNat).toNat) (wr ((s 16 ((s 21 x1.toNat).toNat)) - (min (xdiv (s 22 x1.toNat) 2) (s 16 ((s 21 x1.toNat).toNat)))))) 16 x1.toNat (min 999 (wr (((upS s 16 ((s 21 x1.toNat).toNat) (wr ((s 16 ((s 21 x1.toNat).toNat)) - (min (xdiv (s 22 x1.toNat) 2) (s 16 ((s 21 x1.toNat).toNat)))))) 16 x1.toNat) + (min (xdiv (s 22 x1.toNat) 2) (s 16 ((s 21 x1.toNat).toNat))))))) 19 x1.toNat 0) Q) ∧ (hon (s 14 ((s 21 x1.toNat).toNat)) (s 15 ((s 21 x1.toNat).toNat)) ≠ 0 → G 2 120 29 7 [(3, 13), (1, wr (x1 + (-1))), (1, s 21 x1.toNat), (1, s 22 x1.toNat), (1, min (s 22 x1.toNat) (s 16 ((s 21 x1.toNat).toNat)))] [] (n, upS (upS (upS s 16 ((s 21 x1.toNat).toNat) (wr ((s 16 ((s 21 x1.toNat).toNat)) - (min (s 22 x1.toNat) (s 16 ((s 21 x1.toNat).toNat)))))) 16 x1.toNat (min 999 (wr (((upS s 16 ((s 21 x1.toNat).toNat) (wr ((s 16 ((s 21 x1.toNat).toNat)) - (min (s 22 x1.toNat) (s 16 ((s 21 x1.toNat).toNat)))))) 16 x1.toNat) + (min (s 22 x1.toNat) (s 16 ((s 21 x1.toNat).toNat))))))) 19 x1.toNat 0) Q)))))))) :
    G 2 120 29 7 [(3, 13), (1, x1), w2, w3, w4] [] (n, s) Q := by
  refine G_go rfl rfl ?_
  refine G_lt rfl rfl (fun c1 => ?_) (fun c1 => ?_)
  · have h := h.1 c1
    exact G_ret rfl rfl h
  · have h := h.2 c1
    refine G_go rfl rfl ?_
    refine G_rf rfl rfl (by decide) (hR 13 7 21 rfl) ?_
    refine G_go rfl rfl ?_
    obtain ⟨g2, h⟩ := h
    refine G_ir (n := 6) rfl rfl (by decide) (by decide) g2 ?_
    refine G_go rfl rfl ?_
    show G 2 120 29 18 [(3, 13), (1, x1), (1, s 21 x1.toNat), w3, w4] [] (n, s) Q
    refine G_go rfl rfl ?_
    refine G_go rfl rfl ?_
    refine G_call rfl rfl ?_
    refine G_go rfl rfl ?_
    refine G_lt rfl rfl (fun c3 => ?_) (fun c3 => ?_)
    · have h := h.1 c3
      refine G_go rfl rfl ?_
      refine G_ret rfl rfl ?_
      refine G_brT rfl rfl rfl ?_
      refine G_go rfl rfl ?_
      refine G_rf rfl rfl (by decide) (hR 13 5 19 rfl) ?_
      refine G_go rfl rfl ?_
      refine G_go rfl rfl ?_
      refine G_zw (n := 6) rfl rfl (by decide) (by decide) g2 (by decide) ?_
      have hR := refs_up (a := 19) (k := x1.toNat) (x := 0) hR rfl
      refine G_go rfl rfl ?_
      refine G_go rfl rfl ?_
      exact h
    · have h := h.2 c3
      refine G_go rfl rfl ?_
      refine G_go rfl rfl ?_
      refine G_rd rfl rfl (by decide) ?_
      refine G_ge rfl rfl (fun c4 => ?_) (fun c4 => ?_)
      · have h := h.1 c4
        refine G_go rfl rfl ?_
        refine G_ret rfl rfl ?_
        refine G_brT rfl rfl rfl ?_
        refine G_go rfl rfl ?_
        refine G_rf rfl rfl (by decide) (hR 13 5 19 rfl) ?_
        refine G_go rfl rfl ?_
        refine G_go rfl rfl ?_
        refine G_zw (n := 6) rfl rfl (by decide) (by decide) g2 (by decide) ?_
        have hR := refs_up (a := 19) (k := x1.toNat) (x := 0) hR rfl
        refine G_go rfl rfl ?_
        refine G_go rfl rfl ?_
        exact h
      · have h := h.2 c4
        refine G_go rfl rfl ?_
        refine G_go rfl rfl ?_
        refine G_ret rfl rfl ?_
        refine G_brF rfl rfl rfl ?_
        refine G_go rfl rfl ?_
        refine G_go rfl rfl ?_
        refine G_call rfl rfl ?_
        refine G_go rfl rfl ?_
        refine G_rf rfl rfl (by decide) (hR 13 0 14 rfl) ?_
        refine G_go rfl rfl ?_
        obtain ⟨g5, h⟩ := h
        refine G_ir (n := 6) rfl rfl (by decide) (by decide) g5 ?_
        refine G_go rfl rfl ?_
        refine G_rf rfl rfl (by decide) (hR 13 1 15 rfl) ?_
        refine G_go rfl rfl ?_
        refine G_ir (n := 6) rfl rfl (by decide) (by decide) g5 ?_
        refine G_call rfl rfl ?_
        refine c_X1_honest n _ _ (s 14 ((s 21 x1.toNat).toNat)) (s 15 ((s 21 x1.toNat).toNat)) hR ?_
        obtain ⟨g6, h⟩ := h
        refine G_retZ rfl rfl g6 ?_
        refine G_eq rfl rfl (fun c7 => ?_) (fun c7 => ?_)
        · have h := h.1 c7
          refine G_go rfl rfl ?_
          refine G_rf rfl rfl (by decide) (hR 13 8 22 rfl) ?_
          refine G_go rfl rfl ?_
          refine G_ir (n := 6) rfl rfl (by decide) (by decide) g2 ?_
          refine G_go rfl rfl ?_
          refine G_go rfl rfl ?_
          refine G_go rfl rfl ?_
          show G 2 120 29 52 [(3, 13), (1, x1), (1, s 21 x1.toNat), (1, xdiv (s 22 x1.toNat) 2), w4] [] (n, s) Q
          refine G_go rfl rfl ?_
          refine G_go rfl rfl ?_
          refine G_rf rfl rfl (by decide) (hR 13 2 16 rfl) ?_
          refine G_go rfl rfl ?_
          refine G_ir (n := 6) rfl rfl (by decide) (by decide) g5 ?_
          refine G_min rfl rfl ?_
          refine G_go rfl rfl ?_
          show G 2 120 29 64 [(3, 13), (1, x1), (1, s 21 x1.toNat), (1, xdiv (s 22 x1.toNat) 2), (1, min (xdiv (s 22 x1.toNat) 2) (s 16 ((s 21 x1.toNat).toNat)))] [] (n, s) Q
          refine G_go rfl rfl ?_
          refine G_rf rfl rfl (by decide) (hR 13 2 16 rfl) ?_
          refine G_go rfl rfl ?_
          refine G_go rfl rfl ?_
          refine G_ir (n := 6) rfl rfl (by decide) (by decide) g5 ?_
          refine G_go rfl rfl ?_
          refine G_go rfl rfl ?_
          refine G_iw (n := 6) rfl rfl (by decide) (by decide) g5 ?_
          have hR := refs_up (a := 16) (k := (s 21 x1.toNat).toNat) (x := wr ((s 16 ((s 21 x1.toNat).toNat)) - (min (xdiv (s 22 x1.toNat) 2) (s 16 ((s 21 x1.toNat).toNat))))) hR rfl
          refine G_go rfl rfl ?_
          refine G_rf rfl rfl (by decide) (hR 13 2 16 rfl) ?_
          refine G_go rfl rfl ?_
          refine G_go rfl rfl ?_
          refine G_go rfl rfl ?_
          refine G_go rfl rfl ?_
          refine G_call rfl rfl ?_
          refine G_go rfl rfl ?_
          refine G_go rfl rfl ?_
          refine G_rf rfl rfl (by decide) (hR 13 2 16 rfl) ?_
          refine G_go rfl rfl ?_
          refine G_ir (n := 6) rfl rfl (by decide) (by decide) g2 ?_
          refine G_go rfl rfl ?_
          refine G_go rfl rfl ?_
          refine G_min rfl rfl ?_
          refine G_ret rfl rfl ?_
          refine G_iw (n := 6) rfl rfl (by decide) (by decide) g2 ?_
          have hR := refs_up (a := 16) (k := x1.toNat) (x := min 999 (wr (((upS s 16 ((s 21 x1.toNat).toNat) (wr ((s 16 ((s 21 x1.toNat).toNat)) - (min (xdiv (s 22 x1.toNat) 2) (s 16 ((s 21 x1.toNat).toNat)))))) 16 x1.toNat) + (min (xdiv (s 22 x1.toNat) 2) (s 16 ((s 21 x1.toNat).toNat)))))) hR rfl
          refine G_go rfl rfl ?_
          refine G_rf rfl rfl (by decide) (hR 13 5 19 rfl) ?_
          refine G_go rfl rfl ?_
          refine G_go rfl rfl ?_
          refine G_zw (n := 6) rfl rfl (by decide) (by decide) g2 (by decide) ?_
          have hR := refs_up (a := 19) (k := x1.toNat) (x := 0) hR rfl
          refine G_go rfl rfl ?_
          refine G_go rfl rfl ?_
          exact h
        · have h := h.2 c7
          refine G_go rfl rfl ?_
          refine G_rf rfl rfl (by decide) (hR 13 8 22 rfl) ?_
          refine G_go rfl rfl ?_
          refine G_ir (n := 6) rfl rfl (by decide) (by decide) g2 ?_
          refine G_go rfl rfl ?_
          refine G_go rfl rfl ?_
          show G 2 120 29 52 [(3, 13), (1, x1), (1, s 21 x1.toNat), (1, s 22 x1.toNat), w4] [] (n, s) Q
          refine G_go rfl rfl ?_
          refine G_go rfl rfl ?_
          refine G_rf rfl rfl (by decide) (hR 13 2 16 rfl) ?_
          refine G_go rfl rfl ?_
          refine G_ir (n := 6) rfl rfl (by decide) (by decide) g5 ?_
          refine G_min rfl rfl ?_
          refine G_go rfl rfl ?_
          show G 2 120 29 64 [(3, 13), (1, x1), (1, s 21 x1.toNat), (1, s 22 x1.toNat), (1, min (s 22 x1.toNat) (s 16 ((s 21 x1.toNat).toNat)))] [] (n, s) Q
          refine G_go rfl rfl ?_
          refine G_rf rfl rfl (by decide) (hR 13 2 16 rfl) ?_
          refine G_go rfl rfl ?_
          refine G_go rfl rfl ?_
          refine G_ir (n := 6) rfl rfl (by decide) (by decide) g5 ?_
          refine G_go rfl rfl ?_
          refine G_go rfl rfl ?_
          refine G_iw (n := 6) rfl rfl (by decide) (by decide) g5 ?_
          have hR := refs_up (a := 16) (k := (s 21 x1.toNat).toNat) (x := wr ((s 16 ((s 21 x1.toNat).toNat)) - (min (s 22 x1.toNat) (s 16 ((s 21 x1.toNat).toNat))))) hR rfl
          refine G_go rfl rfl ?_
          refine G_rf rfl rfl (by decide) (hR 13 2 16 rfl) ?_
          refine G_go rfl rfl ?_
          refine G_go rfl rfl ?_
          refine G_go rfl rfl ?_
          refine G_go rfl rfl ?_
          refine G_call rfl rfl ?_
          refine G_go rfl rfl ?_
          refine G_go rfl rfl ?_
          refine G_rf rfl rfl (by decide) (hR 13 2 16 rfl) ?_
          refine G_go rfl rfl ?_
          refine G_ir (n := 6) rfl rfl (by decide) (by decide) g2 ?_
          refine G_go rfl rfl ?_
          refine G_go rfl rfl ?_
          refine G_min rfl rfl ?_
          refine G_ret rfl rfl ?_
          refine G_iw (n := 6) rfl rfl (by decide) (by decide) g2 ?_
          have hR := refs_up (a := 16) (k := x1.toNat) (x := min 999 (wr (((upS s 16 ((s 21 x1.toNat).toNat) (wr ((s 16 ((s 21 x1.toNat).toNat)) - (min (s 22 x1.toNat) (s 16 ((s 21 x1.toNat).toNat)))))) 16 x1.toNat) + (min (s 22 x1.toNat) (s 16 ((s 21 x1.toNat).toNat)))))) hR rfl
          refine G_go rfl rfl ?_
          refine G_rf rfl rfl (by decide) (hR 13 5 19 rfl) ?_
          refine G_go rfl rfl ?_
          refine G_go rfl rfl ?_
          refine G_zw (n := 6) rfl rfl (by decide) (by decide) g2 (by decide) ?_
          have hR := refs_up (a := 19) (k := x1.toNat) (x := 0) hR rfl
          refine G_go rfl rfl ?_
          refine G_go rfl rfl ?_
          exact h
theorem sb_X5_passNight_0_13 (n : Nat) (s : Nat → Nat → Int) (Q : List Vl → Sto → Prop) (a0 : Int) (hR : refs s)
    (h : G 2 120 25 0 [(3, 13), (0, 0), (0, 0)] [] (n, s) (fun r s1 => G 2 120 30 4 [(3, 13), (1, a0), (0, 0)] (r ++ []) s1 Q)) :
    G 2 120 30 0 [(3, 13), (1, a0), (0, 0)] [] (n, s) Q := by
  refine G_go rfl rfl ?_
  exact G_call rfl rfl h
theorem sb_X5_passNight_4_13 (n : Nat) (s : Nat → Nat → Int) (Q : List Vl → Sto → Prop) (x1 : Int) (hR : refs s)
    (h : G 2 120 30 6 [(3, 13), (1, x1), (1, 0)] [] (n, s) Q) :
    G 2 120 30 4 [(3, 13), (1, x1), (0, 0)] [] (n, s) Q := by
  refine G_go rfl rfl ?_
  refine G_go rfl rfl ?_
  show G 2 120 30 6 [(3, 13), (1, x1), (1, 0)] [] (n, s) Q
  exact h
theorem sb_X5_passNight_6_13 (n : Nat) (s : Nat → Nat → Int) (Q : List Vl → Sto → Prop) (x1 : Int) (x2 : Int) (hR : refs s)
    (h : (x1 ≤ x2 → G 2 120 29 0 [(3, 13), (0, 0), (0, 0), (0, 0), (0, 0)] [] (n, s) (fun r s1 => G 2 120 30 25 [(3, 13), (1, x1), (1, x2)] (r ++ []) s1 Q)) ∧ (x2 < x1 → G 2 120 27 0 [(3, 13), (0, 0)] [] (n, s) (fun r s1 => G 2 120 30 15 [(3, 13), (1, x1), (1, x2)] (r ++ []) s1 Q))) :
    G 2 120 30 6 [(3, 13), (1, x1), (1, x2)] [] (n, s) Q := by
  refine G_go rfl rfl ?_
  refine G_go rfl rfl ?_
  refine G_ge rfl rfl (fun c1 => ?_) (fun c1 => ?_)
  · have h := h.1 c1
    refine G_go rfl rfl ?_
    exact G_call rfl rfl h
  · have h := h.2 c1
    refine G_go rfl rfl ?_
    exact G_call rfl rfl h
theorem sb_X5_passNight_15_13 (n : Nat) (s : Nat → Nat → Int) (Q : List Vl → Sto → Prop) (x1 : Int) (x2 : Int) (hR : refs s)
    (h : G 2 120 30 6 [(3, 13), (1, x1), (1, wr (x2 + 1))] [] (n, s) Q) :
    G 2 120 30 15 [(3, 13), (1, x1), (1, x2)] [] (n, s) Q := by
  refine G_go rfl rfl ?_
  refine G_go rfl rfl ?_
  exact h
theorem sb_X5_passNight_25_13 (n : Nat) (s : Nat → Nat → Int) (Q : List Vl → Sto → Prop) (x1 : Int) (x2 : Int) (hR : refs s)
    (h : Q [] (n, s)) :
    G 2 120 30 25 [(3, 13), (1, x1), (1, x2)] [] (n, s) Q := by
  exact G_ret rfl rfl h
theorem c_dusk_13 (n : Nat) (s : Nat → Nat → Int) (Q : List Vl → Sto → Prop) (m : Nat) (h : Int) (V : Nat → Nat → Int) (hR : refs s) (ok : okT (m : Int) V) (ht : twC 13 s m h V) (hq : ∀ s1, refs s1 → frT 13 s s1 → twC 13 s1 m h (ltV m (dkV m V)) → (∀ p : Nat, p < m → 0 ≤ V 7 p → s1 22 p = dkV m V 8 p) → Q [] (n, s1)) : G 2 120 25 0 [(3, 13), (0, 0), (0, 0)] [] (n, s) Q := by
  obtain ⟨⟨o1, o2⟩, o3⟩ := ok
  refine sb_X5_dusk_0_13 n s Q hR ?_
  refine G_up m (fun k _ => ∀ w s1, refs s1 → (frT 13 s s1 ∧ twC 13 s1 m h (ltV k (dkV k V)) ∧ (∀ p : Nat, p < k → 0 ≤ V 7 p → s1 22 p = dkV k V 8 p)) → G 2 120 25 2 [(3, 13), (1, (k : Int)), w] [] (n, s1) Q) (fun _ _ => ()) (fun _ _ => True) () trivial (fun _ _ _ _ => trivial) (fun k _ hk _ hg w s1 hR1 hI => ?_) (fun _ w s1 hR1 hI => ?_) (0, 0) s hR ⟨fun _ _ => rfl, ?_, fun p hp => absurd hp (by omega)⟩
  · obtain ⟨f1, ⟨u1, u2, u3⟩, u4⟩ := hI
    have hp : (k : Int) < m := by omega
    have ok2 : okV (m : Int) (dkV k V) := okV_dkV o3 k (by omega)
    have hk1 : dkV (k + 1) V = dkF k (dkV k V) := rfl
    have h7 : ∀ q, dkV k V 7 q = V 7 q := fun q => dkV_o (by decide) (by decide)
    generalize dkV k V = W at *
    rw [hk1] at hg
    have e := u3 k hp
    simp only [ltV_k] at e
    obtain ⟨e0, e1, e2, e3, e4, e5, e6, e7⟩ := e
    obtain ⟨q0, q1, q2, q3, q4, q5, q6, q7⟩ := ok2 k hp
    have e2' : s1 16 k = W 2 k := e2
    have e4' : s1 18 k = W 4 k := e4
    have e7' : (W 7 k = -9 ∧ s1 21 k = -1) ∨ (0 ≤ W 7 k ∧ s1 21 k = W 7 k) := e7
    rw [← wr_s hk (by omega)] at hg
    refine sb_X5_dusk_2_13 n s1 Q k w hR1 ?_
    rw [Int.toNat_natCast, u1, e2', e4']
    have base : ∀ (s2 : Nat → Nat → Int), (∀ j, j < 8 → j ≠ 2 → j ≠ 5 → ∀ p, s2 (13 + 1 + j) p = s1 (13 + 1 + j) p) → (∀ p : Nat, p ≠ k → s2 19 p = s1 19 p) → s2 19 k = (if 0 < W 4 k then 1 else 0) → (∀ p : Nat, (p : Int) < m → s2 16 p = dkF k W 2 p) → eqV m (vw 14 s2) (ltV (k + 1) (dkF k W)) := fun s2 a b c d p hp => by
      obtain ⟨x0, x1, x2, x3, x4, x5, x6, x7⟩ := u3 p hp
      have y0 : s2 14 p = s1 14 p := a 0 (by decide) (by decide) (by decide) p
      have y1 : s2 15 p = s1 15 p := a 1 (by decide) (by decide) (by decide) p
      have y3 : s2 17 p = s1 17 p := a 3 (by decide) (by decide) (by decide) p
      have y4 : s2 18 p = s1 18 p := a 4 (by decide) (by decide) (by decide) p
      have y6 : s2 20 p = s1 20 p := a 6 (by decide) (by decide) (by decide) p
      have y7 : s2 21 p = s1 21 p := a 7 (by decide) (by decide) (by decide) p
      rw [ltV_o (j := 0) (by decide)] at x0 ⊢
      rw [ltV_o (j := 1) (by decide)] at x1 ⊢
      rw [ltV_o (j := 2) (by decide)] at x2 ⊢
      rw [ltV_o (j := 3) (by decide)] at x3 ⊢
      rw [ltV_o (j := 4) (by decide)] at x4 ⊢
      rw [ltV_o (j := 6) (by decide)] at x6 ⊢
      rw [ltV_o (j := 7) (by decide)] at x7 ⊢
      rw [dk_o (j := 0) (by decide) (by decide), dk_o (j := 1) (by decide) (by decide), dk_o (j := 3) (by decide) (by decide), dk_o (j := 4) (by decide) (by decide), dk_o (j := 6) (by decide) (by decide), dk_o (j := 7) (by decide) (by decide)]
      refine ⟨y0.trans x0, y1.trans x1, d p hp, y3.trans x3, y4.trans x4, ?_, y6.trans x6, ?_⟩
      · by_cases z : p = k
        · subst z
          rw [ltV_s, dk_o (by decide) (by decide)]
          exact c
        · rw [ltV_ne z]
          refine (b p z).trans (x5.trans ?_)
          unfold ltV
          rw [dk_o (j := 4) (by decide) (by decide), dk_o (j := 5) (by decide) (by decide)]
      · have y7 : vw 14 s2 7 p = vw 14 s1 7 p := y7
        rw [y7]
        exact x7
    have u3' : ∀ p : Nat, (p : Int) < m → s1 16 p = W 2 p := fun p hp => by
      have := (u3 p hp).2.2.1
      rw [ltV_o (by decide)] at this
      exact this
    have no : W 7 k = -9 → ∀ x, (x = if 0 < W 4 k then 1 else 0) → G 2 120 25 2 [(3, 13), (1, wr ((k : Int) + 1)), (1, s1 21 k)] [] (n, upS s1 19 k x) Q := fun c x hx => by
      have hd : dkF k W = W := if_neg (by omega)
      refine hg _ _ (refs_up hR1 rfl) ⟨fun c hc => ?_, ⟨u1, u2, base _ (fun j hj j2 j5 p => ?_) (fun p hpk => upS_2 hpk) (upS_eq.trans hx) (fun p hp => ?_)⟩, fun p hp h0 => ?_⟩
      · funext z
        rw [upS_1 (by omega), f1 c hc]
      · rw [upS_1 (by omega)]
      · rw [hd, upS_1 (by decide)]
        exact u3' p hp
      · rw [hd, upS_1 (by decide)]
        refine u4 p ?_ h0
        by_cases z : p = k
        · rw [z, ← h7] at h0
          omega
        · omega
    have yes : 0 ≤ W 7 k → ∀ x, (x = if 0 < W 4 k then 1 else 0) → G 2 120 25 2 [(3, 13), (1, wr ((k : Int) + 1)), (1, W 7 k)] [] (n, upS (upS (upS (upS s1 22 k (W 2 k)) 16 k 0) 16 (W 7 k).toNat (min 999 (wr (upS (upS s1 22 k (W 2 k)) 16 k 0 16 (W 7 k).toNat + W 2 k)))) 19 k x) Q := fun c x hx => by
      obtain ⟨c1, c2⟩ := co_ne ok2 hp c
      have hcc := u3' (W 7 k).toNat (by omega)
      have gc := (ok2 (W 7 k).toNat (by omega)).2.2.1
      rw [show upS (upS s1 22 k (W 2 k)) 16 k 0 16 (W 7 k).toNat = W 2 (W 7 k).toNat by rw [upS_2 c1, upS_1 (by decide), hcc], wr_id (x := W 2 (W 7 k).toNat + W 2 k) (by omega) (by omega)]
      refine hg _ _ (refs_up (refs_up (refs_up (refs_up hR1 rfl) rfl) rfl) rfl) ⟨fun c hc => ?_, ⟨u1, u2, base _ (fun j hj j2 j5 p => ?_) (fun p hpk => ?_) (upS_eq.trans hx) (fun p hp => ?_)⟩, fun p hp h0 => ?_⟩
      · funext z
        rw [upS_1 (by omega), upS_1 (by omega), upS_1 (by omega), upS_1 (by omega), f1 c hc]
      · rw [upS_1 (by omega), upS_1 (by omega), upS_1 (by omega), upS_1 (by omega)]
      · rw [upS_2 hpk, upS_1 (by decide), upS_1 (by decide), upS_1 (by decide)]
      · rw [dk_2 c c1, upS_1 (by decide)]
        by_cases z : p = (W 7 k).toNat
        · rw [if_pos z, z, upS_eq]
        · rw [if_neg z, upS_2 z]
          by_cases y : p = k
          · rw [if_pos y, y, upS_eq]
          · rw [if_neg y, upS_2 y, upS_1 (by decide)]
            exact u3' p hp
      · rw [upS_1 (by decide), upS_1 (by decide), upS_1 (by decide)]
        by_cases z : p = k
        · rw [z, upS_eq, dk_8p c]
        · rw [upS_2 z, dk_8 z]
          exact u4 p (by omega) h0
    rcases e7' with ⟨c1, c2⟩ | ⟨c1, c2⟩
    · refine ⟨fun e => by omega, fun _ => ⟨by omega, fun _ => ⟨fun d => no c1 0 (by rw [if_neg (by omega)]), fun d => no c1 1 (by rw [if_pos d])⟩, fun c => by omega⟩⟩
    · rw [c2]
      obtain ⟨c3, c4⟩ := co_ne ok2 hp c1
      exact ⟨fun e => by omega, fun _ => ⟨by omega, fun c => by omega, fun _ => ⟨fun c => by omega, fun _ => ⟨by omega, fun d => yes c1 0 (by rw [if_neg (by omega)]), fun d => yes c1 1 (by rw [if_pos d])⟩⟩⟩⟩
  · exact sb_X5_dusk_2_13 n s1 Q _ w hR1 ⟨fun _ => hq s1 hR1 hI.1 hI.2.1 hI.2.2, fun e => absurd e (by rw [hI.2.1.1]; omega)⟩
  · exact ⟨ht.1, ht.2.1, eqV_ext ht.2.2 (fun _ _ _ _ => rfl) (fun j _ p _ => ltV_0)⟩
theorem c_dawn_13 (n : Nat) (s : Nat → Nat → Int) (Q : List Vl → Sto → Prop) (m : Nat) (h : Int) (V : Nat → Nat → Int) (hR : refs s) (ok : okT (m : Int) V) (og : gvO m V) (ht : twC 13 s m h V) (hv : ∀ p : Nat, p < m → 0 ≤ V 7 p → s 22 p = V 8 p) (hq : ∀ s1, refs s1 → frT 13 s s1 → twC 13 s1 m h (ofV 0 (dwV m m V)) → Q [] (n, s1)) : G 2 120 29 0 [(3, 13), (0, 0), (0, 0), (0, 0), (0, 0)] [] (n, s) Q := by
  obtain ⟨⟨o1, o2⟩, o3⟩ := ok
  refine sb_X5_dawn_0_13 n s Q hR ?_
  rw [ht.1, wr_id (x := (m : Int) - 1) (by omega) (by omega)]
  have h0 : ((m : Int) - 1) = ((m : Int) - 1 - ((0 : Nat) : Int)) := by omega
  rw [h0]
  refine G_up m (fun k _ => ∀ w2 w3 w4 s1, refs s1 → (frT 13 s s1 ∧ s1 22 = s 22 ∧ twC 13 s1 m h (ofV (m - k) (dwV m k V))) → G 2 120 29 7 [(3, 13), (1, (m : Int) - 1 - (k : Int)), w2, w3, w4] [] (n, s1) Q) (fun _ _ => ()) (fun _ _ => True) () trivial (fun _ _ _ _ => trivial) (fun k _ hk _ hg w2 w3 w4 s1 hR1 hI => ?_) (fun _ w2 w3 w4 s1 hR1 hI => ?_) (0, 0) (0, 0) (0, 0) s hR ⟨fun _ _ => rfl, rfl, ?_⟩
  · obtain ⟨f1, f9, u1, u2, u3⟩ := hI
    have ok2 : okV (m : Int) (dwV m k V) := okV_dwV o3 og k (by omega)
    have h7 : ∀ q, dwV m k V 7 q = V 7 q := fun q => dwV_o (by decide)
    have h8 : ∀ q, dwV m k V 8 q = V 8 q := fun q => dwV_o (by decide)
    have hk1 : dwV m (k + 1) V = dwF (m - 1 - k) (dwV m k V) := rfl
    rw [hk1] at hg
    generalize dwV m k V = W at *
    obtain ⟨p, hpe⟩ : ∃ p : Nat, p = m - 1 - k := ⟨_, rfl⟩
    have hp : (p : Int) < m := by omega
    rw [← hpe, show m - (k + 1) = p by omega, show (m : Int) - 1 - ((k + 1 : Nat) : Int) = (p : Int) + (-1) by omega, ← wr_id (x := (p : Int) + (-1)) (by omega) (by omega)] at hg
    rw [show m - k = p + 1 by omega] at u3
    rw [show (m : Int) - 1 - (k : Int) = (p : Int) by omega]
    have e := u3 p hp
    obtain ⟨e0, e1, e2, e3, e4, e5, e6, e7⟩ := e
    rw [ofV_o (by decide)] at e2
    rw [ofV_o (by decide)] at e7
    obtain ⟨q0, q1, q2, q3, q4, q5, q6, q7⟩ := ok2 p hp
    have e2' : s1 16 p = W 2 p := e2
    have e7' : (W 7 p = -9 ∧ s1 21 p = -1) ∨ (0 ≤ W 7 p ∧ s1 21 p = W 7 p) := e7
    refine sb_X5_dawn_7_13 n s1 Q p w2 w3 w4 hR1 ?_
    rw [Int.toNat_natCast, u1]
    have u3' : ∀ q : Nat, (q : Int) < m → s1 16 q = W 2 q := fun q hq => by
      have := (u3 q hq).2.2.1
      rw [ofV_o (by decide)] at this
      exact this
    have base : ∀ (s2 : Nat → Nat → Int), (∀ j, j < 8 → j ≠ 2 → j ≠ 5 → ∀ q, s2 (13 + 1 + j) q = s1 (13 + 1 + j) q) → (∀ q : Nat, q ≠ p → s2 19 q = s1 19 q) → s2 19 p = 0 → (∀ q : Nat, (q : Int) < m → s2 16 q = dwF p W 2 q) → eqV m (vw 14 s2) (ofV p (dwF p W)) := fun s2 a b c d q hq => by
      obtain ⟨x0, x1, x2, x3, x4, x5, x6, x7⟩ := u3 q hq
      have y0 : s2 14 q = s1 14 q := a 0 (by decide) (by decide) (by decide) q
      have y1 : s2 15 q = s1 15 q := a 1 (by decide) (by decide) (by decide) q
      have y3 : s2 17 q = s1 17 q := a 3 (by decide) (by decide) (by decide) q
      have y4 : s2 18 q = s1 18 q := a 4 (by decide) (by decide) (by decide) q
      have y6 : s2 20 q = s1 20 q := a 6 (by decide) (by decide) (by decide) q
      have y7 : vw 14 s2 7 q = vw 14 s1 7 q := a 7 (by decide) (by decide) (by decide) q
      rw [ofV_o (j := 0) (by decide)] at x0 ⊢
      rw [ofV_o (j := 1) (by decide)] at x1 ⊢
      rw [ofV_o (j := 2) (by decide)] at x2 ⊢
      rw [ofV_o (j := 3) (by decide)] at x3 ⊢
      rw [ofV_o (j := 4) (by decide)] at x4 ⊢
      rw [ofV_o (j := 6) (by decide)] at x6 ⊢
      rw [ofV_o (j := 7) (by decide)] at x7 ⊢
      rw [dw_o (j := 0) (by decide), dw_o (j := 1) (by decide), dw_o (j := 3) (by decide), dw_o (j := 4) (by decide), dw_o (j := 6) (by decide), dw_o (j := 7) (by decide)]
      refine ⟨y0.trans x0, y1.trans x1, d q hq, y3.trans x3, y4.trans x4, ?_, y6.trans x6, ?_⟩
      · by_cases z : q = p
        · subst z
          rw [ofV_s]
          exact c
        · rw [ofV_ne z]
          refine (b q z).trans (x5.trans ?_)
          unfold ofV
          rw [dw_o (j := 5) (by decide)]
      · rw [y7]
        exact x7
    have no : W 7 p = -9 → G 2 120 29 7 [(3, 13), (1, wr ((p : Int) + (-1))), (1, s1 21 p), w3, w4] [] (n, upS s1 19 p 0) Q := fun c => by
      have hd : dwF p W = W := if_neg (by omega)
      refine hg _ _ _ _ (refs_up hR1 rfl) ⟨fun c hc => ?_, ?_, ⟨u1, u2, base _ (fun j hj j2 j5 q => ?_) (fun q hqp => upS_2 hqp) upS_eq (fun q hq => ?_)⟩⟩
      · funext z
        rw [upS_1 (by omega), f1 c hc]
      · funext z
        rw [upS_1 (by decide), f9]
      · rw [upS_1 (by omega)]
      · rw [hd, upS_1 (by decide)]
        exact u3' q hq
    have yes : 0 ≤ W 7 p → ∀ x y, x = dueV W p → G 2 120 29 7 [(3, 13), (1, wr ((p : Int) + (-1))), (1, W 7 p), (1, y), (1, x)] [] (n, upS (upS (upS s1 16 (W 7 p).toNat (wr (W 2 (W 7 p).toNat - x))) 16 p (min 999 (wr (upS s1 16 (W 7 p).toNat (wr (W 2 (W 7 p).toNat - x)) 16 p + x)))) 19 p 0) Q := fun c x y hx => by
      obtain ⟨c1, c2⟩ := co_ne ok2 hp c
      have gd := due_rg ok2 hp c (by rw [h8]; rw [h7] at c; exact og p hp c)
      have gc := (ok2 (W 7 p).toNat (by omega)).2.2.1
      rw [wr_id (x := W 2 (W 7 p).toNat - x) (by omega) (by omega), show upS s1 16 (W 7 p).toNat (W 2 (W 7 p).toNat - x) 16 p = W 2 p by rw [upS_2 (Ne.symm c1), e2'], wr_id (x := W 2 p + x) (by omega) (by omega)]
      refine hg _ _ _ _ (refs_up (refs_up (refs_up hR1 rfl) rfl) rfl) ⟨fun c hc => ?_, ?_, ⟨u1, u2, base _ (fun j hj j2 j5 q => ?_) (fun q hqp => ?_) upS_eq (fun q hq => ?_)⟩⟩
      · funext z
        rw [upS_1 (by omega), upS_1 (by omega), upS_1 (by omega), f1 c hc]
      · funext z
        rw [upS_1 (by decide), upS_1 (by decide), upS_1 (by decide), f9]
      · rw [upS_1 (by omega), upS_1 (by omega), upS_1 (by omega)]
      · rw [upS_2 hqp, upS_1 (by decide), upS_1 (by decide)]
      · rw [dw_2 c c1, upS_1 (by decide)]
        by_cases z : q = p
        · rw [if_pos z, z, upS_eq, hx]
        · rw [if_neg z, upS_2 z]
          by_cases y : q = (W 7 p).toNat
          · rw [if_pos y, y, upS_eq, hx]
          · rw [if_neg y, upS_2 y]
            exact u3' q hq
    rcases e7' with ⟨c1, c2⟩ | ⟨c1, c2⟩
    · exact ⟨fun e => by omega, fun _ => ⟨by omega, fun _ => no c1, fun c => by omega⟩⟩
    · rw [c2]
      obtain ⟨c3, c4⟩ := co_ne ok2 hp c1
      have hc : ((W 7 p).toNat : Int) < m := by omega
      have xc := u3 (W 7 p).toNat hc
      rw [ofV_o (by decide), ofV_o (by decide)] at xc
      have x0 : s1 14 (W 7 p).toNat = W 0 (W 7 p).toNat := xc.1
      have x1 : s1 15 (W 7 p).toNat = W 1 (W 7 p).toNat := xc.2.1
      have x9 : s1 22 p = W 8 p := by
        rw [f9, h8]
        rw [h7] at c1
        exact hv p (by omega) c1
      have g8 : 0 ≤ W 8 p ∧ W 8 p ≤ 999 := by
        rw [h8]
        rw [h7] at c1
        exact og p hp c1
      rw [u3' _ hc, x0, x1, x9, xdiv_nn (a := W 8 p) (b := 2) (by omega) (by omega) (by decide) (by decide)]
      refine ⟨fun e => by omega, fun _ => ⟨by omega, fun c => by omega, fun _ => ⟨fun c => by omega, fun _ => ⟨by omega, hon_01 _ _, fun d => yes c1 _ _ ?_, fun d => yes c1 _ _ ?_⟩⟩⟩⟩
      · unfold dueV hnW
        rw [if_pos d]
      · unfold dueV hnW
        rw [if_neg d]
  · rw [show m - m = 0 by omega] at hI
    exact sb_X5_dawn_7_13 n s1 Q _ w2 w3 w4 hR1 ⟨fun _ => hq s1 hR1 hI.1 hI.2.2, fun e => by omega⟩
  · refine ⟨ht.1, ht.2.1, eqV_ext ht.2.2 (fun _ _ _ _ => rfl) (fun j _ p hp => ?_)⟩
    show ofV (m - 0) V j p = V j p
    exact if_neg (fun e => absurd e.2 (by omega))
theorem c_passNight_13 (n : Nat) (s : Nat → Nat → Int) (Q : List Vl → Sto → Prop) (m : Nat) (h : Int) (V : Nat → Nat → Int) (N : Nat) (hN : N ≤ 99) (hR : refs s) (ok : okT (m : Int) V) (ht : twC 13 s m h V) (hq : ∀ s1, refs s1 → frT 13 s s1 → twC 13 s1 m (hrN N h (ltV m (dkV m V))).1 (ntV m N h V) → Q [] (n, s1)) : G 2 120 30 0 [(3, 13), (1, (N : Int)), (0, 0)] [] (n, s) Q := by
  refine sb_X5_passNight_0_13 n s Q N hR ?_
  refine c_dusk_13 n s _ m h V hR ok ht (fun s1 hR1 f1 u1 v1 => ?_)
  refine sb_X5_passNight_4_13 n s1 Q N hR1 ?_
  refine G_up N (fun k b => ∀ s2, refs s2 → (frH 13 s1 s2 ∧ okT (m : Int) b.2 ∧ twC 13 s2 m b.1 b.2) → G 2 120 30 6 [(3, 13), (1, (N : Int)), (1, (k : Int))] [] (n, s2) Q) (fun _ x => (wr (x.1 + 1), hrV x.2)) (fun _ _ => True) (h, ltV m (dkV m V)) trivial (fun _ _ _ _ => trivial) (fun k b hk _ hg s2 hR2 hI => ?_) (fun _ s2 hR2 hI => ?_) s1 hR1 ⟨fun _ _ => rfl, okT_mid (N := 0) (h := h) ok, u1⟩
  · obtain ⟨f2, o2, u2⟩ := hI
    rw [← wr_s hk (by omega)] at hg
    refine sb_X5_passNight_6_13 n s2 Q N k hR2 ⟨fun e => by omega, fun _ => ?_⟩
    refine c_passHour_13 n s2 _ m _ _ hR2 o2 u2 (fun s3 hR3 f3 u3 => ?_)
    exact sb_X5_passNight_15_13 n s3 Q N k hR3 (hg s3 hR3 ⟨frH_trans f2 f3, okT_hr o2, u3⟩)
  · obtain ⟨f2, o2, u2⟩ := hI
    refine sb_X5_passNight_6_13 n s2 Q N N hR2 ⟨fun _ => ?_, fun e => by omega⟩
    refine c_dawn_13 n s2 _ m _ (hrN N h (ltV m (dkV m V))).2 hR2 (okT_mid ok) (nt_gv ok.2) u2 (fun p hp c => ?_) (fun s3 hR3 f3 u3 => ?_)
    · rw [hrN_7, ltV_o (by decide), dkV_o (by decide) (by decide)] at c
      rw [f2 22 (by omega), hrN_8, ltV_o (by decide)]
      exact v1 p hp c
    · exact sb_X5_passNight_25_13 n s3 Q N N hR3 (hq s3 hR3 (frT_trans f1 (frT_trans (frH_t f2) f3)) u3)

/-! RUNS OF THE SMALL MACHINE, goal first: G m pc L st s Q: from place pc of method m, with locals L and stack st, over the store s, the method ends, and its answer and the store then have Q. -/
theorem run_fuel {lo hi : Nat} : ∀ (f m pc : Nat) (L st : List Vl) (s : Sto) (x : List Vl × Sto), run lo hi f m pc L st s = some x → run lo hi (f + 1) m pc L st s = some x := by
  intro f
  induction f with
  | zero => intro m pc L st s x h; cases h
  | succ f ih =>
    intro m pc L st s x h
    rw [run] at h ⊢
    cases hn : nth (mE m) pc with
    | none => rw [hn] at h; cases h
    | some en =>
      rw [hn] at h
      dsimp only at h ⊢
      generalize act m en pc L st = A at h ⊢
      split at h
      · exact ih _ _ _ _ _ _ h
      · split at h
        · rename_i hc
          try dsimp only
          rw [if_pos hc]
          exact ih _ _ _ _ _ _ h
        · cases h
      · split at h
        · rename_i hc
          try dsimp only
          rw [if_pos hc]
          exact ih _ _ _ _ _ _ h
        · cases h
      · split at h
        · rename_i hc
          try dsimp only
          rw [if_pos hc]
          exact ih _ _ _ _ _ _ h
        · cases h
      · split at h
        · rename_i hc
          try dsimp only
          rw [ih _ _ _ _ _ _ hc]
          exact ih _ _ _ _ _ _ h
        · cases h
      · exact h
      · split at h
        · rename_i hc
          try dsimp only
          rw [if_pos hc]
          exact ih _ _ _ _ _ _ h
        · cases h
      · split at h
        · rename_i hc
          try dsimp only
          rw [if_pos hc]
          exact ih _ _ _ _ _ _ h
        · cases h
      · try dsimp only
        split at h
        · rename_i hc
          rw [if_pos hc]
          exact ih _ _ _ _ _ _ h
        · rename_i hc
          rw [if_neg hc]
          exact ih _ _ _ _ _ _ h
      · cases h
theorem run_more {lo hi f m pc : Nat} {L st : List Vl} {s : Sto} {x : List Vl × Sto} (h : run lo hi f m pc L st s = some x) (k : Nat) : run lo hi (f + k) m pc L st s = some x := by
  induction k with
  | zero => exact h
  | succ k ih => exact run_fuel _ _ _ _ _ _ _ ih
def G (lo hi m pc : Nat) (L st : List Vl) (s : Sto) (Q : List Vl → Sto → Prop) : Prop := ∃ (f : Nat) (r : List Vl) (s' : Sto), run lo hi f m pc L st s = some (r, s') ∧ Q r s'
section GR
variable {lo hi m pc pc' : Nat} {L st L' st' : List Vl} {s : Sto} {Q : List Vl → Sto → Prop} {en : Ent}
theorem G_go (he : nth (mE m) pc = some en) (ha : act m en pc L st = goA pc' L' st') (k : G lo hi m pc' L' st' s Q) : G lo hi m pc L st s Q := by
  obtain ⟨f, r, s', h, q⟩ := k
  refine ⟨f + 1, r, s', ?_, q⟩
  rw [run, he]
  try dsimp only
  rw [ha]
  exact h
theorem G_rd {a k t : Nat} {z : Int} (he : nth (mE m) pc = some en) (ha : act m en pc L st = (2, pc', a, k, false, (t, z), L', st', [])) (hr : lo ≤ a ∧ a < hi) (kk : G lo hi m pc' L' ((t, s.2 a k) :: st') s Q) : G lo hi m pc L st s Q := by
  obtain ⟨f, r, s', h, q⟩ := kk
  refine ⟨f + 1, r, s', ?_, q⟩
  rw [run, he]
  try dsimp only
  rw [ha]
  show (if lo ≤ a ∧ a < hi then run lo hi f m pc' L' ((t, s.2 a k) :: st') s else none) = _
  rw [if_pos hr]
  exact h
theorem G_wr {a k t : Nat} {x : Int} (he : nth (mE m) pc = some en) (ha : act m en pc L st = (3, pc', a, k, false, (t, x), L', st', [])) (hr : lo ≤ a ∧ a < hi) (kk : G lo hi m pc' L' st' (s.1, upS s.2 a k x) Q) : G lo hi m pc L st s Q := by
  obtain ⟨f, r, s', h, q⟩ := kk
  refine ⟨f + 1, r, s', ?_, q⟩
  rw [run, he]
  try dsimp only
  rw [ha]
  show (if lo ≤ a ∧ a < hi then run lo hi f m pc' L' st' (s.1, upS s.2 a k x) else none) = _
  rw [if_pos hr]
  exact h
theorem G_call {j k : Nat} {b : Bool} {v : Vl} {as : List Vl} (he : nth (mE m) pc = some en) (ha : act m en pc L st = (5, pc', j, k, b, v, L', st', as)) (kk : G lo hi j 0 (entL as (mL j)) [] s (fun r s1 => G lo hi m pc' L' (r ++ st') s1 Q)) : G lo hi m pc L st s Q := by
  obtain ⟨f1, r1, s1, h1, f2, r, s', h, q⟩ := kk
  refine ⟨f1 + f2 + 1, r, s', ?_, q⟩
  rw [run, he]
  try dsimp only
  rw [ha]
  show (match run lo hi (f1 + f2) j 0 (entL as (mL j)) [] s with
    | some (r, s') => run lo hi (f1 + f2) m pc' L' (r ++ st') s'
    | none => none) = _
  rw [run_more h1 f2]
  show run lo hi (f1 + f2) m pc' L' (r1 ++ st') s1 = _
  rw [Nat.add_comm f1 f2]
  exact run_more h f1
theorem G_ret (he : nth (mE m) pc = some en) (ha : (act m en pc L st).1 = 6) (k : Q st s) : G lo hi m pc L st s Q := by
  refine ⟨1, st, s, ?_, k⟩
  rw [run, he]
  try dsimp only
  generalize act m en pc L st = A at ha
  obtain ⟨t, x⟩ := A
  dsimp only at ha
  subst ha
  rfl
theorem G_br {b : Bool} {pf : Nat} {v : Vl} (he : nth (mE m) pc = some en) (ha : act m en pc L st = (9, pc', pf, 0, b, v, L', st', [])) (kt : b = true → G lo hi m pc' L' st' s Q) (kf : b = false → G lo hi m pf L' st' s Q) : G lo hi m pc L st s Q := by
  cases b with
  | true =>
    obtain ⟨f, r, s', h, q⟩ := kt rfl
    refine ⟨f + 1, r, s', ?_, q⟩
    rw [run, he]
    try dsimp only
    rw [ha]
    exact h
  | false =>
    obtain ⟨f, r, s', h, q⟩ := kf rfl
    refine ⟨f + 1, r, s', ?_, q⟩
    rw [run, he]
    try dsimp only
    rw [ha]
    exact h
theorem G_eq {x y : Int} {pf : Nat} {v : Vl} (he : nth (mE m) pc = some en) (ha : act m en pc L st = (9, pc', pf, 0, cmpB .eq x y, v, L', st', [])) (kt : x = y → G lo hi m pc' L' st' s Q) (kf : x ≠ y → G lo hi m pf L' st' s Q) : G lo hi m pc L st s Q :=
  G_br he ha (fun h => kt (of_decide_eq_true h)) (fun h => kf (of_decide_eq_false h))
theorem G_ne {x y : Int} {pf : Nat} {v : Vl} (he : nth (mE m) pc = some en) (ha : act m en pc L st = (9, pc', pf, 0, cmpB .ne x y, v, L', st', [])) (kt : x ≠ y → G lo hi m pc' L' st' s Q) (kf : x = y → G lo hi m pf L' st' s Q) : G lo hi m pc L st s Q :=
  G_br he ha (fun h => kt (of_decide_eq_true h)) (fun h => kf (Decidable.not_not.mp (of_decide_eq_false h)))
theorem G_lt {x y : Int} {pf : Nat} {v : Vl} (he : nth (mE m) pc = some en) (ha : act m en pc L st = (9, pc', pf, 0, cmpB .lt x y, v, L', st', [])) (kt : x < y → G lo hi m pc' L' st' s Q) (kf : y ≤ x → G lo hi m pf L' st' s Q) : G lo hi m pc L st s Q :=
  G_br he ha (fun h => kt (of_decide_eq_true h)) (fun h => kf (by have := of_decide_eq_false h; omega))
theorem G_ge {x y : Int} {pf : Nat} {v : Vl} (he : nth (mE m) pc = some en) (ha : act m en pc L st = (9, pc', pf, 0, cmpB .ge x y, v, L', st', [])) (kt : y ≤ x → G lo hi m pc' L' st' s Q) (kf : x < y → G lo hi m pf L' st' s Q) : G lo hi m pc L st s Q :=
  G_br he ha (fun h => kt (of_decide_eq_true h)) (fun h => kf (by have := of_decide_eq_false h; omega))
theorem G_gt {x y : Int} {pf : Nat} {v : Vl} (he : nth (mE m) pc = some en) (ha : act m en pc L st = (9, pc', pf, 0, cmpB .gt x y, v, L', st', [])) (kt : y < x → G lo hi m pc' L' st' s Q) (kf : x ≤ y → G lo hi m pf L' st' s Q) : G lo hi m pc L st s Q :=
  G_br he ha (fun h => kt (of_decide_eq_true h)) (fun h => kf (by have := of_decide_eq_false h; omega))
theorem G_le {x y : Int} {pf : Nat} {v : Vl} (he : nth (mE m) pc = some en) (ha : act m en pc L st = (9, pc', pf, 0, cmpB .le x y, v, L', st', [])) (kt : x ≤ y → G lo hi m pc' L' st' s Q) (kf : y < x → G lo hi m pf L' st' s Q) : G lo hi m pc L st s Q :=
  G_br he ha (fun h => kt (of_decide_eq_true h)) (fun h => kf (by have := of_decide_eq_false h; omega))
theorem G_mono {Q2 : List Vl → Sto → Prop} (h : G lo hi m pc L st s Q) (hq : ∀ r s1, Q r s1 → Q2 r s1) : G lo hi m pc L st s Q2 := by
  obtain ⟨f, r, s', h, q⟩ := h
  exact ⟨f, r, s', h, hq _ _ q⟩
theorem G_swap {lo2 hi2 m2 pc2 : Nat} {L2 st2 : List Vl} {s2 : Sto} {Q4 : List Vl → Sto → List Vl → Sto → Prop} (h : G lo2 hi2 m2 pc2 L2 st2 s2 (fun r2 t2 => G lo hi m pc L st s (fun r t => Q4 r t r2 t2))) : G lo hi m pc L st s (fun r t => G lo2 hi2 m2 pc2 L2 st2 s2 (fun r2 t2 => Q4 r t r2 t2)) := by
  obtain ⟨f2, r2, t2, h2, f, r, t, h, q⟩ := h
  exact ⟨f, r, t, h, f2, r2, t2, h2, q⟩
theorem G_al {a k : Nat} {b : Bool} {v : Vl} (he : nth (mE m) pc = some en) (ha : act m en pc L st = (4, pc', a, k, b, v, L', st', [])) (hl : lay s.1 = (a, k) ∧ lo ≤ s.1 ∧ s.1 < hi) (kk : G lo hi m pc' L' ((3, (s.1 : Int)) :: st') (s.1 + 1, clS s.2 s.1) Q) : G lo hi m pc L st s Q := by
  obtain ⟨f, r, s', h, q⟩ := kk
  refine ⟨f + 1, r, s', ?_, q⟩
  rw [run, he]
  try dsimp only
  rw [ha]
  show (if lay s.1 = (a, k) ∧ lo ≤ s.1 ∧ s.1 < hi then run lo hi f m pc' L' ((3, (s.1 : Int)) :: st') (s.1 + 1, clS s.2 s.1) else none) = _
  rw [if_pos hl]
  exact h
theorem G_brT {b : Bool} {pf : Nat} {v : Vl} (he : nth (mE m) pc = some en) (ha : act m en pc L st = (9, pc', pf, 0, b, v, L', st', [])) (hb : b = true) (k : G lo hi m pc' L' st' s Q) : G lo hi m pc L st s Q := G_br he ha (fun _ => k) (fun h => by rw [hb] at h; cases h)
theorem G_brF {b : Bool} {pf : Nat} {v : Vl} (he : nth (mE m) pc = some en) (ha : act m en pc L st = (9, pc', pf, 0, b, v, L', st', [])) (hb : b = false) (k : G lo hi m pf L' st' s Q) : G lo hi m pc L st s Q := G_br he ha (fun h => by rw [hb] at h; cases h) (fun _ => k)
theorem G_k {x k : Int} (hx : x = k) (he : nth (mE m) pc = some en) (ha : act m en pc L ((1, k) :: st) = goA pc' L' st') (kk : G lo hi m pc' L' st' s Q) : G lo hi m pc L ((1, x) :: st) s Q := by
  subst hx
  exact G_go he ha kk
theorem G_tsd {x d l h : Int} {offs : Array Int} {len r1 : Nat} {r2 : Int} (he : nth (mE m) pc = some (.tableswitch d l h offs, len, r1, r2)) (hj : jmp pc d L st = goA pc' L st) (hd : x < l ∨ h < x) (kk : G lo hi m pc' L st s Q) : G lo hi m pc L ((1, x) :: st) s Q := by
  refine G_go he ?_ kk
  show (if x < l ∨ h < x then jmp pc d L st else _) = _
  rw [if_pos hd]
  exact hj
theorem G_lkd {x d : Int} {ps : Array (Int × Int)} {len r1 : Nat} {r2 : Int} (he : nth (mE m) pc = some (.lookupswitch d ps, len, r1, r2)) (ho : Op.lookupswitch.offset ps.toList d x = d) (hj : jmp pc d L st = goA pc' L st) (kk : G lo hi m pc' L st s Q) : G lo hi m pc L ((1, x) :: st) s Q := by
  refine G_go he ?_ kk
  show jmp pc (Op.lookupswitch.offset ps.toList d x) L st = _
  rw [ho]
  exact hj
theorem G_rf {a k : Nat} {v z : Int} (he : nth (mE m) pc = some en) (ha : act m en pc L st = (2, pc', a, k, false, (3, z), L', st', [])) (hr : lo ≤ a ∧ a < hi) (hv : s.2 a k = v) (kk : G lo hi m pc' L' ((3, v) :: st') s Q) : G lo hi m pc L st s Q := by
  refine G_rd he ha hr ?_
  rw [hv]
  exact kk
theorem G_pz {a k : Nat} {y : Int} (he : nth (mE m) pc = some en) (ha : ∀ y : Int, (y = 0 ∨ y = 1) → act m en pc L ((1, y) :: st) = (3, pc', a, k, false, (1, y), L', st', [])) (g : y = 0 ∨ y = 1) (hr : lo ≤ a ∧ a < hi) (kk : G lo hi m pc' L' st' (s.1, upS s.2 a k y) Q) : G lo hi m pc L ((1, y) :: st) s Q := G_wr he (ha y g) hr kk
theorem G_ir {a i : Int} {n : Nat} (he : nth (mE m) pc = some (.iaload, 1, 0, 0)) (hl : lay a.toNat = (2, n)) (h2 : 2 ≤ a) (hr : lo ≤ a.toNat ∧ a.toNat < hi) (g : 0 ≤ i ∧ i < (n : Int)) (kk : G lo hi m (pc + 1) L ((1, s.2 a.toNat i.toNat) :: st) s Q) : G lo hi m pc L ((1, i) :: (3, a) :: st) s Q := by
  refine G_rd he (t := 1) (z := 0) ?_ hr kk
  show (if a = 1 then _ else if 2 ≤ a ∧ (lay a.toNat).1 = 2 ∧ 0 ≤ i ∧ i < ((lay a.toNat).2 : Int) then _ else _) = _
  rw [if_neg (by omega), hl, if_pos ⟨h2, rfl, g.1, g.2⟩]
theorem G_zr {a i : Int} {n : Nat} (he : nth (mE m) pc = some (.baload, 1, 0, 0)) (hl : lay a.toNat = (3, n)) (h2 : 2 ≤ a) (hr : lo ≤ a.toNat ∧ a.toNat < hi) (g : 0 ≤ i ∧ i < (n : Int)) (kk : G lo hi m (pc + 1) L ((1, s.2 a.toNat i.toNat) :: st) s Q) : G lo hi m pc L ((1, i) :: (3, a) :: st) s Q := by
  refine G_rd he (t := 1) (z := 0) ?_ hr kk
  show (if 2 ≤ a ∧ (lay a.toNat).1 = 3 ∧ 0 ≤ i ∧ i < ((lay a.toNat).2 : Int) then _ else _) = _
  rw [hl, if_pos ⟨h2, rfl, g.1, g.2⟩]
theorem G_irv {a i v : Int} {n : Nat} (he : nth (mE m) pc = some (.iaload, 1, 0, 0)) (hl : lay a.toNat = (2, n)) (h2 : 2 ≤ a) (hr : lo ≤ a.toNat ∧ a.toNat < hi) (g : 0 ≤ i ∧ i < (n : Int)) (hv : s.2 a.toNat i.toNat = v) (kk : G lo hi m (pc + 1) L ((1, v) :: st) s Q) : G lo hi m pc L ((1, i) :: (3, a) :: st) s Q :=
  G_ir he hl h2 hr g (by rw [hv]; exact kk)
theorem G_zrv {a i v : Int} {n : Nat} (he : nth (mE m) pc = some (.baload, 1, 0, 0)) (hl : lay a.toNat = (3, n)) (h2 : 2 ≤ a) (hr : lo ≤ a.toNat ∧ a.toNat < hi) (g : 0 ≤ i ∧ i < (n : Int)) (hv : s.2 a.toNat i.toNat = v) (kk : G lo hi m (pc + 1) L ((1, v) :: st) s Q) : G lo hi m pc L ((1, i) :: (3, a) :: st) s Q :=
  G_zr he hl h2 hr g (by rw [hv]; exact kk)
theorem G_rdv {a k t : Nat} {z v : Int} (he : nth (mE m) pc = some en) (ha : act m en pc L st = (2, pc', a, k, false, (t, z), L', st', [])) (hr : lo ≤ a ∧ a < hi) (hv : s.2 a k = v) (kk : G lo hi m pc' L' ((t, v) :: st') s Q) : G lo hi m pc L st s Q :=
  G_rd he ha hr (by rw [hv]; exact kk)
theorem G_iw {a i x : Int} {n : Nat} (he : nth (mE m) pc = some (.iastore, 1, 0, 0)) (hl : lay a.toNat = (2, n)) (h2 : 2 ≤ a) (hr : lo ≤ a.toNat ∧ a.toNat < hi) (g : 0 ≤ i ∧ i < (n : Int)) (kk : G lo hi m (pc + 1) L st (s.1, upS s.2 a.toNat i.toNat x) Q) : G lo hi m pc L ((1, x) :: (1, i) :: (3, a) :: st) s Q := by
  refine G_wr he (t := 1) ?_ hr kk
  show (if 2 ≤ a ∧ (lay a.toNat).1 = 2 ∧ 0 ≤ i ∧ i < ((lay a.toNat).2 : Int) then _ else _) = _
  rw [hl, if_pos ⟨h2, rfl, g.1, g.2⟩]
theorem G_zw {a i x : Int} {n : Nat} (he : nth (mE m) pc = some (.bastore, 1, 0, 0)) (hl : lay a.toNat = (3, n)) (h2 : 2 ≤ a) (hr : lo ≤ a.toNat ∧ a.toNat < hi) (g : 0 ≤ i ∧ i < (n : Int)) (gz : x = 0 ∨ x = 1) (kk : G lo hi m (pc + 1) L st (s.1, upS s.2 a.toNat i.toNat x) Q) : G lo hi m pc L ((1, x) :: (1, i) :: (3, a) :: st) s Q := by
  refine G_wr he (t := 1) ?_ hr kk
  show (if 2 ≤ a ∧ (lay a.toNat).1 = 3 ∧ 0 ≤ i ∧ i < ((lay a.toNat).2 : Int) ∧ (x = 0 ∨ x = 1) then _ else _) = _
  rw [hl, if_pos ⟨h2, rfl, g.1, g.2, gz⟩]
theorem G_min {x y : Int} {i r1 : Nat} (he : nth (mE m) pc = some (.invokestatic i, 3, r1, 1)) (hc : Nat.ble (cats st) 8 = true) (kk : G lo hi m (pc + 3) L ((1, min x y) :: st) s Q) : G lo hi m pc L ((1, y) :: (1, x) :: st) s Q := by
  refine G_go he ?_ kk
  show (if cats st ≤ 8 then goA (pc + 3) L ((1, if (1 : Int) = 1 then (if y < x then y else x) else (if x < y then y else x)) :: st) else stk) = _
  rw [if_pos (Nat.le_of_ble_eq_true hc), if_pos rfl]
  have : (if y < x then y else x) = min x y := by
    by_cases h : y < x
    · rw [if_pos h]; omega
    · rw [if_neg h]; omega
  rw [this]
theorem G_max {x y : Int} {i r1 : Nat} (he : nth (mE m) pc = some (.invokestatic i, 3, r1, 2)) (hc : Nat.ble (cats st) 8 = true) (kk : G lo hi m (pc + 3) L ((1, max x y) :: st) s Q) : G lo hi m pc L ((1, y) :: (1, x) :: st) s Q := by
  refine G_go he ?_ kk
  show (if cats st ≤ 8 then goA (pc + 3) L ((1, if (2 : Int) = 1 then (if y < x then y else x) else (if x < y then y else x)) :: st) else stk) = _
  rw [if_pos (Nat.le_of_ble_eq_true hc), if_neg (by decide)]
  have : (if x < y then y else x) = max x y := by
    by_cases h : x < y
    · rw [if_pos h]; omega
    · rw [if_neg h]; omega
  rw [this]
theorem G_retZ {x : Int} (he : nth (mE m) pc = some (.ireturn, 1, 0, 0)) (hm : mR m = some .boolean) (g : x = 0 ∨ x = 1) (k : Q [(1, x)] s) : G lo hi m pc L [(1, x)] s Q := by
  refine G_ret he ?_ k
  show (if mR m = some .int ∨ (mR m = some .boolean ∧ (x = 0 ∨ x = 1)) then _ else stk).1 = 6
  rw [if_pos (Or.inr ⟨hm, g⟩)]
theorem G_idiv {x y : Int} (he : nth (mE m) pc = some (.idiv, 1, 0, 0)) (g : y ≠ 0) (kk : G lo hi m (pc + 1) L ((1, xdiv x y) :: st) s Q) : G lo hi m pc L ((1, y) :: (1, x) :: st) s Q := by
  refine G_go he ?_ kk
  show (if y = 0 then stk else _) = _
  rw [if_neg g]
theorem G_irem {x y : Int} (he : nth (mE m) pc = some (.irem, 1, 0, 0)) (g : y ≠ 0) (kk : G lo hi m (pc + 1) L ((1, xrem x y) :: st) s Q) : G lo hi m pc L ((1, y) :: (1, x) :: st) s Q := by
  refine G_go he ?_ kk
  show (if y = 0 then stk else _) = _
  rw [if_neg g]
theorem G_ldiv {x y : Int} (he : nth (mE m) pc = some (.ldiv, 1, 0, 0)) (g : y ≠ 0) (kk : G lo hi m (pc + 1) L ((2, xldiv x y) :: st) s Q) : G lo hi m pc L ((2, y) :: (2, x) :: st) s Q := by
  refine G_go he ?_ kk
  show (if y = 0 then stk else _) = _
  rw [if_neg g]
theorem G_lrem {x y : Int} (he : nth (mE m) pc = some (.lrem, 1, 0, 0)) (g : y ≠ 0) (kk : G lo hi m (pc + 1) L ((2, xlrem x y) :: st) s Q) : G lo hi m pc L ((2, y) :: (2, x) :: st) s Q := by
  refine G_go he ?_ kk
  show (if y = 0 then stk else _) = _
  rw [if_neg g]
end GR
theorem xl_lt {a b : Int} (h : xlcmp a b < 0) : a < b := by
  unfold xlcmp at h
  split at h
  · omega
  · split at h <;> omega
theorem xl_ge {a b : Int} (h : 0 ≤ xlcmp a b) : a ≥ b := by
  unfold xlcmp at h
  split at h
  · omega
  · split at h <;> omega
theorem xl_gt {a b : Int} (h : 0 < xlcmp a b) : a > b := by
  unfold xlcmp at h
  split at h
  · omega
  · split at h <;> omega
theorem xl_le {a b : Int} (h : xlcmp a b ≤ 0) : a ≤ b := by
  unfold xlcmp at h
  split at h
  · omega
  · split at h <;> omega
theorem xl_eq {a b : Int} (h : xlcmp a b = 0) : a = b := by
  unfold xlcmp at h
  split at h
  · omega
  · split at h <;> omega
theorem xl_ne {a b : Int} (h : xlcmp a b ≠ 0) : a ≠ b := by
  intro e
  subst e
  exact h (by unfold xlcmp; rw [if_neg (by omega), if_pos rfl])
theorem run_lift {lo hi lo' hi' : Nat} (h1 : lo' ≤ lo) (h2 : hi ≤ hi') : ∀ (f m pc : Nat) (L st : List Vl) (s : Sto) (x : List Vl × Sto), run lo hi f m pc L st s = some x → run lo' hi' f m pc L st s = some x := by
  intro f
  induction f with
  | zero => intro m pc L st s x h; cases h
  | succ f ih =>
    intro m pc L st s x h
    rw [run] at h ⊢
    cases hn : nth (mE m) pc with
    | none => rw [hn] at h; cases h
    | some en =>
      rw [hn] at h
      dsimp only at h ⊢
      generalize act m en pc L st = A at h ⊢
      split at h
      · exact ih _ _ _ _ _ _ h
      · split at h
        · rename_i hc
          try dsimp only
          rw [if_pos ⟨Nat.le_trans h1 hc.1, Nat.lt_of_lt_of_le hc.2 h2⟩]
          exact ih _ _ _ _ _ _ h
        · cases h
      · split at h
        · rename_i hc
          try dsimp only
          rw [if_pos ⟨Nat.le_trans h1 hc.1, Nat.lt_of_lt_of_le hc.2 h2⟩]
          exact ih _ _ _ _ _ _ h
        · cases h
      · split at h
        · rename_i hc
          try dsimp only
          rw [if_pos ⟨hc.1, Nat.le_trans h1 hc.2.1, Nat.lt_of_lt_of_le hc.2.2 h2⟩]
          exact ih _ _ _ _ _ _ h
        · cases h
      · split at h
        · rename_i hc
          try dsimp only
          rw [ih _ _ _ _ _ _ hc]
          exact ih _ _ _ _ _ _ h
        · cases h
      · exact h
      · split at h
        · rename_i hc
          try dsimp only
          rw [if_pos ⟨Nat.le_trans h1 hc.1, hc.2⟩]
          exact ih _ _ _ _ _ _ h
        · cases h
      · split at h
        · rename_i hc
          try dsimp only
          rw [if_pos (Nat.le_trans h1 hc)]
          exact ih _ _ _ _ _ _ h
        · cases h
      · try dsimp only
        split at h
        · rename_i hc
          rw [if_pos hc]
          exact ih _ _ _ _ _ _ h
        · rename_i hc
          rw [if_neg hc]
          exact ih _ _ _ _ _ _ h
      · cases h
def ovr (lo hi : Nat) (t s : Nat → Nat → Int) : Nat → Nat → Int := fun a => if lo ≤ a ∧ a < hi then t a else s a
theorem ovr_up {lo hi a k : Nat} {x : Int} {t s : Nat → Nat → Int} (h : lo ≤ a ∧ a < hi) : ovr lo hi t (upS s a k x) = ovr lo hi t s := by
  funext a' k'
  unfold ovr
  by_cases hc : lo ≤ a' ∧ a' < hi
  · rw [if_pos hc, if_pos hc]
  · rw [if_neg hc, if_neg hc]
    have : a' ≠ a := fun e => hc (e ▸ h)
    simp [upS, this]
theorem ovr_cl {lo hi a : Nat} {t s : Nat → Nat → Int} (h : lo ≤ a ∧ a < hi) : ovr lo hi t (clS s a) = ovr lo hi t s := by
  funext a' k'
  unfold ovr
  by_cases hc : lo ≤ a' ∧ a' < hi
  · rw [if_pos hc, if_pos hc]
  · rw [if_neg hc, if_neg hc]
    have : a' ≠ a := fun e => hc (e ▸ h)
    simp [clS, this]
theorem ovr_ovr {lo hi : Nat} {t t1 s : Nat → Nat → Int} : ovr lo hi t (ovr lo hi t1 s) = ovr lo hi t s := by
  funext a' k'
  unfold ovr
  by_cases hc : lo ≤ a' ∧ a' < hi
  · rw [if_pos hc, if_pos hc]
  · rw [if_neg hc, if_neg hc, if_neg hc]
theorem ovr_self {lo hi : Nat} {s s2 : Nat → Nat → Int} (h : ∀ a, lo ≤ a ∧ a < hi → s2 a = s a) : ovr lo hi s s2 = s2 := by
  funext a' k'
  unfold ovr
  by_cases hc : lo ≤ a' ∧ a' < hi
  · rw [if_pos hc, h a' hc]
  · rw [if_neg hc]
theorem ovr_in {lo hi a : Nat} {t s : Nat → Nat → Int} (h : lo ≤ a ∧ a < hi) : ovr lo hi t s a = t a := by unfold ovr; rw [if_pos h]
theorem ovr_out {lo hi a : Nat} {t s : Nat → Nat → Int} (h : ¬ (lo ≤ a ∧ a < hi)) : ovr lo hi t s a = s a := by unfold ovr; rw [if_neg h]
/-- what a run does depends on its own cells alone -/
theorem run_reg {lo hi : Nat} (h2 : 2 ≤ lo) : ∀ (f m pc : Nat) (L st : List Vl) (n : Nat) (s : Nat → Nat → Int) (r : List Vl) (n' : Nat) (t : Nat → Nat → Int), run lo hi f m pc L st (n, s) = some (r, (n', t)) → ∀ s2 : Nat → Nat → Int, (∀ a, lo ≤ a ∧ a < hi → s2 a = s a) → run lo hi f m pc L st (n, s2) = some (r, (n', ovr lo hi t s2)) := by
  intro f
  induction f with
  | zero => intro m pc L st n s r n' t h; cases h
  | succ f ih =>
    intro m pc L st n s r n' t h s2 hs
    rw [run] at h ⊢
    cases hn : nth (mE m) pc with
    | none => rw [hn] at h; cases h
    | some en =>
      rw [hn] at h
      dsimp only at h ⊢
      generalize act m en pc L st = A at h ⊢
      split at h
      · exact ih _ _ _ _ _ _ _ _ _ h _ hs
      · split at h
        · rename_i hc
          try dsimp only
          rw [if_pos hc, hs _ hc]
          exact ih _ _ _ _ _ _ _ _ _ h _ hs
        · cases h
      · split at h
        · rename_i hc
          try dsimp only
          rw [if_pos hc, ← ovr_up (t := t) (s := s2) hc]
          exact ih _ _ _ _ _ _ _ _ _ h _ (fun a' ha' => by
            funext k'
            unfold upS
            rw [hs a' ha'])
        · cases h
      · split at h
        · rename_i hc
          try dsimp only
          rw [if_pos hc, ← ovr_cl (t := t) (s := s2) hc.2]
          exact ih _ _ _ _ _ _ _ _ _ h _ (fun a' ha' => by
            funext k'
            unfold clS
            rw [hs a' ha'])
        · cases h
      · split at h
        · rename_i r1 s1 hc
          obtain ⟨n1, t1⟩ := s1
          try dsimp only
          rw [ih _ _ _ _ _ _ _ _ _ hc _ hs]
          try dsimp only
          have := ih _ _ _ _ _ _ _ _ _ h (ovr lo hi t1 s2) (fun a' ha' => ovr_in ha')
          rw [ovr_ovr] at this
          exact this
        · cases h
      · cases h
        try dsimp only
        rw [ovr_self hs]
      · split at h
        · rename_i hc
          exact absurd hc.1 (by omega)
        · cases h
      · split at h
        · rename_i hc
          exact absurd hc (by omega)
        · cases h
      · try dsimp only
        split at h
        · rename_i hc
          rw [if_pos hc]
          exact ih _ _ _ _ _ _ _ _ _ h _ hs
        · rename_i hc
          rw [if_neg hc]
          exact ih _ _ _ _ _ _ _ _ _ h _ hs
      · cases h
def refTab : List (List (Option Int)) := [[], [], [some 3, some 13, some 23, none, some 33, some 115, some 117, some 119], [some 4, some 5, some 6, some 7, some 8, some 9, some 10, some 11, some 12], [], [], [], [], [], [], [], [], [], [some 14, some 15, some 16, some 17, some 18, some 19, some 20, some 21, some 22], [], [], [], [], [], [], [], [], [], [some 24, some 25, some 26, some 27, some 28, some 29, some 30, some 31, some 32], [], [], [], [], [], [], [], [], [], [some 34], [some 35, some 45, some 55, some 65, some 75, some 85, some 95, some 105], [some 36, some 37, some 38, some 39, some 40, some 41, some 42, some 43, some 44], [], [], [], [], [], [], [], [], [], [some 46, some 47, some 48, some 49, some 50, some 51, some 52, some 53, some 54], [], [], [], [], [], [], [], [], [], [some 56, some 57, some 58, some 59, some 60, some 61, some 62, some 63, some 64], [], [], [], [], [], [], [], [], [], [some 66, some 67, some 68, some 69, some 70, some 71, some 72, some 73, some 74], [], [], [], [], [], [], [], [], [], [some 76, some 77, some 78, some 79, some 80, some 81, some 82, some 83, some 84], [], [], [], [], [], [], [], [], [], [some 86, some 87, some 88, some 89, some 90, some 91, some 92, some 93, some 94], [], [], [], [], [], [], [], [], [], [some 96, some 97, some 98, some 99, some 100, some 101, some 102, some 103, some 104], [], [], [], [], [], [], [], [], [], [some 106, some 107, some 108, some 109, some 110, some 111, some 112, some 113, some 114], [], [], [], [], [], [], [], [], [], [some 116], [], [some 118], [], [], [none, some 121, some 122, some 123, some 124, some 125, some 126, some 127, some 128, none, none, some 129, some 130, some 131, none, none, none, none, some 132, some 133, some 134, some 135, some 136, none, none, none, none, some 137, some 138, none, some 139], [], [], [], [], [], [], [], [], [], [], [], [], [], [], [], [], [], [], []]
def refF (a k : Nat) : Option Int := (refTab.getD a []).getD k none
def refs (s : Nat → Nat → Int) : Prop := ∀ (a k : Nat) (v : Int), refF a k = some v → s a k = v
theorem refs_up {s : Nat → Nat → Int} {a k : Nat} {x : Int} (h : refs s) (hn : refF a k = none) : refs (upS s a k x) := by
  intro a' k' v hv
  unfold upS
  by_cases hc : a' = a ∧ k' = k
  · rw [hc.1, hc.2, hn] at hv; cases hv
  · rw [if_neg hc]; exact h a' k' v hv
/-! trial -/


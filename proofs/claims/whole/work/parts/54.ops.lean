/-! THE LAW'S WALK: what it stands on. -/
theorem ret_tag {m pc : Nat} {e : Ent} {L st : List Vl} (h6 : (act m e pc L st).1 = 6) : (mR m = some .int ∨ mR m = some .boolean → ∃ x, st = [(1, x)]) ∧ (mR m = some .long → ∃ x, st = [(2, x)]) := by
  have hr := act_tag.2 h6
  obtain ⟨i, len, r1, r2⟩ := e
  cases i
  case ireturn =>
    have h : (reI m L st).1 = 6 := h6
    unfold reI at h
    split at h
    · rename_i x
      split at h
      · rename_i c
        refine ⟨fun _ => ⟨x, rfl⟩, fun d => ?_⟩
        rw [d] at c
        rcases c with c | ⟨c, _⟩
        · cases c
        · cases c
      · exact absurd h (by show ¬ stk.1 = 6; decide)
    · exact absurd h (by show ¬ stk.1 = 6; decide)
  case lreturn =>
    have h : (reL m L st).1 = 6 := h6
    unfold reL at h
    split at h
    · rename_i x
      split at h
      · rename_i c
        refine ⟨fun d => ?_, fun _ => ⟨x, rfl⟩⟩
        rw [c] at d
        rcases d with d | d
        · cases d
        · cases d
      · exact absurd h (by show ¬ stk.1 = 6; decide)
    · exact absurd h (by show ¬ stk.1 = 6; decide)
  case return_ =>
    have h : (reV m L st).1 = 6 := h6
    unfold reV at h
    split at h
    · split at h
      · rename_i c
        refine ⟨fun d => ?_, fun d => ?_⟩
        · rw [c] at d
          rcases d with d | d
          · cases d
          · cases d
        · rw [c] at d
          cases d
      · exact absurd h (by show ¬ stk.1 = 6; decide)
    · exact absurd h (by show ¬ stk.1 = 6; decide)
  all_goals exact absurd (show false = true from hr) (by decide)
theorem run_tag {lo hi : Nat} : ∀ (f m pc : Nat) (L st : List Vl) (s : Sto) (r : List Vl) (s' : Sto), run lo hi f m pc L st s = some (r, s') → (mR m = some .int ∨ mR m = some .boolean → ∃ x, r = [(1, x)]) ∧ (mR m = some .long → ∃ x, r = [(2, x)]) := by
  intro f
  induction f with
  | zero => intro m pc L st s r s' h; cases h
  | succ f ih =>
    intro m pc L st s r s' h
    rw [run] at h
    cases hn : nth (mE m) pc with
    | none => rw [hn] at h; cases h
    | some en =>
      rw [hn] at h
      dsimp only at h
      generalize hA : act m en pc L st = A at h
      split at h
      · exact ih _ _ _ _ _ _ _ h
      · split at h
        · exact ih _ _ _ _ _ _ _ h
        · cases h
      · split at h
        · exact ih _ _ _ _ _ _ _ h
        · cases h
      · split at h
        · exact ih _ _ _ _ _ _ _ h
        · cases h
      · split at h
        · exact ih _ _ _ _ _ _ _ h
        · cases h
      · cases h
        exact ret_tag (by rw [hA])
      · split at h
        · exact ih _ _ _ _ _ _ _ h
        · cases h
      · split at h
        · exact ih _ _ _ _ _ _ _ h
        · cases h
      · split at h
        · exact ih _ _ _ _ _ _ _ h
        · exact ih _ _ _ _ _ _ _ h
      · cases h
/-- a pair of calls, one after the other in the same cells: both answer x, the cells have to do with each other again, the script is as it was -/
theorem both_call {cm rm n tg : Nat} {L1 L2 : List Vl} {s : Nat → Nat → Int} (hm : (mR cm = some .int ∧ tg = 1) ∨ (mR cm = some .long ∧ tg = 2)) (h : G 2 120 cm 0 L1 [] (n, s) (fun r s1 => G 120 140 rm 0 L2 [] (n, s) (Post n r s1))) :
    G 0 140 cm 0 L1 [] (n, s) (fun r s1 => ∃ x, r = [(tg, x)] ∧ (∀ a, a < 2 → s1.2 a = s a) ∧ G 0 140 rm 0 L2 [] s1 (fun r' s2 => r' = [(tg, x)] ∧ REL s2.2 s2.2 ∧ s2.1 = n ∧ ∀ a, a < 2 → s2.2 a = s a)) := by
  obtain ⟨f, r, s1, h1, f2, r', t1, h2, v, hr, hr', hrel, hn1, hn2⟩ := h
  obtain ⟨n1, s1⟩ := s1
  obtain ⟨n2, t1⟩ := t1
  dsimp only at hn1 hn2 hrel
  subst hn1; subst hn2
  have ho := run_out (by decide) h1
  have h3 := run_reg (by decide) f2 rm 0 L2 [] _ s r' _ t1 h2 s1 (fun a ha => ho a (by omega))
  obtain ⟨x, hx⟩ : ∃ x, r = [(tg, x)] := by
    have ht := run_tag _ _ _ _ _ _ _ _ h1
    rcases hm with ⟨hm, rfl⟩ | ⟨hm, rfl⟩
    · exact ht.1 (Or.inl hm)
    · exact ht.2 hm
  refine ⟨f, r, _, run_lift (by decide) (by decide) _ _ _ _ _ _ _ h1, x, hx, fun a ha => ho a (by omega), f2, r', _, run_lift (by decide) (by decide) _ _ _ _ _ _ _ h3, ?_, ?_, rfl, fun a ha => ?_⟩
  · rw [hr', ← hr, hx]
  · exact REL_loc hrel (fun a ha => ovr_out (by omega)) (fun a ha => ovr_in (by omega)) (refs_ovr hrel.2.1 hrel.1) (refs_ovr hrel.2.1 hrel.1)
  · show ovr 120 140 t1 s1 a = s a
    rw [ovr_out (by omega)]
    exact ho a (by omega)
theorem G_scv {lo hi m pc : Nat} {L st : List Vl} {s : Sto} {Q : List Vl → Sto → Prop} {i v : Int} {j : Nat} (he : nth (mE m) pc = some (.iaload, 1, 0, 0)) (h0 : lo ≤ 1) (hi' : i = (j : Int)) (g : (j : Int) < s.2 0 0) (hv : s.2 1 j = v) (kk : G lo hi m (pc + 1) L ((1, v) :: st) s Q) : G lo hi m pc L ((1, i) :: (3, 1) :: st) s Q := by
  subst hi'
  subst hv
  obtain ⟨f, r, s', h, q⟩ := kk
  refine ⟨f + 1, r, s', ?_, q⟩
  rw [run, he]
  show (if lo ≤ 1 ∧ 0 ≤ (j : Int) ∧ (j : Int) < s.2 0 0 then run lo hi f m (pc + 1) L ((1, s.2 1 ((j : Int)).toNat) :: st) s else none) = _
  rw [if_pos ⟨h0, by omega, g⟩, Int.toNat_natCast]
  exact h
theorem G_slv {lo hi m pc : Nat} {L st : List Vl} {s : Sto} {Q : List Vl → Sto → Prop} {v : Int} (he : nth (mE m) pc = some (.arraylength, 1, 0, 0)) (h0 : lo ≤ 1) (hv : s.2 0 0 = v) (kk : G lo hi m (pc + 1) L ((1, v) :: st) s Q) : G lo hi m pc L ((3, 1) :: st) s Q := by
  subst hv
  obtain ⟨f, r, s', h, q⟩ := kk
  refine ⟨f + 1, r, s', ?_, q⟩
  rw [run, he]
  show (if lo ≤ 1 then run lo hi f m (pc + 1) L ((1, s.2 0 0) :: st) s else none) = _
  rw [if_pos h0]
  exact h
theorem xl_self (x : Int) : xlcmp x x = 0 := by
  unfold xlcmp
  rw [if_neg (by omega), if_pos rfl]
/-! THE START: both constructors, computed. -/
def refsB (t : Nat → Nat → Int) : Bool := (List.range 140).all fun a => (List.range 33).all fun k => match refF a k with
  | none => true
  | some v => decide (t a k = v)
def zrL : List (Nat × Nat) := [(3, 9), (3, 10), (2, 3), (33, 1), (33, 2), (115, 1), (117, 1), (119, 0), (119, 1), (119, 2), (119, 3), (119, 4), (119, 5), (119, 6), (120, 0), (120, 9), (120, 14), (120, 23), (120, 29), (120, 31), (129, 0), (129, 1), (129, 2), (129, 3), (129, 4), (129, 5), (129, 6)]
def chkB (t : Nat → Nat → Int) : Bool := refsB t && zrL.all fun q => decide (t q.1 q.2 = 0)
def z0 : Nat → Nat → Int := fun _ _ => 0
def startB : Bool := match run 2 140 1000 97 0 (entL [(3, 2)] (mL 97)) [] (3, z0) with
  | some (r, (n, t)) => decide (r = []) && decide (n = 120) && (match run 2 140 1000 189 0 (entL [(3, 120)] (mL 189)) [] (121, clS t 120) with
    | some (r', (n', t')) => decide (r' = []) && decide (n' = 140) && chkB t'
    | none => false)
  | none => false


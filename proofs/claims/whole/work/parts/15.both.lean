/-! FROM A PAIR OF RUNS APART TO ONE RUN AFTER THE OTHER IN THE SAME CELLS. -/
theorem run_out {lo hi f m pc n n' : Nat} {L st r : List Vl} {s t : Nat → Nat → Int} (h2 : 2 ≤ lo) (h : run lo hi f m pc L st (n, s) = some (r, (n', t))) : ∀ a, ¬ (lo ≤ a ∧ a < hi) → t a = s a := by
  intro a ha
  have h1 := run_reg h2 f m pc L st n s r n' t h s (fun _ _ => rfl)
  rw [h] at h1
  have h3 : t = ovr lo hi t s := by
    have := Option.some.inj h1
    exact congrArg (fun q => q.2.2) this
  rw [h3]
  exact ovr_out ha
theorem refs_ovr {lo hi : Nat} {t s : Nat → Nat → Int} (ht : refs t) (hs : refs s) : refs (ovr lo hi t s) := by
  intro a k v hv
  unfold ovr
  by_cases hc : lo ≤ a ∧ a < hi
  · rw [if_pos hc]; exact ht a k v hv
  · rw [if_neg hc]; exact hs a k v hv
theorem both_law {cm rm n : Nat} {L1 L2 : List Vl} {s : Nat → Nat → Int} (h : G 2 120 cm 0 L1 [] (n, s) (fun r s1 => G 120 140 rm 0 L2 [] (n, s) (Post n r s1))) :
    G 0 140 cm 0 L1 [] (n, s) (fun r s1 => G 0 140 rm 0 L2 [] s1 (fun r' s2 => r' = r ∧ (∃ v, r = [v]) ∧ REL s2.2 s2.2 ∧ s2.1 = n)) := by
  obtain ⟨f, r, s1, h1, f2, r', t1, h2, v, hr, hr', hrel, hn1, hn2⟩ := h
  obtain ⟨n1, s1⟩ := s1
  obtain ⟨n2, t1⟩ := t1
  dsimp only at hn1 hn2 hrel
  subst hn1; subst hn2
  have ho := run_out (by decide) h1
  have h3 := run_reg (by decide) f2 rm 0 L2 [] _ s r' _ t1 h2 s1 (fun a ha => ho a (by omega))
  refine ⟨f, r, _, run_lift (by decide) (by decide) _ _ _ _ _ _ _ h1, f2, r', _, run_lift (by decide) (by decide) _ _ _ _ _ _ _ h3, by rw [hr', hr], ⟨v, hr⟩, ?_, rfl⟩
  exact REL_loc hrel (fun a ha => ovr_out (by omega)) (fun a ha => ovr_in (by omega)) (refs_ovr hrel.2.1 hrel.1) (refs_ovr hrel.2.1 hrel.1)
/-- a refused call -/
theorem rel_refuse {s t : Nat → Nat → Int} (h : REL s t) (k : Nat) (hk : k < 7) : REL (upS s 119 k (wr (s 119 k + 1))) (upS (upS t 120 10 0) 129 k (wr (t 129 k + 1))) := by
  refine ⟨refs_up h.1 rfl, refs_up (refs_up h.2.1 rfl) rfl, relN_fr h.n ?_ ?_ ?_ ?_ ?_ ?_, relI_fr h.i ?_ ?_ ?_ ?_ ?_ ?_, relH_fr h.h ?_ ?_ ?_ ?_ ?_, relL_fr h.l ?_ ?_ ?_ ?_, relR_fr h.r ?_ ?_ ?_ ?_, ?_⟩
  all_goals first | rfl | (intro a h1 h2; funext z; unfold upS; (repeat rw [if_neg (by omega)]); done) | skip
  intro j hj
  have he := h.f
  by_cases hjk : j = k
  · subst hjk
    simp [upS, he j hj]
  · simp [upS, hjk, he j hj]

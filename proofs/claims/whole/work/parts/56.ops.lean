theorem refF_lt {a k : Nat} {v : Int} (h : refF a k = some v) : a < 140 ∧ k < 33 := by
  unfold refF at h
  rw [List.getD_eq_getElem?_getD, List.getD_eq_getElem?_getD] at h
  by_cases ha : a < refTab.length
  · have hl : refTab.length = 140 := by decide +kernel
    have hr : refTab.all (fun r => decide (r.length ≤ 33)) = true := by decide +kernel
    have hm : (refTab[a]?.getD []) ∈ refTab := by
      rw [List.getElem?_eq_getElem ha]
      exact List.getElem_mem ha
    have h2 := of_decide_eq_true (List.all_eq_true.mp hr _ hm)
    refine ⟨by omega, ?_⟩
    by_cases hk : k < (refTab[a]?.getD []).length
    · omega
    · rw [List.getElem?_eq_none (by omega)] at h
      cases h
  · rw [List.getElem?_eq_none (l := refTab) (by omega)] at h
    simp at h
theorem refF_2 {a k : Nat} {v : Int} (h : refF a k = some v) : 2 ≤ a := by
  by_cases h0 : a = 0
  · subst h0
    simp [refF, refTab] at h
  · by_cases h1 : a = 1
    · subst h1
      simp [refF, refTab] at h
    · omega
theorem refs_B {t : Nat → Nat → Int} (h : refsB t = true) : refs t := by
  intro a k v e
  obtain ⟨ha, hk⟩ := refF_lt e
  have h1 := List.all_eq_true.mp h a (List.mem_range.mpr ha)
  have h2 := List.all_eq_true.mp h1 k (List.mem_range.mpr hk)
  rw [e] at h2
  exact of_decide_eq_true h2
theorem start_rel {t : Nat → Nat → Int} (h : chkB t = true) : REL t t := by
  obtain ⟨h1, h2⟩ := Bool.and_eq_true_iff.mp h
  have z : ∀ q, q ∈ zrL → t q.1 q.2 = 0 := fun q hq => of_decide_eq_true (List.all_eq_true.mp h2 q hq)
  have r := refs_B h1
  have a1 : t 3 9 = 0 := z (3, 9) (by decide)
  have a2 : t 3 10 = 0 := z (3, 10) (by decide)
  have a3 : t 2 3 = 0 := z (2, 3) (by decide)
  have a4 : t 33 1 = 0 := z (33, 1) (by decide)
  have a5 : t 33 2 = 0 := z (33, 2) (by decide)
  have a6 : t 115 1 = 0 := z (115, 1) (by decide)
  have a7 : t 117 1 = 0 := z (117, 1) (by decide)
  have b1 : t 120 0 = 0 := z (120, 0) (by decide)
  have b2 : t 120 9 = 0 := z (120, 9) (by decide)
  have b3 : t 120 14 = 0 := z (120, 14) (by decide)
  have b4 : t 120 23 = 0 := z (120, 23) (by decide)
  have b5 : t 120 29 = 0 := z (120, 29) (by decide)
  have b6 : t 120 31 = 0 := z (120, 31) (by decide)
  refine ⟨r, r, ⟨by rw [a1, b1], by rw [a2, b2], by omega, by omega, fun p hp => by omega, fun p hp => by omega⟩, Or.inl ⟨a3, b4⟩, ⟨by rw [a5, b5], by omega, by omega, fun j hj => by omega⟩, ⟨by rw [a6, b3], by omega, fun j hj => by omega⟩, ⟨by rw [a7, b6], by omega, fun j hj => by omega⟩, fun k hk => ?_⟩
  have h7 : k = 0 ∨ k = 1 ∨ k = 2 ∨ k = 3 ∨ k = 4 ∨ k = 5 ∨ k = 6 := by omega
  rcases h7 with rfl | rfl | rfl | rfl | rfl | rfl | rfl
  · rw [z (119, 0) (by decide), z (129, 0) (by decide)]
  · rw [z (119, 1) (by decide), z (129, 1) (by decide)]
  · rw [z (119, 2) (by decide), z (129, 2) (by decide)]
  · rw [z (119, 3) (by decide), z (129, 3) (by decide)]
  · rw [z (119, 4) (by decide), z (129, 4) (by decide)]
  · rw [z (119, 5) (by decide), z (129, 5) (by decide)]
  · rw [z (119, 6) (by decide), z (129, 6) (by decide)]
theorem start_run : ∃ t1 t2, run 2 140 1000 97 0 (entL [(3, 2)] (mL 97)) [] (3, z0) = some ([], (120, t1)) ∧ run 2 140 1000 189 0 (entL [(3, 120)] (mL 189)) [] (121, clS t1 120) = some ([], (140, t2)) ∧ REL t2 t2 := by
  have h := start_ok
  unfold startB at h
  generalize hA : run 2 140 1000 97 0 (entL [(3, 2)] (mL 97)) [] (3, z0) = A at h
  cases A with
  | none => cases h
  | some A =>
    obtain ⟨r, n, t⟩ := A
    dsimp only at h
    obtain ⟨h1, h2⟩ := Bool.and_eq_true_iff.mp h
    obtain ⟨h3, h4⟩ := Bool.and_eq_true_iff.mp h1
    have h3 := of_decide_eq_true h3
    have h4 := of_decide_eq_true h4
    subst h3
    subst h4
    generalize hB : run 2 140 1000 189 0 (entL [(3, 120)] (mL 189)) [] (121, clS t 120) = B at h2
    cases B with
    | none => cases h2
    | some B =>
      obtain ⟨r', n', t'⟩ := B
      dsimp only at h2
      obtain ⟨h5, h6⟩ := Bool.and_eq_true_iff.mp h2
      obtain ⟨h7, h8⟩ := Bool.and_eq_true_iff.mp h5
      have h7 := of_decide_eq_true h7
      have h8 := of_decide_eq_true h8
      subst h7
      subst h8
      exact ⟨t, t', rfl, hB, start_rel h6⟩
theorem law_start (s0 : Nat → Nat → Int) (hs : ∀ a k, 2 ≤ a → s0 a k = 0) (Q : List Vl → Sto → Prop) (K : ∀ s1, REL s1 s1 → (∀ a, a < 2 → s1 a = s0 a) → G 0 140 225 18 [(3, 1), (3, 2), (3, 120), (1, 0)] [] (140, s1) Q) : G 0 140 225 0 [(3, 1), (0, 0), (0, 0), (0, 0)] [] (2, s0) Q := by
  obtain ⟨t1, t2, e1, e2, hrel⟩ := start_run
  have f1 := run_reg (by decide) _ _ _ _ _ _ _ _ _ _ e1 (clS s0 2) (fun a ha => by
    funext k
    unfold clS z0
    by_cases c : a = 2
    · rw [if_pos c]
    · rw [if_neg c]
      exact hs a k ha.1)
  have f2 := run_reg (by decide) _ _ _ _ _ _ _ _ _ _ e2 (clS (ovr 2 140 t1 (clS s0 2)) 120) (fun a ha => by
    funext k
    unfold clS
    by_cases c : a = 120
    · rw [if_pos c, if_pos c]
    · rw [if_neg c, if_neg c, ovr_in ha])
  have g1 := run_lift (lo' := 0) (hi' := 140) (by decide) (by decide) _ _ _ _ _ _ _ f1
  have g2 := run_lift (lo' := 0) (hi' := 140) (by decide) (by decide) _ _ _ _ _ _ _ f2
  have hin : ∀ a, 2 ≤ a ∧ a < 140 → (ovr 2 140 t2 (clS (ovr 2 140 t1 (clS s0 2)) 120)) a = t2 a := fun a ha => ovr_in ha
  have hr : refs (ovr 2 140 t2 (clS (ovr 2 140 t1 (clS s0 2)) 120)) := fun a k v e => by
    rw [hin a ⟨refF_2 e, (refF_lt e).1⟩]
    exact hrel.1 a k v e
  have k := K (ovr 2 140 t2 (clS (ovr 2 140 t1 (clS s0 2)) 120)) (REL_loc hrel (fun a ha => hin a (by omega)) (fun a ha => hin a (by omega)) hr hr) (fun a ha => by
    rw [ovr_out (by omega)]
    funext k
    unfold clS
    rw [if_neg (by omega), ovr_out (by omega), if_neg (by omega)])
  refine G_al rfl rfl ⟨rfl, (by decide : 0 ≤ 2), (by decide : 2 < 140)⟩ ?_
  show G 0 140 225 3 [(3, 1), (0, 0), (0, 0), (0, 0)] [(3, 2)] (3, clS s0 2) Q
  refine G_go rfl rfl ?_
  show G 0 140 225 4 [(3, 1), (0, 0), (0, 0), (0, 0)] [(3, 2), (3, 2)] (3, clS s0 2) Q
  refine G_call rfl rfl ⟨1000, _, _, g1, ?_⟩
  show G 0 140 225 7 [(3, 1), (0, 0), (0, 0), (0, 0)] [(3, 2)] (120, ovr 2 140 t1 (clS s0 2)) Q
  refine G_go rfl rfl ?_
  show G 0 140 225 8 [(3, 1), (3, 2), (0, 0), (0, 0)] [] (120, ovr 2 140 t1 (clS s0 2)) Q
  refine G_al rfl rfl ⟨rfl, (by decide : 0 ≤ 120), (by decide : 120 < 140)⟩ ?_
  show G 0 140 225 11 [(3, 1), (3, 2), (0, 0), (0, 0)] [(3, 120)] (121, clS (ovr 2 140 t1 (clS s0 2)) 120) Q
  refine G_go rfl rfl ?_
  show G 0 140 225 12 [(3, 1), (3, 2), (0, 0), (0, 0)] [(3, 120), (3, 120)] (121, clS (ovr 2 140 t1 (clS s0 2)) 120) Q
  refine G_call rfl rfl ⟨1000, _, _, g2, ?_⟩
  show G 0 140 225 15 [(3, 1), (3, 2), (0, 0), (0, 0)] [(3, 120)] (140, ovr 2 140 t2 (clS (ovr 2 140 t1 (clS s0 2)) 120)) Q
  refine G_go rfl rfl ?_
  show G 0 140 225 16 [(3, 1), (3, 2), (3, 120), (0, 0)] [] (140, ovr 2 140 t2 (clS (ovr 2 140 t1 (clS s0 2)) 120)) Q
  refine G_go rfl rfl ?_
  refine G_go rfl rfl ?_
  exact k

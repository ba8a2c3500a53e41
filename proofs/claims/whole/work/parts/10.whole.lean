/-! THE WHOLE RUN: out of a run of the small machine, a contract of the method. -/
theorem run_mono {lo hi : Nat} : ∀ (f m pc : Nat) (L st : List Vl) (sto : Sto) (r : List Vl) (sto' : Sto), run lo hi f m pc L st sto = some (r, sto') → sto.1 ≤ sto'.1 := by
  intro f
  induction f with
  | zero => intro m pc L st sto r sto' h; cases h
  | succ f ih =>
    intro m pc L st sto r sto' h
    unfold run at h
    split at h
    · cases h
    · split at h
      · exact ih _ _ _ _ _ _ _ h
      · split at h
        · exact ih _ _ _ _ _ _ _ h
        · cases h
      · split at h
        · have := ih _ _ _ _ _ _ _ h
          exact this
        · cases h
      · split at h
        · have := ih _ _ _ _ _ _ _ h
          dsimp only at this
          omega
        · cases h
      · split at h
        · rename_i hr
          exact Nat.le_trans (ih _ _ _ _ _ _ _ hr) (ih _ _ _ _ _ _ _ h)
        · cases h
      · cases h; exact Nat.le_refl _
      · split at h
        · exact ih _ _ _ _ _ _ _ h
        · cases h
      · split at h
        · exact ih _ _ _ _ _ _ _ h
        · cases h
      · split at h
        · exact ih _ _ _ _ _ _ _ h
        · exact ih _ _ _ _ _ _ _ h
      · cases h
def isInv (i : Instr) : Bool := match i with
  | .invokestatic _ => true
  | .invokespecial _ => true
  | .invokevirtual _ => true
  | _ => false
def isRet (i : Instr) : Bool := match i with
  | .ireturn => true
  | .lreturn => true
  | .return_ => true
  | _ => false
set_option maxHeartbeats 4000000 in
theorem act_tag {m pc : Nat} {en : Ent} {L st : List Vl} : ((act m en pc L st).1 = 5 → isInv en.1 = true) ∧ ((act m en pc L st).1 = 6 → isRet en.1 = true) := by
  obtain ⟨i, len, r1, r2⟩ := en
  cases i
  case invokestatic => exact ⟨fun _ => rfl, fun h => by
    have h : (if r2 = 0 then caA r1 pc L st else mmA r2 pc L st).1 = 6 := h
    unfold caA mmA at h
    repeat' split at h
    all_goals exact absurd h (by simp [goA, stk])⟩
  case invokespecial => exact ⟨fun _ => rfl, fun h => by
    have h : (if r2 = 1 then oiA pc L st else csA r1 pc L st).1 = 6 := h
    unfold oiA csA caA at h
    repeat' split at h
    all_goals exact absurd h (by simp [goA, stk])⟩
  case invokevirtual => exact ⟨fun _ => rfl, fun h => by
    have h : (cvA r1 r2 pc L st).1 = 6 := h
    unfold cvA caA at h
    repeat' split at h
    all_goals exact absurd h (by simp [goA, stk])⟩
  case ireturn => exact ⟨fun h => by
    have h : (reI m L st).1 = 5 := h
    unfold reI at h
    repeat' split at h
    all_goals exact absurd h (by simp [stk]), fun _ => rfl⟩
  case lreturn => exact ⟨fun h => by
    have h : (reL m L st).1 = 5 := h
    unfold reL at h
    repeat' split at h
    all_goals exact absurd h (by simp [stk]), fun _ => rfl⟩
  case return_ => exact ⟨fun h => by
    have h : (reV m L st).1 = 5 := h
    unfold reV at h
    repeat' split at h
    all_goals exact absurd h (by simp [stk]), fun _ => rfl⟩
  all_goals
    refine ⟨fun h => ?_, fun h => ?_⟩ <;> exfalso <;> revert h <;>
    simp only [act, ldA, stA, stA2, a1, a2, a2n, l2, l2n, lcA, ilA, inA, dpA, d2A, jmp, ifA, icA, brA, tsA, lkA, gfA, pfA, irA, rdA, iwA, bwA, awA, lnA, naA] <;>
    (repeat' split) <;> simp [goA, stk]
theorem cats_rev (l : List Vl) : cats l.reverse = cats l := by
  unfold cats
  induction l with
  | nil => rfl
  | cons a l ih => simp [List.map_reverse] at ih ⊢; omega
theorem lay1_all : LAY.all (fun q => decide (q.1 = 1 → q.2 < 6)) = true := by decide +kernel
theorem lay1 (a : Nat) (h : (lay a).1 = 1) : (lay a).2 < 6 := by
  unfold lay at h ⊢
  rw [List.getD_eq_getElem?_getD] at h ⊢
  cases hq : LAY[a]? with
  | none => rw [hq] at h; exact absurd h (by decide)
  | some q =>
    rw [hq] at h
    exact of_decide_eq_true (List.all_eq_true.mp lay1_all q (List.mem_of_getElem? hq)) h
theorem rcv_small {st : List Vl} {n ci : Nat} (h : rcv st n = some ci) : ci < 6 := by
  unfold rcv at h
  split at h
  · split at h
    · rename_i hc
      cases h
      exact lay1 _ hc.2.2
    · cases h
  · cases h
section CALLALL
variable {p : Program} {l : Launch} {e : Env} {R : Room} {s : State} {mi : MethodId} {args : Array Value} {below : List Frame} {meth : Method} {c : Code} {Q : State → Prop} {n0 : Nat}
variable {dC : Nat → ClassId} {dI : Nat → Nat → Nat} {b L0 : Nat} {xs0 : Nat → Int32} {A : Nat → Prop} {w0 : va_W} {nF m : Nat} {pc : Nat} {L st : List Vl} {sto sto1 : Sto}
theorem call_all {en : Ent} {j pc' a2 : Nat} {bb : Bool} {vv : Vl} {L' st' as r : List Vl} (X : CX p R s mi args meth c m n0 nF b L0 xs0 A) (hok : okE m (mO m) (mB m) pc en = true) (h5 : act m en pc L st = (5, pc', j, a2, bb, vv, L', st', as))
    (hM : j < 225 → cats as ≤ mL j → MetOK l j as sto r sto1) (hle : sto.1 ≤ sto1.1) (hnF : sto1.1 ≤ nF) (k : At (gW p l e R s mi args below meth c Q n0) (WX dC dI b L0 xs0 s A w0 n0) mi b (mL m) pc' L' (r ++ st') sto1) : At (gW p l e R s mi args below meth c Q n0) (WX dC dI b L0 xs0 s A w0 n0) mi b (mL m) pc L st sto := by
  have htag := act_tag.1 (by rw [h5] : (act m en pc L st).1 = 5)
  obtain ⟨hx, hb, hml, hts, hown, hini, hRm, hA, hX, hbl, hbA, hL0, hAO, hRc, hRs⟩ := X
  obtain ⟨i, len, r1, r2⟩ := en
  revert htag
  cases i
  case invokestatic i =>
    intro _
    obtain ⟨hd, hlen, hk⟩ := okE_spec hok rfl
    dsimp only at hd hlen
    dsimp only [insLen] at hlen; subst hlen
    have h5 : (if r2 = 0 then caA r1 pc L st else mmA r2 pc L st) = _ := h5
    have hk : (if r2 = 0 then okRoom m r1 && hasM mlT (mO m) i r1 101 else (if r2 = 1 then hasI miT (mO m) i else hasI mxT (mO m) i) && decide (1 ≤ mFr m) && decide (21 ≤ mLo m)) = true := hk
    by_cases h0 : r2 = 0
    · rw [if_pos h0] at h5 hk
      rw [Bool.and_eq_true] at hk
      unfold caA at h5
      split at h5
      · rename_i hc
        cases h5
        have hj : j < 225 := by
          have := hk.1
          simp only [okRoom, Bool.and_eq_true, decide_eq_true_eq] at this
          exact this.1.1
        exact at_cs (m := m) (o := mO m) hx hb hml hts hown hA hX hbl hbA hL0 hAO hRm hRc hRs hk.1 hk.2 hd hc.1 hc.2.1 (hM hj (by rw [cats_rev]; exact hc.2.2)) hle hnF k
      · cases h5
    · rw [if_neg h0] at h5
      unfold mmA at h5
      repeat' split at h5
      all_goals cases h5
  case invokespecial i =>
    intro _
    obtain ⟨hd, hlen, hk⟩ := okE_spec hok rfl
    dsimp only at hd hlen
    dsimp only [insLen] at hlen; subst hlen
    have h5 : (if r2 = 1 then oiA pc L st else csA r1 pc L st) = _ := h5
    have hk : (if r2 = 1 then hasI obT (mO m) i && decide (1 ≤ mFr m) && decide (12 ≤ mLo m) else okRoom m r1 && hasM mlT (mO m) i r1 100) = true := hk
    by_cases h0 : r2 = 1
    · rw [if_pos h0] at h5
      unfold oiA at h5
      repeat' split at h5
      all_goals cases h5
    · rw [if_neg h0] at h5 hk
      rw [Bool.and_eq_true] at hk
      unfold csA at h5
      split at h5
      · rename_i ci hrc
        unfold caA at h5
        split at h5
        · rename_i hc
          cases h5
          have hj : j < 225 := by
            have := hk.1
            simp only [okRoom, Bool.and_eq_true, decide_eq_true_eq] at this
            exact this.1.1
          exact at_ci (m := m) (o := mO m) hx hb hml hts hown hA hX hbl hbA hL0 hAO hRm hRc hRs hk.1 hk.2 hd hrc hc.1 hc.2.1 (hM hj (by rw [cats_rev]; exact hc.2.2)) hle hnF k
        · cases h5
      · cases h5
  case invokevirtual i =>
    intro _
    obtain ⟨hd, hlen, hk⟩ := okE_spec hok rfl
    dsimp only at hd hlen
    dsimp only [insLen] at hlen; subst hlen
    have h5 : cvA r1 r2 pc L st = _ := h5
    have hk : (okRoom m r1 && hasM mlT (mO m) i r1 r2.toNat && decide (0 ≤ r2)) = true := hk
    rw [Bool.and_eq_true, decide_eq_true_eq, Bool.and_eq_true] at hk
    obtain ⟨hk, hneg⟩ := hk
    unfold cvA at h5
    split at h5
    · rename_i ci hrc
      by_cases hkd : (if r2 = 0 then cC ci = (mY r1).cls else (cis r2.toNat).contains ci = true)
      · rw [if_pos hkd] at h5
        unfold caA at h5
        by_cases hc : mNA r1 ≤ st.length ∧ cats (st.drop (mNA r1)) ≤ 8 ∧ cats (st.take (mNA r1)) ≤ mL r1
        · rw [if_pos hc] at h5
          cases h5
          have hj : j < 225 := by
            have := hk.1
            simp only [okRoom, Bool.and_eq_true, decide_eq_true_eq] at this
            exact this.1.1
          by_cases hr0 : r2.toNat = 0
          · have hkd2 : if r2.toNat = 0 then cC ci = (mY j).cls else (cis r2.toNat).contains ci = true := by
              rw [if_pos hr0]
              by_cases h0 : r2 = 0
              · rw [if_pos h0] at hkd; exact hkd
              · exact absurd hneg (by omega)
            exact at_cv (m := m) (o := mO m) hx hb hml hts hown hA hX hbl hbA hL0 hAO hRm hRc hRs hk.1 hk.2 hd hrc (by omega) (by omega) hkd2 hc.1 hc.2.1 (hM hj (by rw [cats_rev]; exact hc.2.2)) hle hnF k
          · have h0 : ¬ r2 = 0 := fun z => hr0 (by rw [z]; rfl)
            rw [if_neg h0] at hkd
            have hne : r2.toNat ≠ 100 ∧ r2.toNat ≠ 101 := by
              constructor
              · intro z
                rw [z] at hkd
                have : ci = 100 := by simpa [cis] using hkd
                exact absurd (rcv_small hrc) (by omega)
              · intro z
                rw [z] at hkd
                have : ci = 101 := by simpa [cis] using hkd
                exact absurd (rcv_small hrc) (by omega)
            exact at_cv (m := m) (o := mO m) hx hb hml hts hown hA hX hbl hbA hL0 hAO hRm hRc hRs hk.1 hk.2 hd hrc hne.1 hne.2 (by rw [if_neg hr0]; exact hkd) hc.1 hc.2.1 (hM hj (by rw [cats_rev]; exact hc.2.2)) hle hnF k
        · rw [if_neg hc] at h5; cases h5
      · rw [if_neg hkd] at h5; cases h5
    · cases h5
  all_goals exact fun z => absurd (show false = true from z) (by decide)
end CALLALL

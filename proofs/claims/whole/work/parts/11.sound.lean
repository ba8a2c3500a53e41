theorem okEs_at {m o : Nat} {bs : ByteArray} : ∀ (es : List Ent) (k i : Nat) (en : Ent), okEs m o bs k es = true → nth es i = some en → okE m o bs (k + i) en = true
  | [], _, _, _, _, h => by cases h
  | e :: es, k, 0, en, h, g => by
    cases g
    rw [okEs, Bool.and_eq_true] at h
    exact h.1
  | e :: es, k, i + 1, en, h, g => by
    rw [okEs, Bool.and_eq_true] at h
    have := okEs_at es (k + 1) i en h.2 g
    rw [show k + (i + 1) = k + 1 + i by omega]
    exact this
theorem ok_at {m pc : Nat} {en : Ent} (hm : m < 226) (h : nth (mE m) pc = some en) : okE m (mO m) (mB m) pc en = true := by
  have := okEs_at (mE m) 0 pc en (okAll m hm) h
  rwa [Nat.zero_add] at this
theorem ent_at {ws : va_W} {b : Nat} : ∀ (as : List Vl) (xs : List Value) (k i : Nat) (v : Vl), rvs ws b as xs → (as.flatMap fun v => if v.1 = 2 then [v, ((0, 0) : Vl)] else [v])[i]? = some v → v.1 ≠ 0 → ∃ x, (k + i, x) ∈ lv_args k xs ∧ rvl ws b v x
  | [], _, _, _, _, _, h, _ => by simp at h
  | _ :: _, [], _, _, _, h, _, _ => h.elim
  | a :: as, x :: xs, k, i, v, h, g, hv => by
    rw [List.flatMap_cons] at g
    have hc := rvl_cat h.1
    by_cases ha : a.1 = 2
    · rw [if_pos ha] at g hc
      match i, g with
      | 0, g =>
        have : v = a := by simpa using g.symm
        subst this
        exact ⟨x, by simp [lv_args], h.1⟩
      | 1, g =>
        have : v = (0, 0) := by simpa using g.symm
        subst this
        exact absurd rfl hv
      | i + 2, g =>
        have g : (as.flatMap fun v => if v.1 = 2 then [v, ((0, 0) : Vl)] else [v])[i]? = some v := by simpa using g
        obtain ⟨y, h1, h2⟩ := ent_at as xs (k + 2) i v h.2 g hv
        refine ⟨y, ?_, h2⟩
        rw [lv_args, if_pos hc, show k + (i + 2) = k + 2 + i by omega]
        exact List.mem_cons_of_mem _ h1
    · rw [if_neg ha] at g hc
      match i, g with
      | 0, g =>
        have : v = a := by simpa using g.symm
        subst this
        exact ⟨x, by simp [lv_args], h.1⟩
      | i + 1, g =>
        have g : (as.flatMap fun v => if v.1 = 2 then [v, ((0, 0) : Vl)] else [v])[i]? = some v := by simpa using g
        obtain ⟨y, h1, h2⟩ := ent_at as xs (k + 1) i v h.2 g hv
        refine ⟨y, ?_, h2⟩
        rw [lv_args, if_neg (by omega), show k + (i + 1) = k + 1 + i by omega]
        exact List.mem_cons_of_mem _ h1
theorem fl_len : ∀ (as : List Vl), (as.flatMap fun v => if v.1 = 2 then [v, ((0, 0) : Vl)] else [v]).length = cats as
  | [] => rfl
  | a :: as => by
    have := fl_len as
    unfold cats at this ⊢
    rw [List.flatMap_cons, List.length_append, this, List.map_cons, List.sum_cons]
    by_cases ha : a.1 = 2
    · rw [if_pos ha, if_pos ha]; rfl
    · rw [if_neg ha, if_neg ha]; rfl
theorem ent_len {as : List Vl} {n : Nat} (h : cats as ≤ n) : (entL as n).length = n := by
  unfold entL
  rw [List.length_append, fl_len, List.length_replicate]
  show cats as + (n - cats as) = n
  omega
theorem ent_rls {ws : va_W} {b : Nat} {as : List Vl} {xs : List Value} {n : Nat} (h : rvs ws b as xs) : rls ws b (entL as n) (lv_args 0 xs) := by
  intro i v hi hv
  unfold entL at hi
  by_cases hl : i < (as.flatMap fun v => if v.1 = 2 then [v, ((0, 0) : Vl)] else [v]).length
  · rw [List.getElem?_append_left hl] at hi
    obtain ⟨x, h1, h2⟩ := ent_at as xs 0 i v h hi hv
    rw [Nat.zero_add] at h1
    exact ⟨x, h1, h2⟩
  · rw [List.getElem?_append_right (by omega)] at hi
    have := List.mem_of_getElem? hi
    rw [List.mem_replicate] at this
    exact absurd (by rw [this.2]) hv
theorem lg_len : ∀ (xs : List Value), (lg_sl xs).length = (xs.map fun v => v.category).sum
  | [] => rfl
  | x :: xs => by
    have := lg_len xs
    unfold lg_sl at this ⊢
    rw [List.flatMap_cons, List.length_append, this, List.map_cons, List.sum_cons]
    rcases lv_cat x with h | h
    · rw [if_neg (by omega), h]; rfl
    · rw [if_pos h, h]; rfl
theorem iniT_ok : iniT.all (fun j => decide ((mY j).name = "<init>")) = true := by decide +kernel
def Snd (l : Launch) (m pc : Nat) (L st : List Vl) (sto : Sto) (r : List Vl) (sto' : Sto) : Prop :=
  ∀ (p : Program) (e : Env) (R : Room) (s : State) (mi : MethodId) (args : Array Value) (below : List Frame) (meth : Method) (c : Code) (Q : State → Prop) (n0 : Nat) (dC : Nat → ClassId) (dI : Nat → Nat → Nat) (b L0 : Nat) (xs0 : Nat → Int32) (A : Nat → Prop) (w0 : va_W) (nF : Nat),
    CX p R s mi args meth c m n0 nF b L0 xs0 A → n0 ≤ sto.1 → sto'.1 ≤ nF →
    (∀ (pc : Nat) (en : Ent) (L : List Vl), nth (mE m) pc = some en → (act m en pc L r).1 = 6 → At (gW p l e R s mi args below meth c Q n0) (WX dC dI b L0 xs0 s A w0 n0) mi b (mL m) pc L r sto') →
    At (gW p l e R s mi args below meth c Q n0) (WX dC dI b L0 xs0 s A w0 n0) mi b (mL m) pc L st sto
set_option maxHeartbeats 2000000 in
theorem met_of {l : Launch} {j : Nat} {as r : List Vl} {sto sto' : Sto} (hj : j < 225) (hc : cats as ≤ mL j) (h : Snd l j 0 (entL as (mL j)) [] sto r sto') : MetOK l j as sto r sto' := by
  intro dC dI b L0 xs0 ws tys sz xs hxs hw hap hL0
  obtain ⟨g1, g2, g3, g4, g5, g6, g7, g8⟩ := me_at hj
  refine Met.ofW (cc := mB j) (maxL := mL j) (ret := mR j) (by rw [g1]; exact g8) rfl ?_
  intro p e s m args below meth c s₁ B hml hv
  obtain ⟨rfl, hP, hK, hD0, hX, hbl, hAO, hsz⟩ := hv
  have hx := B.exec
  have hb := B.bytes
  have hr := B.returns
  have hts := atoms_spec (ws := cWs j) B.pre
  have hown : s.vm.findClass (mY j).cls = some m.cls := findClass_of_methodNamed B.named
  have hlocks := B.notSynchronized
  have hin : meth.name = (mY j).name := (name_of_methodNamed B.named B.method).1
  subst hsz
  have hD := hD0.self (sz := s.heap.size)
  have hl := lv_entry xs (n := mL j) (by rw [lg_len, rvs_cats hxs]; exact hc)
  rw [lg_entry_eq]
  have X : CX p (headSpec (cWs j) (cRm j sto sto')).room s m xs.toArray meth c j sto.1 sto'.1 b L0 xs0 (va_A ws s.heap.size) :=
    ⟨hx, hb, hml, fun w hw => hts w (List.mem_cons_of_mem _ hw), by rw [← g1]; exact hown, fun hi => by
      rw [hin]
      have hm : j ∈ iniT := by simpa using hi
      exact of_decide_eq_true (List.all_eq_true.mp iniT_ok j hm), ⟨Nat.le_refl _, Nat.le_refl _⟩, fun q h => Or.inr h, hX, hbl, fun hh => by
      rcases hh with ⟨k, e, hh⟩ | hh
      · exact hap k b e hh rfl
      · omega, hL0, hAO, Nat.le_refl _, Nat.le_refl _⟩
  have k := h p e _ s m xs.toArray below meth c (MQ below (cQc dC dI b L0 xs0 ws s.heap.size r sto') xs.toArray s (sto'.1 - sto.1) (SL sto'.1 - SL sto.1) (va_A ws s.heap.size)) sto.1 dC dI b L0 xs0 (va_A ws s.heap.size) ws sto'.1 X (Nat.le_refl _) (Nat.le_refl _) (by
    intro pc en L hn h6 H locs ls lv xs1 ws1 tys1 hV hl hL hr1 hs
    obtain ⟨hK1, hP1, hD1, hS1, hw1, hx1, hn1⟩ := hV
    have htag := act_tag.2 h6
    have hok := ok_at (by omega) hn
    obtain ⟨i, len, r1, r2⟩ := en
    revert htag
    cases i
    case ireturn =>
      intro _
      obtain ⟨hd, hlen, hk⟩ := okE_spec hok rfl
      dsimp only at hd hlen
      dsimp only [insLen] at hlen; subst hlen
      have h6 : (reI j L r).1 = 6 := h6
      unfold reI at h6
      split at h6
      · rename_i x
        split at h6
        · rename_i hret
          obtain ⟨y, ys, rfl, hy, hs2⟩ := rvs_i hs
          have := rvs_nil hs2
          subst this
          rcases hret with hret | ⟨hret, h01⟩
          · exact W.iret (v := y) hx hb (by rw [hr]; exact hret) (fun t ht hW => ⟨⟨[.int y], ws1, tys1, rfl, by simp, hs, hw1, by rw [ht]; exact hP1, va_K.moved hW.alike hK1, hD1, hx1⟩, hS1.F ht⟩) hS1.2.2 hd
          · refine W.zret (v := y) (ty := .boolean) hx hb (by rw [hr]; exact hret) ?_ (fun t ht hW => ⟨⟨[.int y], ws1, tys1, rfl, by simp, hs, hw1, by rw [ht]; exact hP1, va_K.moved hW.alike hK1, hD1, hx1⟩, hS1.F ht⟩) hS1.2.2 hd
            have : y = 0 ∨ y = 1 := by
              rcases h01 with h | h
              · exact Or.inl (Int32.toInt_inj.mp (by rw [hy, h]; rfl))
              · exact Or.inr (Int32.toInt_inj.mp (by rw [hy, h]; rfl))
            rcases this with rfl | rfl <;> decide
        · exact absurd h6 (by simp [stk])
      · exact absurd h6 (by simp [stk])
    case lreturn =>
      intro _
      obtain ⟨hd, hlen, hk⟩ := okE_spec hok rfl
      dsimp only at hd hlen
      dsimp only [insLen] at hlen; subst hlen
      have h6 : (reL j L r).1 = 6 := h6
      unfold reL at h6
      split at h6
      · rename_i x
        split at h6
        · rename_i hret
          obtain ⟨y, ys, rfl, hy, hs2⟩ := rvs_l hs
          have := rvs_nil hs2
          subst this
          exact W.lret (v := y) hx hb (by rw [hr]; exact hret) (fun t ht hW => ⟨⟨[.long y], ws1, tys1, rfl, by simp, hs, hw1, by rw [ht]; exact hP1, va_K.moved hW.alike hK1, hD1, hx1⟩, hS1.F ht⟩) hS1.2.2 hd
        · exact absurd h6 (by simp [stk])
      · exact absurd h6 (by simp [stk])
    case return_ =>
      intro _
      obtain ⟨hd, hlen, hk⟩ := okE_spec hok rfl
      dsimp only at hd hlen
      dsimp only [insLen] at hlen; subst hlen
      have h6 : (reV j L r).1 = 6 := h6
      unfold reV at h6
      split at h6
      · split at h6
        · rename_i hret
          have := rvs_nil hs
          subst this
          exact W.vret hx hb (by rw [hr]; exact hret) (fun t ht hW => ⟨⟨[], ws1, tys1, rfl, by simp, hs, hw1, by rw [ht]; exact hP1, va_K.moved hW.alike hK1, hD1, hx1⟩, hS1.F ht⟩) hS1.2.2 hd
        · exact absurd h6 (by simp [stk])
      · exact absurd h6 (by simp [stk])
    all_goals exact fun z => absurd (show false = true from z) (by decide)) s.heap [] _ (lv_args 0 xs) [] ws tys ⟨hK, hP, hD, va_S.rf, hw, ext_rf, Nat.le_refl _⟩ hl (ent_len hc) (ent_rls hxs) trivial
  unfold gW at k
  simp only [Nat.sub_self] at k
  exact k
set_option maxHeartbeats 2000000 in
theorem run_sound (l : Launch) {lo hi : Nat} : ∀ (f m pc : Nat) (L st : List Vl) (sto : Sto) (r : List Vl) (sto' : Sto), m < 226 → run lo hi f m pc L st sto = some (r, sto') → Snd l m pc L st sto r sto' := by
  intro f
  induction f with
  | zero => intro m pc L st sto r sto' hm h; cases h
  | succ f ih =>
    intro m pc L st sto r sto' hm h p e R s mi args below meth c Q n0 dC dI b L0 xs0 A w0 nF X hn0 hnF hend
    have hmono := run_mono _ _ _ _ _ _ _ _ h
    have hcN : sto.1 ≤ nF := Nat.le_trans hmono hnF
    unfold run at h
    split at h
    · cases h
    · rename_i en hen
      have hok := ok_at hm hen
      split at h
      · rename_i heq
        exact step_all X hcN hn0 hok (by rw [heq]; exact ih _ _ _ _ _ _ _ hm h p e R s mi args below meth c Q n0 dC dI b L0 xs0 A w0 nF X hn0 hnF hend)
      · rename_i heq
        split at h
        · exact step_all X hcN hn0 hok (by rw [heq]; exact ih _ _ _ _ _ _ _ hm h p e R s mi args below meth c Q n0 dC dI b L0 xs0 A w0 nF X hn0 hnF hend)
        · cases h
      · rename_i heq
        split at h
        · exact step_all X hcN hn0 hok (by rw [heq]; exact ih _ _ _ _ _ _ _ hm h p e R s mi args below meth c Q n0 dC dI b L0 xs0 A w0 nF X hn0 hnF hend)
        · cases h
      · rename_i heq
        split at h
        · rename_i hc
          have hm1 := run_mono _ _ _ _ _ _ _ _ h
          dsimp only at hm1
          exact step_all X hcN hn0 hok (by rw [heq]; exact ⟨hc.1, by omega, ih _ _ _ _ _ _ _ hm h p e R s mi args below meth c Q n0 dC dI b L0 xs0 A w0 nF X (by dsimp only; omega) hnF hend⟩)
        · cases h
      · rename_i heq
        split at h
        · rename_i r1 s1 hcall
          have hm1 := run_mono _ _ _ _ _ _ _ _ hcall
          have hm2 := run_mono _ _ _ _ _ _ _ _ h
          exact call_all X hok heq (fun hj hca => met_of hj hca (ih _ _ _ _ _ _ _ (by omega) hcall)) hm1 (Nat.le_trans hm2 hnF)
            (ih _ _ _ _ _ _ _ hm h p e R s mi args below meth c Q n0 dC dI b L0 xs0 A w0 nF X (Nat.le_trans hn0 hm1) hnF hend)
        · cases h
      · rename_i heq
        cases h
        exact hend pc en L hen (by rw [heq])
      · rename_i heq
        split at h
        · rename_i hc
          exact step_all X hcN hn0 hok (by rw [heq]; exact ⟨hc.2.1, hc.2.2, ih _ _ _ _ _ _ _ hm h p e R s mi args below meth c Q n0 dC dI b L0 xs0 A w0 nF X hn0 hnF hend⟩)
        · cases h
      · rename_i heq
        split at h
        · exact step_all X hcN hn0 hok (by rw [heq]; exact ih _ _ _ _ _ _ _ hm h p e R s mi args below meth c Q n0 dC dI b L0 xs0 A w0 nF X hn0 hnF hend)
        · cases h
      · rename_i heq
        split at h
        · rename_i hbb
          refine step_all X hcN hn0 hok ?_
          rw [heq]
          show if _ = true then _ else _
          rw [if_pos hbb]
          exact ih _ _ _ _ _ _ _ hm h p e R s mi args below meth c Q n0 dC dI b L0 xs0 A w0 nF X hn0 hnF hend
        · rename_i hbb
          refine step_all X hcN hn0 hok ?_
          rw [heq]
          show if _ = true then _ else _
          rw [if_neg hbb]
          exact ih _ _ _ _ _ _ _ hm h p e R s mi args below meth c Q n0 dC dI b L0 xs0 A w0 nF X hn0 hnF hend
      · cases h

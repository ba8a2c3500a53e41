/-! WHAT A STATE OF THE SMALL MACHINE STANDS FOR in the big one. -/
/-- a value -/
def rvl (ws : va_W) (b : Nat) (v : Vl) (x : Value) : Prop :=
  (v.1 = 1 ∧ ∃ y : Int32, x = .int y ∧ y.toInt = v.2) ∨
  (v.1 = 2 ∧ ∃ y : Int64, x = .long y ∧ y.toInt = v.2) ∨
  (v.1 = 3 ∧ ((v.2 = 0 ∧ x = .null) ∨ (v.2 = 1 ∧ x = .ref b) ∨ ∃ (a q : Nat) (e : va_E), v.2 = (a : Int) + 2 ∧ ws[a]? = some (q, e) ∧ x = .ref q))
theorem rvl_int {ws : va_W} {b : Nat} {i : Int} {x : Value} (h : rvl ws b (1, i) x) : ∃ y : Int32, x = .int y ∧ y.toInt = i := by
  rcases h with ⟨-, h⟩ | ⟨h, -⟩ | ⟨h, -⟩
  · exact h
  · exact absurd h (by simp)
  · exact absurd h (by simp)
theorem rvl_long {ws : va_W} {b : Nat} {i : Int} {x : Value} (h : rvl ws b (2, i) x) : ∃ y : Int64, x = .long y ∧ y.toInt = i := by
  rcases h with ⟨h, -⟩ | ⟨-, h⟩ | ⟨h, -⟩
  · exact absurd h (by simp)
  · exact h
  · exact absurd h (by simp)
theorem rvl_ref {ws : va_W} {b : Nat} {i : Int} {x : Value} (h : rvl ws b (3, i) x) (hi : 2 ≤ i) : ∃ (q : Nat) (e : va_E), ws[i.toNat - 2]? = some (q, e) ∧ x = .ref q := by
  rcases h with ⟨h, -⟩ | ⟨h, -⟩ | ⟨-, h⟩
  · exact absurd h (by simp)
  · exact absurd h (by simp)
  · rcases h with ⟨h, -⟩ | ⟨h, -⟩ | ⟨a, q, e, h1, h2, h3⟩
    · exact absurd h (by dsimp only; omega)
    · exact absurd h (by dsimp only; omega)
    · refine ⟨q, e, ?_, h3⟩
      have : i.toNat - 2 = a := by dsimp only at h1; omega
      rw [this]; exact h2
theorem rvl_scr {ws : va_W} {b : Nat} {x : Value} (h : rvl ws b (3, 1) x) : x = .ref b := by
  rcases h with ⟨h, -⟩ | ⟨h, -⟩ | ⟨-, h⟩
  · exact absurd h (by simp)
  · exact absurd h (by simp)
  · rcases h with ⟨h, -⟩ | ⟨-, h⟩ | ⟨a, q, e, h1, -, -⟩
    · exact absurd h (by simp)
    · exact h
    · dsimp only at h1; omega
theorem rvl_z {ws : va_W} {b : Nat} {i : Int} {x : Value} (h : rvl ws b (0, i) x) : False := by
  rcases h with ⟨h, -⟩ | ⟨h, -⟩ | ⟨h, -⟩ <;> exact absurd h (by simp)
theorem rvl_cat {ws : va_W} {b : Nat} {v : Vl} {x : Value} (h : rvl ws b v x) : x.category = if v.1 = 2 then 2 else 1 := by
  rcases h with ⟨h, y, rfl, -⟩ | ⟨h, y, rfl, -⟩ | ⟨h, h2⟩
  · rw [h]; rfl
  · rw [h]; rfl
  · rw [h]
    rcases h2 with ⟨-, rfl⟩ | ⟨-, rfl⟩ | ⟨a, q, e, -, -, rfl⟩ <;> rfl
/-- cells keep their places and their addresses -/
def ext (ws w1 : va_W) : Prop := ∀ (a q : Nat) (e : va_E), ws[a]? = some (q, e) → ∃ e1, w1[a]? = some (q, e1)
theorem ext_rf {ws : va_W} : ext ws ws := fun _ _ e h => ⟨e, h⟩
theorem ext_tr {w0 w1 w2 : va_W} (h : ext w0 w1) (g : ext w1 w2) : ext w0 w2 := fun a q e k => by
  obtain ⟨e1, k1⟩ := h a q e k
  exact g a q e1 k1
theorem ext_set {ws : va_W} {a q : Nat} {e e1 : va_E} (h : ws[a]? = some (q, e)) : ext ws (ws.set a (q, e1)) := fun a' q' e' k => by
  have hl := (List.getElem?_eq_some_iff.mp h).1
  by_cases ha : a' = a
  · subst ha
    rw [h] at k; cases k
    exact ⟨e1, List.getElem?_set_self hl⟩
  · exact ⟨e', by rw [List.getElem?_set_ne (Ne.symm ha)]; exact k⟩
theorem ext_app {ws w1 : va_W} : ext ws (ws ++ w1) := fun a q e k => ⟨e, by rw [List.getElem?_append_left (List.getElem?_eq_some_iff.mp k).1]; exact k⟩
theorem rvl_ext {ws w1 : va_W} {b : Nat} {v : Vl} {x : Value} (g : ext ws w1) (h : rvl ws b v x) : rvl w1 b v x := by
  rcases h with h | h | ⟨h, h2⟩
  · exact Or.inl h
  · exact Or.inr (Or.inl h)
  · refine Or.inr (Or.inr ⟨h, ?_⟩)
    rcases h2 with h2 | h2 | ⟨a, q, e, h3, h4, h5⟩
    · exact Or.inl h2
    · exact Or.inr (Or.inl h2)
    · obtain ⟨e1, h6⟩ := g a q e h4
      exact Or.inr (Or.inr ⟨a, q, e1, h3, h6, h5⟩)
/-- a stack -/
def rvs (ws : va_W) (b : Nat) : List Vl → List Value → Prop
  | [], [] => True
  | v :: vs, x :: xs => rvl ws b v x ∧ rvs ws b vs xs
  | _, _ => False
theorem rvs_nil {ws : va_W} {b : Nat} {xs : List Value} (h : rvs ws b [] xs) : xs = [] := by
  cases xs with
  | nil => rfl
  | cons x xs => exact h.elim
theorem rvs_cons {ws : va_W} {b : Nat} {v : Vl} {vs : List Vl} {xs : List Value} (h : rvs ws b (v :: vs) xs) : ∃ (x : Value) (ys : List Value), xs = x :: ys ∧ rvl ws b v x ∧ rvs ws b vs ys := by
  cases xs with
  | nil => exact h.elim
  | cons x xs => exact ⟨x, xs, rfl, h.1, h.2⟩
theorem rvs_i {ws : va_W} {b : Nat} {i : Int} {vs : List Vl} {xs : List Value} (h : rvs ws b ((1, i) :: vs) xs) : ∃ (y : Int32) (ys : List Value), xs = .int y :: ys ∧ y.toInt = i ∧ rvs ws b vs ys := by
  obtain ⟨x, ys, rfl, h1, h2⟩ := rvs_cons h
  obtain ⟨y, rfl, h3⟩ := rvl_int h1
  exact ⟨y, ys, rfl, h3, h2⟩
theorem rvs_l {ws : va_W} {b : Nat} {i : Int} {vs : List Vl} {xs : List Value} (h : rvs ws b ((2, i) :: vs) xs) : ∃ (y : Int64) (ys : List Value), xs = .long y :: ys ∧ y.toInt = i ∧ rvs ws b vs ys := by
  obtain ⟨x, ys, rfl, h1, h2⟩ := rvs_cons h
  obtain ⟨y, rfl, h3⟩ := rvl_long h1
  exact ⟨y, ys, rfl, h3, h2⟩
theorem rvs_ii {ws : va_W} {b : Nat} {i : Int} {y : Int32} (h : y.toInt = i) : rvl ws b (1, i) (.int y) := Or.inl ⟨rfl, y, rfl, h⟩
theorem rvs_ll {ws : va_W} {b : Nat} {i : Int} {y : Int64} (h : y.toInt = i) : rvl ws b (2, i) (.long y) := Or.inr (Or.inl ⟨rfl, y, rfl, h⟩)
theorem rvs_rr {ws : va_W} {b q a : Nat} {e : va_E} (h : ws[a]? = some (q, e)) : rvl ws b (3, (a : Int) + 2) (.ref q) := Or.inr (Or.inr ⟨rfl, Or.inr (Or.inr ⟨a, q, e, rfl, h, rfl⟩)⟩)
theorem rvs_ext {ws w1 : va_W} {b : Nat} (g : ext ws w1) : ∀ {vs : List Vl} {xs : List Value}, rvs ws b vs xs → rvs w1 b vs xs
  | [], [], _ => trivial
  | [], _ :: _, h => h.elim
  | _ :: _, [], h => h.elim
  | _ :: _, _ :: _, h => ⟨rvl_ext g h.1, rvs_ext g h.2⟩
theorem rvs_len {ws : va_W} {b : Nat} : ∀ {vs : List Vl} {xs : List Value}, rvs ws b vs xs → xs.length = vs.length
  | [], [], _ => rfl
  | [], _ :: _, h => h.elim
  | _ :: _, [], h => h.elim
  | _ :: _, _ :: _, h => by simp [rvs_len h.2]
theorem rvs_app {ws : va_W} {b : Nat} : ∀ {vs : List Vl} {xs : List Value} {us : List Vl} {ys : List Value}, rvs ws b vs xs → rvs ws b us ys → rvs ws b (vs ++ us) (xs ++ ys)
  | [], [], _, _, _, g => g
  | [], _ :: _, _, _, h, _ => h.elim
  | _ :: _, [], _, _, h, _ => h.elim
  | _ :: _, _ :: _, _, _, h, g => ⟨h.1, rvs_app h.2 g⟩
theorem rvs_take {ws : va_W} {b : Nat} : ∀ (n : Nat) {vs : List Vl} {xs : List Value}, rvs ws b vs xs → rvs ws b (vs.take n) (xs.take n)
  | 0, _, _, _ => trivial
  | _ + 1, [], [], _ => trivial
  | _ + 1, [], _ :: _, h => h.elim
  | _ + 1, _ :: _, [], h => h.elim
  | n + 1, _ :: _, _ :: _, h => ⟨h.1, rvs_take n h.2⟩
theorem rvs_drop {ws : va_W} {b : Nat} : ∀ (n : Nat) {vs : List Vl} {xs : List Value}, rvs ws b vs xs → rvs ws b (vs.drop n) (xs.drop n)
  | 0, _, _, h => by simpa using h
  | _ + 1, [], [], _ => trivial
  | _ + 1, [], _ :: _, h => h.elim
  | _ + 1, _ :: _, [], h => h.elim
  | n + 1, _ :: _, _ :: _, h => rvs_drop n h.2
theorem rvs_rev {ws : va_W} {b : Nat} : ∀ {vs : List Vl} {xs : List Value}, rvs ws b vs xs → rvs ws b vs.reverse xs.reverse
  | [], [], _ => trivial
  | [], _ :: _, h => h.elim
  | _ :: _, [], h => h.elim
  | v :: vs, x :: xs, h => by
    rw [List.reverse_cons, List.reverse_cons]
    exact rvs_app (rvs_rev h.2) ⟨h.1, trivial⟩
theorem rvs_cats {ws : va_W} {b : Nat} : ∀ {vs : List Vl} {xs : List Value}, rvs ws b vs xs → (xs.map fun v => v.category).sum = cats vs
  | [], [], _ => rfl
  | [], _ :: _, h => h.elim
  | _ :: _, [], h => h.elim
  | v :: vs, x :: xs, h => by
    have h1 := rvs_cats h.2
    unfold cats at h1 ⊢
    rw [List.map_cons, List.sum_cons, List.map_cons, List.sum_cons, h1, rvl_cat h.1]
theorem rvs_nth {ws : va_W} {b : Nat} : ∀ {vs : List Vl} {xs : List Value} (i : Nat) {v : Vl}, rvs ws b vs xs → nth vs i = some v → ∃ x, xs[i]? = some x ∧ rvl ws b v x
  | [], _, _, _, _, h => by cases h
  | _ :: _, [], _, _, h, _ => h.elim
  | _ :: _, x :: _, 0, _, h, g => by cases g; exact ⟨x, rfl, h.1⟩
  | _ :: _, _ :: _, i + 1, _, h, g => by
    obtain ⟨x, h1, h2⟩ := rvs_nth i h.2 g
    exact ⟨x, by simpa using h1, h2⟩
theorem nth_get {α : Type} : ∀ (l : List α) (i : Nat), nth l i = l[i]?
  | [], _ => by simp [nth]
  | _ :: _, 0 => rfl
  | _ :: l, i + 1 => by simp [nth, nth_get l i]
/-- the local variables -/
def rls (ws : va_W) (b : Nat) (L : List Vl) (lv : List (Nat × Value)) : Prop := ∀ (i : Nat) (v : Vl), L[i]? = some v → v.1 ≠ 0 → ∃ x, (i, x) ∈ lv ∧ rvl ws b v x
theorem rls_ext {ws w1 : va_W} {b : Nat} {L : List Vl} {lv : List (Nat × Value)} (g : ext ws w1) (h : rls ws b L lv) : rls w1 b L lv := fun i v h1 h2 => by
  obtain ⟨x, h3, h4⟩ := h i v h1 h2
  exact ⟨x, h3, rvl_ext g h4⟩
theorem stL_len (L : List Vl) (i : Nat) (v : Vl) : (stL L i v).length = L.length := by
  unfold stL
  split <;> simp
theorem stL_at {L : List Vl} {i j : Nat} {v w : Vl} (h : (stL L i v)[j]? = some w) (hw : w.1 ≠ 0) : (j = i ∧ w = v) ∨ (j ≠ i ∧ L[j]? = some w ∧ (j + 1 = i → w.1 ≠ 2)) := by
  unfold stL at h
  by_cases hj : j = i
  · subst hj
    refine Or.inl ⟨rfl, ?_⟩
    have hl := (List.getElem?_eq_some_iff.mp h).1
    rw [List.length_set] at hl
    rw [List.getElem?_set_self hl] at h
    exact (Option.some.inj h).symm
  · refine Or.inr ⟨hj, ?_⟩
    rw [List.getElem?_set_ne (Ne.symm hj)] at h
    split at h
    · rename_i h2
      by_cases hk : j = i - 1
      · subst hk
        have hl := (List.getElem?_eq_some_iff.mp h).1
        rw [List.length_set] at hl
        rw [List.getElem?_set_self hl] at h
        exact absurd (by rw [← Option.some.inj h]) hw
      · rw [List.getElem?_set_ne (Ne.symm hk)] at h
        exact ⟨h, fun h3 => absurd (by omega) hk⟩
    · rename_i h2
      refine ⟨h, fun h3 h4 => h2 ?_⟩
      have : i - 1 = j := by omega
      rw [this, List.getD_eq_getElem?_getD, h]
      exact h4
theorem rls_st1 {ws : va_W} {b : Nat} {L : List Vl} {lv : List (Nat × Value)} {i : Nat} {v : Vl} {x : Value} (h : rls ws b L lv) (hx : rvl ws b v x) :
    rls ws b (stL L i v) ((i, x) :: lv.filter (fun q => !(q.1 == i) && !(q.1 + 1 == i && q.2.category == 2))) := by
  intro j w h1 h2
  rcases stL_at h1 h2 with ⟨rfl, rfl⟩ | ⟨hj, h3, h4⟩
  · exact ⟨x, List.mem_cons_self, hx⟩
  · obtain ⟨y, h5, h6⟩ := h j w h3 h2
    refine ⟨y, List.mem_cons_of_mem _ (List.mem_filter.mpr ⟨h5, ?_⟩), h6⟩
    have hc := rvl_cat h6
    simp only [Bool.and_eq_true, Bool.not_eq_true', beq_eq_false_iff_ne, ne_eq, Bool.and_eq_false_imp, beq_iff_eq]
    refine ⟨hj, fun h7 h8 => ?_⟩
    have := h4 h7
    rw [if_neg this] at hc
    omega
theorem rls_st2 {ws : va_W} {b : Nat} {L : List Vl} {lv : List (Nat × Value)} {i : Nat} {v : Vl} {x : Value} (h : rls ws b L lv) (hx : rvl ws b v x) :
    rls ws b (stL (L.set (i + 1) (0, 0)) i v) ((i, x) :: lv.filter (fun q => !(q.1 == i) && (!(q.1 == i + 1) && !(q.1 + 1 == i && q.2.category == 2)))) := by
  intro j w h1 h2
  rcases stL_at h1 h2 with ⟨rfl, rfl⟩ | ⟨hj, h3, h4⟩
  · exact ⟨x, List.mem_cons_self, hx⟩
  · have hj2 : j ≠ i + 1 := by
      intro hk
      subst hk
      have hl := (List.getElem?_eq_some_iff.mp h3).1
      rw [List.length_set] at hl
      rw [List.getElem?_set_self hl] at h3
      exact h2 (by rw [← Option.some.inj h3])
    rw [List.getElem?_set_ne (Ne.symm hj2)] at h3
    obtain ⟨y, h5, h6⟩ := h j w h3 h2
    refine ⟨y, List.mem_cons_of_mem _ (List.mem_filter.mpr ⟨h5, ?_⟩), h6⟩
    have hc := rvl_cat h6
    simp only [Bool.and_eq_true, Bool.not_eq_true', beq_eq_false_iff_ne, ne_eq, Bool.and_eq_false_imp, beq_iff_eq]
    refine ⟨hj, hj2, fun h7 h8 => ?_⟩
    have := h4 h7
    rw [if_neg this] at hc
    omega
/-- a cell -/
def cre (ws : va_W) (tys : List (ClassId × FieldType)) (b : Nat) (row : Nat → Int) (ly : Nat × Nat) (e : va_E) : Prop :=
  (ly.1 = 1 ∧ ∃ fs : List Value, e = .inr (ly.2, fs) ∧ ly.2 < 6 ∧ fs.length = cN ly.2 ∧ ∀ k, k < cN ly.2 → ∃ x, fs[k]? = some x ∧ rvl ws b ((if slotTag ly.2 k = 3 then 3 else 1), row k) x) ∨
  (ly.1 = 2 ∧ ∃ (cA : ClassId) (f : Nat → Int32), e = .inl (cA, ly.2, .inl f) ∧ (∃ t0 : Nat, tys[t0]? = some (cA, .int)) ∧ ∀ k, k < ly.2 → (f k).toInt = row k) ∨
  (ly.1 = 3 ∧ ∃ (cA : ClassId) (f : Nat → Int32), e = .inl (cA, ly.2, .inl f) ∧ (∃ t0 : Nat, tys[t0]? = some (cA, .boolean)) ∧ ∀ k, k < ly.2 → (f k).toInt = row k) ∨
  (ly.1 = 4 ∧ ∃ (cA : ClassId) (f : Nat → Option Nat), e = .inl (cA, ly.2, .inr (.inr (.inr (.inr f)))) ∧ (∃ t0 : Nat, tys[t0]? = some (cA, .object "FasterForTheRich$Town")) ∧ ∀ k, k < ly.2 → rvl ws b (3, row k) (va_rf (f k)))
def tyx (tys t1 : List (ClassId × FieldType)) : Prop := ∀ (t0 : Nat) (q : ClassId × FieldType), tys[t0]? = some q → ∃ t2 : Nat, t1[t2]? = some q
theorem tyx_app {tys t1 : List (ClassId × FieldType)} : tyx tys (tys ++ t1) := fun t0 q h => ⟨t0, by rw [List.getElem?_append_left (List.getElem?_eq_some_iff.mp h).1]; exact h⟩
theorem cre_ext {ws w1 : va_W} {tys t1 : List (ClassId × FieldType)} {b : Nat} {row : Nat → Int} {ly : Nat × Nat} {e : va_E} (g : ext ws w1) (gt : tyx tys t1) (h : cre ws tys b row ly e) : cre w1 t1 b row ly e := by
  rcases h with ⟨h0, fs, h1, h2, h3, h4⟩ | ⟨h0, cA, f, h1, ⟨t0, h2⟩, h3⟩ | ⟨h0, cA, f, h1, ⟨t0, h2⟩, h3⟩ | ⟨h0, cA, f, h1, ⟨t0, h2⟩, h3⟩
  · refine Or.inl ⟨h0, fs, h1, h2, h3, fun k hk => ?_⟩
    obtain ⟨x, h5, h6⟩ := h4 k hk
    exact ⟨x, h5, rvl_ext g h6⟩
  · exact Or.inr (Or.inl ⟨h0, cA, f, h1, gt t0 _ h2, h3⟩)
  · exact Or.inr (Or.inr (Or.inl ⟨h0, cA, f, h1, gt t0 _ h2, h3⟩))
  · exact Or.inr (Or.inr (Or.inr ⟨h0, cA, f, h1, gt t0 _ h2, fun k hk => rvl_ext g (h3 k hk)⟩))
/-- the store: every cell, and the script at the places 0 (how long) and 1 -/
def wre (ws : va_W) (tys : List (ClassId × FieldType)) (b L0 : Nat) (xs0 : Nat → Int32) (s : Sto) : Prop :=
  ws.length + 2 = s.1 ∧ (∀ (a q : Nat) (e : va_E), ws[a]? = some (q, e) → cre ws tys b (s.2 (a + 2)) (lay (a + 2)) e) ∧ s.2 0 0 = (L0 : Int) ∧ ∀ j, j < L0 → (xs0 j).toInt = s.2 1 j
theorem wre_up {ws : va_W} {tys : List (ClassId × FieldType)} {b L0 : Nat} {xs0 : Nat → Int32} {s : Sto} (h : wre ws tys b L0 xs0 s) {a q k : Nat} {e e1 : va_E} {x : Int} (ha : ws[a]? = some (q, e)) (hc : cre (ws.set a (q, e1)) tys b (upS s.2 (a + 2) k x (a + 2)) (lay (a + 2)) e1) :
    wre (ws.set a (q, e1)) tys b L0 xs0 (s.1, upS s.2 (a + 2) k x) := by
  obtain ⟨h1, h2, h3, h4⟩ := h
  have hl := (List.getElem?_eq_some_iff.mp ha).1
  have hne : ∀ a' : Nat, a' ≠ a + 2 → upS s.2 (a + 2) k x a' = s.2 a' := fun a' hn => by
    funext k'
    simp [upS, hn]
  refine ⟨by rw [List.length_set]; exact h1, fun a' q' e' hk => ?_, ?_, fun j hj => ?_⟩
  · by_cases haa : a' = a
    · subst haa
      rw [List.getElem?_set_self hl] at hk
      cases hk
      exact hc
    · rw [List.getElem?_set_ne (Ne.symm haa)] at hk
      show cre _ _ _ (upS s.2 (a + 2) k x (a' + 2)) _ _
      rw [hne (a' + 2) (by omega)]
      exact cre_ext (ext_set ha) (fun t0 q h => ⟨t0, h⟩) (h2 a' q' e' hk)
  · show upS s.2 (a + 2) k x 0 0 = _
    rw [hne 0 (by omega)]; exact h3
  · show _ = upS s.2 (a + 2) k x 1 j
    rw [hne 1 (by omega)]; exact h4 j hj
theorem wre_new {ws : va_W} {tys t1 : List (ClassId × FieldType)} {b L0 : Nat} {xs0 : Nat → Int32} {s : Sto} (h : wre ws tys b L0 xs0 s) {q : Nat} {e : va_E} (gt : tyx tys t1) (hc : cre (ws ++ [(q, e)]) t1 b (fun _ => 0) (lay s.1) e) :
    wre (ws ++ [(q, e)]) t1 b L0 xs0 (s.1 + 1, clS s.2 s.1) := by
  obtain ⟨h1, h2, h3, h4⟩ := h
  have hne : ∀ a' : Nat, a' ≠ s.1 → clS s.2 s.1 a' = s.2 a' := fun a' hn => by
    funext k'
    simp [clS, hn]
  refine ⟨by rw [List.length_append]; show _ + 1 + 2 = s.1 + 1; omega, fun a' q' e' hk => ?_, ?_, fun j hj => ?_⟩
  · show cre _ _ _ (clS s.2 s.1 (a' + 2)) _ _
    by_cases hl : a' < ws.length
    · rw [List.getElem?_append_left hl] at hk
      rw [hne (a' + 2) (by omega)]
      exact cre_ext ext_app gt (h2 a' q' e' hk)
    · rw [List.getElem?_append_right (by omega)] at hk
      have hz : a' - ws.length < 1 := (List.getElem?_eq_some_iff.mp hk).1
      have ha : a' + 2 = s.1 := by omega
      rw [show a' - ws.length = 0 by omega] at hk
      cases hk
      rw [ha]
      have : clS s.2 s.1 s.1 = fun _ => 0 := by funext k'; simp [clS]
      rw [this]
      exact hc
  · show clS s.2 s.1 0 0 = _
    rw [hne 0 (by omega)]; exact h3
  · show _ = clS s.2 s.1 1 j
    rw [hne 1 (by omega)]; exact h4 j hj
theorem wre_at {ws : va_W} {tys : List (ClassId × FieldType)} {b L0 : Nat} {xs0 : Nat → Int32} {s : Sto} (h : wre ws tys b L0 xs0 s) {i : Int} (hi : 2 ≤ i) {q : Nat} {e : va_E} (ha : ws[i.toNat - 2]? = some (q, e)) : cre ws tys b (s.2 i.toNat) (lay i.toNat) e := by
  have h1 := h.2.1 _ _ _ ha
  rw [show i.toNat - 2 + 2 = i.toNat by omega] at h1
  exact h1

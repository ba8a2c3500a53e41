/-! WHAT THE CLASS'S CELLS AND THE REFERENCE'S CELLS HAVE TO DO WITH EACH OTHER. -/
/-- a town laid flat, as the reference keeps it -/
def fw (a off : Nat) (t : Nat → Nat → Int) : Nat → Nat → Int := fun k p => t a (off + 2 + 8 * p + k)
def okV (np : Int) (V : Nat → Nat → Int) : Prop := ∀ p : Nat, (p : Int) < np → (0 ≤ V 0 p ∧ V 0 p ≤ 5) ∧ (0 ≤ V 1 p ∧ V 1 p ≤ 9) ∧ (0 ≤ V 2 p ∧ V 2 p ≤ 999) ∧ (0 ≤ V 3 p ∧ V 3 p ≤ 99) ∧ (0 ≤ V 4 p ∧ V 4 p ≤ 99) ∧ (V 5 p = 0 ∨ V 5 p = 1) ∧ (0 ≤ V 6 p ∧ V 6 p ≤ 999) ∧ (V 7 p = -9 ∨ (0 ≤ V 7 p ∧ V 7 p < np ∧ V 7 p ≠ (p : Int)))
def eqV (np : Int) (C V : Nat → Nat → Int) : Prop := ∀ p : Nat, (p : Int) < np → C 0 p = V 0 p ∧ C 1 p = V 1 p ∧ C 2 p = V 2 p ∧ C 3 p = V 3 p ∧ C 4 p = V 4 p ∧ C 5 p = V 5 p ∧ C 6 p = V 6 p ∧ ((V 7 p = -9 ∧ C 7 p = -1) ∨ (0 ≤ V 7 p ∧ C 7 p = V 7 p))
/-- a town of the class's (how many, hour, rows) and one of the reference's -/
def rlT (cn ch : Int) (C : Nat → Nat → Int) (vn vh : Int) (V : Nat → Nat → Int) : Prop := cn = vn ∧ ch = vh ∧ (0 ≤ vn ∧ vn ≤ 6) ∧ (0 ≤ vh ∧ vh ≤ 999) ∧ okV vn V ∧ eqV vn C V
def REL (s t : Nat → Nat → Int) : Prop :=
  refs s ∧ refs t ∧
  rlT (s 3 9) (s 3 10) (vw 4 s) (t 120 0) (t 120 9) (vw 121 t) ∧
  ((s 2 3 = 0 ∧ t 120 23 = 0) ∨ (s 2 3 = 1 ∧ t 120 23 = 1 ∧ rlT (s 23 9) (s 23 10) (vw 24 s) (t 136 0) (t 136 1) (fw 136 0 t))) ∧
  (s 33 2 = t 120 29 ∧ (0 ≤ s 33 2 ∧ s 33 2 ≤ 8) ∧ (0 ≤ s 33 1 ∧ s 33 1 < 8) ∧ ∀ j : Nat, (j : Int) < s 33 2 → rlT (s (35 + 10 * (((s 33 1).toNat + j) % 8)) 9) (s (35 + 10 * (((s 33 1).toNat + j) % 8)) 10) (vw (36 + 10 * (((s 33 1).toNat + j) % 8)) s) (t 137 (50 * j)) (t 137 (50 * j + 1)) (fw 137 (50 * j) t)) ∧
  (s 115 1 = t 120 14 ∧ (0 ≤ s 115 1 ∧ s 115 1 ≤ 96) ∧ ∀ k : Nat, (k : Int) < s 115 1 → s 116 k = t 131 k ∧ 0 ≤ s 116 k ∧ s 116 k ≤ 255) ∧
  (s 117 1 = t 120 31 ∧ (0 ≤ s 117 1 ∧ s 117 1 ≤ 12) ∧ ∀ k : Nat, (k : Int) < s 117 1 → s 118 k = t 139 k ∧ 0 ≤ s 118 k ∧ s 118 k ≤ 99) ∧
  ∀ k : Nat, k < 7 → s 119 k = t 129 k
theorem upS_1 {f : Nat → Nat → Int} {a k a' k' : Nat} {x : Int} (h : a' ≠ a) : upS f a k x a' k' = f a' k' := by simp [upS, h]
theorem upS_2 {f : Nat → Nat → Int} {a k a' k' : Nat} {x : Int} (h : k' ≠ k) : upS f a k x a' k' = f a' k' := by simp [upS, h]
theorem vw_up {β : Nat} {s : Nat → Nat → Int} {a k : Nat} {x : Int} (h : a < β ∨ β + 8 ≤ a) : ∀ j, j < 8 → ∀ p, vw β (upS s a k x) j p = vw β s j p := by
  intro j hj p
  unfold vw
  exact upS_1 (by omega)
theorem okV_ext {np : Int} {V W : Nat → Nat → Int} (h : okV np V) (e : ∀ j, j < 8 → ∀ p : Nat, (p : Int) < np → W j p = V j p) : okV np W := by
  intro p hp
  rw [e 0 (by decide) p hp, e 1 (by decide) p hp, e 2 (by decide) p hp, e 3 (by decide) p hp, e 4 (by decide) p hp, e 5 (by decide) p hp, e 6 (by decide) p hp, e 7 (by decide) p hp]
  exact h p hp
theorem eqV_ext {np : Int} {C D V W : Nat → Nat → Int} (h : eqV np C V) (e : ∀ j, j < 8 → ∀ p : Nat, (p : Int) < np → D j p = C j p) (g : ∀ j, j < 8 → ∀ p : Nat, (p : Int) < np → W j p = V j p) : eqV np D W := by
  intro p hp
  rw [e 0 (by decide) p hp, e 1 (by decide) p hp, e 2 (by decide) p hp, e 3 (by decide) p hp, e 4 (by decide) p hp, e 5 (by decide) p hp, e 6 (by decide) p hp, e 7 (by decide) p hp, g 0 (by decide) p hp, g 1 (by decide) p hp, g 2 (by decide) p hp, g 3 (by decide) p hp, g 4 (by decide) p hp, g 5 (by decide) p hp, g 6 (by decide) p hp, g 7 (by decide) p hp]
  exact h p hp
theorem rlT_ext {cn ch dn dh vn vh wn wh : Int} {C D V W : Nat → Nat → Int} (h : rlT cn ch C vn vh V) (e1 : dn = cn) (e2 : dh = ch) (e3 : wn = vn) (e4 : wh = vh) (e : ∀ j, j < 8 → ∀ p : Nat, (p : Int) < vn → D j p = C j p) (g : ∀ j, j < 8 → ∀ p : Nat, (p : Int) < vn → W j p = V j p) : rlT dn dh D wn wh W := by
  subst e1; subst e2; subst e3; subst e4
  obtain ⟨h1, h2, h3, h4, h5, h6⟩ := h
  exact ⟨h1, h2, h3, h4, okV_ext h5 g, eqV_ext h6 e g⟩
/-- a method of the class's and one of the reference's, begun over cells that have to do with each other, answer alike, and so do the cells behind -/
def Post (n : Nat) (r : List Vl) (s1 : Sto) (r' : List Vl) (t1 : Sto) : Prop := ∃ v, r = [v] ∧ r' = [v] ∧ REL s1.2 t1.2 ∧ s1.1 = n ∧ t1.1 = n
/-- REL looks at some cells alone -/
theorem REL_of {s t s1 t1 : Nat → Nat → Int} (h : REL s t) (r1 : refs s1) (r2 : refs t1)
    (e3 : ∀ k, k = 9 ∨ k = 10 → s1 3 k = s 3 k) (e4 : ∀ a, 4 ≤ a → a < 12 → s1 a = s a) (e2 : s1 2 3 = s 2 3) (e23 : ∀ k, k = 9 ∨ k = 10 → s1 23 k = s 23 k) (e24 : ∀ a, 24 ≤ a → a < 32 → s1 a = s a)
    (e33 : ∀ k, k = 1 ∨ k = 2 → s1 33 k = s 33 k) (e35 : ∀ a, 35 ≤ a → a < 115 → s1 a = s a) (e115 : s1 115 1 = s 115 1) (e116 : s1 116 = s 116) (e117 : s1 117 1 = s 117 1) (e118 : s1 118 = s 118) (e119 : ∀ k, k < 7 → s1 119 k = t1 129 k)
    (f120 : ∀ k, k = 0 ∨ k = 9 ∨ k = 14 ∨ k = 23 ∨ k = 29 ∨ k = 31 → t1 120 k = t 120 k) (f121 : ∀ a, 121 ≤ a → a < 129 → t1 a = t a) (f131 : t1 131 = t 131) (f136 : t1 136 = t 136) (f137 : t1 137 = t 137) (f139 : t1 139 = t 139) : REL s1 t1 := by
  obtain ⟨-, -, hN, hI, ⟨hh1, hh2, hh3, hh4⟩, ⟨hl1, hl2, hl3⟩, ⟨hr1, hr2, hr3⟩, -⟩ := h
  refine ⟨r1, r2, ?_, ?_, ⟨?_, ?_, ?_, ?_⟩, ⟨?_, ?_, ?_⟩, ⟨?_, ?_, ?_⟩, e119⟩
  · exact rlT_ext hN (e3 9 (Or.inl rfl)) (e3 10 (Or.inr rfl)) (f120 0 (by decide)) (f120 9 (by decide)) (fun j hj p _ => by unfold vw; rw [e4 (4 + j) (by omega) (by omega)]) (fun j hj p _ => by unfold vw; rw [f121 (121 + j) (by omega) (by omega)])
  · rcases hI with ⟨h1, h2⟩ | ⟨h1, h2, h3⟩
    · exact Or.inl ⟨by rw [e2]; exact h1, by rw [f120 23 (by decide)]; exact h2⟩
    · refine Or.inr ⟨by rw [e2]; exact h1, by rw [f120 23 (by decide)]; exact h2, ?_⟩
      exact rlT_ext h3 (e23 9 (Or.inl rfl)) (e23 10 (Or.inr rfl)) (by rw [f136]) (by rw [f136]) (fun j hj p _ => by unfold vw; rw [e24 (24 + j) (by omega) (by omega)]) (fun j hj p _ => by unfold fw; rw [f136])
  · rw [e33 2 (Or.inr rfl), f120 29 (by decide)]; exact hh1
  · rw [e33 2 (Or.inr rfl)]; exact hh2
  · rw [e33 1 (Or.inl rfl)]; exact hh3
  · intro j hj
    rw [e33 2 (Or.inr rfl)] at hj
    rw [e33 1 (Or.inl rfl)]
    have hm : ((s 33 1).toNat + j) % 8 < 8 := Nat.mod_lt _ (by decide)
    exact rlT_ext (hh4 j hj) (by rw [e35 _ (by omega) (by omega)]) (by rw [e35 _ (by omega) (by omega)]) (by rw [f137]) (by rw [f137]) (fun i hi p _ => by unfold vw; rw [e35 _ (by omega) (by omega)]) (fun i hi p _ => by unfold fw; rw [f137])
  · rw [e115, f120 14 (by decide)]; exact hl1
  · rw [e115]; exact hl2
  · intro k hk
    rw [e115] at hk
    rw [e116, f131]; exact hl3 k hk
  · rw [e117, f120 31 (by decide)]; exact hr1
  · rw [e117]; exact hr2
  · intro k hk
    rw [e117] at hk
    rw [e118, f139]; exact hr3 k hk
/-- REL speaks of the class's cells on the one side, of the reference's on the other -/
theorem REL_loc {s t s1 t1 : Nat → Nat → Int} (h : REL s t) (e : ∀ a, 2 ≤ a ∧ a < 120 → s1 a = s a) (f : ∀ a, 120 ≤ a ∧ a < 140 → t1 a = t a) (r1 : refs s1) (r2 : refs t1) : REL s1 t1 :=
  REL_of h r1 r2 (fun k _ => by rw [e 3 (by decide)]) (fun a h1 h2 => e a ⟨by omega, by omega⟩) (by rw [e 2 (by decide)]) (fun k _ => by rw [e 23 (by decide)]) (fun a h1 h2 => e a ⟨by omega, by omega⟩)
    (fun k _ => by rw [e 33 (by decide)]) (fun a h1 h2 => e a ⟨by omega, by omega⟩) (by rw [e 115 (by decide)]) (e 116 (by decide)) (by rw [e 117 (by decide)]) (e 118 (by decide)) (fun k hk => by rw [e 119 (by decide), f 129 (by decide)]; exact h.2.2.2.2.2.2.2 k hk)
    (fun k _ => by rw [f 120 (by decide)]) (fun a h1 h2 => f a ⟨by omega, by omega⟩) (f 131 (by decide)) (f 136 (by decide)) (f 137 (by decide)) (f 139 (by decide))

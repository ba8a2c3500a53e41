/-! WHAT THE CLASS'S CELLS AND THE REFERENCE'S CELLS HAVE TO DO WITH EACH OTHER. -/
/-- a town laid flat, as the reference keeps it -/
def fw (a off : Nat) (t : Nat → Nat → Int) : Nat → Nat → Int := fun k p => t a (off + 2 + 8 * p + k)
def okV (np : Int) (V : Nat → Nat → Int) : Prop := ∀ p : Nat, (p : Int) < np → (0 ≤ V 0 p ∧ V 0 p ≤ 5) ∧ (0 ≤ V 1 p ∧ V 1 p ≤ 9) ∧ (0 ≤ V 2 p ∧ V 2 p ≤ 999) ∧ (0 ≤ V 3 p ∧ V 3 p ≤ 99) ∧ (0 ≤ V 4 p ∧ V 4 p ≤ 99) ∧ (V 5 p = 0 ∨ V 5 p = 1) ∧ (0 ≤ V 6 p ∧ V 6 p ≤ 999) ∧ (V 7 p = -9 ∨ (0 ≤ V 7 p ∧ V 7 p < np ∧ V 7 p ≠ (p : Int)))
def eqV (np : Int) (C V : Nat → Nat → Int) : Prop := ∀ p : Nat, (p : Int) < np → C 0 p = V 0 p ∧ C 1 p = V 1 p ∧ C 2 p = V 2 p ∧ C 3 p = V 3 p ∧ C 4 p = V 4 p ∧ C 5 p = V 5 p ∧ C 6 p = V 6 p ∧ ((V 7 p = -9 ∧ C 7 p = -1) ∨ (0 ≤ V 7 p ∧ C 7 p = V 7 p))
/-- a town of the class's (how many, hour, rows) and one of the reference's -/
def rlT (cn ch : Int) (C : Nat → Nat → Int) (vn vh : Int) (V : Nat → Nat → Int) : Prop := cn = vn ∧ ch = vh ∧ (0 ≤ vn ∧ vn ≤ 6) ∧ (0 ≤ vh ∧ vh ≤ 999) ∧ okV vn V ∧ eqV vn C V
def relN (s t : Nat → Nat → Int) : Prop := rlT (s 3 9) (s 3 10) (vw 4 s) (t 120 0) (t 120 9) (vw 121 t)
def relI (s t : Nat → Nat → Int) : Prop := (s 2 3 = 0 ∧ t 120 23 = 0) ∨ (s 2 3 = 1 ∧ t 120 23 = 1 ∧ rlT (s 23 9) (s 23 10) (vw 24 s) (t 136 0) (t 136 1) (fw 136 0 t))
/-- the place of the j-th kept town, of those that can be taken back -/
def slt (s : Nat → Nat → Int) (j : Nat) : Nat := 35 + 10 * (((s 33 1).toNat + j) % 8)
def relH (s t : Nat → Nat → Int) : Prop := s 33 2 = t 120 29 ∧ (0 ≤ s 33 2 ∧ s 33 2 ≤ 8) ∧ (0 ≤ s 33 1 ∧ s 33 1 < 8) ∧ ∀ j : Nat, (j : Int) < s 33 2 → rlT (s (slt s j) 9) (s (slt s j) 10) (vw (slt s j + 1) s) (t 137 (50 * j)) (t 137 (50 * j + 1)) (fw 137 (50 * j) t)
def relL (s t : Nat → Nat → Int) : Prop := s 115 1 = t 120 14 ∧ (0 ≤ s 115 1 ∧ s 115 1 ≤ 96) ∧ ∀ k : Nat, (k : Int) < s 115 1 → s 116 k = t 131 k ∧ 0 ≤ s 116 k ∧ s 116 k ≤ 255
def relR (s t : Nat → Nat → Int) : Prop := s 117 1 = t 120 31 ∧ (0 ≤ s 117 1 ∧ s 117 1 ≤ 12) ∧ ∀ k : Nat, (k : Int) < s 117 1 → s 118 k = t 139 k ∧ 0 ≤ s 118 k ∧ s 118 k ≤ 99
def relF (s t : Nat → Nat → Int) : Prop := ∀ k : Nat, k < 7 → s 119 k = t 129 k
def REL (s t : Nat → Nat → Int) : Prop := refs s ∧ refs t ∧ relN s t ∧ relI s t ∧ relH s t ∧ relL s t ∧ relR s t ∧ relF s t
theorem upS_1 {f : Nat → Nat → Int} {a k a' k' : Nat} {x : Int} (h : a' ≠ a) : upS f a k x a' k' = f a' k' := by simp [upS, h]
theorem upS_2 {f : Nat → Nat → Int} {a k a' k' : Nat} {x : Int} (h : k' ≠ k) : upS f a k x a' k' = f a' k' := by simp [upS, h]
theorem vw_up {β : Nat} {s : Nat → Nat → Int} {a k : Nat} {x : Int} (h : a < β ∨ β + 8 ≤ a) : ∀ j, j < 8 → ∀ p, vw β (upS s a k x) j p = vw β s j p := by
  intro j hj p
  unfold vw
  exact upS_1 (by omega)
theorem okV_ext {np : Int} {V W : Nat → Nat → Int} (h : okV np V) (e : ∀ j, j < 8 → ∀ p : Nat, (p : Int) < np → W j p = V j p) : okV np W := by
  intro p hp
  rw [e 0 (by decide) p hp, e 1 (by decide) p hp, e 2 (by decide) p hp, e 3 (by decide) p hp, e 4 (by decide) p hp, e 5 (by decide) p hp, e 6 (by decide) p hp, e 7 (by decide) p hp]
  exact h p hp
theorem eqV_ext {np : Int} {C D V W : Nat → Nat → Int} (h : eqV np C V) (e : ∀ j, j < 8 → ∀ p : Nat, (p : Int) < np → D j p = C j p) (g : ∀ j, j < 8 → ∀ p : Nat, (p : Int) < np → W j p = V j p) : eqV np D W := by
  intro p hp
  rw [e 0 (by decide) p hp, e 1 (by decide) p hp, e 2 (by decide) p hp, e 3 (by decide) p hp, e 4 (by decide) p hp, e 5 (by decide) p hp, e 6 (by decide) p hp, e 7 (by decide) p hp, g 0 (by decide) p hp, g 1 (by decide) p hp, g 2 (by decide) p hp, g 3 (by decide) p hp, g 4 (by decide) p hp, g 5 (by decide) p hp, g 6 (by decide) p hp, g 7 (by decide) p hp]
  exact h p hp
theorem rlT_ext {cn ch dn dh vn vh wn wh : Int} {C D V W : Nat → Nat → Int} (h : rlT cn ch C vn vh V) (e1 : dn = cn) (e2 : dh = ch) (e3 : wn = vn) (e4 : wh = vh) (e : ∀ j, j < 8 → ∀ p : Nat, (p : Int) < vn → D j p = C j p) (g : ∀ j, j < 8 → ∀ p : Nat, (p : Int) < vn → W j p = V j p) : rlT dn dh D wn wh W := by
  subst e1; subst e2; subst e3; subst e4
  obtain ⟨h1, h2, h3, h4, h5, h6⟩ := h
  exact ⟨h1, h2, h3, h4, okV_ext h5 g, eqV_ext h6 e g⟩
/-- a method of the class's and one of the reference's, begun over cells that have to do with each other, answer alike, and so do the cells behind -/
def Post (n : Nat) (r : List Vl) (s1 : Sto) (r' : List Vl) (t1 : Sto) : Prop := ∃ v, r = [v] ∧ r' = [v] ∧ REL s1.2 t1.2 ∧ s1.1 = n ∧ t1.1 = n
theorem REL.n {s t : Nat → Nat → Int} (h : REL s t) : relN s t := h.2.2.1
theorem REL.i {s t : Nat → Nat → Int} (h : REL s t) : relI s t := h.2.2.2.1
theorem REL.h {s t : Nat → Nat → Int} (h : REL s t) : relH s t := h.2.2.2.2.1
theorem REL.l {s t : Nat → Nat → Int} (h : REL s t) : relL s t := h.2.2.2.2.2.1
theorem REL.r {s t : Nat → Nat → Int} (h : REL s t) : relR s t := h.2.2.2.2.2.2.1
theorem REL.f {s t : Nat → Nat → Int} (h : REL s t) : relF s t := h.2.2.2.2.2.2.2
theorem relN_fr {s t s1 t1 : Nat → Nat → Int} (h : relN s t) (a1 : s1 3 9 = s 3 9) (a2 : s1 3 10 = s 3 10) (a3 : ∀ a, 4 ≤ a → a < 12 → s1 a = s a) (b1 : t1 120 0 = t 120 0) (b2 : t1 120 9 = t 120 9) (b3 : ∀ a, 121 ≤ a → a < 129 → t1 a = t a) : relN s1 t1 :=
  rlT_ext h a1 a2 b1 b2 (fun j hj p _ => by unfold vw; rw [a3 (4 + j) (by omega) (by omega)]) (fun j hj p _ => by unfold vw; rw [b3 (121 + j) (by omega) (by omega)])
theorem relI_fr {s t s1 t1 : Nat → Nat → Int} (h : relI s t) (a1 : s1 2 3 = s 2 3) (a2 : s1 23 9 = s 23 9) (a3 : s1 23 10 = s 23 10) (a4 : ∀ a, 24 ≤ a → a < 32 → s1 a = s a) (b1 : t1 120 23 = t 120 23) (b2 : t1 136 = t 136) : relI s1 t1 := by
  rcases h with ⟨h1, h2⟩ | ⟨h1, h2, h3⟩
  · exact Or.inl ⟨by rw [a1]; exact h1, by rw [b1]; exact h2⟩
  · exact Or.inr ⟨by rw [a1]; exact h1, by rw [b1]; exact h2, rlT_ext h3 a2 a3 (by rw [b2]) (by rw [b2]) (fun j hj p _ => by unfold vw; rw [a4 (24 + j) (by omega) (by omega)]) (fun j hj p _ => by unfold fw; rw [b2])⟩
theorem relH_fr {s t s1 t1 : Nat → Nat → Int} (h : relH s t) (a1 : s1 33 1 = s 33 1) (a2 : s1 33 2 = s 33 2) (a3 : ∀ a, 35 ≤ a → a < 115 → s1 a = s a) (b1 : t1 120 29 = t 120 29) (b2 : t1 137 = t 137) : relH s1 t1 := by
  obtain ⟨hh1, hh2, hh3, hh4⟩ := h
  refine ⟨by rw [a2, b1]; exact hh1, by rw [a2]; exact hh2, by rw [a1]; exact hh3, fun j hj => ?_⟩
  rw [a2] at hj
  have e : slt s1 j = slt s j := by unfold slt; rw [a1]
  rw [e]
  have hm : ((s 33 1).toNat + j) % 8 < 8 := Nat.mod_lt _ (by decide)
  have hb : 35 ≤ slt s j ∧ slt s j < 106 := by unfold slt; omega
  exact rlT_ext (hh4 j hj) (by rw [a3 _ (by omega) (by omega)]) (by rw [a3 _ (by omega) (by omega)]) (by rw [b2]) (by rw [b2]) (fun i hi p _ => by unfold vw; rw [a3 _ (by omega) (by omega)]) (fun i hi p _ => by unfold fw; rw [b2])
theorem relL_fr {s t s1 t1 : Nat → Nat → Int} (h : relL s t) (a1 : s1 115 1 = s 115 1) (a2 : s1 116 = s 116) (b1 : t1 120 14 = t 120 14) (b2 : t1 131 = t 131) : relL s1 t1 := by
  obtain ⟨h1, h2, h3⟩ := h
  exact ⟨by rw [a1, b1]; exact h1, by rw [a1]; exact h2, fun k hk => by rw [a1] at hk; rw [a2, b2]; exact h3 k hk⟩
theorem relR_fr {s t s1 t1 : Nat → Nat → Int} (h : relR s t) (a1 : s1 117 1 = s 117 1) (a2 : s1 118 = s 118) (b1 : t1 120 31 = t 120 31) (b2 : t1 139 = t 139) : relR s1 t1 := by
  obtain ⟨h1, h2, h3⟩ := h
  exact ⟨by rw [a1, b1]; exact h1, by rw [a1]; exact h2, fun k hk => by rw [a1] at hk; rw [a2, b2]; exact h3 k hk⟩
theorem relF_fr {s t s1 t1 : Nat → Nat → Int} (h : relF s t) (a1 : s1 119 = s 119) (b1 : t1 129 = t 129) : relF s1 t1 := fun k hk => by rw [a1, b1]; exact h k hk
/-- REL speaks of the class's cells on the one side, of the reference's on the other -/
theorem REL_loc {s t s1 t1 : Nat → Nat → Int} (h : REL s t) (e : ∀ a, 2 ≤ a ∧ a < 120 → s1 a = s a) (f : ∀ a, 120 ≤ a ∧ a < 140 → t1 a = t a) (r1 : refs s1) (r2 : refs t1) : REL s1 t1 :=
  ⟨r1, r2, relN_fr h.n (by rw [e 3 (by decide)]) (by rw [e 3 (by decide)]) (fun a h1 h2 => e a ⟨by omega, by omega⟩) (by rw [f 120 (by decide)]) (by rw [f 120 (by decide)]) (fun a h1 h2 => f a ⟨by omega, by omega⟩),
    relI_fr h.i (by rw [e 2 (by decide)]) (by rw [e 23 (by decide)]) (by rw [e 23 (by decide)]) (fun a h1 h2 => e a ⟨by omega, by omega⟩) (by rw [f 120 (by decide)]) (f 136 (by decide)),
    relH_fr h.h (by rw [e 33 (by decide)]) (by rw [e 33 (by decide)]) (fun a h1 h2 => e a ⟨by omega, by omega⟩) (by rw [f 120 (by decide)]) (f 137 (by decide)),
    relL_fr h.l (by rw [e 115 (by decide)]) (e 116 (by decide)) (by rw [f 120 (by decide)]) (f 131 (by decide)),
    relR_fr h.r (by rw [e 117 (by decide)]) (e 118 (by decide)) (by rw [f 120 (by decide)]) (f 139 (by decide)), relF_fr h.f (e 119 (by decide)) (f 129 (by decide))⟩

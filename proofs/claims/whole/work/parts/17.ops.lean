/-! LOOPS UP, AND WHAT IS KNOWN OF A PERSON. -/
def itr {α : Type} (f : Nat → α → α) (a : α) : Nat → α
  | 0 => a
  | k + 1 => f k (itr f a k)
theorem itr_ext {α : Type} {f g : Nat → α → α} (a : α) : ∀ N, (∀ k b, k < N → f k b = g k b) → itr f a N = itr g a N
  | 0, _ => rfl
  | N + 1, h => by
    show f N (itr f a N) = g N (itr g a N)
    rw [itr_ext a N (fun k b hk => h k b (by omega)), h N _ (by omega)]
theorem itr_inv {α : Type} {f : Nat → α → α} (I : Nat → α → Prop) {a : α} (h0 : I 0 a) : ∀ N, (∀ k b, k < N → I k b → I (k + 1) (f k b)) → I N (itr f a N)
  | 0, _ => h0
  | N + 1, h => h N _ (by omega) (itr_inv I h0 N (fun k b hk => h k b (by omega)))
theorem G_up {α : Type} (N : Nat) (GG : Nat → α → Prop) (f : Nat → α → α) (I : Nat → α → Prop) (a : α) (h0 : I 0 a) (hi : ∀ k b, k < N → I k b → I (k + 1) (f k b)) (hs : ∀ k b, k < N → I k b → GG (k + 1) (f k b) → GG k b) (he : I N (itr f a N) → GG N (itr f a N)) : GG 0 a := by
  have hI : ∀ k, k ≤ N → I k (itr f a k) := fun k hk => itr_inv I h0 k (fun j b hj => hi j b (by omega))
  have h : ∀ d k, k + d = N → GG k (itr f a k) := by
    intro d
    induction d with
    | zero => intro k hk; have hk : k = N := by omega
              subst hk; exact he (hI k (by omega))
    | succ d ih => intro k hk; exact hs k _ (by omega) (hI k (by omega)) (ih (k + 1) (by omega))
  exact h N 0 (by omega)
theorem vw_120 (t : Nat → Nat → Int) (k : Nat) (x : Int) : vw 121 (upS t 120 k x) = vw 121 t := by
  funext j p
  unfold vw
  exact upS_1 (by omega)
theorem wr_s {k : Nat} {N : Nat} (h : k < N) (hN : N ≤ 2000000) : wr ((k : Int) + 1) = ((k + 1 : Nat) : Int) := by
  rw [wr_id (by omega) (by omega)]
  omega
theorem bnV_eq {C V : Nat → Nat → Int} {p : Nat} (h0 : C 0 p = V 0 p) (h1 : C 1 p = V 1 p) (h3 : C 3 p = V 3 p) : bnV C p = bnV V p := by
  funext c
  unfold bnV
  rw [h0, h1, h3]
theorem lsV_eq {C V : Nat → Nat → Int} {p : Nat} (h0 : C 0 p = V 0 p) (h1 : C 1 p = V 1 p) (h3 : C 3 p = V 3 p) (h4 : C 4 p = V 4 p) : lsV C p = lsV V p := by
  funext c
  unfold lsV
  rw [bnV_eq h0 h1 h3, h4]
theorem REL.np {s t : Nat → Nat → Int} (h : REL s t) : s 3 9 = t 120 0 ∧ s 3 10 = t 120 9 ∧ (0 ≤ t 120 0 ∧ t 120 0 ≤ 6) ∧ (0 ≤ t 120 9 ∧ t 120 9 ≤ 999) := ⟨h.n.1, h.n.2.1, h.n.2.2.1, h.n.2.2.2.1⟩
theorem REL.t {s t : Nat → Nat → Int} (h : REL s t) (p : Nat) (hp : (p : Int) < t 120 0) : (0 ≤ t 121 p ∧ t 121 p ≤ 5) ∧ (0 ≤ t 122 p ∧ t 122 p ≤ 9) ∧ (0 ≤ t 123 p ∧ t 123 p ≤ 999) ∧ (0 ≤ t 124 p ∧ t 124 p ≤ 99) ∧ (0 ≤ t 125 p ∧ t 125 p ≤ 99) ∧ (t 126 p = 0 ∨ t 126 p = 1) ∧ (0 ≤ t 127 p ∧ t 127 p ≤ 999) ∧ (t 128 p = -9 ∨ (0 ≤ t 128 p ∧ t 128 p < t 120 0 ∧ t 128 p ≠ (p : Int))) := h.n.2.2.2.2.1 p hp
theorem REL.s {s t : Nat → Nat → Int} (h : REL s t) (p : Nat) (hp : (p : Int) < t 120 0) : s 4 p = t 121 p ∧ s 5 p = t 122 p ∧ s 6 p = t 123 p ∧ s 7 p = t 124 p ∧ s 8 p = t 125 p ∧ s 9 p = t 126 p ∧ s 10 p = t 127 p ∧ ((t 128 p = -9 ∧ s 11 p = -1) ∨ (0 ≤ t 128 p ∧ s 11 p = t 128 p)) := h.n.2.2.2.2.2 p hp
theorem REL.rg {s t : Nat → Nat → Int} (h : REL s t) (p : Nat) (hp : (p : Int) < t 120 0) : rgP (vw 4 s) p ∧ rgP (vw 121 t) p ∧ (0 ≤ s 6 p ∧ s 6 p ≤ 2000) ∧ (0 ≤ vw 121 t 2 p ∧ vw 121 t 2 p ≤ 2000) ∧ (0 ≤ vw 4 s 4 p ∧ vw 4 s 4 p ≤ 99) ∧ (0 ≤ vw 121 t 4 p ∧ vw 121 t 4 p ≤ 99) := by
  obtain ⟨t0, t1, t2, t3, t4, t5, t6, t7⟩ := h.t p hp
  obtain ⟨s0, s1, s2, s3, s4, s5, s6, s7⟩ := h.s p hp
  refine ⟨⟨?_, ?_⟩, ⟨?_, ?_⟩, ?_, ?_, ?_, ?_⟩
  · show 0 ≤ s 5 p ∧ s 5 p ≤ 9
    omega
  · show 0 ≤ s 7 p ∧ s 7 p ≤ 200
    omega
  · exact t1
  · show 0 ≤ t 124 p ∧ t 124 p ≤ 200
    omega
  · omega
  · show 0 ≤ t 123 p ∧ t 123 p ≤ 2000
    omega
  · show 0 ≤ s 8 p ∧ s 8 p ≤ 99
    omega
  · exact t4
theorem REL.bn {s t : Nat → Nat → Int} (h : REL s t) (p : Nat) (hp : (p : Int) < t 120 0) : bnV (vw 4 s) p = bnV (vw 121 t) p :=
  have hs := h.s p hp
  bnV_eq hs.1 hs.2.1 hs.2.2.2.1
theorem REL.ls {s t : Nat → Nat → Int} (h : REL s t) (p : Nat) (hp : (p : Int) < t 120 0) : lsV (vw 4 s) p = lsV (vw 121 t) p :=
  have hs := h.s p hp
  lsV_eq hs.1 hs.2.1 hs.2.2.2.1 hs.2.2.2.2.1
theorem REL.wl {s t : Nat → Nat → Int} (h : REL s t) (p : Nat) (hp : (p : Int) < t 120 0) : wlt (s 4 p) (s 5 p) (s 6 p) (s 7 p) = wlW (vw 121 t) p := by
  obtain ⟨s0, s1, s2, s3, _⟩ := h.s p hp
  rw [s0, s1, s2, s3]
  rfl
theorem REL.wr {s t : Nat → Nat → Int} (h : REL s t) (p : Nat) (hp : (p : Int) < t 120 0) : 0 ≤ wlW (vw 121 t) p ∧ wlW (vw 121 t) p ≤ 9999 :=
  have g := h.rg p hp
  wlt_rg g.2.1.1 g.2.2.2.1 g.2.1.2
theorem REL.lr {s t : Nat → Nat → Int} (h : REL s t) (p : Nat) (hp : (p : Int) < t 120 0) (c : Int) (hc : 0 ≤ c ∧ c ≤ 2000) : 0 ≤ lsV (vw 121 t) p c ∧ lsV (vw 121 t) p c ≤ 99 :=
  have g := h.rg p hp
  lsV_rg g.2.1 hc g.2.2.2.2.2
theorem REL.br {s t : Nat → Nat → Int} (h : REL s t) (p : Nat) (hp : (p : Int) < t 120 0) (c : Int) (hc : 0 ≤ c ∧ c ≤ 2000) : 1 ≤ bnV (vw 121 t) p c ∧ bnV (vw 121 t) p c ≤ 2001 :=
  have g := h.rg p hp
  bnV_rg g.2.1 hc
theorem REL.up {s t : Nat → Nat → Int} (h : REL s t) : REL s (upS t 120 10 0) :=
  ⟨h.1, refs_up h.2.1 rfl, relN_fr h.n rfl rfl (fun _ _ _ => rfl) rfl rfl (fun a h1 h2 => by funext z; exact upS_1 (by omega)), relI_fr h.i rfl rfl rfl (fun _ _ _ => rfl) rfl rfl, relH_fr h.h rfl rfl (fun _ _ _ => rfl) rfl rfl, relL_fr h.l rfl rfl rfl rfl, relR_fr h.r rfl rfl rfl rfl, relF_fr h.f rfl rfl⟩
theorem post_same {n : Nat} {s t : Nat → Nat → Int} {x y : Int} (h : REL s t) (e : x = y) : Post n [(1, x)] (n, s) [(1, y)] (n, upS t 120 10 0) := ⟨_, rfl, by rw [e], h.up, rfl, rfl⟩
theorem post_same0 {n : Nat} {s t : Nat → Nat → Int} {x y : Int} (h : REL s t) (e : x = y) : Post n [(1, x)] (n, s) [(1, y)] (n, t) := ⟨_, rfl, by rw [e], h, rfl, rfl⟩

theorem sb_X6_lasts_0 (n : Nat) (s : Nat → Nat → Int) (Q : List Vl → Sto → Prop) (a0 : Int) (hR : refs s)
    (h : (a0 < 0 → Q [(1, (-1))] (n, upS s 119 1 (wr ((s 119 1) + 1)))) ∧ (0 ≤ a0 → (s 3 9 ≤ a0 → Q [(1, (-1))] (n, upS s 119 1 (wr ((s 119 1) + 1)))) ∧ (a0 < s 3 9 → (0 ≤ a0 ∧ a0 < 6) ∧ ((rgP (vw 4 s) a0.toNat) ∧ ((0 ≤ s 6 a0.toNat ∧ s 6 a0.toNat ≤ 2000) ∧ ((0 ≤ vw 4 s 4 a0.toNat ∧ vw 4 s 4 a0.toNat ≤ 99) ∧ (Q [(1, lsV (vw 4 s) a0.toNat (s 6 a0.toNat))] (n, s)))))))) :
    G 2 120 101 0 [(3, 2), (1, a0), (0, 0)] [] (n, s) Q := by
  refine G_go rfl rfl ?_
  refine G_go rfl rfl ?_
  refine G_call rfl rfl ?_
  refine G_go rfl rfl ?_
  refine G_rf rfl rfl (by decide) (hR 2 0 3 rfl) ?_
  refine G_go rfl rfl ?_
  refine G_call rfl rfl ?_
  refine G_go rfl rfl ?_
  refine G_lt rfl rfl (fun c1 => ?_) (fun c1 => ?_)
  · have h := h.1 c1
    refine G_go rfl rfl ?_
    refine G_ret rfl rfl ?_
    refine G_brT rfl rfl rfl ?_
    refine G_go rfl rfl ?_
    refine G_ret rfl rfl ?_
    refine G_go rfl rfl ?_
    refine G_go rfl rfl ?_
    refine G_brF rfl rfl rfl ?_
    refine G_go rfl rfl ?_
    refine G_go rfl rfl ?_
    refine G_call rfl rfl ?_
    refine G_go rfl rfl ?_
    refine G_go rfl rfl ?_
    refine G_go rfl rfl ?_
    refine G_go rfl rfl ?_
    refine G_brF rfl rfl rfl ?_
    refine G_go rfl rfl ?_
    refine G_go rfl rfl ?_
    refine G_rf rfl rfl (by decide) (hR 2 7 119 rfl) ?_
    refine G_go rfl rfl ?_
    refine G_brF rfl rfl rfl ?_
    refine G_go rfl rfl ?_
    refine G_rf rfl rfl (by decide) (hR 2 7 119 rfl) ?_
    refine G_go rfl rfl ?_
    refine G_go rfl rfl ?_
    refine G_ir (n := 7) rfl rfl (by decide) (by decide) (by decide) ?_
    refine G_go rfl rfl ?_
    refine G_go rfl rfl ?_
    refine G_iw (n := 7) rfl rfl (by decide) (by decide) (by decide) ?_
    have hR := refs_up (a := 119) (k := 1) (x := wr ((s 119 1) + 1)) hR rfl
    refine G_go rfl rfl ?_
    refine G_ret rfl rfl ?_
    refine G_go rfl rfl ?_
    exact G_ret rfl rfl h
  · have h := h.2 c1
    refine G_go rfl rfl ?_
    refine G_go rfl rfl ?_
    refine G_rd rfl rfl (by decide) ?_
    refine G_ge rfl rfl (fun c2 => ?_) (fun c2 => ?_)
    · have h := h.1 c2
      refine G_go rfl rfl ?_
      refine G_ret rfl rfl ?_
      refine G_brT rfl rfl rfl ?_
      refine G_go rfl rfl ?_
      refine G_ret rfl rfl ?_
      refine G_go rfl rfl ?_
      refine G_go rfl rfl ?_
      refine G_brF rfl rfl rfl ?_
      refine G_go rfl rfl ?_
      refine G_go rfl rfl ?_
      refine G_call rfl rfl ?_
      refine G_go rfl rfl ?_
      refine G_go rfl rfl ?_
      refine G_go rfl rfl ?_
      refine G_go rfl rfl ?_
      refine G_brF rfl rfl rfl ?_
      refine G_go rfl rfl ?_
      refine G_go rfl rfl ?_
      refine G_rf rfl rfl (by decide) (hR 2 7 119 rfl) ?_
      refine G_go rfl rfl ?_
      refine G_brF rfl rfl rfl ?_
      refine G_go rfl rfl ?_
      refine G_rf rfl rfl (by decide) (hR 2 7 119 rfl) ?_
      refine G_go rfl rfl ?_
      refine G_go rfl rfl ?_
      refine G_ir (n := 7) rfl rfl (by decide) (by decide) (by decide) ?_
      refine G_go rfl rfl ?_
      refine G_go rfl rfl ?_
      refine G_iw (n := 7) rfl rfl (by decide) (by decide) (by decide) ?_
      have hR := refs_up (a := 119) (k := 1) (x := wr ((s 119 1) + 1)) hR rfl
      refine G_go rfl rfl ?_
      refine G_ret rfl rfl ?_
      refine G_go rfl rfl ?_
      exact G_ret rfl rfl h
    · have h := h.2 c2
      refine G_go rfl rfl ?_
      refine G_go rfl rfl ?_
      refine G_ret rfl rfl ?_
      refine G_brF rfl rfl rfl ?_
      refine G_go rfl rfl ?_
      refine G_go rfl rfl ?_
      refine G_ret rfl rfl ?_
      refine G_go rfl rfl ?_
      refine G_go rfl rfl ?_
      refine G_brT rfl rfl rfl ?_
      refine G_go rfl rfl ?_
      refine G_rf rfl rfl (by decide) (hR 2 0 3 rfl) ?_
      refine G_go rfl rfl ?_
      refine G_call rfl rfl ?_
      refine G_go rfl rfl ?_
      refine G_go rfl rfl ?_
      refine G_go rfl rfl ?_
      refine G_rf rfl rfl (by decide) (hR 3 2 6 rfl) ?_
      refine G_go rfl rfl ?_
      obtain ⟨g3, h⟩ := h
      refine G_ir (n := 6) rfl rfl (by decide) (by decide) g3 ?_
      refine G_call rfl rfl ?_
      obtain ⟨g4, h⟩ := h
      obtain ⟨g5, h⟩ := h
      obtain ⟨g6, h⟩ := h
      refine c_X5_lastsHolding_3 n _ _ a0 (s 6 a0.toNat) hR g3 g4 g5 g6 ?_
      refine G_ret rfl rfl ?_
      exact G_ret rfl rfl h
theorem sb_X7_lasts_0 (n : Nat) (s : Nat → Nat → Int) (Q : List Vl → Sto → Prop) (a0 : Int) (hR : refs s)
    (h : (a0 < 0 → Q [(1, (-1))] (n, upS (upS s 120 10 0) 129 1 (wr ((s 129 1) + 1)))) ∧ (a0 ≥ 0 → (a0 > wr ((s 120 0) - 1) → Q [(1, (-1))] (n, upS (upS s 120 10 0) 129 1 (wr ((s 129 1) + 1)))) ∧ (a0 ≤ wr ((s 120 0) - 1) → (0 ≤ a0 ∧ a0 < 6) ∧ ((rgP (vw 121 (upS s 120 10 0)) a0.toNat) ∧ ((0 ≤ vw 121 (upS s 120 10 0) 2 a0.toNat ∧ vw 121 (upS s 120 10 0) 2 a0.toNat ≤ 2000) ∧ ((0 ≤ vw 121 (upS s 120 10 0) 4 a0.toNat ∧ vw 121 (upS s 120 10 0) 4 a0.toNat ≤ 99) ∧ (Q [(1, lsW (vw 121 (upS s 120 10 0)) a0.toNat)] (n, upS s 120 10 0)))))))) :
    G 120 140 193 0 [(3, 120), (1, a0)] [] (n, s) Q := by
  refine G_go rfl rfl ?_
  refine G_go rfl rfl ?_
  refine G_wr rfl rfl (by decide) ?_
  have hR := refs_up (a := 120) (k := 10) (x := 0) hR rfl
  refine G_go rfl rfl ?_
  refine G_go rfl rfl ?_
  refine G_call rfl rfl ?_
  refine G_go rfl rfl ?_
  refine G_go rfl rfl ?_
  refine G_go rfl rfl ?_
  refine G_go rfl rfl ?_
  refine G_rd rfl rfl (by decide) ?_
  refine G_go rfl rfl ?_
  refine G_go rfl rfl ?_
  refine G_go rfl rfl ?_
  refine G_call rfl rfl ?_
  refine G_go rfl rfl ?_
  refine G_go rfl rfl ?_
  refine G_go rfl rfl ?_
  refine G_lt rfl rfl (fun c1 => ?_) (fun c1 => ?_)
  · have c1 := xl_lt c1
    have h := h.1 c1
    refine G_go rfl rfl ?_
    refine G_ret rfl rfl ?_
    refine G_ret rfl rfl ?_
    refine G_brT rfl rfl rfl ?_
    refine G_go rfl rfl ?_
    refine G_go rfl rfl ?_
    refine G_call rfl rfl ?_
    refine G_go rfl rfl ?_
    refine G_rf rfl rfl (by decide) (hR 120 11 129 rfl) ?_
    refine G_go rfl rfl ?_
    refine G_go rfl rfl ?_
    refine G_go rfl rfl ?_
    refine G_ir (n := 7) rfl rfl (by decide) (by decide) (by decide) ?_
    refine G_go rfl rfl ?_
    refine G_go rfl rfl ?_
    refine G_iw (n := 7) rfl rfl (by decide) (by decide) (by decide) ?_
    have hR := refs_up (a := 129) (k := 1) (x := wr ((s 129 1) + 1)) hR rfl
    refine G_go rfl rfl ?_
    refine G_ret rfl rfl ?_
    exact G_ret rfl rfl h
  · have c1 := xl_ge c1
    have h := h.2 c1
    refine G_go rfl rfl ?_
    refine G_go rfl rfl ?_
    refine G_go rfl rfl ?_
    refine G_gt rfl rfl (fun c2 => ?_) (fun c2 => ?_)
    · have c2 := xl_gt c2
      have h := h.1 c2
      refine G_go rfl rfl ?_
      refine G_ret rfl rfl ?_
      refine G_ret rfl rfl ?_
      refine G_brT rfl rfl rfl ?_
      refine G_go rfl rfl ?_
      refine G_go rfl rfl ?_
      refine G_call rfl rfl ?_
      refine G_go rfl rfl ?_
      refine G_rf rfl rfl (by decide) (hR 120 11 129 rfl) ?_
      refine G_go rfl rfl ?_
      refine G_go rfl rfl ?_
      refine G_go rfl rfl ?_
      refine G_ir (n := 7) rfl rfl (by decide) (by decide) (by decide) ?_
      refine G_go rfl rfl ?_
      refine G_go rfl rfl ?_
      refine G_iw (n := 7) rfl rfl (by decide) (by decide) (by decide) ?_
      have hR := refs_up (a := 129) (k := 1) (x := wr ((s 129 1) + 1)) hR rfl
      refine G_go rfl rfl ?_
      refine G_ret rfl rfl ?_
      exact G_ret rfl rfl h
    · have c2 := xl_le c2
      have h := h.2 c2
      refine G_go rfl rfl ?_
      refine G_go rfl rfl ?_
      refine G_ret rfl rfl ?_
      refine G_ret rfl rfl ?_
      refine G_brF rfl rfl rfl ?_
      refine G_go rfl rfl ?_
      refine G_go rfl rfl ?_
      refine G_call rfl rfl ?_
      obtain ⟨g3, h⟩ := h
      obtain ⟨g4, h⟩ := h
      obtain ⟨g5, h⟩ := h
      obtain ⟨g6, h⟩ := h
      refine c_X7_lastsOf n _ _ a0 hR g3 g4 g5 g6 ?_
      refine G_go rfl rfl ?_
      exact G_ret rfl rfl h
theorem op_lasts (n : Nat) (s t : Nat → Nat → Int) (h : REL s t) (a0 : Int) : G 2 120 101 0 [(3, 2), (1, a0), (0, 0)] [] (n, s) (fun r s1 => G 120 140 193 0 [(3, 120), (1, a0)] [] (n, t) (Post n r s1)) := by
  obtain ⟨hn1, hn2, hn3, hn4⟩ := h.np
  have hw : wr (t 120 0 - 1) = t 120 0 - 1 := wr_id (by omega) (by omega)
  have h1 : ∀ z : Int, 0 ≤ z → z < t 120 0 → ∃ p : Nat, z = p ∧ (p : Int) < t 120 0 := fun z h1 h2 => ⟨z.toNat, by omega, by omega⟩
  refine sb_X6_lasts_0 n s _ a0 h.1 ?_
  repeat' first | with_reducible refine And.intro ?_ ?_ | intro _
  all_goals first | omega | skip
  all_goals try (obtain ⟨p, rfl, hp⟩ := h1 a0 (by omega) (by omega); obtain ⟨g1, g2, g3, g4, g5, g6⟩ := h.rg p hp; simp only [Int.toNat_natCast] at *)
  all_goals first | omega | assumption | skip
  all_goals refine sb_X7_lasts_0 n t _ _ h.2.1 ?_
  all_goals repeat' first | with_reducible refine And.intro ?_ ?_ | intro _
  all_goals first | omega | exact post_ref h _ (by decide) | skip
  all_goals simp only [vw_120, Int.toNat_natCast]
  all_goals first | omega | assumption | skip
  refine post_same h ?_
  rw [h.ls p hp]
  exact congrArg _ (h.s p hp).2.2.1
theorem wr_in (x : Int) : -2147483648 ≤ wr x ∧ wr x < 2147483648 := by
  unfold wr
  have h1 := Int.le_bmod (x := x) (m := 4294967296) (by decide)
  have h2 := Int.bmod_lt (x := x) (m := 4294967296) (by decide)
  omega
theorem xor_in (x y : Int) : -2147483648 ≤ xor_ x y ∧ xor_ x y < 2147483648 := by
  unfold xor_ iB
  have h1 := Int32.le_toInt (Int32.ofInt x ||| Int32.ofInt y)
  have h2 := Int32.toInt_lt (Int32.ofInt x ||| Int32.ofInt y)
  exact ⟨by simpa using h1, by simpa using h2⟩
theorem xor_0 {x : Int} (h : -2147483648 ≤ x ∧ x < 2147483648) : xor_ x 0 = x := by
  unfold xor_ iB
  have e : Int32.ofInt x ||| Int32.ofInt 0 = Int32.ofInt x := by
    rw [show Int32.ofInt 0 = 0 from rfl]
    exact Int32.or_zero
  show (Int32.ofInt x ||| Int32.ofInt 0).toInt = x
  rw [e]
  exact ofInt_id h.1 h.2
theorem wr_0 {x : Int} (h : -2147483648 ≤ x ∧ x < 2147483648) : wr (x + 0) = x := by
  rw [Int.add_zero]
  exact wr_id h.1 h.2
def inI (_ : Nat) (b : Int) : Prop := -2147483648 ≤ b ∧ b < 2147483648

theorem sb_X6_above_0 (n : Nat) (s : Nat → Nat → Int) (Q : List Vl → Sto → Prop) (a0 : Int) (hR : refs s)
    (h : (0 ≤ a0 → (a0 ≤ 999 → G 2 120 60 24 [(3, 2), (1, a0), (1, 0), (1, 0), (1, 0)] [] (n, s) Q) ∧ (999 < a0 → Q [(1, (-6))] (n, upS s 119 6 (wr ((s 119 6) + 1))))) ∧ (a0 < 0 → Q [(1, (-4))] (n, upS s 119 4 (wr ((s 119 4) + 1))))) :
    G 2 120 60 0 [(3, 2), (1, a0), (0, 0), (0, 0), (0, 0)] [] (n, s) Q := by
  refine G_go rfl rfl ?_
  refine G_go rfl rfl ?_
  refine G_go rfl rfl ?_
  refine G_call rfl rfl ?_
  refine G_go rfl rfl ?_
  refine G_go rfl rfl ?_
  refine G_ge rfl rfl (fun c1 => ?_) (fun c1 => ?_)
  · have h := h.1 c1
    refine G_go rfl rfl ?_
    refine G_go rfl rfl ?_
    refine G_le rfl rfl (fun c2 => ?_) (fun c2 => ?_)
    · have h := h.1 c2
      refine G_go rfl rfl ?_
      refine G_ret rfl rfl ?_
      refine G_go rfl rfl ?_
      refine G_go rfl rfl ?_
      refine G_brT rfl rfl rfl ?_
      refine G_go rfl rfl ?_
      refine G_go rfl rfl ?_
      refine G_go rfl rfl ?_
      refine G_go rfl rfl ?_
      exact h
    · have h := h.2 c2
      refine G_go rfl rfl ?_
      refine G_go rfl rfl ?_
      refine G_ret rfl rfl ?_
      refine G_go rfl rfl ?_
      refine G_go rfl rfl ?_
      refine G_brF rfl rfl rfl ?_
      refine G_go rfl rfl ?_
      refine G_go rfl rfl ?_
      refine G_call rfl rfl ?_
      refine G_go rfl rfl ?_
      refine G_go rfl rfl ?_
      refine G_go rfl rfl ?_
      refine G_go rfl rfl ?_
      refine G_brF rfl rfl rfl ?_
      refine G_go rfl rfl ?_
      refine G_go rfl rfl ?_
      refine G_rf rfl rfl (by decide) (hR 2 7 119 rfl) ?_
      refine G_go rfl rfl ?_
      refine G_brF rfl rfl rfl ?_
      refine G_go rfl rfl ?_
      refine G_rf rfl rfl (by decide) (hR 2 7 119 rfl) ?_
      refine G_go rfl rfl ?_
      refine G_go rfl rfl ?_
      refine G_ir (n := 7) rfl rfl (by decide) (by decide) (by decide) ?_
      refine G_go rfl rfl ?_
      refine G_go rfl rfl ?_
      refine G_iw (n := 7) rfl rfl (by decide) (by decide) (by decide) ?_
      have hR := refs_up (a := 119) (k := 6) (x := wr ((s 119 6) + 1)) hR rfl
      refine G_go rfl rfl ?_
      refine G_ret rfl rfl ?_
      exact G_ret rfl rfl h
  · have h := h.2 c1
    refine G_go rfl rfl ?_
    refine G_ret rfl rfl ?_
    refine G_go rfl rfl ?_
    refine G_go rfl rfl ?_
    refine G_brF rfl rfl rfl ?_
    refine G_go rfl rfl ?_
    refine G_go rfl rfl ?_
    refine G_call rfl rfl ?_
    refine G_go rfl rfl ?_
    refine G_go rfl rfl ?_
    refine G_go rfl rfl ?_
    refine G_go rfl rfl ?_
    refine G_brF rfl rfl rfl ?_
    refine G_go rfl rfl ?_
    refine G_go rfl rfl ?_
    refine G_rf rfl rfl (by decide) (hR 2 7 119 rfl) ?_
    refine G_go rfl rfl ?_
    refine G_brF rfl rfl rfl ?_
    refine G_go rfl rfl ?_
    refine G_rf rfl rfl (by decide) (hR 2 7 119 rfl) ?_
    refine G_go rfl rfl ?_
    refine G_go rfl rfl ?_
    refine G_ir (n := 7) rfl rfl (by decide) (by decide) (by decide) ?_
    refine G_go rfl rfl ?_
    refine G_go rfl rfl ?_
    refine G_iw (n := 7) rfl rfl (by decide) (by decide) (by decide) ?_
    have hR := refs_up (a := 119) (k := 4) (x := wr ((s 119 4) + 1)) hR rfl
    refine G_go rfl rfl ?_
    refine G_ret rfl rfl ?_
    exact G_ret rfl rfl h
theorem sb_X6_above_24 (n : Nat) (s : Nat → Nat → Int) (Q : List Vl → Sto → Prop) (x1 : Int) (x2 : Int) (x3 : Int) (x4 : Int) (hR : refs s)
    (h : (s 3 9 ≤ x4 → Q [(1, x3)] (n, s)) ∧ (x4 < s 3 9 → (0 ≤ x4 ∧ x4 < 6) ∧ ((0 ≤ s 5 x4.toNat ∧ s 5 x4.toNat ≤ 9) ∧ ((0 ≤ s 6 x4.toNat ∧ s 6 x4.toNat ≤ 2000) ∧ ((0 ≤ s 7 x4.toNat ∧ s 7 x4.toNat ≤ 200) ∧ ((wlt (s 4 x4.toNat) (s 5 x4.toNat) (s 6 x4.toNat) (s 7 x4.toNat) < x1 → G 2 120 60 24 [(3, 2), (1, x1), (1, x2), (1, x3), (1, wr (x4 + 1))] [] (n, s) Q) ∧ (x1 ≤ wlt (s 4 x4.toNat) (s 5 x4.toNat) (s 6 x4.toNat) (s 7 x4.toNat) → G 2 120 60 24 [(3, 2), (1, x1), (1, x2), (1, wr (x3 + 1)), (1, wr (x4 + 1))] [] (n, s) Q))))))) :
    G 2 120 60 24 [(3, 2), (1, x1), (1, x2), (1, x3), (1, x4)] [] (n, s) Q := by
  refine G_go rfl rfl ?_
  refine G_go rfl rfl ?_
  refine G_rf rfl rfl (by decide) (hR 2 0 3 rfl) ?_
  refine G_rd rfl rfl (by decide) ?_
  refine G_ge rfl rfl (fun c1 => ?_) (fun c1 => ?_)
  · have h := h.1 c1
    refine G_go rfl rfl ?_
    exact G_ret rfl rfl h
  · have h := h.2 c1
    refine G_go rfl rfl ?_
    refine G_rf rfl rfl (by decide) (hR 2 0 3 rfl) ?_
    refine G_go rfl rfl ?_
    refine G_call rfl rfl ?_
    refine G_go rfl rfl ?_
    refine G_rf rfl rfl (by decide) (hR 3 0 4 rfl) ?_
    refine G_go rfl rfl ?_
    obtain ⟨g2, h⟩ := h
    refine G_ir (n := 6) rfl rfl (by decide) (by decide) g2 ?_
    refine G_go rfl rfl ?_
    refine G_rf rfl rfl (by decide) (hR 3 1 5 rfl) ?_
    refine G_go rfl rfl ?_
    refine G_ir (n := 6) rfl rfl (by decide) (by decide) g2 ?_
    refine G_go rfl rfl ?_
    refine G_rf rfl rfl (by decide) (hR 3 2 6 rfl) ?_
    refine G_go rfl rfl ?_
    refine G_ir (n := 6) rfl rfl (by decide) (by decide) g2 ?_
    refine G_go rfl rfl ?_
    refine G_rf rfl rfl (by decide) (hR 3 3 7 rfl) ?_
    refine G_go rfl rfl ?_
    refine G_ir (n := 6) rfl rfl (by decide) (by decide) g2 ?_
    refine G_call rfl rfl ?_
    obtain ⟨g3, h⟩ := h
    obtain ⟨g4, h⟩ := h
    obtain ⟨g5, h⟩ := h
    refine c_X1_wealth n _ _ (s 4 x4.toNat) (s 5 x4.toNat) (s 6 x4.toNat) (s 7 x4.toNat) hR g3 g4 g5 ?_
    refine G_ret rfl rfl ?_
    refine G_go rfl rfl ?_
    refine G_lt rfl rfl (fun c6 => ?_) (fun c6 => ?_)
    · have h := h.1 c6
      refine G_go rfl rfl ?_
      refine G_go rfl rfl ?_
      exact h
    · have h := h.2 c6
      refine G_go rfl rfl ?_
      refine G_go rfl rfl ?_
      refine G_go rfl rfl ?_
      exact h
theorem sb_X7_above_0 (n : Nat) (s : Nat → Nat → Int) (Q : List Vl → Sto → Prop) (a0 : Int) (hR : refs s)
    (h : (0 ≤ a0 → (a0 ≤ 999 → G 120 140 137 33 [(3, 120), (1, a0), (1, 0), (1, 0)] [] (n, upS s 120 10 0) Q) ∧ (999 < a0 → Q [(1, (-6))] (n, upS (upS s 120 10 0) 129 6 (wr ((s 129 6) + 1))))) ∧ (a0 < 0 → Q [(1, (-4))] (n, upS (upS s 120 10 0) 129 4 (wr ((s 129 4) + 1))))) :
    G 120 140 137 0 [(3, 120), (1, a0), (0, 0), (0, 0)] [] (n, s) Q := by
  refine G_go rfl rfl ?_
  refine G_go rfl rfl ?_
  refine G_wr rfl rfl (by decide) ?_
  have hR := refs_up (a := 120) (k := 10) (x := 0) hR rfl
  refine G_go rfl rfl ?_
  refine G_go rfl rfl ?_
  refine G_go rfl rfl ?_
  refine G_call rfl rfl ?_
  refine G_go rfl rfl ?_
  refine G_go rfl rfl ?_
  refine G_ge rfl rfl (fun c1 => ?_) (fun c1 => ?_)
  · have h := h.1 c1
    refine G_go rfl rfl ?_
    refine G_go rfl rfl ?_
    refine G_le rfl rfl (fun c2 => ?_) (fun c2 => ?_)
    · have h := h.1 c2
      refine G_go rfl rfl ?_
      refine G_ret rfl rfl ?_
      refine G_brT rfl rfl rfl ?_
      refine G_go rfl rfl ?_
      refine G_go rfl rfl ?_
      refine G_go rfl rfl ?_
      refine G_go rfl rfl ?_
      exact h
    · have h := h.2 c2
      refine G_go rfl rfl ?_
      refine G_go rfl rfl ?_
      refine G_ret rfl rfl ?_
      refine G_brF rfl rfl rfl ?_
      refine G_go rfl rfl ?_
      refine G_go rfl rfl ?_
      refine G_go rfl rfl ?_
      refine G_go rfl rfl ?_
      refine G_call rfl rfl ?_
      refine G_go rfl rfl ?_
      refine G_go rfl rfl ?_
      refine G_ge rfl rfl (fun _ => ?_) (fun hc => absurd (show a0 < 0 from hc) (by omega))
      refine G_go rfl rfl ?_
      refine G_go rfl rfl ?_
      refine G_le rfl rfl (fun hc => absurd (show a0 ≤ 999 from hc) (by omega)) (fun _ => ?_)
      refine G_go rfl rfl ?_
      refine G_go rfl rfl ?_
      refine G_ret rfl rfl ?_
      refine G_call rfl rfl ?_
      refine G_go rfl rfl ?_
      refine G_rf rfl rfl (by decide) (hR 120 11 129 rfl) ?_
      refine G_go rfl rfl ?_
      refine G_go rfl rfl ?_
      refine G_go rfl rfl ?_
      refine G_ir (n := 7) rfl rfl (by decide) (by decide) (by decide) ?_
      refine G_go rfl rfl ?_
      refine G_go rfl rfl ?_
      refine G_iw (n := 7) rfl rfl (by decide) (by decide) (by decide) ?_
      have hR := refs_up (a := 129) (k := 6) (x := wr ((s 129 6) + 1)) hR rfl
      refine G_go rfl rfl ?_
      refine G_ret rfl rfl ?_
      exact G_ret rfl rfl h
  · have h := h.2 c1
    refine G_go rfl rfl ?_
    refine G_go rfl rfl ?_
    refine G_ret rfl rfl ?_
    refine G_brF rfl rfl rfl ?_
    refine G_go rfl rfl ?_
    refine G_go rfl rfl ?_
    refine G_go rfl rfl ?_
    refine G_go rfl rfl ?_
    refine G_call rfl rfl ?_
    refine G_go rfl rfl ?_
    refine G_go rfl rfl ?_
    refine G_ge rfl rfl (fun hc => absurd (show 0 ≤ a0 from hc) (by omega)) (fun _ => ?_)
    refine G_go rfl rfl ?_
    refine G_go rfl rfl ?_
    refine G_ret rfl rfl ?_
    refine G_call rfl rfl ?_
    refine G_go rfl rfl ?_
    refine G_rf rfl rfl (by decide) (hR 120 11 129 rfl) ?_
    refine G_go rfl rfl ?_
    refine G_go rfl rfl ?_
    refine G_go rfl rfl ?_
    refine G_ir (n := 7) rfl rfl (by decide) (by decide) (by decide) ?_
    refine G_go rfl rfl ?_
    refine G_go rfl rfl ?_
    refine G_iw (n := 7) rfl rfl (by decide) (by decide) (by decide) ?_
    have hR := refs_up (a := 129) (k := 4) (x := wr ((s 129 4) + 1)) hR rfl
    refine G_go rfl rfl ?_
    refine G_ret rfl rfl ?_
    exact G_ret rfl rfl h
theorem sb_X7_above_33 (n : Nat) (s : Nat → Nat → Int) (Q : List Vl → Sto → Prop) (x1 : Int) (x2 : Int) (x3 : Int) (hR : refs s)
    (h : (s 120 0 ≤ x3 → Q [(1, x2)] (n, s)) ∧ (x3 < s 120 0 → (0 ≤ x3 ∧ x3 < 6) ∧ ((rgP (vw 121 s) x3.toNat) ∧ ((0 ≤ vw 121 s 2 x3.toNat ∧ vw 121 s 2 x3.toNat ≤ 2000) ∧ ((wlW (vw 121 s) x3.toNat < x1 → G 120 140 137 33 [(3, 120), (1, x1), (1, wr (x2 + 0)), (1, wr (x3 + 1))] [] (n, s) Q) ∧ (x1 ≤ wlW (vw 121 s) x3.toNat → G 120 140 137 33 [(3, 120), (1, x1), (1, wr (x2 + 1)), (1, wr (x3 + 1))] [] (n, s) Q)))))) :
    G 120 140 137 33 [(3, 120), (1, x1), (1, x2), (1, x3)] [] (n, s) Q := by
  refine G_go rfl rfl ?_
  refine G_go rfl rfl ?_
  refine G_rd rfl rfl (by decide) ?_
  refine G_ge rfl rfl (fun c1 => ?_) (fun c1 => ?_)
  · have h := h.1 c1
    refine G_go rfl rfl ?_
    exact G_ret rfl rfl h
  · have h := h.2 c1
    refine G_go rfl rfl ?_
    refine G_go rfl rfl ?_
    refine G_go rfl rfl ?_
    refine G_call rfl rfl ?_
    obtain ⟨g2, h⟩ := h
    obtain ⟨g3, h⟩ := h
    obtain ⟨g4, h⟩ := h
    refine c_X7_wealthOf n _ _ x3 hR g2 g3 g4 ?_
    refine G_go rfl rfl ?_
    refine G_lt rfl rfl (fun c5 => ?_) (fun c5 => ?_)
    · have h := h.1 c5
      refine G_go rfl rfl ?_
      refine G_go rfl rfl ?_
      refine G_go rfl rfl ?_
      refine G_go rfl rfl ?_
      refine G_go rfl rfl ?_
      exact h
    · have h := h.2 c5
      refine G_go rfl rfl ?_
      refine G_go rfl rfl ?_
      refine G_go rfl rfl ?_
      refine G_go rfl rfl ?_
      refine G_go rfl rfl ?_
      refine G_go rfl rfl ?_
      exact h
theorem sb_X6_trusted_0 (n : Nat) (s : Nat → Nat → Int) (Q : List Vl → Sto → Prop) (a0 : Int) (hR : refs s)
    (h : (a0 < 0 → Q [(1, (-1))] (n, upS s 119 1 (wr ((s 119 1) + 1)))) ∧ (0 ≤ a0 → (s 3 9 ≤ a0 → Q [(1, (-1))] (n, upS s 119 1 (wr ((s 119 1) + 1)))) ∧ (a0 < s 3 9 → G 2 120 129 21 [(3, 2), (1, a0), (1, 0), (1, 0), (1, 0)] [] (n, s) Q))) :
    G 2 120 129 0 [(3, 2), (1, a0), (0, 0), (0, 0), (0, 0)] [] (n, s) Q := by
  refine G_go rfl rfl ?_
  refine G_go rfl rfl ?_
  refine G_call rfl rfl ?_
  refine G_go rfl rfl ?_
  refine G_rf rfl rfl (by decide) (hR 2 0 3 rfl) ?_
  refine G_go rfl rfl ?_
  refine G_call rfl rfl ?_
  refine G_go rfl rfl ?_
  refine G_lt rfl rfl (fun c1 => ?_) (fun c1 => ?_)
  · have h := h.1 c1
    refine G_go rfl rfl ?_
    refine G_ret rfl rfl ?_
    refine G_brT rfl rfl rfl ?_
    refine G_go rfl rfl ?_
    refine G_ret rfl rfl ?_
    refine G_go rfl rfl ?_
    refine G_go rfl rfl ?_
    refine G_brF rfl rfl rfl ?_
    refine G_go rfl rfl ?_
    refine G_go rfl rfl ?_
    refine G_call rfl rfl ?_
    refine G_go rfl rfl ?_
    refine G_go rfl rfl ?_
    refine G_go rfl rfl ?_
    refine G_go rfl rfl ?_
    refine G_brF rfl rfl rfl ?_
    refine G_go rfl rfl ?_
    refine G_go rfl rfl ?_
    refine G_rf rfl rfl (by decide) (hR 2 7 119 rfl) ?_
    refine G_go rfl rfl ?_
    refine G_brF rfl rfl rfl ?_
    refine G_go rfl rfl ?_
    refine G_rf rfl rfl (by decide) (hR 2 7 119 rfl) ?_
    refine G_go rfl rfl ?_
    refine G_go rfl rfl ?_
    refine G_ir (n := 7) rfl rfl (by decide) (by decide) (by decide) ?_
    refine G_go rfl rfl ?_
    refine G_go rfl rfl ?_
    refine G_iw (n := 7) rfl rfl (by decide) (by decide) (by decide) ?_
    have hR := refs_up (a := 119) (k := 1) (x := wr ((s 119 1) + 1)) hR rfl
    refine G_go rfl rfl ?_
    refine G_ret rfl rfl ?_
    exact G_ret rfl rfl h
  · have h := h.2 c1
    refine G_go rfl rfl ?_
    refine G_go rfl rfl ?_
    refine G_rd rfl rfl (by decide) ?_
    refine G_ge rfl rfl (fun c2 => ?_) (fun c2 => ?_)
    · have h := h.1 c2
      refine G_go rfl rfl ?_
      refine G_ret rfl rfl ?_
      refine G_brT rfl rfl rfl ?_
      refine G_go rfl rfl ?_
      refine G_ret rfl rfl ?_
      refine G_go rfl rfl ?_
      refine G_go rfl rfl ?_
      refine G_brF rfl rfl rfl ?_
      refine G_go rfl rfl ?_
      refine G_go rfl rfl ?_
      refine G_call rfl rfl ?_
      refine G_go rfl rfl ?_
      refine G_go rfl rfl ?_
      refine G_go rfl rfl ?_
      refine G_go rfl rfl ?_
      refine G_brF rfl rfl rfl ?_
      refine G_go rfl rfl ?_
      refine G_go rfl rfl ?_
      refine G_rf rfl rfl (by decide) (hR 2 7 119 rfl) ?_
      refine G_go rfl rfl ?_
      refine G_brF rfl rfl rfl ?_
      refine G_go rfl rfl ?_
      refine G_rf rfl rfl (by decide) (hR 2 7 119 rfl) ?_
      refine G_go rfl rfl ?_
      refine G_go rfl rfl ?_
      refine G_ir (n := 7) rfl rfl (by decide) (by decide) (by decide) ?_
      refine G_go rfl rfl ?_
      refine G_go rfl rfl ?_
      refine G_iw (n := 7) rfl rfl (by decide) (by decide) (by decide) ?_
      have hR := refs_up (a := 119) (k := 1) (x := wr ((s 119 1) + 1)) hR rfl
      refine G_go rfl rfl ?_
      refine G_ret rfl rfl ?_
      exact G_ret rfl rfl h
    · have h := h.2 c2
      refine G_go rfl rfl ?_
      refine G_go rfl rfl ?_
      refine G_ret rfl rfl ?_
      refine G_brF rfl rfl rfl ?_
      refine G_go rfl rfl ?_
      refine G_go rfl rfl ?_
      refine G_ret rfl rfl ?_
      refine G_go rfl rfl ?_
      refine G_go rfl rfl ?_
      refine G_brT rfl rfl rfl ?_
      refine G_go rfl rfl ?_
      refine G_go rfl rfl ?_
      refine G_go rfl rfl ?_
      refine G_go rfl rfl ?_
      exact h
theorem sb_X6_trusted_21 (n : Nat) (s : Nat → Nat → Int) (Q : List Vl → Sto → Prop) (x1 : Int) (x2 : Int) (x3 : Int) (x4 : Int) (hR : refs s)
    (h : (s 3 9 ≤ x4 → Q [(1, x3)] (n, s)) ∧ (x4 < s 3 9 → (0 ≤ x4 ∧ x4 < 6) ∧ ((s 11 x4.toNat ≠ x1 → G 2 120 129 21 [(3, 2), (1, x1), (1, x2), (1, x3), (1, wr (x4 + 1))] [] (n, s) Q) ∧ (s 11 x4.toNat = x1 → G 2 120 129 21 [(3, 2), (1, x1), (1, x2), (1, wr (x3 + 1)), (1, wr (x4 + 1))] [] (n, s) Q)))) :
    G 2 120 129 21 [(3, 2), (1, x1), (1, x2), (1, x3), (1, x4)] [] (n, s) Q := by
  refine G_go rfl rfl ?_
  refine G_go rfl rfl ?_
  refine G_rf rfl rfl (by decide) (hR 2 0 3 rfl) ?_
  refine G_rd rfl rfl (by decide) ?_
  refine G_ge rfl rfl (fun c1 => ?_) (fun c1 => ?_)
  · have h := h.1 c1
    refine G_go rfl rfl ?_
    exact G_ret rfl rfl h
  · have h := h.2 c1
    refine G_go rfl rfl ?_
    refine G_rf rfl rfl (by decide) (hR 2 0 3 rfl) ?_
    refine G_rf rfl rfl (by decide) (hR 3 7 11 rfl) ?_
    refine G_go rfl rfl ?_
    obtain ⟨g2, h⟩ := h
    refine G_ir (n := 6) rfl rfl (by decide) (by decide) g2 ?_
    refine G_go rfl rfl ?_
    refine G_ne rfl rfl (fun c3 => ?_) (fun c3 => ?_)
    · have h := h.1 c3
      refine G_go rfl rfl ?_
      refine G_go rfl rfl ?_
      exact h
    · have h := h.2 c3
      refine G_go rfl rfl ?_
      refine G_go rfl rfl ?_
      refine G_go rfl rfl ?_
      exact h
theorem sb_X7_trusted_0 (n : Nat) (s : Nat → Nat → Int) (Q : List Vl → Sto → Prop) (a0 : Int) (hR : refs s)
    (h : (a0 < 0 → Q [(1, (-1))] (n, upS (upS s 120 10 0) 129 1 (wr ((s 129 1) + 1)))) ∧ (a0 ≥ 0 → (a0 > wr ((s 120 0) - 1) → Q [(1, (-1))] (n, upS (upS s 120 10 0) 129 1 (wr ((s 129 1) + 1)))) ∧ (a0 ≤ wr ((s 120 0) - 1) → G 120 140 220 23 [(3, 120), (1, a0), (1, 0), (1, 0)] [] (n, upS s 120 10 0) Q))) :
    G 120 140 220 0 [(3, 120), (1, a0), (0, 0), (0, 0)] [] (n, s) Q := by
  refine G_go rfl rfl ?_
  refine G_go rfl rfl ?_
  refine G_wr rfl rfl (by decide) ?_
  have hR := refs_up (a := 120) (k := 10) (x := 0) hR rfl
  refine G_go rfl rfl ?_
  refine G_go rfl rfl ?_
  refine G_call rfl rfl ?_
  refine G_go rfl rfl ?_
  refine G_go rfl rfl ?_
  refine G_go rfl rfl ?_
  refine G_go rfl rfl ?_
  refine G_rd rfl rfl (by decide) ?_
  refine G_go rfl rfl ?_
  refine G_go rfl rfl ?_
  refine G_go rfl rfl ?_
  refine G_call rfl rfl ?_
  refine G_go rfl rfl ?_
  refine G_go rfl rfl ?_
  refine G_go rfl rfl ?_
  refine G_lt rfl rfl (fun c1 => ?_) (fun c1 => ?_)
  · have c1 := xl_lt c1
    have h := h.1 c1
    refine G_go rfl rfl ?_
    refine G_ret rfl rfl ?_
    refine G_ret rfl rfl ?_
    refine G_brF rfl rfl rfl ?_
    refine G_go rfl rfl ?_
    refine G_go rfl rfl ?_
    refine G_call rfl rfl ?_
    refine G_go rfl rfl ?_
    refine G_rf rfl rfl (by decide) (hR 120 11 129 rfl) ?_
    refine G_go rfl rfl ?_
    refine G_go rfl rfl ?_
    refine G_go rfl rfl ?_
    refine G_ir (n := 7) rfl rfl (by decide) (by decide) (by decide) ?_
    refine G_go rfl rfl ?_
    refine G_go rfl rfl ?_
    refine G_iw (n := 7) rfl rfl (by decide) (by decide) (by decide) ?_
    have hR := refs_up (a := 129) (k := 1) (x := wr ((s 129 1) + 1)) hR rfl
    refine G_go rfl rfl ?_
    refine G_ret rfl rfl ?_
    exact G_ret rfl rfl h
  · have c1 := xl_ge c1
    have h := h.2 c1
    refine G_go rfl rfl ?_
    refine G_go rfl rfl ?_
    refine G_go rfl rfl ?_
    refine G_gt rfl rfl (fun c2 => ?_) (fun c2 => ?_)
    · have c2 := xl_gt c2
      have h := h.1 c2
      refine G_go rfl rfl ?_
      refine G_ret rfl rfl ?_
      refine G_ret rfl rfl ?_
      refine G_brF rfl rfl rfl ?_
      refine G_go rfl rfl ?_
      refine G_go rfl rfl ?_
      refine G_call rfl rfl ?_
      refine G_go rfl rfl ?_
      refine G_rf rfl rfl (by decide) (hR 120 11 129 rfl) ?_
      refine G_go rfl rfl ?_
      refine G_go rfl rfl ?_
      refine G_go rfl rfl ?_
      refine G_ir (n := 7) rfl rfl (by decide) (by decide) (by decide) ?_
      refine G_go rfl rfl ?_
      refine G_go rfl rfl ?_
      refine G_iw (n := 7) rfl rfl (by decide) (by decide) (by decide) ?_
      have hR := refs_up (a := 129) (k := 1) (x := wr ((s 129 1) + 1)) hR rfl
      refine G_go rfl rfl ?_
      refine G_ret rfl rfl ?_
      exact G_ret rfl rfl h
    · have c2 := xl_le c2
      have h := h.2 c2
      refine G_go rfl rfl ?_
      refine G_go rfl rfl ?_
      refine G_ret rfl rfl ?_
      refine G_ret rfl rfl ?_
      refine G_brT rfl rfl rfl ?_
      refine G_go rfl rfl ?_
      refine G_go rfl rfl ?_
      refine G_go rfl rfl ?_
      refine G_go rfl rfl ?_
      exact h
theorem sb_X7_trusted_23 (n : Nat) (s : Nat → Nat → Int) (Q : List Vl → Sto → Prop) (x1 : Int) (x2 : Int) (x3 : Int) (hR : refs s)
    (h : (s 120 0 ≤ x3 → Q [(1, x2)] (n, s)) ∧ (x3 < s 120 0 → (0 ≤ x3 ∧ x3 < 6) ∧ ((s 128 x3.toNat ≠ x1 → G 120 140 220 23 [(3, 120), (1, x1), (1, wr (x2 + 0)), (1, wr (x3 + 1))] [] (n, s) Q) ∧ (s 128 x3.toNat = x1 → G 120 140 220 23 [(3, 120), (1, x1), (1, wr (x2 + 1)), (1, wr (x3 + 1))] [] (n, s) Q)))) :
    G 120 140 220 23 [(3, 120), (1, x1), (1, x2), (1, x3)] [] (n, s) Q := by
  refine G_go rfl rfl ?_
  refine G_go rfl rfl ?_
  refine G_rd rfl rfl (by decide) ?_
  refine G_ge rfl rfl (fun c1 => ?_) (fun c1 => ?_)
  · have h := h.1 c1
    refine G_go rfl rfl ?_
    exact G_ret rfl rfl h
  · have h := h.2 c1
    refine G_go rfl rfl ?_
    refine G_go rfl rfl ?_
    refine G_rf rfl rfl (by decide) (hR 120 8 128 rfl) ?_
    refine G_go rfl rfl ?_
    obtain ⟨g2, h⟩ := h
    refine G_ir (n := 6) rfl rfl (by decide) (by decide) g2 ?_
    refine G_go rfl rfl ?_
    refine G_ne rfl rfl (fun c3 => ?_) (fun c3 => ?_)
    · have h := h.1 c3
      refine G_go rfl rfl ?_
      refine G_go rfl rfl ?_
      refine G_go rfl rfl ?_
      refine G_go rfl rfl ?_
      refine G_go rfl rfl ?_
      exact h
    · have h := h.2 c3
      refine G_go rfl rfl ?_
      refine G_go rfl rfl ?_
      refine G_go rfl rfl ?_
      refine G_go rfl rfl ?_
      refine G_go rfl rfl ?_
      refine G_go rfl rfl ?_
      exact h
theorem sb_X6_unlit_0 (n : Nat) (s : Nat → Nat → Int) (Q : List Vl → Sto → Prop) (hR : refs s)
    (h : G 2 120 131 4 [(3, 2), (1, 0), (1, 0)] [] (n, s) Q) :
    G 2 120 131 0 [(3, 2), (0, 0), (0, 0)] [] (n, s) Q := by
  refine G_go rfl rfl ?_
  refine G_go rfl rfl ?_
  refine G_go rfl rfl ?_
  refine G_go rfl rfl ?_
  exact h
theorem sb_X6_unlit_4 (n : Nat) (s : Nat → Nat → Int) (Q : List Vl → Sto → Prop) (x1 : Int) (x2 : Int) (hR : refs s)
    (h : (s 3 9 ≤ x2 → Q [(1, x1)] (n, s)) ∧ (x2 < s 3 9 → (0 ≤ x2 ∧ x2 < 6) ∧ ((s 8 x2.toNat ≤ 0 → G 2 120 131 4 [(3, 2), (1, x1), (1, wr (x2 + 1))] [] (n, s) Q) ∧ (0 < s 8 x2.toNat → (s 9 x2.toNat ≠ 0 → G 2 120 131 4 [(3, 2), (1, x1), (1, wr (x2 + 1))] [] (n, s) Q) ∧ (s 9 x2.toNat = 0 → G 2 120 131 4 [(3, 2), (1, xor_ x1 (xshl 1 x2)), (1, wr (x2 + 1))] [] (n, s) Q))))) :
    G 2 120 131 4 [(3, 2), (1, x1), (1, x2)] [] (n, s) Q := by
  refine G_go rfl rfl ?_
  refine G_go rfl rfl ?_
  refine G_rf rfl rfl (by decide) (hR 2 0 3 rfl) ?_
  refine G_rd rfl rfl (by decide) ?_
  refine G_ge rfl rfl (fun c1 => ?_) (fun c1 => ?_)
  · have h := h.1 c1
    refine G_go rfl rfl ?_
    exact G_ret rfl rfl h
  · have h := h.2 c1
    refine G_go rfl rfl ?_
    refine G_rf rfl rfl (by decide) (hR 2 0 3 rfl) ?_
    refine G_rf rfl rfl (by decide) (hR 3 4 8 rfl) ?_
    refine G_go rfl rfl ?_
    obtain ⟨g2, h⟩ := h
    refine G_ir (n := 6) rfl rfl (by decide) (by decide) g2 ?_
    refine G_le rfl rfl (fun c3 => ?_) (fun c3 => ?_)
    · have h := h.1 c3
      refine G_go rfl rfl ?_
      refine G_go rfl rfl ?_
      exact h
    · have h := h.2 c3
      refine G_go rfl rfl ?_
      refine G_rf rfl rfl (by decide) (hR 2 0 3 rfl) ?_
      refine G_rf rfl rfl (by decide) (hR 3 5 9 rfl) ?_
      refine G_go rfl rfl ?_
      refine G_zr (n := 6) rfl rfl (by decide) (by decide) g2 ?_
      refine G_ne rfl rfl (fun c4 => ?_) (fun c4 => ?_)
      · have h := h.1 c4
        refine G_go rfl rfl ?_
        refine G_go rfl rfl ?_
        exact h
      · have h := h.2 c4
        refine G_go rfl rfl ?_
        refine G_go rfl rfl ?_
        refine G_go rfl rfl ?_
        refine G_go rfl rfl ?_
        refine G_go rfl rfl ?_
        refine G_go rfl rfl ?_
        refine G_go rfl rfl ?_
        refine G_go rfl rfl ?_
        exact h
theorem sb_X7_unlit_0 (n : Nat) (s : Nat → Nat → Int) (Q : List Vl → Sto → Prop) (hR : refs s)
    (h : G 120 140 222 9 [(3, 120), (1, 0), (1, 0)] [] (n, upS s 120 10 0) Q) :
    G 120 140 222 0 [(3, 120), (0, 0), (0, 0)] [] (n, s) Q := by
  refine G_go rfl rfl ?_
  refine G_go rfl rfl ?_
  refine G_wr rfl rfl (by decide) ?_
  have hR := refs_up (a := 120) (k := 10) (x := 0) hR rfl
  refine G_go rfl rfl ?_
  refine G_go rfl rfl ?_
  refine G_go rfl rfl ?_
  refine G_go rfl rfl ?_
  exact h
theorem sb_X7_unlit_9 (n : Nat) (s : Nat → Nat → Int) (Q : List Vl → Sto → Prop) (x1 : Int) (x2 : Int) (hR : refs s)
    (h : (s 120 0 ≤ x2 → Q [(1, x1)] (n, s)) ∧ (x2 < s 120 0 → (0 ≤ x2 ∧ x2 < 6) ∧ ((s 125 x2.toNat ≤ 0 → G 120 140 222 9 [(3, 120), (1, xor_ x1 0), (1, wr (x2 + 1))] [] (n, s) Q) ∧ (0 < s 125 x2.toNat → (s 126 x2.toNat ≠ 0 → G 120 140 222 9 [(3, 120), (1, xor_ x1 0), (1, wr (x2 + 1))] [] (n, s) Q) ∧ (s 126 x2.toNat = 0 → G 120 140 222 9 [(3, 120), (1, xor_ x1 (xshl 1 x2)), (1, wr (x2 + 1))] [] (n, s) Q))))) :
    G 120 140 222 9 [(3, 120), (1, x1), (1, x2)] [] (n, s) Q := by
  refine G_go rfl rfl ?_
  refine G_go rfl rfl ?_
  refine G_rd rfl rfl (by decide) ?_
  refine G_ge rfl rfl (fun c1 => ?_) (fun c1 => ?_)
  · have h := h.1 c1
    refine G_go rfl rfl ?_
    exact G_ret rfl rfl h
  · have h := h.2 c1
    refine G_go rfl rfl ?_
    refine G_go rfl rfl ?_
    refine G_rf rfl rfl (by decide) (hR 120 5 125 rfl) ?_
    refine G_go rfl rfl ?_
    obtain ⟨g2, h⟩ := h
    refine G_ir (n := 6) rfl rfl (by decide) (by decide) g2 ?_
    refine G_le rfl rfl (fun c3 => ?_) (fun c3 => ?_)
    · have h := h.1 c3
      refine G_go rfl rfl ?_
      refine G_go rfl rfl ?_
      refine G_go rfl rfl ?_
      refine G_go rfl rfl ?_
      refine G_go rfl rfl ?_
      exact h
    · have h := h.2 c3
      refine G_go rfl rfl ?_
      refine G_rf rfl rfl (by decide) (hR 120 6 126 rfl) ?_
      refine G_go rfl rfl ?_
      refine G_ir (n := 6) rfl rfl (by decide) (by decide) g2 ?_
      refine G_ne rfl rfl (fun c4 => ?_) (fun c4 => ?_)
      · have h := h.1 c4
        refine G_go rfl rfl ?_
        refine G_go rfl rfl ?_
        refine G_go rfl rfl ?_
        refine G_go rfl rfl ?_
        refine G_go rfl rfl ?_
        exact h
      · have h := h.2 c4
        refine G_go rfl rfl ?_
        refine G_go rfl rfl ?_
        refine G_go rfl rfl ?_
        refine G_go rfl rfl ?_
        refine G_go rfl rfl ?_
        refine G_go rfl rfl ?_
        refine G_go rfl rfl ?_
        refine G_go rfl rfl ?_
        exact h
theorem sb_X6_apart_0 (n : Nat) (s : Nat → Nat → Int) (Q : List Vl → Sto → Prop) (hR : refs s)
    (h : (s 3 9 ≠ 0 → (0 ≤ s 5 0 ∧ s 5 0 ≤ 9) ∧ ((0 ≤ s 6 0 ∧ s 6 0 ≤ 2000) ∧ ((0 ≤ s 7 0 ∧ s 7 0 ≤ 200) ∧ (G 2 120 64 25 [(3, 2), (1, wlt (s 4 0) (s 5 0) (s 6 0) (s 7 0)), (1, wlt (s 4 0) (s 5 0) (s 6 0) (s 7 0)), (1, 1)] [] (n, s) Q)))) ∧ (s 3 9 = 0 → Q [(1, 0)] (n, s))) :
    G 2 120 64 0 [(3, 2), (0, 0), (0, 0), (0, 0)] [] (n, s) Q := by
  refine G_go rfl rfl ?_
  refine G_rf rfl rfl (by decide) (hR 2 0 3 rfl) ?_
  refine G_rd rfl rfl (by decide) ?_
  refine G_ne rfl rfl (fun c1 => ?_) (fun c1 => ?_)
  · have h := h.1 c1
    refine G_go rfl rfl ?_
    refine G_rf rfl rfl (by decide) (hR 2 0 3 rfl) ?_
    refine G_go rfl rfl ?_
    refine G_call rfl rfl ?_
    refine G_go rfl rfl ?_
    refine G_rf rfl rfl (by decide) (hR 3 0 4 rfl) ?_
    refine G_go rfl rfl ?_
    refine G_ir (n := 6) rfl rfl (by decide) (by decide) (by decide) ?_
    refine G_go rfl rfl ?_
    refine G_rf rfl rfl (by decide) (hR 3 1 5 rfl) ?_
    refine G_go rfl rfl ?_
    refine G_ir (n := 6) rfl rfl (by decide) (by decide) (by decide) ?_
    refine G_go rfl rfl ?_
    refine G_rf rfl rfl (by decide) (hR 3 2 6 rfl) ?_
    refine G_go rfl rfl ?_
    refine G_ir (n := 6) rfl rfl (by decide) (by decide) (by decide) ?_
    refine G_go rfl rfl ?_
    refine G_rf rfl rfl (by decide) (hR 3 3 7 rfl) ?_
    refine G_go rfl rfl ?_
    refine G_ir (n := 6) rfl rfl (by decide) (by decide) (by decide) ?_
    refine G_call rfl rfl ?_
    obtain ⟨g2, h⟩ := h
    obtain ⟨g3, h⟩ := h
    obtain ⟨g4, h⟩ := h
    refine c_X1_wealth n _ _ (s 4 0) (s 5 0) (s 6 0) (s 7 0) hR g2 g3 g4 ?_
    refine G_ret rfl rfl ?_
    refine G_go rfl rfl ?_
    refine G_go rfl rfl ?_
    refine G_go rfl rfl ?_
    refine G_go rfl rfl ?_
    refine G_go rfl rfl ?_
    exact h
  · have h := h.2 c1
    refine G_go rfl rfl ?_
    exact G_ret rfl rfl h
theorem sb_X6_apart_25 (n : Nat) (s : Nat → Nat → Int) (Q : List Vl → Sto → Prop) (x1 : Int) (x2 : Int) (x3 : Int) (hR : refs s)
    (h : (s 3 9 ≤ x3 → Q [(1, wr (x1 - x2))] (n, s)) ∧ (x3 < s 3 9 → (0 ≤ x3 ∧ x3 < 6) ∧ ((0 ≤ s 5 x3.toNat ∧ s 5 x3.toNat ≤ 9) ∧ ((0 ≤ s 6 x3.toNat ∧ s 6 x3.toNat ≤ 2000) ∧ ((0 ≤ s 7 x3.toNat ∧ s 7 x3.toNat ≤ 200) ∧ (G 2 120 64 25 [(3, 2), (1, max x1 (wlt (s 4 x3.toNat) (s 5 x3.toNat) (s 6 x3.toNat) (s 7 x3.toNat))), (1, min x2 (wlt (s 4 x3.toNat) (s 5 x3.toNat) (s 6 x3.toNat) (s 7 x3.toNat))), (1, wr (x3 + 1))] [] (n, s) Q)))))) :
    G 2 120 64 25 [(3, 2), (1, x1), (1, x2), (1, x3)] [] (n, s) Q := by
  refine G_go rfl rfl ?_
  refine G_go rfl rfl ?_
  refine G_rf rfl rfl (by decide) (hR 2 0 3 rfl) ?_
  refine G_rd rfl rfl (by decide) ?_
  refine G_ge rfl rfl (fun c1 => ?_) (fun c1 => ?_)
  · have h := h.1 c1
    refine G_go rfl rfl ?_
    refine G_go rfl rfl ?_
    refine G_go rfl rfl ?_
    exact G_ret rfl rfl h
  · have h := h.2 c1
    refine G_go rfl rfl ?_
    refine G_go rfl rfl ?_
    refine G_rf rfl rfl (by decide) (hR 2 0 3 rfl) ?_
    refine G_go rfl rfl ?_
    refine G_call rfl rfl ?_
    refine G_go rfl rfl ?_
    refine G_rf rfl rfl (by decide) (hR 3 0 4 rfl) ?_
    refine G_go rfl rfl ?_
    obtain ⟨g2, h⟩ := h
    refine G_ir (n := 6) rfl rfl (by decide) (by decide) g2 ?_
    refine G_go rfl rfl ?_
    refine G_rf rfl rfl (by decide) (hR 3 1 5 rfl) ?_
    refine G_go rfl rfl ?_
    refine G_ir (n := 6) rfl rfl (by decide) (by decide) g2 ?_
    refine G_go rfl rfl ?_
    refine G_rf rfl rfl (by decide) (hR 3 2 6 rfl) ?_
    refine G_go rfl rfl ?_
    refine G_ir (n := 6) rfl rfl (by decide) (by decide) g2 ?_
    refine G_go rfl rfl ?_
    refine G_rf rfl rfl (by decide) (hR 3 3 7 rfl) ?_
    refine G_go rfl rfl ?_
    refine G_ir (n := 6) rfl rfl (by decide) (by decide) g2 ?_
    refine G_call rfl rfl ?_
    obtain ⟨g3, h⟩ := h
    obtain ⟨g4, h⟩ := h
    obtain ⟨g5, h⟩ := h
    refine c_X1_wealth n _ _ (s 4 x3.toNat) (s 5 x3.toNat) (s 6 x3.toNat) (s 7 x3.toNat) hR g3 g4 g5 ?_
    refine G_ret rfl rfl ?_
    refine G_max rfl rfl ?_
    refine G_go rfl rfl ?_
    refine G_go rfl rfl ?_
    refine G_go rfl rfl ?_
    refine G_rf rfl rfl (by decide) (hR 2 0 3 rfl) ?_
    refine G_go rfl rfl ?_
    refine G_call rfl rfl ?_
    refine G_go rfl rfl ?_
    refine G_rf rfl rfl (by decide) (hR 3 0 4 rfl) ?_
    refine G_go rfl rfl ?_
    refine G_ir (n := 6) rfl rfl (by decide) (by decide) g2 ?_
    refine G_go rfl rfl ?_
    refine G_rf rfl rfl (by decide) (hR 3 1 5 rfl) ?_
    refine G_go rfl rfl ?_
    refine G_ir (n := 6) rfl rfl (by decide) (by decide) g2 ?_
    refine G_go rfl rfl ?_
    refine G_rf rfl rfl (by decide) (hR 3 2 6 rfl) ?_
    refine G_go rfl rfl ?_
    refine G_ir (n := 6) rfl rfl (by decide) (by decide) g2 ?_
    refine G_go rfl rfl ?_
    refine G_rf rfl rfl (by decide) (hR 3 3 7 rfl) ?_
    refine G_go rfl rfl ?_
    refine G_ir (n := 6) rfl rfl (by decide) (by decide) g2 ?_
    refine G_call rfl rfl ?_
    refine c_X1_wealth n _ _ (s 4 x3.toNat) (s 5 x3.toNat) (s 6 x3.toNat) (s 7 x3.toNat) hR g3 g4 g5 ?_
    refine G_ret rfl rfl ?_
    refine G_min rfl rfl ?_
    refine G_go rfl rfl ?_
    refine G_go rfl rfl ?_
    refine G_go rfl rfl ?_
    exact h
theorem sb_X7_apart_0 (n : Nat) (s : Nat → Nat → Int) (Q : List Vl → Sto → Prop) (hR : refs s)
    (h : G 120 140 154 11 [(3, 120), (1, 0), (1, 0), (1, 0), (0, 0)] [] (n, upS s 120 10 0) Q) :
    G 120 140 154 0 [(3, 120), (0, 0), (0, 0), (0, 0), (0, 0)] [] (n, s) Q := by
  refine G_go rfl rfl ?_
  refine G_go rfl rfl ?_
  refine G_wr rfl rfl (by decide) ?_
  have hR := refs_up (a := 120) (k := 10) (x := 0) hR rfl
  refine G_go rfl rfl ?_
  refine G_go rfl rfl ?_
  refine G_go rfl rfl ?_
  refine G_go rfl rfl ?_
  refine G_go rfl rfl ?_
  refine G_go rfl rfl ?_
  exact h
theorem sb_X7_apart_11 (n : Nat) (s : Nat → Nat → Int) (Q : List Vl → Sto → Prop) (x1 : Int) (x2 : Int) (x3 : Int) (w4 : Vl) (hR : refs s)
    (h : (s 120 0 ≤ x3 → Q [(1, wr (x1 - x2))] (n, s)) ∧ (x3 < s 120 0 → (0 ≤ x3 ∧ x3 < 6) ∧ ((rgP (vw 121 s) x3.toNat) ∧ ((0 ≤ vw 121 s 2 x3.toNat ∧ vw 121 s 2 x3.toNat ≤ 2000) ∧ ((x3 = 0 → G 120 140 154 11 [(3, 120), (1, wlW (vw 121 s) x3.toNat), (1, wlW (vw 121 s) x3.toNat), (1, wr (x3 + 1)), (1, wlW (vw 121 s) x3.toNat)] [] (n, s) Q) ∧ (x3 ≠ 0 → (wlW (vw 121 s) x3.toNat ≤ x1 → (x2 ≤ wlW (vw 121 s) x3.toNat → G 120 140 154 11 [(3, 120), (1, x1), (1, x2), (1, wr (x3 + 1)), (1, wlW (vw 121 s) x3.toNat)] [] (n, s) Q) ∧ (wlW (vw 121 s) x3.toNat < x2 → G 120 140 154 11 [(3, 120), (1, x1), (1, wlW (vw 121 s) x3.toNat), (1, wr (x3 + 1)), (1, wlW (vw 121 s) x3.toNat)] [] (n, s) Q)) ∧ (x1 < wlW (vw 121 s) x3.toNat → (x2 ≤ wlW (vw 121 s) x3.toNat → G 120 140 154 11 [(3, 120), (1, wlW (vw 121 s) x3.toNat), (1, x2), (1, wr (x3 + 1)), (1, wlW (vw 121 s) x3.toNat)] [] (n, s) Q) ∧ (wlW (vw 121 s) x3.toNat < x2 → G 120 140 154 11 [(3, 120), (1, wlW (vw 121 s) x3.toNat), (1, wlW (vw 121 s) x3.toNat), (1, wr (x3 + 1)), (1, wlW (vw 121 s) x3.toNat)] [] (n, s) Q)))))))) :
    G 120 140 154 11 [(3, 120), (1, x1), (1, x2), (1, x3), w4] [] (n, s) Q := by
  refine G_go rfl rfl ?_
  refine G_go rfl rfl ?_
  refine G_rd rfl rfl (by decide) ?_
  refine G_ge rfl rfl (fun c1 => ?_) (fun c1 => ?_)
  · have h := h.1 c1
    refine G_go rfl rfl ?_
    refine G_go rfl rfl ?_
    refine G_go rfl rfl ?_
    exact G_ret rfl rfl h
  · have h := h.2 c1
    refine G_go rfl rfl ?_
    refine G_go rfl rfl ?_
    refine G_call rfl rfl ?_
    obtain ⟨g2, h⟩ := h
    obtain ⟨g3, h⟩ := h
    obtain ⟨g4, h⟩ := h
    refine c_X7_wealthOf n _ _ x3 hR g2 g3 g4 ?_
    refine G_go rfl rfl ?_
    refine G_go rfl rfl ?_
    refine G_eq rfl rfl (fun c5 => ?_) (fun c5 => ?_)
    · have h := h.1 c5
      refine G_go rfl rfl ?_
      refine G_go rfl rfl ?_
      refine G_go rfl rfl ?_
      refine G_go rfl rfl ?_
      refine G_eq rfl rfl (fun _ => ?_) (fun hc => absurd (show x3 ≠ 0 from hc) (by omega))
      refine G_go rfl rfl ?_
      refine G_go rfl rfl ?_
      refine G_go rfl rfl ?_
      refine G_go rfl rfl ?_
      refine G_go rfl rfl ?_
      exact h
    · have h := h.2 c5
      refine G_go rfl rfl ?_
      refine G_go rfl rfl ?_
      refine G_le rfl rfl (fun c6 => ?_) (fun c6 => ?_)
      · have h := h.1 c6
        refine G_go rfl rfl ?_
        refine G_go rfl rfl ?_
        refine G_go rfl rfl ?_
        refine G_eq rfl rfl (fun hc => absurd (show x3 = 0 from hc) (by omega)) (fun _ => ?_)
        refine G_go rfl rfl ?_
        refine G_go rfl rfl ?_
        refine G_ge rfl rfl (fun c7 => ?_) (fun c7 => ?_)
        · have h := h.1 c7
          refine G_go rfl rfl ?_
          refine G_go rfl rfl ?_
          refine G_go rfl rfl ?_
          refine G_go rfl rfl ?_
          exact h
        · have h := h.2 c7
          refine G_go rfl rfl ?_
          refine G_go rfl rfl ?_
          refine G_go rfl rfl ?_
          refine G_go rfl rfl ?_
          refine G_go rfl rfl ?_
          exact h
      · have h := h.2 c6
        refine G_go rfl rfl ?_
        refine G_go rfl rfl ?_
        refine G_go rfl rfl ?_
        refine G_go rfl rfl ?_
        refine G_eq rfl rfl (fun hc => absurd (show x3 = 0 from hc) (by omega)) (fun _ => ?_)
        refine G_go rfl rfl ?_
        refine G_go rfl rfl ?_
        refine G_ge rfl rfl (fun c8 => ?_) (fun c8 => ?_)
        · have h := h.1 c8
          refine G_go rfl rfl ?_
          refine G_go rfl rfl ?_
          refine G_go rfl rfl ?_
          refine G_go rfl rfl ?_
          exact h
        · have h := h.2 c8
          refine G_go rfl rfl ?_
          refine G_go rfl rfl ?_
          refine G_go rfl rfl ?_
          refine G_go rfl rfl ?_
          refine G_go rfl rfl ?_
          exact h
def abF (t : Nat → Nat → Int) (v : Int) (k : Nat) (b : Int) : Int := if v ≤ wlW (vw 121 t) k then wr (b + 1) else wr (b + 0)
theorem abF_in {t : Nat → Nat → Int} {v : Int} (k : Nat) (b : Int) : inI (k + 1) (abF t v k b) := by
  unfold abF
  split
  · exact wr_in _
  · exact wr_in _
theorem cl_above (n : Nat) (s t : Nat → Nat → Int) (h : REL s t) (a0 x2 : Int) (Q : List Vl → Sto → Prop) (hq : Q [(1, itr (abF t a0) 0 (t 120 0).toNat)] (n, s)) : G 2 120 60 24 [(3, 2), (1, a0), (1, x2), (1, 0), (1, 0)] [] (n, s) Q := by
  obtain ⟨hn1, hn2, hn3, hn4⟩ := h.np
  refine G_up (t 120 0).toNat (fun k b => G 2 120 60 24 [(3, 2), (1, a0), (1, x2), (1, b), (1, (k : Int))] [] (n, s) Q) (abF t a0) inI 0 (by unfold inI; omega) (fun k b _ _ => abF_in k b) (fun k b hk hb hg => ?_) (fun _ => ?_)
  · have hp : (k : Int) < t 120 0 := by omega
    obtain ⟨⟨g1, g2⟩, g3, g4, g5, g6⟩ := h.rg k hp
    rw [← wr_s hk (by omega)] at hg
    refine sb_X6_above_24 n s Q a0 x2 b k h.1 ⟨fun e => by omega, fun _ => ⟨by omega, g1, g4, g2, fun c => ?_, fun c => ?_⟩⟩
    · rw [Int.toNat_natCast, h.wl k hp] at c
      rw [show abF t a0 k b = b by unfold abF; rw [if_neg (by omega)]; exact wr_0 hb] at hg
      exact hg
    · rw [Int.toNat_natCast, h.wl k hp] at c
      rw [show abF t a0 k b = wr (b + 1) from if_pos c] at hg
      exact hg
  · exact sb_X6_above_24 n s Q a0 x2 _ _ h.1 ⟨fun _ => hq, fun e => by omega⟩
theorem rl_above (n : Nat) (s t : Nat → Nat → Int) (h : REL s t) (a0 : Int) (Q : List Vl → Sto → Prop) (hq : Q [(1, itr (abF t a0) 0 (t 120 0).toNat)] (n, t)) : G 120 140 137 33 [(3, 120), (1, a0), (1, 0), (1, 0)] [] (n, t) Q := by
  obtain ⟨hn1, hn2, hn3, hn4⟩ := h.np
  refine G_up (t 120 0).toNat (fun k b => G 120 140 137 33 [(3, 120), (1, a0), (1, b), (1, (k : Int))] [] (n, t) Q) (abF t a0) inI 0 (by unfold inI; omega) (fun k b _ _ => abF_in k b) (fun k b hk hb hg => ?_) (fun _ => ?_)
  · have hp : (k : Int) < t 120 0 := by omega
    obtain ⟨g1, g2, g3, g4, g5, g6⟩ := h.rg k hp
    rw [← wr_s hk (by omega)] at hg
    refine sb_X7_above_33 n t Q a0 b k h.2.1 ⟨fun e => by omega, fun _ => ⟨by omega, g2, g4, fun c => ?_, fun c => ?_⟩⟩
    · rw [Int.toNat_natCast] at c
      rw [show abF t a0 k b = wr (b + 0) from if_neg (by omega)] at hg
      exact hg
    · rw [Int.toNat_natCast] at c
      rw [show abF t a0 k b = wr (b + 1) from if_pos c] at hg
      exact hg
  · exact sb_X7_above_33 n t Q a0 _ _ h.2.1 ⟨fun _ => hq, fun e => by omega⟩
theorem op_above (n : Nat) (s t : Nat → Nat → Int) (h : REL s t) (a0 : Int) : G 2 120 60 0 [(3, 2), (1, a0), (0, 0), (0, 0), (0, 0)] [] (n, s) (fun r s1 => G 120 140 137 0 [(3, 120), (1, a0), (0, 0), (0, 0)] [] (n, t) (Post n r s1)) := by
  refine sb_X6_above_0 n s _ a0 h.1 ?_
  repeat' first | with_reducible refine And.intro ?_ ?_ | intro _
  all_goals first | refine cl_above n s _ h.up a0 _ _ ?_ | skip
  all_goals refine sb_X7_above_0 n t _ _ h.2.1 ?_
  all_goals repeat' first | with_reducible refine And.intro ?_ ?_ | intro _
  all_goals first | omega | exact post_ref h _ (by decide) | skip
  exact rl_above n s _ h.up a0 _ (post_same h rfl)

def trF (t : Nat → Nat → Int) (v : Int) (k : Nat) (b : Int) : Int := if t 128 k = v then wr (b + 1) else wr (b + 0)
theorem trF_in {t : Nat → Nat → Int} {v : Int} (k : Nat) (b : Int) : inI (k + 1) (trF t v k b) := by
  unfold trF
  split
  · exact wr_in _
  · exact wr_in _
theorem cl_trusted (n : Nat) (s t : Nat → Nat → Int) (h : REL s t) (a0 : Int) (x2 : Int) (h0 : 0 ≤ a0) (Q : List Vl → Sto → Prop) (hq : Q [(1, itr (trF t a0) 0 (t 120 0).toNat)] (n, s)) : G 2 120 129 21 [(3, 2), (1, a0), (1, x2), (1, 0), (1, 0)] [] (n, s) Q := by
  obtain ⟨hn1, hn2, hn3, hn4⟩ := h.np
  refine G_up (t 120 0).toNat (fun k b => G 2 120 129 21 [(3, 2), (1, a0), (1, x2), (1, b), (1, (k : Int))] [] (n, s) Q) (trF t a0) inI 0 (by unfold inI; omega) (fun k b _ _ => trF_in k b) (fun k b hk hb hg => ?_) (fun _ => ?_)
  · have hp : (k : Int) < t 120 0 := by omega
    obtain ⟨g1, g2, g3, g4, g5, g6⟩ := h.rg k hp
    have hs := h.s k hp
    have ht := h.t k hp
    rw [← wr_s hk (by omega)] at hg
    refine sb_X6_trusted_21 n s Q a0 x2 b k h.1 ⟨fun e => by omega, fun _ => ?_⟩
    simp only [Int.toNat_natCast]
    repeat' first | with_reducible refine And.intro ?_ ?_ | intro _
    all_goals first | omega | assumption | exact g1.1 | exact g1.2 | skip
    all_goals unfold trF at hg
    all_goals (repeat' split at hg)
    all_goals first | exact hg | (exfalso; omega) | (simp only [wr_0 hb, xor_0 hb] at hg; exact hg) | skip
  · exact sb_X6_trusted_21 n s Q a0 x2 _ _ h.1 ⟨fun _ => hq, fun e => by omega⟩
theorem rl_trusted (n : Nat) (s t : Nat → Nat → Int) (h : REL s t) (a0 : Int) (Q : List Vl → Sto → Prop) (hq : Q [(1, itr (trF t a0) 0 (t 120 0).toNat)] (n, t)) : G 120 140 220 23 [(3, 120), (1, a0), (1, 0), (1, 0)] [] (n, t) Q := by
  obtain ⟨hn1, hn2, hn3, hn4⟩ := h.np
  refine G_up (t 120 0).toNat (fun k b => G 120 140 220 23 [(3, 120), (1, a0), (1, b), (1, (k : Int))] [] (n, t) Q) (trF t a0) inI 0 (by unfold inI; omega) (fun k b _ _ => trF_in k b) (fun k b hk hb hg => ?_) (fun _ => ?_)
  · have hp : (k : Int) < t 120 0 := by omega
    obtain ⟨g1, g2, g3, g4, g5, g6⟩ := h.rg k hp
    have hs := h.s k hp
    have ht := h.t k hp
    rw [← wr_s hk (by omega)] at hg
    refine sb_X7_trusted_23 n t Q a0 b k h.2.1 ⟨fun e => by omega, fun _ => ?_⟩
    simp only [Int.toNat_natCast]
    repeat' first | with_reducible refine And.intro ?_ ?_ | intro _
    all_goals first | omega | assumption | exact g1.1 | exact g1.2 | skip
    all_goals unfold trF at hg
    all_goals (repeat' split at hg)
    all_goals first | exact hg | (exfalso; omega) | (simp only [wr_0 hb, xor_0 hb] at hg; exact hg) | skip
  · exact sb_X7_trusted_23 n t Q a0 _ _ h.2.1 ⟨fun _ => hq, fun e => by omega⟩
theorem op_trusted (n : Nat) (s t : Nat → Nat → Int) (h : REL s t) (a0 : Int) : G 2 120 129 0 [(3, 2), (1, a0), (0, 0), (0, 0), (0, 0)] [] (n, s) (fun r s1 => G 120 140 220 0 [(3, 120), (1, a0), (0, 0), (0, 0)] [] (n, t) (Post n r s1)) := by
  obtain ⟨hn1, hn2, hn3, hn4⟩ := h.np
  have hw : wr (t 120 0 - 1) = t 120 0 - 1 := wr_id (by omega) (by omega)
  refine sb_X6_trusted_0 n s _ a0 h.1 ?_
  repeat' first | with_reducible refine And.intro ?_ ?_ | intro _
  all_goals first | omega | refine cl_trusted n s _ h.up a0 _ (by omega) _ ?_ | skip
  all_goals refine sb_X7_trusted_0 n t _ a0 h.2.1 ?_
  all_goals repeat' first | with_reducible refine And.intro ?_ ?_ | intro _
  all_goals first | omega | exact post_ref h _ (by decide) | skip
  exact rl_trusted n s _ h.up a0 _ (post_same h rfl)
def unF (t : Nat → Nat → Int) (k : Nat) (b : Int) : Int := if 0 < t 125 k ∧ t 126 k = 0 then xor_ b (xshl 1 k) else xor_ b 0
theorem unF_in {t : Nat → Nat → Int} (k : Nat) (b : Int) : inI (k + 1) (unF t k b) := by
  unfold unF
  split
  · exact xor_in _ _
  · exact xor_in _ _
theorem cl_unlit (n : Nat) (s t : Nat → Nat → Int) (h : REL s t) (Q : List Vl → Sto → Prop) (hq : Q [(1, itr (unF t) 0 (t 120 0).toNat)] (n, s)) : G 2 120 131 4 [(3, 2), (1, 0), (1, 0)] [] (n, s) Q := by
  obtain ⟨hn1, hn2, hn3, hn4⟩ := h.np
  refine G_up (t 120 0).toNat (fun k b => G 2 120 131 4 [(3, 2), (1, b), (1, (k : Int))] [] (n, s) Q) (unF t) inI 0 (by unfold inI; omega) (fun k b _ _ => unF_in k b) (fun k b hk hb hg => ?_) (fun _ => ?_)
  · have hp : (k : Int) < t 120 0 := by omega
    obtain ⟨g1, g2, g3, g4, g5, g6⟩ := h.rg k hp
    have hs := h.s k hp
    have ht := h.t k hp
    rw [← wr_s hk (by omega)] at hg
    refine sb_X6_unlit_4 n s Q b k h.1 ⟨fun e => by omega, fun _ => ?_⟩
    simp only [Int.toNat_natCast]
    repeat' first | with_reducible refine And.intro ?_ ?_ | intro _
    all_goals first | omega | assumption | exact g1.1 | exact g1.2 | skip
    all_goals unfold unF at hg
    all_goals (repeat' split at hg)
    all_goals first | exact hg | (exfalso; omega) | (simp only [wr_0 hb, xor_0 hb] at hg; exact hg) | skip
  · exact sb_X6_unlit_4 n s Q _ _ h.1 ⟨fun _ => hq, fun e => by omega⟩
theorem rl_unlit (n : Nat) (s t : Nat → Nat → Int) (h : REL s t) (Q : List Vl → Sto → Prop) (hq : Q [(1, itr (unF t) 0 (t 120 0).toNat)] (n, t)) : G 120 140 222 9 [(3, 120), (1, 0), (1, 0)] [] (n, t) Q := by
  obtain ⟨hn1, hn2, hn3, hn4⟩ := h.np
  refine G_up (t 120 0).toNat (fun k b => G 120 140 222 9 [(3, 120), (1, b), (1, (k : Int))] [] (n, t) Q) (unF t) inI 0 (by unfold inI; omega) (fun k b _ _ => unF_in k b) (fun k b hk hb hg => ?_) (fun _ => ?_)
  · have hp : (k : Int) < t 120 0 := by omega
    obtain ⟨g1, g2, g3, g4, g5, g6⟩ := h.rg k hp
    have hs := h.s k hp
    have ht := h.t k hp
    rw [← wr_s hk (by omega)] at hg
    refine sb_X7_unlit_9 n t Q b k h.2.1 ⟨fun e => by omega, fun _ => ?_⟩
    simp only [Int.toNat_natCast]
    repeat' first | with_reducible refine And.intro ?_ ?_ | intro _
    all_goals first | omega | assumption | exact g1.1 | exact g1.2 | skip
    all_goals unfold unF at hg
    all_goals (repeat' split at hg)
    all_goals first | exact hg | (exfalso; omega) | (simp only [wr_0 hb, xor_0 hb] at hg; exact hg) | skip
  · exact sb_X7_unlit_9 n t Q _ _ h.2.1 ⟨fun _ => hq, fun e => by omega⟩
theorem op_unlit (n : Nat) (s t : Nat → Nat → Int) (h : REL s t) : G 2 120 131 0 [(3, 2), (0, 0), (0, 0)] [] (n, s) (fun r s1 => G 120 140 222 0 [(3, 120), (0, 0), (0, 0)] [] (n, t) (Post n r s1)) :=
  sb_X6_unlit_0 n s _ h.1 (cl_unlit n s _ h.up _ (sb_X7_unlit_0 n t _ h.2.1 (rl_unlit n s _ h.up _ (post_same h rfl))))


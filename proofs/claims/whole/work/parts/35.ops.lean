/-! IN MIND. -/
theorem REL.c {s t : Nat → Nat → Int} (h : REL s t) : twC 3 s (t 120 0) (t 120 9) (vw 121 t) := ⟨h.n.1, h.n.2.1, h.n.2.2.2.2.2⟩
theorem REL.w {s t : Nat → Nat → Int} (_ : REL s t) : twR t (t 120 0) (t 120 9) (vw 121 t) := ⟨rfl, rfl, fun _ _ _ _ => rfl⟩
theorem REL.o {s t : Nat → Nat → Int} (h : REL s t) : okT (t 120 0) (vw 121 t) := ⟨h.n.2.2.1, h.n.2.2.2.2.1⟩
theorem c_mind (n : Nat) (s t : Nat → Nat → Int) (h : REL s t) (Q : List Vl → Sto → Prop) (hq : ∀ s1, refs s1 → frT 13 s s1 → twC 13 s1 (t 120 0) (t 120 9) (vw 121 t) → Q [] (n, s1)) : G 2 120 7 0 [(3, 13), (3, 3), (0, 0)] [] (n, s) Q := by
  obtain ⟨hn1, hn2, hn3, hn4⟩ := h.np
  refine c_become_13_3 n s Q h.1 (by rw [hn1]; exact hn3) (fun p hp => ?_) (fun s1 r1 b => hq s1 r1 b.1 (bcm_tw h.c b))
  rw [hn1] at hp
  rw [(h.s p hp).2.2.2.2.2.1]
  exact (h.t p hp).2.2.2.2.2.1
theorem REL_mind {s t s1 t1 : Nat → Nat → Int} (h : REL s t) (r1 : refs s1) (f : frT 13 s s1) (r2 : refs t1) (x : frX 135 t t1) (w : twR t1 (t 120 0) (t 120 9) (vw 121 t)) : REL s1 t1 := by
  refine ⟨r1, r2, ?_, ?_, ?_, ?_, ?_, ?_⟩
  · exact rlT_ext h.n (by rw [f 3 (by omega)]) (by rw [f 3 (by omega)]) w.1 w.2.1 (fun j hj p _ => by unfold vw; rw [f (4 + j) (by omega)]) (fun j hj p hp => w.2.2 j hj p hp)
  · exact relI_fr h.i (by rw [f 2 (by omega)]) (by rw [f 23 (by omega)]) (by rw [f 23 (by omega)]) (fun a h1 h2 => f a (by omega)) (x.2 23 (by decide) (by decide) (by decide) (by decide) (by decide)) (x.1 136 (by decide) (by decide) (by decide))
  · exact relH_fr h.h (by rw [f 33 (by omega)]) (by rw [f 33 (by omega)]) (fun a h1 h2 => f a (by omega)) (x.2 29 (by decide) (by decide) (by decide) (by decide) (by decide)) (x.1 137 (by decide) (by decide) (by decide))
  · exact relL_fr h.l (by rw [f 115 (by omega)]) (f 116 (by omega)) (x.2 14 (by decide) (by decide) (by decide) (by decide) (by decide)) (x.1 131 (by decide) (by decide) (by decide))
  · exact relR_fr h.r (by rw [f 117 (by omega)]) (f 118 (by omega)) (x.2 31 (by decide) (by decide) (by decide) (by decide) (by decide)) (x.1 139 (by decide) (by decide) (by decide))
  · exact relF_fr h.f (f 119 (by omega)) (x.1 129 (by decide) (by decide) (by decide))
theorem post_mind {n : Nat} {s t s1 t1 : Nat → Nat → Int} {v : Vl} (h : REL s t) (r1 : refs s1) (f : frT 13 s s1) (r2 : refs t1) (x : frX 135 t t1) (w : twR t1 (t 120 0) (t 120 9) (vw 121 t)) : Post n [v] (n, s1) [v] (n, t1) := ⟨v, rfl, rfl, REL_mind h r1 f r2 x w, rfl, rfl⟩
theorem twK_fr {c off : Nat} {t t1 : Nat → Nat → Int} {np h : Int} {V : Nat → Nat → Int} (k : twK c off t np h V) (e : t1 c = t c) : twK c off t1 np h V := by
  refine ⟨by rw [e]; exact k.1, by rw [e]; exact k.2.1, fun j hj p hp => ?_⟩
  unfold fw
  rw [e]
  exact k.2.2 j hj p hp
theorem itr_row {r q : Nat → Int} {np : Int} (e : ∀ p : Nat, (p : Int) < np → r p = q p) : itr (smF r) 0 np.toNat = itr (smF q) 0 np.toNat := by
  refine itr_ext 0 _ (fun k b hk => ?_)
  unfold smF
  rw [e k (by omega)]
def bhV (W : Nat → Nat → Int) (p : Nat) (a : Int) : Int := if a = 0 then W 4 p else if a = 1 then W 6 p else W 5 p
def alV (np : Int) (W : Nat → Nat → Int) (a : Int) : Int := if a = 0 then itr (smF (W 5)) 0 np.toNat else itr (smF (W 6)) 0 np.toNat
def nvV (V W : Nat → Nat → Int) (p : Nat) (a : Int) : Int := if a = 0 then W 2 p else if a = 1 then W 4 p else wr (W 6 p - V 6 p)
def naV (np : Int) (V W : Nat → Nat → Int) (a : Int) : Int := if a = 0 then wr (itr (smF (W 6)) 0 np.toNat - itr (smF (V 6)) 0 np.toNat) else wr (itr (smF (V 2)) 0 np.toNat - itr (smF (W 2)) 0 np.toNat)
theorem sb_X6_behind_0 (n : Nat) (s : Nat → Nat → Int) (Q : List Vl → Sto → Prop) (a0 : Int) (a1 : Int) (a2 : Int) (hR : refs s)
    (h : (a0 < 0 → (0 ≤ a1 → (a1 ≤ 99 → (a2 < 0 → Q [(1, (-1))] (n, upS s 119 1 (wr ((s 119 1) + 1)))) ∧ (0 ≤ a2 → (a2 ≤ 2 → Q [(1, (-1))] (n, upS s 119 1 (wr ((s 119 1) + 1)))) ∧ (2 < a2 → Q [(1, (-1))] (n, upS s 119 1 (wr ((s 119 1) + 1)))))) ∧ (99 < a1 → (a2 < 0 → Q [(1, (-1))] (n, upS s 119 1 (wr ((s 119 1) + 1)))) ∧ (0 ≤ a2 → (a2 ≤ 2 → Q [(1, (-1))] (n, upS s 119 1 (wr ((s 119 1) + 1)))) ∧ (2 < a2 → Q [(1, (-1))] (n, upS s 119 1 (wr ((s 119 1) + 1))))))) ∧ (a1 < 0 → (a2 < 0 → Q [(1, (-1))] (n, upS s 119 1 (wr ((s 119 1) + 1)))) ∧ (0 ≤ a2 → (a2 ≤ 2 → Q [(1, (-1))] (n, upS s 119 1 (wr ((s 119 1) + 1)))) ∧ (2 < a2 → Q [(1, (-1))] (n, upS s 119 1 (wr ((s 119 1) + 1))))))) ∧ (0 ≤ a0 → (s 3 9 ≤ a0 → (0 ≤ a1 → (a1 ≤ 99 → (a2 < 0 → Q [(1, (-1))] (n, upS s 119 1 (wr ((s 119 1) + 1)))) ∧ (0 ≤ a2 → (a2 ≤ 2 → Q [(1, (-1))] (n, upS s 119 1 (wr ((s 119 1) + 1)))) ∧ (2 < a2 → Q [(1, (-1))] (n, upS s 119 1 (wr ((s 119 1) + 1)))))) ∧ (99 < a1 → (a2 < 0 → Q [(1, (-1))] (n, upS s 119 1 (wr ((s 119 1) + 1)))) ∧ (0 ≤ a2 → (a2 ≤ 2 → Q [(1, (-1))] (n, upS s 119 1 (wr ((s 119 1) + 1)))) ∧ (2 < a2 → Q [(1, (-1))] (n, upS s 119 1 (wr ((s 119 1) + 1))))))) ∧ (a1 < 0 → (a2 < 0 → Q [(1, (-1))] (n, upS s 119 1 (wr ((s 119 1) + 1)))) ∧ (0 ≤ a2 → (a2 ≤ 2 → Q [(1, (-1))] (n, upS s 119 1 (wr ((s 119 1) + 1)))) ∧ (2 < a2 → Q [(1, (-1))] (n, upS s 119 1 (wr ((s 119 1) + 1))))))) ∧ (a0 < s 3 9 → (0 ≤ a1 → (a1 ≤ 99 → (a2 < 0 → Q [(1, (-2))] (n, upS s 119 2 (wr ((s 119 2) + 1)))) ∧ (0 ≤ a2 → (a2 ≤ 2 → G 2 120 7 0 [(3, 13), (3, 3), (0, 0)] [] (n, s) (fun r s1 => G 2 120 69 45 [(3, 2), (1, a0), (1, a1), (1, a2), (1, 0)] (r ++ []) s1 Q)) ∧ (2 < a2 → Q [(1, (-2))] (n, upS s 119 2 (wr ((s 119 2) + 1)))))) ∧ (99 < a1 → (a2 < 0 → Q [(1, (-6))] (n, upS s 119 6 (wr ((s 119 6) + 1)))) ∧ (0 ≤ a2 → (a2 ≤ 2 → Q [(1, (-6))] (n, upS s 119 6 (wr ((s 119 6) + 1)))) ∧ (2 < a2 → Q [(1, (-6))] (n, upS s 119 6 (wr ((s 119 6) + 1))))))) ∧ (a1 < 0 → (a2 < 0 → Q [(1, (-4))] (n, upS s 119 4 (wr ((s 119 4) + 1)))) ∧ (0 ≤ a2 → (a2 ≤ 2 → Q [(1, (-4))] (n, upS s 119 4 (wr ((s 119 4) + 1)))) ∧ (2 < a2 → Q [(1, (-4))] (n, upS s 119 4 (wr ((s 119 4) + 1))))))))) :
    G 2 120 69 0 [(3, 2), (1, a0), (1, a1), (1, a2), (0, 0)] [] (n, s) Q := by
  refine G_go rfl rfl ?_
  refine G_go rfl rfl ?_
  refine G_call rfl rfl ?_
  refine G_go rfl rfl ?_
  refine G_rf rfl rfl (by decide) (hR 2 0 3 rfl) ?_
  refine G_go rfl rfl ?_
  refine G_call rfl rfl ?_
  refine G_go rfl rfl ?_
  refine G_lt rfl rfl (fun c1 => ?_) (fun c1 => ?_)
  · have h := h.1 c1
    refine G_go rfl rfl ?_
    refine G_ret rfl rfl ?_
    refine G_brT rfl rfl rfl ?_
    refine G_go rfl rfl ?_
    refine G_ret rfl rfl ?_
    refine G_go rfl rfl ?_
    refine G_go rfl rfl ?_
    refine G_go rfl rfl ?_
    refine G_call rfl rfl ?_
    refine G_go rfl rfl ?_
    refine G_go rfl rfl ?_
    refine G_ge rfl rfl (fun c2 => ?_) (fun c2 => ?_)
    · have h := h.1 c2
      refine G_go rfl rfl ?_
      refine G_go rfl rfl ?_
      refine G_le rfl rfl (fun c3 => ?_) (fun c3 => ?_)
      · have h := h.1 c3
        refine G_go rfl rfl ?_
        refine G_ret rfl rfl ?_
        refine G_go rfl rfl ?_
        refine G_go rfl rfl ?_
        refine G_call rfl rfl ?_
        refine G_go rfl rfl ?_
        refine G_lt rfl rfl (fun c4 => ?_) (fun c4 => ?_)
        · have h := h.1 c4
          refine G_go rfl rfl ?_
          refine G_go rfl rfl ?_
          refine G_ret rfl rfl ?_
          refine G_call rfl rfl ?_
          refine G_go rfl rfl ?_
          refine G_go rfl rfl ?_
          refine G_go rfl rfl ?_
          refine G_call rfl rfl ?_
          refine G_go rfl rfl ?_
          refine G_brT rfl rfl rfl ?_
          refine G_go rfl rfl ?_
          refine G_ret rfl rfl ?_
          refine G_call rfl rfl ?_
          refine G_go rfl rfl ?_
          refine G_brF rfl rfl rfl ?_
          refine G_go rfl rfl ?_
          refine G_go rfl rfl ?_
          refine G_ret rfl rfl ?_
          refine G_ret rfl rfl ?_
          refine G_go rfl rfl ?_
          show G 2 120 69 22 [(3, 2), (1, a0), (1, a1), (1, a2), (1, (-1))] [] (n, s) Q
          refine G_go rfl rfl ?_
          refine G_brF rfl rfl rfl ?_
          refine G_go rfl rfl ?_
          refine G_go rfl rfl ?_
          refine G_call rfl rfl ?_
          refine G_go rfl rfl ?_
          refine G_go rfl rfl ?_
          refine G_go rfl rfl ?_
          refine G_go rfl rfl ?_
          refine G_brF rfl rfl rfl ?_
          refine G_go rfl rfl ?_
          refine G_go rfl rfl ?_
          refine G_rf rfl rfl (by decide) (hR 2 7 119 rfl) ?_
          refine G_go rfl rfl ?_
          refine G_brF rfl rfl rfl ?_
          refine G_go rfl rfl ?_
          refine G_rf rfl rfl (by decide) (hR 2 7 119 rfl) ?_
          refine G_go rfl rfl ?_
          refine G_go rfl rfl ?_
          refine G_ir (n := 7) rfl rfl (by decide) (by decide) (by decide) ?_
          refine G_go rfl rfl ?_
          refine G_go rfl rfl ?_
          refine G_iw (n := 7) rfl rfl (by decide) (by decide) (by decide) ?_
          have hR := refs_up (a := 119) (k := 1) (x := wr ((s 119 1) + 1)) hR rfl
          refine G_go rfl rfl ?_
          refine G_ret rfl rfl ?_
          exact G_ret rfl rfl h
        · have h := h.2 c4
          refine G_go rfl rfl ?_
          refine G_go rfl rfl ?_
          refine G_le rfl rfl (fun c5 => ?_) (fun c5 => ?_)
          · have h := h.1 c5
            refine G_go rfl rfl ?_
            refine G_ret rfl rfl ?_
            refine G_call rfl rfl ?_
            refine G_go rfl rfl ?_
            refine G_go rfl rfl ?_
            refine G_go rfl rfl ?_
            refine G_call rfl rfl ?_
            refine G_go rfl rfl ?_
            refine G_brT rfl rfl rfl ?_
            refine G_go rfl rfl ?_
            refine G_ret rfl rfl ?_
            refine G_call rfl rfl ?_
            refine G_go rfl rfl ?_
            refine G_brF rfl rfl rfl ?_
            refine G_go rfl rfl ?_
            refine G_go rfl rfl ?_
            refine G_ret rfl rfl ?_
            refine G_ret rfl rfl ?_
            refine G_go rfl rfl ?_
            show G 2 120 69 22 [(3, 2), (1, a0), (1, a1), (1, a2), (1, (-1))] [] (n, s) Q
            refine G_go rfl rfl ?_
            refine G_brF rfl rfl rfl ?_
            refine G_go rfl rfl ?_
            refine G_go rfl rfl ?_
            refine G_call rfl rfl ?_
            refine G_go rfl rfl ?_
            refine G_go rfl rfl ?_
            refine G_go rfl rfl ?_
            refine G_go rfl rfl ?_
            refine G_brF rfl rfl rfl ?_
            refine G_go rfl rfl ?_
            refine G_go rfl rfl ?_
            refine G_rf rfl rfl (by decide) (hR 2 7 119 rfl) ?_
            refine G_go rfl rfl ?_
            refine G_brF rfl rfl rfl ?_
            refine G_go rfl rfl ?_
            refine G_rf rfl rfl (by decide) (hR 2 7 119 rfl) ?_
            refine G_go rfl rfl ?_
            refine G_go rfl rfl ?_
            refine G_ir (n := 7) rfl rfl (by decide) (by decide) (by decide) ?_
            refine G_go rfl rfl ?_
            refine G_go rfl rfl ?_
            refine G_iw (n := 7) rfl rfl (by decide) (by decide) (by decide) ?_
            have hR := refs_up (a := 119) (k := 1) (x := wr ((s 119 1) + 1)) hR rfl
            refine G_go rfl rfl ?_
            refine G_ret rfl rfl ?_
            exact G_ret rfl rfl h
          · have h := h.2 c5
            refine G_go rfl rfl ?_
            refine G_go rfl rfl ?_
            refine G_ret rfl rfl ?_
            refine G_call rfl rfl ?_
            refine G_go rfl rfl ?_
            refine G_go rfl rfl ?_
            refine G_go rfl rfl ?_
            refine G_call rfl rfl ?_
            refine G_go rfl rfl ?_
            refine G_brT rfl rfl rfl ?_
            refine G_go rfl rfl ?_
            refine G_ret rfl rfl ?_
            refine G_call rfl rfl ?_
            refine G_go rfl rfl ?_
            refine G_brF rfl rfl rfl ?_
            refine G_go rfl rfl ?_
            refine G_go rfl rfl ?_
            refine G_ret rfl rfl ?_
            refine G_ret rfl rfl ?_
            refine G_go rfl rfl ?_
            show G 2 120 69 22 [(3, 2), (1, a0), (1, a1), (1, a2), (1, (-1))] [] (n, s) Q
            refine G_go rfl rfl ?_
            refine G_brF rfl rfl rfl ?_
            refine G_go rfl rfl ?_
            refine G_go rfl rfl ?_
            refine G_call rfl rfl ?_
            refine G_go rfl rfl ?_
            refine G_go rfl rfl ?_
            refine G_go rfl rfl ?_
            refine G_go rfl rfl ?_
            refine G_brF rfl rfl rfl ?_
            refine G_go rfl rfl ?_
            refine G_go rfl rfl ?_
            refine G_rf rfl rfl (by decide) (hR 2 7 119 rfl) ?_
            refine G_go rfl rfl ?_
            refine G_brF rfl rfl rfl ?_
            refine G_go rfl rfl ?_
            refine G_rf rfl rfl (by decide) (hR 2 7 119 rfl) ?_
            refine G_go rfl rfl ?_
            refine G_go rfl rfl ?_
            refine G_ir (n := 7) rfl rfl (by decide) (by decide) (by decide) ?_
            refine G_go rfl rfl ?_
            refine G_go rfl rfl ?_
            refine G_iw (n := 7) rfl rfl (by decide) (by decide) (by decide) ?_
            have hR := refs_up (a := 119) (k := 1) (x := wr ((s 119 1) + 1)) hR rfl
            refine G_go rfl rfl ?_
            refine G_ret rfl rfl ?_
            exact G_ret rfl rfl h
      · have h := h.2 c3
        refine G_go rfl rfl ?_
        refine G_go rfl rfl ?_
        refine G_ret rfl rfl ?_
        refine G_go rfl rfl ?_
        refine G_go rfl rfl ?_
        refine G_call rfl rfl ?_
        refine G_go rfl rfl ?_
        refine G_lt rfl rfl (fun c6 => ?_) (fun c6 => ?_)
        · have h := h.1 c6
          refine G_go rfl rfl ?_
          refine G_go rfl rfl ?_
          refine G_ret rfl rfl ?_
          refine G_call rfl rfl ?_
          refine G_go rfl rfl ?_
          refine G_go rfl rfl ?_
          refine G_go rfl rfl ?_
          refine G_call rfl rfl ?_
          refine G_go rfl rfl ?_
          refine G_brF rfl rfl rfl ?_
          refine G_go rfl rfl ?_
          refine G_go rfl rfl ?_
          refine G_ret rfl rfl ?_
          refine G_call rfl rfl ?_
          refine G_go rfl rfl ?_
          refine G_brF rfl rfl rfl ?_
          refine G_go rfl rfl ?_
          refine G_go rfl rfl ?_
          refine G_ret rfl rfl ?_
          refine G_ret rfl rfl ?_
          refine G_go rfl rfl ?_
          show G 2 120 69 22 [(3, 2), (1, a0), (1, a1), (1, a2), (1, (-1))] [] (n, s) Q
          refine G_go rfl rfl ?_
          refine G_brF rfl rfl rfl ?_
          refine G_go rfl rfl ?_
          refine G_go rfl rfl ?_
          refine G_call rfl rfl ?_
          refine G_go rfl rfl ?_
          refine G_go rfl rfl ?_
          refine G_go rfl rfl ?_
          refine G_go rfl rfl ?_
          refine G_brF rfl rfl rfl ?_
          refine G_go rfl rfl ?_
          refine G_go rfl rfl ?_
          refine G_rf rfl rfl (by decide) (hR 2 7 119 rfl) ?_
          refine G_go rfl rfl ?_
          refine G_brF rfl rfl rfl ?_
          refine G_go rfl rfl ?_
          refine G_rf rfl rfl (by decide) (hR 2 7 119 rfl) ?_
          refine G_go rfl rfl ?_
          refine G_go rfl rfl ?_
          refine G_ir (n := 7) rfl rfl (by decide) (by decide) (by decide) ?_
          refine G_go rfl rfl ?_
          refine G_go rfl rfl ?_
          refine G_iw (n := 7) rfl rfl (by decide) (by decide) (by decide) ?_
          have hR := refs_up (a := 119) (k := 1) (x := wr ((s 119 1) + 1)) hR rfl
          refine G_go rfl rfl ?_
          refine G_ret rfl rfl ?_
          exact G_ret rfl rfl h
        · have h := h.2 c6
          refine G_go rfl rfl ?_
          refine G_go rfl rfl ?_
          refine G_le rfl rfl (fun c7 => ?_) (fun c7 => ?_)
          · have h := h.1 c7
            refine G_go rfl rfl ?_
            refine G_ret rfl rfl ?_
            refine G_call rfl rfl ?_
            refine G_go rfl rfl ?_
            refine G_go rfl rfl ?_
            refine G_go rfl rfl ?_
            refine G_call rfl rfl ?_
            refine G_go rfl rfl ?_
            refine G_brF rfl rfl rfl ?_
            refine G_go rfl rfl ?_
            refine G_go rfl rfl ?_
            refine G_ret rfl rfl ?_
            refine G_call rfl rfl ?_
            refine G_go rfl rfl ?_
            refine G_brF rfl rfl rfl ?_
            refine G_go rfl rfl ?_
            refine G_go rfl rfl ?_
            refine G_ret rfl rfl ?_
            refine G_ret rfl rfl ?_
            refine G_go rfl rfl ?_
            show G 2 120 69 22 [(3, 2), (1, a0), (1, a1), (1, a2), (1, (-1))] [] (n, s) Q
            refine G_go rfl rfl ?_
            refine G_brF rfl rfl rfl ?_
            refine G_go rfl rfl ?_
            refine G_go rfl rfl ?_
            refine G_call rfl rfl ?_
            refine G_go rfl rfl ?_
            refine G_go rfl rfl ?_
            refine G_go rfl rfl ?_
            refine G_go rfl rfl ?_
            refine G_brF rfl rfl rfl ?_
            refine G_go rfl rfl ?_
            refine G_go rfl rfl ?_
            refine G_rf rfl rfl (by decide) (hR 2 7 119 rfl) ?_
            refine G_go rfl rfl ?_
            refine G_brF rfl rfl rfl ?_
            refine G_go rfl rfl ?_
            refine G_rf rfl rfl (by decide) (hR 2 7 119 rfl) ?_
            refine G_go rfl rfl ?_
            refine G_go rfl rfl ?_
            refine G_ir (n := 7) rfl rfl (by decide) (by decide) (by decide) ?_
            refine G_go rfl rfl ?_
            refine G_go rfl rfl ?_
            refine G_iw (n := 7) rfl rfl (by decide) (by decide) (by decide) ?_
            have hR := refs_up (a := 119) (k := 1) (x := wr ((s 119 1) + 1)) hR rfl
            refine G_go rfl rfl ?_
            refine G_ret rfl rfl ?_
            exact G_ret rfl rfl h
          · have h := h.2 c7
            refine G_go rfl rfl ?_
            refine G_go rfl rfl ?_
            refine G_ret rfl rfl ?_
            refine G_call rfl rfl ?_
            refine G_go rfl rfl ?_
            refine G_go rfl rfl ?_
            refine G_go rfl rfl ?_
            refine G_call rfl rfl ?_
            refine G_go rfl rfl ?_
            refine G_brF rfl rfl rfl ?_
            refine G_go rfl rfl ?_
            refine G_go rfl rfl ?_
            refine G_ret rfl rfl ?_
            refine G_call rfl rfl ?_
            refine G_go rfl rfl ?_
            refine G_brF rfl rfl rfl ?_
            refine G_go rfl rfl ?_
            refine G_go rfl rfl ?_
            refine G_ret rfl rfl ?_
            refine G_ret rfl rfl ?_
            refine G_go rfl rfl ?_
            show G 2 120 69 22 [(3, 2), (1, a0), (1, a1), (1, a2), (1, (-1))] [] (n, s) Q
            refine G_go rfl rfl ?_
            refine G_brF rfl rfl rfl ?_
            refine G_go rfl rfl ?_
            refine G_go rfl rfl ?_
            refine G_call rfl rfl ?_
            refine G_go rfl rfl ?_
            refine G_go rfl rfl ?_
            refine G_go rfl rfl ?_
            refine G_go rfl rfl ?_
            refine G_brF rfl rfl rfl ?_
            refine G_go rfl rfl ?_
            refine G_go rfl rfl ?_
            refine G_rf rfl rfl (by decide) (hR 2 7 119 rfl) ?_
            refine G_go rfl rfl ?_
            refine G_brF rfl rfl rfl ?_
            refine G_go rfl rfl ?_
            refine G_rf rfl rfl (by decide) (hR 2 7 119 rfl) ?_
            refine G_go rfl rfl ?_
            refine G_go rfl rfl ?_
            refine G_ir (n := 7) rfl rfl (by decide) (by decide) (by decide) ?_
            refine G_go rfl rfl ?_
            refine G_go rfl rfl ?_
            refine G_iw (n := 7) rfl rfl (by decide) (by decide) (by decide) ?_
            have hR := refs_up (a := 119) (k := 1) (x := wr ((s 119 1) + 1)) hR rfl
            refine G_go rfl rfl ?_
            refine G_ret rfl rfl ?_
            exact G_ret rfl rfl h
    · have h := h.2 c2
      refine G_go rfl rfl ?_
      refine G_ret rfl rfl ?_
      refine G_go rfl rfl ?_
      refine G_go rfl rfl ?_
      refine G_call rfl rfl ?_
      refine G_go rfl rfl ?_
      refine G_lt rfl rfl (fun c8 => ?_) (fun c8 => ?_)
      · have h := h.1 c8
        refine G_go rfl rfl ?_
        refine G_go rfl rfl ?_
        refine G_ret rfl rfl ?_
        refine G_call rfl rfl ?_
        refine G_go rfl rfl ?_
        refine G_go rfl rfl ?_
        refine G_go rfl rfl ?_
        refine G_call rfl rfl ?_
        refine G_go rfl rfl ?_
        refine G_brF rfl rfl rfl ?_
        refine G_go rfl rfl ?_
        refine G_go rfl rfl ?_
        refine G_ret rfl rfl ?_
        refine G_call rfl rfl ?_
        refine G_go rfl rfl ?_
        refine G_brF rfl rfl rfl ?_
        refine G_go rfl rfl ?_
        refine G_go rfl rfl ?_
        refine G_ret rfl rfl ?_
        refine G_ret rfl rfl ?_
        refine G_go rfl rfl ?_
        show G 2 120 69 22 [(3, 2), (1, a0), (1, a1), (1, a2), (1, (-1))] [] (n, s) Q
        refine G_go rfl rfl ?_
        refine G_brF rfl rfl rfl ?_
        refine G_go rfl rfl ?_
        refine G_go rfl rfl ?_
        refine G_call rfl rfl ?_
        refine G_go rfl rfl ?_
        refine G_go rfl rfl ?_
        refine G_go rfl rfl ?_
        refine G_go rfl rfl ?_
        refine G_brF rfl rfl rfl ?_
        refine G_go rfl rfl ?_
        refine G_go rfl rfl ?_
        refine G_rf rfl rfl (by decide) (hR 2 7 119 rfl) ?_
        refine G_go rfl rfl ?_
        refine G_brF rfl rfl rfl ?_
        refine G_go rfl rfl ?_
        refine G_rf rfl rfl (by decide) (hR 2 7 119 rfl) ?_
        refine G_go rfl rfl ?_
        refine G_go rfl rfl ?_
        refine G_ir (n := 7) rfl rfl (by decide) (by decide) (by decide) ?_
        refine G_go rfl rfl ?_
        refine G_go rfl rfl ?_
        refine G_iw (n := 7) rfl rfl (by decide) (by decide) (by decide) ?_
        have hR := refs_up (a := 119) (k := 1) (x := wr ((s 119 1) + 1)) hR rfl
        refine G_go rfl rfl ?_
        refine G_ret rfl rfl ?_
        exact G_ret rfl rfl h
      · have h := h.2 c8
        refine G_go rfl rfl ?_
        refine G_go rfl rfl ?_
        refine G_le rfl rfl (fun c9 => ?_) (fun c9 => ?_)
        · have h := h.1 c9
          refine G_go rfl rfl ?_
          refine G_ret rfl rfl ?_
          refine G_call rfl rfl ?_
          refine G_go rfl rfl ?_
          refine G_go rfl rfl ?_
          refine G_go rfl rfl ?_
          refine G_call rfl rfl ?_
          refine G_go rfl rfl ?_
          refine G_brF rfl rfl rfl ?_
          refine G_go rfl rfl ?_
          refine G_go rfl rfl ?_
          refine G_ret rfl rfl ?_
          refine G_call rfl rfl ?_
          refine G_go rfl rfl ?_
          refine G_brF rfl rfl rfl ?_
          refine G_go rfl rfl ?_
          refine G_go rfl rfl ?_
          refine G_ret rfl rfl ?_
          refine G_ret rfl rfl ?_
          refine G_go rfl rfl ?_
          show G 2 120 69 22 [(3, 2), (1, a0), (1, a1), (1, a2), (1, (-1))] [] (n, s) Q
          refine G_go rfl rfl ?_
          refine G_brF rfl rfl rfl ?_
          refine G_go rfl rfl ?_
          refine G_go rfl rfl ?_
          refine G_call rfl rfl ?_
          refine G_go rfl rfl ?_
          refine G_go rfl rfl ?_
          refine G_go rfl rfl ?_
          refine G_go rfl rfl ?_
          refine G_brF rfl rfl rfl ?_
          refine G_go rfl rfl ?_
          refine G_go rfl rfl ?_
          refine G_rf rfl rfl (by decide) (hR 2 7 119 rfl) ?_
          refine G_go rfl rfl ?_
          refine G_brF rfl rfl rfl ?_
          refine G_go rfl rfl ?_
          refine G_rf rfl rfl (by decide) (hR 2 7 119 rfl) ?_
          refine G_go rfl rfl ?_
          refine G_go rfl rfl ?_
          refine G_ir (n := 7) rfl rfl (by decide) (by decide) (by decide) ?_
          refine G_go rfl rfl ?_
          refine G_go rfl rfl ?_
          refine G_iw (n := 7) rfl rfl (by decide) (by decide) (by decide) ?_
          have hR := refs_up (a := 119) (k := 1) (x := wr ((s 119 1) + 1)) hR rfl
          refine G_go rfl rfl ?_
          refine G_ret rfl rfl ?_
          exact G_ret rfl rfl h
        · have h := h.2 c9
          refine G_go rfl rfl ?_
          refine G_go rfl rfl ?_
          refine G_ret rfl rfl ?_
          refine G_call rfl rfl ?_
          refine G_go rfl rfl ?_
          refine G_go rfl rfl ?_
          refine G_go rfl rfl ?_
          refine G_call rfl rfl ?_
          refine G_go rfl rfl ?_
          refine G_brF rfl rfl rfl ?_
          refine G_go rfl rfl ?_
          refine G_go rfl rfl ?_
          refine G_ret rfl rfl ?_
          refine G_call rfl rfl ?_
          refine G_go rfl rfl ?_
          refine G_brF rfl rfl rfl ?_
          refine G_go rfl rfl ?_
          refine G_go rfl rfl ?_
          refine G_ret rfl rfl ?_
          refine G_ret rfl rfl ?_
          refine G_go rfl rfl ?_
          show G 2 120 69 22 [(3, 2), (1, a0), (1, a1), (1, a2), (1, (-1))] [] (n, s) Q
          refine G_go rfl rfl ?_
          refine G_brF rfl rfl rfl ?_
          refine G_go rfl rfl ?_
          refine G_go rfl rfl ?_
          refine G_call rfl rfl ?_
          refine G_go rfl rfl ?_
          refine G_go rfl rfl ?_
          refine G_go rfl rfl ?_
          refine G_go rfl rfl ?_
          refine G_brF rfl rfl rfl ?_
          refine G_go rfl rfl ?_
          refine G_go rfl rfl ?_
          refine G_rf rfl rfl (by decide) (hR 2 7 119 rfl) ?_
          refine G_go rfl rfl ?_
          refine G_brF rfl rfl rfl ?_
          refine G_go rfl rfl ?_
          refine G_rf rfl rfl (by decide) (hR 2 7 119 rfl) ?_
          refine G_go rfl rfl ?_
          refine G_go rfl rfl ?_
          refine G_ir (n := 7) rfl rfl (by decide) (by decide) (by decide) ?_
          refine G_go rfl rfl ?_
          refine G_go rfl rfl ?_
          refine G_iw (n := 7) rfl rfl (by decide) (by decide) (by decide) ?_
          have hR := refs_up (a := 119) (k := 1) (x := wr ((s 119 1) + 1)) hR rfl
          refine G_go rfl rfl ?_
          refine G_ret rfl rfl ?_
          exact G_ret rfl rfl h
  · have h := h.2 c1
    refine G_go rfl rfl ?_
    refine G_go rfl rfl ?_
    refine G_rd rfl rfl (by decide) ?_
    refine G_ge rfl rfl (fun c10 => ?_) (fun c10 => ?_)
    · have h := h.1 c10
      refine G_go rfl rfl ?_
      refine G_ret rfl rfl ?_
      refine G_brT rfl rfl rfl ?_
      refine G_go rfl rfl ?_
      refine G_ret rfl rfl ?_
      refine G_go rfl rfl ?_
      refine G_go rfl rfl ?_
      refine G_go rfl rfl ?_
      refine G_call rfl rfl ?_
      refine G_go rfl rfl ?_
      refine G_go rfl rfl ?_
      refine G_ge rfl rfl (fun c11 => ?_) (fun c11 => ?_)
      · have h := h.1 c11
        refine G_go rfl rfl ?_
        refine G_go rfl rfl ?_
        refine G_le rfl rfl (fun c12 => ?_) (fun c12 => ?_)
        · have h := h.1 c12
          refine G_go rfl rfl ?_
          refine G_ret rfl rfl ?_
          refine G_go rfl rfl ?_
          refine G_go rfl rfl ?_
          refine G_call rfl rfl ?_
          refine G_go rfl rfl ?_
          refine G_lt rfl rfl (fun c13 => ?_) (fun c13 => ?_)
          · have h := h.1 c13
            refine G_go rfl rfl ?_
            refine G_go rfl rfl ?_
            refine G_ret rfl rfl ?_
            refine G_call rfl rfl ?_
            refine G_go rfl rfl ?_
            refine G_go rfl rfl ?_
            refine G_go rfl rfl ?_
            refine G_call rfl rfl ?_
            refine G_go rfl rfl ?_
            refine G_brT rfl rfl rfl ?_
            refine G_go rfl rfl ?_
            refine G_ret rfl rfl ?_
            refine G_call rfl rfl ?_
            refine G_go rfl rfl ?_
            refine G_brF rfl rfl rfl ?_
            refine G_go rfl rfl ?_
            refine G_go rfl rfl ?_
            refine G_ret rfl rfl ?_
            refine G_ret rfl rfl ?_
            refine G_go rfl rfl ?_
            show G 2 120 69 22 [(3, 2), (1, a0), (1, a1), (1, a2), (1, (-1))] [] (n, s) Q
            refine G_go rfl rfl ?_
            refine G_brF rfl rfl rfl ?_
            refine G_go rfl rfl ?_
            refine G_go rfl rfl ?_
            refine G_call rfl rfl ?_
            refine G_go rfl rfl ?_
            refine G_go rfl rfl ?_
            refine G_go rfl rfl ?_
            refine G_go rfl rfl ?_
            refine G_brF rfl rfl rfl ?_
            refine G_go rfl rfl ?_
            refine G_go rfl rfl ?_
            refine G_rf rfl rfl (by decide) (hR 2 7 119 rfl) ?_
            refine G_go rfl rfl ?_
            refine G_brF rfl rfl rfl ?_
            refine G_go rfl rfl ?_
            refine G_rf rfl rfl (by decide) (hR 2 7 119 rfl) ?_
            refine G_go rfl rfl ?_
            refine G_go rfl rfl ?_
            refine G_ir (n := 7) rfl rfl (by decide) (by decide) (by decide) ?_
            refine G_go rfl rfl ?_
            refine G_go rfl rfl ?_
            refine G_iw (n := 7) rfl rfl (by decide) (by decide) (by decide) ?_
            have hR := refs_up (a := 119) (k := 1) (x := wr ((s 119 1) + 1)) hR rfl
            refine G_go rfl rfl ?_
            refine G_ret rfl rfl ?_
            exact G_ret rfl rfl h
          · have h := h.2 c13
            refine G_go rfl rfl ?_
            refine G_go rfl rfl ?_
            refine G_le rfl rfl (fun c14 => ?_) (fun c14 => ?_)
            · have h := h.1 c14
              refine G_go rfl rfl ?_
              refine G_ret rfl rfl ?_
              refine G_call rfl rfl ?_
              refine G_go rfl rfl ?_
              refine G_go rfl rfl ?_
              refine G_go rfl rfl ?_
              refine G_call rfl rfl ?_
              refine G_go rfl rfl ?_
              refine G_brT rfl rfl rfl ?_
              refine G_go rfl rfl ?_
              refine G_ret rfl rfl ?_
              refine G_call rfl rfl ?_
              refine G_go rfl rfl ?_
              refine G_brF rfl rfl rfl ?_
              refine G_go rfl rfl ?_
              refine G_go rfl rfl ?_
              refine G_ret rfl rfl ?_
              refine G_ret rfl rfl ?_
              refine G_go rfl rfl ?_
              show G 2 120 69 22 [(3, 2), (1, a0), (1, a1), (1, a2), (1, (-1))] [] (n, s) Q
              refine G_go rfl rfl ?_
              refine G_brF rfl rfl rfl ?_
              refine G_go rfl rfl ?_
              refine G_go rfl rfl ?_
              refine G_call rfl rfl ?_
              refine G_go rfl rfl ?_
              refine G_go rfl rfl ?_
              refine G_go rfl rfl ?_
              refine G_go rfl rfl ?_
              refine G_brF rfl rfl rfl ?_
              refine G_go rfl rfl ?_
              refine G_go rfl rfl ?_
              refine G_rf rfl rfl (by decide) (hR 2 7 119 rfl) ?_
              refine G_go rfl rfl ?_
              refine G_brF rfl rfl rfl ?_
              refine G_go rfl rfl ?_
              refine G_rf rfl rfl (by decide) (hR 2 7 119 rfl) ?_
              refine G_go rfl rfl ?_
              refine G_go rfl rfl ?_
              refine G_ir (n := 7) rfl rfl (by decide) (by decide) (by decide) ?_
              refine G_go rfl rfl ?_
              refine G_go rfl rfl ?_
              refine G_iw (n := 7) rfl rfl (by decide) (by decide) (by decide) ?_
              have hR := refs_up (a := 119) (k := 1) (x := wr ((s 119 1) + 1)) hR rfl
              refine G_go rfl rfl ?_
              refine G_ret rfl rfl ?_
              exact G_ret rfl rfl h
            · have h := h.2 c14
              refine G_go rfl rfl ?_
              refine G_go rfl rfl ?_
              refine G_ret rfl rfl ?_
              refine G_call rfl rfl ?_
              refine G_go rfl rfl ?_
              refine G_go rfl rfl ?_
              refine G_go rfl rfl ?_
              refine G_call rfl rfl ?_
              refine G_go rfl rfl ?_
              refine G_brT rfl rfl rfl ?_
              refine G_go rfl rfl ?_
              refine G_ret rfl rfl ?_
              refine G_call rfl rfl ?_
              refine G_go rfl rfl ?_
              refine G_brF rfl rfl rfl ?_
              refine G_go rfl rfl ?_
              refine G_go rfl rfl ?_
              refine G_ret rfl rfl ?_
              refine G_ret rfl rfl ?_
              refine G_go rfl rfl ?_
              show G 2 120 69 22 [(3, 2), (1, a0), (1, a1), (1, a2), (1, (-1))] [] (n, s) Q
              refine G_go rfl rfl ?_
              refine G_brF rfl rfl rfl ?_
              refine G_go rfl rfl ?_
              refine G_go rfl rfl ?_
              refine G_call rfl rfl ?_
              refine G_go rfl rfl ?_
              refine G_go rfl rfl ?_
              refine G_go rfl rfl ?_
              refine G_go rfl rfl ?_
              refine G_brF rfl rfl rfl ?_
              refine G_go rfl rfl ?_
              refine G_go rfl rfl ?_
              refine G_rf rfl rfl (by decide) (hR 2 7 119 rfl) ?_
              refine G_go rfl rfl ?_
              refine G_brF rfl rfl rfl ?_
              refine G_go rfl rfl ?_
              refine G_rf rfl rfl (by decide) (hR 2 7 119 rfl) ?_
              refine G_go rfl rfl ?_
              refine G_go rfl rfl ?_
              refine G_ir (n := 7) rfl rfl (by decide) (by decide) (by decide) ?_
              refine G_go rfl rfl ?_
              refine G_go rfl rfl ?_
              refine G_iw (n := 7) rfl rfl (by decide) (by decide) (by decide) ?_
              have hR := refs_up (a := 119) (k := 1) (x := wr ((s 119 1) + 1)) hR rfl
              refine G_go rfl rfl ?_
              refine G_ret rfl rfl ?_
              exact G_ret rfl rfl h
        · have h := h.2 c12
          refine G_go rfl rfl ?_
          refine G_go rfl rfl ?_
          refine G_ret rfl rfl ?_
          refine G_go rfl rfl ?_
          refine G_go rfl rfl ?_
          refine G_call rfl rfl ?_
          refine G_go rfl rfl ?_
          refine G_lt rfl rfl (fun c15 => ?_) (fun c15 => ?_)
          · have h := h.1 c15
            refine G_go rfl rfl ?_
            refine G_go rfl rfl ?_
            refine G_ret rfl rfl ?_
            refine G_call rfl rfl ?_
            refine G_go rfl rfl ?_
            refine G_go rfl rfl ?_
            refine G_go rfl rfl ?_
            refine G_call rfl rfl ?_
            refine G_go rfl rfl ?_
            refine G_brF rfl rfl rfl ?_
            refine G_go rfl rfl ?_
            refine G_go rfl rfl ?_
            refine G_ret rfl rfl ?_
            refine G_call rfl rfl ?_
            refine G_go rfl rfl ?_
            refine G_brF rfl rfl rfl ?_
            refine G_go rfl rfl ?_
            refine G_go rfl rfl ?_
            refine G_ret rfl rfl ?_
            refine G_ret rfl rfl ?_
            refine G_go rfl rfl ?_
            show G 2 120 69 22 [(3, 2), (1, a0), (1, a1), (1, a2), (1, (-1))] [] (n, s) Q
            refine G_go rfl rfl ?_
            refine G_brF rfl rfl rfl ?_
            refine G_go rfl rfl ?_
            refine G_go rfl rfl ?_
            refine G_call rfl rfl ?_
            refine G_go rfl rfl ?_
            refine G_go rfl rfl ?_
            refine G_go rfl rfl ?_
            refine G_go rfl rfl ?_
            refine G_brF rfl rfl rfl ?_
            refine G_go rfl rfl ?_
            refine G_go rfl rfl ?_
            refine G_rf rfl rfl (by decide) (hR 2 7 119 rfl) ?_
            refine G_go rfl rfl ?_
            refine G_brF rfl rfl rfl ?_
            refine G_go rfl rfl ?_
            refine G_rf rfl rfl (by decide) (hR 2 7 119 rfl) ?_
            refine G_go rfl rfl ?_
            refine G_go rfl rfl ?_
            refine G_ir (n := 7) rfl rfl (by decide) (by decide) (by decide) ?_
            refine G_go rfl rfl ?_
            refine G_go rfl rfl ?_
            refine G_iw (n := 7) rfl rfl (by decide) (by decide) (by decide) ?_
            have hR := refs_up (a := 119) (k := 1) (x := wr ((s 119 1) + 1)) hR rfl
            refine G_go rfl rfl ?_
            refine G_ret rfl rfl ?_
            exact G_ret rfl rfl h
          · have h := h.2 c15
            refine G_go rfl rfl ?_
            refine G_go rfl rfl ?_
            refine G_le rfl rfl (fun c16 => ?_) (fun c16 => ?_)
            · have h := h.1 c16
              refine G_go rfl rfl ?_
              refine G_ret rfl rfl ?_
              refine G_call rfl rfl ?_
              refine G_go rfl rfl ?_
              refine G_go rfl rfl ?_
              refine G_go rfl rfl ?_
              refine G_call rfl rfl ?_
              refine G_go rfl rfl ?_
              refine G_brF rfl rfl rfl ?_
              refine G_go rfl rfl ?_
              refine G_go rfl rfl ?_
              refine G_ret rfl rfl ?_
              refine G_call rfl rfl ?_
              refine G_go rfl rfl ?_
              refine G_brF rfl rfl rfl ?_
              refine G_go rfl rfl ?_
              refine G_go rfl rfl ?_
              refine G_ret rfl rfl ?_
              refine G_ret rfl rfl ?_
              refine G_go rfl rfl ?_
              show G 2 120 69 22 [(3, 2), (1, a0), (1, a1), (1, a2), (1, (-1))] [] (n, s) Q
              refine G_go rfl rfl ?_
              refine G_brF rfl rfl rfl ?_
              refine G_go rfl rfl ?_
              refine G_go rfl rfl ?_
              refine G_call rfl rfl ?_
              refine G_go rfl rfl ?_
              refine G_go rfl rfl ?_
              refine G_go rfl rfl ?_
              refine G_go rfl rfl ?_
              refine G_brF rfl rfl rfl ?_
              refine G_go rfl rfl ?_
              refine G_go rfl rfl ?_
              refine G_rf rfl rfl (by decide) (hR 2 7 119 rfl) ?_
              refine G_go rfl rfl ?_
              refine G_brF rfl rfl rfl ?_
              refine G_go rfl rfl ?_
              refine G_rf rfl rfl (by decide) (hR 2 7 119 rfl) ?_
              refine G_go rfl rfl ?_
              refine G_go rfl rfl ?_
              refine G_ir (n := 7) rfl rfl (by decide) (by decide) (by decide) ?_
              refine G_go rfl rfl ?_
              refine G_go rfl rfl ?_
              refine G_iw (n := 7) rfl rfl (by decide) (by decide) (by decide) ?_
              have hR := refs_up (a := 119) (k := 1) (x := wr ((s 119 1) + 1)) hR rfl
              refine G_go rfl rfl ?_
              refine G_ret rfl rfl ?_
              exact G_ret rfl rfl h
            · have h := h.2 c16
              refine G_go rfl rfl ?_
              refine G_go rfl rfl ?_
              refine G_ret rfl rfl ?_
              refine G_call rfl rfl ?_
              refine G_go rfl rfl ?_
              refine G_go rfl rfl ?_
              refine G_go rfl rfl ?_
              refine G_call rfl rfl ?_
              refine G_go rfl rfl ?_
              refine G_brF rfl rfl rfl ?_
              refine G_go rfl rfl ?_
              refine G_go rfl rfl ?_
              refine G_ret rfl rfl ?_
              refine G_call rfl rfl ?_
              refine G_go rfl rfl ?_
              refine G_brF rfl rfl rfl ?_
              refine G_go rfl rfl ?_
              refine G_go rfl rfl ?_
              refine G_ret rfl rfl ?_
              refine G_ret rfl rfl ?_
              refine G_go rfl rfl ?_
              show G 2 120 69 22 [(3, 2), (1, a0), (1, a1), (1, a2), (1, (-1))] [] (n, s) Q
              refine G_go rfl rfl ?_
              refine G_brF rfl rfl rfl ?_
              refine G_go rfl rfl ?_
              refine G_go rfl rfl ?_
              refine G_call rfl rfl ?_
              refine G_go rfl rfl ?_
              refine G_go rfl rfl ?_
              refine G_go rfl rfl ?_
              refine G_go rfl rfl ?_
              refine G_brF rfl rfl rfl ?_
              refine G_go rfl rfl ?_
              refine G_go rfl rfl ?_
              refine G_rf rfl rfl (by decide) (hR 2 7 119 rfl) ?_
              refine G_go rfl rfl ?_
              refine G_brF rfl rfl rfl ?_
              refine G_go rfl rfl ?_
              refine G_rf rfl rfl (by decide) (hR 2 7 119 rfl) ?_
              refine G_go rfl rfl ?_
              refine G_go rfl rfl ?_
              refine G_ir (n := 7) rfl rfl (by decide) (by decide) (by decide) ?_
              refine G_go rfl rfl ?_
              refine G_go rfl rfl ?_
              refine G_iw (n := 7) rfl rfl (by decide) (by decide) (by decide) ?_
              have hR := refs_up (a := 119) (k := 1) (x := wr ((s 119 1) + 1)) hR rfl
              refine G_go rfl rfl ?_
              refine G_ret rfl rfl ?_
              exact G_ret rfl rfl h
      · have h := h.2 c11
        refine G_go rfl rfl ?_
        refine G_ret rfl rfl ?_
        refine G_go rfl rfl ?_
        refine G_go rfl rfl ?_
        refine G_call rfl rfl ?_
        refine G_go rfl rfl ?_
        refine G_lt rfl rfl (fun c17 => ?_) (fun c17 => ?_)
        · have h := h.1 c17
          refine G_go rfl rfl ?_
          refine G_go rfl rfl ?_
          refine G_ret rfl rfl ?_
          refine G_call rfl rfl ?_
          refine G_go rfl rfl ?_
          refine G_go rfl rfl ?_
          refine G_go rfl rfl ?_
          refine G_call rfl rfl ?_
          refine G_go rfl rfl ?_
          refine G_brF rfl rfl rfl ?_
          refine G_go rfl rfl ?_
          refine G_go rfl rfl ?_
          refine G_ret rfl rfl ?_
          refine G_call rfl rfl ?_
          refine G_go rfl rfl ?_
          refine G_brF rfl rfl rfl ?_
          refine G_go rfl rfl ?_
          refine G_go rfl rfl ?_
          refine G_ret rfl rfl ?_
          refine G_ret rfl rfl ?_
          refine G_go rfl rfl ?_
          show G 2 120 69 22 [(3, 2), (1, a0), (1, a1), (1, a2), (1, (-1))] [] (n, s) Q
          refine G_go rfl rfl ?_
          refine G_brF rfl rfl rfl ?_
          refine G_go rfl rfl ?_
          refine G_go rfl rfl ?_
          refine G_call rfl rfl ?_
          refine G_go rfl rfl ?_
          refine G_go rfl rfl ?_
          refine G_go rfl rfl ?_
          refine G_go rfl rfl ?_
          refine G_brF rfl rfl rfl ?_
          refine G_go rfl rfl ?_
          refine G_go rfl rfl ?_
          refine G_rf rfl rfl (by decide) (hR 2 7 119 rfl) ?_
          refine G_go rfl rfl ?_
          refine G_brF rfl rfl rfl ?_
          refine G_go rfl rfl ?_
          refine G_rf rfl rfl (by decide) (hR 2 7 119 rfl) ?_
          refine G_go rfl rfl ?_
          refine G_go rfl rfl ?_
          refine G_ir (n := 7) rfl rfl (by decide) (by decide) (by decide) ?_
          refine G_go rfl rfl ?_
          refine G_go rfl rfl ?_
          refine G_iw (n := 7) rfl rfl (by decide) (by decide) (by decide) ?_
          have hR := refs_up (a := 119) (k := 1) (x := wr ((s 119 1) + 1)) hR rfl
          refine G_go rfl rfl ?_
          refine G_ret rfl rfl ?_
          exact G_ret rfl rfl h
        · have h := h.2 c17
          refine G_go rfl rfl ?_
          refine G_go rfl rfl ?_
          refine G_le rfl rfl (fun c18 => ?_) (fun c18 => ?_)
          · have h := h.1 c18
            refine G_go rfl rfl ?_
            refine G_ret rfl rfl ?_
            refine G_call rfl rfl ?_
            refine G_go rfl rfl ?_
            refine G_go rfl rfl ?_
            refine G_go rfl rfl ?_
            refine G_call rfl rfl ?_
            refine G_go rfl rfl ?_
            refine G_brF rfl rfl rfl ?_
            refine G_go rfl rfl ?_
            refine G_go rfl rfl ?_
            refine G_ret rfl rfl ?_
            refine G_call rfl rfl ?_
            refine G_go rfl rfl ?_
            refine G_brF rfl rfl rfl ?_
            refine G_go rfl rfl ?_
            refine G_go rfl rfl ?_
            refine G_ret rfl rfl ?_
            refine G_ret rfl rfl ?_
            refine G_go rfl rfl ?_
            show G 2 120 69 22 [(3, 2), (1, a0), (1, a1), (1, a2), (1, (-1))] [] (n, s) Q
            refine G_go rfl rfl ?_
            refine G_brF rfl rfl rfl ?_
            refine G_go rfl rfl ?_
            refine G_go rfl rfl ?_
            refine G_call rfl rfl ?_
            refine G_go rfl rfl ?_
            refine G_go rfl rfl ?_
            refine G_go rfl rfl ?_
            refine G_go rfl rfl ?_
            refine G_brF rfl rfl rfl ?_
            refine G_go rfl rfl ?_
            refine G_go rfl rfl ?_
            refine G_rf rfl rfl (by decide) (hR 2 7 119 rfl) ?_
            refine G_go rfl rfl ?_
            refine G_brF rfl rfl rfl ?_
            refine G_go rfl rfl ?_
            refine G_rf rfl rfl (by decide) (hR 2 7 119 rfl) ?_
            refine G_go rfl rfl ?_
            refine G_go rfl rfl ?_
            refine G_ir (n := 7) rfl rfl (by decide) (by decide) (by decide) ?_
            refine G_go rfl rfl ?_
            refine G_go rfl rfl ?_
            refine G_iw (n := 7) rfl rfl (by decide) (by decide) (by decide) ?_
            have hR := refs_up (a := 119) (k := 1) (x := wr ((s 119 1) + 1)) hR rfl
            refine G_go rfl rfl ?_
            refine G_ret rfl rfl ?_
            exact G_ret rfl rfl h
          · have h := h.2 c18
            refine G_go rfl rfl ?_
            refine G_go rfl rfl ?_
            refine G_ret rfl rfl ?_
            refine G_call rfl rfl ?_
            refine G_go rfl rfl ?_
            refine G_go rfl rfl ?_
            refine G_go rfl rfl ?_
            refine G_call rfl rfl ?_
            refine G_go rfl rfl ?_
            refine G_brF rfl rfl rfl ?_
            refine G_go rfl rfl ?_
            refine G_go rfl rfl ?_
            refine G_ret rfl rfl ?_
            refine G_call rfl rfl ?_
            refine G_go rfl rfl ?_
            refine G_brF rfl rfl rfl ?_
            refine G_go rfl rfl ?_
            refine G_go rfl rfl ?_
            refine G_ret rfl rfl ?_
            refine G_ret rfl rfl ?_
            refine G_go rfl rfl ?_
            show G 2 120 69 22 [(3, 2), (1, a0), (1, a1), (1, a2), (1, (-1))] [] (n, s) Q
            refine G_go rfl rfl ?_
            refine G_brF rfl rfl rfl ?_
            refine G_go rfl rfl ?_
            refine G_go rfl rfl ?_
            refine G_call rfl rfl ?_
            refine G_go rfl rfl ?_
            refine G_go rfl rfl ?_
            refine G_go rfl rfl ?_
            refine G_go rfl rfl ?_
            refine G_brF rfl rfl rfl ?_
            refine G_go rfl rfl ?_
            refine G_go rfl rfl ?_
            refine G_rf rfl rfl (by decide) (hR 2 7 119 rfl) ?_
            refine G_go rfl rfl ?_
            refine G_brF rfl rfl rfl ?_
            refine G_go rfl rfl ?_
            refine G_rf rfl rfl (by decide) (hR 2 7 119 rfl) ?_
            refine G_go rfl rfl ?_
            refine G_go rfl rfl ?_
            refine G_ir (n := 7) rfl rfl (by decide) (by decide) (by decide) ?_
            refine G_go rfl rfl ?_
            refine G_go rfl rfl ?_
            refine G_iw (n := 7) rfl rfl (by decide) (by decide) (by decide) ?_
            have hR := refs_up (a := 119) (k := 1) (x := wr ((s 119 1) + 1)) hR rfl
            refine G_go rfl rfl ?_
            refine G_ret rfl rfl ?_
            exact G_ret rfl rfl h
    · have h := h.2 c10
      refine G_go rfl rfl ?_
      refine G_go rfl rfl ?_
      refine G_ret rfl rfl ?_
      refine G_brF rfl rfl rfl ?_
      refine G_go rfl rfl ?_
      refine G_go rfl rfl ?_
      refine G_ret rfl rfl ?_
      refine G_go rfl rfl ?_
      refine G_go rfl rfl ?_
      refine G_go rfl rfl ?_
      refine G_call rfl rfl ?_
      refine G_go rfl rfl ?_
      refine G_go rfl rfl ?_
      refine G_ge rfl rfl (fun c19 => ?_) (fun c19 => ?_)
      · have h := h.1 c19
        refine G_go rfl rfl ?_
        refine G_go rfl rfl ?_
        refine G_le rfl rfl (fun c20 => ?_) (fun c20 => ?_)
        · have h := h.1 c20
          refine G_go rfl rfl ?_
          refine G_ret rfl rfl ?_
          refine G_go rfl rfl ?_
          refine G_go rfl rfl ?_
          refine G_call rfl rfl ?_
          refine G_go rfl rfl ?_
          refine G_lt rfl rfl (fun c21 => ?_) (fun c21 => ?_)
          · have h := h.1 c21
            refine G_go rfl rfl ?_
            refine G_go rfl rfl ?_
            refine G_ret rfl rfl ?_
            refine G_call rfl rfl ?_
            refine G_go rfl rfl ?_
            refine G_go rfl rfl ?_
            refine G_go rfl rfl ?_
            refine G_call rfl rfl ?_
            refine G_go rfl rfl ?_
            refine G_brT rfl rfl rfl ?_
            refine G_go rfl rfl ?_
            refine G_ret rfl rfl ?_
            refine G_call rfl rfl ?_
            refine G_go rfl rfl ?_
            refine G_brT rfl rfl rfl ?_
            refine G_go rfl rfl ?_
            refine G_ret rfl rfl ?_
            refine G_ret rfl rfl ?_
            refine G_go rfl rfl ?_
            show G 2 120 69 22 [(3, 2), (1, a0), (1, a1), (1, a2), (1, (-2))] [] (n, s) Q
            refine G_go rfl rfl ?_
            refine G_brF rfl rfl rfl ?_
            refine G_go rfl rfl ?_
            refine G_go rfl rfl ?_
            refine G_call rfl rfl ?_
            refine G_go rfl rfl ?_
            refine G_go rfl rfl ?_
            refine G_go rfl rfl ?_
            refine G_go rfl rfl ?_
            refine G_brF rfl rfl rfl ?_
            refine G_go rfl rfl ?_
            refine G_go rfl rfl ?_
            refine G_rf rfl rfl (by decide) (hR 2 7 119 rfl) ?_
            refine G_go rfl rfl ?_
            refine G_brF rfl rfl rfl ?_
            refine G_go rfl rfl ?_
            refine G_rf rfl rfl (by decide) (hR 2 7 119 rfl) ?_
            refine G_go rfl rfl ?_
            refine G_go rfl rfl ?_
            refine G_ir (n := 7) rfl rfl (by decide) (by decide) (by decide) ?_
            refine G_go rfl rfl ?_
            refine G_go rfl rfl ?_
            refine G_iw (n := 7) rfl rfl (by decide) (by decide) (by decide) ?_
            have hR := refs_up (a := 119) (k := 2) (x := wr ((s 119 2) + 1)) hR rfl
            refine G_go rfl rfl ?_
            refine G_ret rfl rfl ?_
            exact G_ret rfl rfl h
          · have h := h.2 c21
            refine G_go rfl rfl ?_
            refine G_go rfl rfl ?_
            refine G_le rfl rfl (fun c22 => ?_) (fun c22 => ?_)
            · have h := h.1 c22
              refine G_go rfl rfl ?_
              refine G_ret rfl rfl ?_
              refine G_call rfl rfl ?_
              refine G_go rfl rfl ?_
              refine G_go rfl rfl ?_
              refine G_go rfl rfl ?_
              refine G_call rfl rfl ?_
              refine G_go rfl rfl ?_
              refine G_brT rfl rfl rfl ?_
              refine G_go rfl rfl ?_
              refine G_ret rfl rfl ?_
              refine G_call rfl rfl ?_
              refine G_go rfl rfl ?_
              refine G_brT rfl rfl rfl ?_
              refine G_go rfl rfl ?_
              refine G_ret rfl rfl ?_
              refine G_ret rfl rfl ?_
              refine G_go rfl rfl ?_
              show G 2 120 69 22 [(3, 2), (1, a0), (1, a1), (1, a2), (1, 0)] [] (n, s) Q
              refine G_go rfl rfl ?_
              refine G_brT rfl rfl rfl ?_
              refine G_go rfl rfl ?_
              refine G_rf rfl rfl (by decide) (hR 2 1 13 rfl) ?_
              refine G_go rfl rfl ?_
              refine G_rf rfl rfl (by decide) (hR 2 0 3 rfl) ?_
              exact G_call rfl rfl h
            · have h := h.2 c22
              refine G_go rfl rfl ?_
              refine G_go rfl rfl ?_
              refine G_ret rfl rfl ?_
              refine G_call rfl rfl ?_
              refine G_go rfl rfl ?_
              refine G_go rfl rfl ?_
              refine G_go rfl rfl ?_
              refine G_call rfl rfl ?_
              refine G_go rfl rfl ?_
              refine G_brT rfl rfl rfl ?_
              refine G_go rfl rfl ?_
              refine G_ret rfl rfl ?_
              refine G_call rfl rfl ?_
              refine G_go rfl rfl ?_
              refine G_brT rfl rfl rfl ?_
              refine G_go rfl rfl ?_
              refine G_ret rfl rfl ?_
              refine G_ret rfl rfl ?_
              refine G_go rfl rfl ?_
              show G 2 120 69 22 [(3, 2), (1, a0), (1, a1), (1, a2), (1, (-2))] [] (n, s) Q
              refine G_go rfl rfl ?_
              refine G_brF rfl rfl rfl ?_
              refine G_go rfl rfl ?_
              refine G_go rfl rfl ?_
              refine G_call rfl rfl ?_
              refine G_go rfl rfl ?_
              refine G_go rfl rfl ?_
              refine G_go rfl rfl ?_
              refine G_go rfl rfl ?_
              refine G_brF rfl rfl rfl ?_
              refine G_go rfl rfl ?_
              refine G_go rfl rfl ?_
              refine G_rf rfl rfl (by decide) (hR 2 7 119 rfl) ?_
              refine G_go rfl rfl ?_
              refine G_brF rfl rfl rfl ?_
              refine G_go rfl rfl ?_
              refine G_rf rfl rfl (by decide) (hR 2 7 119 rfl) ?_
              refine G_go rfl rfl ?_
              refine G_go rfl rfl ?_
              refine G_ir (n := 7) rfl rfl (by decide) (by decide) (by decide) ?_
              refine G_go rfl rfl ?_
              refine G_go rfl rfl ?_
              refine G_iw (n := 7) rfl rfl (by decide) (by decide) (by decide) ?_
              have hR := refs_up (a := 119) (k := 2) (x := wr ((s 119 2) + 1)) hR rfl
              refine G_go rfl rfl ?_
              refine G_ret rfl rfl ?_
              exact G_ret rfl rfl h
        · have h := h.2 c20
          refine G_go rfl rfl ?_
          refine G_go rfl rfl ?_
          refine G_ret rfl rfl ?_
          refine G_go rfl rfl ?_
          refine G_go rfl rfl ?_
          refine G_call rfl rfl ?_
          refine G_go rfl rfl ?_
          refine G_lt rfl rfl (fun c23 => ?_) (fun c23 => ?_)
          · have h := h.1 c23
            refine G_go rfl rfl ?_
            refine G_go rfl rfl ?_
            refine G_ret rfl rfl ?_
            refine G_call rfl rfl ?_
            refine G_go rfl rfl ?_
            refine G_go rfl rfl ?_
            refine G_go rfl rfl ?_
            refine G_call rfl rfl ?_
            refine G_go rfl rfl ?_
            refine G_brF rfl rfl rfl ?_
            refine G_go rfl rfl ?_
            refine G_go rfl rfl ?_
            refine G_ret rfl rfl ?_
            refine G_call rfl rfl ?_
            refine G_go rfl rfl ?_
            refine G_brT rfl rfl rfl ?_
            refine G_go rfl rfl ?_
            refine G_ret rfl rfl ?_
            refine G_ret rfl rfl ?_
            refine G_go rfl rfl ?_
            show G 2 120 69 22 [(3, 2), (1, a0), (1, a1), (1, a2), (1, (-6))] [] (n, s) Q
            refine G_go rfl rfl ?_
            refine G_brF rfl rfl rfl ?_
            refine G_go rfl rfl ?_
            refine G_go rfl rfl ?_
            refine G_call rfl rfl ?_
            refine G_go rfl rfl ?_
            refine G_go rfl rfl ?_
            refine G_go rfl rfl ?_
            refine G_go rfl rfl ?_
            refine G_brF rfl rfl rfl ?_
            refine G_go rfl rfl ?_
            refine G_go rfl rfl ?_
            refine G_rf rfl rfl (by decide) (hR 2 7 119 rfl) ?_
            refine G_go rfl rfl ?_
            refine G_brF rfl rfl rfl ?_
            refine G_go rfl rfl ?_
            refine G_rf rfl rfl (by decide) (hR 2 7 119 rfl) ?_
            refine G_go rfl rfl ?_
            refine G_go rfl rfl ?_
            refine G_ir (n := 7) rfl rfl (by decide) (by decide) (by decide) ?_
            refine G_go rfl rfl ?_
            refine G_go rfl rfl ?_
            refine G_iw (n := 7) rfl rfl (by decide) (by decide) (by decide) ?_
            have hR := refs_up (a := 119) (k := 6) (x := wr ((s 119 6) + 1)) hR rfl
            refine G_go rfl rfl ?_
            refine G_ret rfl rfl ?_
            exact G_ret rfl rfl h
          · have h := h.2 c23
            refine G_go rfl rfl ?_
            refine G_go rfl rfl ?_
            refine G_le rfl rfl (fun c24 => ?_) (fun c24 => ?_)
            · have h := h.1 c24
              refine G_go rfl rfl ?_
              refine G_ret rfl rfl ?_
              refine G_call rfl rfl ?_
              refine G_go rfl rfl ?_
              refine G_go rfl rfl ?_
              refine G_go rfl rfl ?_
              refine G_call rfl rfl ?_
              refine G_go rfl rfl ?_
              refine G_brF rfl rfl rfl ?_
              refine G_go rfl rfl ?_
              refine G_go rfl rfl ?_
              refine G_ret rfl rfl ?_
              refine G_call rfl rfl ?_
              refine G_go rfl rfl ?_
              refine G_brT rfl rfl rfl ?_
              refine G_go rfl rfl ?_
              refine G_ret rfl rfl ?_
              refine G_ret rfl rfl ?_
              refine G_go rfl rfl ?_
              show G 2 120 69 22 [(3, 2), (1, a0), (1, a1), (1, a2), (1, (-6))] [] (n, s) Q
              refine G_go rfl rfl ?_
              refine G_brF rfl rfl rfl ?_
              refine G_go rfl rfl ?_
              refine G_go rfl rfl ?_
              refine G_call rfl rfl ?_
              refine G_go rfl rfl ?_
              refine G_go rfl rfl ?_
              refine G_go rfl rfl ?_
              refine G_go rfl rfl ?_
              refine G_brF rfl rfl rfl ?_
              refine G_go rfl rfl ?_
              refine G_go rfl rfl ?_
              refine G_rf rfl rfl (by decide) (hR 2 7 119 rfl) ?_
              refine G_go rfl rfl ?_
              refine G_brF rfl rfl rfl ?_
              refine G_go rfl rfl ?_
              refine G_rf rfl rfl (by decide) (hR 2 7 119 rfl) ?_
              refine G_go rfl rfl ?_
              refine G_go rfl rfl ?_
              refine G_ir (n := 7) rfl rfl (by decide) (by decide) (by decide) ?_
              refine G_go rfl rfl ?_
              refine G_go rfl rfl ?_
              refine G_iw (n := 7) rfl rfl (by decide) (by decide) (by decide) ?_
              have hR := refs_up (a := 119) (k := 6) (x := wr ((s 119 6) + 1)) hR rfl
              refine G_go rfl rfl ?_
              refine G_ret rfl rfl ?_
              exact G_ret rfl rfl h
            · have h := h.2 c24
              refine G_go rfl rfl ?_
              refine G_go rfl rfl ?_
              refine G_ret rfl rfl ?_
              refine G_call rfl rfl ?_
              refine G_go rfl rfl ?_
              refine G_go rfl rfl ?_
              refine G_go rfl rfl ?_
              refine G_call rfl rfl ?_
              refine G_go rfl rfl ?_
              refine G_brF rfl rfl rfl ?_
              refine G_go rfl rfl ?_
              refine G_go rfl rfl ?_
              refine G_ret rfl rfl ?_
              refine G_call rfl rfl ?_
              refine G_go rfl rfl ?_
              refine G_brT rfl rfl rfl ?_
              refine G_go rfl rfl ?_
              refine G_ret rfl rfl ?_
              refine G_ret rfl rfl ?_
              refine G_go rfl rfl ?_
              show G 2 120 69 22 [(3, 2), (1, a0), (1, a1), (1, a2), (1, (-6))] [] (n, s) Q
              refine G_go rfl rfl ?_
              refine G_brF rfl rfl rfl ?_
              refine G_go rfl rfl ?_
              refine G_go rfl rfl ?_
              refine G_call rfl rfl ?_
              refine G_go rfl rfl ?_
              refine G_go rfl rfl ?_
              refine G_go rfl rfl ?_
              refine G_go rfl rfl ?_
              refine G_brF rfl rfl rfl ?_
              refine G_go rfl rfl ?_
              refine G_go rfl rfl ?_
              refine G_rf rfl rfl (by decide) (hR 2 7 119 rfl) ?_
              refine G_go rfl rfl ?_
              refine G_brF rfl rfl rfl ?_
              refine G_go rfl rfl ?_
              refine G_rf rfl rfl (by decide) (hR 2 7 119 rfl) ?_
              refine G_go rfl rfl ?_
              refine G_go rfl rfl ?_
              refine G_ir (n := 7) rfl rfl (by decide) (by decide) (by decide) ?_
              refine G_go rfl rfl ?_
              refine G_go rfl rfl ?_
              refine G_iw (n := 7) rfl rfl (by decide) (by decide) (by decide) ?_
              have hR := refs_up (a := 119) (k := 6) (x := wr ((s 119 6) + 1)) hR rfl
              refine G_go rfl rfl ?_
              refine G_ret rfl rfl ?_
              exact G_ret rfl rfl h
      · have h := h.2 c19
        refine G_go rfl rfl ?_
        refine G_ret rfl rfl ?_
        refine G_go rfl rfl ?_
        refine G_go rfl rfl ?_
        refine G_call rfl rfl ?_
        refine G_go rfl rfl ?_
        refine G_lt rfl rfl (fun c25 => ?_) (fun c25 => ?_)
        · have h := h.1 c25
          refine G_go rfl rfl ?_
          refine G_go rfl rfl ?_
          refine G_ret rfl rfl ?_
          refine G_call rfl rfl ?_
          refine G_go rfl rfl ?_
          refine G_go rfl rfl ?_
          refine G_go rfl rfl ?_
          refine G_call rfl rfl ?_
          refine G_go rfl rfl ?_
          refine G_brF rfl rfl rfl ?_
          refine G_go rfl rfl ?_
          refine G_go rfl rfl ?_
          refine G_ret rfl rfl ?_
          refine G_call rfl rfl ?_
          refine G_go rfl rfl ?_
          refine G_brT rfl rfl rfl ?_
          refine G_go rfl rfl ?_
          refine G_ret rfl rfl ?_
          refine G_ret rfl rfl ?_
          refine G_go rfl rfl ?_
          show G 2 120 69 22 [(3, 2), (1, a0), (1, a1), (1, a2), (1, (-4))] [] (n, s) Q
          refine G_go rfl rfl ?_
          refine G_brF rfl rfl rfl ?_
          refine G_go rfl rfl ?_
          refine G_go rfl rfl ?_
          refine G_call rfl rfl ?_
          refine G_go rfl rfl ?_
          refine G_go rfl rfl ?_
          refine G_go rfl rfl ?_
          refine G_go rfl rfl ?_
          refine G_brF rfl rfl rfl ?_
          refine G_go rfl rfl ?_
          refine G_go rfl rfl ?_
          refine G_rf rfl rfl (by decide) (hR 2 7 119 rfl) ?_
          refine G_go rfl rfl ?_
          refine G_brF rfl rfl rfl ?_
          refine G_go rfl rfl ?_
          refine G_rf rfl rfl (by decide) (hR 2 7 119 rfl) ?_
          refine G_go rfl rfl ?_
          refine G_go rfl rfl ?_
          refine G_ir (n := 7) rfl rfl (by decide) (by decide) (by decide) ?_
          refine G_go rfl rfl ?_
          refine G_go rfl rfl ?_
          refine G_iw (n := 7) rfl rfl (by decide) (by decide) (by decide) ?_
          have hR := refs_up (a := 119) (k := 4) (x := wr ((s 119 4) + 1)) hR rfl
          refine G_go rfl rfl ?_
          refine G_ret rfl rfl ?_
          exact G_ret rfl rfl h
        · have h := h.2 c25
          refine G_go rfl rfl ?_
          refine G_go rfl rfl ?_
          refine G_le rfl rfl (fun c26 => ?_) (fun c26 => ?_)
          · have h := h.1 c26
            refine G_go rfl rfl ?_
            refine G_ret rfl rfl ?_
            refine G_call rfl rfl ?_
            refine G_go rfl rfl ?_
            refine G_go rfl rfl ?_
            refine G_go rfl rfl ?_
            refine G_call rfl rfl ?_
            refine G_go rfl rfl ?_
            refine G_brF rfl rfl rfl ?_
            refine G_go rfl rfl ?_
            refine G_go rfl rfl ?_
            refine G_ret rfl rfl ?_
            refine G_call rfl rfl ?_
            refine G_go rfl rfl ?_
            refine G_brT rfl rfl rfl ?_
            refine G_go rfl rfl ?_
            refine G_ret rfl rfl ?_
            refine G_ret rfl rfl ?_
            refine G_go rfl rfl ?_
            show G 2 120 69 22 [(3, 2), (1, a0), (1, a1), (1, a2), (1, (-4))] [] (n, s) Q
            refine G_go rfl rfl ?_
            refine G_brF rfl rfl rfl ?_
            refine G_go rfl rfl ?_
            refine G_go rfl rfl ?_
            refine G_call rfl rfl ?_
            refine G_go rfl rfl ?_
            refine G_go rfl rfl ?_
            refine G_go rfl rfl ?_
            refine G_go rfl rfl ?_
            refine G_brF rfl rfl rfl ?_
            refine G_go rfl rfl ?_
            refine G_go rfl rfl ?_
            refine G_rf rfl rfl (by decide) (hR 2 7 119 rfl) ?_
            refine G_go rfl rfl ?_
            refine G_brF rfl rfl rfl ?_
            refine G_go rfl rfl ?_
            refine G_rf rfl rfl (by decide) (hR 2 7 119 rfl) ?_
            refine G_go rfl rfl ?_
            refine G_go rfl rfl ?_
            refine G_ir (n := 7) rfl rfl (by decide) (by decide) (by decide) ?_
            refine G_go rfl rfl ?_
            refine G_go rfl rfl ?_
            refine G_iw (n := 7) rfl rfl (by decide) (by decide) (by decide) ?_
            have hR := refs_up (a := 119) (k := 4) (x := wr ((s 119 4) + 1)) hR rfl
            refine G_go rfl rfl ?_
            refine G_ret rfl rfl ?_
            exact G_ret rfl rfl h
          · have h := h.2 c26
            refine G_go rfl rfl ?_
            refine G_go rfl rfl ?_
            refine G_ret rfl rfl ?_
            refine G_call rfl rfl ?_
            refine G_go rfl rfl ?_
            refine G_go rfl rfl ?_
            refine G_go rfl rfl ?_
            refine G_call rfl rfl ?_
            refine G_go rfl rfl ?_
            refine G_brF rfl rfl rfl ?_
            refine G_go rfl rfl ?_
            refine G_go rfl rfl ?_
            refine G_ret rfl rfl ?_
            refine G_call rfl rfl ?_
            refine G_go rfl rfl ?_
            refine G_brT rfl rfl rfl ?_
            refine G_go rfl rfl ?_
            refine G_ret rfl rfl ?_
            refine G_ret rfl rfl ?_
            refine G_go rfl rfl ?_
            show G 2 120 69 22 [(3, 2), (1, a0), (1, a1), (1, a2), (1, (-4))] [] (n, s) Q
            refine G_go rfl rfl ?_
            refine G_brF rfl rfl rfl ?_
            refine G_go rfl rfl ?_
            refine G_go rfl rfl ?_
            refine G_call rfl rfl ?_
            refine G_go rfl rfl ?_
            refine G_go rfl rfl ?_
            refine G_go rfl rfl ?_
            refine G_go rfl rfl ?_
            refine G_brF rfl rfl rfl ?_
            refine G_go rfl rfl ?_
            refine G_go rfl rfl ?_
            refine G_rf rfl rfl (by decide) (hR 2 7 119 rfl) ?_
            refine G_go rfl rfl ?_
            refine G_brF rfl rfl rfl ?_
            refine G_go rfl rfl ?_
            refine G_rf rfl rfl (by decide) (hR 2 7 119 rfl) ?_
            refine G_go rfl rfl ?_
            refine G_go rfl rfl ?_
            refine G_ir (n := 7) rfl rfl (by decide) (by decide) (by decide) ?_
            refine G_go rfl rfl ?_
            refine G_go rfl rfl ?_
            refine G_iw (n := 7) rfl rfl (by decide) (by decide) (by decide) ?_
            have hR := refs_up (a := 119) (k := 4) (x := wr ((s 119 4) + 1)) hR rfl
            refine G_go rfl rfl ?_
            refine G_ret rfl rfl ?_
            exact G_ret rfl rfl h
theorem sb_X6_behind_45 (n : Nat) (s : Nat → Nat → Int) (Q : List Vl → Sto → Prop) (x1 : Int) (x2 : Int) (x3 : Int) (x4 : Int) (hR : refs s)
    (h : G 2 120 56 0 [(3, 13), (1, x2), (0, 0)] [] (n, s) (fun r s1 => G 2 120 69 53 [(3, 2), (1, x1), (1, x2), (1, x3), (1, x4)] (r ++ []) s1 Q)) :
    G 2 120 69 45 [(3, 2), (1, x1), (1, x2), (1, x3), (1, x4)] [] (n, s) Q := by
  refine G_go rfl rfl ?_
  refine G_rf rfl rfl (by decide) (hR 2 1 13 rfl) ?_
  refine G_go rfl rfl ?_
  exact G_call rfl rfl h
theorem sb_X6_behind_53 (n : Nat) (s : Nat → Nat → Int) (Q : List Vl → Sto → Prop) (x1 : Int) (x2 : Int) (x3 : Int) (x4 : Int) (hR : refs s)
    (h : (x3 = 0 → (0 ≤ x1 ∧ x1 < 6) ∧ (Q [(1, s 18 x1.toNat)] (n, s))) ∧ (x3 = 1 → (0 ≤ x1 ∧ x1 < 6) ∧ (Q [(1, s 20 x1.toNat)] (n, s))) ∧ (x3 ≠ 0 ∧ x3 ≠ 1 → (0 ≤ x1 ∧ x1 < 6) ∧ ((s 19 x1.toNat = 0 → Q [(1, 0)] (n, s)) ∧ (s 19 x1.toNat ≠ 0 → Q [(1, 1)] (n, s))))) :
    G 2 120 69 53 [(3, 2), (1, x1), (1, x2), (1, x3), (1, x4)] [] (n, s) Q := by
  refine G_go rfl rfl ?_
  by_cases hs54_0 : x3 = 0
  · refine G_k hs54_0 rfl rfl ?_
    have h := h.1 hs54_0
    refine G_go rfl rfl ?_
    refine G_rf rfl rfl (by decide) (hR 2 1 13 rfl) ?_
    refine G_rf rfl rfl (by decide) (hR 13 4 18 rfl) ?_
    refine G_go rfl rfl ?_
    obtain ⟨g1, h⟩ := h
    refine G_ir (n := 6) rfl rfl (by decide) (by decide) g1 ?_
    exact G_ret rfl rfl h
  replace h := h.2
  by_cases hs54_1 : x3 = 1
  · refine G_k hs54_1 rfl rfl ?_
    have h := h.1 hs54_1
    refine G_go rfl rfl ?_
    refine G_rf rfl rfl (by decide) (hR 2 1 13 rfl) ?_
    refine G_rf rfl rfl (by decide) (hR 13 6 20 rfl) ?_
    refine G_go rfl rfl ?_
    obtain ⟨g2, h⟩ := h
    refine G_ir (n := 6) rfl rfl (by decide) (by decide) g2 ?_
    exact G_ret rfl rfl h
  replace h := h.2
  have hd54 : x3 ≠ 0 ∧ x3 ≠ 1 := ⟨hs54_0, hs54_1⟩
  refine G_lkd rfl (by simp [Op.lookupswitch.offset, Ne.symm hs54_0, Ne.symm hs54_1]) rfl ?_
  replace h := h hd54
  refine G_go rfl rfl ?_
  refine G_rf rfl rfl (by decide) (hR 2 1 13 rfl) ?_
  refine G_rf rfl rfl (by decide) (hR 13 5 19 rfl) ?_
  refine G_go rfl rfl ?_
  obtain ⟨g3, h⟩ := h
  refine G_zr (n := 6) rfl rfl (by decide) (by decide) g3 ?_
  refine G_call rfl rfl ?_
  refine G_go rfl rfl ?_
  refine G_eq rfl rfl (fun c4 => ?_) (fun c4 => ?_)
  · have h := h.1 c4
    refine G_go rfl rfl ?_
    refine G_ret rfl rfl ?_
    exact G_ret rfl rfl h
  · have h := h.2 c4
    refine G_go rfl rfl ?_
    refine G_go rfl rfl ?_
    refine G_ret rfl rfl ?_
    exact G_ret rfl rfl h
theorem sb_X7_behind_0 (n : Nat) (s : Nat → Nat → Int) (Q : List Vl → Sto → Prop) (a0 : Int) (a1 : Int) (a2 : Int) (hR : refs s)
    (h : (a0 < 0 → Q [(1, (-1))] (n, upS (upS s 120 10 0) 129 1 (wr ((s 129 1) + 1)))) ∧ (a0 ≥ 0 → (a0 > wr ((s 120 0) - 1) → Q [(1, (-1))] (n, upS (upS s 120 10 0) 129 1 (wr ((s 129 1) + 1)))) ∧ (a0 ≤ wr ((s 120 0) - 1) → (0 ≤ a1 → (a1 ≤ 99 → (a2 < 0 → Q [(1, (-2))] (n, upS (upS s 120 10 0) 129 2 (wr ((s 129 2) + 1)))) ∧ (a2 ≥ 0 → (a2 > 2 → Q [(1, (-2))] (n, upS (upS s 120 10 0) 129 2 (wr ((s 129 2) + 1)))) ∧ (a2 ≤ 2 → G 120 140 143 0 [(3, 120)] [] (n, upS s 120 10 0) (fun r s1 => G 120 140 158 47 [(3, 120), (1, a0), (1, a1), (1, a2), (1, 0), (0, 0)] (r ++ []) s1 Q)))) ∧ (99 < a1 → Q [(1, (-6))] (n, upS (upS s 120 10 0) 129 6 (wr ((s 129 6) + 1))))) ∧ (a1 < 0 → Q [(1, (-4))] (n, upS (upS s 120 10 0) 129 4 (wr ((s 129 4) + 1))))))) :
    G 120 140 158 0 [(3, 120), (1, a0), (1, a1), (1, a2), (0, 0), (0, 0)] [] (n, s) Q := by
  refine G_go rfl rfl ?_
  refine G_go rfl rfl ?_
  refine G_wr rfl rfl (by decide) ?_
  have hR := refs_up (a := 120) (k := 10) (x := 0) hR rfl
  refine G_go rfl rfl ?_
  refine G_go rfl rfl ?_
  refine G_call rfl rfl ?_
  refine G_go rfl rfl ?_
  refine G_go rfl rfl ?_
  refine G_go rfl rfl ?_
  refine G_go rfl rfl ?_
  refine G_rd rfl rfl (by decide) ?_
  refine G_go rfl rfl ?_
  refine G_go rfl rfl ?_
  refine G_go rfl rfl ?_
  refine G_call rfl rfl ?_
  refine G_go rfl rfl ?_
  refine G_go rfl rfl ?_
  refine G_go rfl rfl ?_
  refine G_lt rfl rfl (fun c1 => ?_) (fun c1 => ?_)
  · have c1 := xl_lt c1
    have h := h.1 c1
    refine G_go rfl rfl ?_
    refine G_ret rfl rfl ?_
    refine G_ret rfl rfl ?_
    refine G_brT rfl rfl rfl ?_
    refine G_go rfl rfl ?_
    refine G_go rfl rfl ?_
    refine G_go rfl rfl ?_
    refine G_call rfl rfl ?_
    refine G_go rfl rfl ?_
    refine G_brT rfl rfl rfl ?_
    refine G_go rfl rfl ?_
    refine G_ret rfl rfl ?_
    refine G_go rfl rfl ?_
    show G 120 140 158 31 [(3, 120), (1, a0), (1, a1), (1, a2), (1, (-1)), (0, 0)] [] (n, upS s 120 10 0) Q
    refine G_go rfl rfl ?_
    refine G_brF rfl rfl rfl ?_
    refine G_go rfl rfl ?_
    refine G_go rfl rfl ?_
    refine G_call rfl rfl ?_
    refine G_go rfl rfl ?_
    refine G_rf rfl rfl (by decide) (hR 120 11 129 rfl) ?_
    refine G_go rfl rfl ?_
    refine G_go rfl rfl ?_
    refine G_go rfl rfl ?_
    refine G_ir (n := 7) rfl rfl (by decide) (by decide) (by decide) ?_
    refine G_go rfl rfl ?_
    refine G_go rfl rfl ?_
    refine G_iw (n := 7) rfl rfl (by decide) (by decide) (by decide) ?_
    have hR := refs_up (a := 129) (k := 1) (x := wr ((s 129 1) + 1)) hR rfl
    refine G_go rfl rfl ?_
    refine G_ret rfl rfl ?_
    exact G_ret rfl rfl h
  · have c1 := xl_ge c1
    have h := h.2 c1
    refine G_go rfl rfl ?_
    refine G_go rfl rfl ?_
    refine G_go rfl rfl ?_
    refine G_gt rfl rfl (fun c2 => ?_) (fun c2 => ?_)
    · have c2 := xl_gt c2
      have h := h.1 c2
      refine G_go rfl rfl ?_
      refine G_ret rfl rfl ?_
      refine G_ret rfl rfl ?_
      refine G_brT rfl rfl rfl ?_
      refine G_go rfl rfl ?_
      refine G_go rfl rfl ?_
      refine G_go rfl rfl ?_
      refine G_call rfl rfl ?_
      refine G_go rfl rfl ?_
      refine G_brT rfl rfl rfl ?_
      refine G_go rfl rfl ?_
      refine G_ret rfl rfl ?_
      refine G_go rfl rfl ?_
      show G 120 140 158 31 [(3, 120), (1, a0), (1, a1), (1, a2), (1, (-1)), (0, 0)] [] (n, upS s 120 10 0) Q
      refine G_go rfl rfl ?_
      refine G_brF rfl rfl rfl ?_
      refine G_go rfl rfl ?_
      refine G_go rfl rfl ?_
      refine G_call rfl rfl ?_
      refine G_go rfl rfl ?_
      refine G_rf rfl rfl (by decide) (hR 120 11 129 rfl) ?_
      refine G_go rfl rfl ?_
      refine G_go rfl rfl ?_
      refine G_go rfl rfl ?_
      refine G_ir (n := 7) rfl rfl (by decide) (by decide) (by decide) ?_
      refine G_go rfl rfl ?_
      refine G_go rfl rfl ?_
      refine G_iw (n := 7) rfl rfl (by decide) (by decide) (by decide) ?_
      have hR := refs_up (a := 129) (k := 1) (x := wr ((s 129 1) + 1)) hR rfl
      refine G_go rfl rfl ?_
      refine G_ret rfl rfl ?_
      exact G_ret rfl rfl h
    · have c2 := xl_le c2
      have h := h.2 c2
      refine G_go rfl rfl ?_
      refine G_go rfl rfl ?_
      refine G_ret rfl rfl ?_
      refine G_ret rfl rfl ?_
      refine G_brF rfl rfl rfl ?_
      refine G_go rfl rfl ?_
      refine G_go rfl rfl ?_
      refine G_go rfl rfl ?_
      refine G_call rfl rfl ?_
      refine G_go rfl rfl ?_
      refine G_go rfl rfl ?_
      refine G_ge rfl rfl (fun c3 => ?_) (fun c3 => ?_)
      · have h := h.1 c3
        refine G_go rfl rfl ?_
        refine G_go rfl rfl ?_
        refine G_le rfl rfl (fun c4 => ?_) (fun c4 => ?_)
        · have h := h.1 c4
          refine G_go rfl rfl ?_
          refine G_ret rfl rfl ?_
          refine G_go rfl rfl ?_
          refine G_go rfl rfl ?_
          refine G_go rfl rfl ?_
          refine G_call rfl rfl ?_
          refine G_go rfl rfl ?_
          refine G_brF rfl rfl rfl ?_
          refine G_go rfl rfl ?_
          refine G_go rfl rfl ?_
          refine G_go rfl rfl ?_
          refine G_go rfl rfl ?_
          refine G_go rfl rfl ?_
          refine G_call rfl rfl ?_
          refine G_go rfl rfl ?_
          refine G_go rfl rfl ?_
          refine G_go rfl rfl ?_
          refine G_lt rfl rfl (fun c5 => ?_) (fun c5 => ?_)
          · have c5 := xl_lt c5
            have h := h.1 c5
            refine G_go rfl rfl ?_
            refine G_ret rfl rfl ?_
            refine G_brF rfl rfl rfl ?_
            refine G_go rfl rfl ?_
            refine G_go rfl rfl ?_
            refine G_ret rfl rfl ?_
            refine G_go rfl rfl ?_
            show G 120 140 158 31 [(3, 120), (1, a0), (1, a1), (1, a2), (1, (-2)), (0, 0)] [] (n, upS s 120 10 0) Q
            refine G_go rfl rfl ?_
            refine G_brF rfl rfl rfl ?_
            refine G_go rfl rfl ?_
            refine G_go rfl rfl ?_
            refine G_call rfl rfl ?_
            refine G_go rfl rfl ?_
            refine G_rf rfl rfl (by decide) (hR 120 11 129 rfl) ?_
            refine G_go rfl rfl ?_
            refine G_go rfl rfl ?_
            refine G_go rfl rfl ?_
            refine G_ir (n := 7) rfl rfl (by decide) (by decide) (by decide) ?_
            refine G_go rfl rfl ?_
            refine G_go rfl rfl ?_
            refine G_iw (n := 7) rfl rfl (by decide) (by decide) (by decide) ?_
            have hR := refs_up (a := 129) (k := 2) (x := wr ((s 129 2) + 1)) hR rfl
            refine G_go rfl rfl ?_
            refine G_ret rfl rfl ?_
            exact G_ret rfl rfl h
          · have c5 := xl_ge c5
            have h := h.2 c5
            refine G_go rfl rfl ?_
            refine G_go rfl rfl ?_
            refine G_go rfl rfl ?_
            refine G_gt rfl rfl (fun c6 => ?_) (fun c6 => ?_)
            · have c6 := xl_gt c6
              have h := h.1 c6
              refine G_go rfl rfl ?_
              refine G_ret rfl rfl ?_
              refine G_brF rfl rfl rfl ?_
              refine G_go rfl rfl ?_
              refine G_go rfl rfl ?_
              refine G_ret rfl rfl ?_
              refine G_go rfl rfl ?_
              show G 120 140 158 31 [(3, 120), (1, a0), (1, a1), (1, a2), (1, (-2)), (0, 0)] [] (n, upS s 120 10 0) Q
              refine G_go rfl rfl ?_
              refine G_brF rfl rfl rfl ?_
              refine G_go rfl rfl ?_
              refine G_go rfl rfl ?_
              refine G_call rfl rfl ?_
              refine G_go rfl rfl ?_
              refine G_rf rfl rfl (by decide) (hR 120 11 129 rfl) ?_
              refine G_go rfl rfl ?_
              refine G_go rfl rfl ?_
              refine G_go rfl rfl ?_
              refine G_ir (n := 7) rfl rfl (by decide) (by decide) (by decide) ?_
              refine G_go rfl rfl ?_
              refine G_go rfl rfl ?_
              refine G_iw (n := 7) rfl rfl (by decide) (by decide) (by decide) ?_
              have hR := refs_up (a := 129) (k := 2) (x := wr ((s 129 2) + 1)) hR rfl
              refine G_go rfl rfl ?_
              refine G_ret rfl rfl ?_
              exact G_ret rfl rfl h
            · have c6 := xl_le c6
              have h := h.2 c6
              refine G_go rfl rfl ?_
              refine G_go rfl rfl ?_
              refine G_ret rfl rfl ?_
              refine G_brT rfl rfl rfl ?_
              refine G_go rfl rfl ?_
              refine G_ret rfl rfl ?_
              refine G_go rfl rfl ?_
              show G 120 140 158 31 [(3, 120), (1, a0), (1, a1), (1, a2), (1, 0), (0, 0)] [] (n, upS s 120 10 0) Q
              refine G_go rfl rfl ?_
              refine G_brT rfl rfl rfl ?_
              refine G_go rfl rfl ?_
              exact G_call rfl rfl h
        · have h := h.2 c4
          refine G_go rfl rfl ?_
          refine G_go rfl rfl ?_
          refine G_ret rfl rfl ?_
          refine G_go rfl rfl ?_
          refine G_go rfl rfl ?_
          refine G_go rfl rfl ?_
          refine G_call rfl rfl ?_
          refine G_go rfl rfl ?_
          refine G_brT rfl rfl rfl ?_
          refine G_go rfl rfl ?_
          refine G_ret rfl rfl ?_
          refine G_go rfl rfl ?_
          show G 120 140 158 31 [(3, 120), (1, a0), (1, a1), (1, a2), (1, (-6)), (0, 0)] [] (n, upS s 120 10 0) Q
          refine G_go rfl rfl ?_
          refine G_brF rfl rfl rfl ?_
          refine G_go rfl rfl ?_
          refine G_go rfl rfl ?_
          refine G_call rfl rfl ?_
          refine G_go rfl rfl ?_
          refine G_rf rfl rfl (by decide) (hR 120 11 129 rfl) ?_
          refine G_go rfl rfl ?_
          refine G_go rfl rfl ?_
          refine G_go rfl rfl ?_
          refine G_ir (n := 7) rfl rfl (by decide) (by decide) (by decide) ?_
          refine G_go rfl rfl ?_
          refine G_go rfl rfl ?_
          refine G_iw (n := 7) rfl rfl (by decide) (by decide) (by decide) ?_
          have hR := refs_up (a := 129) (k := 6) (x := wr ((s 129 6) + 1)) hR rfl
          refine G_go rfl rfl ?_
          refine G_ret rfl rfl ?_
          exact G_ret rfl rfl h
      · have h := h.2 c3
        refine G_go rfl rfl ?_
        refine G_go rfl rfl ?_
        refine G_ret rfl rfl ?_
        refine G_go rfl rfl ?_
        refine G_go rfl rfl ?_
        refine G_go rfl rfl ?_
        refine G_call rfl rfl ?_
        refine G_go rfl rfl ?_
        refine G_brT rfl rfl rfl ?_
        refine G_go rfl rfl ?_
        refine G_ret rfl rfl ?_
        refine G_go rfl rfl ?_
        show G 120 140 158 31 [(3, 120), (1, a0), (1, a1), (1, a2), (1, (-4)), (0, 0)] [] (n, upS s 120 10 0) Q
        refine G_go rfl rfl ?_
        refine G_brF rfl rfl rfl ?_
        refine G_go rfl rfl ?_
        refine G_go rfl rfl ?_
        refine G_call rfl rfl ?_
        refine G_go rfl rfl ?_
        refine G_rf rfl rfl (by decide) (hR 120 11 129 rfl) ?_
        refine G_go rfl rfl ?_
        refine G_go rfl rfl ?_
        refine G_go rfl rfl ?_
        refine G_ir (n := 7) rfl rfl (by decide) (by decide) (by decide) ?_
        refine G_go rfl rfl ?_
        refine G_go rfl rfl ?_
        refine G_iw (n := 7) rfl rfl (by decide) (by decide) (by decide) ?_
        have hR := refs_up (a := 129) (k := 4) (x := wr ((s 129 4) + 1)) hR rfl
        refine G_go rfl rfl ?_
        refine G_ret rfl rfl ?_
        exact G_ret rfl rfl h
theorem sb_X7_behind_47 (n : Nat) (s : Nat → Nat → Int) (Q : List Vl → Sto → Prop) (x1 : Int) (x2 : Int) (x3 : Int) (x4 : Int) (hR : refs s)
    (h : G 120 140 147 0 [(3, 120), (1, x2), (0, 0)] [] (n, s) (fun r s1 => G 120 140 158 52 [(3, 120), (1, x1), (1, x2), (1, x3), (1, x4), (0, 0)] (r ++ []) s1 Q)) :
    G 120 140 158 47 [(3, 120), (1, x1), (1, x2), (1, x3), (1, x4), (0, 0)] [] (n, s) Q := by
  refine G_go rfl rfl ?_
  refine G_go rfl rfl ?_
  exact G_call rfl rfl h
theorem sb_X7_behind_52 (n : Nat) (s : Nat → Nat → Int) (Q : List Vl → Sto → Prop) (x1 : Int) (x2 : Int) (x3 : Int) (x4 : Int) (hR : refs s)
    (h : (x3 ≠ 0 → (x3 ≠ 1 → (0 ≤ x1 ∧ x1 < 6) ∧ (G 120 140 140 0 [(3, 120)] [] (n, s) (fun r s1 => G 120 140 158 91 [(3, 120), (1, x1), (1, x2), (1, x3), (1, x4), (1, s 126 x1.toNat)] (r ++ []) s1 Q))) ∧ (x3 = 1 → (0 ≤ x1 ∧ x1 < 6) ∧ (G 120 140 140 0 [(3, 120)] [] (n, s) (fun r s1 => G 120 140 158 91 [(3, 120), (1, x1), (1, x2), (1, x3), (1, x4), (1, s 127 x1.toNat)] (r ++ []) s1 Q)))) ∧ (x3 = 0 → (0 ≤ x1 ∧ x1 < 6) ∧ (G 120 140 140 0 [(3, 120)] [] (n, s) (fun r s1 => G 120 140 158 91 [(3, 120), (1, x1), (1, x2), (1, x3), (1, x4), (1, s 125 x1.toNat)] (r ++ []) s1 Q)))) :
    G 120 140 158 52 [(3, 120), (1, x1), (1, x2), (1, x3), (1, x4), (0, 0)] [] (n, s) Q := by
  refine G_go rfl rfl ?_
  refine G_ne rfl rfl (fun c1 => ?_) (fun c1 => ?_)
  · have h := h.1 c1
    refine G_go rfl rfl ?_
    refine G_go rfl rfl ?_
    refine G_ne rfl rfl (fun c2 => ?_) (fun c2 => ?_)
    · have h := h.1 c2
      refine G_go rfl rfl ?_
      refine G_rf rfl rfl (by decide) (hR 120 6 126 rfl) ?_
      refine G_go rfl rfl ?_
      obtain ⟨g3, h⟩ := h
      refine G_ir (n := 6) rfl rfl (by decide) (by decide) g3 ?_
      refine G_go rfl rfl ?_
      show G 120 140 158 87 [(3, 120), (1, x1), (1, x2), (1, x3), (1, x4), (1, s 126 x1.toNat)] [] (n, s) Q
      refine G_go rfl rfl ?_
      exact G_call rfl rfl h
    · have h := h.2 c2
      refine G_go rfl rfl ?_
      refine G_rf rfl rfl (by decide) (hR 120 7 127 rfl) ?_
      refine G_go rfl rfl ?_
      obtain ⟨g4, h⟩ := h
      refine G_ir (n := 6) rfl rfl (by decide) (by decide) g4 ?_
      refine G_go rfl rfl ?_
      refine G_go rfl rfl ?_
      show G 120 140 158 87 [(3, 120), (1, x1), (1, x2), (1, x3), (1, x4), (1, s 127 x1.toNat)] [] (n, s) Q
      refine G_go rfl rfl ?_
      exact G_call rfl rfl h
  · have h := h.2 c1
    refine G_go rfl rfl ?_
    refine G_rf rfl rfl (by decide) (hR 120 5 125 rfl) ?_
    refine G_go rfl rfl ?_
    obtain ⟨g5, h⟩ := h
    refine G_ir (n := 6) rfl rfl (by decide) (by decide) g5 ?_
    refine G_go rfl rfl ?_
    refine G_go rfl rfl ?_
    show G 120 140 158 87 [(3, 120), (1, x1), (1, x2), (1, x3), (1, x4), (1, s 125 x1.toNat)] [] (n, s) Q
    refine G_go rfl rfl ?_
    exact G_call rfl rfl h
theorem sb_X7_behind_91 (n : Nat) (s : Nat → Nat → Int) (Q : List Vl → Sto → Prop) (x1 : Int) (x2 : Int) (x3 : Int) (x4 : Int) (x5 : Int) (hR : refs s)
    (h : Q [(1, x5)] (n, s)) :
    G 120 140 158 91 [(3, 120), (1, x1), (1, x2), (1, x3), (1, x4), (1, x5)] [] (n, s) Q := by
  refine G_go rfl rfl ?_
  exact G_ret rfl rfl h
theorem sb_X6_all_0 (n : Nat) (s : Nat → Nat → Int) (Q : List Vl → Sto → Prop) (a0 : Int) (a1 : Int) (hR : refs s)
    (h : (0 ≤ a0 → (a0 ≤ 99 → (a1 < 0 → Q [(1, (-2))] (n, upS s 119 2 (wr ((s 119 2) + 1)))) ∧ (0 ≤ a1 → (a1 ≤ 1 → G 2 120 7 0 [(3, 13), (3, 3), (0, 0)] [] (n, s) (fun r s1 => G 2 120 63 37 [(3, 2), (1, a0), (1, a1), (1, 0)] (r ++ []) s1 Q)) ∧ (1 < a1 → Q [(1, (-2))] (n, upS s 119 2 (wr ((s 119 2) + 1)))))) ∧ (99 < a0 → (a1 < 0 → Q [(1, (-6))] (n, upS s 119 6 (wr ((s 119 6) + 1)))) ∧ (0 ≤ a1 → (a1 ≤ 1 → Q [(1, (-6))] (n, upS s 119 6 (wr ((s 119 6) + 1)))) ∧ (1 < a1 → Q [(1, (-6))] (n, upS s 119 6 (wr ((s 119 6) + 1))))))) ∧ (a0 < 0 → (a1 < 0 → Q [(1, (-4))] (n, upS s 119 4 (wr ((s 119 4) + 1)))) ∧ (0 ≤ a1 → (a1 ≤ 1 → Q [(1, (-4))] (n, upS s 119 4 (wr ((s 119 4) + 1)))) ∧ (1 < a1 → Q [(1, (-4))] (n, upS s 119 4 (wr ((s 119 4) + 1))))))) :
    G 2 120 63 0 [(3, 2), (1, a0), (1, a1), (0, 0)] [] (n, s) Q := by
  refine G_go rfl rfl ?_
  refine G_go rfl rfl ?_
  refine G_go rfl rfl ?_
  refine G_call rfl rfl ?_
  refine G_go rfl rfl ?_
  refine G_go rfl rfl ?_
  refine G_ge rfl rfl (fun c1 => ?_) (fun c1 => ?_)
  · have h := h.1 c1
    refine G_go rfl rfl ?_
    refine G_go rfl rfl ?_
    refine G_le rfl rfl (fun c2 => ?_) (fun c2 => ?_)
    · have h := h.1 c2
      refine G_go rfl rfl ?_
      refine G_ret rfl rfl ?_
      refine G_go rfl rfl ?_
      refine G_go rfl rfl ?_
      refine G_call rfl rfl ?_
      refine G_go rfl rfl ?_
      refine G_lt rfl rfl (fun c3 => ?_) (fun c3 => ?_)
      · have h := h.1 c3
        refine G_go rfl rfl ?_
        refine G_go rfl rfl ?_
        refine G_ret rfl rfl ?_
        refine G_call rfl rfl ?_
        refine G_go rfl rfl ?_
        refine G_brT rfl rfl rfl ?_
        refine G_go rfl rfl ?_
        refine G_ret rfl rfl ?_
        refine G_go rfl rfl ?_
        show G 2 120 63 16 [(3, 2), (1, a0), (1, a1), (1, (-2))] [] (n, s) Q
        refine G_go rfl rfl ?_
        refine G_brF rfl rfl rfl ?_
        refine G_go rfl rfl ?_
        refine G_go rfl rfl ?_
        refine G_call rfl rfl ?_
        refine G_go rfl rfl ?_
        refine G_go rfl rfl ?_
        refine G_go rfl rfl ?_
        refine G_go rfl rfl ?_
        refine G_brF rfl rfl rfl ?_
        refine G_go rfl rfl ?_
        refine G_go rfl rfl ?_
        refine G_rf rfl rfl (by decide) (hR 2 7 119 rfl) ?_
        refine G_go rfl rfl ?_
        refine G_brF rfl rfl rfl ?_
        refine G_go rfl rfl ?_
        refine G_rf rfl rfl (by decide) (hR 2 7 119 rfl) ?_
        refine G_go rfl rfl ?_
        refine G_go rfl rfl ?_
        refine G_ir (n := 7) rfl rfl (by decide) (by decide) (by decide) ?_
        refine G_go rfl rfl ?_
        refine G_go rfl rfl ?_
        refine G_iw (n := 7) rfl rfl (by decide) (by decide) (by decide) ?_
        have hR := refs_up (a := 119) (k := 2) (x := wr ((s 119 2) + 1)) hR rfl
        refine G_go rfl rfl ?_
        refine G_ret rfl rfl ?_
        exact G_ret rfl rfl h
      · have h := h.2 c3
        refine G_go rfl rfl ?_
        refine G_go rfl rfl ?_
        refine G_le rfl rfl (fun c4 => ?_) (fun c4 => ?_)
        · have h := h.1 c4
          refine G_go rfl rfl ?_
          refine G_ret rfl rfl ?_
          refine G_call rfl rfl ?_
          refine G_go rfl rfl ?_
          refine G_brT rfl rfl rfl ?_
          refine G_go rfl rfl ?_
          refine G_ret rfl rfl ?_
          refine G_go rfl rfl ?_
          show G 2 120 63 16 [(3, 2), (1, a0), (1, a1), (1, 0)] [] (n, s) Q
          refine G_go rfl rfl ?_
          refine G_brT rfl rfl rfl ?_
          refine G_go rfl rfl ?_
          refine G_rf rfl rfl (by decide) (hR 2 1 13 rfl) ?_
          refine G_go rfl rfl ?_
          refine G_rf rfl rfl (by decide) (hR 2 0 3 rfl) ?_
          exact G_call rfl rfl h
        · have h := h.2 c4
          refine G_go rfl rfl ?_
          refine G_go rfl rfl ?_
          refine G_ret rfl rfl ?_
          refine G_call rfl rfl ?_
          refine G_go rfl rfl ?_
          refine G_brT rfl rfl rfl ?_
          refine G_go rfl rfl ?_
          refine G_ret rfl rfl ?_
          refine G_go rfl rfl ?_
          show G 2 120 63 16 [(3, 2), (1, a0), (1, a1), (1, (-2))] [] (n, s) Q
          refine G_go rfl rfl ?_
          refine G_brF rfl rfl rfl ?_
          refine G_go rfl rfl ?_
          refine G_go rfl rfl ?_
          refine G_call rfl rfl ?_
          refine G_go rfl rfl ?_
          refine G_go rfl rfl ?_
          refine G_go rfl rfl ?_
          refine G_go rfl rfl ?_
          refine G_brF rfl rfl rfl ?_
          refine G_go rfl rfl ?_
          refine G_go rfl rfl ?_
          refine G_rf rfl rfl (by decide) (hR 2 7 119 rfl) ?_
          refine G_go rfl rfl ?_
          refine G_brF rfl rfl rfl ?_
          refine G_go rfl rfl ?_
          refine G_rf rfl rfl (by decide) (hR 2 7 119 rfl) ?_
          refine G_go rfl rfl ?_
          refine G_go rfl rfl ?_
          refine G_ir (n := 7) rfl rfl (by decide) (by decide) (by decide) ?_
          refine G_go rfl rfl ?_
          refine G_go rfl rfl ?_
          refine G_iw (n := 7) rfl rfl (by decide) (by decide) (by decide) ?_
          have hR := refs_up (a := 119) (k := 2) (x := wr ((s 119 2) + 1)) hR rfl
          refine G_go rfl rfl ?_
          refine G_ret rfl rfl ?_
          exact G_ret rfl rfl h
    · have h := h.2 c2
      refine G_go rfl rfl ?_
      refine G_go rfl rfl ?_
      refine G_ret rfl rfl ?_
      refine G_go rfl rfl ?_
      refine G_go rfl rfl ?_
      refine G_call rfl rfl ?_
      refine G_go rfl rfl ?_
      refine G_lt rfl rfl (fun c5 => ?_) (fun c5 => ?_)
      · have h := h.1 c5
        refine G_go rfl rfl ?_
        refine G_go rfl rfl ?_
        refine G_ret rfl rfl ?_
        refine G_call rfl rfl ?_
        refine G_go rfl rfl ?_
        refine G_brF rfl rfl rfl ?_
        refine G_go rfl rfl ?_
        refine G_go rfl rfl ?_
        refine G_ret rfl rfl ?_
        refine G_go rfl rfl ?_
        show G 2 120 63 16 [(3, 2), (1, a0), (1, a1), (1, (-6))] [] (n, s) Q
        refine G_go rfl rfl ?_
        refine G_brF rfl rfl rfl ?_
        refine G_go rfl rfl ?_
        refine G_go rfl rfl ?_
        refine G_call rfl rfl ?_
        refine G_go rfl rfl ?_
        refine G_go rfl rfl ?_
        refine G_go rfl rfl ?_
        refine G_go rfl rfl ?_
        refine G_brF rfl rfl rfl ?_
        refine G_go rfl rfl ?_
        refine G_go rfl rfl ?_
        refine G_rf rfl rfl (by decide) (hR 2 7 119 rfl) ?_
        refine G_go rfl rfl ?_
        refine G_brF rfl rfl rfl ?_
        refine G_go rfl rfl ?_
        refine G_rf rfl rfl (by decide) (hR 2 7 119 rfl) ?_
        refine G_go rfl rfl ?_
        refine G_go rfl rfl ?_
        refine G_ir (n := 7) rfl rfl (by decide) (by decide) (by decide) ?_
        refine G_go rfl rfl ?_
        refine G_go rfl rfl ?_
        refine G_iw (n := 7) rfl rfl (by decide) (by decide) (by decide) ?_
        have hR := refs_up (a := 119) (k := 6) (x := wr ((s 119 6) + 1)) hR rfl
        refine G_go rfl rfl ?_
        refine G_ret rfl rfl ?_
        exact G_ret rfl rfl h
      · have h := h.2 c5
        refine G_go rfl rfl ?_
        refine G_go rfl rfl ?_
        refine G_le rfl rfl (fun c6 => ?_) (fun c6 => ?_)
        · have h := h.1 c6
          refine G_go rfl rfl ?_
          refine G_ret rfl rfl ?_
          refine G_call rfl rfl ?_
          refine G_go rfl rfl ?_
          refine G_brF rfl rfl rfl ?_
          refine G_go rfl rfl ?_
          refine G_go rfl rfl ?_
          refine G_ret rfl rfl ?_
          refine G_go rfl rfl ?_
          show G 2 120 63 16 [(3, 2), (1, a0), (1, a1), (1, (-6))] [] (n, s) Q
          refine G_go rfl rfl ?_
          refine G_brF rfl rfl rfl ?_
          refine G_go rfl rfl ?_
          refine G_go rfl rfl ?_
          refine G_call rfl rfl ?_
          refine G_go rfl rfl ?_
          refine G_go rfl rfl ?_
          refine G_go rfl rfl ?_
          refine G_go rfl rfl ?_
          refine G_brF rfl rfl rfl ?_
          refine G_go rfl rfl ?_
          refine G_go rfl rfl ?_
          refine G_rf rfl rfl (by decide) (hR 2 7 119 rfl) ?_
          refine G_go rfl rfl ?_
          refine G_brF rfl rfl rfl ?_
          refine G_go rfl rfl ?_
          refine G_rf rfl rfl (by decide) (hR 2 7 119 rfl) ?_
          refine G_go rfl rfl ?_
          refine G_go rfl rfl ?_
          refine G_ir (n := 7) rfl rfl (by decide) (by decide) (by decide) ?_
          refine G_go rfl rfl ?_
          refine G_go rfl rfl ?_
          refine G_iw (n := 7) rfl rfl (by decide) (by decide) (by decide) ?_
          have hR := refs_up (a := 119) (k := 6) (x := wr ((s 119 6) + 1)) hR rfl
          refine G_go rfl rfl ?_
          refine G_ret rfl rfl ?_
          exact G_ret rfl rfl h
        · have h := h.2 c6
          refine G_go rfl rfl ?_
          refine G_go rfl rfl ?_
          refine G_ret rfl rfl ?_
          refine G_call rfl rfl ?_
          refine G_go rfl rfl ?_
          refine G_brF rfl rfl rfl ?_
          refine G_go rfl rfl ?_
          refine G_go rfl rfl ?_
          refine G_ret rfl rfl ?_
          refine G_go rfl rfl ?_
          show G 2 120 63 16 [(3, 2), (1, a0), (1, a1), (1, (-6))] [] (n, s) Q
          refine G_go rfl rfl ?_
          refine G_brF rfl rfl rfl ?_
          refine G_go rfl rfl ?_
          refine G_go rfl rfl ?_
          refine G_call rfl rfl ?_
          refine G_go rfl rfl ?_
          refine G_go rfl rfl ?_
          refine G_go rfl rfl ?_
          refine G_go rfl rfl ?_
          refine G_brF rfl rfl rfl ?_
          refine G_go rfl rfl ?_
          refine G_go rfl rfl ?_
          refine G_rf rfl rfl (by decide) (hR 2 7 119 rfl) ?_
          refine G_go rfl rfl ?_
          refine G_brF rfl rfl rfl ?_
          refine G_go rfl rfl ?_
          refine G_rf rfl rfl (by decide) (hR 2 7 119 rfl) ?_
          refine G_go rfl rfl ?_
          refine G_go rfl rfl ?_
          refine G_ir (n := 7) rfl rfl (by decide) (by decide) (by decide) ?_
          refine G_go rfl rfl ?_
          refine G_go rfl rfl ?_
          refine G_iw (n := 7) rfl rfl (by decide) (by decide) (by decide) ?_
          have hR := refs_up (a := 119) (k := 6) (x := wr ((s 119 6) + 1)) hR rfl
          refine G_go rfl rfl ?_
          refine G_ret rfl rfl ?_
          exact G_ret rfl rfl h
  · have h := h.2 c1
    refine G_go rfl rfl ?_
    refine G_ret rfl rfl ?_
    refine G_go rfl rfl ?_
    refine G_go rfl rfl ?_
    refine G_call rfl rfl ?_
    refine G_go rfl rfl ?_
    refine G_lt rfl rfl (fun c7 => ?_) (fun c7 => ?_)
    · have h := h.1 c7
      refine G_go rfl rfl ?_
      refine G_go rfl rfl ?_
      refine G_ret rfl rfl ?_
      refine G_call rfl rfl ?_
      refine G_go rfl rfl ?_
      refine G_brF rfl rfl rfl ?_
      refine G_go rfl rfl ?_
      refine G_go rfl rfl ?_
      refine G_ret rfl rfl ?_
      refine G_go rfl rfl ?_
      show G 2 120 63 16 [(3, 2), (1, a0), (1, a1), (1, (-4))] [] (n, s) Q
      refine G_go rfl rfl ?_
      refine G_brF rfl rfl rfl ?_
      refine G_go rfl rfl ?_
      refine G_go rfl rfl ?_
      refine G_call rfl rfl ?_
      refine G_go rfl rfl ?_
      refine G_go rfl rfl ?_
      refine G_go rfl rfl ?_
      refine G_go rfl rfl ?_
      refine G_brF rfl rfl rfl ?_
      refine G_go rfl rfl ?_
      refine G_go rfl rfl ?_
      refine G_rf rfl rfl (by decide) (hR 2 7 119 rfl) ?_
      refine G_go rfl rfl ?_
      refine G_brF rfl rfl rfl ?_
      refine G_go rfl rfl ?_
      refine G_rf rfl rfl (by decide) (hR 2 7 119 rfl) ?_
      refine G_go rfl rfl ?_
      refine G_go rfl rfl ?_
      refine G_ir (n := 7) rfl rfl (by decide) (by decide) (by decide) ?_
      refine G_go rfl rfl ?_
      refine G_go rfl rfl ?_
      refine G_iw (n := 7) rfl rfl (by decide) (by decide) (by decide) ?_
      have hR := refs_up (a := 119) (k := 4) (x := wr ((s 119 4) + 1)) hR rfl
      refine G_go rfl rfl ?_
      refine G_ret rfl rfl ?_
      exact G_ret rfl rfl h
    · have h := h.2 c7
      refine G_go rfl rfl ?_
      refine G_go rfl rfl ?_
      refine G_le rfl rfl (fun c8 => ?_) (fun c8 => ?_)
      · have h := h.1 c8
        refine G_go rfl rfl ?_
        refine G_ret rfl rfl ?_
        refine G_call rfl rfl ?_
        refine G_go rfl rfl ?_
        refine G_brF rfl rfl rfl ?_
        refine G_go rfl rfl ?_
        refine G_go rfl rfl ?_
        refine G_ret rfl rfl ?_
        refine G_go rfl rfl ?_
        show G 2 120 63 16 [(3, 2), (1, a0), (1, a1), (1, (-4))] [] (n, s) Q
        refine G_go rfl rfl ?_
        refine G_brF rfl rfl rfl ?_
        refine G_go rfl rfl ?_
        refine G_go rfl rfl ?_
        refine G_call rfl rfl ?_
        refine G_go rfl rfl ?_
        refine G_go rfl rfl ?_
        refine G_go rfl rfl ?_
        refine G_go rfl rfl ?_
        refine G_brF rfl rfl rfl ?_
        refine G_go rfl rfl ?_
        refine G_go rfl rfl ?_
        refine G_rf rfl rfl (by decide) (hR 2 7 119 rfl) ?_
        refine G_go rfl rfl ?_
        refine G_brF rfl rfl rfl ?_
        refine G_go rfl rfl ?_
        refine G_rf rfl rfl (by decide) (hR 2 7 119 rfl) ?_
        refine G_go rfl rfl ?_
        refine G_go rfl rfl ?_
        refine G_ir (n := 7) rfl rfl (by decide) (by decide) (by decide) ?_
        refine G_go rfl rfl ?_
        refine G_go rfl rfl ?_
        refine G_iw (n := 7) rfl rfl (by decide) (by decide) (by decide) ?_
        have hR := refs_up (a := 119) (k := 4) (x := wr ((s 119 4) + 1)) hR rfl
        refine G_go rfl rfl ?_
        refine G_ret rfl rfl ?_
        exact G_ret rfl rfl h
      · have h := h.2 c8
        refine G_go rfl rfl ?_
        refine G_go rfl rfl ?_
        refine G_ret rfl rfl ?_
        refine G_call rfl rfl ?_
        refine G_go rfl rfl ?_
        refine G_brF rfl rfl rfl ?_
        refine G_go rfl rfl ?_
        refine G_go rfl rfl ?_
        refine G_ret rfl rfl ?_
        refine G_go rfl rfl ?_
        show G 2 120 63 16 [(3, 2), (1, a0), (1, a1), (1, (-4))] [] (n, s) Q
        refine G_go rfl rfl ?_
        refine G_brF rfl rfl rfl ?_
        refine G_go rfl rfl ?_
        refine G_go rfl rfl ?_
        refine G_call rfl rfl ?_
        refine G_go rfl rfl ?_
        refine G_go rfl rfl ?_
        refine G_go rfl rfl ?_
        refine G_go rfl rfl ?_
        refine G_brF rfl rfl rfl ?_
        refine G_go rfl rfl ?_
        refine G_go rfl rfl ?_
        refine G_rf rfl rfl (by decide) (hR 2 7 119 rfl) ?_
        refine G_go rfl rfl ?_
        refine G_brF rfl rfl rfl ?_
        refine G_go rfl rfl ?_
        refine G_rf rfl rfl (by decide) (hR 2 7 119 rfl) ?_
        refine G_go rfl rfl ?_
        refine G_go rfl rfl ?_
        refine G_ir (n := 7) rfl rfl (by decide) (by decide) (by decide) ?_
        refine G_go rfl rfl ?_
        refine G_go rfl rfl ?_
        refine G_iw (n := 7) rfl rfl (by decide) (by decide) (by decide) ?_
        have hR := refs_up (a := 119) (k := 4) (x := wr ((s 119 4) + 1)) hR rfl
        refine G_go rfl rfl ?_
        refine G_ret rfl rfl ?_
        exact G_ret rfl rfl h
theorem sb_X6_all_37 (n : Nat) (s : Nat → Nat → Int) (Q : List Vl → Sto → Prop) (x1 : Int) (x2 : Int) (x3 : Int) (hR : refs s)
    (h : G 2 120 56 0 [(3, 13), (1, x1), (0, 0)] [] (n, s) (fun r s1 => G 2 120 63 45 [(3, 2), (1, x1), (1, x2), (1, x3)] (r ++ []) s1 Q)) :
    G 2 120 63 37 [(3, 2), (1, x1), (1, x2), (1, x3)] [] (n, s) Q := by
  refine G_go rfl rfl ?_
  refine G_rf rfl rfl (by decide) (hR 2 1 13 rfl) ?_
  refine G_go rfl rfl ?_
  exact G_call rfl rfl h
theorem sb_X6_all_45 (n : Nat) (s : Nat → Nat → Int) (Q : List Vl → Sto → Prop) (x1 : Int) (x2 : Int) (x3 : Int) (hR : refs s)
    (h : (x2 ≠ 0 → (0 ≤ s 13 9 ∧ s 13 9 ≤ 6) ∧ (Q [(1, itr (smF (s 20)) 0 (s 13 9).toNat)] (n, s))) ∧ (x2 = 0 → G 2 120 52 0 [(3, 13)] [] (n, s) (fun r s1 => G 2 120 63 56 [(3, 2), (1, x1), (1, x2), (1, x3)] (r ++ []) s1 Q))) :
    G 2 120 63 45 [(3, 2), (1, x1), (1, x2), (1, x3)] [] (n, s) Q := by
  refine G_go rfl rfl ?_
  refine G_ne rfl rfl (fun c1 => ?_) (fun c1 => ?_)
  · have h := h.1 c1
    refine G_go rfl rfl ?_
    refine G_rf rfl rfl (by decide) (hR 2 1 13 rfl) ?_
    refine G_call rfl rfl ?_
    refine G_go rfl rfl ?_
    refine G_go rfl rfl ?_
    refine G_rf rfl rfl (by decide) (hR 13 6 20 rfl) ?_
    refine G_call rfl rfl ?_
    obtain ⟨g2, h⟩ := h
    refine c_X5_sumOf_13_20 n _ _ hR g2 ?_
    refine G_ret rfl rfl ?_
    exact G_ret rfl rfl h
  · have h := h.2 c1
    refine G_go rfl rfl ?_
    refine G_rf rfl rfl (by decide) (hR 2 1 13 rfl) ?_
    exact G_call rfl rfl h
theorem sb_X6_all_56 (n : Nat) (s : Nat → Nat → Int) (Q : List Vl → Sto → Prop) (x1 : Int) (x2 : Int) (x3 : Int) (y0 : Int) (hR : refs s)
    (h : Q [(1, y0)] (n, s)) :
    G 2 120 63 56 [(3, 2), (1, x1), (1, x2), (1, x3)] [(1, y0)] (n, s) Q := by
  refine G_go rfl rfl ?_
  exact G_ret rfl rfl h
theorem sb_X7_all_0 (n : Nat) (s : Nat → Nat → Int) (Q : List Vl → Sto → Prop) (a0 : Int) (a1 : Int) (hR : refs s)
    (h : (0 ≤ a0 → (a0 ≤ 99 → (a1 < 0 → Q [(1, (-2))] (n, upS (upS s 120 10 0) 129 2 (wr ((s 129 2) + 1)))) ∧ (a1 ≥ 0 → (a1 > 1 → Q [(1, (-2))] (n, upS (upS s 120 10 0) 129 2 (wr ((s 129 2) + 1)))) ∧ (a1 ≤ 1 → G 120 140 143 0 [(3, 120)] [] (n, upS s 120 10 0) (fun r s1 => G 120 140 150 32 [(3, 120), (1, a0), (1, a1), (1, 0), (0, 0)] (r ++ []) s1 Q)))) ∧ (99 < a0 → Q [(1, (-6))] (n, upS (upS s 120 10 0) 129 6 (wr ((s 129 6) + 1))))) ∧ (a0 < 0 → Q [(1, (-4))] (n, upS (upS s 120 10 0) 129 4 (wr ((s 129 4) + 1))))) :
    G 120 140 150 0 [(3, 120), (1, a0), (1, a1), (0, 0), (0, 0)] [] (n, s) Q := by
  refine G_go rfl rfl ?_
  refine G_go rfl rfl ?_
  refine G_wr rfl rfl (by decide) ?_
  have hR := refs_up (a := 120) (k := 10) (x := 0) hR rfl
  refine G_go rfl rfl ?_
  refine G_go rfl rfl ?_
  refine G_go rfl rfl ?_
  refine G_call rfl rfl ?_
  refine G_go rfl rfl ?_
  refine G_go rfl rfl ?_
  refine G_ge rfl rfl (fun c1 => ?_) (fun c1 => ?_)
  · have h := h.1 c1
    refine G_go rfl rfl ?_
    refine G_go rfl rfl ?_
    refine G_le rfl rfl (fun c2 => ?_) (fun c2 => ?_)
    · have h := h.1 c2
      refine G_go rfl rfl ?_
      refine G_ret rfl rfl ?_
      refine G_go rfl rfl ?_
      refine G_go rfl rfl ?_
      refine G_call rfl rfl ?_
      refine G_go rfl rfl ?_
      refine G_brF rfl rfl rfl ?_
      refine G_go rfl rfl ?_
      refine G_go rfl rfl ?_
      refine G_go rfl rfl ?_
      refine G_go rfl rfl ?_
      refine G_go rfl rfl ?_
      refine G_call rfl rfl ?_
      refine G_go rfl rfl ?_
      refine G_go rfl rfl ?_
      refine G_go rfl rfl ?_
      refine G_lt rfl rfl (fun c3 => ?_) (fun c3 => ?_)
      · have c3 := xl_lt c3
        have h := h.1 c3
        refine G_go rfl rfl ?_
        refine G_ret rfl rfl ?_
        refine G_brF rfl rfl rfl ?_
        refine G_go rfl rfl ?_
        refine G_go rfl rfl ?_
        refine G_ret rfl rfl ?_
        refine G_go rfl rfl ?_
        show G 120 140 150 18 [(3, 120), (1, a0), (1, a1), (1, (-2)), (0, 0)] [] (n, upS s 120 10 0) Q
        refine G_go rfl rfl ?_
        refine G_brF rfl rfl rfl ?_
        refine G_go rfl rfl ?_
        refine G_go rfl rfl ?_
        refine G_call rfl rfl ?_
        refine G_go rfl rfl ?_
        refine G_rf rfl rfl (by decide) (hR 120 11 129 rfl) ?_
        refine G_go rfl rfl ?_
        refine G_go rfl rfl ?_
        refine G_go rfl rfl ?_
        refine G_ir (n := 7) rfl rfl (by decide) (by decide) (by decide) ?_
        refine G_go rfl rfl ?_
        refine G_go rfl rfl ?_
        refine G_iw (n := 7) rfl rfl (by decide) (by decide) (by decide) ?_
        have hR := refs_up (a := 129) (k := 2) (x := wr ((s 129 2) + 1)) hR rfl
        refine G_go rfl rfl ?_
        refine G_ret rfl rfl ?_
        exact G_ret rfl rfl h
      · have c3 := xl_ge c3
        have h := h.2 c3
        refine G_go rfl rfl ?_
        refine G_go rfl rfl ?_
        refine G_go rfl rfl ?_
        refine G_gt rfl rfl (fun c4 => ?_) (fun c4 => ?_)
        · have c4 := xl_gt c4
          have h := h.1 c4
          refine G_go rfl rfl ?_
          refine G_ret rfl rfl ?_
          refine G_brF rfl rfl rfl ?_
          refine G_go rfl rfl ?_
          refine G_go rfl rfl ?_
          refine G_ret rfl rfl ?_
          refine G_go rfl rfl ?_
          show G 120 140 150 18 [(3, 120), (1, a0), (1, a1), (1, (-2)), (0, 0)] [] (n, upS s 120 10 0) Q
          refine G_go rfl rfl ?_
          refine G_brF rfl rfl rfl ?_
          refine G_go rfl rfl ?_
          refine G_go rfl rfl ?_
          refine G_call rfl rfl ?_
          refine G_go rfl rfl ?_
          refine G_rf rfl rfl (by decide) (hR 120 11 129 rfl) ?_
          refine G_go rfl rfl ?_
          refine G_go rfl rfl ?_
          refine G_go rfl rfl ?_
          refine G_ir (n := 7) rfl rfl (by decide) (by decide) (by decide) ?_
          refine G_go rfl rfl ?_
          refine G_go rfl rfl ?_
          refine G_iw (n := 7) rfl rfl (by decide) (by decide) (by decide) ?_
          have hR := refs_up (a := 129) (k := 2) (x := wr ((s 129 2) + 1)) hR rfl
          refine G_go rfl rfl ?_
          refine G_ret rfl rfl ?_
          exact G_ret rfl rfl h
        · have c4 := xl_le c4
          have h := h.2 c4
          refine G_go rfl rfl ?_
          refine G_go rfl rfl ?_
          refine G_ret rfl rfl ?_
          refine G_brT rfl rfl rfl ?_
          refine G_go rfl rfl ?_
          refine G_ret rfl rfl ?_
          refine G_go rfl rfl ?_
          show G 120 140 150 18 [(3, 120), (1, a0), (1, a1), (1, 0), (0, 0)] [] (n, upS s 120 10 0) Q
          refine G_go rfl rfl ?_
          refine G_brT rfl rfl rfl ?_
          refine G_go rfl rfl ?_
          exact G_call rfl rfl h
    · have h := h.2 c2
      refine G_go rfl rfl ?_
      refine G_go rfl rfl ?_
      refine G_ret rfl rfl ?_
      refine G_go rfl rfl ?_
      refine G_go rfl rfl ?_
      refine G_call rfl rfl ?_
      refine G_go rfl rfl ?_
      refine G_brT rfl rfl rfl ?_
      refine G_go rfl rfl ?_
      refine G_ret rfl rfl ?_
      refine G_go rfl rfl ?_
      show G 120 140 150 18 [(3, 120), (1, a0), (1, a1), (1, (-6)), (0, 0)] [] (n, upS s 120 10 0) Q
      refine G_go rfl rfl ?_
      refine G_brF rfl rfl rfl ?_
      refine G_go rfl rfl ?_
      refine G_go rfl rfl ?_
      refine G_call rfl rfl ?_
      refine G_go rfl rfl ?_
      refine G_rf rfl rfl (by decide) (hR 120 11 129 rfl) ?_
      refine G_go rfl rfl ?_
      refine G_go rfl rfl ?_
      refine G_go rfl rfl ?_
      refine G_ir (n := 7) rfl rfl (by decide) (by decide) (by decide) ?_
      refine G_go rfl rfl ?_
      refine G_go rfl rfl ?_
      refine G_iw (n := 7) rfl rfl (by decide) (by decide) (by decide) ?_
      have hR := refs_up (a := 129) (k := 6) (x := wr ((s 129 6) + 1)) hR rfl
      refine G_go rfl rfl ?_
      refine G_ret rfl rfl ?_
      exact G_ret rfl rfl h
  · have h := h.2 c1
    refine G_go rfl rfl ?_
    refine G_go rfl rfl ?_
    refine G_ret rfl rfl ?_
    refine G_go rfl rfl ?_
    refine G_go rfl rfl ?_
    refine G_call rfl rfl ?_
    refine G_go rfl rfl ?_
    refine G_brT rfl rfl rfl ?_
    refine G_go rfl rfl ?_
    refine G_ret rfl rfl ?_
    refine G_go rfl rfl ?_
    show G 120 140 150 18 [(3, 120), (1, a0), (1, a1), (1, (-4)), (0, 0)] [] (n, upS s 120 10 0) Q
    refine G_go rfl rfl ?_
    refine G_brF rfl rfl rfl ?_
    refine G_go rfl rfl ?_
    refine G_go rfl rfl ?_
    refine G_call rfl rfl ?_
    refine G_go rfl rfl ?_
    refine G_rf rfl rfl (by decide) (hR 120 11 129 rfl) ?_
    refine G_go rfl rfl ?_
    refine G_go rfl rfl ?_
    refine G_go rfl rfl ?_
    refine G_ir (n := 7) rfl rfl (by decide) (by decide) (by decide) ?_
    refine G_go rfl rfl ?_
    refine G_go rfl rfl ?_
    refine G_iw (n := 7) rfl rfl (by decide) (by decide) (by decide) ?_
    have hR := refs_up (a := 129) (k := 4) (x := wr ((s 129 4) + 1)) hR rfl
    refine G_go rfl rfl ?_
    refine G_ret rfl rfl ?_
    exact G_ret rfl rfl h
theorem sb_X7_all_32 (n : Nat) (s : Nat → Nat → Int) (Q : List Vl → Sto → Prop) (x1 : Int) (x2 : Int) (x3 : Int) (hR : refs s)
    (h : G 120 140 147 0 [(3, 120), (1, x1), (0, 0)] [] (n, s) (fun r s1 => G 120 140 150 37 [(3, 120), (1, x1), (1, x2), (1, x3), (0, 0)] (r ++ []) s1 Q)) :
    G 120 140 150 32 [(3, 120), (1, x1), (1, x2), (1, x3), (0, 0)] [] (n, s) Q := by
  refine G_go rfl rfl ?_
  refine G_go rfl rfl ?_
  exact G_call rfl rfl h
theorem sb_X7_all_37 (n : Nat) (s : Nat → Nat → Int) (Q : List Vl → Sto → Prop) (x1 : Int) (x2 : Int) (x3 : Int) (hR : refs s)
    (h : (x2 ≠ 0 → (0 ≤ s 120 0 ∧ s 120 0 ≤ 6) ∧ (G 120 140 140 0 [(3, 120)] [] (n, s) (fun r s1 => G 120 140 150 58 [(3, 120), (1, x1), (1, x2), (1, x3), (1, itr (smF (s 127)) 0 (s 120 0).toNat)] (r ++ []) s1 Q))) ∧ (x2 = 0 → G 120 140 148 0 [(3, 120), (0, 0), (0, 0)] [] (n, s) (fun r s1 => G 120 140 150 45 [(3, 120), (1, x1), (1, x2), (1, x3), (0, 0)] (r ++ []) s1 Q))) :
    G 120 140 150 37 [(3, 120), (1, x1), (1, x2), (1, x3), (0, 0)] [] (n, s) Q := by
  refine G_go rfl rfl ?_
  refine G_ne rfl rfl (fun c1 => ?_) (fun c1 => ?_)
  · have h := h.1 c1
    refine G_go rfl rfl ?_
    refine G_call rfl rfl ?_
    obtain ⟨g2, h⟩ := h
    refine c_X7_allPages n _ _ hR g2 ?_
    refine G_go rfl rfl ?_
    show G 120 140 150 54 [(3, 120), (1, x1), (1, x2), (1, x3), (1, itr (smF (s 127)) 0 (s 120 0).toNat)] [] (n, s) Q
    refine G_go rfl rfl ?_
    exact G_call rfl rfl h
  · have h := h.2 c1
    refine G_go rfl rfl ?_
    exact G_call rfl rfl h
theorem sb_X7_all_45 (n : Nat) (s : Nat → Nat → Int) (Q : List Vl → Sto → Prop) (x1 : Int) (x2 : Int) (x3 : Int) (y0 : Int) (hR : refs s)
    (h : G 120 140 140 0 [(3, 120)] [] (n, s) (fun r s1 => G 120 140 150 58 [(3, 120), (1, x1), (1, x2), (1, x3), (1, y0)] (r ++ []) s1 Q)) :
    G 120 140 150 45 [(3, 120), (1, x1), (1, x2), (1, x3), (0, 0)] [(1, y0)] (n, s) Q := by
  refine G_go rfl rfl ?_
  refine G_go rfl rfl ?_
  show G 120 140 150 54 [(3, 120), (1, x1), (1, x2), (1, x3), (1, y0)] [] (n, s) Q
  refine G_go rfl rfl ?_
  exact G_call rfl rfl h
theorem sb_X7_all_58 (n : Nat) (s : Nat → Nat → Int) (Q : List Vl → Sto → Prop) (x1 : Int) (x2 : Int) (x3 : Int) (x4 : Int) (hR : refs s)
    (h : Q [(1, x4)] (n, s)) :
    G 120 140 150 58 [(3, 120), (1, x1), (1, x2), (1, x3), (1, x4)] [] (n, s) Q := by
  refine G_go rfl rfl ?_
  exact G_ret rfl rfl h
theorem sb_X6_night_0 (n : Nat) (s : Nat → Nat → Int) (Q : List Vl → Sto → Prop) (a0 : Int) (a1 : Int) (a2 : Int) (hR : refs s)
    (h : (a0 < 0 → (1 ≤ a1 → (a1 ≤ 12 → (a2 < 0 → Q [(1, (-1))] (n, upS s 119 1 (wr ((s 119 1) + 1)))) ∧ (0 ≤ a2 → (a2 ≤ 2 → Q [(1, (-1))] (n, upS s 119 1 (wr ((s 119 1) + 1)))) ∧ (2 < a2 → Q [(1, (-1))] (n, upS s 119 1 (wr ((s 119 1) + 1)))))) ∧ (12 < a1 → (a2 < 0 → Q [(1, (-1))] (n, upS s 119 1 (wr ((s 119 1) + 1)))) ∧ (0 ≤ a2 → (a2 ≤ 2 → Q [(1, (-1))] (n, upS s 119 1 (wr ((s 119 1) + 1)))) ∧ (2 < a2 → Q [(1, (-1))] (n, upS s 119 1 (wr ((s 119 1) + 1))))))) ∧ (a1 < 1 → (a2 < 0 → Q [(1, (-1))] (n, upS s 119 1 (wr ((s 119 1) + 1)))) ∧ (0 ≤ a2 → (a2 ≤ 2 → Q [(1, (-1))] (n, upS s 119 1 (wr ((s 119 1) + 1)))) ∧ (2 < a2 → Q [(1, (-1))] (n, upS s 119 1 (wr ((s 119 1) + 1))))))) ∧ (0 ≤ a0 → (s 3 9 ≤ a0 → (1 ≤ a1 → (a1 ≤ 12 → (a2 < 0 → Q [(1, (-1))] (n, upS s 119 1 (wr ((s 119 1) + 1)))) ∧ (0 ≤ a2 → (a2 ≤ 2 → Q [(1, (-1))] (n, upS s 119 1 (wr ((s 119 1) + 1)))) ∧ (2 < a2 → Q [(1, (-1))] (n, upS s 119 1 (wr ((s 119 1) + 1)))))) ∧ (12 < a1 → (a2 < 0 → Q [(1, (-1))] (n, upS s 119 1 (wr ((s 119 1) + 1)))) ∧ (0 ≤ a2 → (a2 ≤ 2 → Q [(1, (-1))] (n, upS s 119 1 (wr ((s 119 1) + 1)))) ∧ (2 < a2 → Q [(1, (-1))] (n, upS s 119 1 (wr ((s 119 1) + 1))))))) ∧ (a1 < 1 → (a2 < 0 → Q [(1, (-1))] (n, upS s 119 1 (wr ((s 119 1) + 1)))) ∧ (0 ≤ a2 → (a2 ≤ 2 → Q [(1, (-1))] (n, upS s 119 1 (wr ((s 119 1) + 1)))) ∧ (2 < a2 → Q [(1, (-1))] (n, upS s 119 1 (wr ((s 119 1) + 1))))))) ∧ (a0 < s 3 9 → (1 ≤ a1 → (a1 ≤ 12 → (a2 < 0 → Q [(1, (-2))] (n, upS s 119 2 (wr ((s 119 2) + 1)))) ∧ (0 ≤ a2 → (a2 ≤ 2 → G 2 120 7 0 [(3, 13), (3, 3), (0, 0)] [] (n, s) (fun r s1 => G 2 120 111 45 [(3, 2), (1, a0), (1, a1), (1, a2), (1, 0)] (r ++ []) s1 Q)) ∧ (2 < a2 → Q [(1, (-2))] (n, upS s 119 2 (wr ((s 119 2) + 1)))))) ∧ (12 < a1 → (a2 < 0 → Q [(1, (-6))] (n, upS s 119 6 (wr ((s 119 6) + 1)))) ∧ (0 ≤ a2 → (a2 ≤ 2 → Q [(1, (-6))] (n, upS s 119 6 (wr ((s 119 6) + 1)))) ∧ (2 < a2 → Q [(1, (-6))] (n, upS s 119 6 (wr ((s 119 6) + 1))))))) ∧ (a1 < 1 → (a2 < 0 → Q [(1, (-4))] (n, upS s 119 4 (wr ((s 119 4) + 1)))) ∧ (0 ≤ a2 → (a2 ≤ 2 → Q [(1, (-4))] (n, upS s 119 4 (wr ((s 119 4) + 1)))) ∧ (2 < a2 → Q [(1, (-4))] (n, upS s 119 4 (wr ((s 119 4) + 1))))))))) :
    G 2 120 111 0 [(3, 2), (1, a0), (1, a1), (1, a2), (0, 0)] [] (n, s) Q := by
  refine G_go rfl rfl ?_
  refine G_go rfl rfl ?_
  refine G_call rfl rfl ?_
  refine G_go rfl rfl ?_
  refine G_rf rfl rfl (by decide) (hR 2 0 3 rfl) ?_
  refine G_go rfl rfl ?_
  refine G_call rfl rfl ?_
  refine G_go rfl rfl ?_
  refine G_lt rfl rfl (fun c1 => ?_) (fun c1 => ?_)
  · have h := h.1 c1
    refine G_go rfl rfl ?_
    refine G_ret rfl rfl ?_
    refine G_brT rfl rfl rfl ?_
    refine G_go rfl rfl ?_
    refine G_ret rfl rfl ?_
    refine G_go rfl rfl ?_
    refine G_go rfl rfl ?_
    refine G_go rfl rfl ?_
    refine G_call rfl rfl ?_
    refine G_go rfl rfl ?_
    refine G_go rfl rfl ?_
    refine G_ge rfl rfl (fun c2 => ?_) (fun c2 => ?_)
    · have h := h.1 c2
      refine G_go rfl rfl ?_
      refine G_go rfl rfl ?_
      refine G_le rfl rfl (fun c3 => ?_) (fun c3 => ?_)
      · have h := h.1 c3
        refine G_go rfl rfl ?_
        refine G_ret rfl rfl ?_
        refine G_go rfl rfl ?_
        refine G_go rfl rfl ?_
        refine G_call rfl rfl ?_
        refine G_go rfl rfl ?_
        refine G_lt rfl rfl (fun c4 => ?_) (fun c4 => ?_)
        · have h := h.1 c4
          refine G_go rfl rfl ?_
          refine G_go rfl rfl ?_
          refine G_ret rfl rfl ?_
          refine G_call rfl rfl ?_
          refine G_go rfl rfl ?_
          refine G_go rfl rfl ?_
          refine G_go rfl rfl ?_
          refine G_call rfl rfl ?_
          refine G_go rfl rfl ?_
          refine G_brT rfl rfl rfl ?_
          refine G_go rfl rfl ?_
          refine G_ret rfl rfl ?_
          refine G_call rfl rfl ?_
          refine G_go rfl rfl ?_
          refine G_brF rfl rfl rfl ?_
          refine G_go rfl rfl ?_
          refine G_go rfl rfl ?_
          refine G_ret rfl rfl ?_
          refine G_ret rfl rfl ?_
          refine G_go rfl rfl ?_
          show G 2 120 111 22 [(3, 2), (1, a0), (1, a1), (1, a2), (1, (-1))] [] (n, s) Q
          refine G_go rfl rfl ?_
          refine G_brF rfl rfl rfl ?_
          refine G_go rfl rfl ?_
          refine G_go rfl rfl ?_
          refine G_call rfl rfl ?_
          refine G_go rfl rfl ?_
          refine G_go rfl rfl ?_
          refine G_go rfl rfl ?_
          refine G_go rfl rfl ?_
          refine G_brF rfl rfl rfl ?_
          refine G_go rfl rfl ?_
          refine G_go rfl rfl ?_
          refine G_rf rfl rfl (by decide) (hR 2 7 119 rfl) ?_
          refine G_go rfl rfl ?_
          refine G_brF rfl rfl rfl ?_
          refine G_go rfl rfl ?_
          refine G_rf rfl rfl (by decide) (hR 2 7 119 rfl) ?_
          refine G_go rfl rfl ?_
          refine G_go rfl rfl ?_
          refine G_ir (n := 7) rfl rfl (by decide) (by decide) (by decide) ?_
          refine G_go rfl rfl ?_
          refine G_go rfl rfl ?_
          refine G_iw (n := 7) rfl rfl (by decide) (by decide) (by decide) ?_
          have hR := refs_up (a := 119) (k := 1) (x := wr ((s 119 1) + 1)) hR rfl
          refine G_go rfl rfl ?_
          refine G_ret rfl rfl ?_
          exact G_ret rfl rfl h
        · have h := h.2 c4
          refine G_go rfl rfl ?_
          refine G_go rfl rfl ?_
          refine G_le rfl rfl (fun c5 => ?_) (fun c5 => ?_)
          · have h := h.1 c5
            refine G_go rfl rfl ?_
            refine G_ret rfl rfl ?_
            refine G_call rfl rfl ?_
            refine G_go rfl rfl ?_
            refine G_go rfl rfl ?_
            refine G_go rfl rfl ?_
            refine G_call rfl rfl ?_
            refine G_go rfl rfl ?_
            refine G_brT rfl rfl rfl ?_
            refine G_go rfl rfl ?_
            refine G_ret rfl rfl ?_
            refine G_call rfl rfl ?_
            refine G_go rfl rfl ?_
            refine G_brF rfl rfl rfl ?_
            refine G_go rfl rfl ?_
            refine G_go rfl rfl ?_
            refine G_ret rfl rfl ?_
            refine G_ret rfl rfl ?_
            refine G_go rfl rfl ?_
            show G 2 120 111 22 [(3, 2), (1, a0), (1, a1), (1, a2), (1, (-1))] [] (n, s) Q
            refine G_go rfl rfl ?_
            refine G_brF rfl rfl rfl ?_
            refine G_go rfl rfl ?_
            refine G_go rfl rfl ?_
            refine G_call rfl rfl ?_
            refine G_go rfl rfl ?_
            refine G_go rfl rfl ?_
            refine G_go rfl rfl ?_
            refine G_go rfl rfl ?_
            refine G_brF rfl rfl rfl ?_
            refine G_go rfl rfl ?_
            refine G_go rfl rfl ?_
            refine G_rf rfl rfl (by decide) (hR 2 7 119 rfl) ?_
            refine G_go rfl rfl ?_
            refine G_brF rfl rfl rfl ?_
            refine G_go rfl rfl ?_
            refine G_rf rfl rfl (by decide) (hR 2 7 119 rfl) ?_
            refine G_go rfl rfl ?_
            refine G_go rfl rfl ?_
            refine G_ir (n := 7) rfl rfl (by decide) (by decide) (by decide) ?_
            refine G_go rfl rfl ?_
            refine G_go rfl rfl ?_
            refine G_iw (n := 7) rfl rfl (by decide) (by decide) (by decide) ?_
            have hR := refs_up (a := 119) (k := 1) (x := wr ((s 119 1) + 1)) hR rfl
            refine G_go rfl rfl ?_
            refine G_ret rfl rfl ?_
            exact G_ret rfl rfl h
          · have h := h.2 c5
            refine G_go rfl rfl ?_
            refine G_go rfl rfl ?_
            refine G_ret rfl rfl ?_
            refine G_call rfl rfl ?_
            refine G_go rfl rfl ?_
            refine G_go rfl rfl ?_
            refine G_go rfl rfl ?_
            refine G_call rfl rfl ?_
            refine G_go rfl rfl ?_
            refine G_brT rfl rfl rfl ?_
            refine G_go rfl rfl ?_
            refine G_ret rfl rfl ?_
            refine G_call rfl rfl ?_
            refine G_go rfl rfl ?_
            refine G_brF rfl rfl rfl ?_
            refine G_go rfl rfl ?_
            refine G_go rfl rfl ?_
            refine G_ret rfl rfl ?_
            refine G_ret rfl rfl ?_
            refine G_go rfl rfl ?_
            show G 2 120 111 22 [(3, 2), (1, a0), (1, a1), (1, a2), (1, (-1))] [] (n, s) Q
            refine G_go rfl rfl ?_
            refine G_brF rfl rfl rfl ?_
            refine G_go rfl rfl ?_
            refine G_go rfl rfl ?_
            refine G_call rfl rfl ?_
            refine G_go rfl rfl ?_
            refine G_go rfl rfl ?_
            refine G_go rfl rfl ?_
            refine G_go rfl rfl ?_
            refine G_brF rfl rfl rfl ?_
            refine G_go rfl rfl ?_
            refine G_go rfl rfl ?_
            refine G_rf rfl rfl (by decide) (hR 2 7 119 rfl) ?_
            refine G_go rfl rfl ?_
            refine G_brF rfl rfl rfl ?_
            refine G_go rfl rfl ?_
            refine G_rf rfl rfl (by decide) (hR 2 7 119 rfl) ?_
            refine G_go rfl rfl ?_
            refine G_go rfl rfl ?_
            refine G_ir (n := 7) rfl rfl (by decide) (by decide) (by decide) ?_
            refine G_go rfl rfl ?_
            refine G_go rfl rfl ?_
            refine G_iw (n := 7) rfl rfl (by decide) (by decide) (by decide) ?_
            have hR := refs_up (a := 119) (k := 1) (x := wr ((s 119 1) + 1)) hR rfl
            refine G_go rfl rfl ?_
            refine G_ret rfl rfl ?_
            exact G_ret rfl rfl h
      · have h := h.2 c3
        refine G_go rfl rfl ?_
        refine G_go rfl rfl ?_
        refine G_ret rfl rfl ?_
        refine G_go rfl rfl ?_
        refine G_go rfl rfl ?_
        refine G_call rfl rfl ?_
        refine G_go rfl rfl ?_
        refine G_lt rfl rfl (fun c6 => ?_) (fun c6 => ?_)
        · have h := h.1 c6
          refine G_go rfl rfl ?_
          refine G_go rfl rfl ?_
          refine G_ret rfl rfl ?_
          refine G_call rfl rfl ?_
          refine G_go rfl rfl ?_
          refine G_go rfl rfl ?_
          refine G_go rfl rfl ?_
          refine G_call rfl rfl ?_
          refine G_go rfl rfl ?_
          refine G_brF rfl rfl rfl ?_
          refine G_go rfl rfl ?_
          refine G_go rfl rfl ?_
          refine G_ret rfl rfl ?_
          refine G_call rfl rfl ?_
          refine G_go rfl rfl ?_
          refine G_brF rfl rfl rfl ?_
          refine G_go rfl rfl ?_
          refine G_go rfl rfl ?_
          refine G_ret rfl rfl ?_
          refine G_ret rfl rfl ?_
          refine G_go rfl rfl ?_
          show G 2 120 111 22 [(3, 2), (1, a0), (1, a1), (1, a2), (1, (-1))] [] (n, s) Q
          refine G_go rfl rfl ?_
          refine G_brF rfl rfl rfl ?_
          refine G_go rfl rfl ?_
          refine G_go rfl rfl ?_
          refine G_call rfl rfl ?_
          refine G_go rfl rfl ?_
          refine G_go rfl rfl ?_
          refine G_go rfl rfl ?_
          refine G_go rfl rfl ?_
          refine G_brF rfl rfl rfl ?_
          refine G_go rfl rfl ?_
          refine G_go rfl rfl ?_
          refine G_rf rfl rfl (by decide) (hR 2 7 119 rfl) ?_
          refine G_go rfl rfl ?_
          refine G_brF rfl rfl rfl ?_
          refine G_go rfl rfl ?_
          refine G_rf rfl rfl (by decide) (hR 2 7 119 rfl) ?_
          refine G_go rfl rfl ?_
          refine G_go rfl rfl ?_
          refine G_ir (n := 7) rfl rfl (by decide) (by decide) (by decide) ?_
          refine G_go rfl rfl ?_
          refine G_go rfl rfl ?_
          refine G_iw (n := 7) rfl rfl (by decide) (by decide) (by decide) ?_
          have hR := refs_up (a := 119) (k := 1) (x := wr ((s 119 1) + 1)) hR rfl
          refine G_go rfl rfl ?_
          refine G_ret rfl rfl ?_
          exact G_ret rfl rfl h
        · have h := h.2 c6
          refine G_go rfl rfl ?_
          refine G_go rfl rfl ?_
          refine G_le rfl rfl (fun c7 => ?_) (fun c7 => ?_)
          · have h := h.1 c7
            refine G_go rfl rfl ?_
            refine G_ret rfl rfl ?_
            refine G_call rfl rfl ?_
            refine G_go rfl rfl ?_
            refine G_go rfl rfl ?_
            refine G_go rfl rfl ?_
            refine G_call rfl rfl ?_
            refine G_go rfl rfl ?_
            refine G_brF rfl rfl rfl ?_
            refine G_go rfl rfl ?_
            refine G_go rfl rfl ?_
            refine G_ret rfl rfl ?_
            refine G_call rfl rfl ?_
            refine G_go rfl rfl ?_
            refine G_brF rfl rfl rfl ?_
            refine G_go rfl rfl ?_
            refine G_go rfl rfl ?_
            refine G_ret rfl rfl ?_
            refine G_ret rfl rfl ?_
            refine G_go rfl rfl ?_
            show G 2 120 111 22 [(3, 2), (1, a0), (1, a1), (1, a2), (1, (-1))] [] (n, s) Q
            refine G_go rfl rfl ?_
            refine G_brF rfl rfl rfl ?_
            refine G_go rfl rfl ?_
            refine G_go rfl rfl ?_
            refine G_call rfl rfl ?_
            refine G_go rfl rfl ?_
            refine G_go rfl rfl ?_
            refine G_go rfl rfl ?_
            refine G_go rfl rfl ?_
            refine G_brF rfl rfl rfl ?_
            refine G_go rfl rfl ?_
            refine G_go rfl rfl ?_
            refine G_rf rfl rfl (by decide) (hR 2 7 119 rfl) ?_
            refine G_go rfl rfl ?_
            refine G_brF rfl rfl rfl ?_
            refine G_go rfl rfl ?_
            refine G_rf rfl rfl (by decide) (hR 2 7 119 rfl) ?_
            refine G_go rfl rfl ?_
            refine G_go rfl rfl ?_
            refine G_ir (n := 7) rfl rfl (by decide) (by decide) (by decide) ?_
            refine G_go rfl rfl ?_
            refine G_go rfl rfl ?_
            refine G_iw (n := 7) rfl rfl (by decide) (by decide) (by decide) ?_
            have hR := refs_up (a := 119) (k := 1) (x := wr ((s 119 1) + 1)) hR rfl
            refine G_go rfl rfl ?_
            refine G_ret rfl rfl ?_
            exact G_ret rfl rfl h
          · have h := h.2 c7
            refine G_go rfl rfl ?_
            refine G_go rfl rfl ?_
            refine G_ret rfl rfl ?_
            refine G_call rfl rfl ?_
            refine G_go rfl rfl ?_
            refine G_go rfl rfl ?_
            refine G_go rfl rfl ?_
            refine G_call rfl rfl ?_
            refine G_go rfl rfl ?_
            refine G_brF rfl rfl rfl ?_
            refine G_go rfl rfl ?_
            refine G_go rfl rfl ?_
            refine G_ret rfl rfl ?_
            refine G_call rfl rfl ?_
            refine G_go rfl rfl ?_
            refine G_brF rfl rfl rfl ?_
            refine G_go rfl rfl ?_
            refine G_go rfl rfl ?_
            refine G_ret rfl rfl ?_
            refine G_ret rfl rfl ?_
            refine G_go rfl rfl ?_
            show G 2 120 111 22 [(3, 2), (1, a0), (1, a1), (1, a2), (1, (-1))] [] (n, s) Q
            refine G_go rfl rfl ?_
            refine G_brF rfl rfl rfl ?_
            refine G_go rfl rfl ?_
            refine G_go rfl rfl ?_
            refine G_call rfl rfl ?_
            refine G_go rfl rfl ?_
            refine G_go rfl rfl ?_
            refine G_go rfl rfl ?_
            refine G_go rfl rfl ?_
            refine G_brF rfl rfl rfl ?_
            refine G_go rfl rfl ?_
            refine G_go rfl rfl ?_
            refine G_rf rfl rfl (by decide) (hR 2 7 119 rfl) ?_
            refine G_go rfl rfl ?_
            refine G_brF rfl rfl rfl ?_
            refine G_go rfl rfl ?_
            refine G_rf rfl rfl (by decide) (hR 2 7 119 rfl) ?_
            refine G_go rfl rfl ?_
            refine G_go rfl rfl ?_
            refine G_ir (n := 7) rfl rfl (by decide) (by decide) (by decide) ?_
            refine G_go rfl rfl ?_
            refine G_go rfl rfl ?_
            refine G_iw (n := 7) rfl rfl (by decide) (by decide) (by decide) ?_
            have hR := refs_up (a := 119) (k := 1) (x := wr ((s 119 1) + 1)) hR rfl
            refine G_go rfl rfl ?_
            refine G_ret rfl rfl ?_
            exact G_ret rfl rfl h
    · have h := h.2 c2
      refine G_go rfl rfl ?_
      refine G_ret rfl rfl ?_
      refine G_go rfl rfl ?_
      refine G_go rfl rfl ?_
      refine G_call rfl rfl ?_
      refine G_go rfl rfl ?_
      refine G_lt rfl rfl (fun c8 => ?_) (fun c8 => ?_)
      · have h := h.1 c8
        refine G_go rfl rfl ?_
        refine G_go rfl rfl ?_
        refine G_ret rfl rfl ?_
        refine G_call rfl rfl ?_
        refine G_go rfl rfl ?_
        refine G_go rfl rfl ?_
        refine G_go rfl rfl ?_
        refine G_call rfl rfl ?_
        refine G_go rfl rfl ?_
        refine G_brF rfl rfl rfl ?_
        refine G_go rfl rfl ?_
        refine G_go rfl rfl ?_
        refine G_ret rfl rfl ?_
        refine G_call rfl rfl ?_
        refine G_go rfl rfl ?_
        refine G_brF rfl rfl rfl ?_
        refine G_go rfl rfl ?_
        refine G_go rfl rfl ?_
        refine G_ret rfl rfl ?_
        refine G_ret rfl rfl ?_
        refine G_go rfl rfl ?_
        show G 2 120 111 22 [(3, 2), (1, a0), (1, a1), (1, a2), (1, (-1))] [] (n, s) Q
        refine G_go rfl rfl ?_
        refine G_brF rfl rfl rfl ?_
        refine G_go rfl rfl ?_
        refine G_go rfl rfl ?_
        refine G_call rfl rfl ?_
        refine G_go rfl rfl ?_
        refine G_go rfl rfl ?_
        refine G_go rfl rfl ?_
        refine G_go rfl rfl ?_
        refine G_brF rfl rfl rfl ?_
        refine G_go rfl rfl ?_
        refine G_go rfl rfl ?_
        refine G_rf rfl rfl (by decide) (hR 2 7 119 rfl) ?_
        refine G_go rfl rfl ?_
        refine G_brF rfl rfl rfl ?_
        refine G_go rfl rfl ?_
        refine G_rf rfl rfl (by decide) (hR 2 7 119 rfl) ?_
        refine G_go rfl rfl ?_
        refine G_go rfl rfl ?_
        refine G_ir (n := 7) rfl rfl (by decide) (by decide) (by decide) ?_
        refine G_go rfl rfl ?_
        refine G_go rfl rfl ?_
        refine G_iw (n := 7) rfl rfl (by decide) (by decide) (by decide) ?_
        have hR := refs_up (a := 119) (k := 1) (x := wr ((s 119 1) + 1)) hR rfl
        refine G_go rfl rfl ?_
        refine G_ret rfl rfl ?_
        exact G_ret rfl rfl h
      · have h := h.2 c8
        refine G_go rfl rfl ?_
        refine G_go rfl rfl ?_
        refine G_le rfl rfl (fun c9 => ?_) (fun c9 => ?_)
        · have h := h.1 c9
          refine G_go rfl rfl ?_
          refine G_ret rfl rfl ?_
          refine G_call rfl rfl ?_
          refine G_go rfl rfl ?_
          refine G_go rfl rfl ?_
          refine G_go rfl rfl ?_
          refine G_call rfl rfl ?_
          refine G_go rfl rfl ?_
          refine G_brF rfl rfl rfl ?_
          refine G_go rfl rfl ?_
          refine G_go rfl rfl ?_
          refine G_ret rfl rfl ?_
          refine G_call rfl rfl ?_
          refine G_go rfl rfl ?_
          refine G_brF rfl rfl rfl ?_
          refine G_go rfl rfl ?_
          refine G_go rfl rfl ?_
          refine G_ret rfl rfl ?_
          refine G_ret rfl rfl ?_
          refine G_go rfl rfl ?_
          show G 2 120 111 22 [(3, 2), (1, a0), (1, a1), (1, a2), (1, (-1))] [] (n, s) Q
          refine G_go rfl rfl ?_
          refine G_brF rfl rfl rfl ?_
          refine G_go rfl rfl ?_
          refine G_go rfl rfl ?_
          refine G_call rfl rfl ?_
          refine G_go rfl rfl ?_
          refine G_go rfl rfl ?_
          refine G_go rfl rfl ?_
          refine G_go rfl rfl ?_
          refine G_brF rfl rfl rfl ?_
          refine G_go rfl rfl ?_
          refine G_go rfl rfl ?_
          refine G_rf rfl rfl (by decide) (hR 2 7 119 rfl) ?_
          refine G_go rfl rfl ?_
          refine G_brF rfl rfl rfl ?_
          refine G_go rfl rfl ?_
          refine G_rf rfl rfl (by decide) (hR 2 7 119 rfl) ?_
          refine G_go rfl rfl ?_
          refine G_go rfl rfl ?_
          refine G_ir (n := 7) rfl rfl (by decide) (by decide) (by decide) ?_
          refine G_go rfl rfl ?_
          refine G_go rfl rfl ?_
          refine G_iw (n := 7) rfl rfl (by decide) (by decide) (by decide) ?_
          have hR := refs_up (a := 119) (k := 1) (x := wr ((s 119 1) + 1)) hR rfl
          refine G_go rfl rfl ?_
          refine G_ret rfl rfl ?_
          exact G_ret rfl rfl h
        · have h := h.2 c9
          refine G_go rfl rfl ?_
          refine G_go rfl rfl ?_
          refine G_ret rfl rfl ?_
          refine G_call rfl rfl ?_
          refine G_go rfl rfl ?_
          refine G_go rfl rfl ?_
          refine G_go rfl rfl ?_
          refine G_call rfl rfl ?_
          refine G_go rfl rfl ?_
          refine G_brF rfl rfl rfl ?_
          refine G_go rfl rfl ?_
          refine G_go rfl rfl ?_
          refine G_ret rfl rfl ?_
          refine G_call rfl rfl ?_
          refine G_go rfl rfl ?_
          refine G_brF rfl rfl rfl ?_
          refine G_go rfl rfl ?_
          refine G_go rfl rfl ?_
          refine G_ret rfl rfl ?_
          refine G_ret rfl rfl ?_
          refine G_go rfl rfl ?_
          show G 2 120 111 22 [(3, 2), (1, a0), (1, a1), (1, a2), (1, (-1))] [] (n, s) Q
          refine G_go rfl rfl ?_
          refine G_brF rfl rfl rfl ?_
          refine G_go rfl rfl ?_
          refine G_go rfl rfl ?_
          refine G_call rfl rfl ?_
          refine G_go rfl rfl ?_
          refine G_go rfl rfl ?_
          refine G_go rfl rfl ?_
          refine G_go rfl rfl ?_
          refine G_brF rfl rfl rfl ?_
          refine G_go rfl rfl ?_
          refine G_go rfl rfl ?_
          refine G_rf rfl rfl (by decide) (hR 2 7 119 rfl) ?_
          refine G_go rfl rfl ?_
          refine G_brF rfl rfl rfl ?_
          refine G_go rfl rfl ?_
          refine G_rf rfl rfl (by decide) (hR 2 7 119 rfl) ?_
          refine G_go rfl rfl ?_
          refine G_go rfl rfl ?_
          refine G_ir (n := 7) rfl rfl (by decide) (by decide) (by decide) ?_
          refine G_go rfl rfl ?_
          refine G_go rfl rfl ?_
          refine G_iw (n := 7) rfl rfl (by decide) (by decide) (by decide) ?_
          have hR := refs_up (a := 119) (k := 1) (x := wr ((s 119 1) + 1)) hR rfl
          refine G_go rfl rfl ?_
          refine G_ret rfl rfl ?_
          exact G_ret rfl rfl h
  · have h := h.2 c1
    refine G_go rfl rfl ?_
    refine G_go rfl rfl ?_
    refine G_rd rfl rfl (by decide) ?_
    refine G_ge rfl rfl (fun c10 => ?_) (fun c10 => ?_)
    · have h := h.1 c10
      refine G_go rfl rfl ?_
      refine G_ret rfl rfl ?_
      refine G_brT rfl rfl rfl ?_
      refine G_go rfl rfl ?_
      refine G_ret rfl rfl ?_
      refine G_go rfl rfl ?_
      refine G_go rfl rfl ?_
      refine G_go rfl rfl ?_
      refine G_call rfl rfl ?_
      refine G_go rfl rfl ?_
      refine G_go rfl rfl ?_
      refine G_ge rfl rfl (fun c11 => ?_) (fun c11 => ?_)
      · have h := h.1 c11
        refine G_go rfl rfl ?_
        refine G_go rfl rfl ?_
        refine G_le rfl rfl (fun c12 => ?_) (fun c12 => ?_)
        · have h := h.1 c12
          refine G_go rfl rfl ?_
          refine G_ret rfl rfl ?_
          refine G_go rfl rfl ?_
          refine G_go rfl rfl ?_
          refine G_call rfl rfl ?_
          refine G_go rfl rfl ?_
          refine G_lt rfl rfl (fun c13 => ?_) (fun c13 => ?_)
          · have h := h.1 c13
            refine G_go rfl rfl ?_
            refine G_go rfl rfl ?_
            refine G_ret rfl rfl ?_
            refine G_call rfl rfl ?_
            refine G_go rfl rfl ?_
            refine G_go rfl rfl ?_
            refine G_go rfl rfl ?_
            refine G_call rfl rfl ?_
            refine G_go rfl rfl ?_
            refine G_brT rfl rfl rfl ?_
            refine G_go rfl rfl ?_
            refine G_ret rfl rfl ?_
            refine G_call rfl rfl ?_
            refine G_go rfl rfl ?_
            refine G_brF rfl rfl rfl ?_
            refine G_go rfl rfl ?_
            refine G_go rfl rfl ?_
            refine G_ret rfl rfl ?_
            refine G_ret rfl rfl ?_
            refine G_go rfl rfl ?_
            show G 2 120 111 22 [(3, 2), (1, a0), (1, a1), (1, a2), (1, (-1))] [] (n, s) Q
            refine G_go rfl rfl ?_
            refine G_brF rfl rfl rfl ?_
            refine G_go rfl rfl ?_
            refine G_go rfl rfl ?_
            refine G_call rfl rfl ?_
            refine G_go rfl rfl ?_
            refine G_go rfl rfl ?_
            refine G_go rfl rfl ?_
            refine G_go rfl rfl ?_
            refine G_brF rfl rfl rfl ?_
            refine G_go rfl rfl ?_
            refine G_go rfl rfl ?_
            refine G_rf rfl rfl (by decide) (hR 2 7 119 rfl) ?_
            refine G_go rfl rfl ?_
            refine G_brF rfl rfl rfl ?_
            refine G_go rfl rfl ?_
            refine G_rf rfl rfl (by decide) (hR 2 7 119 rfl) ?_
            refine G_go rfl rfl ?_
            refine G_go rfl rfl ?_
            refine G_ir (n := 7) rfl rfl (by decide) (by decide) (by decide) ?_
            refine G_go rfl rfl ?_
            refine G_go rfl rfl ?_
            refine G_iw (n := 7) rfl rfl (by decide) (by decide) (by decide) ?_
            have hR := refs_up (a := 119) (k := 1) (x := wr ((s 119 1) + 1)) hR rfl
            refine G_go rfl rfl ?_
            refine G_ret rfl rfl ?_
            exact G_ret rfl rfl h
          · have h := h.2 c13
            refine G_go rfl rfl ?_
            refine G_go rfl rfl ?_
            refine G_le rfl rfl (fun c14 => ?_) (fun c14 => ?_)
            · have h := h.1 c14
              refine G_go rfl rfl ?_
              refine G_ret rfl rfl ?_
              refine G_call rfl rfl ?_
              refine G_go rfl rfl ?_
              refine G_go rfl rfl ?_
              refine G_go rfl rfl ?_
              refine G_call rfl rfl ?_
              refine G_go rfl rfl ?_
              refine G_brT rfl rfl rfl ?_
              refine G_go rfl rfl ?_
              refine G_ret rfl rfl ?_
              refine G_call rfl rfl ?_
              refine G_go rfl rfl ?_
              refine G_brF rfl rfl rfl ?_
              refine G_go rfl rfl ?_
              refine G_go rfl rfl ?_
              refine G_ret rfl rfl ?_
              refine G_ret rfl rfl ?_
              refine G_go rfl rfl ?_
              show G 2 120 111 22 [(3, 2), (1, a0), (1, a1), (1, a2), (1, (-1))] [] (n, s) Q
              refine G_go rfl rfl ?_
              refine G_brF rfl rfl rfl ?_
              refine G_go rfl rfl ?_
              refine G_go rfl rfl ?_
              refine G_call rfl rfl ?_
              refine G_go rfl rfl ?_
              refine G_go rfl rfl ?_
              refine G_go rfl rfl ?_
              refine G_go rfl rfl ?_
              refine G_brF rfl rfl rfl ?_
              refine G_go rfl rfl ?_
              refine G_go rfl rfl ?_
              refine G_rf rfl rfl (by decide) (hR 2 7 119 rfl) ?_
              refine G_go rfl rfl ?_
              refine G_brF rfl rfl rfl ?_
              refine G_go rfl rfl ?_
              refine G_rf rfl rfl (by decide) (hR 2 7 119 rfl) ?_
              refine G_go rfl rfl ?_
              refine G_go rfl rfl ?_
              refine G_ir (n := 7) rfl rfl (by decide) (by decide) (by decide) ?_
              refine G_go rfl rfl ?_
              refine G_go rfl rfl ?_
              refine G_iw (n := 7) rfl rfl (by decide) (by decide) (by decide) ?_
              have hR := refs_up (a := 119) (k := 1) (x := wr ((s 119 1) + 1)) hR rfl
              refine G_go rfl rfl ?_
              refine G_ret rfl rfl ?_
              exact G_ret rfl rfl h
            · have h := h.2 c14
              refine G_go rfl rfl ?_
              refine G_go rfl rfl ?_
              refine G_ret rfl rfl ?_
              refine G_call rfl rfl ?_
              refine G_go rfl rfl ?_
              refine G_go rfl rfl ?_
              refine G_go rfl rfl ?_
              refine G_call rfl rfl ?_
              refine G_go rfl rfl ?_
              refine G_brT rfl rfl rfl ?_
              refine G_go rfl rfl ?_
              refine G_ret rfl rfl ?_
              refine G_call rfl rfl ?_
              refine G_go rfl rfl ?_
              refine G_brF rfl rfl rfl ?_
              refine G_go rfl rfl ?_
              refine G_go rfl rfl ?_
              refine G_ret rfl rfl ?_
              refine G_ret rfl rfl ?_
              refine G_go rfl rfl ?_
              show G 2 120 111 22 [(3, 2), (1, a0), (1, a1), (1, a2), (1, (-1))] [] (n, s) Q
              refine G_go rfl rfl ?_
              refine G_brF rfl rfl rfl ?_
              refine G_go rfl rfl ?_
              refine G_go rfl rfl ?_
              refine G_call rfl rfl ?_
              refine G_go rfl rfl ?_
              refine G_go rfl rfl ?_
              refine G_go rfl rfl ?_
              refine G_go rfl rfl ?_
              refine G_brF rfl rfl rfl ?_
              refine G_go rfl rfl ?_
              refine G_go rfl rfl ?_
              refine G_rf rfl rfl (by decide) (hR 2 7 119 rfl) ?_
              refine G_go rfl rfl ?_
              refine G_brF rfl rfl rfl ?_
              refine G_go rfl rfl ?_
              refine G_rf rfl rfl (by decide) (hR 2 7 119 rfl) ?_
              refine G_go rfl rfl ?_
              refine G_go rfl rfl ?_
              refine G_ir (n := 7) rfl rfl (by decide) (by decide) (by decide) ?_
              refine G_go rfl rfl ?_
              refine G_go rfl rfl ?_
              refine G_iw (n := 7) rfl rfl (by decide) (by decide) (by decide) ?_
              have hR := refs_up (a := 119) (k := 1) (x := wr ((s 119 1) + 1)) hR rfl
              refine G_go rfl rfl ?_
              refine G_ret rfl rfl ?_
              exact G_ret rfl rfl h
        · have h := h.2 c12
          refine G_go rfl rfl ?_
          refine G_go rfl rfl ?_
          refine G_ret rfl rfl ?_
          refine G_go rfl rfl ?_
          refine G_go rfl rfl ?_
          refine G_call rfl rfl ?_
          refine G_go rfl rfl ?_
          refine G_lt rfl rfl (fun c15 => ?_) (fun c15 => ?_)
          · have h := h.1 c15
            refine G_go rfl rfl ?_
            refine G_go rfl rfl ?_
            refine G_ret rfl rfl ?_
            refine G_call rfl rfl ?_
            refine G_go rfl rfl ?_
            refine G_go rfl rfl ?_
            refine G_go rfl rfl ?_
            refine G_call rfl rfl ?_
            refine G_go rfl rfl ?_
            refine G_brF rfl rfl rfl ?_
            refine G_go rfl rfl ?_
            refine G_go rfl rfl ?_
            refine G_ret rfl rfl ?_
            refine G_call rfl rfl ?_
            refine G_go rfl rfl ?_
            refine G_brF rfl rfl rfl ?_
            refine G_go rfl rfl ?_
            refine G_go rfl rfl ?_
            refine G_ret rfl rfl ?_
            refine G_ret rfl rfl ?_
            refine G_go rfl rfl ?_
            show G 2 120 111 22 [(3, 2), (1, a0), (1, a1), (1, a2), (1, (-1))] [] (n, s) Q
            refine G_go rfl rfl ?_
            refine G_brF rfl rfl rfl ?_
            refine G_go rfl rfl ?_
            refine G_go rfl rfl ?_
            refine G_call rfl rfl ?_
            refine G_go rfl rfl ?_
            refine G_go rfl rfl ?_
            refine G_go rfl rfl ?_
            refine G_go rfl rfl ?_
            refine G_brF rfl rfl rfl ?_
            refine G_go rfl rfl ?_
            refine G_go rfl rfl ?_
            refine G_rf rfl rfl (by decide) (hR 2 7 119 rfl) ?_
            refine G_go rfl rfl ?_
            refine G_brF rfl rfl rfl ?_
            refine G_go rfl rfl ?_
            refine G_rf rfl rfl (by decide) (hR 2 7 119 rfl) ?_
            refine G_go rfl rfl ?_
            refine G_go rfl rfl ?_
            refine G_ir (n := 7) rfl rfl (by decide) (by decide) (by decide) ?_
            refine G_go rfl rfl ?_
            refine G_go rfl rfl ?_
            refine G_iw (n := 7) rfl rfl (by decide) (by decide) (by decide) ?_
            have hR := refs_up (a := 119) (k := 1) (x := wr ((s 119 1) + 1)) hR rfl
            refine G_go rfl rfl ?_
            refine G_ret rfl rfl ?_
            exact G_ret rfl rfl h
          · have h := h.2 c15
            refine G_go rfl rfl ?_
            refine G_go rfl rfl ?_
            refine G_le rfl rfl (fun c16 => ?_) (fun c16 => ?_)
            · have h := h.1 c16
              refine G_go rfl rfl ?_
              refine G_ret rfl rfl ?_
              refine G_call rfl rfl ?_
              refine G_go rfl rfl ?_
              refine G_go rfl rfl ?_
              refine G_go rfl rfl ?_
              refine G_call rfl rfl ?_
              refine G_go rfl rfl ?_
              refine G_brF rfl rfl rfl ?_
              refine G_go rfl rfl ?_
              refine G_go rfl rfl ?_
              refine G_ret rfl rfl ?_
              refine G_call rfl rfl ?_
              refine G_go rfl rfl ?_
              refine G_brF rfl rfl rfl ?_
              refine G_go rfl rfl ?_
              refine G_go rfl rfl ?_
              refine G_ret rfl rfl ?_
              refine G_ret rfl rfl ?_
              refine G_go rfl rfl ?_
              show G 2 120 111 22 [(3, 2), (1, a0), (1, a1), (1, a2), (1, (-1))] [] (n, s) Q
              refine G_go rfl rfl ?_
              refine G_brF rfl rfl rfl ?_
              refine G_go rfl rfl ?_
              refine G_go rfl rfl ?_
              refine G_call rfl rfl ?_
              refine G_go rfl rfl ?_
              refine G_go rfl rfl ?_
              refine G_go rfl rfl ?_
              refine G_go rfl rfl ?_
              refine G_brF rfl rfl rfl ?_
              refine G_go rfl rfl ?_
              refine G_go rfl rfl ?_
              refine G_rf rfl rfl (by decide) (hR 2 7 119 rfl) ?_
              refine G_go rfl rfl ?_
              refine G_brF rfl rfl rfl ?_
              refine G_go rfl rfl ?_
              refine G_rf rfl rfl (by decide) (hR 2 7 119 rfl) ?_
              refine G_go rfl rfl ?_
              refine G_go rfl rfl ?_
              refine G_ir (n := 7) rfl rfl (by decide) (by decide) (by decide) ?_
              refine G_go rfl rfl ?_
              refine G_go rfl rfl ?_
              refine G_iw (n := 7) rfl rfl (by decide) (by decide) (by decide) ?_
              have hR := refs_up (a := 119) (k := 1) (x := wr ((s 119 1) + 1)) hR rfl
              refine G_go rfl rfl ?_
              refine G_ret rfl rfl ?_
              exact G_ret rfl rfl h
            · have h := h.2 c16
              refine G_go rfl rfl ?_
              refine G_go rfl rfl ?_
              refine G_ret rfl rfl ?_
              refine G_call rfl rfl ?_
              refine G_go rfl rfl ?_
              refine G_go rfl rfl ?_
              refine G_go rfl rfl ?_
              refine G_call rfl rfl ?_
              refine G_go rfl rfl ?_
              refine G_brF rfl rfl rfl ?_
              refine G_go rfl rfl ?_
              refine G_go rfl rfl ?_
              refine G_ret rfl rfl ?_
              refine G_call rfl rfl ?_
              refine G_go rfl rfl ?_
              refine G_brF rfl rfl rfl ?_
              refine G_go rfl rfl ?_
              refine G_go rfl rfl ?_
              refine G_ret rfl rfl ?_
              refine G_ret rfl rfl ?_
              refine G_go rfl rfl ?_
              show G 2 120 111 22 [(3, 2), (1, a0), (1, a1), (1, a2), (1, (-1))] [] (n, s) Q
              refine G_go rfl rfl ?_
              refine G_brF rfl rfl rfl ?_
              refine G_go rfl rfl ?_
              refine G_go rfl rfl ?_
              refine G_call rfl rfl ?_
              refine G_go rfl rfl ?_
              refine G_go rfl rfl ?_
              refine G_go rfl rfl ?_
              refine G_go rfl rfl ?_
              refine G_brF rfl rfl rfl ?_
              refine G_go rfl rfl ?_
              refine G_go rfl rfl ?_
              refine G_rf rfl rfl (by decide) (hR 2 7 119 rfl) ?_
              refine G_go rfl rfl ?_
              refine G_brF rfl rfl rfl ?_
              refine G_go rfl rfl ?_
              refine G_rf rfl rfl (by decide) (hR 2 7 119 rfl) ?_
              refine G_go rfl rfl ?_
              refine G_go rfl rfl ?_
              refine G_ir (n := 7) rfl rfl (by decide) (by decide) (by decide) ?_
              refine G_go rfl rfl ?_
              refine G_go rfl rfl ?_
              refine G_iw (n := 7) rfl rfl (by decide) (by decide) (by decide) ?_
              have hR := refs_up (a := 119) (k := 1) (x := wr ((s 119 1) + 1)) hR rfl
              refine G_go rfl rfl ?_
              refine G_ret rfl rfl ?_
              exact G_ret rfl rfl h
      · have h := h.2 c11
        refine G_go rfl rfl ?_
        refine G_ret rfl rfl ?_
        refine G_go rfl rfl ?_
        refine G_go rfl rfl ?_
        refine G_call rfl rfl ?_
        refine G_go rfl rfl ?_
        refine G_lt rfl rfl (fun c17 => ?_) (fun c17 => ?_)
        · have h := h.1 c17
          refine G_go rfl rfl ?_
          refine G_go rfl rfl ?_
          refine G_ret rfl rfl ?_
          refine G_call rfl rfl ?_
          refine G_go rfl rfl ?_
          refine G_go rfl rfl ?_
          refine G_go rfl rfl ?_
          refine G_call rfl rfl ?_
          refine G_go rfl rfl ?_
          refine G_brF rfl rfl rfl ?_
          refine G_go rfl rfl ?_
          refine G_go rfl rfl ?_
          refine G_ret rfl rfl ?_
          refine G_call rfl rfl ?_
          refine G_go rfl rfl ?_
          refine G_brF rfl rfl rfl ?_
          refine G_go rfl rfl ?_
          refine G_go rfl rfl ?_
          refine G_ret rfl rfl ?_
          refine G_ret rfl rfl ?_
          refine G_go rfl rfl ?_
          show G 2 120 111 22 [(3, 2), (1, a0), (1, a1), (1, a2), (1, (-1))] [] (n, s) Q
          refine G_go rfl rfl ?_
          refine G_brF rfl rfl rfl ?_
          refine G_go rfl rfl ?_
          refine G_go rfl rfl ?_
          refine G_call rfl rfl ?_
          refine G_go rfl rfl ?_
          refine G_go rfl rfl ?_
          refine G_go rfl rfl ?_
          refine G_go rfl rfl ?_
          refine G_brF rfl rfl rfl ?_
          refine G_go rfl rfl ?_
          refine G_go rfl rfl ?_
          refine G_rf rfl rfl (by decide) (hR 2 7 119 rfl) ?_
          refine G_go rfl rfl ?_
          refine G_brF rfl rfl rfl ?_
          refine G_go rfl rfl ?_
          refine G_rf rfl rfl (by decide) (hR 2 7 119 rfl) ?_
          refine G_go rfl rfl ?_
          refine G_go rfl rfl ?_
          refine G_ir (n := 7) rfl rfl (by decide) (by decide) (by decide) ?_
          refine G_go rfl rfl ?_
          refine G_go rfl rfl ?_
          refine G_iw (n := 7) rfl rfl (by decide) (by decide) (by decide) ?_
          have hR := refs_up (a := 119) (k := 1) (x := wr ((s 119 1) + 1)) hR rfl
          refine G_go rfl rfl ?_
          refine G_ret rfl rfl ?_
          exact G_ret rfl rfl h
        · have h := h.2 c17
          refine G_go rfl rfl ?_
          refine G_go rfl rfl ?_
          refine G_le rfl rfl (fun c18 => ?_) (fun c18 => ?_)
          · have h := h.1 c18
            refine G_go rfl rfl ?_
            refine G_ret rfl rfl ?_
            refine G_call rfl rfl ?_
            refine G_go rfl rfl ?_
            refine G_go rfl rfl ?_
            refine G_go rfl rfl ?_
            refine G_call rfl rfl ?_
            refine G_go rfl rfl ?_
            refine G_brF rfl rfl rfl ?_
            refine G_go rfl rfl ?_
            refine G_go rfl rfl ?_
            refine G_ret rfl rfl ?_
            refine G_call rfl rfl ?_
            refine G_go rfl rfl ?_
            refine G_brF rfl rfl rfl ?_
            refine G_go rfl rfl ?_
            refine G_go rfl rfl ?_
            refine G_ret rfl rfl ?_
            refine G_ret rfl rfl ?_
            refine G_go rfl rfl ?_
            show G 2 120 111 22 [(3, 2), (1, a0), (1, a1), (1, a2), (1, (-1))] [] (n, s) Q
            refine G_go rfl rfl ?_
            refine G_brF rfl rfl rfl ?_
            refine G_go rfl rfl ?_
            refine G_go rfl rfl ?_
            refine G_call rfl rfl ?_
            refine G_go rfl rfl ?_
            refine G_go rfl rfl ?_
            refine G_go rfl rfl ?_
            refine G_go rfl rfl ?_
            refine G_brF rfl rfl rfl ?_
            refine G_go rfl rfl ?_
            refine G_go rfl rfl ?_
            refine G_rf rfl rfl (by decide) (hR 2 7 119 rfl) ?_
            refine G_go rfl rfl ?_
            refine G_brF rfl rfl rfl ?_
            refine G_go rfl rfl ?_
            refine G_rf rfl rfl (by decide) (hR 2 7 119 rfl) ?_
            refine G_go rfl rfl ?_
            refine G_go rfl rfl ?_
            refine G_ir (n := 7) rfl rfl (by decide) (by decide) (by decide) ?_
            refine G_go rfl rfl ?_
            refine G_go rfl rfl ?_
            refine G_iw (n := 7) rfl rfl (by decide) (by decide) (by decide) ?_
            have hR := refs_up (a := 119) (k := 1) (x := wr ((s 119 1) + 1)) hR rfl
            refine G_go rfl rfl ?_
            refine G_ret rfl rfl ?_
            exact G_ret rfl rfl h
          · have h := h.2 c18
            refine G_go rfl rfl ?_
            refine G_go rfl rfl ?_
            refine G_ret rfl rfl ?_
            refine G_call rfl rfl ?_
            refine G_go rfl rfl ?_
            refine G_go rfl rfl ?_
            refine G_go rfl rfl ?_
            refine G_call rfl rfl ?_
            refine G_go rfl rfl ?_
            refine G_brF rfl rfl rfl ?_
            refine G_go rfl rfl ?_
            refine G_go rfl rfl ?_
            refine G_ret rfl rfl ?_
            refine G_call rfl rfl ?_
            refine G_go rfl rfl ?_
            refine G_brF rfl rfl rfl ?_
            refine G_go rfl rfl ?_
            refine G_go rfl rfl ?_
            refine G_ret rfl rfl ?_
            refine G_ret rfl rfl ?_
            refine G_go rfl rfl ?_
            show G 2 120 111 22 [(3, 2), (1, a0), (1, a1), (1, a2), (1, (-1))] [] (n, s) Q
            refine G_go rfl rfl ?_
            refine G_brF rfl rfl rfl ?_
            refine G_go rfl rfl ?_
            refine G_go rfl rfl ?_
            refine G_call rfl rfl ?_
            refine G_go rfl rfl ?_
            refine G_go rfl rfl ?_
            refine G_go rfl rfl ?_
            refine G_go rfl rfl ?_
            refine G_brF rfl rfl rfl ?_
            refine G_go rfl rfl ?_
            refine G_go rfl rfl ?_
            refine G_rf rfl rfl (by decide) (hR 2 7 119 rfl) ?_
            refine G_go rfl rfl ?_
            refine G_brF rfl rfl rfl ?_
            refine G_go rfl rfl ?_
            refine G_rf rfl rfl (by decide) (hR 2 7 119 rfl) ?_
            refine G_go rfl rfl ?_
            refine G_go rfl rfl ?_
            refine G_ir (n := 7) rfl rfl (by decide) (by decide) (by decide) ?_
            refine G_go rfl rfl ?_
            refine G_go rfl rfl ?_
            refine G_iw (n := 7) rfl rfl (by decide) (by decide) (by decide) ?_
            have hR := refs_up (a := 119) (k := 1) (x := wr ((s 119 1) + 1)) hR rfl
            refine G_go rfl rfl ?_
            refine G_ret rfl rfl ?_
            exact G_ret rfl rfl h
    · have h := h.2 c10
      refine G_go rfl rfl ?_
      refine G_go rfl rfl ?_
      refine G_ret rfl rfl ?_
      refine G_brF rfl rfl rfl ?_
      refine G_go rfl rfl ?_
      refine G_go rfl rfl ?_
      refine G_ret rfl rfl ?_
      refine G_go rfl rfl ?_
      refine G_go rfl rfl ?_
      refine G_go rfl rfl ?_
      refine G_call rfl rfl ?_
      refine G_go rfl rfl ?_
      refine G_go rfl rfl ?_
      refine G_ge rfl rfl (fun c19 => ?_) (fun c19 => ?_)
      · have h := h.1 c19
        refine G_go rfl rfl ?_
        refine G_go rfl rfl ?_
        refine G_le rfl rfl (fun c20 => ?_) (fun c20 => ?_)
        · have h := h.1 c20
          refine G_go rfl rfl ?_
          refine G_ret rfl rfl ?_
          refine G_go rfl rfl ?_
          refine G_go rfl rfl ?_
          refine G_call rfl rfl ?_
          refine G_go rfl rfl ?_
          refine G_lt rfl rfl (fun c21 => ?_) (fun c21 => ?_)
          · have h := h.1 c21
            refine G_go rfl rfl ?_
            refine G_go rfl rfl ?_
            refine G_ret rfl rfl ?_
            refine G_call rfl rfl ?_
            refine G_go rfl rfl ?_
            refine G_go rfl rfl ?_
            refine G_go rfl rfl ?_
            refine G_call rfl rfl ?_
            refine G_go rfl rfl ?_
            refine G_brT rfl rfl rfl ?_
            refine G_go rfl rfl ?_
            refine G_ret rfl rfl ?_
            refine G_call rfl rfl ?_
            refine G_go rfl rfl ?_
            refine G_brT rfl rfl rfl ?_
            refine G_go rfl rfl ?_
            refine G_ret rfl rfl ?_
            refine G_ret rfl rfl ?_
            refine G_go rfl rfl ?_
            show G 2 120 111 22 [(3, 2), (1, a0), (1, a1), (1, a2), (1, (-2))] [] (n, s) Q
            refine G_go rfl rfl ?_
            refine G_brF rfl rfl rfl ?_
            refine G_go rfl rfl ?_
            refine G_go rfl rfl ?_
            refine G_call rfl rfl ?_
            refine G_go rfl rfl ?_
            refine G_go rfl rfl ?_
            refine G_go rfl rfl ?_
            refine G_go rfl rfl ?_
            refine G_brF rfl rfl rfl ?_
            refine G_go rfl rfl ?_
            refine G_go rfl rfl ?_
            refine G_rf rfl rfl (by decide) (hR 2 7 119 rfl) ?_
            refine G_go rfl rfl ?_
            refine G_brF rfl rfl rfl ?_
            refine G_go rfl rfl ?_
            refine G_rf rfl rfl (by decide) (hR 2 7 119 rfl) ?_
            refine G_go rfl rfl ?_
            refine G_go rfl rfl ?_
            refine G_ir (n := 7) rfl rfl (by decide) (by decide) (by decide) ?_
            refine G_go rfl rfl ?_
            refine G_go rfl rfl ?_
            refine G_iw (n := 7) rfl rfl (by decide) (by decide) (by decide) ?_
            have hR := refs_up (a := 119) (k := 2) (x := wr ((s 119 2) + 1)) hR rfl
            refine G_go rfl rfl ?_
            refine G_ret rfl rfl ?_
            exact G_ret rfl rfl h
          · have h := h.2 c21
            refine G_go rfl rfl ?_
            refine G_go rfl rfl ?_
            refine G_le rfl rfl (fun c22 => ?_) (fun c22 => ?_)
            · have h := h.1 c22
              refine G_go rfl rfl ?_
              refine G_ret rfl rfl ?_
              refine G_call rfl rfl ?_
              refine G_go rfl rfl ?_
              refine G_go rfl rfl ?_
              refine G_go rfl rfl ?_
              refine G_call rfl rfl ?_
              refine G_go rfl rfl ?_
              refine G_brT rfl rfl rfl ?_
              refine G_go rfl rfl ?_
              refine G_ret rfl rfl ?_
              refine G_call rfl rfl ?_
              refine G_go rfl rfl ?_
              refine G_brT rfl rfl rfl ?_
              refine G_go rfl rfl ?_
              refine G_ret rfl rfl ?_
              refine G_ret rfl rfl ?_
              refine G_go rfl rfl ?_
              show G 2 120 111 22 [(3, 2), (1, a0), (1, a1), (1, a2), (1, 0)] [] (n, s) Q
              refine G_go rfl rfl ?_
              refine G_brT rfl rfl rfl ?_
              refine G_go rfl rfl ?_
              refine G_rf rfl rfl (by decide) (hR 2 1 13 rfl) ?_
              refine G_go rfl rfl ?_
              refine G_rf rfl rfl (by decide) (hR 2 0 3 rfl) ?_
              exact G_call rfl rfl h
            · have h := h.2 c22
              refine G_go rfl rfl ?_
              refine G_go rfl rfl ?_
              refine G_ret rfl rfl ?_
              refine G_call rfl rfl ?_
              refine G_go rfl rfl ?_
              refine G_go rfl rfl ?_
              refine G_go rfl rfl ?_
              refine G_call rfl rfl ?_
              refine G_go rfl rfl ?_
              refine G_brT rfl rfl rfl ?_
              refine G_go rfl rfl ?_
              refine G_ret rfl rfl ?_
              refine G_call rfl rfl ?_
              refine G_go rfl rfl ?_
              refine G_brT rfl rfl rfl ?_
              refine G_go rfl rfl ?_
              refine G_ret rfl rfl ?_
              refine G_ret rfl rfl ?_
              refine G_go rfl rfl ?_
              show G 2 120 111 22 [(3, 2), (1, a0), (1, a1), (1, a2), (1, (-2))] [] (n, s) Q
              refine G_go rfl rfl ?_
              refine G_brF rfl rfl rfl ?_
              refine G_go rfl rfl ?_
              refine G_go rfl rfl ?_
              refine G_call rfl rfl ?_
              refine G_go rfl rfl ?_
              refine G_go rfl rfl ?_
              refine G_go rfl rfl ?_
              refine G_go rfl rfl ?_
              refine G_brF rfl rfl rfl ?_
              refine G_go rfl rfl ?_
              refine G_go rfl rfl ?_
              refine G_rf rfl rfl (by decide) (hR 2 7 119 rfl) ?_
              refine G_go rfl rfl ?_
              refine G_brF rfl rfl rfl ?_
              refine G_go rfl rfl ?_
              refine G_rf rfl rfl (by decide) (hR 2 7 119 rfl) ?_
              refine G_go rfl rfl ?_
              refine G_go rfl rfl ?_
              refine G_ir (n := 7) rfl rfl (by decide) (by decide) (by decide) ?_
              refine G_go rfl rfl ?_
              refine G_go rfl rfl ?_
              refine G_iw (n := 7) rfl rfl (by decide) (by decide) (by decide) ?_
              have hR := refs_up (a := 119) (k := 2) (x := wr ((s 119 2) + 1)) hR rfl
              refine G_go rfl rfl ?_
              refine G_ret rfl rfl ?_
              exact G_ret rfl rfl h
        · have h := h.2 c20
          refine G_go rfl rfl ?_
          refine G_go rfl rfl ?_
          refine G_ret rfl rfl ?_
          refine G_go rfl rfl ?_
          refine G_go rfl rfl ?_
          refine G_call rfl rfl ?_
          refine G_go rfl rfl ?_
          refine G_lt rfl rfl (fun c23 => ?_) (fun c23 => ?_)
          · have h := h.1 c23
            refine G_go rfl rfl ?_
            refine G_go rfl rfl ?_
            refine G_ret rfl rfl ?_
            refine G_call rfl rfl ?_
            refine G_go rfl rfl ?_
            refine G_go rfl rfl ?_
            refine G_go rfl rfl ?_
            refine G_call rfl rfl ?_
            refine G_go rfl rfl ?_
            refine G_brF rfl rfl rfl ?_
            refine G_go rfl rfl ?_
            refine G_go rfl rfl ?_
            refine G_ret rfl rfl ?_
            refine G_call rfl rfl ?_
            refine G_go rfl rfl ?_
            refine G_brT rfl rfl rfl ?_
            refine G_go rfl rfl ?_
            refine G_ret rfl rfl ?_
            refine G_ret rfl rfl ?_
            refine G_go rfl rfl ?_
            show G 2 120 111 22 [(3, 2), (1, a0), (1, a1), (1, a2), (1, (-6))] [] (n, s) Q
            refine G_go rfl rfl ?_
            refine G_brF rfl rfl rfl ?_
            refine G_go rfl rfl ?_
            refine G_go rfl rfl ?_
            refine G_call rfl rfl ?_
            refine G_go rfl rfl ?_
            refine G_go rfl rfl ?_
            refine G_go rfl rfl ?_
            refine G_go rfl rfl ?_
            refine G_brF rfl rfl rfl ?_
            refine G_go rfl rfl ?_
            refine G_go rfl rfl ?_
            refine G_rf rfl rfl (by decide) (hR 2 7 119 rfl) ?_
            refine G_go rfl rfl ?_
            refine G_brF rfl rfl rfl ?_
            refine G_go rfl rfl ?_
            refine G_rf rfl rfl (by decide) (hR 2 7 119 rfl) ?_
            refine G_go rfl rfl ?_
            refine G_go rfl rfl ?_
            refine G_ir (n := 7) rfl rfl (by decide) (by decide) (by decide) ?_
            refine G_go rfl rfl ?_
            refine G_go rfl rfl ?_
            refine G_iw (n := 7) rfl rfl (by decide) (by decide) (by decide) ?_
            have hR := refs_up (a := 119) (k := 6) (x := wr ((s 119 6) + 1)) hR rfl
            refine G_go rfl rfl ?_
            refine G_ret rfl rfl ?_
            exact G_ret rfl rfl h
          · have h := h.2 c23
            refine G_go rfl rfl ?_
            refine G_go rfl rfl ?_
            refine G_le rfl rfl (fun c24 => ?_) (fun c24 => ?_)
            · have h := h.1 c24
              refine G_go rfl rfl ?_
              refine G_ret rfl rfl ?_
              refine G_call rfl rfl ?_
              refine G_go rfl rfl ?_
              refine G_go rfl rfl ?_
              refine G_go rfl rfl ?_
              refine G_call rfl rfl ?_
              refine G_go rfl rfl ?_
              refine G_brF rfl rfl rfl ?_
              refine G_go rfl rfl ?_
              refine G_go rfl rfl ?_
              refine G_ret rfl rfl ?_
              refine G_call rfl rfl ?_
              refine G_go rfl rfl ?_
              refine G_brT rfl rfl rfl ?_
              refine G_go rfl rfl ?_
              refine G_ret rfl rfl ?_
              refine G_ret rfl rfl ?_
              refine G_go rfl rfl ?_
              show G 2 120 111 22 [(3, 2), (1, a0), (1, a1), (1, a2), (1, (-6))] [] (n, s) Q
              refine G_go rfl rfl ?_
              refine G_brF rfl rfl rfl ?_
              refine G_go rfl rfl ?_
              refine G_go rfl rfl ?_
              refine G_call rfl rfl ?_
              refine G_go rfl rfl ?_
              refine G_go rfl rfl ?_
              refine G_go rfl rfl ?_
              refine G_go rfl rfl ?_
              refine G_brF rfl rfl rfl ?_
              refine G_go rfl rfl ?_
              refine G_go rfl rfl ?_
              refine G_rf rfl rfl (by decide) (hR 2 7 119 rfl) ?_
              refine G_go rfl rfl ?_
              refine G_brF rfl rfl rfl ?_
              refine G_go rfl rfl ?_
              refine G_rf rfl rfl (by decide) (hR 2 7 119 rfl) ?_
              refine G_go rfl rfl ?_
              refine G_go rfl rfl ?_
              refine G_ir (n := 7) rfl rfl (by decide) (by decide) (by decide) ?_
              refine G_go rfl rfl ?_
              refine G_go rfl rfl ?_
              refine G_iw (n := 7) rfl rfl (by decide) (by decide) (by decide) ?_
              have hR := refs_up (a := 119) (k := 6) (x := wr ((s 119 6) + 1)) hR rfl
              refine G_go rfl rfl ?_
              refine G_ret rfl rfl ?_
              exact G_ret rfl rfl h
            · have h := h.2 c24
              refine G_go rfl rfl ?_
              refine G_go rfl rfl ?_
              refine G_ret rfl rfl ?_
              refine G_call rfl rfl ?_
              refine G_go rfl rfl ?_
              refine G_go rfl rfl ?_
              refine G_go rfl rfl ?_
              refine G_call rfl rfl ?_
              refine G_go rfl rfl ?_
              refine G_brF rfl rfl rfl ?_
              refine G_go rfl rfl ?_
              refine G_go rfl rfl ?_
              refine G_ret rfl rfl ?_
              refine G_call rfl rfl ?_
              refine G_go rfl rfl ?_
              refine G_brT rfl rfl rfl ?_
              refine G_go rfl rfl ?_
              refine G_ret rfl rfl ?_
              refine G_ret rfl rfl ?_
              refine G_go rfl rfl ?_
              show G 2 120 111 22 [(3, 2), (1, a0), (1, a1), (1, a2), (1, (-6))] [] (n, s) Q
              refine G_go rfl rfl ?_
              refine G_brF rfl rfl rfl ?_
              refine G_go rfl rfl ?_
              refine G_go rfl rfl ?_
              refine G_call rfl rfl ?_
              refine G_go rfl rfl ?_
              refine G_go rfl rfl ?_
              refine G_go rfl rfl ?_
              refine G_go rfl rfl ?_
              refine G_brF rfl rfl rfl ?_
              refine G_go rfl rfl ?_
              refine G_go rfl rfl ?_
              refine G_rf rfl rfl (by decide) (hR 2 7 119 rfl) ?_
              refine G_go rfl rfl ?_
              refine G_brF rfl rfl rfl ?_
              refine G_go rfl rfl ?_
              refine G_rf rfl rfl (by decide) (hR 2 7 119 rfl) ?_
              refine G_go rfl rfl ?_
              refine G_go rfl rfl ?_
              refine G_ir (n := 7) rfl rfl (by decide) (by decide) (by decide) ?_
              refine G_go rfl rfl ?_
              refine G_go rfl rfl ?_
              refine G_iw (n := 7) rfl rfl (by decide) (by decide) (by decide) ?_
              have hR := refs_up (a := 119) (k := 6) (x := wr ((s 119 6) + 1)) hR rfl
              refine G_go rfl rfl ?_
              refine G_ret rfl rfl ?_
              exact G_ret rfl rfl h
      · have h := h.2 c19
        refine G_go rfl rfl ?_
        refine G_ret rfl rfl ?_
        refine G_go rfl rfl ?_
        refine G_go rfl rfl ?_
        refine G_call rfl rfl ?_
        refine G_go rfl rfl ?_
        refine G_lt rfl rfl (fun c25 => ?_) (fun c25 => ?_)
        · have h := h.1 c25
          refine G_go rfl rfl ?_
          refine G_go rfl rfl ?_
          refine G_ret rfl rfl ?_
          refine G_call rfl rfl ?_
          refine G_go rfl rfl ?_
          refine G_go rfl rfl ?_
          refine G_go rfl rfl ?_
          refine G_call rfl rfl ?_
          refine G_go rfl rfl ?_
          refine G_brF rfl rfl rfl ?_
          refine G_go rfl rfl ?_
          refine G_go rfl rfl ?_
          refine G_ret rfl rfl ?_
          refine G_call rfl rfl ?_
          refine G_go rfl rfl ?_
          refine G_brT rfl rfl rfl ?_
          refine G_go rfl rfl ?_
          refine G_ret rfl rfl ?_
          refine G_ret rfl rfl ?_
          refine G_go rfl rfl ?_
          show G 2 120 111 22 [(3, 2), (1, a0), (1, a1), (1, a2), (1, (-4))] [] (n, s) Q
          refine G_go rfl rfl ?_
          refine G_brF rfl rfl rfl ?_
          refine G_go rfl rfl ?_
          refine G_go rfl rfl ?_
          refine G_call rfl rfl ?_
          refine G_go rfl rfl ?_
          refine G_go rfl rfl ?_
          refine G_go rfl rfl ?_
          refine G_go rfl rfl ?_
          refine G_brF rfl rfl rfl ?_
          refine G_go rfl rfl ?_
          refine G_go rfl rfl ?_
          refine G_rf rfl rfl (by decide) (hR 2 7 119 rfl) ?_
          refine G_go rfl rfl ?_
          refine G_brF rfl rfl rfl ?_
          refine G_go rfl rfl ?_
          refine G_rf rfl rfl (by decide) (hR 2 7 119 rfl) ?_
          refine G_go rfl rfl ?_
          refine G_go rfl rfl ?_
          refine G_ir (n := 7) rfl rfl (by decide) (by decide) (by decide) ?_
          refine G_go rfl rfl ?_
          refine G_go rfl rfl ?_
          refine G_iw (n := 7) rfl rfl (by decide) (by decide) (by decide) ?_
          have hR := refs_up (a := 119) (k := 4) (x := wr ((s 119 4) + 1)) hR rfl
          refine G_go rfl rfl ?_
          refine G_ret rfl rfl ?_
          exact G_ret rfl rfl h
        · have h := h.2 c25
          refine G_go rfl rfl ?_
          refine G_go rfl rfl ?_
          refine G_le rfl rfl (fun c26 => ?_) (fun c26 => ?_)
          · have h := h.1 c26
            refine G_go rfl rfl ?_
            refine G_ret rfl rfl ?_
            refine G_call rfl rfl ?_
            refine G_go rfl rfl ?_
            refine G_go rfl rfl ?_
            refine G_go rfl rfl ?_
            refine G_call rfl rfl ?_
            refine G_go rfl rfl ?_
            refine G_brF rfl rfl rfl ?_
            refine G_go rfl rfl ?_
            refine G_go rfl rfl ?_
            refine G_ret rfl rfl ?_
            refine G_call rfl rfl ?_
            refine G_go rfl rfl ?_
            refine G_brT rfl rfl rfl ?_
            refine G_go rfl rfl ?_
            refine G_ret rfl rfl ?_
            refine G_ret rfl rfl ?_
            refine G_go rfl rfl ?_
            show G 2 120 111 22 [(3, 2), (1, a0), (1, a1), (1, a2), (1, (-4))] [] (n, s) Q
            refine G_go rfl rfl ?_
            refine G_brF rfl rfl rfl ?_
            refine G_go rfl rfl ?_
            refine G_go rfl rfl ?_
            refine G_call rfl rfl ?_
            refine G_go rfl rfl ?_
            refine G_go rfl rfl ?_
            refine G_go rfl rfl ?_
            refine G_go rfl rfl ?_
            refine G_brF rfl rfl rfl ?_
            refine G_go rfl rfl ?_
            refine G_go rfl rfl ?_
            refine G_rf rfl rfl (by decide) (hR 2 7 119 rfl) ?_
            refine G_go rfl rfl ?_
            refine G_brF rfl rfl rfl ?_
            refine G_go rfl rfl ?_
            refine G_rf rfl rfl (by decide) (hR 2 7 119 rfl) ?_
            refine G_go rfl rfl ?_
            refine G_go rfl rfl ?_
            refine G_ir (n := 7) rfl rfl (by decide) (by decide) (by decide) ?_
            refine G_go rfl rfl ?_
            refine G_go rfl rfl ?_
            refine G_iw (n := 7) rfl rfl (by decide) (by decide) (by decide) ?_
            have hR := refs_up (a := 119) (k := 4) (x := wr ((s 119 4) + 1)) hR rfl
            refine G_go rfl rfl ?_
            refine G_ret rfl rfl ?_
            exact G_ret rfl rfl h
          · have h := h.2 c26
            refine G_go rfl rfl ?_
            refine G_go rfl rfl ?_
            refine G_ret rfl rfl ?_
            refine G_call rfl rfl ?_
            refine G_go rfl rfl ?_
            refine G_go rfl rfl ?_
            refine G_go rfl rfl ?_
            refine G_call rfl rfl ?_
            refine G_go rfl rfl ?_
            refine G_brF rfl rfl rfl ?_
            refine G_go rfl rfl ?_
            refine G_go rfl rfl ?_
            refine G_ret rfl rfl ?_
            refine G_call rfl rfl ?_
            refine G_go rfl rfl ?_
            refine G_brT rfl rfl rfl ?_
            refine G_go rfl rfl ?_
            refine G_ret rfl rfl ?_
            refine G_ret rfl rfl ?_
            refine G_go rfl rfl ?_
            show G 2 120 111 22 [(3, 2), (1, a0), (1, a1), (1, a2), (1, (-4))] [] (n, s) Q
            refine G_go rfl rfl ?_
            refine G_brF rfl rfl rfl ?_
            refine G_go rfl rfl ?_
            refine G_go rfl rfl ?_
            refine G_call rfl rfl ?_
            refine G_go rfl rfl ?_
            refine G_go rfl rfl ?_
            refine G_go rfl rfl ?_
            refine G_go rfl rfl ?_
            refine G_brF rfl rfl rfl ?_
            refine G_go rfl rfl ?_
            refine G_go rfl rfl ?_
            refine G_rf rfl rfl (by decide) (hR 2 7 119 rfl) ?_
            refine G_go rfl rfl ?_
            refine G_brF rfl rfl rfl ?_
            refine G_go rfl rfl ?_
            refine G_rf rfl rfl (by decide) (hR 2 7 119 rfl) ?_
            refine G_go rfl rfl ?_
            refine G_go rfl rfl ?_
            refine G_ir (n := 7) rfl rfl (by decide) (by decide) (by decide) ?_
            refine G_go rfl rfl ?_
            refine G_go rfl rfl ?_
            refine G_iw (n := 7) rfl rfl (by decide) (by decide) (by decide) ?_
            have hR := refs_up (a := 119) (k := 4) (x := wr ((s 119 4) + 1)) hR rfl
            refine G_go rfl rfl ?_
            refine G_ret rfl rfl ?_
            exact G_ret rfl rfl h
theorem sb_X6_night_45 (n : Nat) (s : Nat → Nat → Int) (Q : List Vl → Sto → Prop) (x1 : Int) (x2 : Int) (x3 : Int) (x4 : Int) (hR : refs s)
    (h : G 2 120 30 0 [(3, 13), (1, x2), (0, 0)] [] (n, s) (fun r s1 => G 2 120 111 53 [(3, 2), (1, x1), (1, x2), (1, x3), (1, x4)] (r ++ []) s1 Q)) :
    G 2 120 111 45 [(3, 2), (1, x1), (1, x2), (1, x3), (1, x4)] [] (n, s) Q := by
  refine G_go rfl rfl ?_
  refine G_rf rfl rfl (by decide) (hR 2 1 13 rfl) ?_
  refine G_go rfl rfl ?_
  exact G_call rfl rfl h
theorem sb_X6_night_53 (n : Nat) (s : Nat → Nat → Int) (Q : List Vl → Sto → Prop) (x1 : Int) (x2 : Int) (x3 : Int) (x4 : Int) (hR : refs s)
    (h : (x3 = 0 → (0 ≤ x1 ∧ x1 < 6) ∧ (Q [(1, s 16 x1.toNat)] (n, s))) ∧ (x3 = 1 → (0 ≤ x1 ∧ x1 < 6) ∧ (Q [(1, s 18 x1.toNat)] (n, s))) ∧ (x3 ≠ 0 ∧ x3 ≠ 1 → (0 ≤ x1 ∧ x1 < 6) ∧ (Q [(1, wr ((s 20 x1.toNat) - (s 10 x1.toNat)))] (n, s)))) :
    G 2 120 111 53 [(3, 2), (1, x1), (1, x2), (1, x3), (1, x4)] [] (n, s) Q := by
  refine G_go rfl rfl ?_
  by_cases hs54_0 : x3 = 0
  · refine G_k hs54_0 rfl rfl ?_
    have h := h.1 hs54_0
    refine G_go rfl rfl ?_
    refine G_rf rfl rfl (by decide) (hR 2 1 13 rfl) ?_
    refine G_rf rfl rfl (by decide) (hR 13 2 16 rfl) ?_
    refine G_go rfl rfl ?_
    obtain ⟨g1, h⟩ := h
    refine G_ir (n := 6) rfl rfl (by decide) (by decide) g1 ?_
    exact G_ret rfl rfl h
  replace h := h.2
  by_cases hs54_1 : x3 = 1
  · refine G_k hs54_1 rfl rfl ?_
    have h := h.1 hs54_1
    refine G_go rfl rfl ?_
    refine G_rf rfl rfl (by decide) (hR 2 1 13 rfl) ?_
    refine G_rf rfl rfl (by decide) (hR 13 4 18 rfl) ?_
    refine G_go rfl rfl ?_
    obtain ⟨g2, h⟩ := h
    refine G_ir (n := 6) rfl rfl (by decide) (by decide) g2 ?_
    exact G_ret rfl rfl h
  replace h := h.2
  have hd54 : x3 ≠ 0 ∧ x3 ≠ 1 := ⟨hs54_0, hs54_1⟩
  refine G_lkd rfl (by simp [Op.lookupswitch.offset, Ne.symm hs54_0, Ne.symm hs54_1]) rfl ?_
  replace h := h hd54
  refine G_go rfl rfl ?_
  refine G_rf rfl rfl (by decide) (hR 2 1 13 rfl) ?_
  refine G_rf rfl rfl (by decide) (hR 13 6 20 rfl) ?_
  refine G_go rfl rfl ?_
  obtain ⟨g3, h⟩ := h
  refine G_ir (n := 6) rfl rfl (by decide) (by decide) g3 ?_
  refine G_go rfl rfl ?_
  refine G_rf rfl rfl (by decide) (hR 2 0 3 rfl) ?_
  refine G_rf rfl rfl (by decide) (hR 3 6 10 rfl) ?_
  refine G_go rfl rfl ?_
  refine G_ir (n := 6) rfl rfl (by decide) (by decide) g3 ?_
  refine G_go rfl rfl ?_
  exact G_ret rfl rfl h
theorem sb_X7_night_0 (n : Nat) (s : Nat → Nat → Int) (Q : List Vl → Sto → Prop) (a0 : Int) (a1 : Int) (a2 : Int) (hR : refs s)
    (h : (a0 < 0 → Q [(1, (-1))] (n, upS (upS s 120 10 0) 129 1 (wr ((s 129 1) + 1)))) ∧ (a0 ≥ 0 → (a0 > wr ((s 120 0) - 1) → Q [(1, (-1))] (n, upS (upS s 120 10 0) 129 1 (wr ((s 129 1) + 1)))) ∧ (a0 ≤ wr ((s 120 0) - 1) → (1 ≤ a1 → (a1 ≤ 12 → (a2 < 0 → Q [(1, (-2))] (n, upS (upS s 120 10 0) 129 2 (wr ((s 129 2) + 1)))) ∧ (a2 ≥ 0 → (a2 > 2 → Q [(1, (-2))] (n, upS (upS s 120 10 0) 129 2 (wr ((s 129 2) + 1)))) ∧ (a2 ≤ 2 → (0 ≤ a0 ∧ a0 < 6) ∧ (G 120 140 143 0 [(3, 120)] [] (n, upS s 120 10 0) (fun r s1 => G 120 140 199 55 [(3, 120), (1, a0), (1, a1), (1, a2), (1, 0), (1, s 127 a0.toNat), (0, 0)] (r ++ []) s1 Q))))) ∧ (12 < a1 → Q [(1, (-6))] (n, upS (upS s 120 10 0) 129 6 (wr ((s 129 6) + 1))))) ∧ (a1 < 1 → Q [(1, (-4))] (n, upS (upS s 120 10 0) 129 4 (wr ((s 129 4) + 1))))))) :
    G 120 140 199 0 [(3, 120), (1, a0), (1, a1), (1, a2), (0, 0), (0, 0), (0, 0)] [] (n, s) Q := by
  refine G_go rfl rfl ?_
  refine G_go rfl rfl ?_
  refine G_wr rfl rfl (by decide) ?_
  have hR := refs_up (a := 120) (k := 10) (x := 0) hR rfl
  refine G_go rfl rfl ?_
  refine G_go rfl rfl ?_
  refine G_call rfl rfl ?_
  refine G_go rfl rfl ?_
  refine G_go rfl rfl ?_
  refine G_go rfl rfl ?_
  refine G_go rfl rfl ?_
  refine G_rd rfl rfl (by decide) ?_
  refine G_go rfl rfl ?_
  refine G_go rfl rfl ?_
  refine G_go rfl rfl ?_
  refine G_call rfl rfl ?_
  refine G_go rfl rfl ?_
  refine G_go rfl rfl ?_
  refine G_go rfl rfl ?_
  refine G_lt rfl rfl (fun c1 => ?_) (fun c1 => ?_)
  · have c1 := xl_lt c1
    have h := h.1 c1
    refine G_go rfl rfl ?_
    refine G_ret rfl rfl ?_
    refine G_ret rfl rfl ?_
    refine G_brT rfl rfl rfl ?_
    refine G_go rfl rfl ?_
    refine G_go rfl rfl ?_
    refine G_go rfl rfl ?_
    refine G_call rfl rfl ?_
    refine G_go rfl rfl ?_
    refine G_brT rfl rfl rfl ?_
    refine G_go rfl rfl ?_
    refine G_ret rfl rfl ?_
    refine G_go rfl rfl ?_
    show G 120 140 199 31 [(3, 120), (1, a0), (1, a1), (1, a2), (1, (-1)), (0, 0), (0, 0)] [] (n, upS s 120 10 0) Q
    refine G_go rfl rfl ?_
    refine G_brF rfl rfl rfl ?_
    refine G_go rfl rfl ?_
    refine G_go rfl rfl ?_
    refine G_call rfl rfl ?_
    refine G_go rfl rfl ?_
    refine G_rf rfl rfl (by decide) (hR 120 11 129 rfl) ?_
    refine G_go rfl rfl ?_
    refine G_go rfl rfl ?_
    refine G_go rfl rfl ?_
    refine G_ir (n := 7) rfl rfl (by decide) (by decide) (by decide) ?_
    refine G_go rfl rfl ?_
    refine G_go rfl rfl ?_
    refine G_iw (n := 7) rfl rfl (by decide) (by decide) (by decide) ?_
    have hR := refs_up (a := 129) (k := 1) (x := wr ((s 129 1) + 1)) hR rfl
    refine G_go rfl rfl ?_
    refine G_ret rfl rfl ?_
    exact G_ret rfl rfl h
  · have c1 := xl_ge c1
    have h := h.2 c1
    refine G_go rfl rfl ?_
    refine G_go rfl rfl ?_
    refine G_go rfl rfl ?_
    refine G_gt rfl rfl (fun c2 => ?_) (fun c2 => ?_)
    · have c2 := xl_gt c2
      have h := h.1 c2
      refine G_go rfl rfl ?_
      refine G_ret rfl rfl ?_
      refine G_ret rfl rfl ?_
      refine G_brT rfl rfl rfl ?_
      refine G_go rfl rfl ?_
      refine G_go rfl rfl ?_
      refine G_go rfl rfl ?_
      refine G_call rfl rfl ?_
      refine G_go rfl rfl ?_
      refine G_brT rfl rfl rfl ?_
      refine G_go rfl rfl ?_
      refine G_ret rfl rfl ?_
      refine G_go rfl rfl ?_
      show G 120 140 199 31 [(3, 120), (1, a0), (1, a1), (1, a2), (1, (-1)), (0, 0), (0, 0)] [] (n, upS s 120 10 0) Q
      refine G_go rfl rfl ?_
      refine G_brF rfl rfl rfl ?_
      refine G_go rfl rfl ?_
      refine G_go rfl rfl ?_
      refine G_call rfl rfl ?_
      refine G_go rfl rfl ?_
      refine G_rf rfl rfl (by decide) (hR 120 11 129 rfl) ?_
      refine G_go rfl rfl ?_
      refine G_go rfl rfl ?_
      refine G_go rfl rfl ?_
      refine G_ir (n := 7) rfl rfl (by decide) (by decide) (by decide) ?_
      refine G_go rfl rfl ?_
      refine G_go rfl rfl ?_
      refine G_iw (n := 7) rfl rfl (by decide) (by decide) (by decide) ?_
      have hR := refs_up (a := 129) (k := 1) (x := wr ((s 129 1) + 1)) hR rfl
      refine G_go rfl rfl ?_
      refine G_ret rfl rfl ?_
      exact G_ret rfl rfl h
    · have c2 := xl_le c2
      have h := h.2 c2
      refine G_go rfl rfl ?_
      refine G_go rfl rfl ?_
      refine G_ret rfl rfl ?_
      refine G_ret rfl rfl ?_
      refine G_brF rfl rfl rfl ?_
      refine G_go rfl rfl ?_
      refine G_go rfl rfl ?_
      refine G_go rfl rfl ?_
      refine G_call rfl rfl ?_
      refine G_go rfl rfl ?_
      refine G_go rfl rfl ?_
      refine G_ge rfl rfl (fun c3 => ?_) (fun c3 => ?_)
      · have h := h.1 c3
        refine G_go rfl rfl ?_
        refine G_go rfl rfl ?_
        refine G_le rfl rfl (fun c4 => ?_) (fun c4 => ?_)
        · have h := h.1 c4
          refine G_go rfl rfl ?_
          refine G_ret rfl rfl ?_
          refine G_go rfl rfl ?_
          refine G_go rfl rfl ?_
          refine G_go rfl rfl ?_
          refine G_call rfl rfl ?_
          refine G_go rfl rfl ?_
          refine G_brF rfl rfl rfl ?_
          refine G_go rfl rfl ?_
          refine G_go rfl rfl ?_
          refine G_go rfl rfl ?_
          refine G_go rfl rfl ?_
          refine G_go rfl rfl ?_
          refine G_call rfl rfl ?_
          refine G_go rfl rfl ?_
          refine G_go rfl rfl ?_
          refine G_go rfl rfl ?_
          refine G_lt rfl rfl (fun c5 => ?_) (fun c5 => ?_)
          · have c5 := xl_lt c5
            have h := h.1 c5
            refine G_go rfl rfl ?_
            refine G_ret rfl rfl ?_
            refine G_brF rfl rfl rfl ?_
            refine G_go rfl rfl ?_
            refine G_go rfl rfl ?_
            refine G_ret rfl rfl ?_
            refine G_go rfl rfl ?_
            show G 120 140 199 31 [(3, 120), (1, a0), (1, a1), (1, a2), (1, (-2)), (0, 0), (0, 0)] [] (n, upS s 120 10 0) Q
            refine G_go rfl rfl ?_
            refine G_brF rfl rfl rfl ?_
            refine G_go rfl rfl ?_
            refine G_go rfl rfl ?_
            refine G_call rfl rfl ?_
            refine G_go rfl rfl ?_
            refine G_rf rfl rfl (by decide) (hR 120 11 129 rfl) ?_
            refine G_go rfl rfl ?_
            refine G_go rfl rfl ?_
            refine G_go rfl rfl ?_
            refine G_ir (n := 7) rfl rfl (by decide) (by decide) (by decide) ?_
            refine G_go rfl rfl ?_
            refine G_go rfl rfl ?_
            refine G_iw (n := 7) rfl rfl (by decide) (by decide) (by decide) ?_
            have hR := refs_up (a := 129) (k := 2) (x := wr ((s 129 2) + 1)) hR rfl
            refine G_go rfl rfl ?_
            refine G_ret rfl rfl ?_
            exact G_ret rfl rfl h
          · have c5 := xl_ge c5
            have h := h.2 c5
            refine G_go rfl rfl ?_
            refine G_go rfl rfl ?_
            refine G_go rfl rfl ?_
            refine G_gt rfl rfl (fun c6 => ?_) (fun c6 => ?_)
            · have c6 := xl_gt c6
              have h := h.1 c6
              refine G_go rfl rfl ?_
              refine G_ret rfl rfl ?_
              refine G_brF rfl rfl rfl ?_
              refine G_go rfl rfl ?_
              refine G_go rfl rfl ?_
              refine G_ret rfl rfl ?_
              refine G_go rfl rfl ?_
              show G 120 140 199 31 [(3, 120), (1, a0), (1, a1), (1, a2), (1, (-2)), (0, 0), (0, 0)] [] (n, upS s 120 10 0) Q
              refine G_go rfl rfl ?_
              refine G_brF rfl rfl rfl ?_
              refine G_go rfl rfl ?_
              refine G_go rfl rfl ?_
              refine G_call rfl rfl ?_
              refine G_go rfl rfl ?_
              refine G_rf rfl rfl (by decide) (hR 120 11 129 rfl) ?_
              refine G_go rfl rfl ?_
              refine G_go rfl rfl ?_
              refine G_go rfl rfl ?_
              refine G_ir (n := 7) rfl rfl (by decide) (by decide) (by decide) ?_
              refine G_go rfl rfl ?_
              refine G_go rfl rfl ?_
              refine G_iw (n := 7) rfl rfl (by decide) (by decide) (by decide) ?_
              have hR := refs_up (a := 129) (k := 2) (x := wr ((s 129 2) + 1)) hR rfl
              refine G_go rfl rfl ?_
              refine G_ret rfl rfl ?_
              exact G_ret rfl rfl h
            · have c6 := xl_le c6
              have h := h.2 c6
              refine G_go rfl rfl ?_
              refine G_go rfl rfl ?_
              refine G_ret rfl rfl ?_
              refine G_brT rfl rfl rfl ?_
              refine G_go rfl rfl ?_
              refine G_ret rfl rfl ?_
              refine G_go rfl rfl ?_
              show G 120 140 199 31 [(3, 120), (1, a0), (1, a1), (1, a2), (1, 0), (0, 0), (0, 0)] [] (n, upS s 120 10 0) Q
              refine G_go rfl rfl ?_
              refine G_brT rfl rfl rfl ?_
              refine G_go rfl rfl ?_
              refine G_rf rfl rfl (by decide) (hR 120 7 127 rfl) ?_
              refine G_go rfl rfl ?_
              obtain ⟨g7, h⟩ := h
              refine G_ir (n := 6) rfl rfl (by decide) (by decide) g7 ?_
              refine G_go rfl rfl ?_
              show G 120 140 199 51 [(3, 120), (1, a0), (1, a1), (1, a2), (1, 0), (1, s 127 a0.toNat), (0, 0)] [] (n, upS s 120 10 0) Q
              refine G_go rfl rfl ?_
              exact G_call rfl rfl h
        · have h := h.2 c4
          refine G_go rfl rfl ?_
          refine G_go rfl rfl ?_
          refine G_ret rfl rfl ?_
          refine G_go rfl rfl ?_
          refine G_go rfl rfl ?_
          refine G_go rfl rfl ?_
          refine G_call rfl rfl ?_
          refine G_go rfl rfl ?_
          refine G_brT rfl rfl rfl ?_
          refine G_go rfl rfl ?_
          refine G_ret rfl rfl ?_
          refine G_go rfl rfl ?_
          show G 120 140 199 31 [(3, 120), (1, a0), (1, a1), (1, a2), (1, (-6)), (0, 0), (0, 0)] [] (n, upS s 120 10 0) Q
          refine G_go rfl rfl ?_
          refine G_brF rfl rfl rfl ?_
          refine G_go rfl rfl ?_
          refine G_go rfl rfl ?_
          refine G_call rfl rfl ?_
          refine G_go rfl rfl ?_
          refine G_rf rfl rfl (by decide) (hR 120 11 129 rfl) ?_
          refine G_go rfl rfl ?_
          refine G_go rfl rfl ?_
          refine G_go rfl rfl ?_
          refine G_ir (n := 7) rfl rfl (by decide) (by decide) (by decide) ?_
          refine G_go rfl rfl ?_
          refine G_go rfl rfl ?_
          refine G_iw (n := 7) rfl rfl (by decide) (by decide) (by decide) ?_
          have hR := refs_up (a := 129) (k := 6) (x := wr ((s 129 6) + 1)) hR rfl
          refine G_go rfl rfl ?_
          refine G_ret rfl rfl ?_
          exact G_ret rfl rfl h
      · have h := h.2 c3
        refine G_go rfl rfl ?_
        refine G_go rfl rfl ?_
        refine G_ret rfl rfl ?_
        refine G_go rfl rfl ?_
        refine G_go rfl rfl ?_
        refine G_go rfl rfl ?_
        refine G_call rfl rfl ?_
        refine G_go rfl rfl ?_
        refine G_brT rfl rfl rfl ?_
        refine G_go rfl rfl ?_
        refine G_ret rfl rfl ?_
        refine G_go rfl rfl ?_
        show G 120 140 199 31 [(3, 120), (1, a0), (1, a1), (1, a2), (1, (-4)), (0, 0), (0, 0)] [] (n, upS s 120 10 0) Q
        refine G_go rfl rfl ?_
        refine G_brF rfl rfl rfl ?_
        refine G_go rfl rfl ?_
        refine G_go rfl rfl ?_
        refine G_call rfl rfl ?_
        refine G_go rfl rfl ?_
        refine G_rf rfl rfl (by decide) (hR 120 11 129 rfl) ?_
        refine G_go rfl rfl ?_
        refine G_go rfl rfl ?_
        refine G_go rfl rfl ?_
        refine G_ir (n := 7) rfl rfl (by decide) (by decide) (by decide) ?_
        refine G_go rfl rfl ?_
        refine G_go rfl rfl ?_
        refine G_iw (n := 7) rfl rfl (by decide) (by decide) (by decide) ?_
        have hR := refs_up (a := 129) (k := 4) (x := wr ((s 129 4) + 1)) hR rfl
        refine G_go rfl rfl ?_
        refine G_ret rfl rfl ?_
        exact G_ret rfl rfl h
theorem sb_X7_night_55 (n : Nat) (s : Nat → Nat → Int) (Q : List Vl → Sto → Prop) (x1 : Int) (x2 : Int) (x3 : Int) (x4 : Int) (x5 : Int) (hR : refs s)
    (h : G 120 140 168 0 [(3, 120), (1, x2), (0, 0), (0, 0), (0, 0)] [] (n, s) (fun r s1 => G 120 140 199 60 [(3, 120), (1, x1), (1, x2), (1, x3), (1, x4), (1, x5), (0, 0)] (r ++ []) s1 Q)) :
    G 120 140 199 55 [(3, 120), (1, x1), (1, x2), (1, x3), (1, x4), (1, x5), (0, 0)] [] (n, s) Q := by
  refine G_go rfl rfl ?_
  refine G_go rfl rfl ?_
  exact G_call rfl rfl h
theorem sb_X7_night_60 (n : Nat) (s : Nat → Nat → Int) (Q : List Vl → Sto → Prop) (x1 : Int) (x2 : Int) (x3 : Int) (x4 : Int) (x5 : Int) (hR : refs s)
    (h : (x3 ≠ 0 → (x3 ≠ 1 → (0 ≤ x1 ∧ x1 < 6) ∧ (G 120 140 140 0 [(3, 120)] [] (n, s) (fun r s1 => G 120 140 199 102 [(3, 120), (1, x1), (1, x2), (1, x3), (1, x4), (1, x5), (1, wr ((s 127 x1.toNat) - x5))] (r ++ []) s1 Q))) ∧ (x3 = 1 → (0 ≤ x1 ∧ x1 < 6) ∧ (G 120 140 140 0 [(3, 120)] [] (n, s) (fun r s1 => G 120 140 199 102 [(3, 120), (1, x1), (1, x2), (1, x3), (1, x4), (1, x5), (1, s 125 x1.toNat)] (r ++ []) s1 Q)))) ∧ (x3 = 0 → (0 ≤ x1 ∧ x1 < 6) ∧ (G 120 140 140 0 [(3, 120)] [] (n, s) (fun r s1 => G 120 140 199 102 [(3, 120), (1, x1), (1, x2), (1, x3), (1, x4), (1, x5), (1, s 123 x1.toNat)] (r ++ []) s1 Q)))) :
    G 120 140 199 60 [(3, 120), (1, x1), (1, x2), (1, x3), (1, x4), (1, x5), (0, 0)] [] (n, s) Q := by
  refine G_go rfl rfl ?_
  refine G_ne rfl rfl (fun c1 => ?_) (fun c1 => ?_)
  · have h := h.1 c1
    refine G_go rfl rfl ?_
    refine G_go rfl rfl ?_
    refine G_ne rfl rfl (fun c2 => ?_) (fun c2 => ?_)
    · have h := h.1 c2
      refine G_go rfl rfl ?_
      refine G_rf rfl rfl (by decide) (hR 120 7 127 rfl) ?_
      refine G_go rfl rfl ?_
      obtain ⟨g3, h⟩ := h
      refine G_ir (n := 6) rfl rfl (by decide) (by decide) g3 ?_
      refine G_go rfl rfl ?_
      refine G_go rfl rfl ?_
      refine G_go rfl rfl ?_
      show G 120 140 199 98 [(3, 120), (1, x1), (1, x2), (1, x3), (1, x4), (1, x5), (1, wr ((s 127 x1.toNat) - x5))] [] (n, s) Q
      refine G_go rfl rfl ?_
      exact G_call rfl rfl h
    · have h := h.2 c2
      refine G_go rfl rfl ?_
      refine G_rf rfl rfl (by decide) (hR 120 5 125 rfl) ?_
      refine G_go rfl rfl ?_
      obtain ⟨g4, h⟩ := h
      refine G_ir (n := 6) rfl rfl (by decide) (by decide) g4 ?_
      refine G_go rfl rfl ?_
      refine G_go rfl rfl ?_
      show G 120 140 199 98 [(3, 120), (1, x1), (1, x2), (1, x3), (1, x4), (1, x5), (1, s 125 x1.toNat)] [] (n, s) Q
      refine G_go rfl rfl ?_
      exact G_call rfl rfl h
  · have h := h.2 c1
    refine G_go rfl rfl ?_
    refine G_rf rfl rfl (by decide) (hR 120 3 123 rfl) ?_
    refine G_go rfl rfl ?_
    obtain ⟨g5, h⟩ := h
    refine G_ir (n := 6) rfl rfl (by decide) (by decide) g5 ?_
    refine G_go rfl rfl ?_
    refine G_go rfl rfl ?_
    show G 120 140 199 98 [(3, 120), (1, x1), (1, x2), (1, x3), (1, x4), (1, x5), (1, s 123 x1.toNat)] [] (n, s) Q
    refine G_go rfl rfl ?_
    exact G_call rfl rfl h
theorem sb_X7_night_102 (n : Nat) (s : Nat → Nat → Int) (Q : List Vl → Sto → Prop) (x1 : Int) (x2 : Int) (x3 : Int) (x4 : Int) (x5 : Int) (x6 : Int) (hR : refs s)
    (h : Q [(1, x6)] (n, s)) :
    G 120 140 199 102 [(3, 120), (1, x1), (1, x2), (1, x3), (1, x4), (1, x5), (1, x6)] [] (n, s) Q := by
  refine G_go rfl rfl ?_
  exact G_ret rfl rfl h
theorem sb_X6_nightOfAll_0 (n : Nat) (s : Nat → Nat → Int) (Q : List Vl → Sto → Prop) (a0 : Int) (a1 : Int) (hR : refs s)
    (h : (1 ≤ a0 → (a0 ≤ 12 → (a1 < 0 → Q [(1, (-2))] (n, upS s 119 2 (wr ((s 119 2) + 1)))) ∧ (0 ≤ a1 → (a1 ≤ 1 → G 2 120 7 0 [(3, 13), (3, 3), (0, 0)] [] (n, s) (fun r s1 => G 2 120 112 37 [(3, 2), (1, a0), (1, a1), (1, 0)] (r ++ []) s1 Q)) ∧ (1 < a1 → Q [(1, (-2))] (n, upS s 119 2 (wr ((s 119 2) + 1)))))) ∧ (12 < a0 → (a1 < 0 → Q [(1, (-6))] (n, upS s 119 6 (wr ((s 119 6) + 1)))) ∧ (0 ≤ a1 → (a1 ≤ 1 → Q [(1, (-6))] (n, upS s 119 6 (wr ((s 119 6) + 1)))) ∧ (1 < a1 → Q [(1, (-6))] (n, upS s 119 6 (wr ((s 119 6) + 1))))))) ∧ (a0 < 1 → (a1 < 0 → Q [(1, (-4))] (n, upS s 119 4 (wr ((s 119 4) + 1)))) ∧ (0 ≤ a1 → (a1 ≤ 1 → Q [(1, (-4))] (n, upS s 119 4 (wr ((s 119 4) + 1)))) ∧ (1 < a1 → Q [(1, (-4))] (n, upS s 119 4 (wr ((s 119 4) + 1))))))) :
    G 2 120 112 0 [(3, 2), (1, a0), (1, a1), (0, 0)] [] (n, s) Q := by
  refine G_go rfl rfl ?_
  refine G_go rfl rfl ?_
  refine G_go rfl rfl ?_
  refine G_call rfl rfl ?_
  refine G_go rfl rfl ?_
  refine G_go rfl rfl ?_
  refine G_ge rfl rfl (fun c1 => ?_) (fun c1 => ?_)
  · have h := h.1 c1
    refine G_go rfl rfl ?_
    refine G_go rfl rfl ?_
    refine G_le rfl rfl (fun c2 => ?_) (fun c2 => ?_)
    · have h := h.1 c2
      refine G_go rfl rfl ?_
      refine G_ret rfl rfl ?_
      refine G_go rfl rfl ?_
      refine G_go rfl rfl ?_
      refine G_call rfl rfl ?_
      refine G_go rfl rfl ?_
      refine G_lt rfl rfl (fun c3 => ?_) (fun c3 => ?_)
      · have h := h.1 c3
        refine G_go rfl rfl ?_
        refine G_go rfl rfl ?_
        refine G_ret rfl rfl ?_
        refine G_call rfl rfl ?_
        refine G_go rfl rfl ?_
        refine G_brT rfl rfl rfl ?_
        refine G_go rfl rfl ?_
        refine G_ret rfl rfl ?_
        refine G_go rfl rfl ?_
        show G 2 120 112 16 [(3, 2), (1, a0), (1, a1), (1, (-2))] [] (n, s) Q
        refine G_go rfl rfl ?_
        refine G_brF rfl rfl rfl ?_
        refine G_go rfl rfl ?_
        refine G_go rfl rfl ?_
        refine G_call rfl rfl ?_
        refine G_go rfl rfl ?_
        refine G_go rfl rfl ?_
        refine G_go rfl rfl ?_
        refine G_go rfl rfl ?_
        refine G_brF rfl rfl rfl ?_
        refine G_go rfl rfl ?_
        refine G_go rfl rfl ?_
        refine G_rf rfl rfl (by decide) (hR 2 7 119 rfl) ?_
        refine G_go rfl rfl ?_
        refine G_brF rfl rfl rfl ?_
        refine G_go rfl rfl ?_
        refine G_rf rfl rfl (by decide) (hR 2 7 119 rfl) ?_
        refine G_go rfl rfl ?_
        refine G_go rfl rfl ?_
        refine G_ir (n := 7) rfl rfl (by decide) (by decide) (by decide) ?_
        refine G_go rfl rfl ?_
        refine G_go rfl rfl ?_
        refine G_iw (n := 7) rfl rfl (by decide) (by decide) (by decide) ?_
        have hR := refs_up (a := 119) (k := 2) (x := wr ((s 119 2) + 1)) hR rfl
        refine G_go rfl rfl ?_
        refine G_ret rfl rfl ?_
        exact G_ret rfl rfl h
      · have h := h.2 c3
        refine G_go rfl rfl ?_
        refine G_go rfl rfl ?_
        refine G_le rfl rfl (fun c4 => ?_) (fun c4 => ?_)
        · have h := h.1 c4
          refine G_go rfl rfl ?_
          refine G_ret rfl rfl ?_
          refine G_call rfl rfl ?_
          refine G_go rfl rfl ?_
          refine G_brT rfl rfl rfl ?_
          refine G_go rfl rfl ?_
          refine G_ret rfl rfl ?_
          refine G_go rfl rfl ?_
          show G 2 120 112 16 [(3, 2), (1, a0), (1, a1), (1, 0)] [] (n, s) Q
          refine G_go rfl rfl ?_
          refine G_brT rfl rfl rfl ?_
          refine G_go rfl rfl ?_
          refine G_rf rfl rfl (by decide) (hR 2 1 13 rfl) ?_
          refine G_go rfl rfl ?_
          refine G_rf rfl rfl (by decide) (hR 2 0 3 rfl) ?_
          exact G_call rfl rfl h
        · have h := h.2 c4
          refine G_go rfl rfl ?_
          refine G_go rfl rfl ?_
          refine G_ret rfl rfl ?_
          refine G_call rfl rfl ?_
          refine G_go rfl rfl ?_
          refine G_brT rfl rfl rfl ?_
          refine G_go rfl rfl ?_
          refine G_ret rfl rfl ?_
          refine G_go rfl rfl ?_
          show G 2 120 112 16 [(3, 2), (1, a0), (1, a1), (1, (-2))] [] (n, s) Q
          refine G_go rfl rfl ?_
          refine G_brF rfl rfl rfl ?_
          refine G_go rfl rfl ?_
          refine G_go rfl rfl ?_
          refine G_call rfl rfl ?_
          refine G_go rfl rfl ?_
          refine G_go rfl rfl ?_
          refine G_go rfl rfl ?_
          refine G_go rfl rfl ?_
          refine G_brF rfl rfl rfl ?_
          refine G_go rfl rfl ?_
          refine G_go rfl rfl ?_
          refine G_rf rfl rfl (by decide) (hR 2 7 119 rfl) ?_
          refine G_go rfl rfl ?_
          refine G_brF rfl rfl rfl ?_
          refine G_go rfl rfl ?_
          refine G_rf rfl rfl (by decide) (hR 2 7 119 rfl) ?_
          refine G_go rfl rfl ?_
          refine G_go rfl rfl ?_
          refine G_ir (n := 7) rfl rfl (by decide) (by decide) (by decide) ?_
          refine G_go rfl rfl ?_
          refine G_go rfl rfl ?_
          refine G_iw (n := 7) rfl rfl (by decide) (by decide) (by decide) ?_
          have hR := refs_up (a := 119) (k := 2) (x := wr ((s 119 2) + 1)) hR rfl
          refine G_go rfl rfl ?_
          refine G_ret rfl rfl ?_
          exact G_ret rfl rfl h
    · have h := h.2 c2
      refine G_go rfl rfl ?_
      refine G_go rfl rfl ?_
      refine G_ret rfl rfl ?_
      refine G_go rfl rfl ?_
      refine G_go rfl rfl ?_
      refine G_call rfl rfl ?_
      refine G_go rfl rfl ?_
      refine G_lt rfl rfl (fun c5 => ?_) (fun c5 => ?_)
      · have h := h.1 c5
        refine G_go rfl rfl ?_
        refine G_go rfl rfl ?_
        refine G_ret rfl rfl ?_
        refine G_call rfl rfl ?_
        refine G_go rfl rfl ?_
        refine G_brF rfl rfl rfl ?_
        refine G_go rfl rfl ?_
        refine G_go rfl rfl ?_
        refine G_ret rfl rfl ?_
        refine G_go rfl rfl ?_
        show G 2 120 112 16 [(3, 2), (1, a0), (1, a1), (1, (-6))] [] (n, s) Q
        refine G_go rfl rfl ?_
        refine G_brF rfl rfl rfl ?_
        refine G_go rfl rfl ?_
        refine G_go rfl rfl ?_
        refine G_call rfl rfl ?_
        refine G_go rfl rfl ?_
        refine G_go rfl rfl ?_
        refine G_go rfl rfl ?_
        refine G_go rfl rfl ?_
        refine G_brF rfl rfl rfl ?_
        refine G_go rfl rfl ?_
        refine G_go rfl rfl ?_
        refine G_rf rfl rfl (by decide) (hR 2 7 119 rfl) ?_
        refine G_go rfl rfl ?_
        refine G_brF rfl rfl rfl ?_
        refine G_go rfl rfl ?_
        refine G_rf rfl rfl (by decide) (hR 2 7 119 rfl) ?_
        refine G_go rfl rfl ?_
        refine G_go rfl rfl ?_
        refine G_ir (n := 7) rfl rfl (by decide) (by decide) (by decide) ?_
        refine G_go rfl rfl ?_
        refine G_go rfl rfl ?_
        refine G_iw (n := 7) rfl rfl (by decide) (by decide) (by decide) ?_
        have hR := refs_up (a := 119) (k := 6) (x := wr ((s 119 6) + 1)) hR rfl
        refine G_go rfl rfl ?_
        refine G_ret rfl rfl ?_
        exact G_ret rfl rfl h
      · have h := h.2 c5
        refine G_go rfl rfl ?_
        refine G_go rfl rfl ?_
        refine G_le rfl rfl (fun c6 => ?_) (fun c6 => ?_)
        · have h := h.1 c6
          refine G_go rfl rfl ?_
          refine G_ret rfl rfl ?_
          refine G_call rfl rfl ?_
          refine G_go rfl rfl ?_
          refine G_brF rfl rfl rfl ?_
          refine G_go rfl rfl ?_
          refine G_go rfl rfl ?_
          refine G_ret rfl rfl ?_
          refine G_go rfl rfl ?_
          show G 2 120 112 16 [(3, 2), (1, a0), (1, a1), (1, (-6))] [] (n, s) Q
          refine G_go rfl rfl ?_
          refine G_brF rfl rfl rfl ?_
          refine G_go rfl rfl ?_
          refine G_go rfl rfl ?_
          refine G_call rfl rfl ?_
          refine G_go rfl rfl ?_
          refine G_go rfl rfl ?_
          refine G_go rfl rfl ?_
          refine G_go rfl rfl ?_
          refine G_brF rfl rfl rfl ?_
          refine G_go rfl rfl ?_
          refine G_go rfl rfl ?_
          refine G_rf rfl rfl (by decide) (hR 2 7 119 rfl) ?_
          refine G_go rfl rfl ?_
          refine G_brF rfl rfl rfl ?_
          refine G_go rfl rfl ?_
          refine G_rf rfl rfl (by decide) (hR 2 7 119 rfl) ?_
          refine G_go rfl rfl ?_
          refine G_go rfl rfl ?_
          refine G_ir (n := 7) rfl rfl (by decide) (by decide) (by decide) ?_
          refine G_go rfl rfl ?_
          refine G_go rfl rfl ?_
          refine G_iw (n := 7) rfl rfl (by decide) (by decide) (by decide) ?_
          have hR := refs_up (a := 119) (k := 6) (x := wr ((s 119 6) + 1)) hR rfl
          refine G_go rfl rfl ?_
          refine G_ret rfl rfl ?_
          exact G_ret rfl rfl h
        · have h := h.2 c6
          refine G_go rfl rfl ?_
          refine G_go rfl rfl ?_
          refine G_ret rfl rfl ?_
          refine G_call rfl rfl ?_
          refine G_go rfl rfl ?_
          refine G_brF rfl rfl rfl ?_
          refine G_go rfl rfl ?_
          refine G_go rfl rfl ?_
          refine G_ret rfl rfl ?_
          refine G_go rfl rfl ?_
          show G 2 120 112 16 [(3, 2), (1, a0), (1, a1), (1, (-6))] [] (n, s) Q
          refine G_go rfl rfl ?_
          refine G_brF rfl rfl rfl ?_
          refine G_go rfl rfl ?_
          refine G_go rfl rfl ?_
          refine G_call rfl rfl ?_
          refine G_go rfl rfl ?_
          refine G_go rfl rfl ?_
          refine G_go rfl rfl ?_
          refine G_go rfl rfl ?_
          refine G_brF rfl rfl rfl ?_
          refine G_go rfl rfl ?_
          refine G_go rfl rfl ?_
          refine G_rf rfl rfl (by decide) (hR 2 7 119 rfl) ?_
          refine G_go rfl rfl ?_
          refine G_brF rfl rfl rfl ?_
          refine G_go rfl rfl ?_
          refine G_rf rfl rfl (by decide) (hR 2 7 119 rfl) ?_
          refine G_go rfl rfl ?_
          refine G_go rfl rfl ?_
          refine G_ir (n := 7) rfl rfl (by decide) (by decide) (by decide) ?_
          refine G_go rfl rfl ?_
          refine G_go rfl rfl ?_
          refine G_iw (n := 7) rfl rfl (by decide) (by decide) (by decide) ?_
          have hR := refs_up (a := 119) (k := 6) (x := wr ((s 119 6) + 1)) hR rfl
          refine G_go rfl rfl ?_
          refine G_ret rfl rfl ?_
          exact G_ret rfl rfl h
  · have h := h.2 c1
    refine G_go rfl rfl ?_
    refine G_ret rfl rfl ?_
    refine G_go rfl rfl ?_
    refine G_go rfl rfl ?_
    refine G_call rfl rfl ?_
    refine G_go rfl rfl ?_
    refine G_lt rfl rfl (fun c7 => ?_) (fun c7 => ?_)
    · have h := h.1 c7
      refine G_go rfl rfl ?_
      refine G_go rfl rfl ?_
      refine G_ret rfl rfl ?_
      refine G_call rfl rfl ?_
      refine G_go rfl rfl ?_
      refine G_brF rfl rfl rfl ?_
      refine G_go rfl rfl ?_
      refine G_go rfl rfl ?_
      refine G_ret rfl rfl ?_
      refine G_go rfl rfl ?_
      show G 2 120 112 16 [(3, 2), (1, a0), (1, a1), (1, (-4))] [] (n, s) Q
      refine G_go rfl rfl ?_
      refine G_brF rfl rfl rfl ?_
      refine G_go rfl rfl ?_
      refine G_go rfl rfl ?_
      refine G_call rfl rfl ?_
      refine G_go rfl rfl ?_
      refine G_go rfl rfl ?_
      refine G_go rfl rfl ?_
      refine G_go rfl rfl ?_
      refine G_brF rfl rfl rfl ?_
      refine G_go rfl rfl ?_
      refine G_go rfl rfl ?_
      refine G_rf rfl rfl (by decide) (hR 2 7 119 rfl) ?_
      refine G_go rfl rfl ?_
      refine G_brF rfl rfl rfl ?_
      refine G_go rfl rfl ?_
      refine G_rf rfl rfl (by decide) (hR 2 7 119 rfl) ?_
      refine G_go rfl rfl ?_
      refine G_go rfl rfl ?_
      refine G_ir (n := 7) rfl rfl (by decide) (by decide) (by decide) ?_
      refine G_go rfl rfl ?_
      refine G_go rfl rfl ?_
      refine G_iw (n := 7) rfl rfl (by decide) (by decide) (by decide) ?_
      have hR := refs_up (a := 119) (k := 4) (x := wr ((s 119 4) + 1)) hR rfl
      refine G_go rfl rfl ?_
      refine G_ret rfl rfl ?_
      exact G_ret rfl rfl h
    · have h := h.2 c7
      refine G_go rfl rfl ?_
      refine G_go rfl rfl ?_
      refine G_le rfl rfl (fun c8 => ?_) (fun c8 => ?_)
      · have h := h.1 c8
        refine G_go rfl rfl ?_
        refine G_ret rfl rfl ?_
        refine G_call rfl rfl ?_
        refine G_go rfl rfl ?_
        refine G_brF rfl rfl rfl ?_
        refine G_go rfl rfl ?_
        refine G_go rfl rfl ?_
        refine G_ret rfl rfl ?_
        refine G_go rfl rfl ?_
        show G 2 120 112 16 [(3, 2), (1, a0), (1, a1), (1, (-4))] [] (n, s) Q
        refine G_go rfl rfl ?_
        refine G_brF rfl rfl rfl ?_
        refine G_go rfl rfl ?_
        refine G_go rfl rfl ?_
        refine G_call rfl rfl ?_
        refine G_go rfl rfl ?_
        refine G_go rfl rfl ?_
        refine G_go rfl rfl ?_
        refine G_go rfl rfl ?_
        refine G_brF rfl rfl rfl ?_
        refine G_go rfl rfl ?_
        refine G_go rfl rfl ?_
        refine G_rf rfl rfl (by decide) (hR 2 7 119 rfl) ?_
        refine G_go rfl rfl ?_
        refine G_brF rfl rfl rfl ?_
        refine G_go rfl rfl ?_
        refine G_rf rfl rfl (by decide) (hR 2 7 119 rfl) ?_
        refine G_go rfl rfl ?_
        refine G_go rfl rfl ?_
        refine G_ir (n := 7) rfl rfl (by decide) (by decide) (by decide) ?_
        refine G_go rfl rfl ?_
        refine G_go rfl rfl ?_
        refine G_iw (n := 7) rfl rfl (by decide) (by decide) (by decide) ?_
        have hR := refs_up (a := 119) (k := 4) (x := wr ((s 119 4) + 1)) hR rfl
        refine G_go rfl rfl ?_
        refine G_ret rfl rfl ?_
        exact G_ret rfl rfl h
      · have h := h.2 c8
        refine G_go rfl rfl ?_
        refine G_go rfl rfl ?_
        refine G_ret rfl rfl ?_
        refine G_call rfl rfl ?_
        refine G_go rfl rfl ?_
        refine G_brF rfl rfl rfl ?_
        refine G_go rfl rfl ?_
        refine G_go rfl rfl ?_
        refine G_ret rfl rfl ?_
        refine G_go rfl rfl ?_
        show G 2 120 112 16 [(3, 2), (1, a0), (1, a1), (1, (-4))] [] (n, s) Q
        refine G_go rfl rfl ?_
        refine G_brF rfl rfl rfl ?_
        refine G_go rfl rfl ?_
        refine G_go rfl rfl ?_
        refine G_call rfl rfl ?_
        refine G_go rfl rfl ?_
        refine G_go rfl rfl ?_
        refine G_go rfl rfl ?_
        refine G_go rfl rfl ?_
        refine G_brF rfl rfl rfl ?_
        refine G_go rfl rfl ?_
        refine G_go rfl rfl ?_
        refine G_rf rfl rfl (by decide) (hR 2 7 119 rfl) ?_
        refine G_go rfl rfl ?_
        refine G_brF rfl rfl rfl ?_
        refine G_go rfl rfl ?_
        refine G_rf rfl rfl (by decide) (hR 2 7 119 rfl) ?_
        refine G_go rfl rfl ?_
        refine G_go rfl rfl ?_
        refine G_ir (n := 7) rfl rfl (by decide) (by decide) (by decide) ?_
        refine G_go rfl rfl ?_
        refine G_go rfl rfl ?_
        refine G_iw (n := 7) rfl rfl (by decide) (by decide) (by decide) ?_
        have hR := refs_up (a := 119) (k := 4) (x := wr ((s 119 4) + 1)) hR rfl
        refine G_go rfl rfl ?_
        refine G_ret rfl rfl ?_
        exact G_ret rfl rfl h
theorem sb_X6_nightOfAll_37 (n : Nat) (s : Nat → Nat → Int) (Q : List Vl → Sto → Prop) (x1 : Int) (x2 : Int) (x3 : Int) (hR : refs s)
    (h : G 2 120 30 0 [(3, 13), (1, x1), (0, 0)] [] (n, s) (fun r s1 => G 2 120 112 45 [(3, 2), (1, x1), (1, x2), (1, x3)] (r ++ []) s1 Q)) :
    G 2 120 112 37 [(3, 2), (1, x1), (1, x2), (1, x3)] [] (n, s) Q := by
  refine G_go rfl rfl ?_
  refine G_rf rfl rfl (by decide) (hR 2 1 13 rfl) ?_
  refine G_go rfl rfl ?_
  exact G_call rfl rfl h
theorem sb_X6_nightOfAll_45 (n : Nat) (s : Nat → Nat → Int) (Q : List Vl → Sto → Prop) (x1 : Int) (x2 : Int) (x3 : Int) (hR : refs s)
    (h : (x2 ≠ 0 → (0 ≤ s 3 9 ∧ s 3 9 ≤ 6) ∧ ((0 ≤ s 13 9 ∧ s 13 9 ≤ 6) ∧ (Q [(1, wr ((itr (smF (s 6)) 0 (s 3 9).toNat) - (itr (smF (s 16)) 0 (s 13 9).toNat)))] (n, s)))) ∧ (x2 = 0 → (0 ≤ s 13 9 ∧ s 13 9 ≤ 6) ∧ ((0 ≤ s 3 9 ∧ s 3 9 ≤ 6) ∧ (Q [(1, wr ((itr (smF (s 20)) 0 (s 13 9).toNat) - (itr (smF (s 10)) 0 (s 3 9).toNat)))] (n, s))))) :
    G 2 120 112 45 [(3, 2), (1, x1), (1, x2), (1, x3)] [] (n, s) Q := by
  refine G_go rfl rfl ?_
  refine G_ne rfl rfl (fun c1 => ?_) (fun c1 => ?_)
  · have h := h.1 c1
    refine G_go rfl rfl ?_
    refine G_rf rfl rfl (by decide) (hR 2 0 3 rfl) ?_
    refine G_call rfl rfl ?_
    refine G_go rfl rfl ?_
    refine G_go rfl rfl ?_
    refine G_rf rfl rfl (by decide) (hR 3 2 6 rfl) ?_
    refine G_call rfl rfl ?_
    obtain ⟨g2, h⟩ := h
    refine c_X5_sumOf_3_6 n _ _ hR g2 ?_
    refine G_ret rfl rfl ?_
    refine G_go rfl rfl ?_
    refine G_rf rfl rfl (by decide) (hR 2 1 13 rfl) ?_
    refine G_call rfl rfl ?_
    refine G_go rfl rfl ?_
    refine G_go rfl rfl ?_
    refine G_rf rfl rfl (by decide) (hR 13 2 16 rfl) ?_
    refine G_call rfl rfl ?_
    obtain ⟨g3, h⟩ := h
    refine c_X5_sumOf_13_16 n _ _ hR g3 ?_
    refine G_ret rfl rfl ?_
    refine G_go rfl rfl ?_
    exact G_ret rfl rfl h
  · have h := h.2 c1
    refine G_go rfl rfl ?_
    refine G_rf rfl rfl (by decide) (hR 2 1 13 rfl) ?_
    refine G_call rfl rfl ?_
    refine G_go rfl rfl ?_
    refine G_go rfl rfl ?_
    refine G_rf rfl rfl (by decide) (hR 13 6 20 rfl) ?_
    refine G_call rfl rfl ?_
    obtain ⟨g4, h⟩ := h
    refine c_X5_sumOf_13_20 n _ _ hR g4 ?_
    refine G_ret rfl rfl ?_
    refine G_go rfl rfl ?_
    refine G_rf rfl rfl (by decide) (hR 2 0 3 rfl) ?_
    refine G_call rfl rfl ?_
    refine G_go rfl rfl ?_
    refine G_go rfl rfl ?_
    refine G_rf rfl rfl (by decide) (hR 3 6 10 rfl) ?_
    refine G_call rfl rfl ?_
    obtain ⟨g5, h⟩ := h
    refine c_X5_sumOf_3_10 n _ _ hR g5 ?_
    refine G_ret rfl rfl ?_
    refine G_go rfl rfl ?_
    refine G_go rfl rfl ?_
    exact G_ret rfl rfl h
theorem sb_X7_nightOfAll_0 (n : Nat) (s : Nat → Nat → Int) (Q : List Vl → Sto → Prop) (a0 : Int) (a1 : Int) (hR : refs s)
    (h : (1 ≤ a0 → (a0 ≤ 12 → (a1 < 0 → Q [(1, (-2))] (n, upS (upS s 120 10 0) 129 2 (wr ((s 129 2) + 1)))) ∧ (a1 ≥ 0 → (a1 > 1 → Q [(1, (-2))] (n, upS (upS s 120 10 0) 129 2 (wr ((s 129 2) + 1)))) ∧ (a1 ≤ 1 → (0 ≤ (upS s 120 10 0) 120 0 ∧ (upS s 120 10 0) 120 0 ≤ 6) ∧ (G 120 140 143 0 [(3, 120)] [] (n, upS s 120 10 0) (fun r s1 => G 120 140 200 44 [(3, 120), (1, a0), (1, a1), (1, 0), (1, itr (smF ((upS s 120 10 0) 127)) 0 ((upS s 120 10 0) 120 0).toNat), (1, itr (smF ((upS s 120 10 0) 123)) 0 ((upS s 120 10 0) 120 0).toNat), (0, 0)] (r ++ []) s1 Q))))) ∧ (12 < a0 → Q [(1, (-6))] (n, upS (upS s 120 10 0) 129 6 (wr ((s 129 6) + 1))))) ∧ (a0 < 1 → Q [(1, (-4))] (n, upS (upS s 120 10 0) 129 4 (wr ((s 129 4) + 1))))) :
    G 120 140 200 0 [(3, 120), (1, a0), (1, a1), (0, 0), (0, 0), (0, 0), (0, 0)] [] (n, s) Q := by
  refine G_go rfl rfl ?_
  refine G_go rfl rfl ?_
  refine G_wr rfl rfl (by decide) ?_
  have hR := refs_up (a := 120) (k := 10) (x := 0) hR rfl
  refine G_go rfl rfl ?_
  refine G_go rfl rfl ?_
  refine G_go rfl rfl ?_
  refine G_call rfl rfl ?_
  refine G_go rfl rfl ?_
  refine G_go rfl rfl ?_
  refine G_ge rfl rfl (fun c1 => ?_) (fun c1 => ?_)
  · have h := h.1 c1
    refine G_go rfl rfl ?_
    refine G_go rfl rfl ?_
    refine G_le rfl rfl (fun c2 => ?_) (fun c2 => ?_)
    · have h := h.1 c2
      refine G_go rfl rfl ?_
      refine G_ret rfl rfl ?_
      refine G_go rfl rfl ?_
      refine G_go rfl rfl ?_
      refine G_call rfl rfl ?_
      refine G_go rfl rfl ?_
      refine G_brF rfl rfl rfl ?_
      refine G_go rfl rfl ?_
      refine G_go rfl rfl ?_
      refine G_go rfl rfl ?_
      refine G_go rfl rfl ?_
      refine G_go rfl rfl ?_
      refine G_call rfl rfl ?_
      refine G_go rfl rfl ?_
      refine G_go rfl rfl ?_
      refine G_go rfl rfl ?_
      refine G_lt rfl rfl (fun c3 => ?_) (fun c3 => ?_)
      · have c3 := xl_lt c3
        have h := h.1 c3
        refine G_go rfl rfl ?_
        refine G_ret rfl rfl ?_
        refine G_brF rfl rfl rfl ?_
        refine G_go rfl rfl ?_
        refine G_go rfl rfl ?_
        refine G_ret rfl rfl ?_
        refine G_go rfl rfl ?_
        show G 120 140 200 18 [(3, 120), (1, a0), (1, a1), (1, (-2)), (0, 0), (0, 0), (0, 0)] [] (n, upS s 120 10 0) Q
        refine G_go rfl rfl ?_
        refine G_brF rfl rfl rfl ?_
        refine G_go rfl rfl ?_
        refine G_go rfl rfl ?_
        refine G_call rfl rfl ?_
        refine G_go rfl rfl ?_
        refine G_rf rfl rfl (by decide) (hR 120 11 129 rfl) ?_
        refine G_go rfl rfl ?_
        refine G_go rfl rfl ?_
        refine G_go rfl rfl ?_
        refine G_ir (n := 7) rfl rfl (by decide) (by decide) (by decide) ?_
        refine G_go rfl rfl ?_
        refine G_go rfl rfl ?_
        refine G_iw (n := 7) rfl rfl (by decide) (by decide) (by decide) ?_
        have hR := refs_up (a := 129) (k := 2) (x := wr ((s 129 2) + 1)) hR rfl
        refine G_go rfl rfl ?_
        refine G_ret rfl rfl ?_
        exact G_ret rfl rfl h
      · have c3 := xl_ge c3
        have h := h.2 c3
        refine G_go rfl rfl ?_
        refine G_go rfl rfl ?_
        refine G_go rfl rfl ?_
        refine G_gt rfl rfl (fun c4 => ?_) (fun c4 => ?_)
        · have c4 := xl_gt c4
          have h := h.1 c4
          refine G_go rfl rfl ?_
          refine G_ret rfl rfl ?_
          refine G_brF rfl rfl rfl ?_
          refine G_go rfl rfl ?_
          refine G_go rfl rfl ?_
          refine G_ret rfl rfl ?_
          refine G_go rfl rfl ?_
          show G 120 140 200 18 [(3, 120), (1, a0), (1, a1), (1, (-2)), (0, 0), (0, 0), (0, 0)] [] (n, upS s 120 10 0) Q
          refine G_go rfl rfl ?_
          refine G_brF rfl rfl rfl ?_
          refine G_go rfl rfl ?_
          refine G_go rfl rfl ?_
          refine G_call rfl rfl ?_
          refine G_go rfl rfl ?_
          refine G_rf rfl rfl (by decide) (hR 120 11 129 rfl) ?_
          refine G_go rfl rfl ?_
          refine G_go rfl rfl ?_
          refine G_go rfl rfl ?_
          refine G_ir (n := 7) rfl rfl (by decide) (by decide) (by decide) ?_
          refine G_go rfl rfl ?_
          refine G_go rfl rfl ?_
          refine G_iw (n := 7) rfl rfl (by decide) (by decide) (by decide) ?_
          have hR := refs_up (a := 129) (k := 2) (x := wr ((s 129 2) + 1)) hR rfl
          refine G_go rfl rfl ?_
          refine G_ret rfl rfl ?_
          exact G_ret rfl rfl h
        · have c4 := xl_le c4
          have h := h.2 c4
          refine G_go rfl rfl ?_
          refine G_go rfl rfl ?_
          refine G_ret rfl rfl ?_
          refine G_brT rfl rfl rfl ?_
          refine G_go rfl rfl ?_
          refine G_ret rfl rfl ?_
          refine G_go rfl rfl ?_
          show G 120 140 200 18 [(3, 120), (1, a0), (1, a1), (1, 0), (0, 0), (0, 0), (0, 0)] [] (n, upS s 120 10 0) Q
          refine G_go rfl rfl ?_
          refine G_brT rfl rfl rfl ?_
          refine G_go rfl rfl ?_
          refine G_call rfl rfl ?_
          obtain ⟨g5, h⟩ := h
          refine c_X7_allPages n _ _ hR g5 ?_
          refine G_go rfl rfl ?_
          show G 120 140 200 34 [(3, 120), (1, a0), (1, a1), (1, 0), (1, itr (smF ((upS s 120 10 0) 127)) 0 ((upS s 120 10 0) 120 0).toNat), (0, 0), (0, 0)] [] (n, upS s 120 10 0) Q
          refine G_go rfl rfl ?_
          refine G_call rfl rfl ?_
          refine c_X7_allHolds n _ _ hR g5 ?_
          refine G_go rfl rfl ?_
          show G 120 140 200 40 [(3, 120), (1, a0), (1, a1), (1, 0), (1, itr (smF ((upS s 120 10 0) 127)) 0 ((upS s 120 10 0) 120 0).toNat), (1, itr (smF ((upS s 120 10 0) 123)) 0 ((upS s 120 10 0) 120 0).toNat), (0, 0)] [] (n, upS s 120 10 0) Q
          refine G_go rfl rfl ?_
          exact G_call rfl rfl h
    · have h := h.2 c2
      refine G_go rfl rfl ?_
      refine G_go rfl rfl ?_
      refine G_ret rfl rfl ?_
      refine G_go rfl rfl ?_
      refine G_go rfl rfl ?_
      refine G_call rfl rfl ?_
      refine G_go rfl rfl ?_
      refine G_brT rfl rfl rfl ?_
      refine G_go rfl rfl ?_
      refine G_ret rfl rfl ?_
      refine G_go rfl rfl ?_
      show G 120 140 200 18 [(3, 120), (1, a0), (1, a1), (1, (-6)), (0, 0), (0, 0), (0, 0)] [] (n, upS s 120 10 0) Q
      refine G_go rfl rfl ?_
      refine G_brF rfl rfl rfl ?_
      refine G_go rfl rfl ?_
      refine G_go rfl rfl ?_
      refine G_call rfl rfl ?_
      refine G_go rfl rfl ?_
      refine G_rf rfl rfl (by decide) (hR 120 11 129 rfl) ?_
      refine G_go rfl rfl ?_
      refine G_go rfl rfl ?_
      refine G_go rfl rfl ?_
      refine G_ir (n := 7) rfl rfl (by decide) (by decide) (by decide) ?_
      refine G_go rfl rfl ?_
      refine G_go rfl rfl ?_
      refine G_iw (n := 7) rfl rfl (by decide) (by decide) (by decide) ?_
      have hR := refs_up (a := 129) (k := 6) (x := wr ((s 129 6) + 1)) hR rfl
      refine G_go rfl rfl ?_
      refine G_ret rfl rfl ?_
      exact G_ret rfl rfl h
  · have h := h.2 c1
    refine G_go rfl rfl ?_
    refine G_go rfl rfl ?_
    refine G_ret rfl rfl ?_
    refine G_go rfl rfl ?_
    refine G_go rfl rfl ?_
    refine G_call rfl rfl ?_
    refine G_go rfl rfl ?_
    refine G_brT rfl rfl rfl ?_
    refine G_go rfl rfl ?_
    refine G_ret rfl rfl ?_
    refine G_go rfl rfl ?_
    show G 120 140 200 18 [(3, 120), (1, a0), (1, a1), (1, (-4)), (0, 0), (0, 0), (0, 0)] [] (n, upS s 120 10 0) Q
    refine G_go rfl rfl ?_
    refine G_brF rfl rfl rfl ?_
    refine G_go rfl rfl ?_
    refine G_go rfl rfl ?_
    refine G_call rfl rfl ?_
    refine G_go rfl rfl ?_
    refine G_rf rfl rfl (by decide) (hR 120 11 129 rfl) ?_
    refine G_go rfl rfl ?_
    refine G_go rfl rfl ?_
    refine G_go rfl rfl ?_
    refine G_ir (n := 7) rfl rfl (by decide) (by decide) (by decide) ?_
    refine G_go rfl rfl ?_
    refine G_go rfl rfl ?_
    refine G_iw (n := 7) rfl rfl (by decide) (by decide) (by decide) ?_
    have hR := refs_up (a := 129) (k := 4) (x := wr ((s 129 4) + 1)) hR rfl
    refine G_go rfl rfl ?_
    refine G_ret rfl rfl ?_
    exact G_ret rfl rfl h
theorem sb_X7_nightOfAll_44 (n : Nat) (s : Nat → Nat → Int) (Q : List Vl → Sto → Prop) (x1 : Int) (x2 : Int) (x3 : Int) (x4 : Int) (x5 : Int) (hR : refs s)
    (h : G 120 140 168 0 [(3, 120), (1, x1), (0, 0), (0, 0), (0, 0)] [] (n, s) (fun r s1 => G 120 140 200 49 [(3, 120), (1, x1), (1, x2), (1, x3), (1, x4), (1, x5), (0, 0)] (r ++ []) s1 Q)) :
    G 120 140 200 44 [(3, 120), (1, x1), (1, x2), (1, x3), (1, x4), (1, x5), (0, 0)] [] (n, s) Q := by
  refine G_go rfl rfl ?_
  refine G_go rfl rfl ?_
  exact G_call rfl rfl h
theorem sb_X7_nightOfAll_49 (n : Nat) (s : Nat → Nat → Int) (Q : List Vl → Sto → Prop) (x1 : Int) (x2 : Int) (x3 : Int) (x4 : Int) (x5 : Int) (hR : refs s)
    (h : (x2 ≠ 0 → (0 ≤ s 120 0 ∧ s 120 0 ≤ 6) ∧ (G 120 140 140 0 [(3, 120)] [] (n, s) (fun r s1 => G 120 140 200 76 [(3, 120), (1, x1), (1, x2), (1, x3), (1, x4), (1, x5), (1, wr (x5 - (itr (smF (s 123)) 0 (s 120 0).toNat)))] (r ++ []) s1 Q))) ∧ (x2 = 0 → (0 ≤ s 120 0 ∧ s 120 0 ≤ 6) ∧ (G 120 140 140 0 [(3, 120)] [] (n, s) (fun r s1 => G 120 140 200 76 [(3, 120), (1, x1), (1, x2), (1, x3), (1, x4), (1, x5), (1, wr ((itr (smF (s 127)) 0 (s 120 0).toNat) - x4))] (r ++ []) s1 Q)))) :
    G 120 140 200 49 [(3, 120), (1, x1), (1, x2), (1, x3), (1, x4), (1, x5), (0, 0)] [] (n, s) Q := by
  refine G_go rfl rfl ?_
  refine G_ne rfl rfl (fun c1 => ?_) (fun c1 => ?_)
  · have h := h.1 c1
    refine G_go rfl rfl ?_
    refine G_go rfl rfl ?_
    refine G_call rfl rfl ?_
    obtain ⟨g2, h⟩ := h
    refine c_X7_allHolds n _ _ hR g2 ?_
    refine G_go rfl rfl ?_
    refine G_go rfl rfl ?_
    show G 120 140 200 72 [(3, 120), (1, x1), (1, x2), (1, x3), (1, x4), (1, x5), (1, wr (x5 - (itr (smF (s 123)) 0 (s 120 0).toNat)))] [] (n, s) Q
    refine G_go rfl rfl ?_
    exact G_call rfl rfl h
  · have h := h.2 c1
    refine G_go rfl rfl ?_
    refine G_call rfl rfl ?_
    obtain ⟨g3, h⟩ := h
    refine c_X7_allPages n _ _ hR g3 ?_
    refine G_go rfl rfl ?_
    refine G_go rfl rfl ?_
    refine G_go rfl rfl ?_
    refine G_go rfl rfl ?_
    show G 120 140 200 72 [(3, 120), (1, x1), (1, x2), (1, x3), (1, x4), (1, x5), (1, wr ((itr (smF (s 127)) 0 (s 120 0).toNat) - x4))] [] (n, s) Q
    refine G_go rfl rfl ?_
    exact G_call rfl rfl h
theorem sb_X7_nightOfAll_76 (n : Nat) (s : Nat → Nat → Int) (Q : List Vl → Sto → Prop) (x1 : Int) (x2 : Int) (x3 : Int) (x4 : Int) (x5 : Int) (x6 : Int) (hR : refs s)
    (h : Q [(1, x6)] (n, s)) :
    G 120 140 200 76 [(3, 120), (1, x1), (1, x2), (1, x3), (1, x4), (1, x5), (1, x6)] [] (n, s) Q := by
  refine G_go rfl rfl ?_
  exact G_ret rfl rfl h
theorem cl_behind (n : Nat) (s t : Nat → Nat → Int) (h : REL s t) (p N : Nat) (hp : (p : Int) < t 120 0) (hN : N ≤ 99) (a2 x4 : Int) (Q : List Vl → Sto → Prop) (hQ : ∀ s1, refs s1 → frT 13 s s1 → Q [(1, bhV (hrN N (t 120 9) (vw 121 t)).2 p a2)] (n, s1)) : G 2 120 7 0 [(3, 13), (3, 3), (0, 0)] [] (n, s) (fun r s1 => G 2 120 69 45 [(3, 2), (1, (p : Int)), (1, (N : Int)), (1, a2), (1, x4)] (r ++ []) s1 Q) := by
  obtain ⟨hn1, hn2, hn3, hn4⟩ := h.np
  refine c_mind n s t h _ (fun s1 r1 f1 u1 => ?_)
  refine sb_X6_behind_45 n s1 Q p N a2 x4 r1 ?_
  refine c_passHours_13 n s1 _ _ _ _ N hN r1 h.o u1 (fun s2 r2 f2 u2 => ?_)
  refine sb_X6_behind_53 n s2 Q p N a2 x4 r2 ?_
  have e := u2.2.2 p hp
  have o := (okT_hrN (h := t 120 9) h.o N).2 p hp
  have q := hQ s2 r2 (frT_trans f1 (frH_t f2))
  generalize (hrN N (t 120 9) (vw 121 t)).2 = W at *
  have e4 : s2 18 p = W 4 p := e.2.2.2.2.1
  have e5 : s2 19 p = W 5 p := e.2.2.2.2.2.1
  have e6 : s2 20 p = W 6 p := e.2.2.2.2.2.2.1
  have o5 := o.2.2.2.2.2.1
  rw [Int.toNat_natCast, e4, e5, e6]
  unfold bhV at q
  refine ⟨fun c => ⟨by omega, ?_⟩, fun c => ⟨by omega, ?_⟩, fun c => ⟨by omega, fun d => ?_, fun d => ?_⟩⟩
  · rw [if_pos c] at q
    exact q
  · rw [if_neg (by omega), if_pos c] at q
    exact q
  · rw [if_neg c.1, if_neg c.2, d] at q
    exact q
  · rw [if_neg c.1, if_neg c.2, show W 5 p = 1 by omega] at q
    exact q
theorem rl_behind (n : Nat) (s t : Nat → Nat → Int) (h : REL s t) (p N : Nat) (hp : (p : Int) < t 120 0) (hN : N ≤ 99) (a2 x4 : Int) (Q : List Vl → Sto → Prop) (hQ : ∀ t1, refs t1 → frX 135 t t1 → twR t1 (t 120 0) (t 120 9) (vw 121 t) → Q [(1, bhV (hrN N (t 120 9) (vw 121 t)).2 p a2)] (n, t1)) : G 120 140 143 0 [(3, 120)] [] (n, t) (fun r s1 => G 120 140 158 47 [(3, 120), (1, (p : Int)), (1, (N : Int)), (1, a2), (1, x4), (0, 0)] (r ++ []) s1 Q) := by
  obtain ⟨hn1, hn2, hn3, hn4⟩ := h.np
  refine c_think n t _ _ _ _ h.2.1 hn3.2 h.w (fun t1 r1 f1 u1 k1 => ?_)
  refine sb_X7_behind_47 n t1 Q p N a2 x4 r1 ?_
  refine c_goHours n t1 _ _ _ _ N hN r1 h.o u1 (fun t2 r2 f2 u2 => ?_)
  have k2 := twK_fr k1 (f2.1 135 (by decide))
  have fin : ∀ x, x = bhV (hrN N (t 120 9) (vw 121 t)).2 p a2 → G 120 140 140 0 [(3, 120)] [] (n, t2) (fun r s1 => G 120 140 158 91 [(3, 120), (1, (p : Int)), (1, (N : Int)), (1, a2), (1, x4), (1, x)] (r ++ []) s1 Q) := fun x hx => c_again n t2 _ _ _ _ r2 hn3.2 k2 (fun t3 r3 f3 u3 => sb_X7_behind_91 n t3 Q _ _ _ _ _ r3 (hx ▸ hQ t3 r3 (frX_trans f1 (frX_trans (frY_x f2) (frX_w f3))) u3))
  refine sb_X7_behind_52 n t2 Q p N a2 x4 r2 ?_
  have e4 : t2 125 p = _ := u2.2.2 4 (by decide) p hp
  have e5 : t2 126 p = _ := u2.2.2 5 (by decide) p hp
  have e6 : t2 127 p = _ := u2.2.2 6 (by decide) p hp
  rw [Int.toNat_natCast, e4, e5, e6]
  unfold bhV at fin
  refine ⟨fun c => ⟨fun d => ⟨by omega, fin _ ?_⟩, fun d => ⟨by omega, fin _ ?_⟩⟩, fun c => ⟨by omega, fin _ ?_⟩⟩
  · rw [if_neg c, if_neg d]
  · rw [if_neg c, if_pos d]
  · rw [if_pos c]

theorem op_behind (n : Nat) (s t : Nat → Nat → Int) (h : REL s t) (a0 : Int) (a1 : Int) (a2 : Int) : G 2 120 69 0 [(3, 2), (1, a0), (1, a1), (1, a2), (0, 0)] [] (n, s) (fun r s1 => G 120 140 158 0 [(3, 120), (1, a0), (1, a1), (1, a2), (0, 0), (0, 0)] [] (n, t) (Post n r s1)) := by
  obtain ⟨hn1, hn2, hn3, hn4⟩ := h.np
  have hw : wr (t 120 0 - 1) = t 120 0 - 1 := wr_id (by omega) (by omega)
  have h1 : ∀ z : Int, 0 ≤ z → z < t 120 0 → ∃ p : Nat, z = p ∧ (p : Int) < t 120 0 := fun z h1 h2 => ⟨z.toNat, by omega, by omega⟩
  have h2 : ∀ z : Int, 0 ≤ z → z ≤ 99 → ∃ p : Nat, z = p ∧ p ≤ 99 := fun z h1 h2 => ⟨z.toNat, by omega, by omega⟩
  obtain ⟨m, hm⟩ : ∃ m : Nat, t 120 0 = (m : Int) := ⟨(t 120 0).toNat, by omega⟩
  refine sb_X6_behind_0 n s _ a0 a1 a2 h.1 ?_
  repeat' first | with_reducible refine And.intro ?_ ?_ | intro _
  all_goals first | omega | skip
  all_goals try (obtain ⟨p, rfl, hp⟩ := h1 a0 (by omega) (by omega); obtain ⟨N, rfl, hN⟩ := h2 a1 (by omega) (by omega); refine cl_behind n s _ h.up p N hp hN a2 _ _ (fun s1 r1 f1 => ?_))
  all_goals refine sb_X7_behind_0 n t _ _ _ _ h.2.1 ?_
  all_goals repeat' first | with_reducible refine And.intro ?_ ?_ | intro _
  all_goals first | omega | exact post_ref h _ (by decide) | exact hn3.1 | exact hn3.2 | skip
  exact rl_behind n s _ h.up p N hp hN a2 _ _ (fun t1 r2 f2 w => post_mind h.up r1 f1 r2 f2 w)
theorem cl_all (n : Nat) (s t : Nat → Nat → Int) (h : REL s t) (N : Nat) (hN : N ≤ 99) (a2 x4 : Int) (Q : List Vl → Sto → Prop) (hQ : ∀ s1, refs s1 → frT 13 s s1 → Q [(1, alV (t 120 0) (hrN N (t 120 9) (vw 121 t)).2 a2)] (n, s1)) : G 2 120 7 0 [(3, 13), (3, 3), (0, 0)] [] (n, s) (fun r s1 => G 2 120 63 37 [(3, 2), (1, (N : Int)), (1, a2), (1, x4)] (r ++ []) s1 Q) := by
  obtain ⟨hn1, hn2, hn3, hn4⟩ := h.np
  refine c_mind n s t h _ (fun s1 r1 f1 u1 => ?_)
  refine sb_X6_all_37 n s1 Q N a2 x4 r1 ?_
  refine c_passHours_13 n s1 _ _ _ _ N hN r1 h.o u1 (fun s2 r2 f2 u2 => ?_)
  have o := (okT_hrN (h := t 120 9) h.o N).2
  have q := hQ s2 r2 (frT_trans f1 (frH_t f2))
  generalize (hrN N (t 120 9) (vw 121 t)).2 = W at *
  have e9 : s2 13 9 = t 120 0 := u2.1
  have e5 : ∀ p : Nat, (p : Int) < t 120 0 → s2 19 p = W 5 p := fun p hp => (u2.2.2 p hp).2.2.2.2.2.1
  have e6 : ∀ p : Nat, (p : Int) < t 120 0 → s2 20 p = W 6 p := fun p hp => (u2.2.2 p hp).2.2.2.2.2.2.1
  unfold alV at q
  refine sb_X6_all_45 n s2 Q N a2 x4 r2 ⟨fun c => ?_, fun c => ?_⟩
  · rw [if_neg c] at q
    rw [e9, itr_row e6]
    exact ⟨hn3, q⟩
  · rw [if_pos c] at q
    refine c_howManyLit_13 n s2 _ r2 (by rw [e9]; exact hn3) (fun p hp => ?_) ?_
    · rw [e9] at hp
      rw [e5 p hp]
      exact (o p hp).2.2.2.2.2.1
    · refine sb_X6_all_56 n s2 Q N a2 x4 _ r2 ?_
      rw [e9, itr_row e5]
      exact q
theorem rl_all (n : Nat) (s t : Nat → Nat → Int) (h : REL s t) (N : Nat) (hN : N ≤ 99) (a2 x4 : Int) (Q : List Vl → Sto → Prop) (hQ : ∀ t1, refs t1 → frX 135 t t1 → twR t1 (t 120 0) (t 120 9) (vw 121 t) → Q [(1, alV (t 120 0) (hrN N (t 120 9) (vw 121 t)).2 a2)] (n, t1)) : G 120 140 143 0 [(3, 120)] [] (n, t) (fun r s1 => G 120 140 150 32 [(3, 120), (1, (N : Int)), (1, a2), (1, x4), (0, 0)] (r ++ []) s1 Q) := by
  obtain ⟨hn1, hn2, hn3, hn4⟩ := h.np
  refine c_think n t _ _ _ _ h.2.1 hn3.2 h.w (fun t1 r1 f1 u1 k1 => ?_)
  refine sb_X7_all_32 n t1 Q N a2 x4 r1 ?_
  refine c_goHours n t1 _ _ _ _ N hN r1 h.o u1 (fun t2 r2 f2 u2 => ?_)
  have k2 := twK_fr k1 (f2.1 135 (by decide))
  have fin : ∀ x, x = alV (t 120 0) (hrN N (t 120 9) (vw 121 t)).2 a2 → G 120 140 140 0 [(3, 120)] [] (n, t2) (fun r s1 => G 120 140 150 58 [(3, 120), (1, (N : Int)), (1, a2), (1, x4), (1, x)] (r ++ []) s1 Q) := fun x hx => c_again n t2 _ _ _ _ r2 hn3.2 k2 (fun t3 r3 f3 u3 => sb_X7_all_58 n t3 Q _ _ _ _ r3 (hx ▸ hQ t3 r3 (frX_trans f1 (frX_trans (frY_x f2) (frX_w f3))) u3))
  have e9 : t2 120 0 = t 120 0 := u2.1
  have e5 : ∀ p : Nat, (p : Int) < t 120 0 → t2 126 p = _ := fun p hp => u2.2.2 5 (by decide) p hp
  have e6 : ∀ p : Nat, (p : Int) < t 120 0 → t2 127 p = _ := fun p hp => u2.2.2 6 (by decide) p hp
  unfold alV at fin
  refine sb_X7_all_37 n t2 Q N a2 x4 r2 ⟨fun c => ?_, fun c => ?_⟩
  · rw [e9, itr_row e6]
    exact ⟨hn3, fin _ (by rw [if_neg c])⟩
  · refine c_litMany n t2 _ r2 (by rw [e9]; exact hn3) ?_
    refine sb_X7_all_45 n t2 Q N a2 x4 _ r2 ?_
    rw [e9, itr_row e5]
    exact fin _ (by rw [if_pos c])

theorem op_all (n : Nat) (s t : Nat → Nat → Int) (h : REL s t) (a0 : Int) (a1 : Int) : G 2 120 63 0 [(3, 2), (1, a0), (1, a1), (0, 0)] [] (n, s) (fun r s1 => G 120 140 150 0 [(3, 120), (1, a0), (1, a1), (0, 0), (0, 0)] [] (n, t) (Post n r s1)) := by
  obtain ⟨hn1, hn2, hn3, hn4⟩ := h.np
  have hw : wr (t 120 0 - 1) = t 120 0 - 1 := wr_id (by omega) (by omega)
  have h1 : ∀ z : Int, 0 ≤ z → z < t 120 0 → ∃ p : Nat, z = p ∧ (p : Int) < t 120 0 := fun z h1 h2 => ⟨z.toNat, by omega, by omega⟩
  have h2 : ∀ z : Int, 0 ≤ z → z ≤ 99 → ∃ p : Nat, z = p ∧ p ≤ 99 := fun z h1 h2 => ⟨z.toNat, by omega, by omega⟩
  obtain ⟨m, hm⟩ : ∃ m : Nat, t 120 0 = (m : Int) := ⟨(t 120 0).toNat, by omega⟩
  refine sb_X6_all_0 n s _ a0 a1 h.1 ?_
  repeat' first | with_reducible refine And.intro ?_ ?_ | intro _
  all_goals first | omega | skip
  all_goals try (obtain ⟨N, rfl, hN⟩ := h2 a0 (by omega) (by omega); refine cl_all n s _ h.up N hN a1 _ _ (fun s1 r1 f1 => ?_))
  all_goals refine sb_X7_all_0 n t _ _ _ h.2.1 ?_
  all_goals repeat' first | with_reducible refine And.intro ?_ ?_ | intro _
  all_goals first | omega | exact post_ref h _ (by decide) | exact hn3.1 | exact hn3.2 | skip
  exact rl_all n s _ h.up N hN a1 _ _ (fun t1 r2 f2 w => post_mind h.up r1 f1 r2 f2 w)
theorem cl_night (n : Nat) (s t : Nat → Nat → Int) (h : REL s t) (m p N : Nat) (hm : t 120 0 = (m : Int)) (hp : (p : Int) < m) (hN : N ≤ 99) (a2 x4 : Int) (Q : List Vl → Sto → Prop) (hQ : ∀ s1, refs s1 → frT 13 s s1 → Q [(1, nvV (vw 121 t) (ntV m N (t 120 9) (vw 121 t)) p a2)] (n, s1)) : G 2 120 7 0 [(3, 13), (3, 3), (0, 0)] [] (n, s) (fun r s1 => G 2 120 111 45 [(3, 2), (1, (p : Int)), (1, (N : Int)), (1, a2), (1, x4)] (r ++ []) s1 Q) := by
  obtain ⟨hn1, hn2, hn3, hn4⟩ := h.np
  refine c_mind n s t h _ (fun s1 r1 f1 u1 => ?_)
  refine sb_X6_night_45 n s1 Q p N a2 x4 r1 ?_
  have o := h.o
  rw [hm] at u1 o
  refine c_passNight_13 n s1 _ m _ _ N hN r1 o u1 (fun s2 r2 f2 u2 => ?_)
  refine sb_X6_night_53 n s2 Q p N a2 x4 r2 ?_
  have e := u2.2.2 p hp
  have q := hQ s2 r2 (frT_trans f1 f2)
  generalize ntV m N (t 120 9) (vw 121 t) = W at *
  have e2 : s2 16 p = W 2 p := e.2.2.1
  have e4 : s2 18 p = W 4 p := e.2.2.2.2.1
  have e6 : s2 20 p = W 6 p := e.2.2.2.2.2.2.1
  have e10 : s2 10 p = vw 121 t 6 p := by
    rw [frT_trans f1 f2 10 (by omega)]
    exact (h.s p (by omega)).2.2.2.2.2.2.1
  rw [Int.toNat_natCast, e2, e4, e6, e10]
  unfold nvV at q
  refine ⟨fun c => ⟨by omega, ?_⟩, fun c => ⟨by omega, ?_⟩, fun c => ⟨by omega, ?_⟩⟩
  · rw [if_pos c] at q
    exact q
  · rw [if_neg (by omega), if_pos c] at q
    exact q
  · rw [if_neg c.1, if_neg c.2] at q
    exact q
theorem rl_night (n : Nat) (s t : Nat → Nat → Int) (h : REL s t) (m p N : Nat) (hm : t 120 0 = (m : Int)) (hp : (p : Int) < m) (hN : N ≤ 99) (a2 x4 : Int) (Q : List Vl → Sto → Prop) (hQ : ∀ t1, refs t1 → frX 135 t t1 → twR t1 (t 120 0) (t 120 9) (vw 121 t) → Q [(1, nvV (vw 121 t) (ntV m N (t 120 9) (vw 121 t)) p a2)] (n, t1)) : G 120 140 143 0 [(3, 120)] [] (n, t) (fun r s1 => G 120 140 199 55 [(3, 120), (1, (p : Int)), (1, (N : Int)), (1, a2), (1, x4), (1, t 127 p), (0, 0)] (r ++ []) s1 Q) := by
  obtain ⟨hn1, hn2, hn3, hn4⟩ := h.np
  refine c_think n t _ _ _ _ h.2.1 hn3.2 h.w (fun t1 r1 f1 u1 k1 => ?_)
  refine sb_X7_night_55 n t1 Q p N a2 x4 _ r1 ?_
  have o := h.o
  rw [hm] at u1 o
  refine c_goNight n t1 _ m _ _ N hN r1 o u1 (fun t2 r2 f2 u2 => ?_)
  have k2 := twK_fr k1 (f2.1 135 (by decide) (by decide) (by decide))
  have fin : ∀ x, x = nvV (vw 121 t) (ntV m N (t 120 9) (vw 121 t)) p a2 → G 120 140 140 0 [(3, 120)] [] (n, t2) (fun r s1 => G 120 140 199 102 [(3, 120), (1, (p : Int)), (1, (N : Int)), (1, a2), (1, x4), (1, t 127 p), (1, x)] (r ++ []) s1 Q) := fun x hx => c_again n t2 _ _ _ _ r2 hn3.2 k2 (fun t3 r3 f3 u3 => sb_X7_night_102 n t3 Q _ _ _ _ _ _ r3 (hx ▸ hQ t3 r3 (frX_trans f1 (frX_trans (frX_w f2) (frX_w f3))) u3))
  refine sb_X7_night_60 n t2 Q p N a2 x4 _ r2 ?_
  have e2 : t2 123 p = _ := u2.2.2 2 (by decide) p hp
  have e4 : t2 125 p = _ := u2.2.2 4 (by decide) p hp
  have e6 : t2 127 p = _ := u2.2.2 6 (by decide) p hp
  rw [Int.toNat_natCast, e2, e4, e6]
  unfold nvV at fin
  refine ⟨fun c => ⟨fun d => ⟨by omega, fin _ ?_⟩, fun d => ⟨by omega, fin _ ?_⟩⟩, fun c => ⟨by omega, fin _ ?_⟩⟩
  · rw [if_neg c, if_neg d]
    rfl
  · rw [if_neg c, if_pos d]
  · rw [if_pos c]

theorem op_night (n : Nat) (s t : Nat → Nat → Int) (h : REL s t) (a0 : Int) (a1 : Int) (a2 : Int) : G 2 120 111 0 [(3, 2), (1, a0), (1, a1), (1, a2), (0, 0)] [] (n, s) (fun r s1 => G 120 140 199 0 [(3, 120), (1, a0), (1, a1), (1, a2), (0, 0), (0, 0), (0, 0)] [] (n, t) (Post n r s1)) := by
  obtain ⟨hn1, hn2, hn3, hn4⟩ := h.np
  have hw : wr (t 120 0 - 1) = t 120 0 - 1 := wr_id (by omega) (by omega)
  have h1 : ∀ z : Int, 0 ≤ z → z < t 120 0 → ∃ p : Nat, z = p ∧ (p : Int) < t 120 0 := fun z h1 h2 => ⟨z.toNat, by omega, by omega⟩
  have h2 : ∀ z : Int, 0 ≤ z → z ≤ 99 → ∃ p : Nat, z = p ∧ p ≤ 99 := fun z h1 h2 => ⟨z.toNat, by omega, by omega⟩
  obtain ⟨m, hm⟩ : ∃ m : Nat, t 120 0 = (m : Int) := ⟨(t 120 0).toNat, by omega⟩
  refine sb_X6_night_0 n s _ a0 a1 a2 h.1 ?_
  repeat' first | with_reducible refine And.intro ?_ ?_ | intro _
  all_goals first | omega | skip
  all_goals try (obtain ⟨p, rfl, hp⟩ := h1 a0 (by omega) (by omega); rw [hm] at hp; obtain ⟨N, rfl, hN⟩ := h2 a1 (by omega) (by omega); refine cl_night n s _ h.up m p N hm hp hN a2 _ _ (fun s1 r1 f1 => ?_))
  all_goals refine sb_X7_night_0 n t _ _ _ _ h.2.1 ?_
  all_goals repeat' first | with_reducible refine And.intro ?_ ?_ | intro _
  all_goals first | omega | exact post_ref h _ (by decide) | exact hn3.1 | exact hn3.2 | skip
  exact rl_night n s _ h.up m p N hm hp hN a2 _ _ (fun t1 r2 f2 w => post_mind h.up r1 f1 r2 f2 w)
theorem cl_nightOfAll (n : Nat) (s t : Nat → Nat → Int) (h : REL s t) (m N : Nat) (hm : t 120 0 = (m : Int)) (hN : N ≤ 99) (a2 x4 : Int) (Q : List Vl → Sto → Prop) (hQ : ∀ s1, refs s1 → frT 13 s s1 → Q [(1, naV m (vw 121 t) (ntV m N (t 120 9) (vw 121 t)) a2)] (n, s1)) : G 2 120 7 0 [(3, 13), (3, 3), (0, 0)] [] (n, s) (fun r s1 => G 2 120 112 37 [(3, 2), (1, (N : Int)), (1, a2), (1, x4)] (r ++ []) s1 Q) := by
  obtain ⟨hn1, hn2, hn3, hn4⟩ := h.np
  refine c_mind n s t h _ (fun s1 r1 f1 u1 => ?_)
  refine sb_X6_nightOfAll_37 n s1 Q N a2 x4 r1 ?_
  have o := h.o
  rw [hm] at u1 o
  refine c_passNight_13 n s1 _ m _ _ N hN r1 o u1 (fun s2 r2 f2 u2 => ?_)
  refine sb_X6_nightOfAll_45 n s2 Q N a2 x4 r2 ?_
  have q := hQ s2 r2 (frT_trans f1 f2)
  generalize ntV m N (t 120 9) (vw 121 t) = W at *
  have e9 : s2 13 9 = (m : Int) := u2.1
  have e39 : s2 3 9 = (m : Int) := by rw [frT_trans f1 f2 3 (by omega), hn1, hm]
  have f6 : s2 6 = s 6 := frT_trans f1 f2 6 (by omega)
  have f10 : s2 10 = s 10 := frT_trans f1 f2 10 (by omega)
  have e2 : ∀ p : Nat, (p : Int) < m → s2 16 p = W 2 p := fun p hp => (u2.2.2 p hp).2.2.1
  have e6 : ∀ p : Nat, (p : Int) < m → s2 20 p = W 6 p := fun p hp => (u2.2.2 p hp).2.2.2.2.2.2.1
  have g2 : ∀ p : Nat, (p : Int) < m → s 6 p = vw 121 t 2 p := fun p hp => (h.s p (by omega)).2.2.1
  have g6 : ∀ p : Nat, (p : Int) < m → s 10 p = vw 121 t 6 p := fun p hp => (h.s p (by omega)).2.2.2.2.2.2.1
  rw [e9, e39, f6, f10, itr_row e2, itr_row e6, itr_row g2, itr_row g6]
  unfold naV at q
  refine ⟨fun c => ⟨by omega, by omega, ?_⟩, fun c => ⟨by omega, by omega, ?_⟩⟩
  · rw [if_neg c] at q
    exact q
  · rw [if_pos c] at q
    exact q
theorem rl_nightOfAll (n : Nat) (s t : Nat → Nat → Int) (h : REL s t) (m N : Nat) (hm : t 120 0 = (m : Int)) (hN : N ≤ 99) (a2 x4 : Int) (Q : List Vl → Sto → Prop) (hQ : ∀ t1, refs t1 → frX 135 t t1 → twR t1 (t 120 0) (t 120 9) (vw 121 t) → Q [(1, naV m (vw 121 t) (ntV m N (t 120 9) (vw 121 t)) a2)] (n, t1)) : G 120 140 143 0 [(3, 120)] [] (n, t) (fun r s1 => G 120 140 200 44 [(3, 120), (1, (N : Int)), (1, a2), (1, x4), (1, itr (smF (t 127)) 0 (t 120 0).toNat), (1, itr (smF (t 123)) 0 (t 120 0).toNat), (0, 0)] (r ++ []) s1 Q) := by
  obtain ⟨hn1, hn2, hn3, hn4⟩ := h.np
  rw [hm]
  refine c_think n t _ _ _ _ h.2.1 hn3.2 h.w (fun t1 r1 f1 u1 k1 => ?_)
  refine sb_X7_nightOfAll_44 n t1 Q N a2 x4 _ _ r1 ?_
  have o := h.o
  rw [hm] at u1 o
  refine c_goNight n t1 _ m _ _ N hN r1 o u1 (fun t2 r2 f2 u2 => ?_)
  have k2 := twK_fr k1 (f2.1 135 (by decide) (by decide) (by decide))
  have fin : ∀ x, x = naV m (vw 121 t) (ntV m N (t 120 9) (vw 121 t)) a2 → G 120 140 140 0 [(3, 120)] [] (n, t2) (fun r s1 => G 120 140 200 76 [(3, 120), (1, (N : Int)), (1, a2), (1, x4), (1, itr (smF (t 127)) 0 (m : Int).toNat), (1, itr (smF (t 123)) 0 (m : Int).toNat), (1, x)] (r ++ []) s1 Q) := fun x hx => c_again n t2 _ _ _ _ r2 hn3.2 k2 (fun t3 r3 f3 u3 => sb_X7_nightOfAll_76 n t3 Q _ _ _ _ _ _ r3 (hx ▸ hQ t3 r3 (frX_trans f1 (frX_trans (frX_w f2) (frX_w f3))) u3))
  refine sb_X7_nightOfAll_49 n t2 Q N a2 x4 _ _ r2 ?_
  have e9 : t2 120 0 = (m : Int) := u2.1
  have e2 : ∀ p : Nat, (p : Int) < m → t2 123 p = _ := fun p hp => u2.2.2 2 (by decide) p hp
  have e6 : ∀ p : Nat, (p : Int) < m → t2 127 p = _ := fun p hp => u2.2.2 6 (by decide) p hp
  rw [e9, itr_row e2, itr_row e6]
  unfold naV at fin
  refine ⟨fun c => ⟨by omega, fin _ ?_⟩, fun c => ⟨by omega, fin _ ?_⟩⟩
  · rw [if_neg c]
    rfl
  · rw [if_pos c]
    rfl

theorem op_nightOfAll (n : Nat) (s t : Nat → Nat → Int) (h : REL s t) (a0 : Int) (a1 : Int) : G 2 120 112 0 [(3, 2), (1, a0), (1, a1), (0, 0)] [] (n, s) (fun r s1 => G 120 140 200 0 [(3, 120), (1, a0), (1, a1), (0, 0), (0, 0), (0, 0), (0, 0)] [] (n, t) (Post n r s1)) := by
  obtain ⟨hn1, hn2, hn3, hn4⟩ := h.np
  have hw : wr (t 120 0 - 1) = t 120 0 - 1 := wr_id (by omega) (by omega)
  have h1 : ∀ z : Int, 0 ≤ z → z < t 120 0 → ∃ p : Nat, z = p ∧ (p : Int) < t 120 0 := fun z h1 h2 => ⟨z.toNat, by omega, by omega⟩
  have h2 : ∀ z : Int, 0 ≤ z → z ≤ 99 → ∃ p : Nat, z = p ∧ p ≤ 99 := fun z h1 h2 => ⟨z.toNat, by omega, by omega⟩
  obtain ⟨m, hm⟩ : ∃ m : Nat, t 120 0 = (m : Int) := ⟨(t 120 0).toNat, by omega⟩
  refine sb_X6_nightOfAll_0 n s _ a0 a1 h.1 ?_
  repeat' first | with_reducible refine And.intro ?_ ?_ | intro _
  all_goals first | omega | skip
  all_goals try (obtain ⟨N, rfl, hN⟩ := h2 a0 (by omega) (by omega); refine cl_nightOfAll n s _ h.up m N hm hN a1 _ _ (fun s1 r1 f1 => ?_))
  all_goals refine sb_X7_nightOfAll_0 n t _ _ _ h.2.1 ?_
  all_goals repeat' first | with_reducible refine And.intro ?_ ?_ | intro _
  all_goals first | omega | exact post_ref h _ (by decide) | exact hn3.1 | exact hn3.2 | skip
  exact rl_nightOfAll n s _ h.up m N hm hN a1 _ _ (fun t1 r2 f2 w => post_mind h.up r1 f1 r2 f2 w)

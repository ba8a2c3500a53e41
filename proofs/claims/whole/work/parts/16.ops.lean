/-! THE CALLS, ONE BY ONE: the class's and the reference's, begun over cells that have to do with each other. -/
theorem post_ref {n : Nat} {s t : Nat → Nat → Int} {v : Vl} (h : REL s t) (k : Nat) (hk : k < 7) : Post n [v] (n, upS s 119 k (wr (s 119 k + 1))) [v] (n, upS (upS t 120 10 0) 129 k (wr (t 129 k + 1))) := ⟨v, rfl, rfl, rel_refuse h k hk, rfl, rfl⟩
theorem sb_X6_feed_0 (n : Nat) (s : Nat → Nat → Int) (Q : List Vl → Sto → Prop) (a0 : Int) (hR : refs s)
    (h : (0 ≤ a0 → (a0 ≤ 255 → (s 115 1 < 96 → (0 ≤ s 115 1 ∧ s 115 1 < 96) ∧ (Q [(1, wr ((s 115 1) + 1))] (n, upS (upS s 116 ((s 115 1).toNat) a0) 115 1 (wr ((s 115 1) + 1))))) ∧ (96 ≤ s 115 1 → Q [(1, (-6))] (n, upS s 119 6 (wr ((s 119 6) + 1))))) ∧ (255 < a0 → Q [(1, (-6))] (n, upS s 119 6 (wr ((s 119 6) + 1))))) ∧ (a0 < 0 → Q [(1, (-4))] (n, upS s 119 4 (wr ((s 119 4) + 1))))) :
    G 2 120 81 0 [(3, 2), (1, a0), (0, 0)] [] (n, s) Q := by
  refine G_go rfl rfl ?_
  refine G_go rfl rfl ?_
  refine G_go rfl rfl ?_
  refine G_call rfl rfl ?_
  refine G_go rfl rfl ?_
  refine G_go rfl rfl ?_
  refine G_ge rfl rfl (fun c1 => ?_) (fun c1 => ?_)
  · have h := h.1 c1
    refine G_go rfl rfl ?_
    refine G_go rfl rfl ?_
    refine G_le rfl rfl (fun c2 => ?_) (fun c2 => ?_)
    · have h := h.1 c2
      refine G_go rfl rfl ?_
      refine G_ret rfl rfl ?_
      refine G_go rfl rfl ?_
      refine G_go rfl rfl ?_
      refine G_brF rfl rfl rfl ?_
      refine G_go rfl rfl ?_
      refine G_rf rfl rfl (by decide) (hR 2 5 115 rfl) ?_
      refine G_call rfl rfl ?_
      refine G_go rfl rfl ?_
      refine G_rd rfl rfl (by decide) ?_
      refine G_go rfl rfl ?_
      refine G_rf rfl rfl (by decide) (hR 115 0 116 rfl) ?_
      refine G_go rfl rfl ?_
      refine G_lt rfl rfl (fun c3 => ?_) (fun c3 => ?_)
      · have h := h.1 c3
        refine G_go rfl rfl ?_
        refine G_ret rfl rfl ?_
        refine G_brT rfl rfl rfl ?_
        refine G_go rfl rfl ?_
        refine G_brT rfl rfl rfl ?_
        refine G_go rfl rfl ?_
        refine G_rf rfl rfl (by decide) (hR 2 5 115 rfl) ?_
        refine G_go rfl rfl ?_
        refine G_call rfl rfl ?_
        refine G_go rfl rfl ?_
        refine G_call rfl rfl ?_
        refine G_go rfl rfl ?_
        refine G_rd rfl rfl (by decide) ?_
        refine G_go rfl rfl ?_
        refine G_rf rfl rfl (by decide) (hR 115 0 116 rfl) ?_
        refine G_go rfl rfl ?_
        refine G_lt rfl rfl (fun _ => ?_) (fun hc => absurd (show 96 ≤ s 115 1 from hc) (by omega))
        refine G_go rfl rfl ?_
        refine G_ret rfl rfl ?_
        refine G_brF rfl rfl rfl ?_
        refine G_go rfl rfl ?_
        refine G_rf rfl rfl (by decide) (hR 115 0 116 rfl) ?_
        refine G_go rfl rfl ?_
        refine G_rd rfl rfl (by decide) ?_
        refine G_go rfl rfl ?_
        obtain ⟨g4, h⟩ := h
        refine G_iw (n := 96) rfl rfl (by decide) (by decide) g4 ?_
        have hR := refs_up (a := 116) (k := (s 115 1).toNat) (x := a0) hR rfl
        refine G_go rfl rfl ?_
        refine G_go rfl rfl ?_
        refine G_rd rfl rfl (by decide) ?_
        refine G_go rfl rfl ?_
        refine G_go rfl rfl ?_
        refine G_wr rfl rfl (by decide) ?_
        have hR := refs_up (a := 115) (k := 1) (x := wr ((s 115 1) + 1)) hR rfl
        refine G_go rfl rfl ?_
        refine G_rdv (v := wr ((s 115 1) + 1)) rfl rfl (by decide) (by simp [upS]) ?_
        refine G_ret rfl rfl ?_
        exact G_ret rfl rfl h
      · have h := h.2 c3
        refine G_go rfl rfl ?_
        refine G_go rfl rfl ?_
        refine G_ret rfl rfl ?_
        refine G_brF rfl rfl rfl ?_
        refine G_go rfl rfl ?_
        refine G_go rfl rfl ?_
        refine G_go rfl rfl ?_
        refine G_brF rfl rfl rfl ?_
        refine G_go rfl rfl ?_
        refine G_go rfl rfl ?_
        refine G_call rfl rfl ?_
        refine G_go rfl rfl ?_
        refine G_go rfl rfl ?_
        refine G_go rfl rfl ?_
        refine G_go rfl rfl ?_
        refine G_brF rfl rfl rfl ?_
        refine G_go rfl rfl ?_
        refine G_go rfl rfl ?_
        refine G_rf rfl rfl (by decide) (hR 2 7 119 rfl) ?_
        refine G_go rfl rfl ?_
        refine G_brF rfl rfl rfl ?_
        refine G_go rfl rfl ?_
        refine G_rf rfl rfl (by decide) (hR 2 7 119 rfl) ?_
        refine G_go rfl rfl ?_
        refine G_go rfl rfl ?_
        refine G_ir (n := 7) rfl rfl (by decide) (by decide) (by decide) ?_
        refine G_go rfl rfl ?_
        refine G_go rfl rfl ?_
        refine G_iw (n := 7) rfl rfl (by decide) (by decide) (by decide) ?_
        have hR := refs_up (a := 119) (k := 6) (x := wr ((s 119 6) + 1)) hR rfl
        refine G_go rfl rfl ?_
        refine G_ret rfl rfl ?_
        refine G_go rfl rfl ?_
        exact G_ret rfl rfl h
    · have h := h.2 c2
      refine G_go rfl rfl ?_
      refine G_go rfl rfl ?_
      refine G_ret rfl rfl ?_
      refine G_go rfl rfl ?_
      refine G_go rfl rfl ?_
      refine G_brT rfl rfl rfl ?_
      refine G_go rfl rfl ?_
      refine G_brF rfl rfl rfl ?_
      refine G_go rfl rfl ?_
      refine G_go rfl rfl ?_
      refine G_call rfl rfl ?_
      refine G_go rfl rfl ?_
      refine G_go rfl rfl ?_
      refine G_go rfl rfl ?_
      refine G_go rfl rfl ?_
      refine G_brF rfl rfl rfl ?_
      refine G_go rfl rfl ?_
      refine G_go rfl rfl ?_
      refine G_rf rfl rfl (by decide) (hR 2 7 119 rfl) ?_
      refine G_go rfl rfl ?_
      refine G_brF rfl rfl rfl ?_
      refine G_go rfl rfl ?_
      refine G_rf rfl rfl (by decide) (hR 2 7 119 rfl) ?_
      refine G_go rfl rfl ?_
      refine G_go rfl rfl ?_
      refine G_ir (n := 7) rfl rfl (by decide) (by decide) (by decide) ?_
      refine G_go rfl rfl ?_
      refine G_go rfl rfl ?_
      refine G_iw (n := 7) rfl rfl (by decide) (by decide) (by decide) ?_
      have hR := refs_up (a := 119) (k := 6) (x := wr ((s 119 6) + 1)) hR rfl
      refine G_go rfl rfl ?_
      refine G_ret rfl rfl ?_
      refine G_go rfl rfl ?_
      exact G_ret rfl rfl h
  · have h := h.2 c1
    refine G_go rfl rfl ?_
    refine G_ret rfl rfl ?_
    refine G_go rfl rfl ?_
    refine G_go rfl rfl ?_
    refine G_brT rfl rfl rfl ?_
    refine G_go rfl rfl ?_
    refine G_brF rfl rfl rfl ?_
    refine G_go rfl rfl ?_
    refine G_go rfl rfl ?_
    refine G_call rfl rfl ?_
    refine G_go rfl rfl ?_
    refine G_go rfl rfl ?_
    refine G_go rfl rfl ?_
    refine G_go rfl rfl ?_
    refine G_brF rfl rfl rfl ?_
    refine G_go rfl rfl ?_
    refine G_go rfl rfl ?_
    refine G_rf rfl rfl (by decide) (hR 2 7 119 rfl) ?_
    refine G_go rfl rfl ?_
    refine G_brF rfl rfl rfl ?_
    refine G_go rfl rfl ?_
    refine G_rf rfl rfl (by decide) (hR 2 7 119 rfl) ?_
    refine G_go rfl rfl ?_
    refine G_go rfl rfl ?_
    refine G_ir (n := 7) rfl rfl (by decide) (by decide) (by decide) ?_
    refine G_go rfl rfl ?_
    refine G_go rfl rfl ?_
    refine G_iw (n := 7) rfl rfl (by decide) (by decide) (by decide) ?_
    have hR := refs_up (a := 119) (k := 4) (x := wr ((s 119 4) + 1)) hR rfl
    refine G_go rfl rfl ?_
    refine G_ret rfl rfl ?_
    refine G_go rfl rfl ?_
    exact G_ret rfl rfl h
theorem sb_X7_feed_0 (n : Nat) (s : Nat → Nat → Int) (Q : List Vl → Sto → Prop) (a0 : Int) (hR : refs s)
    (h : (0 ≤ a0 → (255 < a0 → Q [(1, (-6))] (n, upS (upS s 120 10 0) 129 6 (wr ((s 129 6) + 1)))) ∧ (a0 ≤ 255 → (s 120 14 ≠ 96 → (0 ≤ s 120 14 ∧ s 120 14 < 96) ∧ (Q [(1, wr ((s 120 14) + 1))] (n, upS (upS (upS s 120 10 0) 131 ((s 120 14).toNat) a0) 120 14 (wr ((s 120 14) + 1))))) ∧ (s 120 14 = 96 → Q [(1, (-6))] (n, upS (upS s 120 10 0) 129 6 (wr ((s 129 6) + 1)))))) ∧ (a0 < 0 → Q [(1, (-4))] (n, upS (upS s 120 10 0) 129 4 (wr ((s 129 4) + 1))))) :
    G 120 140 178 0 [(3, 120), (1, a0)] [] (n, s) Q := by
  refine G_go rfl rfl ?_
  refine G_go rfl rfl ?_
  refine G_wr rfl rfl (by decide) ?_
  have hR := refs_up (a := 120) (k := 10) (x := 0) hR rfl
  refine G_go rfl rfl ?_
  refine G_ge rfl rfl (fun c1 => ?_) (fun c1 => ?_)
  · have h := h.1 c1
    refine G_go rfl rfl ?_
    refine G_go rfl rfl ?_
    refine G_gt rfl rfl (fun c2 => ?_) (fun c2 => ?_)
    · have h := h.1 c2
      refine G_go rfl rfl ?_
      refine G_go rfl rfl ?_
      refine G_call rfl rfl ?_
      refine G_go rfl rfl ?_
      refine G_rf rfl rfl (by decide) (hR 120 11 129 rfl) ?_
      refine G_go rfl rfl ?_
      refine G_go rfl rfl ?_
      refine G_go rfl rfl ?_
      refine G_ir (n := 7) rfl rfl (by decide) (by decide) (by decide) ?_
      refine G_go rfl rfl ?_
      refine G_go rfl rfl ?_
      refine G_iw (n := 7) rfl rfl (by decide) (by decide) (by decide) ?_
      have hR := refs_up (a := 129) (k := 6) (x := wr ((s 129 6) + 1)) hR rfl
      refine G_go rfl rfl ?_
      refine G_ret rfl rfl ?_
      exact G_ret rfl rfl h
    · have h := h.2 c2
      refine G_go rfl rfl ?_
      refine G_rd rfl rfl (by decide) ?_
      refine G_go rfl rfl ?_
      refine G_ne rfl rfl (fun c3 => ?_) (fun c3 => ?_)
      · have h := h.1 c3
        refine G_go rfl rfl ?_
        refine G_rf rfl rfl (by decide) (hR 120 13 131 rfl) ?_
        refine G_go rfl rfl ?_
        refine G_rd rfl rfl (by decide) ?_
        refine G_go rfl rfl ?_
        obtain ⟨g4, h⟩ := h
        refine G_iw (n := 96) rfl rfl (by decide) (by decide) g4 ?_
        have hR := refs_up (a := 131) (k := (s 120 14).toNat) (x := a0) hR rfl
        refine G_go rfl rfl ?_
        refine G_go rfl rfl ?_
        refine G_rd rfl rfl (by decide) ?_
        refine G_go rfl rfl ?_
        refine G_go rfl rfl ?_
        refine G_wr rfl rfl (by decide) ?_
        have hR := refs_up (a := 120) (k := 14) (x := wr ((s 120 14) + 1)) hR rfl
        refine G_go rfl rfl ?_
        refine G_rdv (v := wr ((s 120 14) + 1)) rfl rfl (by decide) (by simp [upS]) ?_
        exact G_ret rfl rfl h
      · have h := h.2 c3
        refine G_go rfl rfl ?_
        refine G_go rfl rfl ?_
        refine G_call rfl rfl ?_
        refine G_go rfl rfl ?_
        refine G_rf rfl rfl (by decide) (hR 120 11 129 rfl) ?_
        refine G_go rfl rfl ?_
        refine G_go rfl rfl ?_
        refine G_go rfl rfl ?_
        refine G_ir (n := 7) rfl rfl (by decide) (by decide) (by decide) ?_
        refine G_go rfl rfl ?_
        refine G_go rfl rfl ?_
        refine G_iw (n := 7) rfl rfl (by decide) (by decide) (by decide) ?_
        have hR := refs_up (a := 129) (k := 6) (x := wr ((s 129 6) + 1)) hR rfl
        refine G_go rfl rfl ?_
        refine G_ret rfl rfl ?_
        exact G_ret rfl rfl h
  · have h := h.2 c1
    refine G_go rfl rfl ?_
    refine G_go rfl rfl ?_
    refine G_call rfl rfl ?_
    refine G_go rfl rfl ?_
    refine G_rf rfl rfl (by decide) (hR 120 11 129 rfl) ?_
    refine G_go rfl rfl ?_
    refine G_go rfl rfl ?_
    refine G_go rfl rfl ?_
    refine G_ir (n := 7) rfl rfl (by decide) (by decide) (by decide) ?_
    refine G_go rfl rfl ?_
    refine G_go rfl rfl ?_
    refine G_iw (n := 7) rfl rfl (by decide) (by decide) (by decide) ?_
    have hR := refs_up (a := 129) (k := 4) (x := wr ((s 129 4) + 1)) hR rfl
    refine G_go rfl rfl ?_
    refine G_ret rfl rfl ?_
    exact G_ret rfl rfl h
theorem sb_X6_row_0 (n : Nat) (s : Nat → Nat → Int) (Q : List Vl → Sto → Prop) (a0 : Int) (hR : refs s)
    (h : (0 ≤ a0 → (a0 ≤ 99 → (s 117 1 < 12 → (0 ≤ s 117 1 ∧ s 117 1 < 12) ∧ (Q [(1, wr ((s 117 1) + 1))] (n, upS (upS s 118 ((s 117 1).toNat) a0) 117 1 (wr ((s 117 1) + 1))))) ∧ (12 ≤ s 117 1 → Q [(1, (-6))] (n, upS s 119 6 (wr ((s 119 6) + 1))))) ∧ (99 < a0 → Q [(1, (-6))] (n, upS s 119 6 (wr ((s 119 6) + 1))))) ∧ (a0 < 0 → Q [(1, (-4))] (n, upS s 119 4 (wr ((s 119 4) + 1))))) :
    G 2 120 121 0 [(3, 2), (1, a0), (0, 0)] [] (n, s) Q := by
  refine G_go rfl rfl ?_
  refine G_go rfl rfl ?_
  refine G_go rfl rfl ?_
  refine G_call rfl rfl ?_
  refine G_go rfl rfl ?_
  refine G_go rfl rfl ?_
  refine G_ge rfl rfl (fun c1 => ?_) (fun c1 => ?_)
  · have h := h.1 c1
    refine G_go rfl rfl ?_
    refine G_go rfl rfl ?_
    refine G_le rfl rfl (fun c2 => ?_) (fun c2 => ?_)
    · have h := h.1 c2
      refine G_go rfl rfl ?_
      refine G_ret rfl rfl ?_
      refine G_go rfl rfl ?_
      refine G_go rfl rfl ?_
      refine G_brF rfl rfl rfl ?_
      refine G_go rfl rfl ?_
      refine G_rf rfl rfl (by decide) (hR 2 6 117 rfl) ?_
      refine G_call rfl rfl ?_
      refine G_go rfl rfl ?_
      refine G_rd rfl rfl (by decide) ?_
      refine G_go rfl rfl ?_
      refine G_rf rfl rfl (by decide) (hR 117 0 118 rfl) ?_
      refine G_go rfl rfl ?_
      refine G_lt rfl rfl (fun c3 => ?_) (fun c3 => ?_)
      · have h := h.1 c3
        refine G_go rfl rfl ?_
        refine G_ret rfl rfl ?_
        refine G_brT rfl rfl rfl ?_
        refine G_go rfl rfl ?_
        refine G_brT rfl rfl rfl ?_
        refine G_go rfl rfl ?_
        refine G_rf rfl rfl (by decide) (hR 2 6 117 rfl) ?_
        refine G_go rfl rfl ?_
        refine G_call rfl rfl ?_
        refine G_go rfl rfl ?_
        refine G_call rfl rfl ?_
        refine G_go rfl rfl ?_
        refine G_rd rfl rfl (by decide) ?_
        refine G_go rfl rfl ?_
        refine G_rf rfl rfl (by decide) (hR 117 0 118 rfl) ?_
        refine G_go rfl rfl ?_
        refine G_lt rfl rfl (fun _ => ?_) (fun hc => absurd (show 12 ≤ s 117 1 from hc) (by omega))
        refine G_go rfl rfl ?_
        refine G_ret rfl rfl ?_
        refine G_brF rfl rfl rfl ?_
        refine G_go rfl rfl ?_
        refine G_rf rfl rfl (by decide) (hR 117 0 118 rfl) ?_
        refine G_go rfl rfl ?_
        refine G_rd rfl rfl (by decide) ?_
        refine G_go rfl rfl ?_
        obtain ⟨g4, h⟩ := h
        refine G_iw (n := 12) rfl rfl (by decide) (by decide) g4 ?_
        have hR := refs_up (a := 118) (k := (s 117 1).toNat) (x := a0) hR rfl
        refine G_go rfl rfl ?_
        refine G_go rfl rfl ?_
        refine G_rd rfl rfl (by decide) ?_
        refine G_go rfl rfl ?_
        refine G_go rfl rfl ?_
        refine G_wr rfl rfl (by decide) ?_
        have hR := refs_up (a := 117) (k := 1) (x := wr ((s 117 1) + 1)) hR rfl
        refine G_go rfl rfl ?_
        refine G_rdv (v := wr ((s 117 1) + 1)) rfl rfl (by decide) (by simp [upS]) ?_
        refine G_ret rfl rfl ?_
        exact G_ret rfl rfl h
      · have h := h.2 c3
        refine G_go rfl rfl ?_
        refine G_go rfl rfl ?_
        refine G_ret rfl rfl ?_
        refine G_brF rfl rfl rfl ?_
        refine G_go rfl rfl ?_
        refine G_go rfl rfl ?_
        refine G_go rfl rfl ?_
        refine G_brF rfl rfl rfl ?_
        refine G_go rfl rfl ?_
        refine G_go rfl rfl ?_
        refine G_call rfl rfl ?_
        refine G_go rfl rfl ?_
        refine G_go rfl rfl ?_
        refine G_go rfl rfl ?_
        refine G_go rfl rfl ?_
        refine G_brF rfl rfl rfl ?_
        refine G_go rfl rfl ?_
        refine G_go rfl rfl ?_
        refine G_rf rfl rfl (by decide) (hR 2 7 119 rfl) ?_
        refine G_go rfl rfl ?_
        refine G_brF rfl rfl rfl ?_
        refine G_go rfl rfl ?_
        refine G_rf rfl rfl (by decide) (hR 2 7 119 rfl) ?_
        refine G_go rfl rfl ?_
        refine G_go rfl rfl ?_
        refine G_ir (n := 7) rfl rfl (by decide) (by decide) (by decide) ?_
        refine G_go rfl rfl ?_
        refine G_go rfl rfl ?_
        refine G_iw (n := 7) rfl rfl (by decide) (by decide) (by decide) ?_
        have hR := refs_up (a := 119) (k := 6) (x := wr ((s 119 6) + 1)) hR rfl
        refine G_go rfl rfl ?_
        refine G_ret rfl rfl ?_
        refine G_go rfl rfl ?_
        exact G_ret rfl rfl h
    · have h := h.2 c2
      refine G_go rfl rfl ?_
      refine G_go rfl rfl ?_
      refine G_ret rfl rfl ?_
      refine G_go rfl rfl ?_
      refine G_go rfl rfl ?_
      refine G_brT rfl rfl rfl ?_
      refine G_go rfl rfl ?_
      refine G_brF rfl rfl rfl ?_
      refine G_go rfl rfl ?_
      refine G_go rfl rfl ?_
      refine G_call rfl rfl ?_
      refine G_go rfl rfl ?_
      refine G_go rfl rfl ?_
      refine G_go rfl rfl ?_
      refine G_go rfl rfl ?_
      refine G_brF rfl rfl rfl ?_
      refine G_go rfl rfl ?_
      refine G_go rfl rfl ?_
      refine G_rf rfl rfl (by decide) (hR 2 7 119 rfl) ?_
      refine G_go rfl rfl ?_
      refine G_brF rfl rfl rfl ?_
      refine G_go rfl rfl ?_
      refine G_rf rfl rfl (by decide) (hR 2 7 119 rfl) ?_
      refine G_go rfl rfl ?_
      refine G_go rfl rfl ?_
      refine G_ir (n := 7) rfl rfl (by decide) (by decide) (by decide) ?_
      refine G_go rfl rfl ?_
      refine G_go rfl rfl ?_
      refine G_iw (n := 7) rfl rfl (by decide) (by decide) (by decide) ?_
      have hR := refs_up (a := 119) (k := 6) (x := wr ((s 119 6) + 1)) hR rfl
      refine G_go rfl rfl ?_
      refine G_ret rfl rfl ?_
      refine G_go rfl rfl ?_
      exact G_ret rfl rfl h
  · have h := h.2 c1
    refine G_go rfl rfl ?_
    refine G_ret rfl rfl ?_
    refine G_go rfl rfl ?_
    refine G_go rfl rfl ?_
    refine G_brT rfl rfl rfl ?_
    refine G_go rfl rfl ?_
    refine G_brF rfl rfl rfl ?_
    refine G_go rfl rfl ?_
    refine G_go rfl rfl ?_
    refine G_call rfl rfl ?_
    refine G_go rfl rfl ?_
    refine G_go rfl rfl ?_
    refine G_go rfl rfl ?_
    refine G_go rfl rfl ?_
    refine G_brF rfl rfl rfl ?_
    refine G_go rfl rfl ?_
    refine G_go rfl rfl ?_
    refine G_rf rfl rfl (by decide) (hR 2 7 119 rfl) ?_
    refine G_go rfl rfl ?_
    refine G_brF rfl rfl rfl ?_
    refine G_go rfl rfl ?_
    refine G_rf rfl rfl (by decide) (hR 2 7 119 rfl) ?_
    refine G_go rfl rfl ?_
    refine G_go rfl rfl ?_
    refine G_ir (n := 7) rfl rfl (by decide) (by decide) (by decide) ?_
    refine G_go rfl rfl ?_
    refine G_go rfl rfl ?_
    refine G_iw (n := 7) rfl rfl (by decide) (by decide) (by decide) ?_
    have hR := refs_up (a := 119) (k := 4) (x := wr ((s 119 4) + 1)) hR rfl
    refine G_go rfl rfl ?_
    refine G_ret rfl rfl ?_
    refine G_go rfl rfl ?_
    exact G_ret rfl rfl h
theorem sb_X7_row_0 (n : Nat) (s : Nat → Nat → Int) (Q : List Vl → Sto → Prop) (a0 : Int) (hR : refs s)
    (h : (0 ≤ a0 → (99 < a0 → Q [(1, (-6))] (n, upS (upS s 120 10 0) 129 6 (wr ((s 129 6) + 1)))) ∧ (a0 ≤ 99 → (s 120 31 ≠ 12 → (0 ≤ s 120 31 ∧ s 120 31 < 12) ∧ (Q [(1, wr ((s 120 31) + 1))] (n, upS (upS (upS s 120 10 0) 139 ((s 120 31).toNat) a0) 120 31 (wr ((s 120 31) + 1))))) ∧ (s 120 31 = 12 → Q [(1, (-6))] (n, upS (upS s 120 10 0) 129 6 (wr ((s 129 6) + 1)))))) ∧ (a0 < 0 → Q [(1, (-4))] (n, upS (upS s 120 10 0) 129 4 (wr ((s 129 4) + 1))))) :
    G 120 140 212 0 [(3, 120), (1, a0)] [] (n, s) Q := by
  refine G_go rfl rfl ?_
  refine G_go rfl rfl ?_
  refine G_wr rfl rfl (by decide) ?_
  have hR := refs_up (a := 120) (k := 10) (x := 0) hR rfl
  refine G_go rfl rfl ?_
  refine G_ge rfl rfl (fun c1 => ?_) (fun c1 => ?_)
  · have h := h.1 c1
    refine G_go rfl rfl ?_
    refine G_go rfl rfl ?_
    refine G_gt rfl rfl (fun c2 => ?_) (fun c2 => ?_)
    · have h := h.1 c2
      refine G_go rfl rfl ?_
      refine G_go rfl rfl ?_
      refine G_call rfl rfl ?_
      refine G_go rfl rfl ?_
      refine G_rf rfl rfl (by decide) (hR 120 11 129 rfl) ?_
      refine G_go rfl rfl ?_
      refine G_go rfl rfl ?_
      refine G_go rfl rfl ?_
      refine G_ir (n := 7) rfl rfl (by decide) (by decide) (by decide) ?_
      refine G_go rfl rfl ?_
      refine G_go rfl rfl ?_
      refine G_iw (n := 7) rfl rfl (by decide) (by decide) (by decide) ?_
      have hR := refs_up (a := 129) (k := 6) (x := wr ((s 129 6) + 1)) hR rfl
      refine G_go rfl rfl ?_
      refine G_ret rfl rfl ?_
      exact G_ret rfl rfl h
    · have h := h.2 c2
      refine G_go rfl rfl ?_
      refine G_rd rfl rfl (by decide) ?_
      refine G_go rfl rfl ?_
      refine G_ne rfl rfl (fun c3 => ?_) (fun c3 => ?_)
      · have h := h.1 c3
        refine G_go rfl rfl ?_
        refine G_rf rfl rfl (by decide) (hR 120 30 139 rfl) ?_
        refine G_go rfl rfl ?_
        refine G_rd rfl rfl (by decide) ?_
        refine G_go rfl rfl ?_
        obtain ⟨g4, h⟩ := h
        refine G_iw (n := 12) rfl rfl (by decide) (by decide) g4 ?_
        have hR := refs_up (a := 139) (k := (s 120 31).toNat) (x := a0) hR rfl
        refine G_go rfl rfl ?_
        refine G_go rfl rfl ?_
        refine G_rd rfl rfl (by decide) ?_
        refine G_go rfl rfl ?_
        refine G_go rfl rfl ?_
        refine G_wr rfl rfl (by decide) ?_
        have hR := refs_up (a := 120) (k := 31) (x := wr ((s 120 31) + 1)) hR rfl
        refine G_go rfl rfl ?_
        refine G_rdv (v := wr ((s 120 31) + 1)) rfl rfl (by decide) (by simp [upS]) ?_
        exact G_ret rfl rfl h
      · have h := h.2 c3
        refine G_go rfl rfl ?_
        refine G_go rfl rfl ?_
        refine G_call rfl rfl ?_
        refine G_go rfl rfl ?_
        refine G_rf rfl rfl (by decide) (hR 120 11 129 rfl) ?_
        refine G_go rfl rfl ?_
        refine G_go rfl rfl ?_
        refine G_go rfl rfl ?_
        refine G_ir (n := 7) rfl rfl (by decide) (by decide) (by decide) ?_
        refine G_go rfl rfl ?_
        refine G_go rfl rfl ?_
        refine G_iw (n := 7) rfl rfl (by decide) (by decide) (by decide) ?_
        have hR := refs_up (a := 129) (k := 6) (x := wr ((s 129 6) + 1)) hR rfl
        refine G_go rfl rfl ?_
        refine G_ret rfl rfl ?_
        exact G_ret rfl rfl h
  · have h := h.2 c1
    refine G_go rfl rfl ?_
    refine G_go rfl rfl ?_
    refine G_call rfl rfl ?_
    refine G_go rfl rfl ?_
    refine G_rf rfl rfl (by decide) (hR 120 11 129 rfl) ?_
    refine G_go rfl rfl ?_
    refine G_go rfl rfl ?_
    refine G_go rfl rfl ?_
    refine G_ir (n := 7) rfl rfl (by decide) (by decide) (by decide) ?_
    refine G_go rfl rfl ?_
    refine G_go rfl rfl ?_
    refine G_iw (n := 7) rfl rfl (by decide) (by decide) (by decide) ?_
    have hR := refs_up (a := 129) (k := 4) (x := wr ((s 129 4) + 1)) hR rfl
    refine G_go rfl rfl ?_
    refine G_ret rfl rfl ?_
    exact G_ret rfl rfl h
theorem sb_X6_clear_0 (n : Nat) (s : Nat → Nat → Int) (Q : List Vl → Sto → Prop) (hR : refs s)
    (h : Q [(1, s 117 1)] (n, upS s 117 1 0)) :
    G 2 120 75 0 [(3, 2), (0, 0)] [] (n, s) Q := by
  refine G_go rfl rfl ?_
  refine G_rf rfl rfl (by decide) (hR 2 6 117 rfl) ?_
  refine G_call rfl rfl ?_
  refine G_go rfl rfl ?_
  refine G_rd rfl rfl (by decide) ?_
  refine G_ret rfl rfl ?_
  refine G_go rfl rfl ?_
  refine G_go rfl rfl ?_
  refine G_rf rfl rfl (by decide) (hR 2 6 117 rfl) ?_
  refine G_call rfl rfl ?_
  refine G_go rfl rfl ?_
  refine G_go rfl rfl ?_
  refine G_wr rfl rfl (by decide) ?_
  have hR := refs_up (a := 117) (k := 1) (x := 0) hR rfl
  refine G_ret rfl rfl ?_
  refine G_go rfl rfl ?_
  exact G_ret rfl rfl h
theorem sb_X7_clear_0 (n : Nat) (s : Nat → Nat → Int) (Q : List Vl → Sto → Prop) (hR : refs s)
    (h : Q [(1, s 120 31)] (n, upS (upS s 120 10 0) 120 31 0)) :
    G 120 140 164 0 [(3, 120), (0, 0)] [] (n, s) Q := by
  refine G_go rfl rfl ?_
  refine G_go rfl rfl ?_
  refine G_wr rfl rfl (by decide) ?_
  have hR := refs_up (a := 120) (k := 10) (x := 0) hR rfl
  refine G_go rfl rfl ?_
  refine G_rd rfl rfl (by decide) ?_
  refine G_go rfl rfl ?_
  refine G_go rfl rfl ?_
  refine G_go rfl rfl ?_
  refine G_wr rfl rfl (by decide) ?_
  have hR := refs_up (a := 120) (k := 31) (x := 0) hR rfl
  refine G_go rfl rfl ?_
  exact G_ret rfl rfl h
theorem sb_X6_person_0 (n : Nat) (s : Nat → Nat → Int) (Q : List Vl → Sto → Prop) (a0 : Int) (a1 : Int) (a2 : Int) (hR : refs s)
    (h : (a0 < 0 → Q [(1, (-2))] (n, upS s 119 2 (wr ((s 119 2) + 1)))) ∧ (0 ≤ a0 → (a0 ≤ 5 → (a1 < 0 → Q [(1, (-4))] (n, upS s 119 4 (wr ((s 119 4) + 1)))) ∧ (0 ≤ a1 → (0 ≤ a2 → (9 < a1 → Q [(1, (-6))] (n, upS s 119 6 (wr ((s 119 6) + 1)))) ∧ (a1 ≤ 9 → (99 < a2 → Q [(1, (-6))] (n, upS s 119 6 (wr ((s 119 6) + 1)))) ∧ (a2 ≤ 99 → (s 3 9 < 6 → (0 ≤ s 3 9 ∧ s 3 9 < 6) ∧ (Q [(1, wr ((wr ((s 3 9) + 1)) - 1))] (n, upS (upS (upS (upS (upS (upS (upS (upS (upS (upS s 33 2 0) 4 ((s 3 9).toNat) a0) 5 ((s 3 9).toNat) a1) 6 ((s 3 9).toNat) a2) 7 ((s 3 9).toNat) 0) 8 ((s 3 9).toNat) 50) 9 ((s 3 9).toNat) 0) 10 ((s 3 9).toNat) 0) 11 ((s 3 9).toNat) (-1)) 3 9 (wr ((s 3 9) + 1))))) ∧ (6 ≤ s 3 9 → Q [(1, (-6))] (n, upS s 119 6 (wr ((s 119 6) + 1))))))) ∧ (a2 < 0 → Q [(1, (-4))] (n, upS s 119 4 (wr ((s 119 4) + 1)))))) ∧ (5 < a0 → Q [(1, (-2))] (n, upS s 119 2 (wr ((s 119 2) + 1)))))) :
    G 2 120 115 0 [(3, 2), (1, a0), (1, a1), (1, a2), (0, 0)] [] (n, s) Q := by
  refine G_go rfl rfl ?_
  refine G_go rfl rfl ?_
  refine G_call rfl rfl ?_
  refine G_go rfl rfl ?_
  refine G_lt rfl rfl (fun c1 => ?_) (fun c1 => ?_)
  · have h := h.1 c1
    refine G_go rfl rfl ?_
    refine G_go rfl rfl ?_
    refine G_ret rfl rfl ?_
    refine G_go rfl rfl ?_
    refine G_go rfl rfl ?_
    refine G_brT rfl rfl rfl ?_
    refine G_go rfl rfl ?_
    refine G_brT rfl rfl rfl ?_
    refine G_go rfl rfl ?_
    refine G_brF rfl rfl rfl ?_
    refine G_go rfl rfl ?_
    refine G_go rfl rfl ?_
    refine G_call rfl rfl ?_
    refine G_go rfl rfl ?_
    refine G_go rfl rfl ?_
    refine G_go rfl rfl ?_
    refine G_go rfl rfl ?_
    refine G_brF rfl rfl rfl ?_
    refine G_go rfl rfl ?_
    refine G_go rfl rfl ?_
    refine G_rf rfl rfl (by decide) (hR 2 7 119 rfl) ?_
    refine G_go rfl rfl ?_
    refine G_brF rfl rfl rfl ?_
    refine G_go rfl rfl ?_
    refine G_rf rfl rfl (by decide) (hR 2 7 119 rfl) ?_
    refine G_go rfl rfl ?_
    refine G_go rfl rfl ?_
    refine G_ir (n := 7) rfl rfl (by decide) (by decide) (by decide) ?_
    refine G_go rfl rfl ?_
    refine G_go rfl rfl ?_
    refine G_iw (n := 7) rfl rfl (by decide) (by decide) (by decide) ?_
    have hR := refs_up (a := 119) (k := 2) (x := wr ((s 119 2) + 1)) hR rfl
    refine G_go rfl rfl ?_
    refine G_ret rfl rfl ?_
    exact G_ret rfl rfl h
  · have h := h.2 c1
    refine G_go rfl rfl ?_
    refine G_go rfl rfl ?_
    refine G_le rfl rfl (fun c2 => ?_) (fun c2 => ?_)
    · have h := h.1 c2
      refine G_go rfl rfl ?_
      refine G_ret rfl rfl ?_
      refine G_go rfl rfl ?_
      refine G_go rfl rfl ?_
      refine G_brF rfl rfl rfl ?_
      refine G_go rfl rfl ?_
      refine G_lt rfl rfl (fun c3 => ?_) (fun c3 => ?_)
      · have h := h.1 c3
        refine G_go rfl rfl ?_
        refine G_go rfl rfl ?_
        refine G_go rfl rfl ?_
        refine G_brT rfl rfl rfl ?_
        refine G_go rfl rfl ?_
        refine G_brF rfl rfl rfl ?_
        refine G_go rfl rfl ?_
        refine G_go rfl rfl ?_
        refine G_call rfl rfl ?_
        refine G_go rfl rfl ?_
        refine G_go rfl rfl ?_
        refine G_go rfl rfl ?_
        refine G_go rfl rfl ?_
        refine G_brF rfl rfl rfl ?_
        refine G_go rfl rfl ?_
        refine G_go rfl rfl ?_
        refine G_rf rfl rfl (by decide) (hR 2 7 119 rfl) ?_
        refine G_go rfl rfl ?_
        refine G_brF rfl rfl rfl ?_
        refine G_go rfl rfl ?_
        refine G_rf rfl rfl (by decide) (hR 2 7 119 rfl) ?_
        refine G_go rfl rfl ?_
        refine G_go rfl rfl ?_
        refine G_ir (n := 7) rfl rfl (by decide) (by decide) (by decide) ?_
        refine G_go rfl rfl ?_
        refine G_go rfl rfl ?_
        refine G_iw (n := 7) rfl rfl (by decide) (by decide) (by decide) ?_
        have hR := refs_up (a := 119) (k := 4) (x := wr ((s 119 4) + 1)) hR rfl
        refine G_go rfl rfl ?_
        refine G_ret rfl rfl ?_
        exact G_ret rfl rfl h
      · have h := h.2 c3
        refine G_go rfl rfl ?_
        refine G_ge rfl rfl (fun c4 => ?_) (fun c4 => ?_)
        · have h := h.1 c4
          refine G_go rfl rfl ?_
          refine G_brF rfl rfl rfl ?_
          refine G_go rfl rfl ?_
          refine G_go rfl rfl ?_
          refine G_gt rfl rfl (fun c5 => ?_) (fun c5 => ?_)
          · have h := h.1 c5
            refine G_go rfl rfl ?_
            refine G_go rfl rfl ?_
            refine G_go rfl rfl ?_
            refine G_brF rfl rfl rfl ?_
            refine G_go rfl rfl ?_
            refine G_go rfl rfl ?_
            refine G_call rfl rfl ?_
            refine G_go rfl rfl ?_
            refine G_go rfl rfl ?_
            refine G_go rfl rfl ?_
            refine G_go rfl rfl ?_
            refine G_brF rfl rfl rfl ?_
            refine G_go rfl rfl ?_
            refine G_go rfl rfl ?_
            refine G_rf rfl rfl (by decide) (hR 2 7 119 rfl) ?_
            refine G_go rfl rfl ?_
            refine G_brF rfl rfl rfl ?_
            refine G_go rfl rfl ?_
            refine G_rf rfl rfl (by decide) (hR 2 7 119 rfl) ?_
            refine G_go rfl rfl ?_
            refine G_go rfl rfl ?_
            refine G_ir (n := 7) rfl rfl (by decide) (by decide) (by decide) ?_
            refine G_go rfl rfl ?_
            refine G_go rfl rfl ?_
            refine G_iw (n := 7) rfl rfl (by decide) (by decide) (by decide) ?_
            have hR := refs_up (a := 119) (k := 6) (x := wr ((s 119 6) + 1)) hR rfl
            refine G_go rfl rfl ?_
            refine G_ret rfl rfl ?_
            exact G_ret rfl rfl h
          · have h := h.2 c5
            refine G_go rfl rfl ?_
            refine G_go rfl rfl ?_
            refine G_gt rfl rfl (fun c6 => ?_) (fun c6 => ?_)
            · have h := h.1 c6
              refine G_go rfl rfl ?_
              refine G_go rfl rfl ?_
              refine G_go rfl rfl ?_
              refine G_brF rfl rfl rfl ?_
              refine G_go rfl rfl ?_
              refine G_go rfl rfl ?_
              refine G_call rfl rfl ?_
              refine G_go rfl rfl ?_
              refine G_go rfl rfl ?_
              refine G_go rfl rfl ?_
              refine G_go rfl rfl ?_
              refine G_brF rfl rfl rfl ?_
              refine G_go rfl rfl ?_
              refine G_go rfl rfl ?_
              refine G_rf rfl rfl (by decide) (hR 2 7 119 rfl) ?_
              refine G_go rfl rfl ?_
              refine G_brF rfl rfl rfl ?_
              refine G_go rfl rfl ?_
              refine G_rf rfl rfl (by decide) (hR 2 7 119 rfl) ?_
              refine G_go rfl rfl ?_
              refine G_go rfl rfl ?_
              refine G_ir (n := 7) rfl rfl (by decide) (by decide) (by decide) ?_
              refine G_go rfl rfl ?_
              refine G_go rfl rfl ?_
              refine G_iw (n := 7) rfl rfl (by decide) (by decide) (by decide) ?_
              have hR := refs_up (a := 119) (k := 6) (x := wr ((s 119 6) + 1)) hR rfl
              refine G_go rfl rfl ?_
              refine G_ret rfl rfl ?_
              exact G_ret rfl rfl h
            · have h := h.2 c6
              refine G_go rfl rfl ?_
              refine G_rf rfl rfl (by decide) (hR 2 0 3 rfl) ?_
              refine G_call rfl rfl ?_
              refine G_go rfl rfl ?_
              refine G_rd rfl rfl (by decide) ?_
              refine G_go rfl rfl ?_
              refine G_lt rfl rfl (fun c7 => ?_) (fun c7 => ?_)
              · have h := h.1 c7
                refine G_go rfl rfl ?_
                refine G_ret rfl rfl ?_
                refine G_brT rfl rfl rfl ?_
                refine G_go rfl rfl ?_
                refine G_brT rfl rfl rfl ?_
                refine G_go rfl rfl ?_
                refine G_rf rfl rfl (by decide) (hR 2 4 33 rfl) ?_
                refine G_call rfl rfl ?_
                refine G_go rfl rfl ?_
                refine G_go rfl rfl ?_
                refine G_wr rfl rfl (by decide) ?_
                have hR := refs_up (a := 33) (k := 2) (x := 0) hR rfl
                refine G_ret rfl rfl ?_
                refine G_go rfl rfl ?_
                refine G_rf rfl rfl (by decide) (hR 2 0 3 rfl) ?_
                refine G_go rfl rfl ?_
                refine G_go rfl rfl ?_
                refine G_go rfl rfl ?_
                refine G_call rfl rfl ?_
                refine G_go rfl rfl ?_
                refine G_call rfl rfl ?_
                refine G_go rfl rfl ?_
                refine G_rd rfl rfl (by decide) ?_
                refine G_go rfl rfl ?_
                refine G_lt rfl rfl (fun _ => ?_) (fun hc => absurd (show 6 ≤ s 3 9 from hc) (by omega))
                refine G_go rfl rfl ?_
                refine G_ret rfl rfl ?_
                refine G_brT rfl rfl rfl ?_
                refine G_go rfl rfl ?_
                refine G_rf rfl rfl (by decide) (hR 3 0 4 rfl) ?_
                refine G_go rfl rfl ?_
                refine G_rd rfl rfl (by decide) ?_
                refine G_go rfl rfl ?_
                obtain ⟨g8, h⟩ := h
                refine G_iw (n := 6) rfl rfl (by decide) (by decide) g8 ?_
                have hR := refs_up (a := 4) (k := (s 3 9).toNat) (x := a0) hR rfl
                refine G_go rfl rfl ?_
                refine G_rf rfl rfl (by decide) (hR 3 1 5 rfl) ?_
                refine G_go rfl rfl ?_
                refine G_rd rfl rfl (by decide) ?_
                refine G_go rfl rfl ?_
                refine G_iw (n := 6) rfl rfl (by decide) (by decide) g8 ?_
                have hR := refs_up (a := 5) (k := (s 3 9).toNat) (x := a1) hR rfl
                refine G_go rfl rfl ?_
                refine G_rf rfl rfl (by decide) (hR 3 2 6 rfl) ?_
                refine G_go rfl rfl ?_
                refine G_rd rfl rfl (by decide) ?_
                refine G_go rfl rfl ?_
                refine G_iw (n := 6) rfl rfl (by decide) (by decide) g8 ?_
                have hR := refs_up (a := 6) (k := (s 3 9).toNat) (x := a2) hR rfl
                refine G_go rfl rfl ?_
                refine G_rf rfl rfl (by decide) (hR 3 3 7 rfl) ?_
                refine G_go rfl rfl ?_
                refine G_rd rfl rfl (by decide) ?_
                refine G_go rfl rfl ?_
                refine G_iw (n := 6) rfl rfl (by decide) (by decide) g8 ?_
                have hR := refs_up (a := 7) (k := (s 3 9).toNat) (x := 0) hR rfl
                refine G_go rfl rfl ?_
                refine G_rf rfl rfl (by decide) (hR 3 4 8 rfl) ?_
                refine G_go rfl rfl ?_
                refine G_rd rfl rfl (by decide) ?_
                refine G_go rfl rfl ?_
                refine G_iw (n := 6) rfl rfl (by decide) (by decide) g8 ?_
                have hR := refs_up (a := 8) (k := (s 3 9).toNat) (x := 50) hR rfl
                refine G_go rfl rfl ?_
                refine G_rf rfl rfl (by decide) (hR 3 5 9 rfl) ?_
                refine G_go rfl rfl ?_
                refine G_rd rfl rfl (by decide) ?_
                refine G_go rfl rfl ?_
                refine G_zw (n := 6) rfl rfl (by decide) (by decide) g8 (by decide) ?_
                have hR := refs_up (a := 9) (k := (s 3 9).toNat) (x := 0) hR rfl
                refine G_go rfl rfl ?_
                refine G_rf rfl rfl (by decide) (hR 3 6 10 rfl) ?_
                refine G_go rfl rfl ?_
                refine G_rd rfl rfl (by decide) ?_
                refine G_go rfl rfl ?_
                refine G_iw (n := 6) rfl rfl (by decide) (by decide) g8 ?_
                have hR := refs_up (a := 10) (k := (s 3 9).toNat) (x := 0) hR rfl
                refine G_go rfl rfl ?_
                refine G_rf rfl rfl (by decide) (hR 3 7 11 rfl) ?_
                refine G_go rfl rfl ?_
                refine G_rd rfl rfl (by decide) ?_
                refine G_go rfl rfl ?_
                refine G_iw (n := 6) rfl rfl (by decide) (by decide) g8 ?_
                have hR := refs_up (a := 11) (k := (s 3 9).toNat) (x := (-1)) hR rfl
                refine G_go rfl rfl ?_
                refine G_go rfl rfl ?_
                refine G_rd rfl rfl (by decide) ?_
                refine G_go rfl rfl ?_
                refine G_go rfl rfl ?_
                refine G_wr rfl rfl (by decide) ?_
                have hR := refs_up (a := 3) (k := 9) (x := wr ((s 3 9) + 1)) hR rfl
                refine G_ret rfl rfl ?_
                refine G_go rfl rfl ?_
                refine G_rf rfl rfl (by decide) (hR 2 0 3 rfl) ?_
                refine G_rdv (v := wr ((s 3 9) + 1)) rfl rfl (by decide) (by simp [upS]) ?_
                refine G_go rfl rfl ?_
                refine G_go rfl rfl ?_
                exact G_ret rfl rfl h
              · have h := h.2 c7
                refine G_go rfl rfl ?_
                refine G_go rfl rfl ?_
                refine G_ret rfl rfl ?_
                refine G_brF rfl rfl rfl ?_
                refine G_go rfl rfl ?_
                refine G_go rfl rfl ?_
                refine G_go rfl rfl ?_
                refine G_brF rfl rfl rfl ?_
                refine G_go rfl rfl ?_
                refine G_go rfl rfl ?_
                refine G_call rfl rfl ?_
                refine G_go rfl rfl ?_
                refine G_go rfl rfl ?_
                refine G_go rfl rfl ?_
                refine G_go rfl rfl ?_
                refine G_brF rfl rfl rfl ?_
                refine G_go rfl rfl ?_
                refine G_go rfl rfl ?_
                refine G_rf rfl rfl (by decide) (hR 2 7 119 rfl) ?_
                refine G_go rfl rfl ?_
                refine G_brF rfl rfl rfl ?_
                refine G_go rfl rfl ?_
                refine G_rf rfl rfl (by decide) (hR 2 7 119 rfl) ?_
                refine G_go rfl rfl ?_
                refine G_go rfl rfl ?_
                refine G_ir (n := 7) rfl rfl (by decide) (by decide) (by decide) ?_
                refine G_go rfl rfl ?_
                refine G_go rfl rfl ?_
                refine G_iw (n := 7) rfl rfl (by decide) (by decide) (by decide) ?_
                have hR := refs_up (a := 119) (k := 6) (x := wr ((s 119 6) + 1)) hR rfl
                refine G_go rfl rfl ?_
                refine G_ret rfl rfl ?_
                exact G_ret rfl rfl h
        · have h := h.2 c4
          refine G_go rfl rfl ?_
          refine G_go rfl rfl ?_
          refine G_go rfl rfl ?_
          refine G_brT rfl rfl rfl ?_
          refine G_go rfl rfl ?_
          refine G_brF rfl rfl rfl ?_
          refine G_go rfl rfl ?_
          refine G_go rfl rfl ?_
          refine G_call rfl rfl ?_
          refine G_go rfl rfl ?_
          refine G_go rfl rfl ?_
          refine G_go rfl rfl ?_
          refine G_go rfl rfl ?_
          refine G_brF rfl rfl rfl ?_
          refine G_go rfl rfl ?_
          refine G_go rfl rfl ?_
          refine G_rf rfl rfl (by decide) (hR 2 7 119 rfl) ?_
          refine G_go rfl rfl ?_
          refine G_brF rfl rfl rfl ?_
          refine G_go rfl rfl ?_
          refine G_rf rfl rfl (by decide) (hR 2 7 119 rfl) ?_
          refine G_go rfl rfl ?_
          refine G_go rfl rfl ?_
          refine G_ir (n := 7) rfl rfl (by decide) (by decide) (by decide) ?_
          refine G_go rfl rfl ?_
          refine G_go rfl rfl ?_
          refine G_iw (n := 7) rfl rfl (by decide) (by decide) (by decide) ?_
          have hR := refs_up (a := 119) (k := 4) (x := wr ((s 119 4) + 1)) hR rfl
          refine G_go rfl rfl ?_
          refine G_ret rfl rfl ?_
          exact G_ret rfl rfl h
    · have h := h.2 c2
      refine G_go rfl rfl ?_
      refine G_go rfl rfl ?_
      refine G_ret rfl rfl ?_
      refine G_go rfl rfl ?_
      refine G_go rfl rfl ?_
      refine G_brT rfl rfl rfl ?_
      refine G_go rfl rfl ?_
      refine G_brT rfl rfl rfl ?_
      refine G_go rfl rfl ?_
      refine G_brF rfl rfl rfl ?_
      refine G_go rfl rfl ?_
      refine G_go rfl rfl ?_
      refine G_call rfl rfl ?_
      refine G_go rfl rfl ?_
      refine G_go rfl rfl ?_
      refine G_go rfl rfl ?_
      refine G_go rfl rfl ?_
      refine G_brF rfl rfl rfl ?_
      refine G_go rfl rfl ?_
      refine G_go rfl rfl ?_
      refine G_rf rfl rfl (by decide) (hR 2 7 119 rfl) ?_
      refine G_go rfl rfl ?_
      refine G_brF rfl rfl rfl ?_
      refine G_go rfl rfl ?_
      refine G_rf rfl rfl (by decide) (hR 2 7 119 rfl) ?_
      refine G_go rfl rfl ?_
      refine G_go rfl rfl ?_
      refine G_ir (n := 7) rfl rfl (by decide) (by decide) (by decide) ?_
      refine G_go rfl rfl ?_
      refine G_go rfl rfl ?_
      refine G_iw (n := 7) rfl rfl (by decide) (by decide) (by decide) ?_
      have hR := refs_up (a := 119) (k := 2) (x := wr ((s 119 2) + 1)) hR rfl
      refine G_go rfl rfl ?_
      refine G_ret rfl rfl ?_
      exact G_ret rfl rfl h
theorem sb_X7_person_0 (n : Nat) (s : Nat → Nat → Int) (Q : List Vl → Sto → Prop) (a0 : Int) (a1 : Int) (a2 : Int) (hR : refs s)
    (h : (a0 < 0 → Q [(1, (-2))] (n, upS (upS s 120 10 0) 129 2 (wr ((s 129 2) + 1)))) ∧ (a0 ≥ 0 → (a0 > 5 → Q [(1, (-2))] (n, upS (upS s 120 10 0) 129 2 (wr ((s 129 2) + 1)))) ∧ (a0 ≤ 5 → (a1 < 0 → Q [(1, (-4))] (n, upS (upS s 120 10 0) 129 4 (wr ((s 129 4) + 1)))) ∧ (0 ≤ a1 → (0 ≤ a2 → (9 < a1 → Q [(1, (-6))] (n, upS (upS s 120 10 0) 129 6 (wr ((s 129 6) + 1)))) ∧ (a1 ≤ 9 → (99 < a2 → Q [(1, (-6))] (n, upS (upS s 120 10 0) 129 6 (wr ((s 129 6) + 1)))) ∧ (a2 ≤ 99 → (s 120 0 ≠ 6 → (0 ≤ s 120 0 ∧ s 120 0 < 6) ∧ (Q [(1, wr ((wr ((s 120 0) + 1)) - 1))] (n, upS (upS (upS (upS (upS (upS (upS (upS (upS (upS (upS s 120 10 0) 121 ((s 120 0).toNat) a0) 122 ((s 120 0).toNat) a1) 123 ((s 120 0).toNat) a2) 124 ((s 120 0).toNat) 0) 125 ((s 120 0).toNat) 50) 126 ((s 120 0).toNat) 0) 127 ((s 120 0).toNat) 0) 128 ((s 120 0).toNat) (-9)) 120 0 (wr ((s 120 0) + 1))) 120 29 0))) ∧ (s 120 0 = 6 → Q [(1, (-6))] (n, upS (upS s 120 10 0) 129 6 (wr ((s 129 6) + 1))))))) ∧ (a2 < 0 → Q [(1, (-4))] (n, upS (upS s 120 10 0) 129 4 (wr ((s 129 4) + 1)))))))) :
    G 120 140 202 0 [(3, 120), (1, a0), (1, a1), (1, a2), (0, 0)] [] (n, s) Q := by
  refine G_go rfl rfl ?_
  refine G_go rfl rfl ?_
  refine G_wr rfl rfl (by decide) ?_
  have hR := refs_up (a := 120) (k := 10) (x := 0) hR rfl
  refine G_go rfl rfl ?_
  refine G_go rfl rfl ?_
  refine G_go rfl rfl ?_
  refine G_go rfl rfl ?_
  refine G_go rfl rfl ?_
  refine G_go rfl rfl ?_
  refine G_call rfl rfl ?_
  refine G_go rfl rfl ?_
  refine G_go rfl rfl ?_
  refine G_go rfl rfl ?_
  refine G_lt rfl rfl (fun c1 => ?_) (fun c1 => ?_)
  · have c1 := xl_lt c1
    have h := h.1 c1
    refine G_go rfl rfl ?_
    refine G_ret rfl rfl ?_
    refine G_brF rfl rfl rfl ?_
    refine G_go rfl rfl ?_
    refine G_go rfl rfl ?_
    refine G_go rfl rfl ?_
    refine G_go rfl rfl ?_
    refine G_brF rfl rfl rfl ?_
    refine G_go rfl rfl ?_
    refine G_go rfl rfl ?_
    refine G_call rfl rfl ?_
    refine G_go rfl rfl ?_
    refine G_rf rfl rfl (by decide) (hR 120 11 129 rfl) ?_
    refine G_go rfl rfl ?_
    refine G_go rfl rfl ?_
    refine G_go rfl rfl ?_
    refine G_ir (n := 7) rfl rfl (by decide) (by decide) (by decide) ?_
    refine G_go rfl rfl ?_
    refine G_go rfl rfl ?_
    refine G_iw (n := 7) rfl rfl (by decide) (by decide) (by decide) ?_
    have hR := refs_up (a := 129) (k := 2) (x := wr ((s 129 2) + 1)) hR rfl
    refine G_go rfl rfl ?_
    refine G_ret rfl rfl ?_
    exact G_ret rfl rfl h
  · have c1 := xl_ge c1
    have h := h.2 c1
    refine G_go rfl rfl ?_
    refine G_go rfl rfl ?_
    refine G_go rfl rfl ?_
    refine G_gt rfl rfl (fun c2 => ?_) (fun c2 => ?_)
    · have c2 := xl_gt c2
      have h := h.1 c2
      refine G_go rfl rfl ?_
      refine G_ret rfl rfl ?_
      refine G_brF rfl rfl rfl ?_
      refine G_go rfl rfl ?_
      refine G_go rfl rfl ?_
      refine G_go rfl rfl ?_
      refine G_go rfl rfl ?_
      refine G_brF rfl rfl rfl ?_
      refine G_go rfl rfl ?_
      refine G_go rfl rfl ?_
      refine G_call rfl rfl ?_
      refine G_go rfl rfl ?_
      refine G_rf rfl rfl (by decide) (hR 120 11 129 rfl) ?_
      refine G_go rfl rfl ?_
      refine G_go rfl rfl ?_
      refine G_go rfl rfl ?_
      refine G_ir (n := 7) rfl rfl (by decide) (by decide) (by decide) ?_
      refine G_go rfl rfl ?_
      refine G_go rfl rfl ?_
      refine G_iw (n := 7) rfl rfl (by decide) (by decide) (by decide) ?_
      have hR := refs_up (a := 129) (k := 2) (x := wr ((s 129 2) + 1)) hR rfl
      refine G_go rfl rfl ?_
      refine G_ret rfl rfl ?_
      exact G_ret rfl rfl h
    · have c2 := xl_le c2
      have h := h.2 c2
      refine G_go rfl rfl ?_
      refine G_go rfl rfl ?_
      refine G_ret rfl rfl ?_
      refine G_brT rfl rfl rfl ?_
      refine G_go rfl rfl ?_
      refine G_lt rfl rfl (fun c3 => ?_) (fun c3 => ?_)
      · have h := h.1 c3
        refine G_go rfl rfl ?_
        refine G_go rfl rfl ?_
        refine G_go rfl rfl ?_
        refine G_go rfl rfl ?_
        refine G_brF rfl rfl rfl ?_
        refine G_go rfl rfl ?_
        refine G_go rfl rfl ?_
        refine G_call rfl rfl ?_
        refine G_go rfl rfl ?_
        refine G_rf rfl rfl (by decide) (hR 120 11 129 rfl) ?_
        refine G_go rfl rfl ?_
        refine G_go rfl rfl ?_
        refine G_go rfl rfl ?_
        refine G_ir (n := 7) rfl rfl (by decide) (by decide) (by decide) ?_
        refine G_go rfl rfl ?_
        refine G_go rfl rfl ?_
        refine G_iw (n := 7) rfl rfl (by decide) (by decide) (by decide) ?_
        have hR := refs_up (a := 129) (k := 4) (x := wr ((s 129 4) + 1)) hR rfl
        refine G_go rfl rfl ?_
        refine G_ret rfl rfl ?_
        exact G_ret rfl rfl h
      · have h := h.2 c3
        refine G_go rfl rfl ?_
        refine G_ge rfl rfl (fun c4 => ?_) (fun c4 => ?_)
        · have h := h.1 c4
          refine G_go rfl rfl ?_
          refine G_go rfl rfl ?_
          refine G_gt rfl rfl (fun c5 => ?_) (fun c5 => ?_)
          · have h := h.1 c5
            refine G_go rfl rfl ?_
            refine G_go rfl rfl ?_
            refine G_go rfl rfl ?_
            refine G_brF rfl rfl rfl ?_
            refine G_go rfl rfl ?_
            refine G_go rfl rfl ?_
            refine G_call rfl rfl ?_
            refine G_go rfl rfl ?_
            refine G_rf rfl rfl (by decide) (hR 120 11 129 rfl) ?_
            refine G_go rfl rfl ?_
            refine G_go rfl rfl ?_
            refine G_go rfl rfl ?_
            refine G_ir (n := 7) rfl rfl (by decide) (by decide) (by decide) ?_
            refine G_go rfl rfl ?_
            refine G_go rfl rfl ?_
            refine G_iw (n := 7) rfl rfl (by decide) (by decide) (by decide) ?_
            have hR := refs_up (a := 129) (k := 6) (x := wr ((s 129 6) + 1)) hR rfl
            refine G_go rfl rfl ?_
            refine G_ret rfl rfl ?_
            exact G_ret rfl rfl h
          · have h := h.2 c5
            refine G_go rfl rfl ?_
            refine G_go rfl rfl ?_
            refine G_gt rfl rfl (fun c6 => ?_) (fun c6 => ?_)
            · have h := h.1 c6
              refine G_go rfl rfl ?_
              refine G_go rfl rfl ?_
              refine G_go rfl rfl ?_
              refine G_brF rfl rfl rfl ?_
              refine G_go rfl rfl ?_
              refine G_go rfl rfl ?_
              refine G_call rfl rfl ?_
              refine G_go rfl rfl ?_
              refine G_rf rfl rfl (by decide) (hR 120 11 129 rfl) ?_
              refine G_go rfl rfl ?_
              refine G_go rfl rfl ?_
              refine G_go rfl rfl ?_
              refine G_ir (n := 7) rfl rfl (by decide) (by decide) (by decide) ?_
              refine G_go rfl rfl ?_
              refine G_go rfl rfl ?_
              refine G_iw (n := 7) rfl rfl (by decide) (by decide) (by decide) ?_
              have hR := refs_up (a := 129) (k := 6) (x := wr ((s 129 6) + 1)) hR rfl
              refine G_go rfl rfl ?_
              refine G_ret rfl rfl ?_
              exact G_ret rfl rfl h
            · have h := h.2 c6
              refine G_go rfl rfl ?_
              refine G_rd rfl rfl (by decide) ?_
              refine G_go rfl rfl ?_
              refine G_ne rfl rfl (fun c7 => ?_) (fun c7 => ?_)
              · have h := h.1 c7
                refine G_go rfl rfl ?_
                refine G_brT rfl rfl rfl ?_
                refine G_go rfl rfl ?_
                refine G_go rfl rfl ?_
                refine G_go rfl rfl ?_
                refine G_go rfl rfl ?_
                refine G_call rfl rfl ?_
                refine G_go rfl rfl ?_
                refine G_rf rfl rfl (by decide) (hR 120 1 121 rfl) ?_
                refine G_go rfl rfl ?_
                refine G_rd rfl rfl (by decide) ?_
                refine G_go rfl rfl ?_
                obtain ⟨g8, h⟩ := h
                refine G_iw (n := 6) rfl rfl (by decide) (by decide) g8 ?_
                have hR := refs_up (a := 121) (k := (s 120 0).toNat) (x := a0) hR rfl
                refine G_go rfl rfl ?_
                refine G_rf rfl rfl (by decide) (hR 120 2 122 rfl) ?_
                refine G_go rfl rfl ?_
                refine G_rd rfl rfl (by decide) ?_
                refine G_go rfl rfl ?_
                refine G_iw (n := 6) rfl rfl (by decide) (by decide) g8 ?_
                have hR := refs_up (a := 122) (k := (s 120 0).toNat) (x := a1) hR rfl
                refine G_go rfl rfl ?_
                refine G_rf rfl rfl (by decide) (hR 120 3 123 rfl) ?_
                refine G_go rfl rfl ?_
                refine G_rd rfl rfl (by decide) ?_
                refine G_go rfl rfl ?_
                refine G_iw (n := 6) rfl rfl (by decide) (by decide) g8 ?_
                have hR := refs_up (a := 123) (k := (s 120 0).toNat) (x := a2) hR rfl
                refine G_go rfl rfl ?_
                refine G_rf rfl rfl (by decide) (hR 120 4 124 rfl) ?_
                refine G_go rfl rfl ?_
                refine G_rd rfl rfl (by decide) ?_
                refine G_go rfl rfl ?_
                refine G_iw (n := 6) rfl rfl (by decide) (by decide) g8 ?_
                have hR := refs_up (a := 124) (k := (s 120 0).toNat) (x := 0) hR rfl
                refine G_go rfl rfl ?_
                refine G_rf rfl rfl (by decide) (hR 120 5 125 rfl) ?_
                refine G_go rfl rfl ?_
                refine G_rd rfl rfl (by decide) ?_
                refine G_go rfl rfl ?_
                refine G_iw (n := 6) rfl rfl (by decide) (by decide) g8 ?_
                have hR := refs_up (a := 125) (k := (s 120 0).toNat) (x := 50) hR rfl
                refine G_go rfl rfl ?_
                refine G_rf rfl rfl (by decide) (hR 120 6 126 rfl) ?_
                refine G_go rfl rfl ?_
                refine G_rd rfl rfl (by decide) ?_
                refine G_go rfl rfl ?_
                refine G_iw (n := 6) rfl rfl (by decide) (by decide) g8 ?_
                have hR := refs_up (a := 126) (k := (s 120 0).toNat) (x := 0) hR rfl
                refine G_go rfl rfl ?_
                refine G_rf rfl rfl (by decide) (hR 120 7 127 rfl) ?_
                refine G_go rfl rfl ?_
                refine G_rd rfl rfl (by decide) ?_
                refine G_go rfl rfl ?_
                refine G_iw (n := 6) rfl rfl (by decide) (by decide) g8 ?_
                have hR := refs_up (a := 127) (k := (s 120 0).toNat) (x := 0) hR rfl
                refine G_go rfl rfl ?_
                refine G_rf rfl rfl (by decide) (hR 120 8 128 rfl) ?_
                refine G_go rfl rfl ?_
                refine G_rd rfl rfl (by decide) ?_
                refine G_go rfl rfl ?_
                refine G_iw (n := 6) rfl rfl (by decide) (by decide) g8 ?_
                have hR := refs_up (a := 128) (k := (s 120 0).toNat) (x := (-9)) hR rfl
                refine G_go rfl rfl ?_
                refine G_go rfl rfl ?_
                refine G_rd rfl rfl (by decide) ?_
                refine G_go rfl rfl ?_
                refine G_go rfl rfl ?_
                refine G_wr rfl rfl (by decide) ?_
                have hR := refs_up (a := 120) (k := 0) (x := wr ((s 120 0) + 1)) hR rfl
                refine G_ret rfl rfl ?_
                refine G_go rfl rfl ?_
                refine G_go rfl rfl ?_
                refine G_wr rfl rfl (by decide) ?_
                have hR := refs_up (a := 120) (k := 29) (x := 0) hR rfl
                refine G_go rfl rfl ?_
                refine G_rdv (v := wr ((s 120 0) + 1)) rfl rfl (by decide) (by simp [upS]) ?_
                refine G_go rfl rfl ?_
                refine G_go rfl rfl ?_
                exact G_ret rfl rfl h
              · have h := h.2 c7
                refine G_go rfl rfl ?_
                refine G_go rfl rfl ?_
                refine G_go rfl rfl ?_
                refine G_brF rfl rfl rfl ?_
                refine G_go rfl rfl ?_
                refine G_go rfl rfl ?_
                refine G_call rfl rfl ?_
                refine G_go rfl rfl ?_
                refine G_rf rfl rfl (by decide) (hR 120 11 129 rfl) ?_
                refine G_go rfl rfl ?_
                refine G_go rfl rfl ?_
                refine G_go rfl rfl ?_
                refine G_ir (n := 7) rfl rfl (by decide) (by decide) (by decide) ?_
                refine G_go rfl rfl ?_
                refine G_go rfl rfl ?_
                refine G_iw (n := 7) rfl rfl (by decide) (by decide) (by decide) ?_
                have hR := refs_up (a := 129) (k := 6) (x := wr ((s 129 6) + 1)) hR rfl
                refine G_go rfl rfl ?_
                refine G_ret rfl rfl ?_
                exact G_ret rfl rfl h
        · have h := h.2 c4
          refine G_go rfl rfl ?_
          refine G_go rfl rfl ?_
          refine G_go rfl rfl ?_
          refine G_go rfl rfl ?_
          refine G_brF rfl rfl rfl ?_
          refine G_go rfl rfl ?_
          refine G_go rfl rfl ?_
          refine G_call rfl rfl ?_
          refine G_go rfl rfl ?_
          refine G_rf rfl rfl (by decide) (hR 120 11 129 rfl) ?_
          refine G_go rfl rfl ?_
          refine G_go rfl rfl ?_
          refine G_go rfl rfl ?_
          refine G_ir (n := 7) rfl rfl (by decide) (by decide) (by decide) ?_
          refine G_go rfl rfl ?_
          refine G_go rfl rfl ?_
          refine G_iw (n := 7) rfl rfl (by decide) (by decide) (by decide) ?_
          have hR := refs_up (a := 129) (k := 4) (x := wr ((s 129 4) + 1)) hR rfl
          refine G_go rfl rfl ?_
          refine G_ret rfl rfl ?_
          exact G_ret rfl rfl h
theorem op_feed (n : Nat) (s t : Nat → Nat → Int) (h : REL s t) (a0 : Int) : G 2 120 81 0 [(3, 2), (1, a0), (0, 0)] [] (n, s) (fun r s1 => G 120 140 178 0 [(3, 120), (1, a0)] [] (n, t) (Post n r s1)) := by
  obtain ⟨hl1, hl2, hl3⟩ := h.l
  refine sb_X6_feed_0 n s _ a0 h.1 ?_
  repeat' first | refine And.intro ?_ ?_ | intro _
  all_goals first | omega | skip
  all_goals refine sb_X7_feed_0 n t _ a0 h.2.1 ?_
  all_goals repeat' first | refine And.intro ?_ ?_ | intro _
  all_goals first | omega | exact post_ref h _ (by decide) | skip
  refine ⟨_, rfl, by rw [hl1], ?_, rfl, rfl⟩
  refine ⟨(refs_up (refs_up h.1 rfl) rfl), (refs_up (refs_up (refs_up h.2.1 rfl) rfl) rfl), relN_fr h.n ?_ ?_ ?_ ?_ ?_ ?_, relI_fr h.i ?_ ?_ ?_ ?_ ?_ ?_, relH_fr h.h ?_ ?_ ?_ ?_ ?_, ?_, relR_fr h.r ?_ ?_ ?_ ?_, relF_fr h.f ?_ ?_⟩
  all_goals first | rfl | (intro a h1 h2; funext z; dsimp only [upS]; (repeat rw [if_neg (by omega)]); done) | skip
  refine ⟨by show wr _ = wr _; rw [hl1], by show 0 ≤ wr _ ∧ wr _ ≤ 96; rw [wr_id (by omega) (by omega)]; omega, fun k hk => ?_⟩
  have hk : (k : Int) < wr (s 115 1 + 1) := hk
  rw [wr_id (by omega) (by omega)] at hk
  show upS s 116 (s 115 1).toNat a0 116 k = upS (upS t 120 10 0) 131 (t 120 14).toNat a0 131 k ∧ 0 ≤ upS s 116 (s 115 1).toNat a0 116 k ∧ upS s 116 (s 115 1).toNat a0 116 k ≤ 255
  rw [← hl1]
  by_cases hkk : k = (s 115 1).toNat
  · subst hkk
    simp [upS]
    omega
  · have := hl3 k (by omega)
    simpa [upS, hkk] using this

theorem op_row (n : Nat) (s t : Nat → Nat → Int) (h : REL s t) (a0 : Int) : G 2 120 121 0 [(3, 2), (1, a0), (0, 0)] [] (n, s) (fun r s1 => G 120 140 212 0 [(3, 120), (1, a0)] [] (n, t) (Post n r s1)) := by
  obtain ⟨hl1, hl2, hl3⟩ := h.r
  refine sb_X6_row_0 n s _ a0 h.1 ?_
  repeat' first | refine And.intro ?_ ?_ | intro _
  all_goals first | omega | skip
  all_goals refine sb_X7_row_0 n t _ a0 h.2.1 ?_
  all_goals repeat' first | refine And.intro ?_ ?_ | intro _
  all_goals first | omega | exact post_ref h _ (by decide) | skip
  refine ⟨_, rfl, by rw [hl1], ?_, rfl, rfl⟩
  refine ⟨(refs_up (refs_up h.1 rfl) rfl), (refs_up (refs_up (refs_up h.2.1 rfl) rfl) rfl), relN_fr h.n ?_ ?_ ?_ ?_ ?_ ?_, relI_fr h.i ?_ ?_ ?_ ?_ ?_ ?_, relH_fr h.h ?_ ?_ ?_ ?_ ?_, relL_fr h.l ?_ ?_ ?_ ?_, ?_, relF_fr h.f ?_ ?_⟩
  all_goals first | rfl | (intro a h1 h2; funext z; dsimp only [upS]; (repeat rw [if_neg (by omega)]); done) | skip
  refine ⟨by show wr _ = wr _; rw [hl1], by show 0 ≤ wr _ ∧ wr _ ≤ 12; rw [wr_id (by omega) (by omega)]; omega, fun k hk => ?_⟩
  have hk : (k : Int) < wr (s 117 1 + 1) := hk
  rw [wr_id (by omega) (by omega)] at hk
  show upS s 118 (s 117 1).toNat a0 118 k = upS (upS t 120 10 0) 139 (t 120 31).toNat a0 139 k ∧ 0 ≤ upS s 118 (s 117 1).toNat a0 118 k ∧ upS s 118 (s 117 1).toNat a0 118 k ≤ 99
  rw [← hl1]
  by_cases hkk : k = (s 117 1).toNat
  · subst hkk
    simp [upS]
    omega
  · have := hl3 k (by omega)
    simpa [upS, hkk] using this

theorem op_clear (n : Nat) (s t : Nat → Nat → Int) (h : REL s t) : G 2 120 75 0 [(3, 2), (0, 0)] [] (n, s) (fun r s1 => G 120 140 164 0 [(3, 120), (0, 0)] [] (n, t) (Post n r s1)) := by
  obtain ⟨hl1, hl2, hl3⟩ := h.r
  refine sb_X6_clear_0 n s _ h.1 ?_
  repeat' first | refine And.intro ?_ ?_ | intro _
  all_goals first | omega | skip
  all_goals refine sb_X7_clear_0 n t _ h.2.1 ?_
  all_goals repeat' first | refine And.intro ?_ ?_ | intro _
  all_goals first | omega | exact post_ref h _ (by decide) | skip
  refine ⟨_, rfl, by rw [hl1], ?_, rfl, rfl⟩
  refine ⟨(refs_up h.1 rfl), (refs_up (refs_up h.2.1 rfl) rfl), relN_fr h.n ?_ ?_ ?_ ?_ ?_ ?_, relI_fr h.i ?_ ?_ ?_ ?_ ?_ ?_, relH_fr h.h ?_ ?_ ?_ ?_ ?_, relL_fr h.l ?_ ?_ ?_ ?_, ?_, relF_fr h.f ?_ ?_⟩
  all_goals first | rfl | (intro a h1 h2; funext z; dsimp only [upS]; (repeat rw [if_neg (by omega)]); done) | skip
  exact ⟨rfl, ⟨Int.le_refl 0, by show (0 : Int) ≤ 12; decide⟩, fun k hk => absurd (show (k : Int) < 0 from hk) (by omega)⟩

theorem op_person (n : Nat) (s t : Nat → Nat → Int) (h : REL s t) (a0 : Int) (a1 : Int) (a2 : Int) : G 2 120 115 0 [(3, 2), (1, a0), (1, a1), (1, a2), (0, 0)] [] (n, s) (fun r s1 => G 120 140 202 0 [(3, 120), (1, a0), (1, a1), (1, a2), (0, 0)] [] (n, t) (Post n r s1)) := by
  obtain ⟨hn1, hn2, hn3, hn4, hn5, hn6⟩ := h.n
  refine sb_X6_person_0 n s _ a0 a1 a2 h.1 ?_
  repeat' first | refine And.intro ?_ ?_ | intro _
  all_goals first | omega | skip
  all_goals refine sb_X7_person_0 n t _ a0 a1 a2 h.2.1 ?_
  all_goals repeat' first | refine And.intro ?_ ?_ | intro _
  all_goals first | omega | exact post_ref h _ (by decide) | skip
  refine ⟨_, rfl, by rw [hn1], ?_, rfl, rfl⟩
  refine ⟨(refs_up (refs_up (refs_up (refs_up (refs_up (refs_up (refs_up (refs_up (refs_up (refs_up h.1 rfl) rfl) rfl) rfl) rfl) rfl) rfl) rfl) rfl) rfl), (refs_up (refs_up (refs_up (refs_up (refs_up (refs_up (refs_up (refs_up (refs_up (refs_up (refs_up h.2.1 rfl) rfl) rfl) rfl) rfl) rfl) rfl) rfl) rfl) rfl) rfl), ?_, relI_fr h.i ?_ ?_ ?_ ?_ ?_ ?_, ?_, relL_fr h.l ?_ ?_ ?_ ?_, relR_fr h.r ?_ ?_ ?_ ?_, relF_fr h.f ?_ ?_⟩
  all_goals first | rfl | (intro a h1 h2; funext z; dsimp only [upS]; (repeat rw [if_neg (by omega)]); done) | skip
  · have hw : wr (t 120 0 + 1) = t 120 0 + 1 := wr_id (by omega) (by omega)
    have he : (s 3 9).toNat = (t 120 0).toNat := by rw [hn1]
    refine ⟨by show wr _ = wr _; rw [hn1], hn2, by show 0 ≤ wr _ ∧ wr _ ≤ 6; omega, hn4, fun p hp => ?_, fun p hp => ?_⟩
    · have hp : (p : Int) < wr (t 120 0 + 1) := hp
      rw [hw] at hp
      by_cases hpp : p = (t 120 0).toNat
      · subst hpp
        simp [vw, upS]
        omega
      · have h0 := hn5 p (by omega)
        unfold vw at h0 ⊢
        simp [upS, hpp, hw] at h0 ⊢
        omega
    · have hp : (p : Int) < wr (t 120 0 + 1) := hp
      rw [hw] at hp
      by_cases hpp : p = (t 120 0).toNat
      · subst hpp
        simp [vw, upS, he]
      · have h0 := hn6 p (by omega)
        unfold vw at h0 ⊢
        simp [upS, hpp, he] at h0 ⊢
        exact h0
  · exact ⟨rfl, ⟨Int.le_refl 0, by show (0 : Int) ≤ 8; decide⟩, h.h.2.2.1, fun k hk => absurd (show (k : Int) < 0 from hk) (by omega)⟩


theorem sb_X7_relay_52 (n : Nat) (s : Nat → Nat → Int) (Q : List Vl → Sto → Prop) (x1 : Int) (x2 : Int) (x3 : Int) (r : Int) (hR : refs s)
    (h : (x1 = 0 → Q [(1, x2)] (n, s)) ∧ (x1 ≠ 0 → (0 ≤ r → (0 ≤ r ∧ r < 6) ∧ ((rgP (vw 121 s) r.toNat) ∧ ((0 ≤ vw 121 s 2 r.toNat ∧ vw 121 s 2 r.toNat ≤ 2000) ∧ ((0 ≤ vw 121 s 4 r.toNat ∧ vw 121 s 4 r.toNat ≤ 99) ∧ (Q [(1, min (xdiv x2 2) (wr (x2 - (lsW (vw 121 s) r.toNat))))] (n, s)))))) ∧ (r < 0 → Q [(1, x2)] (n, s)))) :
    G 120 140 208 52 [(3, 120), (1, x1), (1, x2), (1, x3)] [(1, r)] (n, s) Q := by
  refine G_go rfl rfl ?_
  refine G_go rfl rfl ?_
  refine G_eq rfl rfl (fun c1 => ?_) (fun c1 => ?_)
  · have h := h.1 c1
    refine G_go rfl rfl ?_
    refine G_go rfl rfl ?_
    exact G_ret rfl rfl h
  · have h := h.2 c1
    refine G_go rfl rfl ?_
    refine G_ge rfl rfl (fun c2 => ?_) (fun c2 => ?_)
    · have h := h.1 c2
      refine G_go rfl rfl ?_
      refine G_go rfl rfl ?_
      refine G_go rfl rfl ?_
      refine G_go rfl rfl ?_
      refine G_go rfl rfl ?_
      refine G_go rfl rfl ?_
      refine G_call rfl rfl ?_
      obtain ⟨g3, h⟩ := h
      obtain ⟨g4, h⟩ := h
      obtain ⟨g5, h⟩ := h
      obtain ⟨g6, h⟩ := h
      refine c_X7_lastsOf n _ _ r hR g3 g4 g5 g6 ?_
      refine G_go rfl rfl ?_
      refine G_call rfl rfl ?_
      refine c_X7_least n _ _ (xdiv x2 2) (wr (x2 - (lsW (vw 121 s) r.toNat))) hR ?_
      exact G_ret rfl rfl h
    · have h := h.2 c2
      refine G_go rfl rfl ?_
      refine G_go rfl rfl ?_
      exact G_ret rfl rfl h
theorem sb_X6_richest_48 (n : Nat) (s : Nat → Nat → Int) (Q : List Vl → Sto → Prop) (x1 : Int) (x2 : Int) (x3 : Int) (x4 : Int) (r : Int) (hR : refs s)
    (h : (r = 0 → G 2 120 119 22 [(3, 2), (1, x1), (1, x2), (1, x3), (1, wr (x4 + 1))] [] (n, s) Q) ∧ (r ≠ 0 → G 2 120 119 22 [(3, 2), (1, x1), (1, x2), (1, x4), (1, wr (x4 + 1))] [] (n, s) Q)) :
    G 2 120 119 48 [(3, 2), (1, x1), (1, x2), (1, x3), (1, x4)] [(1, r)] (n, s) Q := by
  refine G_eq rfl rfl (fun c1 => ?_) (fun c1 => ?_)
  · have h := h.1 c1
    refine G_go rfl rfl ?_
    refine G_go rfl rfl ?_
    exact h
  · have h := h.2 c1
    refine G_go rfl rfl ?_
    refine G_go rfl rfl ?_
    refine G_go rfl rfl ?_
    refine G_go rfl rfl ?_
    exact h
def smF (W : Nat → Int) (k : Nat) (x : Int) : Int := wr (x + W k)
def txW (t : Nat → Nat → Int) (v : Int) (p : Nat) : Int := wr (v * bnW (vw 121 t) p)
theorem cl_tax (n : Nat) (s t : Nat → Nat → Int) (h : REL s t) (a0 a1 x3 : Int) (ha : 0 ≤ a0 ∧ a0 ≤ 9) (Q : List Vl → Sto → Prop) (hq : Q [(1, if a1 = 0 then itr (smF (txW t a0)) 0 (t 120 0).toNat else itr (amF (txW t a0)) (-9) (t 120 0).toNat)] (n, s)) : G 2 120 126 39 [(3, 2), (1, a0), (1, a1), (1, x3), (1, 0), (1, (-9)), (1, (-1)), (1, 0), (0, 0)] [] (n, s) Q := by
  obtain ⟨hn1, hn2, hn3, hn4⟩ := h.np
  refine G_up (t 120 0).toNat (fun k b => ∀ w, G 2 120 126 39 [(3, 2), (1, a0), (1, a1), (1, x3), (1, itr (smF (txW t a0)) 0 k), (1, b), (1, mx (txW t a0) b), (1, (k : Int)), w] [] (n, s) Q) (amF (txW t a0)) amI (-9) (Or.inl ⟨rfl, rfl⟩) (fun k b _ hb => amF_in hb) (fun k b hk hb hg w => ?_) (fun _ w => ?_) (0, 0)
  · have hp : (k : Int) < t 120 0 := by omega
    obtain ⟨g1, g2, g3, g4, g5, g6⟩ := h.rg k hp
    have ht := h.t k hp
    have e : wr (a0 * bnV (vw 4 s) k (s 6 k)) = txW t a0 k := by
      rw [h.bn k hp, (h.s k hp).2.2.1]
      rfl
    have hr : 0 ≤ txW t a0 k := by
      have hb := h.br k hp (t 123 k) ⟨ht.2.2.1.1, by omega⟩
      have h1 : 0 ≤ a0 * bnW (vw 121 t) k := Int.mul_nonneg ha.1 (show 0 ≤ bnV (vw 121 t) k (t 123 k) by omega)
      have h2 : a0 * bnW (vw 121 t) k ≤ 9 * 2001 := Int.mul_le_mul ha.2 hb.2 (show 0 ≤ bnV (vw 121 t) k (t 123 k) by omega) (by decide)
      unfold txW
      rw [wr_id (by omega) (by omega)]
      exact h1
    have hs : itr (smF (txW t a0)) 0 (k + 1) = wr (itr (smF (txW t a0)) 0 k + txW t a0 k) := rfl
    rw [← wr_s hk (by omega), hs] at hg
    refine sb_X6_tax_39 n s Q a0 a1 x3 _ b _ k w h.1 ⟨fun e => by omega, fun _ => ⟨by omega, g1, g3, fun c => ?_, fun c => ?_⟩⟩
    all_goals rw [Int.toNat_natCast] at *
    all_goals rw [e] at *
    · rw [amF_no hr c] at hg
      exact hg _
    · rw [amF_yes c, mx_nat] at hg
      exact hg _
  · refine sb_X6_tax_39 n s Q _ _ _ _ _ _ _ _ h.1 ⟨fun _ => ⟨fun c => ?_, fun c => ?_⟩, fun e => by omega⟩
    · rw [if_neg c] at hq
      exact hq
    · rw [if_pos c] at hq
      exact hq
theorem rl_tax (n : Nat) (s t : Nat → Nat → Int) (h : REL s t) (a0 a1 : Int) (Q : List Vl → Sto → Prop) (hq : Q [(1, if a1 = 0 then itr (smF (txW t a0)) 0 (t 120 0).toNat else itr (amF (txW t a0)) (-9) (t 120 0).toNat)] (n, t)) : G 120 140 217 38 [(3, 120), (1, a0), (1, a1), (1, 0), (1, 0), (1, (-9)), (1, 0)] [] (n, t) Q := by
  obtain ⟨hn1, hn2, hn3, hn4⟩ := h.np
  refine G_up (t 120 0).toNat (fun k b => G 120 140 217 38 [(3, 120), (1, a0), (1, a1), (1, 0), (1, itr (smF (txW t a0)) 0 k), (1, b), (1, (k : Int))] [] (n, t) Q) (amF (txW t a0)) amI (-9) (Or.inl ⟨rfl, rfl⟩) (fun k b _ hb => amF_in hb) (fun k b hk hb hg => ?_) (fun _ => ?_)
  · have hp : (k : Int) < t 120 0 := by omega
    obtain ⟨g1, g2, g3, g4, g5, g6⟩ := h.rg k hp
    have hs : itr (smF (txW t a0)) 0 (k + 1) = wr (itr (smF (txW t a0)) 0 k + txW t a0 k) := rfl
    rw [← wr_s hk (by omega), hs] at hg
    refine sb_X7_tax_38 n t Q a0 a1 0 _ b k h.2.1 ⟨fun e => by omega, fun _ => ⟨by omega, g2, g4, fun c => ?_, fun c => ?_⟩⟩
    · rw [show amF (txW t a0) k b = k from if_pos c] at hg
      exact hg
    · have hb2 : b < k := by
        unfold amI at hb
        omega
      obtain ⟨b1, b2, b3, b4, b5, b6⟩ := h.rg b.toNat (by omega)
      refine ⟨by omega, b2, b4, fun d => ?_, fun d => ?_⟩
      · have d : txW t a0 k ≤ txW t a0 b.toNat := d
        rw [show amF (txW t a0) k b = b by unfold amF; rw [if_neg (by omega), if_neg (by omega)]] at hg
        exact hg
      · have d : txW t a0 b.toNat < txW t a0 k := d
        rw [show amF (txW t a0) k b = k by unfold amF; rw [if_neg (by omega), if_pos d]] at hg
        exact hg
  · refine sb_X7_tax_38 n t Q _ _ _ _ _ _ h.2.1 ⟨fun _ => ⟨fun c => ?_, fun c => ?_⟩, fun e => by omega⟩
    · rw [if_neg c] at hq
      exact hq
    · rw [if_pos c] at hq
      exact hq
theorem op_tax (n : Nat) (s t : Nat → Nat → Int) (h : REL s t) (a0 a1 : Int) : G 2 120 126 0 [(3, 2), (1, a0), (1, a1), (0, 0), (0, 0), (0, 0), (0, 0), (0, 0), (0, 0)] [] (n, s) (fun r s1 => G 120 140 217 0 [(3, 120), (1, a0), (1, a1), (0, 0), (0, 0), (0, 0), (0, 0)] [] (n, t) (Post n r s1)) := by
  refine sb_X6_tax_0 n s _ a0 a1 h.1 ?_
  repeat' first | with_reducible refine And.intro ?_ ?_ | intro _
  all_goals first | omega | refine cl_tax n s _ h.up a0 a1 _ (by omega) _ ?_ | skip
  all_goals refine sb_X7_tax_0 n t _ a0 a1 h.2.1 ?_
  all_goals repeat' first | with_reducible refine And.intro ?_ ?_ | intro _
  all_goals first | omega | exact post_ref h _ (by decide) | skip
  exact rl_tax n s _ h.up a0 a1 _ (post_same h rfl)
/-! RELAY -/
def mx0 (W : Nat → Int) (b : Int) : Int := if b < 0 then 0 else W b.toNat
theorem mx0_step {W : Nat → Int} {k : Nat} {b : Int} (h0 : 0 ≤ W k) : max (mx0 W b) (W k) = mx0 W (amF W k b) := by
  unfold mx0 amF
  by_cases c : b < 0
  · rw [if_pos c, if_pos c, if_neg (by omega), Int.toNat_natCast]
    omega
  · rw [if_neg c, if_neg c]
    by_cases d : W b.toNat < W k
    · rw [if_pos d, if_neg (by omega), Int.toNat_natCast]
      omega
    · rw [if_neg d, if_neg c]
      omega
def rlV (t : Nat → Nat → Int) (a0 : Int) : Int :=
  if a0 = 0 then itr (smF (lsW (vw 121 t))) 0 (t 120 0).toNat else min (xdiv (itr (smF (lsW (vw 121 t))) 0 (t 120 0).toNat) 2) (wr (itr (smF (lsW (vw 121 t))) 0 (t 120 0).toNat - mx0 (lsW (vw 121 t)) (itr (amF (lsW (vw 121 t))) (-9) (t 120 0).toNat)))
theorem cl_relay (n : Nat) (s t : Nat → Nat → Int) (h : REL s t) (a0 x2 : Int) (Q : List Vl → Sto → Prop) (hq : Q [(1, rlV t a0)] (n, s)) : G 2 120 117 24 [(3, 2), (1, a0), (1, x2), (1, 0), (1, 0), (1, 0)] [] (n, s) Q := by
  obtain ⟨hn1, hn2, hn3, hn4⟩ := h.np
  refine G_up (t 120 0).toNat (fun k b => G 2 120 117 24 [(3, 2), (1, a0), (1, x2), (1, itr (smF (lsW (vw 121 t))) 0 k), (1, mx0 (lsW (vw 121 t)) b), (1, (k : Int))] [] (n, s) Q) (amF (lsW (vw 121 t))) amI (-9) (Or.inl ⟨rfl, rfl⟩) (fun k b _ hb => amF_in hb) (fun k b hk hb hg => ?_) (fun _ => ?_)
  · have hp : (k : Int) < t 120 0 := by omega
    obtain ⟨g1, g2, g3, g4, g5, g6⟩ := h.rg k hp
    have ht := h.t k hp
    have e : lsV (vw 4 s) k (s 6 k) = lsW (vw 121 t) k := by
      rw [h.ls k hp, (h.s k hp).2.2.1]
      rfl
    have hr : 0 ≤ lsW (vw 121 t) k := (h.lr k hp _ ⟨ht.2.2.1.1, by omega⟩).1
    have hs : itr (smF (lsW (vw 121 t))) 0 (k + 1) = wr (itr (smF (lsW (vw 121 t))) 0 k + lsW (vw 121 t) k) := rfl
    rw [← wr_s hk (by omega), hs, ← mx0_step hr] at hg
    refine sb_X6_relay_24 n s Q a0 x2 _ _ k h.1 ⟨fun e => by omega, fun _ => ⟨by omega, g1, g3, g5, ?_⟩⟩
    rw [Int.toNat_natCast, e]
    exact hg
  · refine sb_X6_relay_24 n s Q _ _ _ _ _ h.1 ⟨fun _ => ⟨fun c => ?_, fun c => ?_⟩, fun e => by omega⟩
    · rw [show rlV t a0 = _ from if_neg c] at hq
      exact hq
    · rw [show rlV t a0 = _ from if_pos c] at hq
      exact hq
theorem rl_relay (n : Nat) (s t : Nat → Nat → Int) (h : REL s t) (a0 : Int) (Q : List Vl → Sto → Prop) (hq : Q [(1, rlV t a0)] (n, t)) : G 120 140 208 26 [(3, 120), (1, a0), (1, 0), (1, 0)] [] (n, t) Q := by
  obtain ⟨hn1, hn2, hn3, hn4⟩ := h.np
  refine G_up (t 120 0).toNat (fun k b => G 120 140 208 26 [(3, 120), (1, a0), (1, b), (1, (k : Int))] [] (n, t) Q) (smF (lsW (vw 121 t))) (fun _ _ => True) 0 trivial (fun _ _ _ _ => trivial) (fun k b hk _ hg => ?_) (fun _ => ?_)
  · have hp : (k : Int) < t 120 0 := by omega
    obtain ⟨g1, g2, g3, g4, g5, g6⟩ := h.rg k hp
    rw [← wr_s hk (by omega)] at hg
    exact sb_X7_relay_26 n t Q a0 b k h.2.1 ⟨fun e => by omega, fun _ => ⟨by omega, g2, g4, g6, hg⟩⟩
  · refine sb_X7_relay_26 n t Q _ _ _ h.2.1 ⟨fun _ => ?_, fun e => by omega⟩
    refine rl_longest n s t h _ ?_
    have hI : amI (t 120 0).toNat (itr (amF (lsW (vw 121 t))) (-9) (t 120 0).toNat) := itr_inv amI (Or.inl ⟨rfl, rfl⟩) _ (fun k b _ hb => amF_in hb)
    generalize hb : itr (amF (lsW (vw 121 t))) (-9) (t 120 0).toNat = b at *
    refine sb_X7_relay_52 n t Q a0 _ _ b h.2.1 ?_
    unfold rlV at hq
    rw [hb] at hq
    refine ⟨fun c => ?_, fun c => ⟨fun d => ?_, fun d => ?_⟩⟩
    · rw [if_pos c] at hq
      exact hq
    · rw [if_neg c, show mx0 (lsW (vw 121 t)) b = lsW (vw 121 t) b.toNat from if_neg (by omega)] at hq
      have hb2 : b < t 120 0 := by
        unfold amI at hI
        omega
      obtain ⟨b1, b2, b3, b4, b5, b6⟩ := h.rg b.toNat (by omega)
      exact ⟨by omega, b2, b4, b6, hq⟩
    · have hN : (t 120 0).toNat = 0 := by
        unfold amI at hI
        omega
      rw [if_neg c, show mx0 (lsW (vw 121 t)) b = 0 from if_pos d, hN] at hq
      rw [hN]
      have e0 : itr (smF (lsW (vw 121 t))) 0 0 = 0 := rfl
      have e1 : min (xdiv 0 2) (wr (0 - 0)) = 0 := by decide
      rw [e0, e1] at hq
      rw [e0]
      exact hq
theorem op_relay (n : Nat) (s t : Nat → Nat → Int) (h : REL s t) (a0 : Int) : G 2 120 117 0 [(3, 2), (1, a0), (0, 0), (0, 0), (0, 0), (0, 0)] [] (n, s) (fun r s1 => G 120 140 208 0 [(3, 120), (1, a0), (0, 0), (0, 0)] [] (n, t) (Post n r s1)) := by
  refine sb_X6_relay_0 n s _ a0 h.1 ?_
  repeat' first | with_reducible refine And.intro ?_ ?_ | intro _
  all_goals first | omega | refine cl_relay n s _ h.up a0 _ _ ?_ | skip
  all_goals refine sb_X7_relay_0 n t _ a0 h.2.1 ?_
  all_goals repeat' first | with_reducible refine And.intro ?_ ?_ | intro _
  all_goals first | omega | exact post_ref h _ (by decide) | skip
  exact rl_relay n s _ h.up a0 _ (post_same h rfl)
/-! RICHEST -/
def rcW (t : Nat → Nat → Int) (v : Int) (p : Nat) : Int := if v = 0 then wlW (vw 121 t) p else -wlW (vw 121 t) p
theorem cl_richest (n : Nat) (s t : Nat → Nat → Int) (h : REL s t) (a0 x2 : Int) (Q : List Vl → Sto → Prop) (hq : Q [(1, itr (amF (rcW t a0)) (-9) (t 120 0).toNat)] (n, s)) : G 2 120 119 22 [(3, 2), (1, a0), (1, x2), (1, (-9)), (1, 0)] [] (n, s) Q := by
  obtain ⟨hn1, hn2, hn3, hn4⟩ := h.np
  refine G_up (t 120 0).toNat (fun k b => G 2 120 119 22 [(3, 2), (1, a0), (1, x2), (1, b), (1, (k : Int))] [] (n, s) Q) (amF (rcW t a0)) amI (-9) (Or.inl ⟨rfl, rfl⟩) (fun k b _ hb => amF_in hb) (fun k b hk hb hg => ?_) (fun _ => ?_)
  · have hp : (k : Int) < t 120 0 := by omega
    obtain ⟨⟨g1, g2⟩, _, g3, g4, g5, g6⟩ := h.rg k hp
    have hw := h.wr k hp
    rw [← wr_s hk (by omega)] at hg
    refine sb_X6_richest_22 n s Q a0 x2 b k h.1 ⟨fun e => by omega, fun _ => ⟨fun c => ?_, fun c => ?_⟩⟩
    · rw [show amF (rcW t a0) k b = k from if_pos (by omega)] at hg
      exact hg
    · have hb2 : 0 ≤ b ∧ b < k := by
        unfold amI at hb
        omega
      have hpb : (b.toNat : Int) < t 120 0 := by omega
      obtain ⟨⟨b1, b2⟩, _, b3, b4, b5, b6⟩ := h.rg b.toNat hpb
      have hwb := h.wr b.toNat hpb
      have e1 := h.wl k hp
      have e2 := h.wl b.toNat hpb
      refine sb_X6_isFurther_0 n s _ k b a0 h.1 ?_
      rw [Int.toNat_natCast, e1, e2, wr_id (by omega) (by omega)]
      refine ⟨by omega, g1, g3, g2, by omega, b1, b3, b2, fun d => ⟨fun u => ?_, fun u => ?_⟩, fun d => ⟨fun u => ?_, fun u => ?_⟩⟩
      all_goals refine sb_X6_richest_48 n s Q a0 x2 b k _ h.1 ?_
      all_goals refine ⟨fun v => ?_, fun v => ?_⟩
      all_goals first | omega | skip
      · have e : amF (rcW t a0) k b = b := by
          unfold amF rcW
          rw [if_neg (by omega), if_neg d, if_neg d, if_neg (by omega)]
        rw [e] at hg
        exact hg
      · have e : amF (rcW t a0) k b = k := by
          unfold amF rcW
          rw [if_neg (by omega), if_neg d, if_neg d, if_pos (by omega)]
        rw [e] at hg
        exact hg
      · have e : amF (rcW t a0) k b = b := by
          unfold amF rcW
          rw [if_neg (by omega), if_pos d, if_pos d, if_neg (by omega)]
        rw [e] at hg
        exact hg
      · have e : amF (rcW t a0) k b = k := by
          unfold amF rcW
          rw [if_neg (by omega), if_pos d, if_pos d, if_pos (by omega)]
        rw [e] at hg
        exact hg
  · exact sb_X6_richest_22 n s Q a0 _ _ _ h.1 ⟨fun _ => hq, fun e => by omega⟩
theorem rl_richest (n : Nat) (s t : Nat → Nat → Int) (h : REL s t) (a0 : Int) (Q : List Vl → Sto → Prop) (hq : Q [(1, itr (amF (rcW t a0)) (-9) (t 120 0).toNat)] (n, t)) : G 120 140 210 27 [(3, 120), (1, a0), (1, (-9)), (1, 0), (0, 0)] [] (n, t) Q := by
  obtain ⟨hn1, hn2, hn3, hn4⟩ := h.np
  refine G_up (t 120 0).toNat (fun k b => ∀ w, G 120 140 210 27 [(3, 120), (1, a0), (1, b), (1, (k : Int)), w] [] (n, t) Q) (amF (rcW t a0)) amI (-9) (Or.inl ⟨rfl, rfl⟩) (fun k b _ hb => amF_in hb) (fun k b hk hb hg w => ?_) (fun _ w => ?_) (0, 0)
  · have hp : (k : Int) < t 120 0 := by omega
    obtain ⟨_, g2, _, g4, g5, g6⟩ := h.rg k hp
    rw [← wr_s hk (by omega)] at hg
    refine sb_X7_richest_27 n t Q a0 b k w h.2.1 ⟨fun e => by omega, fun _ => ⟨fun c => ?_, fun c => ?_⟩⟩
    · rw [show amF (rcW t a0) k b = k from if_pos c] at hg
      exact hg _
    · have hb2 : 0 ≤ b ∧ b < k := by
        unfold amI at hb
        omega
      have hpb : (b.toNat : Int) < t 120 0 := by omega
      obtain ⟨_, b2, _, b4, b5, b6⟩ := h.rg b.toNat hpb
      rw [Int.toNat_natCast]
      refine ⟨fun d => ⟨by omega, g2, g4, by omega, b2, b4, fun u => ?_, fun u => ?_⟩, fun d => ⟨by omega, g2, g4, by omega, b2, b4, fun u => ?_, fun u => ?_⟩⟩
      · have e : amF (rcW t a0) k b = b := by
          unfold amF rcW
          rw [if_neg (by omega), if_neg d, if_neg d, if_neg (by omega)]
        rw [e] at hg
        exact hg _
      · have e : amF (rcW t a0) k b = k := by
          unfold amF rcW
          rw [if_neg (by omega), if_neg d, if_neg d, if_pos (by omega)]
        rw [e] at hg
        exact hg _
      · have e : amF (rcW t a0) k b = b := by
          unfold amF rcW
          rw [if_neg (by omega), if_pos d, if_pos d, if_neg (by omega)]
        rw [e] at hg
        exact hg _
      · have e : amF (rcW t a0) k b = k := by
          unfold amF rcW
          rw [if_neg (by omega), if_pos d, if_pos d, if_pos (by omega)]
        rw [e] at hg
        exact hg _
  · exact sb_X7_richest_27 n t Q a0 _ _ w h.2.1 ⟨fun _ => hq, fun e => by omega⟩
theorem op_richest (n : Nat) (s t : Nat → Nat → Int) (h : REL s t) (a0 : Int) : G 2 120 119 0 [(3, 2), (1, a0), (0, 0), (0, 0), (0, 0)] [] (n, s) (fun r s1 => G 120 140 210 0 [(3, 120), (1, a0), (0, 0), (0, 0), (0, 0)] [] (n, t) (Post n r s1)) := by
  refine sb_X6_richest_0 n s _ a0 h.1 ?_
  repeat' first | with_reducible refine And.intro ?_ ?_ | intro _
  all_goals first | omega | refine cl_richest n s _ h.up a0 _ _ ?_ | skip
  all_goals refine sb_X7_richest_0 n t _ a0 h.2.1 ?_
  all_goals repeat' first | with_reducible refine And.intro ?_ ?_ | intro _
  all_goals first | omega | exact post_ref h _ (by decide) | skip
  exact rl_richest n s _ h.up a0 _ (post_same h rfl)


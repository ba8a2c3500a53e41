/-! EACH INSTRUCTION OF THE SMALL MACHINE IS THE BIG ONE'S. -/
def At (G : Heap → List Loc → Sto → JFrame → Prop) (V : Heap → List Loc → va_W → List (ClassId × FieldType) → Sto → Prop) (mi : MethodId) (b nL pc : Nat) (L st : List Vl) (sto : Sto) : Prop :=
  ∀ (H : Heap) (locs : List Loc) (ls : Array Slot) (lv : List (Nat × Value)) (xs : List Value) (ws : va_W) (tys : List (ClassId × FieldType)), V H locs ws tys sto → lv_has ls nL lv → L.length = nL → rls ws b L lv → rvs ws b st xs → G H locs sto (F0 mi pc ls xs)
def Nx (G : Heap → List Loc → Sto → JFrame → Prop) (V : Heap → List Loc → va_W → List (ClassId × FieldType) → Sto → Prop) (mi : MethodId) (b nL nF : Nat) (sto : Sto) (A : Act) : Prop := match A with
  | (1, pc, _, _, _, _, L, st, _) => At G V mi b nL pc L st sto
  | (2, pc, a, k, _, v, L, st, _) => At G V mi b nL pc L ((v.1, sto.2 a k) :: st) sto
  | (3, pc, a, k, _, v, L, st, _) => At G V mi b nL pc L st (sto.1, upS sto.2 a k v.2)
  | (4, pc, a, k, _, _, L, st, _) => lay sto.1 = (a, k) ∧ sto.1 + 1 ≤ nF ∧ At G V mi b nL pc L ((3, (sto.1 : Int)) :: st) (sto.1 + 1, clS sto.2 sto.1)
  | (7, pc, _, _, _, v, L, st, _) => 0 ≤ v.2 ∧ v.2 < sto.2 0 0 ∧ At G V mi b nL pc L ((1, sto.2 1 v.2.toNat) :: st) sto
  | (8, pc, _, _, _, _, L, st, _) => At G V mi b nL pc L ((1, sto.2 0 0) :: st) sto
  | (9, pt, pf, _, bb, _, L, st, _) => if bb = true then At G V mi b nL pt L st sto else At G V mi b nL pf L st sto
  | _ => False
section PURE
variable {G : Heap → List Loc → Sto → JFrame → Prop} {V : Heap → List Loc → va_W → List (ClassId × FieldType) → Sto → Prop} {mi : MethodId} {b nL nF : Nat} {pc : Nat} {L st : List Vl} {sto : Sto}
theorem at_a1 {f : Int → Int} {g : Int32 → Int32} (hfg : ∀ x, (g x).toInt = f x.toInt) (row : ∀ H locs ls rest x, G H locs sto (F0 mi (pc + 1) ls (.int (g x) :: rest)) → G H locs sto (F0 mi pc ls (.int x :: rest))) (h : Nx G V mi b nL nF sto (a1 f pc L st)) : At G V mi b nL pc L st sto := by
  unfold a1 at h
  split at h
  · intro H locs ls lv xs ws tys hV hl hL hr hs
    obtain ⟨x', zs, rfl, hx, hs⟩ := rvs_i hs
    exact row _ _ _ _ _ (h H locs ls lv _ ws tys hV hl hL hr ⟨rvs_ii (by rw [hfg, hx]), hs⟩)
  · exact (show False from h).elim
theorem at_a2 {f : Int → Int → Int} {g : Int32 → Int32 → Int32} (hfg : ∀ x y, (g x y).toInt = f x.toInt y.toInt) (row : ∀ H locs ls rest x y, G H locs sto (F0 mi (pc + 1) ls (.int (g x y) :: rest)) → G H locs sto (F0 mi pc ls (.int y :: .int x :: rest))) (h : Nx G V mi b nL nF sto (a2 f pc L st)) : At G V mi b nL pc L st sto := by
  unfold a2 at h
  split at h
  · intro H locs ls lv xs ws tys hV hl hL hr hs
    obtain ⟨y', ys, rfl, hy, hs⟩ := rvs_i hs
    obtain ⟨x', zs, rfl, hx, hs⟩ := rvs_i hs
    exact row _ _ _ _ _ _ (h H locs ls lv _ ws tys hV hl hL hr ⟨rvs_ii (by rw [hfg, hx, hy]), hs⟩)
  · exact (show False from h).elim
theorem at_a2n {f : Int → Int → Int} {g : Int32 → Int32 → Int32} (hfg : ∀ x y, (g x y).toInt = f x.toInt y.toInt) (row : ∀ H locs ls rest x y, ¬ y = 0 → G H locs sto (F0 mi (pc + 1) ls (.int (g x y) :: rest)) → G H locs sto (F0 mi pc ls (.int y :: .int x :: rest))) (h : Nx G V mi b nL nF sto (a2n f pc L st)) : At G V mi b nL pc L st sto := by
  unfold a2n at h
  split at h
  · split at h
    · exact (show False from h).elim
    · rename_i hne
      intro H locs ls lv xs ws tys hV hl hL hr hs
      obtain ⟨y', ys, rfl, hy, hs⟩ := rvs_i hs
      obtain ⟨x', zs, rfl, hx, hs⟩ := rvs_i hs
      exact row _ _ _ _ _ _ (fun h0 => hne (by rw [← hy, h0]; rfl)) (h H locs ls lv _ ws tys hV hl hL hr ⟨rvs_ii (by rw [hfg, hx, hy]), hs⟩)
  · exact (show False from h).elim
theorem at_l2 {f : Int → Int → Int} {g : Int64 → Int64 → Int64} (hfg : ∀ x y, (g x y).toInt = f x.toInt y.toInt) (row : ∀ H locs ls rest x y, G H locs sto (F0 mi (pc + 1) ls (.long (g x y) :: rest)) → G H locs sto (F0 mi pc ls (.long y :: .long x :: rest))) (h : Nx G V mi b nL nF sto (l2 f pc L st)) : At G V mi b nL pc L st sto := by
  unfold l2 at h
  split at h
  · intro H locs ls lv xs ws tys hV hl hL hr hs
    obtain ⟨y', ys, rfl, hy, hs⟩ := rvs_l hs
    obtain ⟨x', zs, rfl, hx, hs⟩ := rvs_l hs
    exact row _ _ _ _ _ _ (h H locs ls lv _ ws tys hV hl hL hr ⟨rvs_ll (by rw [hfg, hx, hy]), hs⟩)
  · exact (show False from h).elim
theorem at_l2n {f : Int → Int → Int} {g : Int64 → Int64 → Int64} (hfg : ∀ x y, (g x y).toInt = f x.toInt y.toInt) (row : ∀ H locs ls rest x y, ¬ y = 0 → G H locs sto (F0 mi (pc + 1) ls (.long (g x y) :: rest)) → G H locs sto (F0 mi pc ls (.long y :: .long x :: rest))) (h : Nx G V mi b nL nF sto (l2n f pc L st)) : At G V mi b nL pc L st sto := by
  unfold l2n at h
  split at h
  · split at h
    · exact (show False from h).elim
    · rename_i hne
      intro H locs ls lv xs ws tys hV hl hL hr hs
      obtain ⟨y', ys, rfl, hy, hs⟩ := rvs_l hs
      obtain ⟨x', zs, rfl, hx, hs⟩ := rvs_l hs
      exact row _ _ _ _ _ _ (fun h0 => hne (by rw [← hy, h0]; rfl)) (h H locs ls lv _ ws tys hV hl hL hr ⟨rvs_ll (by rw [hfg, hx, hy]), hs⟩)
  · exact (show False from h).elim
/-- a number is pushed -/
theorem at_pi {w : Nat} {i : Int} {v : Int32} (hv : v.toInt = i) (row : ∀ H locs ls rest, G H locs sto (F0 mi (pc + w) ls (.int v :: rest)) → G H locs sto (F0 mi pc ls rest)) (h : At G V mi b nL (pc + w) L ((1, i) :: st) sto) : At G V mi b nL pc L st sto := by
  intro H locs ls lv xs ws tys hV hl hL hr hs
  exact row _ _ _ _ (h H locs ls lv _ ws tys hV hl hL hr ⟨rvs_ii hv, hs⟩)
theorem at_pl {w : Nat} {i : Int} {v : Int64} (hv : v.toInt = i) (row : ∀ H locs ls rest, G H locs sto (F0 mi (pc + w) ls (.long v :: rest)) → G H locs sto (F0 mi pc ls rest)) (h : At G V mi b nL (pc + w) L ((2, i) :: st) sto) : At G V mi b nL pc L st sto := by
  intro H locs ls lv xs ws tys hV hl hL hr hs
  exact row _ _ _ _ (h H locs ls lv _ ws tys hV hl hL hr ⟨rvs_ll hv, hs⟩)
theorem at_ld {t i w : Nat} (ht : t ≠ 0) (row : ∀ (ws : va_W) (v : Vl) (x : Value) H locs (ls : Array Slot) rest, v.1 = t → rvl ws b v x → ls[i]? = some (.val x) → G H locs sto (F0 mi (pc + w) ls (x :: rest)) → G H locs sto (F0 mi pc ls rest)) (h : Nx G V mi b nL nF sto (ldA t i w pc L st)) : At G V mi b nL pc L st sto := by
  unfold ldA at h
  split at h
  · rename_i u x hn
    split at h
    · rename_i hu
      subst hu
      intro H locs ls lv xs ws tys hV hl hL hr hs
      rw [nth_get] at hn
      obtain ⟨y, h1, h2⟩ := hr i _ hn ht
      exact row ws (u, x) y _ _ _ _ rfl h2 (hl.2.2 _ h1) (h H locs ls lv _ ws tys hV hl hL hr ⟨h2, hs⟩)
    · exact (show False from h).elim
  · exact (show False from h).elim
theorem at_st {t i w : Nat} (row : ∀ (ws : va_W) (v : Vl) (x : Value) (lv : List (Nat × Value)) H locs (ls : Array Slot) rest, v.1 = t → rvl ws b v x → lv_has ls nL lv → i < nL → (∀ ls', lv_has ls' nL ((i, x) :: lv.filter (fun q => !(q.1 == i) && !(q.1 + 1 == i && q.2.category == 2))) → G H locs sto (F0 mi (pc + w) ls' rest)) → G H locs sto (F0 mi pc ls (x :: rest))) (h : Nx G V mi b nL nF sto (stA t i w pc L st)) : At G V mi b nL pc L st sto := by
  unfold stA at h
  split at h
  · rename_i u x r
    split at h
    · rename_i hu
      obtain ⟨rfl, hi⟩ := hu
      intro H locs ls lv xs ws tys hV hl hL hr hs
      obtain ⟨y, ys, rfl, h1, h2⟩ := rvs_cons hs
      exact row ws (u, x) y lv _ _ _ _ rfl h1 hl (by omega) (fun ls' hl' => h H locs ls' _ _ ws tys hV hl' (by rw [stL_len]; exact hL) (rls_st1 hr h1) h2)
    · exact (show False from h).elim
  · exact (show False from h).elim
theorem at_st2 {i w : Nat} (row : ∀ (x : Int64) (lv : List (Nat × Value)) H locs (ls : Array Slot) rest, lv_has ls nL lv → i + 1 < nL → (∀ ls', lv_has ls' nL ((i, .long x) :: lv.filter (fun q => !(q.1 == i) && (!(q.1 == i + 1) && !(q.1 + 1 == i && q.2.category == 2)))) → G H locs sto (F0 mi (pc + w) ls' rest)) → G H locs sto (F0 mi pc ls (.long x :: rest))) (h : Nx G V mi b nL nF sto (stA2 i w pc L st)) : At G V mi b nL pc L st sto := by
  unfold stA2 at h
  split at h
  · rename_i x r
    split at h
    · rename_i hi
      intro H locs ls lv xs ws tys hV hl hL hr hs
      obtain ⟨y, ys, rfl, h1, h2⟩ := rvs_l hs
      exact row y lv _ _ _ _ hl (by omega) (fun ls' hl' => h H locs ls' _ _ ws tys hV hl' (by rw [stL_len, List.length_set]; exact hL) (rls_st2 hr (rvs_ll h1)) h2)
    · exact (show False from h).elim
  · exact (show False from h).elim
theorem at_inc {i len : Nat} {n : Int} (row : len = 3 → ∀ (x : Int32) (lv : List (Nat × Value)) (k : Nat) H locs (ls : Array Slot) rest, lv[k]? = some (i, .int x) → lv_has ls nL lv → i < nL → (∀ ls', lv_has ls' nL ((i, .int (x + Int32.ofInt n)) :: lv.filter (fun q => !(q.1 == i) && !(q.1 + 1 == i && q.2.category == 2))) → G H locs sto (F0 mi (pc + 3) ls' rest)) → G H locs sto (F0 mi pc ls rest)) (h : Nx G V mi b nL nF sto (inA i n len pc L st)) : At G V mi b nL pc L st sto := by
  unfold inA at h
  split at h
  · rename_i x hn
    split at h
    · rename_i hlen
      intro H locs ls lv xs ws tys hV hl hL hr hs
      rw [nth_get] at hn
      obtain ⟨y, h1, h2⟩ := hr i _ hn (by simp)
      obtain ⟨y', rfl, hy⟩ := rvl_int h2
      obtain ⟨k, hk⟩ := List.getElem?_of_mem h1
      have hi : i < nL := by rw [← hL]; exact (List.getElem?_eq_some_iff.mp hn).1
      refine row hlen y' lv k _ _ _ _ hk hl hi (fun ls' hl' => h H locs ls' _ _ ws tys hV hl' (by rw [stL_len]; exact hL) (rls_st1 hr (rvs_ii ?_)) hs)
      rw [Int32.toInt_add, Int32.toInt_ofInt, hy]
      rfl
    · exact (show False from h).elim
  · exact (show False from h).elim
theorem at_jmp {off : Int} (row : ∀ (tgt : Nat) H locs ls rest, (pc : Int) + off = (tgt : Int) → G H locs sto (F0 mi tgt ls rest) → G H locs sto (F0 mi pc ls rest)) (h : Nx G V mi b nL nF sto (jmp pc off L st)) : At G V mi b nL pc L st sto := by
  unfold jmp at h
  split at h
  · intro H locs ls lv xs ws tys hV hl hL hr hs
    exact row _ _ _ _ _ (by omega) (h H locs ls lv _ ws tys hV hl hL hr hs)
  · exact (show False from h).elim
theorem at_if {cn : ClassFile.Cond} {off : Int} {P : Int32 → Prop} (hP : ∀ x, P x ↔ cmpB cn x.toInt 0 = true) (row : ∀ (tgt : Nat) H locs ls rest x, (pc : Int) + off = (tgt : Int) → (P x → G H locs sto (F0 mi tgt ls rest)) → (¬ P x → G H locs sto (F0 mi (pc + 3) ls rest)) → G H locs sto (F0 mi pc ls (.int x :: rest))) (h : Nx G V mi b nL nF sto (ifA cn off pc L st)) : At G V mi b nL pc L st sto := by
  unfold ifA at h
  split at h
  · unfold brA at h
    split at h
    · intro H locs ls lv xs ws tys hV hl hL hr hs
      obtain ⟨y', ys, rfl, hy, hs⟩ := rvs_i hs
      refine row ((pc : Int) + off).toNat _ _ _ _ _ (by omega) (fun hp => ?_) (fun hp => ?_)
      · rw [hP, hy] at hp
        have h : if (cmpB cn _ 0 = true) then _ else _ := h
        rw [if_pos hp] at h
        exact h H locs ls lv _ ws tys hV hl hL hr hs
      · rw [hP, hy] at hp
        have h : if (cmpB cn _ 0 = true) then _ else _ := h
        rw [if_neg hp] at h
        exact h H locs ls lv _ ws tys hV hl hL hr hs
    · exact (show False from h).elim
  · exact (show False from h).elim
theorem at_ic {cn : ClassFile.Cond} {off : Int} {P : Int32 → Int32 → Prop} (hP : ∀ x y, P x y ↔ cmpB cn x.toInt y.toInt = true) (row : ∀ (tgt : Nat) H locs ls rest x y, (pc : Int) + off = (tgt : Int) → (P x y → G H locs sto (F0 mi tgt ls rest)) → (¬ P x y → G H locs sto (F0 mi (pc + 3) ls rest)) → G H locs sto (F0 mi pc ls (.int y :: .int x :: rest))) (h : Nx G V mi b nL nF sto (icA cn off pc L st)) : At G V mi b nL pc L st sto := by
  unfold icA at h
  split at h
  · unfold brA at h
    split at h
    · intro H locs ls lv xs ws tys hV hl hL hr hs
      obtain ⟨y', ys, rfl, hy, hs⟩ := rvs_i hs
      obtain ⟨x', zs, rfl, hx, hs⟩ := rvs_i hs
      refine row ((pc : Int) + off).toNat _ _ _ _ _ _ (by omega) (fun hp => ?_) (fun hp => ?_)
      · rw [hP, hy, hx] at hp
        have h : if (cmpB cn _ _ = true) then _ else _ := h
        rw [if_pos hp] at h
        exact h H locs ls lv _ ws tys hV hl hL hr hs
      · rw [hP, hy, hx] at hp
        have h : if (cmpB cn _ _ = true) then _ else _ := h
        rw [if_neg hp] at h
        exact h H locs ls lv _ ws tys hV hl hL hr hs
    · exact (show False from h).elim
  · exact (show False from h).elim
theorem at_ts {dflt lo hi : Int} {offs : Array Int} (row1 : ∀ (tgt : Nat) H locs ls rest (x : Int32), (pc : Int) + dflt = (tgt : Int) → (x.toInt < lo ∨ hi < x.toInt) → G H locs sto (F0 mi tgt ls rest) → G H locs sto (F0 mi pc ls (.int x :: rest)))
    (row2 : ∀ (tgt : Nat) (off : Int) H locs ls rest (x : Int32), (pc : Int) + off = (tgt : Int) → ¬ x.toInt < lo → ¬ hi < x.toInt → offs[(x.toInt - lo).toNat]? = some off → G H locs sto (F0 mi tgt ls rest) → G H locs sto (F0 mi pc ls (.int x :: rest)))
    (h : Nx G V mi b nL nF sto (tsA dflt lo hi offs pc L st)) : At G V mi b nL pc L st sto := by
  unfold tsA at h
  split at h
  · intro H locs ls lv xs ws tys hV hl hL hr hs
    obtain ⟨x', zs, rfl, hx, hs⟩ := rvs_i hs
    split at h
    · rename_i hc
      unfold jmp at h
      split at h
      · exact row1 ((pc : Int) + dflt).toNat _ _ _ _ _ (by omega) (by rw [hx]; exact hc) (h H locs ls lv _ ws tys hV hl hL hr hs)
      · exact (show False from h).elim
    · rename_i hc
      split at h
      · rename_i off ho
        unfold jmp at h
        split at h
        · exact row2 ((pc : Int) + off).toNat off _ _ _ _ _ (by omega) (by rw [hx]; omega) (by rw [hx]; omega) (by rw [hx]; exact ho) (h H locs ls lv _ ws tys hV hl hL hr hs)
        · exact (show False from h).elim
      · exact (show False from h).elim
  · exact (show False from h).elim
theorem at_lk {dflt : Int} {ps : Array (Int × Int)} (row : ∀ (tgt : Nat) (off : Int) H locs ls rest (x : Int32), (pc : Int) + off = (tgt : Int) → Op.lookupswitch.offset ps.toList dflt x.toInt = off → G H locs sto (F0 mi tgt ls rest) → G H locs sto (F0 mi pc ls (.int x :: rest))) (h : Nx G V mi b nL nF sto (lkA dflt ps pc L st)) : At G V mi b nL pc L st sto := by
  unfold lkA at h
  split at h
  · rename_i x r
    intro H locs ls lv xs ws tys hV hl hL hr hs
    obtain ⟨x', zs, rfl, hx, hs⟩ := rvs_i hs
    unfold jmp at h
    split at h
    · rename_i h0
      exact row ((pc : Int) + Op.lookupswitch.offset ps.toList dflt x).toNat (Op.lookupswitch.offset ps.toList dflt x) _ _ _ _ _ (by omega) (by rw [hx]) (h H locs ls lv _ ws tys hV hl hL hr hs)
    · exact (show False from h).elim
  · exact (show False from h).elim
theorem at_lc (row : ∀ H locs ls rest (x y : Int64), G H locs sto (F0 mi (pc + 1) ls (.int (lg_cmp x y) :: rest)) → G H locs sto (F0 mi pc ls (.long y :: .long x :: rest))) (h : Nx G V mi b nL nF sto (lcA pc L st)) : At G V mi b nL pc L st sto := by
  unfold lcA at h
  split at h
  · intro H locs ls lv xs ws tys hV hl hL hr hs
    obtain ⟨y', ys, rfl, hy, hs⟩ := rvs_l hs
    obtain ⟨x', zs, rfl, hx, hs⟩ := rvs_l hs
    refine row _ _ _ _ _ _ (h H locs ls lv _ ws tys hV hl hL hr ⟨rvs_ii ?_, hs⟩)
    rw [← hx, ← hy]
    unfold lg_cmp xlcmp
    by_cases h1 : y' < x'
    · rw [if_pos h1, if_pos (Int64.lt_iff_toInt_lt.mp h1)]; rfl
    · rw [if_neg h1, if_neg (fun h2 => h1 (Int64.lt_iff_toInt_lt.mpr h2))]
      by_cases h2 : x' = y'
      · rw [if_pos h2, if_pos (by rw [h2])]; rfl
      · rw [if_neg h2, if_neg (fun h3 => h2 (Int64.toInt_inj.mp h3))]; rfl
  · exact (show False from h).elim
theorem at_il (row : ∀ H locs ls rest (x : Int32), G H locs sto (F0 mi (pc + 1) ls (.long x.toInt64 :: rest)) → G H locs sto (F0 mi pc ls (.int x :: rest))) (h : Nx G V mi b nL nF sto (ilA pc L st)) : At G V mi b nL pc L st sto := by
  unfold ilA at h
  split at h
  · intro H locs ls lv xs ws tys hV hl hL hr hs
    obtain ⟨x', zs, rfl, hx, hs⟩ := rvs_i hs
    exact row _ _ _ _ _ (h H locs ls lv _ ws tys hV hl hL hr ⟨rvs_ll (by rw [← hx]; exact Int32.toInt_toInt64 x'), hs⟩)
  · exact (show False from h).elim
theorem at_dp (row : ∀ H locs ls rest (x : Value), x.category = 1 → G H locs sto (F0 mi (pc + 1) ls (x :: x :: rest)) → G H locs sto (F0 mi pc ls (x :: rest))) (h : Nx G V mi b nL nF sto (dpA pc L st)) : At G V mi b nL pc L st sto := by
  unfold dpA at h
  split at h
  · split at h
    · rename_i hv
      intro H locs ls lv xs ws tys hV hl hL hr hs
      obtain ⟨y, ys, rfl, h1, h2⟩ := rvs_cons hs
      have hc := rvl_cat h1
      rw [if_neg (by omega)] at hc
      exact row _ _ _ _ _ hc (h H locs ls lv _ ws tys hV hl hL hr ⟨h1, h1, h2⟩)
    · exact (show False from h).elim
  · exact (show False from h).elim
theorem at_d2 (row2 : ∀ H locs ls rest (x : Value), x.category = 2 → G H locs sto (F0 mi (pc + 1) ls (x :: x :: rest)) → G H locs sto (F0 mi pc ls (x :: rest))) (row11 : ∀ H locs ls rest (x y : Value), x.category = 1 → y.category = 1 → G H locs sto (F0 mi (pc + 1) ls (x :: y :: x :: y :: rest)) → G H locs sto (F0 mi pc ls (x :: y :: rest))) (h : Nx G V mi b nL nF sto (d2A pc L st)) : At G V mi b nL pc L st sto := by
  unfold d2A at h
  split at h
  · intro H locs ls lv xs ws tys hV hl hL hr hs
    obtain ⟨y, ys, rfl, h1, h2⟩ := rvs_cons hs
    obtain ⟨z, zs, rfl, h3, h4⟩ := rvs_cons h2
    have hc := rvl_cat h1
    have hd := rvl_cat h3
    split at h
    · rename_i hv
      rw [if_pos hv] at hc
      exact row2 _ _ _ _ _ hc (h H locs ls lv _ ws tys hV hl hL hr ⟨h1, h1, h3, h4⟩)
    · split at h
      · rename_i hv
        rw [if_neg (by omega)] at hc hd
        exact row11 _ _ _ _ _ _ hc hd (h H locs ls lv _ ws tys hV hl hL hr ⟨h1, h3, h1, h3, h4⟩)
      · exact (show False from h).elim
  · exact (show False from h).elim
theorem at_mm {r2 : Int} (row : ∀ H locs ls rest (x y : Int32), (rest.map fun v => v.category).sum ≤ 8 → G H locs sto (F0 mi (pc + 3) ls (.int (if r2 = 1 then (if y < x then y else x) else (if x < y then y else x)) :: rest)) → G H locs sto (F0 mi pc ls (.int y :: .int x :: rest))) (h : Nx G V mi b nL nF sto (mmA r2 pc L st)) : At G V mi b nL pc L st sto := by
  unfold mmA at h
  split at h
  · split at h
    · rename_i hc
      intro H locs ls lv xs ws tys hV hl hL hr hs
      obtain ⟨y', ys, rfl, hy, hs⟩ := rvs_i hs
      obtain ⟨x', zs, rfl, hx, hs⟩ := rvs_i hs
      refine row _ _ _ _ _ _ (by rw [rvs_cats hs]; exact hc) (h H locs ls lv _ ws tys hV hl hL hr ⟨rvs_ii ?_, hs⟩)
      rw [← hx, ← hy]
      by_cases h0 : r2 = 1
      · rw [if_pos h0, if_pos h0]
        by_cases h1 : y' < x'
        · rw [if_pos h1, if_pos (Int32.lt_iff_toInt_lt.mp h1)]
        · rw [if_neg h1, if_neg (fun h2 => h1 (Int32.lt_iff_toInt_lt.mpr h2))]
      · rw [if_neg h0, if_neg h0]
        by_cases h1 : x' < y'
        · rw [if_pos h1, if_pos (Int32.lt_iff_toInt_lt.mp h1)]
        · rw [if_neg h1, if_neg (fun h2 => h1 (Int32.lt_iff_toInt_lt.mpr h2))]
    · exact (show False from h).elim
  · exact (show False from h).elim
end PURE

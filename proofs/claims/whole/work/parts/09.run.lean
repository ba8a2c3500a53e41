/-! A RUN OF THE SMALL MACHINE IS A RUN OF THE BIG ONE. -/
theorem iB_eq (f : Int32 → Int32 → Int32) (x y : Int32) : (f x y).toInt = iB f x.toInt y.toInt := by
  unfold iB; rw [Int32.ofInt_toInt, Int32.ofInt_toInt]
theorem lB_eq (f : Int64 → Int64 → Int64) (x y : Int64) : (f x y).toInt = lB f x.toInt y.toInt := by
  unfold lB; rw [Int64.ofInt_toInt, Int64.ofInt_toInt]
theorem c_eq (x y : Int32) : x = y ↔ cmpB .eq x.toInt y.toInt = true := by
  unfold cmpB; rw [decide_eq_true_iff, Int32.toInt_inj]
theorem c_ne (x y : Int32) : ¬ x = y ↔ cmpB .ne x.toInt y.toInt = true := by
  unfold cmpB; rw [decide_eq_true_iff, ne_eq, Int32.toInt_inj]
theorem c_lt (x y : Int32) : x < y ↔ cmpB .lt x.toInt y.toInt = true := by
  unfold cmpB; rw [decide_eq_true_iff, Int32.lt_iff_toInt_lt]
theorem c_ge (x y : Int32) : y ≤ x ↔ cmpB .ge x.toInt y.toInt = true := by
  unfold cmpB; rw [decide_eq_true_iff, Int32.le_iff_toInt_le]
theorem c_gt (x y : Int32) : y < x ↔ cmpB .gt x.toInt y.toInt = true := by
  unfold cmpB; rw [decide_eq_true_iff, Int32.lt_iff_toInt_lt]
theorem c_le (x y : Int32) : x ≤ y ↔ cmpB .le x.toInt y.toInt = true := by
  unfold cmpB; rw [decide_eq_true_iff, Int32.le_iff_toInt_le]
theorem bm32 {n : Int} (h1 : -2147483648 ≤ n) (h2 : n < 2147483648) : Int.bmod n 4294967296 = n := by
  simp only [Int.bmod]; split <;> omega
theorem bm8 {n : Int} (h1 : -128 ≤ n) (h2 : n ≤ 127) : Int.bmod n 256 = n := by
  simp only [Int.bmod]; split <;> omega
theorem bm16 {n : Int} (h1 : -32768 ≤ n) (h2 : n ≤ 32767) : Int.bmod n 65536 = n := by
  simp only [Int.bmod]; split <;> omega
theorem okE_spec {m o pc : Nat} {bs : ByteArray} {en : Ent} (h : okE m o bs pc en = true) (hn : isNu en.1 = false) : decode bs pc = .ok (en.1, en.2.1) ∧ en.2.1 = insLen en.1 en.2.1 ∧ okX m o en = true := by
  unfold okE at h
  rw [hn, Bool.false_or] at h
  simp only [Bool.and_eq_true, decide_eq_true_eq] at h
  exact ⟨h.1.1, h.1.2, h.2⟩
theorem ko_at {o i : Nat} {v : Int} (h : hasK koT o i v = true) : Cond.constant (oS o) i (Int32.ofInt v) ∈ gw_tbl ∧ (Int32.ofInt v).toInt = v := by
  unfold hasK at h
  obtain ⟨q, hq, hc⟩ := List.any_eq_true.mp h
  have hok := koT_ok q hq
  obtain ⟨o', i', v', w⟩ := q
  simp only [Bool.and_eq_true, beq_iff_eq, decide_eq_true_eq] at hc
  obtain ⟨⟨rfl, rfl⟩, rfl⟩ := hc
  simp only [okKo, Bool.and_eq_true, decide_eq_true_eq] at hok
  exact ⟨atW.mem hok.1, hok.2⟩
theorem kl_at {o i : Nat} {v : Int} (h : hasK klT o i v = true) : Cond.constantLong (oS o) i (Int64.ofInt v) ∈ gw_tbl ∧ (Int64.ofInt v).toInt = v := by
  unfold hasK at h
  obtain ⟨q, hq, hc⟩ := List.any_eq_true.mp h
  have hok := klT_ok q hq
  obtain ⟨o', i', v', w⟩ := q
  simp only [Bool.and_eq_true, beq_iff_eq, decide_eq_true_eq] at hc
  obtain ⟨⟨rfl, rfl⟩, rfl⟩ := hc
  simp only [okKl, Bool.and_eq_true, decide_eq_true_eq] at hok
  exact ⟨atW.mem hok.1, hok.2⟩
theorem mi_at {o i : Nat} (h : hasI miT o i = true) : Cond.methodLink (oS o) i Lib.Math.min.name ∈ gw_tbl := by
  unfold hasI at h
  obtain ⟨q, hq, hc⟩ := List.any_eq_true.mp h
  have hok := miT_ok q hq
  obtain ⟨o', i', w⟩ := q
  simp only [Bool.and_eq_true, beq_iff_eq] at hc
  obtain ⟨rfl, rfl⟩ := hc
  exact atW.mem hok
theorem mx_at {o i : Nat} (h : hasI mxT o i = true) : Cond.methodLink (oS o) i Lib.Math.max.name ∈ gw_tbl := by
  unfold hasI at h
  obtain ⟨q, hq, hc⟩ := List.any_eq_true.mp h
  have hok := mxT_ok q hq
  obtain ⟨o', i', w⟩ := q
  simp only [Bool.and_eq_true, beq_iff_eq] at hc
  obtain ⟨rfl, rfl⟩ := hc
  exact atW.mem hok
/-- what is known all along a method's run -/
def CX (p : Program) (R : Room) (s : State) (mi : MethodId) (args : Array Value) (meth : Method) (c : Code) (m n0 nF b L0 : Nat) (xs0 : Nat → Int32) (A : Nat → Prop) : Prop :=
  p.tables.exec = Jvm.exec ∧ c.code = mB m ∧ c.maxLocals = mL m ∧ (∀ w ∈ gw_tbl, w.before args s = true) ∧ s.vm.findClass (oS (mO m)) = some mi.cls ∧ (iniT.contains m = true → meth.name = "<init>") ∧ (mFr m ≤ R.frames ∧ mLo m ≤ R.locals) ∧ (∀ q, s.heap.size ≤ q → A q) ∧ va_X b L0 xs0 s s.heap ∧ b < s.heap.size ∧ ¬ A b ∧ L0 < 2147483648 ∧ va_AO "FasterForTheRich$Town" s ∧ nF - n0 ≤ R.cells ∧ SL nF - SL n0 ≤ R.slots
section MM
variable {G : Heap → List Loc → Sto → JFrame → Prop} {V : Heap → List Loc → va_W → List (ClassId × FieldType) → Sto → Prop} {mi : MethodId} {b nL nF : Nat} {pc : Nat} {L st : List Vl} {sto : Sto}
theorem at_mm2 {r2 : Int} (row : ∀ H locs ls rest (x y : Int32), ls.size = nL → (rest.map fun v => v.category).sum ≤ 8 → G H locs sto (F0 mi (pc + 3) ls (.int (if r2 = 1 then (if y < x then y else x) else (if x < y then y else x)) :: rest)) → G H locs sto (F0 mi pc ls (.int y :: .int x :: rest))) (h : Nx G V mi b nL nF sto (mmA r2 pc L st)) : At G V mi b nL pc L st sto := by
  unfold mmA at h
  split at h
  · split at h
    · rename_i hc
      intro H locs ls lv xs ws tys hV hl hL hr hs
      obtain ⟨y', ys, rfl, hy, hs⟩ := rvs_i hs
      obtain ⟨x', zs, rfl, hx, hs⟩ := rvs_i hs
      refine row _ _ _ _ _ _ hl.1 (by rw [rvs_cats hs]; exact hc) (h H locs ls lv _ ws tys hV hl hL hr ⟨rvs_ii ?_, hs⟩)
      rw [← hx, ← hy]
      by_cases h0 : r2 = 1
      · rw [if_pos h0, if_pos h0]
        by_cases h1 : y' < x'
        · rw [if_pos h1, if_pos (Int32.lt_iff_toInt_lt.mp h1)]
        · rw [if_neg h1, if_neg (fun h2 => h1 (Int32.lt_iff_toInt_lt.mpr h2))]
      · rw [if_neg h0, if_neg h0]
        by_cases h1 : x' < y'
        · rw [if_pos h1, if_pos (Int32.lt_iff_toInt_lt.mp h1)]
        · rw [if_neg h1, if_neg (fun h2 => h1 (Int32.lt_iff_toInt_lt.mpr h2))]
    · exact (show False from h).elim
  · exact (show False from h).elim
end MM
section STEP
variable {p : Program} {l : Launch} {e : Env} {R : Room} {s : State} {mi : MethodId} {args : Array Value} {below : List Frame} {meth : Method} {c : Code} {Q : State → Prop} {n0 : Nat}
variable {dC : Nat → ClassId} {dI : Nat → Nat → Nat} {b L0 : Nat} {xs0 : Nat → Int32} {A : Nat → Prop} {w0 : va_W} {nF m : Nat} {pc : Nat} {L st : List Vl} {sto : Sto}
set_option maxHeartbeats 4000000 in
theorem step_all {en : Ent} (X : CX p R s mi args meth c m n0 nF b L0 xs0 A) (hcN : sto.1 ≤ nF) (hnN : n0 ≤ sto.1) (hok : okE m (mO m) (mB m) pc en = true)
    (h : Nx (gW p l e R s mi args below meth c Q n0) (WX dC dI b L0 xs0 s A w0 n0) mi b (mL m) nF sto (act m en pc L st)) : At (gW p l e R s mi args below meth c Q n0) (WX dC dI b L0 xs0 s A w0 n0) mi b (mL m) pc L st sto := by
  obtain ⟨hx, hb, hml, hts, hown, hini, hRm, hA, hX, hbl, hbA, hL0, hAO, hRc, hRs⟩ := X
  obtain ⟨i, len, r1, r2⟩ := en
  have hs2 := SL_mono hcN
  have hs1 := SL_mono hnN
  cases i
  case aconst_null => exact (show False from h).elim
  all_goals obtain ⟨hd, hlen, hk⟩ := okE_spec hok rfl
  all_goals dsimp only at hd hlen
  all_goals try (dsimp only [insLen] at hlen; subst hlen)
  case iload_n n =>
    exact at_ld (by decide) (fun ws v x H locs ls rest hv hr hl k => by
      obtain ⟨v1, v2⟩ := v
      dsimp only at hv; subst hv
      obtain ⟨y, rfl, -⟩ := rvl_int hr
      exact lv_iload_n hx hb hd rfl hl k) h
  case iload n =>
    exact at_ld (by decide) (fun ws v x H locs ls rest hv hr hl k => by
      obtain ⟨v1, v2⟩ := v
      dsimp only at hv; subst hv
      obtain ⟨y, rfl, -⟩ := rvl_int hr
      exact lv_iload hx hb hd hl k) h
  case lload_n n =>
    exact at_ld (by decide) (fun ws v x H locs ls rest hv hr hl k => by
      obtain ⟨v1, v2⟩ := v
      dsimp only at hv; subst hv
      obtain ⟨y, rfl, -⟩ := rvl_long hr
      exact lv_lload_n hx hb hd rfl hl k) h
  case lload n =>
    exact at_ld (by decide) (fun ws v x H locs ls rest hv hr hl k => by
      obtain ⟨v1, v2⟩ := v
      dsimp only at hv; subst hv
      obtain ⟨y, rfl, -⟩ := rvl_long hr
      exact lv_lload hx hb hd hl k) h
  case aload_n n =>
    exact at_ld (by decide) (fun ws v x H locs ls rest hv hr hl k => by
      rcases hr with ⟨hv2, -⟩ | ⟨hv2, -⟩ | ⟨-, ⟨-, rfl⟩ | ⟨-, rfl⟩ | ⟨a, q, en, -, -, rfl⟩⟩
      · rw [hv] at hv2; exact absurd hv2 (by decide)
      · rw [hv] at hv2; exact absurd hv2 (by decide)
      · exact lv_aload_nN hx hb hd rfl hl k
      · exact lv_aload_n hx hb hd rfl hl k
      · exact lv_aload_n hx hb hd rfl hl k) h
  case aload n =>
    exact at_ld (by decide) (fun ws v x H locs ls rest hv hr hl k => by
      rcases hr with ⟨hv2, -⟩ | ⟨hv2, -⟩ | ⟨-, ⟨-, rfl⟩ | ⟨-, rfl⟩ | ⟨a, q, en, -, -, rfl⟩⟩
      · rw [hv] at hv2; exact absurd hv2 (by decide)
      · rw [hv] at hv2; exact absurd hv2 (by decide)
      · exact lv_aloadN hx hb hd hl k
      · exact lv_aload hx hb hd hl k
      · exact lv_aload hx hb hd hl k) h
  case istore_n n =>
    exact at_st (fun ws v x lv H locs ls rest hv hr hl hn k => by
      obtain ⟨v1, v2⟩ := v
      dsimp only at hv; subst hv
      obtain ⟨y, rfl, -⟩ := rvl_int hr
      exact lv_istore_n hx hb hd rfl hl hn rfl k) h
  case istore n =>
    exact at_st (fun ws v x lv H locs ls rest hv hr hl hn k => by
      obtain ⟨v1, v2⟩ := v
      dsimp only at hv; subst hv
      obtain ⟨y, rfl, -⟩ := rvl_int hr
      exact lv_istore hx hb hd hl hn rfl k) h
  case astore_n n =>
    exact at_st (fun ws v x lv H locs ls rest hv hr hl hn k => by
      rcases hr with ⟨hv2, -⟩ | ⟨hv2, -⟩ | ⟨-, ⟨-, rfl⟩ | ⟨-, rfl⟩ | ⟨a, q, en, -, -, rfl⟩⟩
      · rw [hv] at hv2; exact absurd hv2 (by decide)
      · rw [hv] at hv2; exact absurd hv2 (by decide)
      · exact lv_astore_nN hx hb hd rfl hl hn rfl k
      · exact lv_astore_n hx hb hd rfl hl hn rfl k
      · exact lv_astore_n hx hb hd rfl hl hn rfl k) h
  case lstore_n n =>
    exact at_st2 (fun x lv H locs ls rest hl hn k => lv_lstore_n hx hb hd rfl hl hn rfl k) h
  case lstore n =>
    exact at_st2 (fun x lv H locs ls rest hl hn k => lv_lstore hx hb hd hl hn rfl k) h
  case iconst n =>
    have h : Nx _ _ _ _ _ _ _ (if -1 ≤ n ∧ n ≤ 5 then goA (pc + 1) L ((1, n) :: st) else stk) := h
    split at h
    · exact at_pi (v := Int32.ofInt n) (by rw [Int32.toInt_ofInt]; exact bm32 (by omega) (by omega)) (fun H locs ls rest k => lv_iconst hx hb hd rfl k) h
    · exact (show False from h).elim
  case bipush n =>
    have h : Nx _ _ _ _ _ _ _ (if -128 ≤ n ∧ n ≤ 127 then goA (pc + 2) L ((1, n) :: st) else stk) := h
    split at h
    · exact at_pi (v := (Int8.ofInt n).toInt32) (by rw [Int8.toInt_toInt32, Int8.toInt_ofInt]; exact bm8 (by omega) (by omega)) (fun H locs ls rest k => lv_bipush hx hb hd rfl k) h
    · exact (show False from h).elim
  case sipush n =>
    have h : Nx _ _ _ _ _ _ _ (if -32768 ≤ n ∧ n ≤ 32767 then goA (pc + 3) L ((1, n) :: st) else stk) := h
    split at h
    · exact at_pi (v := (Int16.ofInt n).toInt32) (by rw [Int16.toInt_toInt32, Int16.toInt_ofInt]; exact bm16 (by omega) (by omega)) (fun H locs ls rest k => lv_sipush hx hb hd rfl k) h
    · exact (show False from h).elim
  case ldc i =>
    obtain ⟨hw, hv⟩ := ko_at (show hasK koT (mO m) i r2 = true from hk)
    exact at_pi hv (fun H locs ls rest k => lv_ldc hx hb hown (hts _ hw) hd k) h
  case ldc_w i =>
    obtain ⟨hw, hv⟩ := ko_at (show hasK koT (mO m) i r2 = true from hk)
    exact at_pi hv (fun H locs ls rest k => lv_ldcw hx hb hown (hts _ hw) hd k) h
  case ldc2_w i =>
    obtain ⟨hw, hv⟩ := kl_at (show hasK klT (mO m) i r2 = true from hk)
    exact at_pl hv (fun H locs ls rest k => lv_ldc2 hx hb hown (hts _ hw) hd k) h
  case lconst n =>
    exact at_pl (v := Int64.ofNat n.val) (by have : ∀ n : Fin 2, (Int64.ofNat n.val).toInt = (n.val : Int) := by decide
                                             exact this n) (fun H locs ls rest k => lv_lconst hx hb hd rfl k) h
  case iadd => exact at_a2 (g := fun x y => x + y) (fun x y => Int32.toInt_add x y) (fun H locs ls rest x y k => lv_iadd hx hb hd k) h
  case isub => exact at_a2 (g := fun x y => x - y) (fun x y => Int32.toInt_sub x y) (fun H locs ls rest x y k => lv_isub hx hb hd k) h
  case imul => exact at_a2 (g := fun x y => x * y) (fun x y => Int32.toInt_mul x y) (fun H locs ls rest x y k => lv_imul hx hb hd k) h
  case iand => exact at_a2 (g := fun x y => x &&& y) (fun x y => iB_eq _ x y) (fun H locs ls rest x y k => lv_iand hx hb hd k) h
  case ior => exact at_a2 (g := fun x y => x ||| y) (fun x y => iB_eq _ x y) (fun H locs ls rest x y k => lv_ior hx hb hd k) h
  case ishl => exact at_a2 (g := fun x y => x <<< (y &&& 31)) (fun x y => iB_eq (fun x y => x <<< (y &&& 31)) x y) (fun H locs ls rest x y k => lv_ishl hx hb hd k) h
  case ishr => exact at_a2 (g := fun x y => x >>> (y &&& 31)) (fun x y => iB_eq (fun x y => x >>> (y &&& 31)) x y) (fun H locs ls rest x y k => lv_ishr hx hb hd k) h
  case iushr => exact at_a2 (g := fun x y => (x.toUInt32 >>> (y.toUInt32 &&& Int32.toUInt32 31)).toInt32) (fun x y => iB_eq (fun x y => (x.toUInt32 >>> (y.toUInt32 &&& Int32.toUInt32 31)).toInt32) x y) (fun H locs ls rest x y k => lv_iushr hx hb hd rfl k) h
  case idiv => exact at_a2n (g := fun x y => x / y) (fun x y => iB_eq _ x y) (fun H locs ls rest x y hne k => lv_idiv hx hb hd hne k) h
  case irem => exact at_a2n (g := fun x y => x - x / y * y) (fun x y => iB_eq (fun x y => x - x / y * y) x y) (fun H locs ls rest x y hne k => lv_irem hx hb hd hne k) h
  case ineg => exact at_a1 (g := fun x => -x) (fun x => Int32.toInt_neg x) (fun H locs ls rest x k => lv_ineg hx hb hd k) h
  case ladd => exact at_l2 (g := fun x y => x + y) (fun x y => Int64.toInt_add x y) (fun H locs ls rest x y k => lv_ladd hx hb hd k) h
  case lsub => exact at_l2 (g := fun x y => x - y) (fun x y => Int64.toInt_sub x y) (fun H locs ls rest x y k => lv_lsub hx hb hd k) h
  case lmul => exact at_l2 (g := fun x y => x * y) (fun x y => Int64.toInt_mul x y) (fun H locs ls rest x y k => lv_lmul hx hb hd k) h
  case ldiv => exact at_l2n (g := fun x y => x / y) (fun x y => lB_eq _ x y) (fun H locs ls rest x y hne k => lv_ldiv hx hb hd hne k) h
  case lrem => exact at_l2n (g := fun x y => x - x / y * y) (fun x y => lB_eq (fun x y => x - x / y * y) x y) (fun H locs ls rest x y hne k => lv_lrem hx hb hd hne k) h
  case lcmp => exact at_lc (fun H locs ls rest x y k => W.lcmp hx hb hd k) h
  case i2l => exact at_il (fun H locs ls rest x k => lv_i2l hx hb hd rfl k) h
  case iinc i n => exact at_inc (fun hl3 x lv k H locs ls rest hk2 hh hn kk => lv_iinc hx hb hd hh hk2 rfl hn rfl kk) h
  case dup => exact at_dp (fun H locs ls rest x hc k => lv_dup hx hb hd hc k) h
  case dup2 => exact at_d2 (fun H locs ls rest x hc k => lv_dup2_2 hx hb hd hc k) (fun H locs ls rest x y hc hc2 k => lv_dup2_11 hx hb hd hc hc2 k) h
  case goto off => exact at_jmp (fun tgt H locs ls rest ht k => lv_goto hx hb hd ht k) h
  case ifCond cn off =>
    cases cn
    case eq => exact at_if (P := fun x => x = 0) (fun x => c_eq x 0) (fun tgt H locs ls rest x ht kt kf => lv_if_eq hx hb hd ht kt kf) h
    case ne => exact at_if (P := fun x => ¬ x = 0) (fun x => c_ne x 0) (fun tgt H locs ls rest x ht kt kf => lv_if_ne hx hb hd ht kt (fun q => kf (fun z => z q))) h
    case lt => exact at_if (P := fun x => x < 0) (fun x => c_lt x 0) (fun tgt H locs ls rest x ht kt kf => lv_if_lt hx hb hd ht kt kf) h
    case ge => exact at_if (P := fun x => 0 ≤ x) (fun x => c_ge x 0) (fun tgt H locs ls rest x ht kt kf => lv_if_ge hx hb hd ht kt kf) h
    case gt => exact at_if (P := fun x => 0 < x) (fun x => c_gt x 0) (fun tgt H locs ls rest x ht kt kf => lv_if_gt hx hb hd ht kt kf) h
    case le => exact at_if (P := fun x => x ≤ 0) (fun x => c_le x 0) (fun tgt H locs ls rest x ht kt kf => lv_if_le hx hb hd ht kt kf) h
  case if_icmp cn off =>
    cases cn
    case eq => exact at_ic (P := fun x y => x = y) (fun x y => c_eq x y) (fun tgt H locs ls rest x y ht kt kf => lv_icmp_eq hx hb hd ht kt kf) h
    case ne => exact at_ic (P := fun x y => ¬ x = y) (fun x y => c_ne x y) (fun tgt H locs ls rest x y ht kt kf => lv_icmp_ne hx hb hd ht kt (fun q => kf (fun z => z q))) h
    case lt => exact at_ic (P := fun x y => x < y) (fun x y => c_lt x y) (fun tgt H locs ls rest x y ht kt kf => lv_icmp_lt hx hb hd ht kt kf) h
    case ge => exact at_ic (P := fun x y => y ≤ x) (fun x y => c_ge x y) (fun tgt H locs ls rest x y ht kt kf => lv_icmp_ge hx hb hd ht kt kf) h
    case gt => exact at_ic (P := fun x y => y < x) (fun x y => c_gt x y) (fun tgt H locs ls rest x y ht kt kf => lv_icmp_gt hx hb hd ht kt kf) h
    case le => exact at_ic (P := fun x y => x ≤ y) (fun x y => c_le x y) (fun tgt H locs ls rest x y ht kt kf => lv_icmp_le hx hb hd ht kt kf) h
  case tableswitch dflt lo hi offs => exact at_ts (fun tgt H locs ls rest x ht hc k => lv_tableOut hx hb hd hc ht k) (fun tgt off H locs ls rest x ht h1 h2 ho k => lv_tableIn hx hb hd h1 h2 ho ht k) h
  case lookupswitch dflt ps =>
    have hk : (ps.toList.zip (ps.toList.drop 1)).all (fun (a, next) => decide (a.1 < next.1)) = true := hk
    exact at_lk (fun tgt off H locs ls rest x ht ho k => lv_lookup hx hb hd hk ho ht k) h
  case getfield i =>
    exact at_gf (o := mO m) hx hb hts hown hk hd h
  case putfield i =>
    have hk : (cis r1).all (fun ci => has3 flT (mO m) i ci r2.toNat && ((cT ci r2.toNat).2.2.2 == false || (iniT.contains m && decide ((cT ci r2.toNat).1 = oS (mO m))))) = true := hk
    have hk1 : (cis r1).all (fun ci => has3 flT (mO m) i ci r2.toNat) = true := List.all_eq_true.mpr fun ci hc => (Bool.and_eq_true _ _ ▸ List.all_eq_true.mp hk ci hc).1
    have hk2 : ∀ ci ∈ cis r1, (cT ci r2.toNat).2.2.2 = true → meth.name = "<init>" ∧ (cT ci r2.toNat).1 = oS (mO m) := by
      intro ci hc hf
      have := List.all_eq_true.mp hk ci hc
      simp only [Bool.and_eq_true, Bool.or_eq_true, beq_iff_eq, decide_eq_true_eq] at this
      rcases this.2 with h0 | h0
      · rw [hf] at h0; cases h0
      · exact ⟨hini h0.1, h0.2⟩
    exact at_pf (o := mO m) hx hb hts hown hk1 hk2 hd h
  case iaload => exact at_ir hx hb hX hbl hbA hd h
  case baload => exact at_br hx hb hd h
  case aaload => exact at_ar hx hb hd h
  case iastore => exact at_iw hx hb hd h
  case bastore => exact at_bw hx hb hd h
  case aastore => exact at_aw hx hb hd h
  case arraylength => exact at_ln hx hb hX hbl hbA hL0 hd h
  case new i => exact at_new (o := mO m) hx hb hts hown hA hk hRc hRs hd h
  case newarray t =>
    cases t
    case int => exact at_na (ty := .int) rfl (Or.inl ⟨rfl, rfl⟩) hx hb hts hA (atW.mem acI_ok) hRc hRs hd h
    case boolean => exact at_na (ty := .boolean) rfl (Or.inr ⟨rfl, rfl⟩) hx hb hts hA (atW.mem acZ_ok) hRc hRs hd h
    all_goals exact (show False from h).elim
  case anewarray i => exact at_nr (o := mO m) hx hb hts hown hA hAO hk hRc hRs hd h
  case invokestatic i =>
    by_cases h0 : r2 = 0
    · have h : Nx _ _ _ _ _ _ _ (if r2 = 0 then caA r1 pc L st else mmA r2 pc L st) := h
      rw [if_pos h0] at h
      unfold caA at h
      split at h
      · exact (show False from h).elim
      · exact (show False from h).elim
    · have h : Nx _ _ _ _ _ _ _ (if r2 = 0 then caA r1 pc L st else mmA r2 pc L st) := h
      rw [if_neg h0] at h
      have hk : (if r2 = 0 then okRoom m r1 && hasM mlT (mO m) i r1 101 else (if r2 = 1 then hasI miT (mO m) i else hasI mxT (mO m) i) && decide (1 ≤ mFr m) && decide (21 ≤ mLo m)) = true := hk
      rw [if_neg h0] at hk
      simp only [Bool.and_eq_true, decide_eq_true_eq] at hk
      obtain ⟨⟨hk1, hk2⟩, hk3⟩ := hk
      refine at_mm2 (fun H locs ls rest x y hsz hc k => ?_) h
      by_cases h1 : r2 = 1
      · rw [if_pos h1] at k hk1
        exact va_mmin hx hb (by rw [hml, hsz]) hown (hts _ (mi_at hk1)) (hts _ (atW.mem miS_ok)) (hts _ (atW.mem maI_ok)) (hts _ (atW.mem miC_ok)) (Nat.le_trans hk2 hRm.1) (by have := Nat.le_trans hk3 hRm.2; omega) (by omega) (by omega) hd k
      · rw [if_neg h1] at k hk1
        exact va_mmax hx hb (by rw [hml, hsz]) hown (hts _ (mx_at hk1)) (hts _ (atW.mem mxS_ok)) (hts _ (atW.mem maI_ok)) (hts _ (atW.mem mxC_ok)) (Nat.le_trans hk2 hRm.1) (by have := Nat.le_trans hk3 hRm.2; omega) (by omega) (by omega) hd k
  case invokespecial i =>
    have h : Nx _ _ _ _ _ _ _ (if r2 = 1 then oiA pc L st else csA r1 pc L st) := h
    by_cases h0 : r2 = 1
    · rw [if_pos h0] at h
      have hk : (if r2 = 1 then hasI obT (mO m) i && decide (1 ≤ mFr m) && decide (12 ≤ mLo m) else okRoom m r1 && hasM mlT (mO m) i r1 100) = true := hk
      rw [if_pos h0] at hk
      simp only [Bool.and_eq_true, decide_eq_true_eq] at hk
      obtain ⟨⟨hk1, hk2⟩, hk3⟩ := hk
      exact at_oi (o := mO m) hx hb hml hts hown hk1 (Nat.le_trans hk2 hRm.1) (Nat.le_trans hk3 hRm.2) hd h
    · rw [if_neg h0] at h
      unfold csA at h
      split at h
      · unfold caA at h
        split at h
        · exact (show False from h).elim
        · exact (show False from h).elim
      · exact (show False from h).elim
  case invokevirtual i =>
    have h : Nx _ _ _ _ _ _ _ (cvA r1 r2 pc L st) := h
    unfold cvA at h
    split at h
    · rename_i ci hci
      by_cases hc : (if r2 = 0 then cC ci = (mY r1).cls else (cis r2.toNat).contains ci = true)
      · rw [if_pos hc] at h
        unfold caA at h
        by_cases hc2 : mNA r1 ≤ st.length ∧ cats (st.drop (mNA r1)) ≤ 8 ∧ cats (st.take (mNA r1)) ≤ mL r1
        · rw [if_pos hc2] at h
          exact (show False from h).elim
        · rw [if_neg hc2] at h
          exact (show False from h).elim
      · rw [if_neg hc] at h
        exact (show False from h).elim
    · exact (show False from h).elim
  case ireturn =>
    have h : Nx _ _ _ _ _ _ _ (reI m L st) := h
    unfold reI at h
    split at h
    · split at h
      · exact (show False from h).elim
      · exact (show False from h).elim
    · exact (show False from h).elim
  case lreturn =>
    have h : Nx _ _ _ _ _ _ _ (reL m L st) := h
    unfold reL at h
    split at h
    · split at h
      · exact (show False from h).elim
      · exact (show False from h).elim
    · exact (show False from h).elim
  case return_ =>
    have h : Nx _ _ _ _ _ _ _ (reV m L st) := h
    unfold reV at h
    split at h
    · split at h
      · exact (show False from h).elim
      · exact (show False from h).elim
    · exact (show False from h).elim
  all_goals exact (show False from h).elim
end STEP

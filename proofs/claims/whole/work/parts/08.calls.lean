/-! CALLS: what a method owes, and how a call uses it. -/
def cPc (dC : Nat → ClassId) (dI : Nat → Nat → Nat) (b L0 : Nat) (xs0 : Nat → Int32) (ws : va_W) (tys : List (ClassId × FieldType)) (sz : Nat) (xs : List Value) : Array Value → State → Prop :=
  va_Pc xs (fun U => va_P (dC, dI) classes ws U.heap ∧ va_K (dC, dI) classes tys U ∧ va_D (fun _ => True) ws ∧ va_X b L0 xs0 U U.heap ∧ b < U.heap.size ∧ va_AO "FasterForTheRich$Town" U ∧ U.heap.size = sz)
def cQc (dC : Nat → ClassId) (dI : Nat → Nat → Nat) (b L0 : Nat) (xs0 : Nat → Int32) (ws : va_W) (sz : Nat) (r : List Vl) (sto' : Sto) : Array Value → State → Outcome → State → Prop := fun _ st o t =>
  (∃ (xs1 : List Value) (ws1 : va_W) (tys1 : List (ClassId × FieldType)), o = .returned xs1.head? ∧ xs1.length ≤ 1 ∧ rvs ws1 b r xs1 ∧ wre ws1 tys1 b L0 xs0 sto' ∧ va_P (dC, dI) classes ws1 t.heap ∧ va_K (dC, dI) classes tys1 t ∧ va_D (va_A ws sz) ws1 ∧ ext ws ws1) ∧ va_F (va_A ws sz) st t
def cWs (j : Nat) : List Cond := .code (mY j) (mB j) (mL j) (mR j) :: gw_tbl
def cRm (j : Nat) (sto sto' : Sto) : Room := { frames := mFr j, cells := sto'.1 - sto.1, slots := SL sto'.1 - SL sto.1, locals := mLo j }
def MetOK (l : Launch) (j : Nat) (as : List Vl) (sto : Sto) (r : List Vl) (sto' : Sto) : Prop :=
  ∀ (dC : Nat → ClassId) (dI : Nat → Nat → Nat) (b L0 : Nat) (xs0 : Nat → Int32) (ws : va_W) (tys : List (ClassId × FieldType)) (sz : Nat) (xs : List Value), rvs ws b as xs → wre ws tys b L0 xs0 sto → (∀ (k q : Nat) (e : va_E), ws[k]? = some (q, e) → q ≠ b) → L0 < 2147483648 →
    Met l (mY j) (cWs j) (cRm j sto sto') (cPc dC dI b L0 xs0 ws tys sz xs) (cQc dC dI b L0 xs0 ws sz r sto') (sto'.1 - sto.1) (SL sto'.1 - SL sto.1) (va_A ws sz)
theorem cPc_blind {dC : Nat → ClassId} {dI : Nat → Nat → Nat} {b L0 : Nat} {xs0 : Nat → Int32} {ws : va_W} {tys : List (ClassId × FieldType)} {sz : Nat} {xs : List Value} : FrameBlind (cPc dC dI b L0 xs0 ws tys sz xs) := by
  intro a U g mk q
  obtain ⟨q0, qP, qK, qD, qX, qb, qA, qz⟩ := q
  exact ⟨q0, qP, va_K.moved (u := U) (U := U.calling g mk a) (Vm.Alike.refl U.vm) qK, qD, va_X.moved (u := U) (U := U.calling g mk a) (Vm.Alike.refl U.vm) qX, qb, va_AO.moved (u := U) (U := U.calling g mk a) (Vm.Alike.refl U.vm) qA, qz⟩
theorem gw_good {w : Cond} (h : w ∈ gw_tbl) : w ∈ gw_tbl ∧ ((w.onTables && w.keeps) = true ∨ ∃ ty, w = .arrayClass ty) := ⟨h, good_of_word (List.mem_filter.mp h).2⟩
theorem me_at {j : Nat} (h : j < 225) : (mY j).cls = oS (mO j) ∧ Cond.code (mY j) (mB j) (mL j) (mR j) ∈ gw_tbl ∧ Cond.initialized (oS (mO j)) ∈ gw_tbl ∧ (if mS j = true then Cond.static (mY j) ∈ gw_tbl else Cond.instanceMethod (mY j) ∈ gw_tbl) ∧ npar (mY j).desc = some (if mS j = true then mNA j else mNA j - 1) ∧ (mS j = true ∨ 1 ≤ mNA j) ∧ (oS (mO j) ≠ "java/lang/invoke/MethodHandle" ∧ oS (mO j) ≠ "java/lang/invoke/VarHandle") ∧ plainName (oS (mO j)) = true := by
  obtain ⟨q, hq, hc⟩ := List.any_eq_true.mp (List.all_eq_true.mp meT_has j (List.mem_range.mpr h))
  have hok := meT_ok q hq
  obtain ⟨j', w1, w2, w3, st⟩ := q
  have hj : j' = j := by simpa using hc
  subst hj
  simp only [okMe, okMH, Bool.and_eq_true, Bool.or_eq_true, decide_eq_true_eq] at hok
  obtain ⟨⟨⟨⟨⟨⟨⟨⟨h0, h1⟩, h2⟩, h3⟩, h4⟩, h5⟩, h6⟩, h7⟩, h8⟩ := hok
  subst h0
  refine ⟨h1, atW.mem h2, atW.mem h3, ?_, h5, h6, h7, h8⟩
  by_cases hs : mS j' = true
  · rw [if_pos hs] at h4 ⊢; exact atW.mem h4
  · rw [if_neg hs] at h4 ⊢; exact atW.mem h4
theorem ml_at {o i j kind : Nat} (h : hasM mlT o i j kind = true) : ∃ (w1 : Nat) (wl : List Nat), okMl (o, i, j, kind, w1, wl) = true := by
  unfold hasM at h
  obtain ⟨q, hq, hc⟩ := List.any_eq_true.mp h
  have hok := mlT_ok q hq
  obtain ⟨o', i', j', k', w1, wl⟩ := q
  simp only [Bool.and_eq_true, beq_iff_eq] at hc
  obtain ⟨⟨⟨rfl, rfl⟩, rfl⟩, rfl⟩ := hc
  exact ⟨w1, wl, hok⟩
theorem head_list : ∀ {xs : List Value}, xs.length ≤ 1 → xs.head?.toList = xs
  | [], _ => rfl
  | [_], _ => rfl
  | _ :: _ :: _, h => absurd h (by simp)
section CALL
variable {p : Program} {l : Launch} {e : Env} {R : Room} {s : State} {mi : MethodId} {args : Array Value} {below : List Frame} {meth : Method} {c : Code} {Q : State → Prop} {n0 : Nat}
variable {dC : Nat → ClassId} {dI : Nat → Nat → Nat} {b L0 : Nat} {xs0 : Nat → Int32} {A : Nat → Prop} {w0 : va_W} {nL nF : Nat} {pc : Nat} {L st : List Vl} {sto sto' : Sto} {cc : ByteArray}
theorem call_go {H : Heap} {locs : List Loc} {ls : Array Slot} {lv : List (Nat × Value)} {ws : va_W} {tys : List (ClassId × FieldType)} {r str : List Vl} {rest st0 : List Value} {a : Array Value}
    (hr : va_Run p l e R s mi args below meth c H locs (sto.1 - n0) (SL sto.1 - SL n0) (sto'.1 - sto.1) (SL sto'.1 - SL sto.1) (F0 mi pc ls st0) rest (cQc dC dI b L0 xs0 ws H.size r sto' a) (va_A ws H.size))
    (hV : WX dC dI b L0 xs0 s A w0 n0 H locs ws tys sto) (hle : sto.1 ≤ sto'.1) (hA : ∀ q, s.heap.size ≤ q → A q)
    (hl : lv_has ls nL lv) (hL : L.length = nL) (hrl : rls ws b L lv) (hs : rvs ws b str rest)
    (k : At (gW p l e R s mi args below meth c Q n0) (WX dC dI b L0 xs0 s A w0 n0) mi b nL (pc + 3) L (r ++ str) sto') :
    W p l e R s mi args below meth c H locs (sto.1 - n0) (SL sto.1 - SL n0) Q (F0 mi pc ls st0) := by
  intro T hT X
  obtain ⟨v, st₀, t, T', L', h0, X', hL', e1, e2, ⟨⟨xs1, ws1, tys1, ho, hlen, hrv, hw1, hP1, hK1, hD1, hx1⟩, hz, hk⟩, stp⟩ := hr T hT X
  obtain ⟨hK, hP, hD, hS, hw, hxt, hn⟩ := hV
  rw [h0] at hz hk
  have hv : v = xs1.head? := by injection ho
  subst hv
  have hAA : ∀ q, va_A ws H.size q → A q := fun q hq => by
    rcases hq with ⟨k2, e2, hq⟩ | hq
    · exact hD.2 k2 (q, e2) hq
    · exact hA q (Nat.le_trans hS.1 hq)
  have hvm : s.vm.Alike t.vm := by rw [← e2]; exact X'.warmed.alike
  have hV1 : WX dC dI b L0 xs0 s A w0 n0 T'.heap (locs ++ L') ws1 tys1 sto' :=
    ⟨va_K.moved hvm.symm hK1, by rw [e1]; exact hP1, hD1.weaken (fun _ q _ h => hAA q.1 h),
      ⟨Nat.le_trans hS.1 (by rw [e1]; exact hz), fun q h1 h2 => by rw [e1, hk q (Nat.lt_of_lt_of_le h1 hS.1) (fun z => h2 (hAA q z))]; exact hS.2.1 q h1 h2, fun q hq => by
        rcases List.mem_append.mp hq with h | h
        · exact hS.2.2 q h
        · exact hAA _ (hL' q h)⟩, hw1, ext_tr hxt hx1, Nat.le_trans hn hle⟩
  have kw := k T'.heap (locs ++ L') ls lv (xs1 ++ rest) ws1 tys1 hV1 hl hL (rls_ext hx1 hrl) (rvs_app hrv (rvs_ext hx1 hs))
  have hm1 := SL_mono hn
  have hm2 := SL_mono hle
  have e3 : sto.1 - n0 + (sto'.1 - sto.1) = sto'.1 - n0 := by omega
  have e4 : SL sto.1 - SL n0 + (SL sto'.1 - SL sto.1) = SL sto'.1 - SL n0 := by omega
  rw [e3, e4] at X'
  obtain ⟨t2, a1, b1⟩ := kw T' rfl X'
  rw [head_list hlen] at stp
  exact ⟨t2, stp t2 a1, b1⟩
theorem pre_go {H : Heap} {locs : List Loc} {ws : va_W} {tys : List (ClassId × FieldType)} {xs : List Value} (hV : WX dC dI b L0 xs0 s A w0 n0 H locs ws tys sto) (hX : va_X b L0 xs0 s s.heap) (hbl : b < s.heap.size) (hbA : ¬ A b) (hAO : va_AO "FasterForTheRich$Town" s) :
    ∀ U : State, U.heap = H → s.WarmedH U.vm → cPc dC dI b L0 xs0 ws tys H.size xs xs.toArray U := by
  intro U hU hW
  obtain ⟨hK, hP, hD, hS, hw, hxt, hn⟩ := hV
  refine ⟨rfl, by rw [hU]; exact hP, va_K.moved hW.alike hK, hD.weaken (fun _ _ _ _ => trivial), ?_, by rw [hU]; exact Nat.lt_of_lt_of_le hbl hS.1, va_AO.moved hW.alike hAO, by rw [hU]⟩
  rw [hU]
  exact va_X.moved hW.alike (va_X.kept hX (hS.2.1 b hbl hbA))
theorem apart_b {ws : va_W} (hD : va_D A ws) (hbA : ¬ A b) : ∀ (k q : Nat) (e : va_E), ws[k]? = some (q, e) → q ≠ b := fun k q e h hq => hbA (by rw [← hq]; exact hD.2 k (q, e) h)
theorem split_n {n : Nat} {xs : List Value} : xs = ((xs.take n).reverse).reverse ++ xs.drop n := by rw [List.reverse_reverse, List.take_append_drop]
/-- a static call -/
theorem at_cs {m o i j : Nat} {r : List Vl} (hx : p.tables.exec = Jvm.exec) (hb : c.code = cc) (hml : c.maxLocals = nL) (hts : ∀ w ∈ gw_tbl, w.before args s = true) (hown : s.vm.findClass (oS o) = some mi.cls) (hA : ∀ q, s.heap.size ≤ q → A q) (hX : va_X b L0 xs0 s s.heap) (hbl : b < s.heap.size) (hbA : ¬ A b) (hL0 : L0 < 2147483648) (hAO : va_AO "FasterForTheRich$Town" s)
    (hRm : mFr m ≤ R.frames ∧ mLo m ≤ R.locals) (hRc : nF - n0 ≤ R.cells) (hRs : SL nF - SL n0 ≤ R.slots) (hroom : okRoom m j = true) (hok : hasM mlT o i j 101 = true) (hdg : decode cc pc = .ok (.invokestatic i, 3))
    (hlen : mNA j ≤ st.length) (hcat : cats (st.drop (mNA j)) ≤ 8) (hM : MetOK l j (st.take (mNA j)).reverse sto r sto') (hle : sto.1 ≤ sto'.1) (hnF : sto'.1 ≤ nF)
    (k : At (gW p l e R s mi args below meth c Q n0) (WX dC dI b L0 xs0 s A w0 n0) mi b nL (pc + 3) L (r ++ st.drop (mNA j)) sto') : At (gW p l e R s mi args below meth c Q n0) (WX dC dI b L0 xs0 s A w0 n0) mi b nL pc L st sto := by
  intro H locs ls lv xs ws tys hV hl hL hr hs
  simp only [okRoom, Bool.and_eq_true, decide_eq_true_eq] at hroom
  obtain ⟨⟨hj, hf1⟩, hf2⟩ := hroom
  obtain ⟨w1, wl, hml2⟩ := ml_at hok
  obtain ⟨g1, g2, g3, g4, g5, g6, g7, g8⟩ := me_at hj
  simp only [okMl, Bool.and_eq_true, decide_eq_true_eq] at hml2
  obtain ⟨hst, hlk⟩ := hml2
  have hst' : mS j = true := by rw [hst]; rfl
  rw [if_neg (by decide), if_pos trivial] at hlk
  rw [if_pos hst'] at g4 g5
  have hd := hV.2.2.1
  have hmono := hV.2.2.2.2.2.2
  have hm1 := SL_mono hmono
  have hm2 := SL_mono hle
  have hm3 := SL_mono hnF
  have hys : ((xs.take (mNA j)).reverse).length = mNA j := by
    rw [List.length_reverse, List.length_take, rvs_len hs]; omega
  have hMet := hM dC dI b L0 xs0 ws tys H.size _ (rvs_rev (rvs_take (mNA j) hs)) hV.2.2.2.2.1 (apart_b hd hbA) hL0
  have hG : GoodIn gw_tbl (va_wsS (oS o) i (mY j) (cWs j)) := by
    intro w hw
    unfold va_wsS cWs at hw
    simp only [List.mem_append, List.mem_cons, List.not_mem_nil, or_false] at hw
    rcases hw with (rfl | rfl | rfl) | rfl | hw
    · exact gw_good (atW.mem hlk)
    · exact gw_good g4
    · rw [g1]; exact gw_good g3
    · exact gw_good g2
    · exact gw_good hw
  refine call_go (va_runS (cc := cc) (nL := nL) (Ts := gw_tbl) (n := mNA j) (As := (xs.take (mNA j)).reverse) (rest := xs.drop (mNA j)) ⟨hx, hb, hml, hown, hts⟩ hMet (va_cwS (ret := mR j) (bytes := mB j) (maxL := mL j) (mNA j) hts hG rfl rfl rfl ⟨by rw [g1]; exact g7.1, by rw [g1]; exact g7.2, g5⟩ ⟨Nat.le_trans hf1 hRm.1, Nat.le_trans hf2 hRm.2⟩) ⟨cPc_blind, pre_go hV hX hbl hbA hAO⟩ rfl hys hl.1 split_n (lv_room (by rw [rvs_cats (rvs_drop (mNA j) hs)]; exact hcat)) hdg ⟨by omega, by omega⟩) hV hle hA hl hL hr (rvs_drop (mNA j) hs) k
theorem rcv_at {n ci : Nat} {xs : List Value} {ws : va_W} {tys : List (ClassId × FieldType)} (h : rcv st n = some ci) (hs : rvs ws b st xs) (hw : wre ws tys b L0 xs0 sto) : 1 ≤ n ∧ ci < 6 ∧ ∃ (k q : Nat) (fs : List Value), ws[k]? = some (q, .inr (ci, fs)) ∧ (xs.take n).reverse = .ref q :: (xs.take (n - 1)).reverse := by
  unfold rcv at h
  split at h
  · rename_i a hn
    split at h
    · rename_i hc
      obtain ⟨h2, h0, hl1⟩ := hc
      cases h
      obtain ⟨x, hx1, hx2⟩ := rvs_nth (n - 1) hs hn
      obtain ⟨q, en, hq, rfl⟩ := rvl_ref hx2 h2
      have hcr := wre_at hw h2 hq
      rcases hcr with ⟨-, fs, rfl, hc6, -⟩ | ⟨z, -⟩ | ⟨z, -⟩ | ⟨z, -⟩
      · refine ⟨by omega, hc6, _, q, fs, hq, ?_⟩
        have hlt := (List.getElem?_eq_some_iff.mp hx1).1
        have : xs.take n = xs.take (n - 1) ++ [.ref q] := by
          have h3 : n = n - 1 + 1 := by omega
          rw [h3, List.take_add_one, Nat.add_sub_cancel, hx1]
          rfl
        rw [this, List.reverse_append]
        rfl
      · rw [hl1] at z; exact absurd z (by decide)
      · rw [hl1] at z; exact absurd z (by decide)
      · rw [hl1] at z; exact absurd z (by decide)
    · cases h
  · cases h
/-- a constructor's call -/
theorem at_ci {m o i j ci : Nat} {r : List Vl} (hx : p.tables.exec = Jvm.exec) (hb : c.code = cc) (hml : c.maxLocals = nL) (hts : ∀ w ∈ gw_tbl, w.before args s = true) (hown : s.vm.findClass (oS o) = some mi.cls) (hA : ∀ q, s.heap.size ≤ q → A q) (hX : va_X b L0 xs0 s s.heap) (hbl : b < s.heap.size) (hbA : ¬ A b) (hL0 : L0 < 2147483648) (hAO : va_AO "FasterForTheRich$Town" s)
    (hRm : mFr m ≤ R.frames ∧ mLo m ≤ R.locals) (hRc : nF - n0 ≤ R.cells) (hRs : SL nF - SL n0 ≤ R.slots) (hroom : okRoom m j = true) (hok : hasM mlT o i j 100 = true) (hdg : decode cc pc = .ok (.invokespecial i, 3)) (hrc : rcv st (mNA j) = some ci)
    (hlen : mNA j ≤ st.length) (hcat : cats (st.drop (mNA j)) ≤ 8) (hM : MetOK l j (st.take (mNA j)).reverse sto r sto') (hle : sto.1 ≤ sto'.1) (hnF : sto'.1 ≤ nF)
    (k : At (gW p l e R s mi args below meth c Q n0) (WX dC dI b L0 xs0 s A w0 n0) mi b nL (pc + 3) L (r ++ st.drop (mNA j)) sto') : At (gW p l e R s mi args below meth c Q n0) (WX dC dI b L0 xs0 s A w0 n0) mi b nL pc L st sto := by
  intro H locs ls lv xs ws tys hV hl hL hr hs
  simp only [okRoom, Bool.and_eq_true, decide_eq_true_eq] at hroom
  obtain ⟨⟨hj, hf1⟩, hf2⟩ := hroom
  obtain ⟨w1, wl, hml2⟩ := ml_at hok
  obtain ⟨g1, g2, g3, g4, g5, g6, g7, g8⟩ := me_at hj
  simp only [okMl, Bool.and_eq_true, decide_eq_true_eq] at hml2
  obtain ⟨hst, hlk⟩ := hml2
  have hst' : ¬ mS j = true := by rw [hst]; decide
  rw [if_pos trivial] at hlk
  simp only [Bool.and_eq_true, decide_eq_true_eq] at hlk
  obtain ⟨⟨hlk, hnm⟩, hrt⟩ := hlk
  rw [if_neg hst'] at g4 g5
  have hd := hV.2.2.1
  have hmono := hV.2.2.2.2.2.2
  have hm1 := SL_mono hmono
  have hm2 := SL_mono hle
  have hm3 := SL_mono hnF
  obtain ⟨hn1, hc6, kq, q, fs, hq, hrev⟩ := rcv_at hrc hs hV.2.2.2.2.1
  have hys : ((xs.take (mNA j - 1)).reverse).length = mNA j - 1 := by
    rw [List.length_reverse, List.length_take, rvs_len hs]; omega
  have hMet := hM dC dI b L0 xs0 ws tys H.size _ (rvs_rev (rvs_take (mNA j) hs)) hV.2.2.2.2.1 (apart_b hd hbA) hL0
  rw [hrev] at hMet
  have hcw : cWs j = Cond.code (mY j) (mB j) (mL j) none :: gw_tbl := by unfold cWs; rw [hrt]
  have hG : GoodIn gw_tbl (cWs j) := by
    intro w hw
    unfold cWs at hw
    simp only [List.mem_cons] at hw
    rcases hw with rfl | hw
    · exact gw_good g2
    · exact gw_good hw
  have hsp : xs = ((xs.take (mNA j - 1)).reverse).reverse ++ .ref q :: xs.drop (mNA j) := by
    have h1 := congrArg List.reverse hrev
    rw [List.reverse_reverse, List.reverse_cons] at h1
    calc xs = xs.take (mNA j) ++ xs.drop (mNA j) := (List.take_append_drop _ _).symm
      _ = _ := by rw [h1]; simp
  refine call_go (va_runI (cc := cc) (nL := nL) (Ts := gw_tbl) (n := mNA j - 1) (b := q) (As := (xs.take (mNA j - 1)).reverse) (rest := xs.drop (mNA j)) ⟨hx, hb, hml, hown, hts⟩ hMet (cwI (bytes := mB j) (maxL := mL j) (mNA j - 1) hts hG hcw rfl rfl (by rw [g1]; exact hts _ g3) (hts _ (atW.mem hlk)) (hts _ g4) hnm ⟨by rw [g1]; exact g7.1, by rw [g1]; exact g7.2, g5⟩ ⟨Nat.le_trans hf1 hRm.1, Nat.le_trans hf2 hRm.2⟩) ⟨cPc_blind, pre_go hV hX hbl hbA hAO⟩ rfl hys hl.1 hsp (lv_room (by rw [rvs_cats (rvs_drop (mNA j) hs)]; exact hcat)) hdg ⟨by omega, by omega⟩) hV hle hA hl hL hr (rvs_drop (mNA j) hs) k
/-- a virtual call -/
theorem at_cv {m o i j ci kind : Nat} {r : List Vl} (hx : p.tables.exec = Jvm.exec) (hb : c.code = cc) (hml : c.maxLocals = nL) (hts : ∀ w ∈ gw_tbl, w.before args s = true) (hown : s.vm.findClass (oS o) = some mi.cls) (hA : ∀ q, s.heap.size ≤ q → A q) (hX : va_X b L0 xs0 s s.heap) (hbl : b < s.heap.size) (hbA : ¬ A b) (hL0 : L0 < 2147483648) (hAO : va_AO "FasterForTheRich$Town" s)
    (hRm : mFr m ≤ R.frames ∧ mLo m ≤ R.locals) (hRc : nF - n0 ≤ R.cells) (hRs : SL nF - SL n0 ≤ R.slots) (hroom : okRoom m j = true) (hok : hasM mlT o i j kind = true) (hdg : decode cc pc = .ok (.invokevirtual i, 3)) (hrc : rcv st (mNA j) = some ci) (hk100 : kind ≠ 100) (hk101 : kind ≠ 101) (hkind : if kind = 0 then cC ci = (mY j).cls else (cis kind).contains ci = true)
    (hlen : mNA j ≤ st.length) (hcat : cats (st.drop (mNA j)) ≤ 8) (hM : MetOK l j (st.take (mNA j)).reverse sto r sto') (hle : sto.1 ≤ sto'.1) (hnF : sto'.1 ≤ nF)
    (k : At (gW p l e R s mi args below meth c Q n0) (WX dC dI b L0 xs0 s A w0 n0) mi b nL (pc + 3) L (r ++ st.drop (mNA j)) sto') : At (gW p l e R s mi args below meth c Q n0) (WX dC dI b L0 xs0 s A w0 n0) mi b nL pc L st sto := by
  intro H locs ls lv xs ws tys hV hl hL hr hs
  simp only [okRoom, Bool.and_eq_true, decide_eq_true_eq] at hroom
  obtain ⟨⟨hj, hf1⟩, hf2⟩ := hroom
  obtain ⟨w1, wl, hml2⟩ := ml_at hok
  obtain ⟨g1, g2, g3, g4, g5, g6, g7, g8⟩ := me_at hj
  simp only [okMl, Bool.and_eq_true, decide_eq_true_eq] at hml2
  obtain ⟨hst, hlk⟩ := hml2
  have hst' : ¬ mS j = true := by rw [hst]; simpa using hk101
  rw [if_neg hk100, if_neg hk101] at hlk
  rw [if_neg hst'] at g4 g5
  have hd := hV.2.2.1
  have hmono := hV.2.2.2.2.2.2
  have hm1 := SL_mono hmono
  have hm2 := SL_mono hle
  have hm3 := SL_mono hnF
  obtain ⟨hn1, hc6, kq, q, fs, hq, hrev⟩ := rcv_at hrc hs hV.2.2.2.2.1
  have hys : ((xs.take (mNA j - 1)).reverse).length = mNA j - 1 := by
    rw [List.length_reverse, List.length_take, rvs_len hs]; omega
  have hMet := hM dC dI b L0 xs0 ws tys H.size _ (rvs_rev (rvs_take (mNA j) hs)) hV.2.2.2.2.1 (apart_b hd hbA) hL0
  rw [hrev] at hMet
  have hsp : xs = ((xs.take (mNA j - 1)).reverse).reverse ++ .ref q :: xs.drop (mNA j) := by
    have h1 := congrArg List.reverse hrev
    rw [List.reverse_reverse, List.reverse_cons] at h1
    calc xs = xs.take (mNA j) ++ xs.drop (mNA j) := (List.take_append_drop _ _).symm
      _ = _ := by rw [h1]; simp
  have hrecv := va_recv hV.1 hV.2.1 (cl_at ci hc6) hq
  by_cases hk0 : kind = 0
  · rw [if_pos hk0] at hlk hkind
    simp only [Bool.and_eq_true] at hlk
    obtain ⟨hlk, hsel⟩ := hlk
    have hG : GoodIn gw_tbl (wsV (oS o) i (mY j).cls (mY j) (cWs j)) := by
      intro w hw
      unfold wsV cWs at hw
      simp only [List.mem_append, List.mem_cons, List.not_mem_nil, or_false] at hw
      rcases hw with (rfl | rfl | rfl | rfl) | rfl | hw
      · exact gw_good (atW.mem hlk)
      · exact gw_good g4
      · exact gw_good (atW.mem hsel)
      · rw [g1]; exact gw_good g3
      · exact gw_good g2
      · exact gw_good hw
    refine call_go (va_runV (cc := cc) (nL := nL) (Ts := gw_tbl) (C := (mY j).cls) (n := mNA j - 1) (b := q) (As := (xs.take (mNA j - 1)).reverse) (rest := xs.drop (mNA j)) ⟨hx, hb, hml, hown, hts⟩ hMet (cwV (ret := mR j) (bytes := mB j) (maxL := mL j) (mNA j - 1) hts hG rfl rfl rfl ⟨rfl, by rw [g1]; exact g7.1, by rw [g1]; exact g7.2, g5⟩ ⟨Nat.le_trans hf1 hRm.1, Nat.le_trans hf2 hRm.2⟩) ⟨cPc_blind, by rw [← hkind]; exact hrecv, pre_go hV hX hbl hbA hAO⟩ rfl hys hl.1 hsp (lv_room (by rw [rvs_cats (rvs_drop (mNA j) hs)]; exact hcat)) hdg ⟨by omega, by omega⟩) hV hle hA hl hL hr (rvs_drop (mNA j) hs) k
  · rw [if_neg hk0] at hlk hkind
    simp only [Bool.and_eq_true, decide_eq_true_eq] at hlk
    obtain ⟨⟨⟨hlk, hsame⟩, hall⟩, hlenc⟩ := hlk
    have hsel : Cond.selects (cC ci) (xU kind (mY j)) (mY j) ∈ gw_tbl := by
      have hci : ci ∈ cis kind := by simpa using hkind
      obtain ⟨t, ht⟩ := List.getElem?_of_mem hci
      have htl := (List.getElem?_eq_some_iff.mp ht).1
      obtain ⟨z, hz⟩ : ∃ z, (wl.drop 1)[t]? = some z := ⟨_, List.getElem?_eq_getElem (by omega)⟩
      have hzip : ((cis kind).zip (wl.drop 1))[t]? = some (ci, z) := by
        rw [List.getElem?_zip_eq_some]
        exact ⟨ht, hz⟩
      exact atW.mem (List.all_eq_true.mp hall _ (List.mem_of_getElem? hzip))
    have hG : GoodIn gw_tbl (va_wsU (oS o) i (cC ci) (mY j).cls (xU kind (mY j)) (mY j) (cWs j)) := by
      intro w hw
      unfold va_wsU cWs at hw
      simp only [List.mem_append, List.mem_cons, List.not_mem_nil, or_false] at hw
      rcases hw with (rfl | rfl | rfl | rfl | rfl) | rfl | hw
      · exact gw_good (atW.mem hlk)
      · exact gw_good (atW.mem hsame)
      · exact gw_good hsel
      · exact gw_good g4
      · rw [g1]; exact gw_good g3
      · exact gw_good g2
      · exact gw_good hw
    refine call_go (va_runU (cc := cc) (nL := nL) (Ts := gw_tbl) (C := cC ci) (owner := (mY j).cls) (x := xU kind (mY j)) (n := mNA j - 1) (b := q) (As := (xs.take (mNA j - 1)).reverse) (rest := xs.drop (mNA j)) ⟨hx, hb, hml, hown, hts⟩ hMet (va_cwU (ret := mR j) (bytes := mB j) (maxL := mL j) (mNA j - 1) hts hG rfl rfl rfl rfl ⟨by rw [g1]; exact g7.1, by rw [g1]; exact g7.2, g5⟩ ⟨Nat.le_trans hf1 hRm.1, Nat.le_trans hf2 hRm.2⟩) ⟨cPc_blind, hrecv, pre_go hV hX hbl hbA hAO⟩ rfl hys hl.1 hsp (lv_room (by rw [rvs_cats (rvs_drop (mNA j) hs)]; exact hcat)) hdg ⟨by omega, by omega⟩) hV hle hA hl hL hr (rvs_drop (mNA j) hs) k
end CALL

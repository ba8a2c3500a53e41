/-! THE INSTRUCTIONS THAT READ OR CHANGE CELLS. -/
def szL (q : Nat × Nat) : Nat := if q.1 = 1 then cN q.2 else q.2
def SL : Nat → Nat
  | 0 => 0
  | n + 1 => SL n + szL (lay n)
theorem SL_mono {a b : Nat} (h : a ≤ b) : SL a ≤ SL b := by
  induction b with
  | zero => have : a = 0 := by omega
            subst this; exact Nat.le_refl _
  | succ n ih =>
    by_cases ha : a = n + 1
    · subst ha; exact Nat.le_refl _
    · exact Nat.le_trans (ih (by omega)) (Nat.le_add_right _ _)
def gW (p : Program) (l : Launch) (e : Env) (R : Room) (s : State) (mi : MethodId) (args : Array Value) (below : List Frame) (meth : Method) (c : Code) (Q : State → Prop) (n0 : Nat) : Heap → List Loc → Sto → JFrame → Prop :=
  fun H locs sto g => W p l e R s mi args below meth c H locs (sto.1 - n0) (SL sto.1 - SL n0) Q g
/-- the world at a point of a method's run -/
def WX (dC : Nat → ClassId) (dI : Nat → Nat → Nat) (b L0 : Nat) (xs0 : Nat → Int32) (s : State) (A : Nat → Prop) (w0 : va_W) (n0 : Nat) (H : Heap) (locs : List Loc) (ws : va_W) (tys : List (ClassId × FieldType)) (sto : Sto) : Prop :=
  va_K (dC, dI) classes tys s ∧ va_P (dC, dI) classes ws H ∧ va_D A ws ∧ va_S A s.heap H locs ∧ wre ws tys b L0 xs0 sto ∧ ext w0 ws ∧ n0 ≤ sto.1
theorem cl_at (ci : Nat) (h : ci < 6) : classes[ci]? = some (cC ci, cT ci, cN ci) := by
  match ci, h with
  | 0, _ => rfl
  | 1, _ => rfl
  | 2, _ => rfl
  | 3, _ => rfl
  | 4, _ => rfl
  | 5, _ => rfl
  | _ + 6, h => exact absurd h (by omega)
theorem cty_ok (ci : Nat) (h : ci < 6) : ∀ k, k < cN ci → parseFieldDescriptor (cT ci k).2.2.1 = some (cTy ci k) := by
  match ci, h with
  | 0, _ => exact tyX6_ok
  | 1, _ => exact tyX5_ok
  | 2, _ => exact tyX0_ok
  | 3, _ => exact tyX2_ok
  | 4, _ => exact tyX4_ok
  | 5, _ => exact tyX7_ok
  | _ + 6, h => exact absurd h (by omega)
theorem cnm_ok (ci : Nat) (h : ci < 6) : ∀ a, a < cN ci → ∀ b, b < cN ci → a ≠ b → (cT ci a).2.1 ≠ (cT ci b).2.1 := by
  match ci, h with
  | 0, _ => exact nmX6
  | 1, _ => exact nmX5
  | 2, _ => exact nmX0
  | 3, _ => exact nmX2
  | 4, _ => exact nmX4
  | 5, _ => exact nmX7
  | _ + 6, h => exact absurd h (by omega)
def refTy : FieldType → Bool
  | .object _ => true
  | .array _ => true
  | _ => false
def okSl (ci k : Nat) : Bool := (slotTag ci k == 1 && decide (cTy ci k = .int)) || (slotTag ci k == 4 && decide (cTy ci k = .boolean)) || (slotTag ci k == 3 && refTy (cTy ci k))
theorem okSl_all : (List.range 6).all (fun ci => (List.range (cN ci)).all (fun k => okSl ci k)) = true := by decide +kernel
theorem okSl_at {ci k : Nat} (h : ci < 6) (hk : k < cN ci) : (slotTag ci k = 1 ∧ cTy ci k = .int) ∨ (slotTag ci k = 4 ∧ cTy ci k = .boolean) ∨ (slotTag ci k = 3 ∧ refTy (cTy ci k) = true) := by
  have h1 := List.all_eq_true.mp (List.all_eq_true.mp okSl_all ci (List.mem_range.mpr h)) k (List.mem_range.mpr hk)
  unfold okSl at h1
  simp only [Bool.or_eq_true, Bool.and_eq_true, beq_iff_eq, decide_eq_true_eq] at h1
  rcases h1 with (h1 | h1) | h1
  · exact Or.inl h1
  · exact Or.inr (Or.inl h1)
  · exact Or.inr (Or.inr h1)
theorem luT_ok : (List.range 6).all (fun ci => (List.range (cN ci)).all (fun k => atW ((luT.getD ci []).getD k 0) (u_lay (cC ci) (cT ci) k))) = true := by decide +kernel
theorem uws_in (ci : Nat) (h : ci < 6) : ∀ w ∈ u_ws (cC ci) (cT ci) (cN ci), w ∈ gw_tbl := by
  intro w hw
  obtain ⟨k, hk, rfl⟩ := List.mem_map.mp hw
  exact atW.mem (List.all_eq_true.mp (List.all_eq_true.mp luT_ok ci (List.mem_range.mpr h)) k hk)
theorem fl_word {o i ci k : Nat} (h : has3 flT o i ci k = true) : k < cN ci ∧ ∃ ref : String, Cond.fieldLink (oS o) i ref (cT ci k).2.1 (cT ci k).2.2.1 ∈ gw_tbl ∧ (ref = (cT ci k).1 ∨ Cond.sameField ref (cT ci k).1 (cT ci k).2.1 (cT ci k).2.2.1 ∈ gw_tbl) := by
  unfold has3 at h
  obtain ⟨q, hq, hc⟩ := List.any_eq_true.mp h
  have hok := flT_ok q hq
  obtain ⟨o', i', ci', k', w1, w2⟩ := q
  simp only [Bool.and_eq_true, beq_iff_eq] at hc
  obtain ⟨⟨⟨rfl, rfl⟩, rfl⟩, rfl⟩ := hc
  simp only [okFl, Bool.and_eq_true, Bool.or_eq_true, decide_eq_true_eq] at hok
  obtain ⟨⟨h1, h2⟩, h3⟩ := hok
  refine ⟨h1, _, atW.mem h2, ?_⟩
  unfold flRef
  by_cases h4 : w2 = 9999
  · rw [if_pos h4]; exact Or.inl rfl
  · rw [if_neg h4]
    rcases h3 with h3 | h3
    · exact absurd h3 h4
    · exact Or.inr (atW.mem h3)
abbrev va_E_inr (ci : Nat) (fs : List Value) : va_E := .inr (ci, fs)
abbrev va_E_inl (a : ClassId × vp_A) : va_E := .inl a
theorem lay_all : LAY.all (fun q => decide (q.2 < 1000)) = true := by decide +kernel
theorem lay_small (a : Nat) : (lay a).2 < 2 ^ 31 := by
  unfold lay
  rw [List.getD_eq_getElem?_getD]
  cases h : LAY[a]? with
  | none => exact Nat.two_pow_pos 31
  | some q =>
    have h1 := List.all_eq_true.mp lay_all q (List.mem_of_getElem? h)
    have h2 : q.2 < 1000 := of_decide_eq_true h1
    show q.2 < _
    omega
theorem not_neg {y : Int32} {x : Int} (hy : y.toInt = x) (h : 0 ≤ x) : ¬ y < 0 := by
  intro h0
  have h1 := Int32.lt_iff_toInt_lt.mp h0
  have h00 : (0 : Int32).toInt = 0 := by decide
  omega
section HEAP
variable {p : Program} {l : Launch} {e : Env} {R : Room} {s : State} {mi : MethodId} {args : Array Value} {below : List Frame} {meth : Method} {c : Code} {Q : State → Prop} {n0 : Nat}
variable {dC : Nat → ClassId} {dI : Nat → Nat → Nat} {b L0 : Nat} {xs0 : Nat → Int32} {A : Nat → Prop} {w0 : va_W} {nL nF : Nat} {pc : Nat} {L st : List Vl} {sto : Sto} {cc : ByteArray}
theorem same_f {o i ci k : Nat} {ref : String} (hts : ∀ w ∈ gw_tbl, w.before args s = true) (h : ref = (cT ci k).1 ∨ Cond.sameField ref (cT ci k).1 (cT ci k).2.1 (cT ci k).2.2.1 ∈ gw_tbl) : ∀ x, s.fieldFound? (cT ci k).1 (cT ci k).2.1 (cT ci k).2.2.1 = some x → s.fieldFound? ref (cT ci k).2.1 (cT ci k).2.2.1 = some x := by
  rcases h with rfl | h
  · exact fun x hx => hx
  · exact u_same (hts _ h)
theorem at_gf {o i r1 k : Nat} (hx : p.tables.exec = Jvm.exec) (hb : c.code = cc) (hts : ∀ w ∈ gw_tbl, w.before args s = true) (hown : s.vm.findClass (oS o) = some mi.cls) (hok : (cis r1).all (fun ci => has3 flT o i ci k) = true) (hdg : decode cc pc = .ok (.getfield i, 3))
    (h : Nx (gW p l e R s mi args below meth c Q n0) (WX dC dI b L0 xs0 s A w0 n0) mi b nL nF sto (gfA r1 k pc L st)) : At (gW p l e R s mi args below meth c Q n0) (WX dC dI b L0 xs0 s A w0 n0) mi b nL pc L st sto := by
  unfold gfA at h
  split at h
  · rename_i a r
    split at h
    · rename_i hc
      obtain ⟨h2, hl1, hci⟩ := hc
      intro H locs ls lv xs ws tys hV hl hL hr hs0
      obtain ⟨x, ys, rfl, hv1, hs1⟩ := rvs_cons hs0
      obtain ⟨q, en, hq, rfl⟩ := rvl_ref hv1 h2
      obtain ⟨hK, hP, hD, hS, hw, hxt, hn⟩ := hV
      have hcr := wre_at hw h2 hq
      rcases hcr with ⟨-, fs, rfl, hc6, hfl, hf⟩ | ⟨z, -⟩ | ⟨z, -⟩ | ⟨z, -⟩
      · have hci' : (lay a.toNat).2 ∈ cis r1 := by simpa using hci
        obtain ⟨hk, ref, hw1, hw2⟩ := fl_word (List.all_eq_true.mp hok _ hci')
        obtain ⟨v, hv2, hv3⟩ := hf k hk
        exact va_get (D := (dC, dI)) (C := cC (lay a.toNat).2) (T := cT (lay a.toNat).2) (N := cN (lay a.toNat).2) hx hb hts (uws_in _ hc6) hown hK hP _ hq (cl_at _ hc6) k hk (hts _ hw1) (same_f (o := o) (i := i) hts hw2) hv2 hdg
          (h H locs ls lv _ ws tys ⟨hK, hP, hD, hS, hw, hxt, hn⟩ hl hL hr ⟨hv3, hs1⟩)
      · rw [hl1] at z; exact absurd z (by decide)
      · rw [hl1] at z; exact absurd z (by decide)
      · rw [hl1] at z; exact absurd z (by decide)
    · exact (show False from h).elim
  · exact (show False from h).elim
theorem cre_put {ws : va_W} {tys : List (ClassId × FieldType)} {row : Nat → Nat → Int} {a ci k : Nat} {q : Nat} {fs : List Value} {t : Nat} {x : Int} {v : Value} (hq : ws[a]? = some (q, .inr (ci, fs))) (hl1 : lay (a + 2) = (1, ci)) (hc6 : ci < 6) (hfl : fs.length = cN ci) (hf : ∀ k, k < cN ci → ∃ x, fs[k]? = some x ∧ rvl ws b ((if slotTag ci k = 3 then 3 else 1), row (a + 2) k) x) (hk : k < cN ci) (ht : t = if slotTag ci k = 3 then 3 else 1) (hv : rvl ws b (t, x) v) :
    cre (ws.set a (q, .inr (ci, fs.set k v))) tys b (upS row (a + 2) k x (a + 2)) (lay (a + 2)) (.inr (ci, fs.set k v)) := by
  rw [hl1]
  refine Or.inl ⟨rfl, _, rfl, hc6, by rw [List.length_set]; exact hfl, fun j hj => ?_⟩
  show ∃ y, (fs.set k v)[j]? = some y ∧ rvl _ b ((if slotTag ci j = 3 then 3 else 1), upS row (a + 2) k x (a + 2) j) y
  by_cases hjk : j = k
  · subst hjk
    refine ⟨v, List.getElem?_set_self (by omega), ?_⟩
    have : upS row (a + 2) j x (a + 2) j = x := by simp [upS]
    rw [this, ← ht]
    exact rvl_ext (ext_set hq) hv
  · obtain ⟨y, h1, h2⟩ := hf j hj
    refine ⟨y, by rw [List.getElem?_set_ne (Ne.symm hjk)]; exact h1, ?_⟩
    have : upS row (a + 2) k x (a + 2) j = row (a + 2) j := by simp [upS, hjk]
    rw [this]
    exact rvl_ext (ext_set hq) h2
theorem nar_ok {ci k t : Nat} {x : Int} {v : Value} {ws : va_W} (h6 : ci < 6) (hk : k < cN ci) (ht : t = if slotTag ci k = 3 then 3 else 1) (hz : slotTag ci k = 4 → x = 0 ∨ x = 1) (h2 : t = 3 → 2 ≤ x) (hv : rvl ws b (t, x) v) : narrow (cTy ci k) v = v ∧ fits (cTy ci k) v = true := by
  rcases okSl_at h6 hk with ⟨e1, e2⟩ | ⟨e1, e2⟩ | ⟨e1, e2⟩
  · rw [e1, if_neg (by decide)] at ht
    subst ht
    obtain ⟨y, rfl, -⟩ := rvl_int hv
    rw [e2]; exact ⟨rfl, rfl⟩
  · rw [e1, if_neg (by decide)] at ht
    subst ht
    obtain ⟨y, rfl, hy⟩ := rvl_int hv
    rw [e2]
    have : y = 0 ∨ y = 1 := by
      rcases hz e1 with h | h
      · exact Or.inl (Int32.toInt_inj.mp (by rw [hy, h]; rfl))
      · exact Or.inr (Int32.toInt_inj.mp (by rw [hy, h]; rfl))
    rcases this with rfl | rfl <;> exact ⟨by decide, by decide⟩
  · rw [e1, if_pos rfl] at ht
    subst ht
    obtain ⟨q, en, -, rfl⟩ := rvl_ref hv (h2 rfl)
    revert e2
    cases cTy ci k <;> intro e2 <;> first | exact ⟨rfl, rfl⟩ | exact absurd e2 (by decide)
theorem at_pf {o i r1 k : Nat} (hx : p.tables.exec = Jvm.exec) (hb : c.code = cc) (hts : ∀ w ∈ gw_tbl, w.before args s = true) (hown : s.vm.findClass (oS o) = some mi.cls) (hok : (cis r1).all (fun ci => has3 flT o i ci k) = true)
    (hfin : ∀ ci ∈ cis r1, (cT ci k).2.2.2 = true → meth.name = "<init>" ∧ (cT ci k).1 = oS o) (hdg : decode cc pc = .ok (.putfield i, 3))
    (h : Nx (gW p l e R s mi args below meth c Q n0) (WX dC dI b L0 xs0 s A w0 n0) mi b nL nF sto (pfA r1 k pc L st)) : At (gW p l e R s mi args below meth c Q n0) (WX dC dI b L0 xs0 s A w0 n0) mi b nL pc L st sto := by
  unfold pfA at h
  split at h
  · rename_i t x a r
    by_cases hc : 2 ≤ a ∧ (lay a.toNat).1 = 1 ∧ (cis r1).contains (lay a.toNat).2 = true ∧ (t = if slotTag (lay a.toNat).2 k = 3 then 3 else 1) ∧ (slotTag (lay a.toNat).2 k = 4 → x = 0 ∨ x = 1) ∧ (t = 3 → 2 ≤ x)
    · rw [if_pos hc] at h
      obtain ⟨h2, hl1, hci, ht, hz, h3⟩ := hc
      intro H locs ls lv xs ws tys hV hl hL hr hs0
      obtain ⟨v, ys, rfl, hv0, hs1⟩ := rvs_cons hs0
      obtain ⟨x', ys, rfl, hv1, hs2⟩ := rvs_cons hs1
      obtain ⟨q, en, hq, rfl⟩ := rvl_ref hv1 h2
      obtain ⟨hK, hP, hD, hS, hw, hxt, hn⟩ := hV
      have hcr := wre_at hw h2 hq
      rcases hcr with ⟨-, fs, rfl, hc6, hfl, hf⟩ | ⟨z, -⟩ | ⟨z, -⟩ | ⟨z, -⟩
      · have hci' : (lay a.toNat).2 ∈ cis r1 := by simpa using hci
        obtain ⟨hk, ref, hw1, hw2⟩ := fl_word (List.all_eq_true.mp hok _ hci')
        obtain ⟨hna, hfi⟩ := nar_ok hc6 hk ht hz h3 hv0
        have hae : a.toNat - 2 + 2 = a.toNat := by omega
        have kk : ∀ (H1 : Heap) (locs1 : List Loc), va_P (dC, dI) classes (ws.set (a.toNat - 2) (q, .inr ((lay a.toNat).2, fs.set k v))) H1 → va_D A (ws.set (a.toNat - 2) (q, .inr ((lay a.toNat).2, fs.set k v))) → va_S A s.heap H1 locs1 → W p l e R s mi args below meth c H1 locs1 (sto.1 - n0) (SL sto.1 - SL n0) Q (F0 mi (pc + 3) ls ys) := by
          intro H1 locs1 hP1 hD1 hS1
          have hcp := cre_put (b := b) (tys := tys) (row := sto.2) (a := a.toNat - 2) (k := k) (t := t) (x := x) (v := v) hq (by rw [hae]; exact Prod.ext hl1 rfl) hc6 hfl (by rw [hae]; exact hf) hk ht hv0
          have hw' := wre_up hw hq hcp
          rw [hae] at hw'
          exact h H1 locs1 ls lv _ _ tys ⟨hK, hP1, hD1, hS1, hw', ext_tr hxt (ext_set hq), hn⟩ hl hL (rls_ext (ext_set hq) hr) (rvs_ext (ext_set hq) hs2)
        by_cases hfn : (cT (lay a.toNat).2 k).2.2.2 = true
        · obtain ⟨hi1, hi2⟩ := hfin _ hci' hfn
          exact va_putF (D := (dC, dI)) (C := cC (lay a.toNat).2) (T := cT (lay a.toNat).2) (N := cN (lay a.toNat).2) hx hb hts (uws_in _ hc6) (cTy (lay a.toNat).2) (cty_ok _ hc6) (cnm_ok _ hc6) hown hK hP hD hS _ hq (cl_at _ hc6) k hk (hts _ hw1) (same_f (o := o) (i := i) hts hw2) hfn hi1 hi2 (cty_ok _ hc6 k hk) hna hfi (by omega) hdg kk
        · exact va_put (D := (dC, dI)) (C := cC (lay a.toNat).2) (T := cT (lay a.toNat).2) (N := cN (lay a.toNat).2) hx hb hts (uws_in _ hc6) (cTy (lay a.toNat).2) (cty_ok _ hc6) (cnm_ok _ hc6) hown hK hP hD hS _ hq (cl_at _ hc6) k hk (hts _ hw1) (same_f (o := o) (i := i) hts hw2) (by simpa using hfn) (cty_ok _ hc6 k hk) hna hfi (by omega) hdg kk
      · rw [hl1] at z; exact absurd z (by decide)
      · rw [hl1] at z; exact absurd z (by decide)
      · rw [hl1] at z; exact absurd z (by decide)
    · rw [if_neg hc] at h
      exact (show False from h).elim
  · exact (show False from h).elim
theorem at_ir (hx : p.tables.exec = Jvm.exec) (hb : c.code = cc) (hX : va_X b L0 xs0 s s.heap) (hbl : b < s.heap.size) (hbA : ¬ A b) (hdg : decode cc pc = .ok (.iaload, 1))
    (h : Nx (gW p l e R s mi args below meth c Q n0) (WX dC dI b L0 xs0 s A w0 n0) mi b nL nF sto (irA pc L st)) : At (gW p l e R s mi args below meth c Q n0) (WX dC dI b L0 xs0 s A w0 n0) mi b nL pc L st sto := by
  unfold irA at h
  split at h
  · rename_i i a r
    intro H locs ls lv xs ws tys hV hl hL hr hs0
    obtain ⟨y, ys, rfl, hy, hs1⟩ := rvs_i hs0
    obtain ⟨x', ys, rfl, hv1, hs2⟩ := rvs_cons hs1
    have hV' := hV
    obtain ⟨hK, hP, hD, hS, hw, hxt, hn⟩ := hV
    split at h
    · rename_i ha
      subst ha
      rw [rvl_scr hv1]
      obtain ⟨h1, h2, h3⟩ := h
      dsimp only at h1 h2
      rw [hw.2.2.1] at h2
      exact va_sld hx hb hX hbl hbA hS (vp_in_iff.mpr ⟨by omega, by omega⟩) hdg
        (h3 H locs ls lv _ ws tys hV' hl hL hr ⟨rvs_ii (by show _ = sto.2 1 i.toNat; rw [show y.toNatClampNeg = i.toNat from by rw [← hy]; rfl]; exact hw.2.2.2 _ (by omega)), hs2⟩)
    · split at h
      · rename_i hc
        obtain ⟨h2, hl1, h3, h4⟩ := hc
        obtain ⟨q, en, hq, rfl⟩ := rvl_ref hv1 h2
        have hcr := wre_at hw h2 hq
        rcases hcr with ⟨z, -⟩ | ⟨-, cA, f, rfl, ⟨t0, ht0⟩, hf⟩ | ⟨z, -⟩ | ⟨z, -⟩
        · rw [hl1] at z; exact absurd z (by decide)
        · exact va_iald hx hb hK hP _ t0 hq ht0 (vp_in_iff.mpr ⟨by omega, by omega⟩) hdg
            (h H locs ls lv _ ws tys hV' hl hL hr ⟨rvs_ii (by show _ = sto.2 a.toNat i.toNat; rw [show y.toNatClampNeg = i.toNat from by rw [← hy]; rfl]; exact hf _ (by omega)), hs2⟩)
        · rw [hl1] at z; exact absurd z (by decide)
        · rw [hl1] at z; exact absurd z (by decide)
      · exact (show False from h).elim
  · exact (show False from h).elim
theorem at_br (hx : p.tables.exec = Jvm.exec) (hb : c.code = cc) (hdg : decode cc pc = .ok (.baload, 1))
    (h : Nx (gW p l e R s mi args below meth c Q n0) (WX dC dI b L0 xs0 s A w0 n0) mi b nL nF sto (rdA 3 1 pc L st)) : At (gW p l e R s mi args below meth c Q n0) (WX dC dI b L0 xs0 s A w0 n0) mi b nL pc L st sto := by
  unfold rdA at h
  split at h
  · rename_i i a r
    intro H locs ls lv xs ws tys hV hl hL hr hs0
    obtain ⟨y, ys, rfl, hy, hs1⟩ := rvs_i hs0
    obtain ⟨x', ys, rfl, hv1, hs2⟩ := rvs_cons hs1
    have hV' := hV
    obtain ⟨hK, hP, hD, hS, hw, hxt, hn⟩ := hV
    split at h
    · rename_i hc
      obtain ⟨h2, hl1, h3, h4⟩ := hc
      obtain ⟨q, en, hq, rfl⟩ := rvl_ref hv1 h2
      have hcr := wre_at hw h2 hq
      rcases hcr with ⟨z, -⟩ | ⟨z, -⟩ | ⟨-, cA, f, rfl, ⟨t0, ht0⟩, hf⟩ | ⟨z, -⟩
      · rw [hl1] at z; exact absurd z (by decide)
      · rw [hl1] at z; exact absurd z (by decide)
      · exact va_zald hx hb hK hP _ t0 hq ht0 (vp_in_iff.mpr ⟨by omega, by omega⟩) hdg
          (h H locs ls lv _ ws tys hV' hl hL hr ⟨rvs_ii (by show _ = sto.2 a.toNat i.toNat; rw [show y.toNatClampNeg = i.toNat from by rw [← hy]; rfl]; exact hf _ (by omega)), hs2⟩)
      · rw [hl1] at z; exact absurd z (by decide)
    · exact (show False from h).elim
  · exact (show False from h).elim
theorem at_ar (hx : p.tables.exec = Jvm.exec) (hb : c.code = cc) (hdg : decode cc pc = .ok (.aaload, 1))
    (h : Nx (gW p l e R s mi args below meth c Q n0) (WX dC dI b L0 xs0 s A w0 n0) mi b nL nF sto (rdA 4 3 pc L st)) : At (gW p l e R s mi args below meth c Q n0) (WX dC dI b L0 xs0 s A w0 n0) mi b nL pc L st sto := by
  unfold rdA at h
  split at h
  · rename_i i a r
    intro H locs ls lv xs ws tys hV hl hL hr hs0
    obtain ⟨y, ys, rfl, hy, hs1⟩ := rvs_i hs0
    obtain ⟨x', ys, rfl, hv1, hs2⟩ := rvs_cons hs1
    have hV' := hV
    obtain ⟨hK, hP, hD, hS, hw, hxt, hn⟩ := hV
    split at h
    · rename_i hc
      obtain ⟨h2, hl1, h3, h4⟩ := hc
      obtain ⟨q, en, hq, rfl⟩ := rvl_ref hv1 h2
      have hcr := wre_at hw h2 hq
      rcases hcr with ⟨z, -⟩ | ⟨z, -⟩ | ⟨z, -⟩ | ⟨-, cA, f, rfl, ⟨t0, ht0⟩, hf⟩
      · rw [hl1] at z; exact absurd z (by decide)
      · rw [hl1] at z; exact absurd z (by decide)
      · rw [hl1] at z; exact absurd z (by decide)
      · exact va_aldq hx hb hK hP _ t0 hq ht0 (vp_in_iff.mpr ⟨by omega, by omega⟩) hdg
          (h H locs ls lv _ ws tys hV' hl hL hr ⟨by show rvl ws b (3, sto.2 a.toNat i.toNat) _; rw [show y.toNatClampNeg = i.toNat from by rw [← hy]; rfl]; exact hf _ (by omega), hs2⟩)
    · exact (show False from h).elim
  · exact (show False from h).elim
theorem upS_at {f : Nat → Nat → Int} {a k : Nat} {x : Int} : upS f a k x a k = x := by simp [upS]
theorem upS_ne {f : Nat → Nat → Int} {a k j : Nat} {x : Int} (h : j ≠ k) : upS f a k x a j = f a j := by simp [upS, h]
theorem at_iw (hx : p.tables.exec = Jvm.exec) (hb : c.code = cc) (hdg : decode cc pc = .ok (.iastore, 1))
    (h : Nx (gW p l e R s mi args below meth c Q n0) (WX dC dI b L0 xs0 s A w0 n0) mi b nL nF sto (iwA pc L st)) : At (gW p l e R s mi args below meth c Q n0) (WX dC dI b L0 xs0 s A w0 n0) mi b nL pc L st sto := by
  unfold iwA at h
  split at h
  · rename_i x i a r
    split at h
    · rename_i hc
      obtain ⟨h2, hl1, h3, h4⟩ := hc
      intro H locs ls lv xs ws tys hV hl hL hr hs0
      obtain ⟨z, ys, rfl, hz, hs1⟩ := rvs_i hs0
      obtain ⟨y, ys, rfl, hy, hs2⟩ := rvs_i hs1
      obtain ⟨x', ys, rfl, hv1, hs3⟩ := rvs_cons hs2
      obtain ⟨hK, hP, hD, hS, hw, hxt, hn⟩ := hV
      obtain ⟨q, en, hq, rfl⟩ := rvl_ref hv1 h2
      have hcr := wre_at hw h2 hq
      have hae : a.toNat - 2 + 2 = a.toNat := by omega
      have hyi : y.toNatClampNeg = i.toNat := by rw [← hy]; rfl
      rcases hcr with ⟨z, -⟩ | ⟨-, cA, f, rfl, ⟨t0, ht0⟩, hf⟩ | ⟨z, -⟩ | ⟨z, -⟩
      · rw [hl1] at z; exact absurd z (by decide)
      · refine va_iast hx hb hK hP hD hS _ t0 hq ht0 (vp_in_iff.mpr ⟨by omega, by omega⟩) hdg fun H1 locs1 hP1 hD1 hS1 => ?_
        have hcp : cre (ws.set (a.toNat - 2) (q, .inl (cA, (lay a.toNat).2, .inl (upd f y.toNatClampNeg z)))) tys b (upS sto.2 (a.toNat - 2 + 2) i.toNat x (a.toNat - 2 + 2)) (lay (a.toNat - 2 + 2)) (.inl (cA, (lay a.toNat).2, .inl (upd f y.toNatClampNeg z))) := by
          rw [hae]
          refine Or.inr (Or.inl ⟨hl1, _, _, rfl, ⟨t0, ht0⟩, fun j hj => ?_⟩)
          rw [hyi]
          unfold upd
          by_cases hji : j = i.toNat
          · rw [if_pos hji, hji, upS_at]; exact hz
          · rw [if_neg hji, upS_ne hji]; exact hf j hj
        have hw' := wre_up hw hq hcp
        rw [hae] at hw'
        exact h H1 locs1 ls lv _ _ tys ⟨hK, hP1, hD1, hS1, hw', ext_tr hxt (ext_set hq), hn⟩ hl hL (rls_ext (ext_set hq) hr) (rvs_ext (ext_set hq) hs3)
      · rw [hl1] at z; exact absurd z (by decide)
      · rw [hl1] at z; exact absurd z (by decide)
    · exact (show False from h).elim
  · exact (show False from h).elim
theorem at_bw (hx : p.tables.exec = Jvm.exec) (hb : c.code = cc) (hdg : decode cc pc = .ok (.bastore, 1))
    (h : Nx (gW p l e R s mi args below meth c Q n0) (WX dC dI b L0 xs0 s A w0 n0) mi b nL nF sto (bwA pc L st)) : At (gW p l e R s mi args below meth c Q n0) (WX dC dI b L0 xs0 s A w0 n0) mi b nL pc L st sto := by
  unfold bwA at h
  split at h
  · rename_i x i a r
    split at h
    · rename_i hc
      obtain ⟨h2, hl1, h3, h4, h01⟩ := hc
      intro H locs ls lv xs ws tys hV hl hL hr hs0
      obtain ⟨z, ys, rfl, hz, hs1⟩ := rvs_i hs0
      obtain ⟨y, ys, rfl, hy, hs2⟩ := rvs_i hs1
      obtain ⟨x', ys, rfl, hv1, hs3⟩ := rvs_cons hs2
      obtain ⟨hK, hP, hD, hS, hw, hxt, hn⟩ := hV
      obtain ⟨q, en, hq, rfl⟩ := rvl_ref hv1 h2
      have hcr := wre_at hw h2 hq
      have hae : a.toNat - 2 + 2 = a.toNat := by omega
      have hyi : y.toNatClampNeg = i.toNat := by rw [← hy]; rfl
      have hnz : vp_nar .boolean z = z := by
        have : z = 0 ∨ z = 1 := by
          rcases h01 with h | h
          · exact Or.inl (Int32.toInt_inj.mp (by rw [hz, h]; rfl))
          · exact Or.inr (Int32.toInt_inj.mp (by rw [hz, h]; rfl))
        rcases this with rfl | rfl <;> decide
      rcases hcr with ⟨z, -⟩ | ⟨z, -⟩ | ⟨-, cA, f, rfl, ⟨t0, ht0⟩, hf⟩ | ⟨z, -⟩
      · rw [hl1] at z; exact absurd z (by decide)
      · rw [hl1] at z; exact absurd z (by decide)
      · refine va_zast hx hb hK hP hD hS _ t0 hq ht0 (vp_in_iff.mpr ⟨by omega, by omega⟩) hdg fun H1 locs1 hP1 hD1 hS1 => ?_
        rw [hnz] at hP1 hD1
        have hcp : cre (ws.set (a.toNat - 2) (q, .inl (cA, (lay a.toNat).2, .inl (upd f y.toNatClampNeg z)))) tys b (upS sto.2 (a.toNat - 2 + 2) i.toNat x (a.toNat - 2 + 2)) (lay (a.toNat - 2 + 2)) (.inl (cA, (lay a.toNat).2, .inl (upd f y.toNatClampNeg z))) := by
          rw [hae]
          refine Or.inr (Or.inr (Or.inl ⟨hl1, _, _, rfl, ⟨t0, ht0⟩, fun j hj => ?_⟩))
          rw [hyi]
          unfold upd
          by_cases hji : j = i.toNat
          · rw [if_pos hji, hji, upS_at]; exact hz
          · rw [if_neg hji, upS_ne hji]; exact hf j hj
        have hw' := wre_up hw hq hcp
        rw [hae] at hw'
        exact h H1 locs1 ls lv _ _ tys ⟨hK, hP1, hD1, hS1, hw', ext_tr hxt (ext_set hq), hn⟩ hl hL (rls_ext (ext_set hq) hr) (rvs_ext (ext_set hq) hs3)
      · rw [hl1] at z; exact absurd z (by decide)
    · exact (show False from h).elim
  · exact (show False from h).elim
theorem at_aw (hx : p.tables.exec = Jvm.exec) (hb : c.code = cc) (hdg : decode cc pc = .ok (.aastore, 1))
    (h : Nx (gW p l e R s mi args below meth c Q n0) (WX dC dI b L0 xs0 s A w0 n0) mi b nL nF sto (awA pc L st)) : At (gW p l e R s mi args below meth c Q n0) (WX dC dI b L0 xs0 s A w0 n0) mi b nL pc L st sto := by
  unfold awA at h
  split at h
  · rename_i x i a r
    split at h
    · rename_i hc
      obtain ⟨h2, hl1, h3, h4, hx2, hlx⟩ := hc
      intro H locs ls lv xs ws tys hV hl hL hr hs0
      obtain ⟨vz, ys, rfl, hvz, hs1⟩ := rvs_cons hs0
      obtain ⟨y, ys, rfl, hy, hs2⟩ := rvs_i hs1
      obtain ⟨x', ys, rfl, hv1, hs3⟩ := rvs_cons hs2
      obtain ⟨hK, hP, hD, hS, hw, hxt, hn⟩ := hV
      obtain ⟨q, en, hq, rfl⟩ := rvl_ref hv1 h2
      obtain ⟨qz, ez, hqz, rfl⟩ := rvl_ref hvz hx2
      have hcr := wre_at hw h2 hq
      have hcz := wre_at hw hx2 hqz
      have hae : a.toNat - 2 + 2 = a.toNat := by omega
      have hyi : y.toNatClampNeg = i.toNat := by rw [← hy]; rfl
      rw [hlx] at hcz
      rcases hcz with ⟨-, fz, rfl, -⟩ | ⟨z, -⟩ | ⟨z, -⟩ | ⟨z, -⟩
      · rcases hcr with ⟨z, -⟩ | ⟨z, -⟩ | ⟨z, -⟩ | ⟨-, cA, f, rfl, ⟨t0, ht0⟩, hf⟩
        · rw [hl1] at z; exact absurd z (by decide)
        · rw [hl1] at z; exact absurd z (by decide)
        · rw [hl1] at z; exact absurd z (by decide)
        · refine va_astq (r := (cC 1, cT 1, cN 1)) hx hb hK hP hD hS _ t0 _ 1 hq ht0 hqz (cl_at 1 (by decide)) (vp_in_iff.mpr ⟨by omega, by omega⟩) hdg fun H1 locs1 hP1 hD1 hS1 => ?_
          have hcp : cre (ws.set (a.toNat - 2) (q, .inl (cA, (lay a.toNat).2, .inr (.inr (.inr (.inr (va_up f y.toNatClampNeg (some qz)))))))) tys b (upS sto.2 (a.toNat - 2 + 2) i.toNat x (a.toNat - 2 + 2)) (lay (a.toNat - 2 + 2)) (.inl (cA, (lay a.toNat).2, .inr (.inr (.inr (.inr (va_up f y.toNatClampNeg (some qz))))))) := by
            rw [hae]
            refine Or.inr (Or.inr (Or.inr ⟨hl1, _, _, rfl, ⟨t0, ht0⟩, fun j hj => ?_⟩))
            rw [hyi]
            unfold va_up
            by_cases hji : j = i.toNat
            · rw [if_pos hji, hji, upS_at]; exact rvl_ext (ext_set hq) hvz
            · rw [if_neg hji, upS_ne hji]; exact rvl_ext (ext_set hq) (hf j hj)
          have hw' := wre_up hw hq hcp
          rw [hae] at hw'
          exact h H1 locs1 ls lv _ _ tys ⟨hK, hP1, hD1, hS1, hw', ext_tr hxt (ext_set hq), hn⟩ hl hL (rls_ext (ext_set hq) hr) (rvs_ext (ext_set hq) hs3)
      · exact absurd z (by decide)
      · exact absurd z (by decide)
      · exact absurd z (by decide)
    · exact (show False from h).elim
  · exact (show False from h).elim
theorem at_ln (hx : p.tables.exec = Jvm.exec) (hb : c.code = cc) (hX : va_X b L0 xs0 s s.heap) (hbl : b < s.heap.size) (hbA : ¬ A b) (hL0 : L0 < 2147483648) (hdg : decode cc pc = .ok (.arraylength, 1))
    (h : Nx (gW p l e R s mi args below meth c Q n0) (WX dC dI b L0 xs0 s A w0 n0) mi b nL nF sto (lnA pc L st)) : At (gW p l e R s mi args below meth c Q n0) (WX dC dI b L0 xs0 s A w0 n0) mi b nL pc L st sto := by
  unfold lnA at h
  split at h
  · rename_i a r
    intro H locs ls lv xs ws tys hV hl hL hr hs0
    obtain ⟨x', ys, rfl, hv1, hs1⟩ := rvs_cons hs0
    have hV' := hV
    obtain ⟨hK, hP, hD, hS, hw, hxt, hn⟩ := hV
    split at h
    · rename_i ha
      subst ha
      rw [rvl_scr hv1]
      exact va_slen hx hb hX hbl hbA hS hdg
        (h H locs ls lv _ ws tys hV' hl hL hr ⟨rvs_ii (by show (nI L0).toInt = sto.2 0 0; rw [hw.2.2.1]; exact nI_toInt (by omega)), hs1⟩)
    · split at h
      · rename_i hc
        obtain ⟨h2, hl1⟩ := hc
        obtain ⟨q, en, hq, rfl⟩ := rvl_ref hv1 h2
        have hcr := wre_at hw h2 hq
        rcases hcr with ⟨z, -⟩ | ⟨-, cA, f, rfl, ⟨t0, ht0⟩, hf⟩ | ⟨z, -⟩ | ⟨z, -⟩
        · rw [hl1] at z; exact absurd z (by decide)
        · exact va_alen (v := nI (lay a.toNat).2) hx hb hK hP _ t0 hq ht0 rfl hdg
            (h H locs ls lv _ ws tys hV' hl hL hr ⟨rvs_ii (nI_toInt (lay_small _)), hs1⟩)
        · rw [hl1] at z; exact absurd z (by decide)
        · rw [hl1] at z; exact absurd z (by decide)
      · exact (show False from h).elim
  · exact (show False from h).elim
theorem at_oi {o i : Nat} (hx : p.tables.exec = Jvm.exec) (hb : c.code = cc) (hml : c.maxLocals = nL) (hts : ∀ w ∈ gw_tbl, w.before args s = true) (hown : s.vm.findClass (oS o) = some mi.cls) (hok : hasI obT o i = true) (hfr : 1 ≤ R.frames) (hlo : 12 ≤ R.locals) (hdg : decode cc pc = .ok (.invokespecial i, 3))
    (h : Nx (gW p l e R s mi args below meth c Q n0) (WX dC dI b L0 xs0 s A w0 n0) mi b nL nF sto (oiA pc L st)) : At (gW p l e R s mi args below meth c Q n0) (WX dC dI b L0 xs0 s A w0 n0) mi b nL pc L st sto := by
  unfold oiA at h
  split at h
  · rename_i a r
    split at h
    · rename_i hc
      obtain ⟨h2, hr0⟩ := hc
      intro H locs ls lv xs ws tys hV hl hL hr hs0
      obtain ⟨x', ys, rfl, hv1, hs1⟩ := rvs_cons hs0
      obtain ⟨q, en, hq, rfl⟩ := rvl_ref hv1 h2
      have hy0 : ys = [] := List.eq_nil_of_length_eq_zero (by rw [rvs_len hs1]; exact hr0)
      subst hy0
      unfold hasI at hok
      obtain ⟨z, hz, hzz⟩ := List.any_eq_true.mp hok
      have hw := obT_ok z hz
      obtain ⟨o', i', w⟩ := z
      simp only [Bool.and_eq_true, beq_iff_eq] at hzz
      obtain ⟨rfl, rfl⟩ := hzz
      refine W.objInit hx hb hown (hts _ (atW.mem hw)) (hts _ (atW.mem obI_ok)) (hts _ (atW.mem obC_ok)) rfl (by rw [hml]; exact hl.1) rfl hdg hfr hlo ?_
      exact h H locs ls lv _ ws tys hV hl hL hr hs1
    · exact (show False from h).elim
  · exact (show False from h).elim
/-- a new object -/
theorem at_new {o i ci : Nat} (hx : p.tables.exec = Jvm.exec) (hb : c.code = cc) (hts : ∀ w ∈ gw_tbl, w.before args s = true) (hown : s.vm.findClass (oS o) = some mi.cls) (hA : ∀ q, s.heap.size ≤ q → A q) (hok : hasN nwT o i ci = true) (hRc : nF - n0 ≤ R.cells) (hRs : SL nF - SL n0 ≤ R.slots) (hdg : decode cc pc = .ok (.new i, 3))
    (h : Nx (gW p l e R s mi args below meth c Q n0) (WX dC dI b L0 xs0 s A w0 n0) mi b nL nF sto (4, pc + 3, 1, ci, false, (0, 0), L, st, [])) : At (gW p l e R s mi args below meth c Q n0) (WX dC dI b L0 xs0 s A w0 n0) mi b nL pc L st sto := by
  obtain ⟨hlay, hnF, h⟩ := h
  intro H locs ls lv xs ws tys hV hl hL hr hs0
  obtain ⟨hK, hP, hD, hS, hw, hxt, hn⟩ := hV
  unfold hasN at hok
  obtain ⟨z, hz, hzz⟩ := List.any_eq_true.mp hok
  have hwd := nwT_ok z hz
  obtain ⟨o', i', ci', w1, w2, w3⟩ := z
  simp only [Bool.and_eq_true, beq_iff_eq] at hzz
  obtain ⟨⟨rfl, rfl⟩, rfl⟩ := hzz
  simp only [okNw, Bool.and_eq_true, decide_eq_true_eq] at hwd
  obtain ⟨⟨⟨hc6, k1⟩, k2⟩, k3⟩ := hwd
  have hsz : SL (sto.1 + 1) = SL sto.1 + cN ci' := by
    show SL sto.1 + szL (lay sto.1) = _
    rw [hlay]; rfl
  have hm1 := SL_mono hn
  have hm2 := SL_mono hnF
  have e1 : sto.1 + 1 - n0 = sto.1 - n0 + 1 := by omega
  have e2 : SL (sto.1 + 1) - SL n0 = SL sto.1 - SL n0 + cN ci' := by omega
  refine va_new (D := (dC, dI)) (C := cC ci') (T := cT ci') (N := cN ci') (fs := (List.range (cN ci')).map (fun k => defaultValue (cTy ci' k))) hx hb hts (uws_in _ hc6) (cTy ci') (cty_ok _ hc6) hown (hts _ (atW.mem k1)) (hts _ (atW.mem k2)) (hts _ (atW.mem k3)) hK hP hD hS hA (cl_at _ hc6) (fun j hj => by simp [vp_V, hj]) (by omega) (by omega) hdg fun q H1 hP1 hD1 hS1 => ?_
  have hcr : cre (ws ++ [(q, .inr (ci', (List.range (cN ci')).map (fun k => defaultValue (cTy ci' k))))]) tys b (fun _ => 0) (lay sto.1) (.inr (ci', (List.range (cN ci')).map (fun k => defaultValue (cTy ci' k)))) := by
    rw [hlay]
    refine Or.inl ⟨rfl, _, rfl, hc6, by simp, fun k hk => ⟨defaultValue (cTy ci' k), by simp [show k < cN ci' from hk], ?_⟩⟩
    show rvl _ b ((if slotTag ci' k = 3 then 3 else 1), 0) _
    rcases okSl_at hc6 hk with ⟨g1, g2⟩ | ⟨g1, g2⟩ | ⟨g1, g2⟩
    · rw [g1, g2]; exact Or.inl ⟨rfl, 0, rfl, rfl⟩
    · rw [g1, g2]; exact Or.inl ⟨rfl, 0, rfl, rfl⟩
    · rw [g1]
      revert g2
      cases cTy ci' k <;> intro g2 <;> first | exact Or.inr (Or.inr ⟨rfl, Or.inl ⟨rfl, rfl⟩⟩) | exact absurd g2 (by decide)
  have hw' := wre_new hw (fun t0 q h => ⟨t0, h⟩) hcr
  have hlen := hw.1
  have hlast : (ws ++ [(q, va_E_inr ci' ((List.range (cN ci')).map (fun k => defaultValue (cTy ci' k))))])[ws.length]? = some (q, va_E_inr ci' ((List.range (cN ci')).map (fun k => defaultValue (cTy ci' k)))) := by simp
  have k := h H1 locs ls lv (.ref q :: xs) _ tys ⟨hK, hP1, hD1, hS1, hw', ext_tr hxt ext_app, by show n0 ≤ sto.1 + 1; omega⟩ hl hL (rls_ext ext_app hr) ⟨by
    have := rvs_rr (b := b) hlast
    rw [show ((ws.length : Int) + 2) = (sto.1 : Int) by omega] at this
    exact this, rvs_ext ext_app hs0⟩
  unfold gW at k
  dsimp only at k
  rw [e1, e2] at k
  exact k
/-- a new row of ints (kind 2) or booleans (3) -/
theorem at_na {kind : Nat} {t : ArrayType} {ty : FieldType} (hty : Op.newarray.typeOf t = ty) (hkt : (kind = 2 ∧ ty = .int) ∨ (kind = 3 ∧ ty = .boolean)) (hx : p.tables.exec = Jvm.exec) (hb : c.code = cc) (hts : ∀ w ∈ gw_tbl, w.before args s = true) (hA : ∀ q, s.heap.size ≤ q → A q) (hwd : Cond.arrayClass ty ∈ gw_tbl) (hRc : nF - n0 ≤ R.cells) (hRs : SL nF - SL n0 ≤ R.slots) (hdg : decode cc pc = .ok (.newarray t, 2))
    (h : Nx (gW p l e R s mi args below meth c Q n0) (WX dC dI b L0 xs0 s A w0 n0) mi b nL nF sto (naA kind 2 pc L st)) : At (gW p l e R s mi args below meth c Q n0) (WX dC dI b L0 xs0 s A w0 n0) mi b nL pc L st sto := by
  unfold naA at h
  split at h
  · rename_i x r
    split at h
    · rename_i hc
      obtain ⟨hlay, hnF, h⟩ := h
      intro H locs ls lv xs ws tys hV hl hL hr hs0
      obtain ⟨y, ys, rfl, hy, hs1⟩ := rvs_i hs0
      obtain ⟨hK, hP, hD, hS, hw, hxt, hn⟩ := hV
      have hkn : kind ≠ 1 := by rcases hkt with ⟨h, -⟩ | ⟨h, -⟩ <;> omega
      have hsz : SL (sto.1 + 1) = SL sto.1 + x.toNat := by
        show SL sto.1 + szL (lay sto.1) = _
        rw [hlay]
        show _ + (if kind = 1 then cN x.toNat else x.toNat) = _
        rw [if_neg hkn]
      have hm1 := SL_mono hn
      have hm2 := SL_mono hnF
      have e1 : sto.1 + 1 - n0 = sto.1 - n0 + 1 := by omega
      have e2 : SL (sto.1 + 1) - SL n0 = SL sto.1 - SL n0 + x.toNat := by omega
      have hyx : y.toNatClampNeg = x.toNat := by rw [← hy]; rfl
      have hcb : componentBytes ty ≤ 8 := by rcases hkt with ⟨-, rfl⟩ | ⟨-, rfl⟩ <;> decide
      refine va_newa (ty := ty) (N' := x.toNat) (a0 := (x.toNat, .inl (fun _ => 0))) hx hb (by rw [hty]; exact hts _ hwd) hty hK hP hD hS hA (fun cA => by rcases hkt with ⟨-, rfl⟩ | ⟨-, rfl⟩ <;> rfl) (not_neg hy hc.1) hyx (Nat.le_trans (Nat.mul_le_mul (show x.toNat ≤ 1000 by omega) hcb) (by decide)) (by omega) (by omega) hdg fun q cA H1 hK1 hP1 hD1 hS1 => ?_
      have hta : ∃ t0 : Nat, (tys ++ [(cA, ty)])[t0]? = some (cA, ty) := ⟨tys.length, by simp⟩
      have hcr : cre (ws ++ [(q, .inl (cA, x.toNat, .inl (fun _ => 0)))]) (tys ++ [(cA, ty)]) b (fun _ => 0) (lay sto.1) (.inl (cA, x.toNat, .inl (fun _ => 0))) := by
        rw [hlay]
        rcases hkt with ⟨rfl, rfl⟩ | ⟨rfl, rfl⟩
        · exact Or.inr (Or.inl ⟨rfl, cA, fun _ => 0, rfl, hta, fun k hk => rfl⟩)
        · exact Or.inr (Or.inr (Or.inl ⟨rfl, cA, fun _ => 0, rfl, hta, fun k hk => rfl⟩))
      have hw' := wre_new hw tyx_app hcr
      have hlen := hw.1
      have hlast : (ws ++ [(q, va_E_inl (cA, x.toNat, .inl (fun _ => 0)))])[ws.length]? = some (q, va_E_inl (cA, x.toNat, .inl (fun _ => 0))) := by simp
      have k := h H1 locs ls lv (.ref q :: ys) _ _ ⟨hK1, hP1, hD1, hS1, hw', ext_tr hxt ext_app, by show n0 ≤ sto.1 + 1; omega⟩ hl hL (rls_ext ext_app hr) ⟨by
        have := rvs_rr (b := b) hlast
        rw [show ((ws.length : Int) + 2) = (sto.1 : Int) by omega] at this
        exact this, rvs_ext ext_app hs1⟩
      unfold gW at k
      dsimp only at k
      rw [e1, e2] at k
      exact k
    · exact (show False from h).elim
  · exact (show False from h).elim
/-- a new row of references -/
theorem at_nr {o i : Nat} (hx : p.tables.exec = Jvm.exec) (hb : c.code = cc) (hts : ∀ w ∈ gw_tbl, w.before args s = true) (hown : s.vm.findClass (oS o) = some mi.cls) (hA : ∀ q, s.heap.size ≤ q → A q) (hAO : va_AO "FasterForTheRich$Town" s) (hok : hasI anT o i = true) (hRc : nF - n0 ≤ R.cells) (hRs : SL nF - SL n0 ≤ R.slots) (hdg : decode cc pc = .ok (.anewarray i, 3))
    (h : Nx (gW p l e R s mi args below meth c Q n0) (WX dC dI b L0 xs0 s A w0 n0) mi b nL nF sto (naA 4 3 pc L st)) : At (gW p l e R s mi args below meth c Q n0) (WX dC dI b L0 xs0 s A w0 n0) mi b nL pc L st sto := by
  unfold naA at h
  split at h
  · rename_i x r
    split at h
    · rename_i hc
      obtain ⟨hlay, hnF, h⟩ := h
      intro H locs ls lv xs ws tys hV hl hL hr hs0
      obtain ⟨y, ys, rfl, hy, hs1⟩ := rvs_i hs0
      obtain ⟨hK, hP, hD, hS, hw, hxt, hn⟩ := hV
      unfold hasI at hok
      obtain ⟨z, hz, hzz⟩ := List.any_eq_true.mp hok
      have hwd := anT_ok z hz
      obtain ⟨o', i', w1, w2⟩ := z
      simp only [Bool.and_eq_true, beq_iff_eq] at hzz
      obtain ⟨rfl, rfl⟩ := hzz
      have hsz : SL (sto.1 + 1) = SL sto.1 + x.toNat := by
        show SL sto.1 + szL (lay sto.1) = _
        rw [hlay]; rfl
      have hm1 := SL_mono hn
      have hm2 := SL_mono hnF
      have e1 : sto.1 + 1 - n0 = sto.1 - n0 + 1 := by omega
      have e2 : SL (sto.1 + 1) - SL n0 = SL sto.1 - SL n0 + x.toNat := by omega
      have hyx : y.toNatClampNeg = x.toNat := by rw [← hy]; rfl
      refine va_newq (C := "FasterForTheRich$Town") (N' := x.toNat) hx hb hown (hts _ (atW.mem hwd)) hAO hK hP hD hS hA (not_neg hy hc.1) hyx (by omega) (by omega) (by omega) hdg fun q cA H1 hK1 hP1 hD1 hS1 => ?_
      have hta : ∃ t0 : Nat, (tys ++ [(cA, FieldType.object "FasterForTheRich$Town")])[t0]? = some (cA, .object "FasterForTheRich$Town") := ⟨tys.length, by simp⟩
      have hcr : cre (ws ++ [(q, .inl (cA, x.toNat, .inr (.inr (.inr (.inr (fun _ => none))))))]) (tys ++ [(cA, .object "FasterForTheRich$Town")]) b (fun _ => 0) (lay sto.1) (.inl (cA, x.toNat, .inr (.inr (.inr (.inr (fun _ => none)))))) := by
        rw [hlay]
        exact Or.inr (Or.inr (Or.inr ⟨rfl, cA, fun _ => none, rfl, hta, fun k hk => Or.inr (Or.inr ⟨rfl, Or.inl ⟨rfl, rfl⟩⟩)⟩))
      have hw' := wre_new hw tyx_app hcr
      have hlen := hw.1
      have hlast : (ws ++ [(q, va_E_inl (cA, x.toNat, .inr (.inr (.inr (.inr (fun _ => none))))))])[ws.length]? = some (q, va_E_inl (cA, x.toNat, .inr (.inr (.inr (.inr (fun _ => none)))))) := by simp
      have k := h H1 locs ls lv (.ref q :: ys) _ _ ⟨hK1, hP1, hD1, hS1, hw', ext_tr hxt ext_app, by show n0 ≤ sto.1 + 1; omega⟩ hl hL (rls_ext ext_app hr) ⟨by
        have := rvs_rr (b := b) hlast
        rw [show ((ws.length : Int) + 2) = (sto.1 : Int) by omega] at this
        exact this, rvs_ext ext_app hs1⟩
      unfold gW at k
      dsimp only at k
      rw [e1, e2] at k
      exact k
    · exact (show False from h).elim
  · exact (show False from h).elim
end HEAP

/-! EACH ENTRY IS THE INSTRUCTION AT ITS PLACE, and its links are among those of part 03. -/
def has3 (l : List (Nat × Nat × Nat × Nat × Nat × Nat)) (o i ci k : Nat) : Bool := l.any (fun q => q.1 == o && q.2.1 == i && q.2.2.1 == ci && q.2.2.2.1 == k)
def hasM (l : List (Nat × Nat × Nat × Nat × Nat × List Nat)) (o i j kind : Nat) : Bool := l.any (fun q => q.1 == o && q.2.1 == i && q.2.2.1 == j && q.2.2.2.1 == kind)
def hasI {α : Type} (l : List (Nat × Nat × α)) (o i : Nat) : Bool := l.any (fun q => q.1 == o && q.2.1 == i)
def hasK (l : List (Nat × Nat × Int × Nat)) (o i : Nat) (v : Int) : Bool := l.any (fun q => q.1 == o && q.2.1 == i && decide (q.2.2.1 = v))
def hasN (l : List (Nat × Nat × Nat × Nat × Nat × Nat)) (o i ci : Nat) : Bool := l.any (fun q => q.1 == o && q.2.1 == i && q.2.2.1 == ci)
def okRoom (m j : Nat) : Bool := decide (j < 225 ) && decide (mFr j + 1 ≤ mFr m) && decide (8 + (mL j + 11) + mLo j ≤ mLo m)
def okX (m o : Nat) (e : Ent) : Bool := match e with
  | (i, len, r1, r2) => match i with
    | .getfield i => (cis r1).all (fun ci => has3 flT o i ci r2.toNat)
    | .putfield i => (cis r1).all (fun ci => has3 flT o i ci r2.toNat && ((cT ci r2.toNat).2.2.2 == false || (iniT.contains m && decide ((cT ci r2.toNat).1 = oS o))))
    | .ldc i => hasK koT o i r2
    | .ldc_w i => hasK koT o i r2
    | .ldc2_w i => hasK klT o i r2
    | .new i => hasN nwT o i r1
    | .newarray t => decide (t = .int) || decide (t = .boolean)
    | .anewarray i => hasI anT o i
    | .invokestatic i => if r2 = 0 then okRoom m r1 && hasM mlT o i r1 101 else (if r2 = 1 then hasI miT o i else hasI mxT o i) && decide (1 ≤ mFr m) && decide (21 ≤ mLo m)
    | .invokespecial i => if r2 = 1 then hasI obT o i && decide (1 ≤ mFr m) && decide (12 ≤ mLo m) else okRoom m r1 && hasM mlT o i r1 100
    | .invokevirtual i => okRoom m r1 && hasM mlT o i r1 r2.toNat && decide (0 ≤ r2)
    | .lookupswitch dflt ps => (ps.toList.zip (ps.toList.drop 1)).all (fun (a, next) => decide (a.1 < next.1))
    | _ => true
def insLen (i : Instr) (len : Nat) : Nat := match i with
  | .iload _ => 2
  | .aload _ => 2
  | .lload _ => 2
  | .istore _ => 2
  | .lstore _ => 2
  | .bipush _ => 2
  | .ldc _ => 2
  | .newarray _ => 2
  | .sipush _ => 3
  | .ldc_w _ => 3
  | .ldc2_w _ => 3
  | .iinc _ _ => 3
  | .goto _ => 3
  | .ifCond _ _ => 3
  | .if_icmp _ _ => 3
  | .getfield _ => 3
  | .putfield _ => 3
  | .new _ => 3
  | .anewarray _ => 3
  | .invokestatic _ => 3
  | .invokespecial _ => 3
  | .invokevirtual _ => 3
  | .tableswitch _ _ _ _ => len
  | .lookupswitch _ _ => len
  | _ => 1
def isNu (i : Instr) : Bool := match i with
  | .aconst_null => true
  | _ => false
def okE (m o : Nat) (b : ByteArray) (pc : Nat) (e : Ent) : Bool := isNu e.1 || (decide (decode b pc = .ok (e.1, e.2.1)) && decide (e.2.1 = insLen e.1 e.2.1) && okX m o e)
def okEs (m o : Nat) (b : ByteArray) : Nat → List Ent → Bool
  | _, [] => true
  | pc, e :: l => okE m o b pc e && okEs m o b (pc + 1) l
def okM (m : Nat) : Bool := okEs m (mO m) (mB m) 0 (mE m)
theorem ok0 : okM 0 = true := by decide +kernel
theorem ok1 : okM 1 = true := by decide +kernel
theorem ok2 : okM 2 = true := by decide +kernel
theorem ok3 : okM 3 = true := by decide +kernel
theorem ok4 : okM 4 = true := by decide +kernel
theorem ok5 : okM 5 = true := by decide +kernel
theorem ok6 : okM 6 = true := by decide +kernel
theorem ok7 : okM 7 = true := by decide +kernel
theorem ok8 : okM 8 = true := by decide +kernel
theorem ok9 : okM 9 = true := by decide +kernel
theorem ok10 : okM 10 = true := by decide +kernel
theorem ok11 : okM 11 = true := by decide +kernel
theorem ok12 : okM 12 = true := by decide +kernel
theorem ok13 : okM 13 = true := by decide +kernel
theorem ok14 : okM 14 = true := by decide +kernel
theorem ok15 : okM 15 = true := by decide +kernel
theorem ok16 : okM 16 = true := by decide +kernel
theorem ok17 : okM 17 = true := by decide +kernel
theorem ok18 : okM 18 = true := by decide +kernel
theorem ok19 : okM 19 = true := by decide +kernel
theorem ok20 : okM 20 = true := by decide +kernel
theorem ok21 : okM 21 = true := by decide +kernel
theorem ok22 : okM 22 = true := by decide +kernel
theorem ok23 : okM 23 = true := by decide +kernel
theorem ok24 : okM 24 = true := by decide +kernel
theorem ok25 : okM 25 = true := by decide +kernel
theorem ok26 : okM 26 = true := by decide +kernel
theorem ok27 : okM 27 = true := by decide +kernel
theorem ok28 : okM 28 = true := by decide +kernel
theorem ok29 : okM 29 = true := by decide +kernel
theorem ok30 : okM 30 = true := by decide +kernel
theorem ok31 : okM 31 = true := by decide +kernel
theorem ok32 : okM 32 = true := by decide +kernel
theorem ok33 : okM 33 = true := by decide +kernel
theorem ok34 : okM 34 = true := by decide +kernel
theorem ok35 : okM 35 = true := by decide +kernel
theorem ok36 : okM 36 = true := by decide +kernel
theorem ok37 : okM 37 = true := by decide +kernel
theorem ok38 : okM 38 = true := by decide +kernel
theorem ok39 : okM 39 = true := by decide +kernel
theorem ok40 : okM 40 = true := by decide +kernel
theorem ok41 : okM 41 = true := by decide +kernel
theorem ok42 : okM 42 = true := by decide +kernel
theorem ok43 : okM 43 = true := by decide +kernel
theorem ok44 : okM 44 = true := by decide +kernel
theorem ok45 : okM 45 = true := by decide +kernel
theorem ok46 : okM 46 = true := by decide +kernel
theorem ok47 : okM 47 = true := by decide +kernel
theorem ok48 : okM 48 = true := by decide +kernel
theorem ok49 : okM 49 = true := by decide +kernel
theorem ok50 : okM 50 = true := by decide +kernel
theorem ok51 : okM 51 = true := by decide +kernel
theorem ok52 : okM 52 = true := by decide +kernel
theorem ok53 : okM 53 = true := by decide +kernel
theorem ok54 : okM 54 = true := by decide +kernel
theorem ok55 : okM 55 = true := by decide +kernel
theorem ok56 : okM 56 = true := by decide +kernel
theorem ok57 : okM 57 = true := by decide +kernel
theorem ok58 : okM 58 = true := by decide +kernel
theorem ok59 : okM 59 = true := by decide +kernel
theorem ok60 : okM 60 = true := by decide +kernel
theorem ok61 : okM 61 = true := by decide +kernel
theorem ok62 : okM 62 = true := by decide +kernel
theorem ok63 : okM 63 = true := by decide +kernel
theorem ok64 : okM 64 = true := by decide +kernel
theorem ok65 : okM 65 = true := by decide +kernel
theorem ok66 : okM 66 = true := by decide +kernel
theorem ok67 : okM 67 = true := by decide +kernel
theorem ok68 : okM 68 = true := by decide +kernel
theorem ok69 : okM 69 = true := by decide +kernel
theorem ok70 : okM 70 = true := by decide +kernel
theorem ok71 : okM 71 = true := by decide +kernel
theorem ok72 : okM 72 = true := by decide +kernel
theorem ok73 : okM 73 = true := by decide +kernel
theorem ok74 : okM 74 = true := by decide +kernel
theorem ok75 : okM 75 = true := by decide +kernel
theorem ok76 : okM 76 = true := by decide +kernel
theorem ok77 : okM 77 = true := by decide +kernel
theorem ok78 : okM 78 = true := by decide +kernel
theorem ok79 : okM 79 = true := by decide +kernel
theorem ok80 : okM 80 = true := by decide +kernel
theorem ok81 : okM 81 = true := by decide +kernel
theorem ok82 : okM 82 = true := by decide +kernel
theorem ok83 : okM 83 = true := by decide +kernel
theorem ok84 : okM 84 = true := by decide +kernel
theorem ok85 : okM 85 = true := by decide +kernel
theorem ok86 : okM 86 = true := by decide +kernel
theorem ok87 : okM 87 = true := by decide +kernel
theorem ok88 : okM 88 = true := by decide +kernel
theorem ok89 : okM 89 = true := by decide +kernel
theorem ok90 : okM 90 = true := by decide +kernel
theorem ok91 : okM 91 = true := by decide +kernel
theorem ok92 : okM 92 = true := by decide +kernel
theorem ok93 : okM 93 = true := by decide +kernel
theorem ok94 : okM 94 = true := by decide +kernel
theorem ok95 : okM 95 = true := by decide +kernel
theorem ok96 : okM 96 = true := by decide +kernel
theorem ok97 : okM 97 = true := by decide +kernel
theorem ok98 : okM 98 = true := by decide +kernel
theorem ok99 : okM 99 = true := by decide +kernel
theorem ok100 : okM 100 = true := by decide +kernel
theorem ok101 : okM 101 = true := by decide +kernel
theorem ok102 : okM 102 = true := by decide +kernel
theorem ok103 : okM 103 = true := by decide +kernel
theorem ok104 : okM 104 = true := by decide +kernel
theorem ok105 : okM 105 = true := by decide +kernel
theorem ok106 : okM 106 = true := by decide +kernel
theorem ok107 : okM 107 = true := by decide +kernel
theorem ok108 : okM 108 = true := by decide +kernel
theorem ok109 : okM 109 = true := by decide +kernel
theorem ok110 : okM 110 = true := by decide +kernel
theorem ok111 : okM 111 = true := by decide +kernel
theorem ok112 : okM 112 = true := by decide +kernel
theorem ok113 : okM 113 = true := by decide +kernel
theorem ok114 : okM 114 = true := by decide +kernel
theorem ok115 : okM 115 = true := by decide +kernel
theorem ok116 : okM 116 = true := by decide +kernel
theorem ok117 : okM 117 = true := by decide +kernel
theorem ok118 : okM 118 = true := by decide +kernel
theorem ok119 : okM 119 = true := by decide +kernel
theorem ok120 : okM 120 = true := by decide +kernel
theorem ok121 : okM 121 = true := by decide +kernel
theorem ok122 : okM 122 = true := by decide +kernel
theorem ok123 : okM 123 = true := by decide +kernel
theorem ok124 : okM 124 = true := by decide +kernel
theorem ok125 : okM 125 = true := by decide +kernel
theorem ok126 : okM 126 = true := by decide +kernel
theorem ok127 : okM 127 = true := by decide +kernel
theorem ok128 : okM 128 = true := by decide +kernel
theorem ok129 : okM 129 = true := by decide +kernel
theorem ok130 : okM 130 = true := by decide +kernel
theorem ok131 : okM 131 = true := by decide +kernel
theorem ok132 : okM 132 = true := by decide +kernel
theorem ok133 : okM 133 = true := by decide +kernel
theorem ok134 : okM 134 = true := by decide +kernel
theorem ok135 : okM 135 = true := by decide +kernel
theorem ok136 : okM 136 = true := by decide +kernel
theorem ok137 : okM 137 = true := by decide +kernel
theorem ok138 : okM 138 = true := by decide +kernel
theorem ok139 : okM 139 = true := by decide +kernel
theorem ok140 : okM 140 = true := by decide +kernel
theorem ok141 : okM 141 = true := by decide +kernel
theorem ok142 : okM 142 = true := by decide +kernel
theorem ok143 : okM 143 = true := by decide +kernel
theorem ok144 : okM 144 = true := by decide +kernel
theorem ok145 : okM 145 = true := by decide +kernel
theorem ok146 : okM 146 = true := by decide +kernel
theorem ok147 : okM 147 = true := by decide +kernel
theorem ok148 : okM 148 = true := by decide +kernel
theorem ok149 : okM 149 = true := by decide +kernel
theorem ok150 : okM 150 = true := by decide +kernel
theorem ok151 : okM 151 = true := by decide +kernel
theorem ok152 : okM 152 = true := by decide +kernel
theorem ok153 : okM 153 = true := by decide +kernel
theorem ok154 : okM 154 = true := by decide +kernel
theorem ok155 : okM 155 = true := by decide +kernel
theorem ok156 : okM 156 = true := by decide +kernel
theorem ok157 : okM 157 = true := by decide +kernel
theorem ok158 : okM 158 = true := by decide +kernel
theorem ok159 : okM 159 = true := by decide +kernel
theorem ok160 : okM 160 = true := by decide +kernel
theorem ok161 : okM 161 = true := by decide +kernel
theorem ok162 : okM 162 = true := by decide +kernel
theorem ok163 : okM 163 = true := by decide +kernel
theorem ok164 : okM 164 = true := by decide +kernel
theorem ok165 : okM 165 = true := by decide +kernel
theorem ok166 : okM 166 = true := by decide +kernel
theorem ok167 : okM 167 = true := by decide +kernel
theorem ok168 : okM 168 = true := by decide +kernel
theorem ok169 : okM 169 = true := by decide +kernel
theorem ok170 : okM 170 = true := by decide +kernel
theorem ok171 : okM 171 = true := by decide +kernel
theorem ok172 : okM 172 = true := by decide +kernel
theorem ok173 : okM 173 = true := by decide +kernel
theorem ok174 : okM 174 = true := by decide +kernel
theorem ok175 : okM 175 = true := by decide +kernel
theorem ok176 : okM 176 = true := by decide +kernel
theorem ok177 : okM 177 = true := by decide +kernel
theorem ok178 : okM 178 = true := by decide +kernel
theorem ok179 : okM 179 = true := by decide +kernel
theorem ok180 : okM 180 = true := by decide +kernel
theorem ok181 : okM 181 = true := by decide +kernel
theorem ok182 : okM 182 = true := by decide +kernel
theorem ok183 : okM 183 = true := by decide +kernel
theorem ok184 : okM 184 = true := by decide +kernel
theorem ok185 : okM 185 = true := by decide +kernel
theorem ok186 : okM 186 = true := by decide +kernel
theorem ok187 : okM 187 = true := by decide +kernel
theorem ok188 : okM 188 = true := by decide +kernel
theorem ok189 : okM 189 = true := by decide +kernel
theorem ok190 : okM 190 = true := by decide +kernel
theorem ok191 : okM 191 = true := by decide +kernel
theorem ok192 : okM 192 = true := by decide +kernel
theorem ok193 : okM 193 = true := by decide +kernel
theorem ok194 : okM 194 = true := by decide +kernel
theorem ok195 : okM 195 = true := by decide +kernel
theorem ok196 : okM 196 = true := by decide +kernel
theorem ok197 : okM 197 = true := by decide +kernel
theorem ok198 : okM 198 = true := by decide +kernel
theorem ok199 : okM 199 = true := by decide +kernel
theorem ok200 : okM 200 = true := by decide +kernel
theorem ok201 : okM 201 = true := by decide +kernel
theorem ok202 : okM 202 = true := by decide +kernel
theorem ok203 : okM 203 = true := by decide +kernel
theorem ok204 : okM 204 = true := by decide +kernel
theorem ok205 : okM 205 = true := by decide +kernel
theorem ok206 : okM 206 = true := by decide +kernel
theorem ok207 : okM 207 = true := by decide +kernel
theorem ok208 : okM 208 = true := by decide +kernel
theorem ok209 : okM 209 = true := by decide +kernel
theorem ok210 : okM 210 = true := by decide +kernel
theorem ok211 : okM 211 = true := by decide +kernel
theorem ok212 : okM 212 = true := by decide +kernel
theorem ok213 : okM 213 = true := by decide +kernel
theorem ok214 : okM 214 = true := by decide +kernel
theorem ok215 : okM 215 = true := by decide +kernel
theorem ok216 : okM 216 = true := by decide +kernel
theorem ok217 : okM 217 = true := by decide +kernel
theorem ok218 : okM 218 = true := by decide +kernel
theorem ok219 : okM 219 = true := by decide +kernel
theorem ok220 : okM 220 = true := by decide +kernel
theorem ok221 : okM 221 = true := by decide +kernel
theorem ok222 : okM 222 = true := by decide +kernel
theorem ok223 : okM 223 = true := by decide +kernel
theorem ok224 : okM 224 = true := by decide +kernel


theorem okEs_cut {m o : Nat} {bs : ByteArray} : ∀ (n k : Nat) (l : List Ent), okEs m o bs k (l.take n) = true → okEs m o bs (k + n) (l.drop n) = true → okEs m o bs k l = true
  | 0, k, l, _, h => by simpa using h
  | n + 1, k, [], _, _ => rfl
  | n + 1, k, e :: l, h, g => by
    rw [List.take_succ_cons, okEs, Bool.and_eq_true] at h
    rw [List.drop_succ_cons] at g
    rw [okEs, Bool.and_eq_true]
    exact ⟨h.1, okEs_cut n (k + 1) l h.2 (by rw [show k + 1 + n = k + (n + 1) by omega]; exact g)⟩
theorem okL_0 : okEs 225 (mO 225) (mB 225) 0 ((mE 225 |>.drop 0).take 60) = true := by decide +kernel
theorem okL_60 : okEs 225 (mO 225) (mB 225) 60 ((mE 225 |>.drop 60).take 60) = true := by decide +kernel
theorem okL_120 : okEs 225 (mO 225) (mB 225) 120 ((mE 225 |>.drop 120).take 60) = true := by decide +kernel
theorem okL_180 : okEs 225 (mO 225) (mB 225) 180 ((mE 225 |>.drop 180).take 60) = true := by decide +kernel
theorem okL_240 : okEs 225 (mO 225) (mB 225) 240 ((mE 225 |>.drop 240).take 60) = true := by decide +kernel
theorem okL_300 : okEs 225 (mO 225) (mB 225) 300 ((mE 225 |>.drop 300).take 60) = true := by decide +kernel
theorem okL_360 : okEs 225 (mO 225) (mB 225) 360 ((mE 225 |>.drop 360).take 60) = true := by decide +kernel
theorem okL_420 : okEs 225 (mO 225) (mB 225) 420 ((mE 225 |>.drop 420).take 60) = true := by decide +kernel
theorem okL_480 : okEs 225 (mO 225) (mB 225) 480 ((mE 225 |>.drop 480).take 60) = true := by decide +kernel
theorem okL_540 : okEs 225 (mO 225) (mB 225) 540 ((mE 225 |>.drop 540).take 60) = true := by decide +kernel
theorem okL_600 : okEs 225 (mO 225) (mB 225) 600 ((mE 225 |>.drop 600).take 60) = true := by decide +kernel
theorem okL_660 : okEs 225 (mO 225) (mB 225) 660 ((mE 225 |>.drop 660).take 60) = true := by decide +kernel
theorem okL_720 : okEs 225 (mO 225) (mB 225) 720 ((mE 225 |>.drop 720).take 60) = true := by decide +kernel
theorem okL_780 : okEs 225 (mO 225) (mB 225) 780 ((mE 225 |>.drop 780).take 60) = true := by decide +kernel
theorem okL_840 : okEs 225 (mO 225) (mB 225) 840 ((mE 225 |>.drop 840).take 60) = true := by decide +kernel
theorem okL_900 : okEs 225 (mO 225) (mB 225) 900 ((mE 225 |>.drop 900).take 60) = true := by decide +kernel
theorem okL_960 : okEs 225 (mO 225) (mB 225) 960 ((mE 225 |>.drop 960).take 60) = true := by decide +kernel
theorem okL_1020 : okEs 225 (mO 225) (mB 225) 1020 ((mE 225 |>.drop 1020).take 60) = true := by decide +kernel
theorem okL_1080 : okEs 225 (mO 225) (mB 225) 1080 ((mE 225 |>.drop 1080).take 60) = true := by decide +kernel
theorem okL_1140 : okEs 225 (mO 225) (mB 225) 1140 ((mE 225 |>.drop 1140).take 60) = true := by decide +kernel
theorem okL_1200 : okEs 225 (mO 225) (mB 225) 1200 ((mE 225 |>.drop 1200).take 60) = true := by decide +kernel
theorem okL_1260 : okEs 225 (mO 225) (mB 225) 1260 ((mE 225 |>.drop 1260).take 60) = true := by decide +kernel
theorem okL_1320 : okEs 225 (mO 225) (mB 225) 1320 ((mE 225 |>.drop 1320).take 60) = true := by decide +kernel
theorem okL_1380 : okEs 225 (mO 225) (mB 225) 1380 ((mE 225 |>.drop 1380).take 60) = true := by decide +kernel
theorem okL_1440 : okEs 225 (mO 225) (mB 225) 1440 ((mE 225 |>.drop 1440).take 60) = true := by decide +kernel
theorem okL_1500 : okEs 225 (mO 225) (mB 225) 1500 ((mE 225 |>.drop 1500).take 60) = true := by decide +kernel
theorem okL_end : okEs 225 (mO 225) (mB 225) 1560 (mE 225 |>.drop 1560) = true := by decide +kernel
theorem okR_1500 : okEs 225 (mO 225) (mB 225) 1500 (mE 225 |>.drop 1500) = true := okEs_cut 60 1500 _ okL_1500 (by rw [List.drop_drop]; exact okL_end)
theorem okR_1440 : okEs 225 (mO 225) (mB 225) 1440 (mE 225 |>.drop 1440) = true := okEs_cut 60 1440 _ okL_1440 (by rw [List.drop_drop]; exact okR_1500)
theorem okR_1380 : okEs 225 (mO 225) (mB 225) 1380 (mE 225 |>.drop 1380) = true := okEs_cut 60 1380 _ okL_1380 (by rw [List.drop_drop]; exact okR_1440)
theorem okR_1320 : okEs 225 (mO 225) (mB 225) 1320 (mE 225 |>.drop 1320) = true := okEs_cut 60 1320 _ okL_1320 (by rw [List.drop_drop]; exact okR_1380)
theorem okR_1260 : okEs 225 (mO 225) (mB 225) 1260 (mE 225 |>.drop 1260) = true := okEs_cut 60 1260 _ okL_1260 (by rw [List.drop_drop]; exact okR_1320)
theorem okR_1200 : okEs 225 (mO 225) (mB 225) 1200 (mE 225 |>.drop 1200) = true := okEs_cut 60 1200 _ okL_1200 (by rw [List.drop_drop]; exact okR_1260)
theorem okR_1140 : okEs 225 (mO 225) (mB 225) 1140 (mE 225 |>.drop 1140) = true := okEs_cut 60 1140 _ okL_1140 (by rw [List.drop_drop]; exact okR_1200)
theorem okR_1080 : okEs 225 (mO 225) (mB 225) 1080 (mE 225 |>.drop 1080) = true := okEs_cut 60 1080 _ okL_1080 (by rw [List.drop_drop]; exact okR_1140)
theorem okR_1020 : okEs 225 (mO 225) (mB 225) 1020 (mE 225 |>.drop 1020) = true := okEs_cut 60 1020 _ okL_1020 (by rw [List.drop_drop]; exact okR_1080)
theorem okR_960 : okEs 225 (mO 225) (mB 225) 960 (mE 225 |>.drop 960) = true := okEs_cut 60 960 _ okL_960 (by rw [List.drop_drop]; exact okR_1020)
theorem okR_900 : okEs 225 (mO 225) (mB 225) 900 (mE 225 |>.drop 900) = true := okEs_cut 60 900 _ okL_900 (by rw [List.drop_drop]; exact okR_960)
theorem okR_840 : okEs 225 (mO 225) (mB 225) 840 (mE 225 |>.drop 840) = true := okEs_cut 60 840 _ okL_840 (by rw [List.drop_drop]; exact okR_900)
theorem okR_780 : okEs 225 (mO 225) (mB 225) 780 (mE 225 |>.drop 780) = true := okEs_cut 60 780 _ okL_780 (by rw [List.drop_drop]; exact okR_840)
theorem okR_720 : okEs 225 (mO 225) (mB 225) 720 (mE 225 |>.drop 720) = true := okEs_cut 60 720 _ okL_720 (by rw [List.drop_drop]; exact okR_780)
theorem okR_660 : okEs 225 (mO 225) (mB 225) 660 (mE 225 |>.drop 660) = true := okEs_cut 60 660 _ okL_660 (by rw [List.drop_drop]; exact okR_720)
theorem okR_600 : okEs 225 (mO 225) (mB 225) 600 (mE 225 |>.drop 600) = true := okEs_cut 60 600 _ okL_600 (by rw [List.drop_drop]; exact okR_660)
theorem okR_540 : okEs 225 (mO 225) (mB 225) 540 (mE 225 |>.drop 540) = true := okEs_cut 60 540 _ okL_540 (by rw [List.drop_drop]; exact okR_600)
theorem okR_480 : okEs 225 (mO 225) (mB 225) 480 (mE 225 |>.drop 480) = true := okEs_cut 60 480 _ okL_480 (by rw [List.drop_drop]; exact okR_540)
theorem okR_420 : okEs 225 (mO 225) (mB 225) 420 (mE 225 |>.drop 420) = true := okEs_cut 60 420 _ okL_420 (by rw [List.drop_drop]; exact okR_480)
theorem okR_360 : okEs 225 (mO 225) (mB 225) 360 (mE 225 |>.drop 360) = true := okEs_cut 60 360 _ okL_360 (by rw [List.drop_drop]; exact okR_420)
theorem okR_300 : okEs 225 (mO 225) (mB 225) 300 (mE 225 |>.drop 300) = true := okEs_cut 60 300 _ okL_300 (by rw [List.drop_drop]; exact okR_360)
theorem okR_240 : okEs 225 (mO 225) (mB 225) 240 (mE 225 |>.drop 240) = true := okEs_cut 60 240 _ okL_240 (by rw [List.drop_drop]; exact okR_300)
theorem okR_180 : okEs 225 (mO 225) (mB 225) 180 (mE 225 |>.drop 180) = true := okEs_cut 60 180 _ okL_180 (by rw [List.drop_drop]; exact okR_240)
theorem okR_120 : okEs 225 (mO 225) (mB 225) 120 (mE 225 |>.drop 120) = true := okEs_cut 60 120 _ okL_120 (by rw [List.drop_drop]; exact okR_180)
theorem okR_60 : okEs 225 (mO 225) (mB 225) 60 (mE 225 |>.drop 60) = true := okEs_cut 60 60 _ okL_60 (by rw [List.drop_drop]; exact okR_120)
theorem okR_0 : okEs 225 (mO 225) (mB 225) 0 (mE 225 |>.drop 0) = true := okEs_cut 60 0 _ okL_0 (by rw [List.drop_drop]; exact okR_60)
theorem ok225 : okM 225 = true := okR_0
theorem okAll (m : Nat) (h : m < 226) : okM m = true :=
  match m, h with
  | 0, _ => ok0
  | 1, _ => ok1
  | 2, _ => ok2
  | 3, _ => ok3
  | 4, _ => ok4
  | 5, _ => ok5
  | 6, _ => ok6
  | 7, _ => ok7
  | 8, _ => ok8
  | 9, _ => ok9
  | 10, _ => ok10
  | 11, _ => ok11
  | 12, _ => ok12
  | 13, _ => ok13
  | 14, _ => ok14
  | 15, _ => ok15
  | 16, _ => ok16
  | 17, _ => ok17
  | 18, _ => ok18
  | 19, _ => ok19
  | 20, _ => ok20
  | 21, _ => ok21
  | 22, _ => ok22
  | 23, _ => ok23
  | 24, _ => ok24
  | 25, _ => ok25
  | 26, _ => ok26
  | 27, _ => ok27
  | 28, _ => ok28
  | 29, _ => ok29
  | 30, _ => ok30
  | 31, _ => ok31
  | 32, _ => ok32
  | 33, _ => ok33
  | 34, _ => ok34
  | 35, _ => ok35
  | 36, _ => ok36
  | 37, _ => ok37
  | 38, _ => ok38
  | 39, _ => ok39
  | 40, _ => ok40
  | 41, _ => ok41
  | 42, _ => ok42
  | 43, _ => ok43
  | 44, _ => ok44
  | 45, _ => ok45
  | 46, _ => ok46
  | 47, _ => ok47
  | 48, _ => ok48
  | 49, _ => ok49
  | 50, _ => ok50
  | 51, _ => ok51
  | 52, _ => ok52
  | 53, _ => ok53
  | 54, _ => ok54
  | 55, _ => ok55
  | 56, _ => ok56
  | 57, _ => ok57
  | 58, _ => ok58
  | 59, _ => ok59
  | 60, _ => ok60
  | 61, _ => ok61
  | 62, _ => ok62
  | 63, _ => ok63
  | 64, _ => ok64
  | 65, _ => ok65
  | 66, _ => ok66
  | 67, _ => ok67
  | 68, _ => ok68
  | 69, _ => ok69
  | 70, _ => ok70
  | 71, _ => ok71
  | 72, _ => ok72
  | 73, _ => ok73
  | 74, _ => ok74
  | 75, _ => ok75
  | 76, _ => ok76
  | 77, _ => ok77
  | 78, _ => ok78
  | 79, _ => ok79
  | 80, _ => ok80
  | 81, _ => ok81
  | 82, _ => ok82
  | 83, _ => ok83
  | 84, _ => ok84
  | 85, _ => ok85
  | 86, _ => ok86
  | 87, _ => ok87
  | 88, _ => ok88
  | 89, _ => ok89
  | 90, _ => ok90
  | 91, _ => ok91
  | 92, _ => ok92
  | 93, _ => ok93
  | 94, _ => ok94
  | 95, _ => ok95
  | 96, _ => ok96
  | 97, _ => ok97
  | 98, _ => ok98
  | 99, _ => ok99
  | 100, _ => ok100
  | 101, _ => ok101
  | 102, _ => ok102
  | 103, _ => ok103
  | 104, _ => ok104
  | 105, _ => ok105
  | 106, _ => ok106
  | 107, _ => ok107
  | 108, _ => ok108
  | 109, _ => ok109
  | 110, _ => ok110
  | 111, _ => ok111
  | 112, _ => ok112
  | 113, _ => ok113
  | 114, _ => ok114
  | 115, _ => ok115
  | 116, _ => ok116
  | 117, _ => ok117
  | 118, _ => ok118
  | 119, _ => ok119
  | 120, _ => ok120
  | 121, _ => ok121
  | 122, _ => ok122
  | 123, _ => ok123
  | 124, _ => ok124
  | 125, _ => ok125
  | 126, _ => ok126
  | 127, _ => ok127
  | 128, _ => ok128
  | 129, _ => ok129
  | 130, _ => ok130
  | 131, _ => ok131
  | 132, _ => ok132
  | 133, _ => ok133
  | 134, _ => ok134
  | 135, _ => ok135
  | 136, _ => ok136
  | 137, _ => ok137
  | 138, _ => ok138
  | 139, _ => ok139
  | 140, _ => ok140
  | 141, _ => ok141
  | 142, _ => ok142
  | 143, _ => ok143
  | 144, _ => ok144
  | 145, _ => ok145
  | 146, _ => ok146
  | 147, _ => ok147
  | 148, _ => ok148
  | 149, _ => ok149
  | 150, _ => ok150
  | 151, _ => ok151
  | 152, _ => ok152
  | 153, _ => ok153
  | 154, _ => ok154
  | 155, _ => ok155
  | 156, _ => ok156
  | 157, _ => ok157
  | 158, _ => ok158
  | 159, _ => ok159
  | 160, _ => ok160
  | 161, _ => ok161
  | 162, _ => ok162
  | 163, _ => ok163
  | 164, _ => ok164
  | 165, _ => ok165
  | 166, _ => ok166
  | 167, _ => ok167
  | 168, _ => ok168
  | 169, _ => ok169
  | 170, _ => ok170
  | 171, _ => ok171
  | 172, _ => ok172
  | 173, _ => ok173
  | 174, _ => ok174
  | 175, _ => ok175
  | 176, _ => ok176
  | 177, _ => ok177
  | 178, _ => ok178
  | 179, _ => ok179
  | 180, _ => ok180
  | 181, _ => ok181
  | 182, _ => ok182
  | 183, _ => ok183
  | 184, _ => ok184
  | 185, _ => ok185
  | 186, _ => ok186
  | 187, _ => ok187
  | 188, _ => ok188
  | 189, _ => ok189
  | 190, _ => ok190
  | 191, _ => ok191
  | 192, _ => ok192
  | 193, _ => ok193
  | 194, _ => ok194
  | 195, _ => ok195
  | 196, _ => ok196
  | 197, _ => ok197
  | 198, _ => ok198
  | 199, _ => ok199
  | 200, _ => ok200
  | 201, _ => ok201
  | 202, _ => ok202
  | 203, _ => ok203
  | 204, _ => ok204
  | 205, _ => ok205
  | 206, _ => ok206
  | 207, _ => ok207
  | 208, _ => ok208
  | 209, _ => ok209
  | 210, _ => ok210
  | 211, _ => ok211
  | 212, _ => ok212
  | 213, _ => ok213
  | 214, _ => ok214
  | 215, _ => ok215
  | 216, _ => ok216
  | 217, _ => ok217
  | 218, _ => ok218
  | 219, _ => ok219
  | 220, _ => ok220
  | 221, _ => ok221
  | 222, _ => ok222
  | 223, _ => ok223
  | 224, _ => ok224
  | 225, _ => ok225
  | (_ + 226), h => absurd h (by omega)

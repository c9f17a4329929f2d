/-! ===== the checks of the long methods, and of all ===== -/
theorem sn_all_cut {α : Type} (p : α → Bool) (k : Nat) (l : List α) (h1 : (l.take k).all p = true) (h2 : (l.drop k).all p = true) : l.all p = true := by
  rw [← List.take_append_drop k l, List.all_append, h1, h2]; rfl
theorem sn_ok0_0 : ((am_K0.drop 0).take 50).all (fun e => sn_okI 0 e.1 e.2) = true := by decide +kernel
theorem sn_ok0_50 : ((am_K0.drop 50).take 50).all (fun e => sn_okI 0 e.1 e.2) = true := by decide +kernel
theorem sn_ok0_100 : ((am_K0.drop 100).take 50).all (fun e => sn_okI 0 e.1 e.2) = true := by decide +kernel
theorem sn_ok0_150 : ((am_K0.drop 150).take 50).all (fun e => sn_okI 0 e.1 e.2) = true := by decide +kernel
theorem sn_ok0_200 : ((am_K0.drop 200).take 50).all (fun e => sn_okI 0 e.1 e.2) = true := by decide +kernel
theorem sn_ok0_250 : ((am_K0.drop 250).take 50).all (fun e => sn_okI 0 e.1 e.2) = true := by decide +kernel
theorem sn_ok0_300 : ((am_K0.drop 300).take 50).all (fun e => sn_okI 0 e.1 e.2) = true := by decide +kernel
theorem sn_ok0_350 : ((am_K0.drop 350).take 50).all (fun e => sn_okI 0 e.1 e.2) = true := by decide +kernel
theorem sn_ok0_400 : ((am_K0.drop 400).take 50).all (fun e => sn_okI 0 e.1 e.2) = true := by decide +kernel
theorem sn_ok0_450 : ((am_K0.drop 450).take 50).all (fun e => sn_okI 0 e.1 e.2) = true := by decide +kernel
theorem sn_ok0_500 : ((am_K0.drop 500).take 50).all (fun e => sn_okI 0 e.1 e.2) = true := by decide +kernel
theorem sn_ok0_550 : ((am_K0.drop 550).take 50).all (fun e => sn_okI 0 e.1 e.2) = true := by decide +kernel
theorem sn_ok0_600 : ((am_K0.drop 600).take 50).all (fun e => sn_okI 0 e.1 e.2) = true := by decide +kernel
theorem sn_ok0_650 : ((am_K0.drop 650).take 50).all (fun e => sn_okI 0 e.1 e.2) = true := by decide +kernel
theorem sn_ok0_700 : ((am_K0.drop 700).take 50).all (fun e => sn_okI 0 e.1 e.2) = true := by decide +kernel
theorem sn_ok0_750 : ((am_K0.drop 750).take 50).all (fun e => sn_okI 0 e.1 e.2) = true := by decide +kernel
theorem sn_ok0_800 : ((am_K0.drop 800).take 50).all (fun e => sn_okI 0 e.1 e.2) = true := by decide +kernel
theorem sn_ok0_850 : ((am_K0.drop 850).take 50).all (fun e => sn_okI 0 e.1 e.2) = true := by decide +kernel
theorem sn_ok0_900 : ((am_K0.drop 900).take 50).all (fun e => sn_okI 0 e.1 e.2) = true := by decide +kernel
theorem sn_ok0_950 : ((am_K0.drop 950).take 50).all (fun e => sn_okI 0 e.1 e.2) = true := by decide +kernel
theorem sn_ok0_1000 : ((am_K0.drop 1000).take 50).all (fun e => sn_okI 0 e.1 e.2) = true := by decide +kernel
theorem sn_ok0_e : (am_K0.drop 1050).all (fun e => sn_okI 0 e.1 e.2) = true := by decide +kernel
theorem sn_ok0_d1000 : (am_K0.drop 1000).all (fun e => sn_okI 0 e.1 e.2) = true := sn_all_cut _ 50 _ sn_ok0_1000 (by rw [List.drop_drop]; exact sn_ok0_e)
theorem sn_ok0_d950 : (am_K0.drop 950).all (fun e => sn_okI 0 e.1 e.2) = true := sn_all_cut _ 50 _ sn_ok0_950 (by rw [List.drop_drop]; exact sn_ok0_d1000)
theorem sn_ok0_d900 : (am_K0.drop 900).all (fun e => sn_okI 0 e.1 e.2) = true := sn_all_cut _ 50 _ sn_ok0_900 (by rw [List.drop_drop]; exact sn_ok0_d950)
theorem sn_ok0_d850 : (am_K0.drop 850).all (fun e => sn_okI 0 e.1 e.2) = true := sn_all_cut _ 50 _ sn_ok0_850 (by rw [List.drop_drop]; exact sn_ok0_d900)
theorem sn_ok0_d800 : (am_K0.drop 800).all (fun e => sn_okI 0 e.1 e.2) = true := sn_all_cut _ 50 _ sn_ok0_800 (by rw [List.drop_drop]; exact sn_ok0_d850)
theorem sn_ok0_d750 : (am_K0.drop 750).all (fun e => sn_okI 0 e.1 e.2) = true := sn_all_cut _ 50 _ sn_ok0_750 (by rw [List.drop_drop]; exact sn_ok0_d800)
theorem sn_ok0_d700 : (am_K0.drop 700).all (fun e => sn_okI 0 e.1 e.2) = true := sn_all_cut _ 50 _ sn_ok0_700 (by rw [List.drop_drop]; exact sn_ok0_d750)
theorem sn_ok0_d650 : (am_K0.drop 650).all (fun e => sn_okI 0 e.1 e.2) = true := sn_all_cut _ 50 _ sn_ok0_650 (by rw [List.drop_drop]; exact sn_ok0_d700)
theorem sn_ok0_d600 : (am_K0.drop 600).all (fun e => sn_okI 0 e.1 e.2) = true := sn_all_cut _ 50 _ sn_ok0_600 (by rw [List.drop_drop]; exact sn_ok0_d650)
theorem sn_ok0_d550 : (am_K0.drop 550).all (fun e => sn_okI 0 e.1 e.2) = true := sn_all_cut _ 50 _ sn_ok0_550 (by rw [List.drop_drop]; exact sn_ok0_d600)
theorem sn_ok0_d500 : (am_K0.drop 500).all (fun e => sn_okI 0 e.1 e.2) = true := sn_all_cut _ 50 _ sn_ok0_500 (by rw [List.drop_drop]; exact sn_ok0_d550)
theorem sn_ok0_d450 : (am_K0.drop 450).all (fun e => sn_okI 0 e.1 e.2) = true := sn_all_cut _ 50 _ sn_ok0_450 (by rw [List.drop_drop]; exact sn_ok0_d500)
theorem sn_ok0_d400 : (am_K0.drop 400).all (fun e => sn_okI 0 e.1 e.2) = true := sn_all_cut _ 50 _ sn_ok0_400 (by rw [List.drop_drop]; exact sn_ok0_d450)
theorem sn_ok0_d350 : (am_K0.drop 350).all (fun e => sn_okI 0 e.1 e.2) = true := sn_all_cut _ 50 _ sn_ok0_350 (by rw [List.drop_drop]; exact sn_ok0_d400)
theorem sn_ok0_d300 : (am_K0.drop 300).all (fun e => sn_okI 0 e.1 e.2) = true := sn_all_cut _ 50 _ sn_ok0_300 (by rw [List.drop_drop]; exact sn_ok0_d350)
theorem sn_ok0_d250 : (am_K0.drop 250).all (fun e => sn_okI 0 e.1 e.2) = true := sn_all_cut _ 50 _ sn_ok0_250 (by rw [List.drop_drop]; exact sn_ok0_d300)
theorem sn_ok0_d200 : (am_K0.drop 200).all (fun e => sn_okI 0 e.1 e.2) = true := sn_all_cut _ 50 _ sn_ok0_200 (by rw [List.drop_drop]; exact sn_ok0_d250)
theorem sn_ok0_d150 : (am_K0.drop 150).all (fun e => sn_okI 0 e.1 e.2) = true := sn_all_cut _ 50 _ sn_ok0_150 (by rw [List.drop_drop]; exact sn_ok0_d200)
theorem sn_ok0_d100 : (am_K0.drop 100).all (fun e => sn_okI 0 e.1 e.2) = true := sn_all_cut _ 50 _ sn_ok0_100 (by rw [List.drop_drop]; exact sn_ok0_d150)
theorem sn_ok0_d50 : (am_K0.drop 50).all (fun e => sn_okI 0 e.1 e.2) = true := sn_all_cut _ 50 _ sn_ok0_50 (by rw [List.drop_drop]; exact sn_ok0_d100)
theorem sn_ok0_d0 : (am_K0.drop 0).all (fun e => sn_okI 0 e.1 e.2) = true := sn_all_cut _ 50 _ sn_ok0_0 (by rw [List.drop_drop]; exact sn_ok0_d50)
theorem sn_ok0 : am_K0.all (fun e => sn_okI 0 e.1 e.2) = true := sn_ok0_d0
theorem sn_ok164_0 : ((am_K164.drop 0).take 50).all (fun e => sn_okI 164 e.1 e.2) = true := by decide +kernel
theorem sn_ok164_50 : ((am_K164.drop 50).take 50).all (fun e => sn_okI 164 e.1 e.2) = true := by decide +kernel
theorem sn_ok164_100 : ((am_K164.drop 100).take 50).all (fun e => sn_okI 164 e.1 e.2) = true := by decide +kernel
theorem sn_ok164_150 : ((am_K164.drop 150).take 50).all (fun e => sn_okI 164 e.1 e.2) = true := by decide +kernel
theorem sn_ok164_200 : ((am_K164.drop 200).take 50).all (fun e => sn_okI 164 e.1 e.2) = true := by decide +kernel
theorem sn_ok164_250 : ((am_K164.drop 250).take 50).all (fun e => sn_okI 164 e.1 e.2) = true := by decide +kernel
theorem sn_ok164_300 : ((am_K164.drop 300).take 50).all (fun e => sn_okI 164 e.1 e.2) = true := by decide +kernel
theorem sn_ok164_350 : ((am_K164.drop 350).take 50).all (fun e => sn_okI 164 e.1 e.2) = true := by decide +kernel
theorem sn_ok164_400 : ((am_K164.drop 400).take 50).all (fun e => sn_okI 164 e.1 e.2) = true := by decide +kernel
theorem sn_ok164_e : (am_K164.drop 450).all (fun e => sn_okI 164 e.1 e.2) = true := by decide +kernel
theorem sn_ok164_d400 : (am_K164.drop 400).all (fun e => sn_okI 164 e.1 e.2) = true := sn_all_cut _ 50 _ sn_ok164_400 (by rw [List.drop_drop]; exact sn_ok164_e)
theorem sn_ok164_d350 : (am_K164.drop 350).all (fun e => sn_okI 164 e.1 e.2) = true := sn_all_cut _ 50 _ sn_ok164_350 (by rw [List.drop_drop]; exact sn_ok164_d400)
theorem sn_ok164_d300 : (am_K164.drop 300).all (fun e => sn_okI 164 e.1 e.2) = true := sn_all_cut _ 50 _ sn_ok164_300 (by rw [List.drop_drop]; exact sn_ok164_d350)
theorem sn_ok164_d250 : (am_K164.drop 250).all (fun e => sn_okI 164 e.1 e.2) = true := sn_all_cut _ 50 _ sn_ok164_250 (by rw [List.drop_drop]; exact sn_ok164_d300)
theorem sn_ok164_d200 : (am_K164.drop 200).all (fun e => sn_okI 164 e.1 e.2) = true := sn_all_cut _ 50 _ sn_ok164_200 (by rw [List.drop_drop]; exact sn_ok164_d250)
theorem sn_ok164_d150 : (am_K164.drop 150).all (fun e => sn_okI 164 e.1 e.2) = true := sn_all_cut _ 50 _ sn_ok164_150 (by rw [List.drop_drop]; exact sn_ok164_d200)
theorem sn_ok164_d100 : (am_K164.drop 100).all (fun e => sn_okI 164 e.1 e.2) = true := sn_all_cut _ 50 _ sn_ok164_100 (by rw [List.drop_drop]; exact sn_ok164_d150)
theorem sn_ok164_d50 : (am_K164.drop 50).all (fun e => sn_okI 164 e.1 e.2) = true := sn_all_cut _ 50 _ sn_ok164_50 (by rw [List.drop_drop]; exact sn_ok164_d100)
theorem sn_ok164_d0 : (am_K164.drop 0).all (fun e => sn_okI 164 e.1 e.2) = true := sn_all_cut _ 50 _ sn_ok164_0 (by rw [List.drop_drop]; exact sn_ok164_d50)
theorem sn_ok164 : am_K164.all (fun e => sn_okI 164 e.1 e.2) = true := sn_ok164_d0
theorem sn_ok197_0 : ((am_K197.drop 0).take 50).all (fun e => sn_okI 197 e.1 e.2) = true := by decide +kernel
theorem sn_ok197_50 : ((am_K197.drop 50).take 50).all (fun e => sn_okI 197 e.1 e.2) = true := by decide +kernel
theorem sn_ok197_100 : ((am_K197.drop 100).take 50).all (fun e => sn_okI 197 e.1 e.2) = true := by decide +kernel
theorem sn_ok197_150 : ((am_K197.drop 150).take 50).all (fun e => sn_okI 197 e.1 e.2) = true := by decide +kernel
theorem sn_ok197_e : (am_K197.drop 200).all (fun e => sn_okI 197 e.1 e.2) = true := by decide +kernel
theorem sn_ok197_d150 : (am_K197.drop 150).all (fun e => sn_okI 197 e.1 e.2) = true := sn_all_cut _ 50 _ sn_ok197_150 (by rw [List.drop_drop]; exact sn_ok197_e)
theorem sn_ok197_d100 : (am_K197.drop 100).all (fun e => sn_okI 197 e.1 e.2) = true := sn_all_cut _ 50 _ sn_ok197_100 (by rw [List.drop_drop]; exact sn_ok197_d150)
theorem sn_ok197_d50 : (am_K197.drop 50).all (fun e => sn_okI 197 e.1 e.2) = true := sn_all_cut _ 50 _ sn_ok197_50 (by rw [List.drop_drop]; exact sn_ok197_d100)
theorem sn_ok197_d0 : (am_K197.drop 0).all (fun e => sn_okI 197 e.1 e.2) = true := sn_all_cut _ 50 _ sn_ok197_0 (by rw [List.drop_drop]; exact sn_ok197_d50)
theorem sn_ok197 : am_K197.all (fun e => sn_okI 197 e.1 e.2) = true := sn_ok197_d0
theorem sn_ok199_0 : ((am_K199.drop 0).take 50).all (fun e => sn_okI 199 e.1 e.2) = true := by decide +kernel
theorem sn_ok199_50 : ((am_K199.drop 50).take 50).all (fun e => sn_okI 199 e.1 e.2) = true := by decide +kernel
theorem sn_ok199_100 : ((am_K199.drop 100).take 50).all (fun e => sn_okI 199 e.1 e.2) = true := by decide +kernel
theorem sn_ok199_150 : ((am_K199.drop 150).take 50).all (fun e => sn_okI 199 e.1 e.2) = true := by decide +kernel
theorem sn_ok199_e : (am_K199.drop 200).all (fun e => sn_okI 199 e.1 e.2) = true := by decide +kernel
theorem sn_ok199_d150 : (am_K199.drop 150).all (fun e => sn_okI 199 e.1 e.2) = true := sn_all_cut _ 50 _ sn_ok199_150 (by rw [List.drop_drop]; exact sn_ok199_e)
theorem sn_ok199_d100 : (am_K199.drop 100).all (fun e => sn_okI 199 e.1 e.2) = true := sn_all_cut _ 50 _ sn_ok199_100 (by rw [List.drop_drop]; exact sn_ok199_d150)
theorem sn_ok199_d50 : (am_K199.drop 50).all (fun e => sn_okI 199 e.1 e.2) = true := sn_all_cut _ 50 _ sn_ok199_50 (by rw [List.drop_drop]; exact sn_ok199_d100)
theorem sn_ok199_d0 : (am_K199.drop 0).all (fun e => sn_okI 199 e.1 e.2) = true := sn_all_cut _ 50 _ sn_ok199_0 (by rw [List.drop_drop]; exact sn_ok199_d50)
theorem sn_ok199 : am_K199.all (fun e => sn_okI 199 e.1 e.2) = true := sn_ok199_d0
theorem sn_okA : ∀ m : Nat, m < 254 → (am_KK.getD m []).all (fun e => sn_okI m e.1 e.2) = true := by
  intro m h
  match m, h with
  | 0, _ => exact sn_ok0
  | 1, _ => exact sn_ok1
  | 2, _ => exact sn_ok2
  | 3, _ => exact sn_ok3
  | 4, _ => exact sn_ok4
  | 5, _ => exact sn_ok5
  | 6, _ => exact sn_ok6
  | 7, _ => exact sn_ok7
  | 8, _ => exact sn_ok8
  | 9, _ => exact sn_ok9
  | 10, _ => exact sn_ok10
  | 11, _ => exact sn_ok11
  | 12, _ => exact sn_ok12
  | 13, _ => exact sn_ok13
  | 14, _ => exact sn_ok14
  | 15, _ => exact sn_ok15
  | 16, _ => exact sn_ok16
  | 17, _ => exact sn_ok17
  | 18, _ => exact sn_ok18
  | 19, _ => exact sn_ok19
  | 20, _ => exact sn_ok20
  | 21, _ => exact sn_ok21
  | 22, _ => exact sn_ok22
  | 23, _ => exact sn_ok23
  | 24, _ => exact sn_ok24
  | 25, _ => exact sn_ok25
  | 26, _ => exact sn_ok26
  | 27, _ => exact sn_ok27
  | 28, _ => exact sn_ok28
  | 29, _ => exact sn_ok29
  | 30, _ => exact sn_ok30
  | 31, _ => exact sn_ok31
  | 32, _ => exact sn_ok32
  | 33, _ => exact sn_ok33
  | 34, _ => exact sn_ok34
  | 35, _ => exact sn_ok35
  | 36, _ => exact sn_ok36
  | 37, _ => exact sn_ok37
  | 38, _ => exact sn_ok38
  | 39, _ => exact sn_ok39
  | 40, _ => exact sn_ok40
  | 41, _ => exact sn_ok41
  | 42, _ => exact sn_ok42
  | 43, _ => exact sn_ok43
  | 44, _ => exact sn_ok44
  | 45, _ => exact sn_ok45
  | 46, _ => exact sn_ok46
  | 47, _ => exact sn_ok47
  | 48, _ => exact sn_ok48
  | 49, _ => exact sn_ok49
  | 50, _ => exact sn_ok50
  | 51, _ => exact sn_ok51
  | 52, _ => exact sn_ok52
  | 53, _ => exact sn_ok53
  | 54, _ => exact sn_ok54
  | 55, _ => exact sn_ok55
  | 56, _ => exact sn_ok56
  | 57, _ => exact sn_ok57
  | 58, _ => exact sn_ok58
  | 59, _ => exact sn_ok59
  | 60, _ => exact sn_ok60
  | 61, _ => exact sn_ok61
  | 62, _ => exact sn_ok62
  | 63, _ => exact sn_ok63
  | 64, _ => exact sn_ok64
  | 65, _ => exact sn_ok65
  | 66, _ => exact sn_ok66
  | 67, _ => exact sn_ok67
  | 68, _ => exact sn_ok68
  | 69, _ => exact sn_ok69
  | 70, _ => exact sn_ok70
  | 71, _ => exact sn_ok71
  | 72, _ => exact sn_ok72
  | 73, _ => exact sn_ok73
  | 74, _ => exact sn_ok74
  | 75, _ => exact sn_ok75
  | 76, _ => exact sn_ok76
  | 77, _ => exact sn_ok77
  | 78, _ => exact sn_ok78
  | 79, _ => exact sn_ok79
  | 80, _ => exact sn_ok80
  | 81, _ => exact sn_ok81
  | 82, _ => exact sn_ok82
  | 83, _ => exact sn_ok83
  | 84, _ => exact sn_ok84
  | 85, _ => exact sn_ok85
  | 86, _ => exact sn_ok86
  | 87, _ => exact sn_ok87
  | 88, _ => exact sn_ok88
  | 89, _ => exact sn_ok89
  | 90, _ => exact sn_ok90
  | 91, _ => exact sn_ok91
  | 92, _ => exact sn_ok92
  | 93, _ => exact sn_ok93
  | 94, _ => exact sn_ok94
  | 95, _ => exact sn_ok95
  | 96, _ => exact sn_ok96
  | 97, _ => exact sn_ok97
  | 98, _ => exact sn_ok98
  | 99, _ => exact sn_ok99
  | 100, _ => exact sn_ok100
  | 101, _ => exact sn_ok101
  | 102, _ => exact sn_ok102
  | 103, _ => exact sn_ok103
  | 104, _ => exact sn_ok104
  | 105, _ => exact sn_ok105
  | 106, _ => exact sn_ok106
  | 107, _ => exact sn_ok107
  | 108, _ => exact sn_ok108
  | 109, _ => exact sn_ok109
  | 110, _ => exact sn_ok110
  | 111, _ => exact sn_ok111
  | 112, _ => exact sn_ok112
  | 113, _ => exact sn_ok113
  | 114, _ => exact sn_ok114
  | 115, _ => exact sn_ok115
  | 116, _ => exact sn_ok116
  | 117, _ => exact sn_ok117
  | 118, _ => exact sn_ok118
  | 119, _ => exact sn_ok119
  | 120, _ => exact sn_ok120
  | 121, _ => exact sn_ok121
  | 122, _ => exact sn_ok122
  | 123, _ => exact sn_ok123
  | 124, _ => exact sn_ok124
  | 125, _ => exact sn_ok125
  | 126, _ => exact sn_ok126
  | 127, _ => exact sn_ok127
  | 128, _ => exact sn_ok128
  | 129, _ => exact sn_ok129
  | 130, _ => exact sn_ok130
  | 131, _ => exact sn_ok131
  | 132, _ => exact sn_ok132
  | 133, _ => exact sn_ok133
  | 134, _ => exact sn_ok134
  | 135, _ => exact sn_ok135
  | 136, _ => exact sn_ok136
  | 137, _ => exact sn_ok137
  | 138, _ => exact sn_ok138
  | 139, _ => exact sn_ok139
  | 140, _ => exact sn_ok140
  | 141, _ => exact sn_ok141
  | 142, _ => exact sn_ok142
  | 143, _ => exact sn_ok143
  | 144, _ => exact sn_ok144
  | 145, _ => exact sn_ok145
  | 146, _ => exact sn_ok146
  | 147, _ => exact sn_ok147
  | 148, _ => exact sn_ok148
  | 149, _ => exact sn_ok149
  | 150, _ => exact sn_ok150
  | 151, _ => exact sn_ok151
  | 152, _ => exact sn_ok152
  | 153, _ => exact sn_ok153
  | 154, _ => exact sn_ok154
  | 155, _ => exact sn_ok155
  | 156, _ => exact sn_ok156
  | 157, _ => exact sn_ok157
  | 158, _ => exact sn_ok158
  | 159, _ => exact sn_ok159
  | 160, _ => exact sn_ok160
  | 161, _ => exact sn_ok161
  | 162, _ => exact sn_ok162
  | 163, _ => exact sn_ok163
  | 164, _ => exact sn_ok164
  | 165, _ => exact sn_ok165
  | 166, _ => exact sn_ok166
  | 167, _ => exact sn_ok167
  | 168, _ => exact sn_ok168
  | 169, _ => exact sn_ok169
  | 170, _ => exact sn_ok170
  | 171, _ => exact sn_ok171
  | 172, _ => exact sn_ok172
  | 173, _ => exact sn_ok173
  | 174, _ => exact sn_ok174
  | 175, _ => exact sn_ok175
  | 176, _ => exact sn_ok176
  | 177, _ => exact sn_ok177
  | 178, _ => exact sn_ok178
  | 179, _ => exact sn_ok179
  | 180, _ => exact sn_ok180
  | 181, _ => exact sn_ok181
  | 182, _ => exact sn_ok182
  | 183, _ => exact sn_ok183
  | 184, _ => exact sn_ok184
  | 185, _ => exact sn_ok185
  | 186, _ => exact sn_ok186
  | 187, _ => exact sn_ok187
  | 188, _ => exact sn_ok188
  | 189, _ => exact sn_ok189
  | 190, _ => exact sn_ok190
  | 191, _ => exact sn_ok191
  | 192, _ => exact sn_ok192
  | 193, _ => exact sn_ok193
  | 194, _ => exact sn_ok194
  | 195, _ => exact sn_ok195
  | 196, _ => exact sn_ok196
  | 197, _ => exact sn_ok197
  | 198, _ => exact sn_ok198
  | 199, _ => exact sn_ok199
  | 200, _ => exact sn_ok200
  | 201, _ => exact sn_ok201
  | 202, _ => exact sn_ok202
  | 203, _ => exact sn_ok203
  | 204, _ => exact sn_ok204
  | 205, _ => exact sn_ok205
  | 206, _ => exact sn_ok206
  | 207, _ => exact sn_ok207
  | 208, _ => exact sn_ok208
  | 209, _ => exact sn_ok209
  | 210, _ => exact sn_ok210
  | 211, _ => exact sn_ok211
  | 212, _ => exact sn_ok212
  | 213, _ => exact sn_ok213
  | 214, _ => exact sn_ok214
  | 215, _ => exact sn_ok215
  | 216, _ => exact sn_ok216
  | 217, _ => exact sn_ok217
  | 218, _ => exact sn_ok218
  | 219, _ => exact sn_ok219
  | 220, _ => exact sn_ok220
  | 221, _ => exact sn_ok221
  | 222, _ => exact sn_ok222
  | 223, _ => exact sn_ok223
  | 224, _ => exact sn_ok224
  | 225, _ => exact sn_ok225
  | 226, _ => exact sn_ok226
  | 227, _ => exact sn_ok227
  | 228, _ => exact sn_ok228
  | 229, _ => exact sn_ok229
  | 230, _ => exact sn_ok230
  | 231, _ => exact sn_ok231
  | 232, _ => exact sn_ok232
  | 233, _ => exact sn_ok233
  | 234, _ => exact sn_ok234
  | 235, _ => exact sn_ok235
  | 236, _ => exact sn_ok236
  | 237, _ => exact sn_ok237
  | 238, _ => exact sn_ok238
  | 239, _ => exact sn_ok239
  | 240, _ => exact sn_ok240
  | 241, _ => exact sn_ok241
  | 242, _ => exact sn_ok242
  | 243, _ => exact sn_ok243
  | 244, _ => exact sn_ok244
  | 245, _ => exact sn_ok245
  | 246, _ => exact sn_ok246
  | 247, _ => exact sn_ok247
  | 248, _ => exact sn_ok248
  | 249, _ => exact sn_ok249
  | 250, _ => exact sn_ok250
  | 251, _ => exact sn_ok251
  | 252, _ => exact sn_ok252
  | 253, _ => exact sn_ok253
  | k + 254, h => exact absurd h (by omega)
theorem sn_lookup {α : Type} (l : List (Nat × α)) (k : Nat) (v : α) (h : l.lookup k = some v) : (k, v) ∈ l := by
  induction l with
  | nil => simp at h
  | cons a l ih =>
    obtain ⟨k', v'⟩ := a
    by_cases hk : k = k'
    · subst hk
      simp at h
      subst h
      exact List.mem_cons_self
    · have hb : (k == k') = false := by simpa using hk
      rw [List.lookup_cons, hb] at h
      exact List.mem_cons_of_mem _ (ih h)
theorem sn_ok {m pc : Nat} {q : Instr × Nat × am_Dt} (h : am_at m pc = some q) : m < 254 ∧ sn_okI m pc q = true := by
  by_cases hm : m < 254
  · exact ⟨hm, List.all_eq_true.mp (sn_okA m hm) (pc, q) (sn_lookup _ _ _ h)⟩
  · exfalso
    have hl : am_KK.length = 254 := by decide +kernel
    unfold am_at at h
    rw [List.getD_eq_getElem?_getD, List.getElem?_eq_none (by omega)] at h
    simp at h

/-! ===== the code of each method stands in the tables ===== -/
theorem sn_cd1 : sn_cd 1 ∈ lw_tbl := sn_tb_in 1 (List.mem_of_getElem? (i := 24) rfl)
theorem sn_cd2 : sn_cd 2 ∈ lw_tbl := sn_tb_in 1 (List.mem_of_getElem? (i := 33) rfl)
theorem sn_cd3 : sn_cd 3 ∈ lw_tbl := sn_tb_in 1 (List.mem_of_getElem? (i := 55) rfl)
theorem sn_cd4 : sn_cd 4 ∈ lw_tbl := sn_tb_in 1 (List.mem_of_getElem? (i := 124) rfl)
theorem sn_cd5 : sn_cd 5 ∈ lw_tbl := sn_tb_in 1 (List.mem_of_getElem? (i := 140) rfl)
theorem sn_cd6 : sn_cd 6 ∈ lw_tbl := sn_tb_in 1 (List.mem_of_getElem? (i := 202) rfl)
theorem sn_cd7 : sn_cd 7 ∈ lw_tbl := sn_tb_in 1 (List.mem_of_getElem? (i := 205) rfl)
theorem sn_cd8 : sn_cd 8 ∈ lw_tbl := sn_tb_in 1 (List.mem_of_getElem? (i := 209) rfl)
theorem sn_cd9 : sn_cd 9 ∈ lw_tbl := sn_tb_in 1 (List.mem_of_getElem? (i := 212) rfl)
theorem sn_cd10 : sn_cd 10 ∈ lw_tbl := sn_tb_in 1 (List.mem_of_getElem? (i := 215) rfl)
theorem sn_cd11 : sn_cd 11 ∈ lw_tbl := sn_tb_in 1 (List.mem_of_getElem? (i := 219) rfl)
theorem sn_cd12 : sn_cd 12 ∈ lw_tbl := sn_tb_in 1 (List.mem_of_getElem? (i := 223) rfl)
theorem sn_cd13 : sn_cd 13 ∈ lw_tbl := sn_tb_in 1 (List.mem_of_getElem? (i := 233) rfl)
theorem sn_cd14 : sn_cd 14 ∈ lw_tbl := sn_tb_in 1 (List.mem_of_getElem? (i := 237) rfl)
theorem sn_cd15 : sn_cd 15 ∈ lw_tbl := sn_tb_in 2 (List.mem_of_getElem? (i := 1) rfl)
theorem sn_cd16 : sn_cd 16 ∈ lw_tbl := sn_tb_in 2 (List.mem_of_getElem? (i := 5) rfl)
theorem sn_cd17 : sn_cd 17 ∈ lw_tbl := sn_tb_in 2 (List.mem_of_getElem? (i := 9) rfl)
theorem sn_cd18 : sn_cd 18 ∈ lw_tbl := sn_tb_in 2 (List.mem_of_getElem? (i := 14) rfl)
theorem sn_cd19 : sn_cd 19 ∈ lw_tbl := sn_tb_in 2 (List.mem_of_getElem? (i := 18) rfl)
theorem sn_cd20 : sn_cd 20 ∈ lw_tbl := sn_tb_in 2 (List.mem_of_getElem? (i := 22) rfl)
theorem sn_cd21 : sn_cd 21 ∈ lw_tbl := sn_tb_in 2 (List.mem_of_getElem? (i := 26) rfl)
theorem sn_cd22 : sn_cd 22 ∈ lw_tbl := sn_tb_in 2 (List.mem_of_getElem? (i := 30) rfl)
theorem sn_cd23 : sn_cd 23 ∈ lw_tbl := sn_tb_in 2 (List.mem_of_getElem? (i := 38) rfl)
theorem sn_cd24 : sn_cd 24 ∈ lw_tbl := sn_tb_in 2 (List.mem_of_getElem? (i := 42) rfl)
theorem sn_cd25 : sn_cd 25 ∈ lw_tbl := sn_tb_in 2 (List.mem_of_getElem? (i := 46) rfl)
theorem sn_cd26 : sn_cd 26 ∈ lw_tbl := sn_tb_in 2 (List.mem_of_getElem? (i := 50) rfl)
theorem sn_cd27 : sn_cd 27 ∈ lw_tbl := sn_tb_in 2 (List.mem_of_getElem? (i := 54) rfl)
theorem sn_cd28 : sn_cd 28 ∈ lw_tbl := sn_tb_in 2 (List.mem_of_getElem? (i := 58) rfl)
theorem sn_cd29 : sn_cd 29 ∈ lw_tbl := sn_tb_in 2 (List.mem_of_getElem? (i := 61) rfl)
theorem sn_cd30 : sn_cd 30 ∈ lw_tbl := sn_tb_in 2 (List.mem_of_getElem? (i := 65) rfl)
theorem sn_cd31 : sn_cd 31 ∈ lw_tbl := sn_tb_in 2 (List.mem_of_getElem? (i := 68) rfl)
theorem sn_cd32 : sn_cd 32 ∈ lw_tbl := sn_tb_in 2 (List.mem_of_getElem? (i := 78) rfl)
theorem sn_cd33 : sn_cd 33 ∈ lw_tbl := sn_tb_in 2 (List.mem_of_getElem? (i := 82) rfl)
theorem sn_cd34 : sn_cd 34 ∈ lw_tbl := sn_tb_in 2 (List.mem_of_getElem? (i := 89) rfl)
theorem sn_cd35 : sn_cd 35 ∈ lw_tbl := sn_tb_in 2 (List.mem_of_getElem? (i := 93) rfl)
theorem sn_cd36 : sn_cd 36 ∈ lw_tbl := sn_tb_in 2 (List.mem_of_getElem? (i := 96) rfl)
theorem sn_cd37 : sn_cd 37 ∈ lw_tbl := sn_tb_in 2 (List.mem_of_getElem? (i := 100) rfl)
theorem sn_cd38 : sn_cd 38 ∈ lw_tbl := sn_tb_in 2 (List.mem_of_getElem? (i := 101) rfl)
theorem sn_cd39 : sn_cd 39 ∈ lw_tbl := sn_tb_in 2 (List.mem_of_getElem? (i := 108) rfl)
theorem sn_cd40 : sn_cd 40 ∈ lw_tbl := sn_tb_in 2 (List.mem_of_getElem? (i := 111) rfl)
theorem sn_cd41 : sn_cd 41 ∈ lw_tbl := sn_tb_in 2 (List.mem_of_getElem? (i := 114) rfl)
theorem sn_cd42 : sn_cd 42 ∈ lw_tbl := sn_tb_in 2 (List.mem_of_getElem? (i := 118) rfl)
theorem sn_cd43 : sn_cd 43 ∈ lw_tbl := sn_tb_in 2 (List.mem_of_getElem? (i := 121) rfl)
theorem sn_cd44 : sn_cd 44 ∈ lw_tbl := sn_tb_in 2 (List.mem_of_getElem? (i := 125) rfl)
theorem sn_cd45 : sn_cd 45 ∈ lw_tbl := sn_tb_in 2 (List.mem_of_getElem? (i := 128) rfl)
theorem sn_cd46 : sn_cd 46 ∈ lw_tbl := sn_tb_in 2 (List.mem_of_getElem? (i := 132) rfl)
theorem sn_cd47 : sn_cd 47 ∈ lw_tbl := sn_tb_in 2 (List.mem_of_getElem? (i := 136) rfl)
theorem sn_cd48 : sn_cd 48 ∈ lw_tbl := sn_tb_in 2 (List.mem_of_getElem? (i := 139) rfl)
theorem sn_cd49 : sn_cd 49 ∈ lw_tbl := sn_tb_in 2 (List.mem_of_getElem? (i := 143) rfl)
theorem sn_cd50 : sn_cd 50 ∈ lw_tbl := sn_tb_in 2 (List.mem_of_getElem? (i := 146) rfl)
theorem sn_cd51 : sn_cd 51 ∈ lw_tbl := sn_tb_in 2 (List.mem_of_getElem? (i := 172) rfl)
theorem sn_cd52 : sn_cd 52 ∈ lw_tbl := sn_tb_in 2 (List.mem_of_getElem? (i := 180) rfl)
theorem sn_cd53 : sn_cd 53 ∈ lw_tbl := sn_tb_in 2 (List.mem_of_getElem? (i := 187) rfl)
theorem sn_cd54 : sn_cd 54 ∈ lw_tbl := sn_tb_in 2 (List.mem_of_getElem? (i := 195) rfl)
theorem sn_cd55 : sn_cd 55 ∈ lw_tbl := sn_tb_in 2 (List.mem_of_getElem? (i := 202) rfl)
theorem sn_cd56 : sn_cd 56 ∈ lw_tbl := sn_tb_in 2 (List.mem_of_getElem? (i := 216) rfl)
theorem sn_cd57 : sn_cd 57 ∈ lw_tbl := sn_tb_in 2 (List.mem_of_getElem? (i := 220) rfl)
theorem sn_cd58 : sn_cd 58 ∈ lw_tbl := sn_tb_in 2 (List.mem_of_getElem? (i := 224) rfl)
theorem sn_cd59 : sn_cd 59 ∈ lw_tbl := sn_tb_in 2 (List.mem_of_getElem? (i := 231) rfl)
theorem sn_cd60 : sn_cd 60 ∈ lw_tbl := sn_tb_in 2 (List.mem_of_getElem? (i := 234) rfl)
theorem sn_cd61 : sn_cd 61 ∈ lw_tbl := sn_tb_in 2 (List.mem_of_getElem? (i := 237) rfl)
theorem sn_cd62 : sn_cd 62 ∈ lw_tbl := sn_tb_in 3 (List.mem_of_getElem? (i := 0) rfl)
theorem sn_cd63 : sn_cd 63 ∈ lw_tbl := sn_tb_in 3 (List.mem_of_getElem? (i := 3) rfl)
theorem sn_cd64 : sn_cd 64 ∈ lw_tbl := sn_tb_in 3 (List.mem_of_getElem? (i := 6) rfl)
theorem sn_cd65 : sn_cd 65 ∈ lw_tbl := sn_tb_in 3 (List.mem_of_getElem? (i := 7) rfl)
theorem sn_cd66 : sn_cd 66 ∈ lw_tbl := sn_tb_in 3 (List.mem_of_getElem? (i := 11) rfl)
theorem sn_cd67 : sn_cd 67 ∈ lw_tbl := sn_tb_in 3 (List.mem_of_getElem? (i := 14) rfl)
theorem sn_cd68 : sn_cd 68 ∈ lw_tbl := sn_tb_in 3 (List.mem_of_getElem? (i := 18) rfl)
theorem sn_cd69 : sn_cd 69 ∈ lw_tbl := sn_tb_in 3 (List.mem_of_getElem? (i := 22) rfl)
theorem sn_cd70 : sn_cd 70 ∈ lw_tbl := sn_tb_in 3 (List.mem_of_getElem? (i := 26) rfl)
theorem sn_cd71 : sn_cd 71 ∈ lw_tbl := sn_tb_in 3 (List.mem_of_getElem? (i := 33) rfl)
theorem sn_cd72 : sn_cd 72 ∈ lw_tbl := sn_tb_in 3 (List.mem_of_getElem? (i := 37) rfl)
theorem sn_cd73 : sn_cd 73 ∈ lw_tbl := sn_tb_in 3 (List.mem_of_getElem? (i := 42) rfl)
theorem sn_cd74 : sn_cd 74 ∈ lw_tbl := sn_tb_in 3 (List.mem_of_getElem? (i := 45) rfl)
theorem sn_cd75 : sn_cd 75 ∈ lw_tbl := sn_tb_in 3 (List.mem_of_getElem? (i := 49) rfl)
theorem sn_cd76 : sn_cd 76 ∈ lw_tbl := sn_tb_in 3 (List.mem_of_getElem? (i := 53) rfl)
theorem sn_cd77 : sn_cd 77 ∈ lw_tbl := sn_tb_in 3 (List.mem_of_getElem? (i := 57) rfl)
theorem sn_cd78 : sn_cd 78 ∈ lw_tbl := sn_tb_in 3 (List.mem_of_getElem? (i := 60) rfl)
theorem sn_cd79 : sn_cd 79 ∈ lw_tbl := sn_tb_in 3 (List.mem_of_getElem? (i := 64) rfl)
theorem sn_cd80 : sn_cd 80 ∈ lw_tbl := sn_tb_in 3 (List.mem_of_getElem? (i := 68) rfl)
theorem sn_cd81 : sn_cd 81 ∈ lw_tbl := sn_tb_in 3 (List.mem_of_getElem? (i := 72) rfl)
theorem sn_cd82 : sn_cd 82 ∈ lw_tbl := sn_tb_in 3 (List.mem_of_getElem? (i := 76) rfl)
theorem sn_cd83 : sn_cd 83 ∈ lw_tbl := sn_tb_in 3 (List.mem_of_getElem? (i := 80) rfl)
theorem sn_cd84 : sn_cd 84 ∈ lw_tbl := sn_tb_in 3 (List.mem_of_getElem? (i := 83) rfl)
theorem sn_cd85 : sn_cd 85 ∈ lw_tbl := sn_tb_in 3 (List.mem_of_getElem? (i := 95) rfl)
theorem sn_cd86 : sn_cd 86 ∈ lw_tbl := sn_tb_in 3 (List.mem_of_getElem? (i := 109) rfl)
theorem sn_cd87 : sn_cd 87 ∈ lw_tbl := sn_tb_in 3 (List.mem_of_getElem? (i := 114) rfl)
theorem sn_cd88 : sn_cd 88 ∈ lw_tbl := sn_tb_in 3 (List.mem_of_getElem? (i := 157) rfl)
theorem sn_cd89 : sn_cd 89 ∈ lw_tbl := sn_tb_in 3 (List.mem_of_getElem? (i := 162) rfl)
theorem sn_cd90 : sn_cd 90 ∈ lw_tbl := sn_tb_in 3 (List.mem_of_getElem? (i := 166) rfl)
theorem sn_cd91 : sn_cd 91 ∈ lw_tbl := sn_tb_in 3 (List.mem_of_getElem? (i := 169) rfl)
theorem sn_cd92 : sn_cd 92 ∈ lw_tbl := sn_tb_in 3 (List.mem_of_getElem? (i := 173) rfl)
theorem sn_cd93 : sn_cd 93 ∈ lw_tbl := sn_tb_in 3 (List.mem_of_getElem? (i := 177) rfl)
theorem sn_cd94 : sn_cd 94 ∈ lw_tbl := sn_tb_in 3 (List.mem_of_getElem? (i := 186) rfl)
theorem sn_cd95 : sn_cd 95 ∈ lw_tbl := sn_tb_in 3 (List.mem_of_getElem? (i := 191) rfl)
theorem sn_cd96 : sn_cd 96 ∈ lw_tbl := sn_tb_in 3 (List.mem_of_getElem? (i := 196) rfl)
theorem sn_cd97 : sn_cd 97 ∈ lw_tbl := sn_tb_in 3 (List.mem_of_getElem? (i := 200) rfl)
theorem sn_cd98 : sn_cd 98 ∈ lw_tbl := sn_tb_in 3 (List.mem_of_getElem? (i := 203) rfl)
theorem sn_cd99 : sn_cd 99 ∈ lw_tbl := sn_tb_in 3 (List.mem_of_getElem? (i := 207) rfl)
theorem sn_cd100 : sn_cd 100 ∈ lw_tbl := sn_tb_in 3 (List.mem_of_getElem? (i := 211) rfl)
theorem sn_cd101 : sn_cd 101 ∈ lw_tbl := sn_tb_in 3 (List.mem_of_getElem? (i := 218) rfl)
theorem sn_cd102 : sn_cd 102 ∈ lw_tbl := sn_tb_in 3 (List.mem_of_getElem? (i := 222) rfl)
theorem sn_cd103 : sn_cd 103 ∈ lw_tbl := sn_tb_in 3 (List.mem_of_getElem? (i := 225) rfl)
theorem sn_cd104 : sn_cd 104 ∈ lw_tbl := sn_tb_in 3 (List.mem_of_getElem? (i := 229) rfl)
theorem sn_cd105 : sn_cd 105 ∈ lw_tbl := sn_tb_in 3 (List.mem_of_getElem? (i := 233) rfl)
theorem sn_cd106 : sn_cd 106 ∈ lw_tbl := sn_tb_in 3 (List.mem_of_getElem? (i := 237) rfl)
theorem sn_cd107 : sn_cd 107 ∈ lw_tbl := sn_tb_in 4 (List.mem_of_getElem? (i := 1) rfl)
theorem sn_cd108 : sn_cd 108 ∈ lw_tbl := sn_tb_in 4 (List.mem_of_getElem? (i := 5) rfl)
theorem sn_cd109 : sn_cd 109 ∈ lw_tbl := sn_tb_in 4 (List.mem_of_getElem? (i := 9) rfl)
theorem sn_cd110 : sn_cd 110 ∈ lw_tbl := sn_tb_in 4 (List.mem_of_getElem? (i := 14) rfl)
theorem sn_cd111 : sn_cd 111 ∈ lw_tbl := sn_tb_in 4 (List.mem_of_getElem? (i := 18) rfl)
theorem sn_cd112 : sn_cd 112 ∈ lw_tbl := sn_tb_in 4 (List.mem_of_getElem? (i := 22) rfl)
theorem sn_cd113 : sn_cd 113 ∈ lw_tbl := sn_tb_in 4 (List.mem_of_getElem? (i := 26) rfl)
theorem sn_cd114 : sn_cd 114 ∈ lw_tbl := sn_tb_in 4 (List.mem_of_getElem? (i := 31) rfl)
theorem sn_cd115 : sn_cd 115 ∈ lw_tbl := sn_tb_in 4 (List.mem_of_getElem? (i := 35) rfl)
theorem sn_cd116 : sn_cd 116 ∈ lw_tbl := sn_tb_in 4 (List.mem_of_getElem? (i := 39) rfl)
theorem sn_cd117 : sn_cd 117 ∈ lw_tbl := sn_tb_in 4 (List.mem_of_getElem? (i := 43) rfl)
theorem sn_cd118 : sn_cd 118 ∈ lw_tbl := sn_tb_in 4 (List.mem_of_getElem? (i := 47) rfl)
theorem sn_cd119 : sn_cd 119 ∈ lw_tbl := sn_tb_in 4 (List.mem_of_getElem? (i := 51) rfl)
theorem sn_cd120 : sn_cd 120 ∈ lw_tbl := sn_tb_in 4 (List.mem_of_getElem? (i := 56) rfl)
theorem sn_cd121 : sn_cd 121 ∈ lw_tbl := sn_tb_in 4 (List.mem_of_getElem? (i := 61) rfl)
theorem sn_cd122 : sn_cd 122 ∈ lw_tbl := sn_tb_in 4 (List.mem_of_getElem? (i := 64) rfl)
theorem sn_cd123 : sn_cd 123 ∈ lw_tbl := sn_tb_in 4 (List.mem_of_getElem? (i := 68) rfl)
theorem sn_cd124 : sn_cd 124 ∈ lw_tbl := sn_tb_in 4 (List.mem_of_getElem? (i := 73) rfl)
theorem sn_cd125 : sn_cd 125 ∈ lw_tbl := sn_tb_in 4 (List.mem_of_getElem? (i := 77) rfl)
theorem sn_cd126 : sn_cd 126 ∈ lw_tbl := sn_tb_in 4 (List.mem_of_getElem? (i := 81) rfl)
theorem sn_cd127 : sn_cd 127 ∈ lw_tbl := sn_tb_in 4 (List.mem_of_getElem? (i := 85) rfl)
theorem sn_cd128 : sn_cd 128 ∈ lw_tbl := sn_tb_in 4 (List.mem_of_getElem? (i := 89) rfl)
theorem sn_cd129 : sn_cd 129 ∈ lw_tbl := sn_tb_in 4 (List.mem_of_getElem? (i := 92) rfl)
theorem sn_cd130 : sn_cd 130 ∈ lw_tbl := sn_tb_in 4 (List.mem_of_getElem? (i := 97) rfl)
theorem sn_cd131 : sn_cd 131 ∈ lw_tbl := sn_tb_in 4 (List.mem_of_getElem? (i := 101) rfl)
theorem sn_cd132 : sn_cd 132 ∈ lw_tbl := sn_tb_in 4 (List.mem_of_getElem? (i := 106) rfl)
theorem sn_cd133 : sn_cd 133 ∈ lw_tbl := sn_tb_in 4 (List.mem_of_getElem? (i := 109) rfl)
theorem sn_cd134 : sn_cd 134 ∈ lw_tbl := sn_tb_in 4 (List.mem_of_getElem? (i := 114) rfl)
theorem sn_cd135 : sn_cd 135 ∈ lw_tbl := sn_tb_in 4 (List.mem_of_getElem? (i := 118) rfl)
theorem sn_cd136 : sn_cd 136 ∈ lw_tbl := sn_tb_in 4 (List.mem_of_getElem? (i := 122) rfl)
theorem sn_cd137 : sn_cd 137 ∈ lw_tbl := sn_tb_in 4 (List.mem_of_getElem? (i := 125) rfl)
theorem sn_cd138 : sn_cd 138 ∈ lw_tbl := sn_tb_in 4 (List.mem_of_getElem? (i := 128) rfl)
theorem sn_cd139 : sn_cd 139 ∈ lw_tbl := sn_tb_in 4 (List.mem_of_getElem? (i := 132) rfl)
theorem sn_cd140 : sn_cd 140 ∈ lw_tbl := sn_tb_in 4 (List.mem_of_getElem? (i := 136) rfl)
theorem sn_cd141 : sn_cd 141 ∈ lw_tbl := sn_tb_in 4 (List.mem_of_getElem? (i := 140) rfl)
theorem sn_cd142 : sn_cd 142 ∈ lw_tbl := sn_tb_in 4 (List.mem_of_getElem? (i := 144) rfl)
theorem sn_cd143 : sn_cd 143 ∈ lw_tbl := sn_tb_in 4 (List.mem_of_getElem? (i := 149) rfl)
theorem sn_cd144 : sn_cd 144 ∈ lw_tbl := sn_tb_in 4 (List.mem_of_getElem? (i := 154) rfl)
theorem sn_cd145 : sn_cd 145 ∈ lw_tbl := sn_tb_in 4 (List.mem_of_getElem? (i := 158) rfl)
theorem sn_cd146 : sn_cd 146 ∈ lw_tbl := sn_tb_in 4 (List.mem_of_getElem? (i := 162) rfl)
theorem sn_cd147 : sn_cd 147 ∈ lw_tbl := sn_tb_in 4 (List.mem_of_getElem? (i := 169) rfl)
theorem sn_cd148 : sn_cd 148 ∈ lw_tbl := sn_tb_in 4 (List.mem_of_getElem? (i := 173) rfl)
theorem sn_cd149 : sn_cd 149 ∈ lw_tbl := sn_tb_in 4 (List.mem_of_getElem? (i := 176) rfl)
theorem sn_cd150 : sn_cd 150 ∈ lw_tbl := sn_tb_in 4 (List.mem_of_getElem? (i := 182) rfl)
theorem sn_cd151 : sn_cd 151 ∈ lw_tbl := sn_tb_in 4 (List.mem_of_getElem? (i := 188) rfl)
theorem sn_cd152 : sn_cd 152 ∈ lw_tbl := sn_tb_in 4 (List.mem_of_getElem? (i := 196) rfl)
theorem sn_cd153 : sn_cd 153 ∈ lw_tbl := sn_tb_in 4 (List.mem_of_getElem? (i := 202) rfl)
theorem sn_cd154 : sn_cd 154 ∈ lw_tbl := sn_tb_in 4 (List.mem_of_getElem? (i := 210) rfl)
theorem sn_cd155 : sn_cd 155 ∈ lw_tbl := sn_tb_in 4 (List.mem_of_getElem? (i := 214) rfl)
theorem sn_cd156 : sn_cd 156 ∈ lw_tbl := sn_tb_in 4 (List.mem_of_getElem? (i := 223) rfl)
theorem sn_cd157 : sn_cd 157 ∈ lw_tbl := sn_tb_in 4 (List.mem_of_getElem? (i := 228) rfl)
theorem sn_cd158 : sn_cd 158 ∈ lw_tbl := sn_tb_in 4 (List.mem_of_getElem? (i := 236) rfl)
theorem sn_cd159 : sn_cd 159 ∈ lw_tbl := sn_tb_in 5 (List.mem_of_getElem? (i := 1) rfl)
theorem sn_cd160 : sn_cd 160 ∈ lw_tbl := sn_tb_in 5 (List.mem_of_getElem? (i := 5) rfl)
theorem sn_cd161 : sn_cd 161 ∈ lw_tbl := sn_tb_in 5 (List.mem_of_getElem? (i := 9) rfl)
theorem sn_cd162 : sn_cd 162 ∈ lw_tbl := sn_tb_in 5 (List.mem_of_getElem? (i := 13) rfl)
theorem sn_cd163 : sn_cd 163 ∈ lw_tbl := sn_tb_in 5 (List.mem_of_getElem? (i := 17) rfl)
theorem sn_cd164 : sn_cd 164 ∈ lw_tbl := sn_tb_in 5 (List.mem_of_getElem? (i := 22) rfl)
theorem sn_cd165 : sn_cd 165 ∈ lw_tbl := sn_tb_in 5 (List.mem_of_getElem? (i := 154) rfl)
theorem sn_cd166 : sn_cd 166 ∈ lw_tbl := sn_tb_in 5 (List.mem_of_getElem? (i := 158) rfl)
theorem sn_cd167 : sn_cd 167 ∈ lw_tbl := sn_tb_in 5 (List.mem_of_getElem? (i := 162) rfl)
theorem sn_cd168 : sn_cd 168 ∈ lw_tbl := sn_tb_in 5 (List.mem_of_getElem? (i := 166) rfl)
theorem sn_cd169 : sn_cd 169 ∈ lw_tbl := sn_tb_in 5 (List.mem_of_getElem? (i := 170) rfl)
theorem sn_cd170 : sn_cd 170 ∈ lw_tbl := sn_tb_in 5 (List.mem_of_getElem? (i := 174) rfl)
theorem sn_cd171 : sn_cd 171 ∈ lw_tbl := sn_tb_in 5 (List.mem_of_getElem? (i := 178) rfl)
theorem sn_cd172 : sn_cd 172 ∈ lw_tbl := sn_tb_in 5 (List.mem_of_getElem? (i := 182) rfl)
theorem sn_cd173 : sn_cd 173 ∈ lw_tbl := sn_tb_in 5 (List.mem_of_getElem? (i := 186) rfl)
theorem sn_cd174 : sn_cd 174 ∈ lw_tbl := sn_tb_in 5 (List.mem_of_getElem? (i := 190) rfl)
theorem sn_cd175 : sn_cd 175 ∈ lw_tbl := sn_tb_in 5 (List.mem_of_getElem? (i := 194) rfl)
theorem sn_cd176 : sn_cd 176 ∈ lw_tbl := sn_tb_in 5 (List.mem_of_getElem? (i := 198) rfl)
theorem sn_cd177 : sn_cd 177 ∈ lw_tbl := sn_tb_in 5 (List.mem_of_getElem? (i := 202) rfl)
theorem sn_cd178 : sn_cd 178 ∈ lw_tbl := sn_tb_in 5 (List.mem_of_getElem? (i := 206) rfl)
theorem sn_cd179 : sn_cd 179 ∈ lw_tbl := sn_tb_in 5 (List.mem_of_getElem? (i := 210) rfl)
theorem sn_cd180 : sn_cd 180 ∈ lw_tbl := sn_tb_in 5 (List.mem_of_getElem? (i := 214) rfl)
theorem sn_cd181 : sn_cd 181 ∈ lw_tbl := sn_tb_in 5 (List.mem_of_getElem? (i := 218) rfl)
theorem sn_cd182 : sn_cd 182 ∈ lw_tbl := sn_tb_in 5 (List.mem_of_getElem? (i := 222) rfl)
theorem sn_cd183 : sn_cd 183 ∈ lw_tbl := sn_tb_in 5 (List.mem_of_getElem? (i := 226) rfl)
theorem sn_cd184 : sn_cd 184 ∈ lw_tbl := sn_tb_in 5 (List.mem_of_getElem? (i := 230) rfl)
theorem sn_cd185 : sn_cd 185 ∈ lw_tbl := sn_tb_in 5 (List.mem_of_getElem? (i := 234) rfl)
theorem sn_cd186 : sn_cd 186 ∈ lw_tbl := sn_tb_in 5 (List.mem_of_getElem? (i := 238) rfl)
theorem sn_cd187 : sn_cd 187 ∈ lw_tbl := sn_tb_in 6 (List.mem_of_getElem? (i := 2) rfl)
theorem sn_cd188 : sn_cd 188 ∈ lw_tbl := sn_tb_in 6 (List.mem_of_getElem? (i := 6) rfl)
theorem sn_cd189 : sn_cd 189 ∈ lw_tbl := sn_tb_in 6 (List.mem_of_getElem? (i := 10) rfl)
theorem sn_cd190 : sn_cd 190 ∈ lw_tbl := sn_tb_in 6 (List.mem_of_getElem? (i := 14) rfl)
theorem sn_cd191 : sn_cd 191 ∈ lw_tbl := sn_tb_in 6 (List.mem_of_getElem? (i := 18) rfl)
theorem sn_cd192 : sn_cd 192 ∈ lw_tbl := sn_tb_in 6 (List.mem_of_getElem? (i := 22) rfl)
theorem sn_cd193 : sn_cd 193 ∈ lw_tbl := sn_tb_in 6 (List.mem_of_getElem? (i := 26) rfl)
theorem sn_cd194 : sn_cd 194 ∈ lw_tbl := sn_tb_in 6 (List.mem_of_getElem? (i := 30) rfl)
theorem sn_cd195 : sn_cd 195 ∈ lw_tbl := sn_tb_in 6 (List.mem_of_getElem? (i := 34) rfl)
theorem sn_cd196 : sn_cd 196 ∈ lw_tbl := sn_tb_in 6 (List.mem_of_getElem? (i := 38) rfl)
theorem sn_cd197 : sn_cd 197 ∈ lw_tbl := sn_tb_in 6 (List.mem_of_getElem? (i := 42) rfl)
theorem sn_cd198 : sn_cd 198 ∈ lw_tbl := sn_tb_in 6 (List.mem_of_getElem? (i := 46) rfl)
theorem sn_cd199 : sn_cd 199 ∈ lw_tbl := sn_tb_in 6 (List.mem_of_getElem? (i := 50) rfl)
theorem sn_cd200 : sn_cd 200 ∈ lw_tbl := sn_tb_in 6 (List.mem_of_getElem? (i := 54) rfl)
theorem sn_cd201 : sn_cd 201 ∈ lw_tbl := sn_tb_in 6 (List.mem_of_getElem? (i := 58) rfl)
theorem sn_cd202 : sn_cd 202 ∈ lw_tbl := sn_tb_in 6 (List.mem_of_getElem? (i := 62) rfl)
theorem sn_cd203 : sn_cd 203 ∈ lw_tbl := sn_tb_in 6 (List.mem_of_getElem? (i := 66) rfl)
theorem sn_cd204 : sn_cd 204 ∈ lw_tbl := sn_tb_in 6 (List.mem_of_getElem? (i := 70) rfl)
theorem sn_cd205 : sn_cd 205 ∈ lw_tbl := sn_tb_in 6 (List.mem_of_getElem? (i := 74) rfl)
theorem sn_cd206 : sn_cd 206 ∈ lw_tbl := sn_tb_in 6 (List.mem_of_getElem? (i := 78) rfl)
theorem sn_cd207 : sn_cd 207 ∈ lw_tbl := sn_tb_in 6 (List.mem_of_getElem? (i := 82) rfl)
theorem sn_cd208 : sn_cd 208 ∈ lw_tbl := sn_tb_in 6 (List.mem_of_getElem? (i := 86) rfl)
theorem sn_cd209 : sn_cd 209 ∈ lw_tbl := sn_tb_in 6 (List.mem_of_getElem? (i := 90) rfl)
theorem sn_cd210 : sn_cd 210 ∈ lw_tbl := sn_tb_in 6 (List.mem_of_getElem? (i := 94) rfl)
theorem sn_cd211 : sn_cd 211 ∈ lw_tbl := sn_tb_in 6 (List.mem_of_getElem? (i := 98) rfl)
theorem sn_cd212 : sn_cd 212 ∈ lw_tbl := sn_tb_in 6 (List.mem_of_getElem? (i := 102) rfl)
theorem sn_cd213 : sn_cd 213 ∈ lw_tbl := sn_tb_in 6 (List.mem_of_getElem? (i := 106) rfl)
theorem sn_cd214 : sn_cd 214 ∈ lw_tbl := sn_tb_in 6 (List.mem_of_getElem? (i := 110) rfl)
theorem sn_cd215 : sn_cd 215 ∈ lw_tbl := sn_tb_in 6 (List.mem_of_getElem? (i := 114) rfl)
theorem sn_cd216 : sn_cd 216 ∈ lw_tbl := sn_tb_in 6 (List.mem_of_getElem? (i := 118) rfl)
theorem sn_cd217 : sn_cd 217 ∈ lw_tbl := sn_tb_in 6 (List.mem_of_getElem? (i := 122) rfl)
theorem sn_cd218 : sn_cd 218 ∈ lw_tbl := sn_tb_in 6 (List.mem_of_getElem? (i := 126) rfl)
theorem sn_cd219 : sn_cd 219 ∈ lw_tbl := sn_tb_in 6 (List.mem_of_getElem? (i := 130) rfl)
theorem sn_cd220 : sn_cd 220 ∈ lw_tbl := sn_tb_in 6 (List.mem_of_getElem? (i := 134) rfl)
theorem sn_cd221 : sn_cd 221 ∈ lw_tbl := sn_tb_in 6 (List.mem_of_getElem? (i := 138) rfl)
theorem sn_cd222 : sn_cd 222 ∈ lw_tbl := sn_tb_in 6 (List.mem_of_getElem? (i := 142) rfl)
theorem sn_cd223 : sn_cd 223 ∈ lw_tbl := sn_tb_in 6 (List.mem_of_getElem? (i := 146) rfl)
theorem sn_cd224 : sn_cd 224 ∈ lw_tbl := sn_tb_in 6 (List.mem_of_getElem? (i := 150) rfl)
theorem sn_cd225 : sn_cd 225 ∈ lw_tbl := sn_tb_in 6 (List.mem_of_getElem? (i := 154) rfl)
theorem sn_cd226 : sn_cd 226 ∈ lw_tbl := sn_tb_in 6 (List.mem_of_getElem? (i := 158) rfl)
theorem sn_cd227 : sn_cd 227 ∈ lw_tbl := sn_tb_in 6 (List.mem_of_getElem? (i := 162) rfl)
theorem sn_cd228 : sn_cd 228 ∈ lw_tbl := sn_tb_in 6 (List.mem_of_getElem? (i := 167) rfl)
theorem sn_cd229 : sn_cd 229 ∈ lw_tbl := sn_tb_in 6 (List.mem_of_getElem? (i := 172) rfl)
theorem sn_cd230 : sn_cd 230 ∈ lw_tbl := sn_tb_in 6 (List.mem_of_getElem? (i := 176) rfl)
theorem sn_cd231 : sn_cd 231 ∈ lw_tbl := sn_tb_in 6 (List.mem_of_getElem? (i := 180) rfl)
theorem sn_cd232 : sn_cd 232 ∈ lw_tbl := sn_tb_in 6 (List.mem_of_getElem? (i := 184) rfl)
theorem sn_cd233 : sn_cd 233 ∈ lw_tbl := sn_tb_in 6 (List.mem_of_getElem? (i := 188) rfl)
theorem sn_cd234 : sn_cd 234 ∈ lw_tbl := sn_tb_in 6 (List.mem_of_getElem? (i := 192) rfl)
theorem sn_cd235 : sn_cd 235 ∈ lw_tbl := sn_tb_in 6 (List.mem_of_getElem? (i := 196) rfl)
theorem sn_cd236 : sn_cd 236 ∈ lw_tbl := sn_tb_in 6 (List.mem_of_getElem? (i := 200) rfl)
theorem sn_cd237 : sn_cd 237 ∈ lw_tbl := sn_tb_in 6 (List.mem_of_getElem? (i := 204) rfl)
theorem sn_cd238 : sn_cd 238 ∈ lw_tbl := sn_tb_in 6 (List.mem_of_getElem? (i := 208) rfl)
theorem sn_cd239 : sn_cd 239 ∈ lw_tbl := sn_tb_in 6 (List.mem_of_getElem? (i := 212) rfl)
theorem sn_cd240 : sn_cd 240 ∈ lw_tbl := sn_tb_in 6 (List.mem_of_getElem? (i := 216) rfl)
theorem sn_cd241 : sn_cd 241 ∈ lw_tbl := sn_tb_in 6 (List.mem_of_getElem? (i := 220) rfl)
theorem sn_cd242 : sn_cd 242 ∈ lw_tbl := sn_tb_in 6 (List.mem_of_getElem? (i := 225) rfl)
theorem sn_cd243 : sn_cd 243 ∈ lw_tbl := sn_tb_in 6 (List.mem_of_getElem? (i := 229) rfl)
theorem sn_cd244 : sn_cd 244 ∈ lw_tbl := sn_tb_in 6 (List.mem_of_getElem? (i := 233) rfl)
theorem sn_cd245 : sn_cd 245 ∈ lw_tbl := sn_tb_in 6 (List.mem_of_getElem? (i := 237) rfl)
theorem sn_cd246 : sn_cd 246 ∈ lw_tbl := sn_tb_in 7 (List.mem_of_getElem? (i := 1) rfl)
theorem sn_cd247 : sn_cd 247 ∈ lw_tbl := sn_tb_in 7 (List.mem_of_getElem? (i := 5) rfl)
theorem sn_cd248 : sn_cd 248 ∈ lw_tbl := sn_tb_in 7 (List.mem_of_getElem? (i := 9) rfl)
theorem sn_cd249 : sn_cd 249 ∈ lw_tbl := sn_tb_in 7 (List.mem_of_getElem? (i := 13) rfl)
theorem sn_cd250 : sn_cd 250 ∈ lw_tbl := sn_tb_in 7 (List.mem_of_getElem? (i := 17) rfl)
theorem sn_cd251 : sn_cd 251 ∈ lw_tbl := sn_tb_in 7 (List.mem_of_getElem? (i := 21) rfl)
theorem sn_cd252 : sn_cd 252 ∈ lw_tbl := sn_tb_in 7 (List.mem_of_getElem? (i := 25) rfl)
theorem sn_cd253 : sn_cd 253 ∈ lw_tbl := sn_tb_in 7 (List.mem_of_getElem? (i := 29) rfl)
theorem sn_cd_in : ∀ f : Nat, 1 ≤ f → f < 254 → sn_cd f ∈ lw_tbl := by
  intro f h1 h2
  match f, h1, h2 with
  | 1, _, _ => exact sn_cd1
  | 2, _, _ => exact sn_cd2
  | 3, _, _ => exact sn_cd3
  | 4, _, _ => exact sn_cd4
  | 5, _, _ => exact sn_cd5
  | 6, _, _ => exact sn_cd6
  | 7, _, _ => exact sn_cd7
  | 8, _, _ => exact sn_cd8
  | 9, _, _ => exact sn_cd9
  | 10, _, _ => exact sn_cd10
  | 11, _, _ => exact sn_cd11
  | 12, _, _ => exact sn_cd12
  | 13, _, _ => exact sn_cd13
  | 14, _, _ => exact sn_cd14
  | 15, _, _ => exact sn_cd15
  | 16, _, _ => exact sn_cd16
  | 17, _, _ => exact sn_cd17
  | 18, _, _ => exact sn_cd18
  | 19, _, _ => exact sn_cd19
  | 20, _, _ => exact sn_cd20
  | 21, _, _ => exact sn_cd21
  | 22, _, _ => exact sn_cd22
  | 23, _, _ => exact sn_cd23
  | 24, _, _ => exact sn_cd24
  | 25, _, _ => exact sn_cd25
  | 26, _, _ => exact sn_cd26
  | 27, _, _ => exact sn_cd27
  | 28, _, _ => exact sn_cd28
  | 29, _, _ => exact sn_cd29
  | 30, _, _ => exact sn_cd30
  | 31, _, _ => exact sn_cd31
  | 32, _, _ => exact sn_cd32
  | 33, _, _ => exact sn_cd33
  | 34, _, _ => exact sn_cd34
  | 35, _, _ => exact sn_cd35
  | 36, _, _ => exact sn_cd36
  | 37, _, _ => exact sn_cd37
  | 38, _, _ => exact sn_cd38
  | 39, _, _ => exact sn_cd39
  | 40, _, _ => exact sn_cd40
  | 41, _, _ => exact sn_cd41
  | 42, _, _ => exact sn_cd42
  | 43, _, _ => exact sn_cd43
  | 44, _, _ => exact sn_cd44
  | 45, _, _ => exact sn_cd45
  | 46, _, _ => exact sn_cd46
  | 47, _, _ => exact sn_cd47
  | 48, _, _ => exact sn_cd48
  | 49, _, _ => exact sn_cd49
  | 50, _, _ => exact sn_cd50
  | 51, _, _ => exact sn_cd51
  | 52, _, _ => exact sn_cd52
  | 53, _, _ => exact sn_cd53
  | 54, _, _ => exact sn_cd54
  | 55, _, _ => exact sn_cd55
  | 56, _, _ => exact sn_cd56
  | 57, _, _ => exact sn_cd57
  | 58, _, _ => exact sn_cd58
  | 59, _, _ => exact sn_cd59
  | 60, _, _ => exact sn_cd60
  | 61, _, _ => exact sn_cd61
  | 62, _, _ => exact sn_cd62
  | 63, _, _ => exact sn_cd63
  | 64, _, _ => exact sn_cd64
  | 65, _, _ => exact sn_cd65
  | 66, _, _ => exact sn_cd66
  | 67, _, _ => exact sn_cd67
  | 68, _, _ => exact sn_cd68
  | 69, _, _ => exact sn_cd69
  | 70, _, _ => exact sn_cd70
  | 71, _, _ => exact sn_cd71
  | 72, _, _ => exact sn_cd72
  | 73, _, _ => exact sn_cd73
  | 74, _, _ => exact sn_cd74
  | 75, _, _ => exact sn_cd75
  | 76, _, _ => exact sn_cd76
  | 77, _, _ => exact sn_cd77
  | 78, _, _ => exact sn_cd78
  | 79, _, _ => exact sn_cd79
  | 80, _, _ => exact sn_cd80
  | 81, _, _ => exact sn_cd81
  | 82, _, _ => exact sn_cd82
  | 83, _, _ => exact sn_cd83
  | 84, _, _ => exact sn_cd84
  | 85, _, _ => exact sn_cd85
  | 86, _, _ => exact sn_cd86
  | 87, _, _ => exact sn_cd87
  | 88, _, _ => exact sn_cd88
  | 89, _, _ => exact sn_cd89
  | 90, _, _ => exact sn_cd90
  | 91, _, _ => exact sn_cd91
  | 92, _, _ => exact sn_cd92
  | 93, _, _ => exact sn_cd93
  | 94, _, _ => exact sn_cd94
  | 95, _, _ => exact sn_cd95
  | 96, _, _ => exact sn_cd96
  | 97, _, _ => exact sn_cd97
  | 98, _, _ => exact sn_cd98
  | 99, _, _ => exact sn_cd99
  | 100, _, _ => exact sn_cd100
  | 101, _, _ => exact sn_cd101
  | 102, _, _ => exact sn_cd102
  | 103, _, _ => exact sn_cd103
  | 104, _, _ => exact sn_cd104
  | 105, _, _ => exact sn_cd105
  | 106, _, _ => exact sn_cd106
  | 107, _, _ => exact sn_cd107
  | 108, _, _ => exact sn_cd108
  | 109, _, _ => exact sn_cd109
  | 110, _, _ => exact sn_cd110
  | 111, _, _ => exact sn_cd111
  | 112, _, _ => exact sn_cd112
  | 113, _, _ => exact sn_cd113
  | 114, _, _ => exact sn_cd114
  | 115, _, _ => exact sn_cd115
  | 116, _, _ => exact sn_cd116
  | 117, _, _ => exact sn_cd117
  | 118, _, _ => exact sn_cd118
  | 119, _, _ => exact sn_cd119
  | 120, _, _ => exact sn_cd120
  | 121, _, _ => exact sn_cd121
  | 122, _, _ => exact sn_cd122
  | 123, _, _ => exact sn_cd123
  | 124, _, _ => exact sn_cd124
  | 125, _, _ => exact sn_cd125
  | 126, _, _ => exact sn_cd126
  | 127, _, _ => exact sn_cd127
  | 128, _, _ => exact sn_cd128
  | 129, _, _ => exact sn_cd129
  | 130, _, _ => exact sn_cd130
  | 131, _, _ => exact sn_cd131
  | 132, _, _ => exact sn_cd132
  | 133, _, _ => exact sn_cd133
  | 134, _, _ => exact sn_cd134
  | 135, _, _ => exact sn_cd135
  | 136, _, _ => exact sn_cd136
  | 137, _, _ => exact sn_cd137
  | 138, _, _ => exact sn_cd138
  | 139, _, _ => exact sn_cd139
  | 140, _, _ => exact sn_cd140
  | 141, _, _ => exact sn_cd141
  | 142, _, _ => exact sn_cd142
  | 143, _, _ => exact sn_cd143
  | 144, _, _ => exact sn_cd144
  | 145, _, _ => exact sn_cd145
  | 146, _, _ => exact sn_cd146
  | 147, _, _ => exact sn_cd147
  | 148, _, _ => exact sn_cd148
  | 149, _, _ => exact sn_cd149
  | 150, _, _ => exact sn_cd150
  | 151, _, _ => exact sn_cd151
  | 152, _, _ => exact sn_cd152
  | 153, _, _ => exact sn_cd153
  | 154, _, _ => exact sn_cd154
  | 155, _, _ => exact sn_cd155
  | 156, _, _ => exact sn_cd156
  | 157, _, _ => exact sn_cd157
  | 158, _, _ => exact sn_cd158
  | 159, _, _ => exact sn_cd159
  | 160, _, _ => exact sn_cd160
  | 161, _, _ => exact sn_cd161
  | 162, _, _ => exact sn_cd162
  | 163, _, _ => exact sn_cd163
  | 164, _, _ => exact sn_cd164
  | 165, _, _ => exact sn_cd165
  | 166, _, _ => exact sn_cd166
  | 167, _, _ => exact sn_cd167
  | 168, _, _ => exact sn_cd168
  | 169, _, _ => exact sn_cd169
  | 170, _, _ => exact sn_cd170
  | 171, _, _ => exact sn_cd171
  | 172, _, _ => exact sn_cd172
  | 173, _, _ => exact sn_cd173
  | 174, _, _ => exact sn_cd174
  | 175, _, _ => exact sn_cd175
  | 176, _, _ => exact sn_cd176
  | 177, _, _ => exact sn_cd177
  | 178, _, _ => exact sn_cd178
  | 179, _, _ => exact sn_cd179
  | 180, _, _ => exact sn_cd180
  | 181, _, _ => exact sn_cd181
  | 182, _, _ => exact sn_cd182
  | 183, _, _ => exact sn_cd183
  | 184, _, _ => exact sn_cd184
  | 185, _, _ => exact sn_cd185
  | 186, _, _ => exact sn_cd186
  | 187, _, _ => exact sn_cd187
  | 188, _, _ => exact sn_cd188
  | 189, _, _ => exact sn_cd189
  | 190, _, _ => exact sn_cd190
  | 191, _, _ => exact sn_cd191
  | 192, _, _ => exact sn_cd192
  | 193, _, _ => exact sn_cd193
  | 194, _, _ => exact sn_cd194
  | 195, _, _ => exact sn_cd195
  | 196, _, _ => exact sn_cd196
  | 197, _, _ => exact sn_cd197
  | 198, _, _ => exact sn_cd198
  | 199, _, _ => exact sn_cd199
  | 200, _, _ => exact sn_cd200
  | 201, _, _ => exact sn_cd201
  | 202, _, _ => exact sn_cd202
  | 203, _, _ => exact sn_cd203
  | 204, _, _ => exact sn_cd204
  | 205, _, _ => exact sn_cd205
  | 206, _, _ => exact sn_cd206
  | 207, _, _ => exact sn_cd207
  | 208, _, _ => exact sn_cd208
  | 209, _, _ => exact sn_cd209
  | 210, _, _ => exact sn_cd210
  | 211, _, _ => exact sn_cd211
  | 212, _, _ => exact sn_cd212
  | 213, _, _ => exact sn_cd213
  | 214, _, _ => exact sn_cd214
  | 215, _, _ => exact sn_cd215
  | 216, _, _ => exact sn_cd216
  | 217, _, _ => exact sn_cd217
  | 218, _, _ => exact sn_cd218
  | 219, _, _ => exact sn_cd219
  | 220, _, _ => exact sn_cd220
  | 221, _, _ => exact sn_cd221
  | 222, _, _ => exact sn_cd222
  | 223, _, _ => exact sn_cd223
  | 224, _, _ => exact sn_cd224
  | 225, _, _ => exact sn_cd225
  | 226, _, _ => exact sn_cd226
  | 227, _, _ => exact sn_cd227
  | 228, _, _ => exact sn_cd228
  | 229, _, _ => exact sn_cd229
  | 230, _, _ => exact sn_cd230
  | 231, _, _ => exact sn_cd231
  | 232, _, _ => exact sn_cd232
  | 233, _, _ => exact sn_cd233
  | 234, _, _ => exact sn_cd234
  | 235, _, _ => exact sn_cd235
  | 236, _, _ => exact sn_cd236
  | 237, _, _ => exact sn_cd237
  | 238, _, _ => exact sn_cd238
  | 239, _, _ => exact sn_cd239
  | 240, _, _ => exact sn_cd240
  | 241, _, _ => exact sn_cd241
  | 242, _, _ => exact sn_cd242
  | 243, _, _ => exact sn_cd243
  | 244, _, _ => exact sn_cd244
  | 245, _, _ => exact sn_cd245
  | 246, _, _ => exact sn_cd246
  | 247, _, _ => exact sn_cd247
  | 248, _, _ => exact sn_cd248
  | 249, _, _ => exact sn_cd249
  | 250, _, _ => exact sn_cd250
  | 251, _, _ => exact sn_cd251
  | 252, _, _ => exact sn_cd252
  | 253, _, _ => exact sn_cd253
  | 0, h1, _ => exact absurd h1 (by omega)
  | k + 254, _, h2 => exact absurd h2 (by omega)

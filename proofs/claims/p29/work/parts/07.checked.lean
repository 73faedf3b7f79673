/-! every method's code, checked -/
theorem m_ch0 : m_chm 0 = true := by decide +kernel
theorem m_ch1 : m_chm 1 = true := by decide +kernel
theorem m_ch2 : m_chm 2 = true := by decide +kernel
theorem m_ch3 : m_chm 3 = true := by decide +kernel
theorem m_ch4 : m_chm 4 = true := by decide +kernel
theorem m_ch5 : m_chm 5 = true := by decide +kernel
theorem m_ch6 : m_chm 6 = true := by decide +kernel
theorem m_ch7 : m_chm 7 = true := by decide +kernel
theorem m_ch8 : m_chm 8 = true := by decide +kernel
theorem m_ch9 : m_chm 9 = true := by decide +kernel
theorem m_ch10 : m_chm 10 = true := by decide +kernel
theorem m_ch11 : m_chm 11 = true := by decide +kernel
theorem m_ch12 : m_chm 12 = true := by decide +kernel
theorem m_ch13 : m_chm 13 = true := by decide +kernel
theorem m_ch14 : m_chm 14 = true := by decide +kernel
theorem m_ch15 : m_chm 15 = true := by decide +kernel
theorem m_ch16 : m_chm 16 = true := by decide +kernel
theorem m_ch17 : m_chm 17 = true := by decide +kernel
theorem m_ch18 : m_chm 18 = true := by decide +kernel
theorem m_ch19 : m_chm 19 = true := by decide +kernel
theorem m_ch20 : m_chm 20 = true := by decide +kernel
theorem m_ch21 : m_chm 21 = true := by decide +kernel
theorem m_ch22 : m_chm 22 = true := by decide +kernel
theorem m_ch23 : m_chm 23 = true := by decide +kernel
theorem m_ch24 : m_chm 24 = true := by decide +kernel
theorem m_ch25 : m_chm 25 = true := by decide +kernel
theorem m_ch26 : m_chm 26 = true := by decide +kernel
theorem m_ch27 : m_chm 27 = true := by decide +kernel
theorem m_ch28 : m_chm 28 = true := by decide +kernel
theorem m_ch29 : m_chm 29 = true := by decide +kernel
theorem m_ch30 : m_chm 30 = true := by decide +kernel
theorem m_ch31 : m_chm 31 = true := by decide +kernel
theorem m_ch32 : m_chm 32 = true := by decide +kernel
theorem m_ch33 : m_chm 33 = true := by decide +kernel
theorem m_ch34 : m_chm 34 = true := by decide +kernel
theorem m_ch35 : m_chm 35 = true := by decide +kernel
theorem m_ch36 : m_chm 36 = true := by decide +kernel
theorem m_ch37 : m_chm 37 = true := by decide +kernel
theorem m_ch38 : m_chm 38 = true := by decide +kernel
theorem m_ch39 : m_chm 39 = true := by decide +kernel
theorem m_ch40 : m_chm 40 = true := by decide +kernel
theorem m_ch41 : m_chm 41 = true := by decide +kernel
theorem m_ch42 : m_chm 42 = true := by decide +kernel
theorem m_ch43 : m_chm 43 = true := by decide +kernel
theorem m_ch44 : m_chm 44 = true := by decide +kernel
theorem m_ch45 : m_chm 45 = true := by decide +kernel
theorem m_ch46 : m_chm 46 = true := by decide +kernel
theorem m_ch47 : m_chm 47 = true := by decide +kernel
theorem m_ch48 : m_chm 48 = true := by decide +kernel
theorem m_ch49 : m_chm 49 = true := by decide +kernel
theorem m_ch50 : m_chm 50 = true := by decide +kernel
theorem m_ch51 : m_chm 51 = true := by decide +kernel
theorem m_ch52 : m_chm 52 = true := by decide +kernel
theorem m_ch53 : m_chm 53 = true := by decide +kernel
theorem m_ch54 : m_chm 54 = true := by decide +kernel
theorem m_ch55 : m_chm 55 = true := by decide +kernel
theorem m_ch56 : m_chm 56 = true := by decide +kernel
theorem m_ch57 : m_chm 57 = true := by decide +kernel
theorem m_ch58 : m_chm 58 = true := by decide +kernel
theorem m_ch59 : m_chm 59 = true := by decide +kernel
theorem m_ch60 : m_chm 60 = true := by decide +kernel
theorem m_ch61 : m_chm 61 = true := by decide +kernel
theorem m_ch62 : m_chm 62 = true := by decide +kernel
theorem m_ch63 : m_chm 63 = true := by decide +kernel
theorem m_ch64 : m_chm 64 = true := by decide +kernel
theorem m_ch65 : m_chm 65 = true := by decide +kernel
theorem m_ch66 : m_chm 66 = true := by decide +kernel
theorem m_ch67 : m_chm 67 = true := by decide +kernel
theorem m_ch68 : m_chm 68 = true := by decide +kernel
theorem m_ch69 : m_chm 69 = true := by decide +kernel
theorem m_ch70 : m_chm 70 = true := by decide +kernel
theorem m_ch71 : m_chm 71 = true := by decide +kernel
theorem m_ch72 : m_chm 72 = true := by decide +kernel
theorem m_ch73 : m_chm 73 = true := by decide +kernel
theorem m_ch74 : m_chm 74 = true := by decide +kernel
theorem m_ch75 : m_chm 75 = true := by decide +kernel
theorem m_ch76 : m_chm 76 = true := by decide +kernel
theorem m_ch77 : m_chm 77 = true := by decide +kernel
theorem m_ch78 : m_chm 78 = true := by decide +kernel
theorem m_ch79 : m_chm 79 = true := by decide +kernel
theorem m_ch80 : m_chm 80 = true := by decide +kernel
theorem m_ch81 : m_chm 81 = true := by decide +kernel
theorem m_ch82 : m_chm 82 = true := by decide +kernel
theorem m_ch83 : m_chm 83 = true := by decide +kernel
theorem m_ch84 : m_chm 84 = true := by decide +kernel
theorem m_ch85 : m_chm 85 = true := by decide +kernel
theorem m_ch86 : m_chm 86 = true := by decide +kernel
theorem m_ch87 : m_chm 87 = true := by decide +kernel
theorem m_ch88 : m_chm 88 = true := by decide +kernel
theorem m_ch89 : m_chm 89 = true := by decide +kernel
theorem m_ch90 : m_chm 90 = true := by decide +kernel
theorem m_ch91 : m_chm 91 = true := by decide +kernel
theorem m_ch92 : m_chm 92 = true := by decide +kernel
theorem m_ch93 : m_chm 93 = true := by decide +kernel
theorem m_ch94 : m_chm 94 = true := by decide +kernel
theorem m_ch95 : m_chm 95 = true := by decide +kernel
theorem m_ch96 : m_chm 96 = true := by decide +kernel
theorem m_ch97 : m_chm 97 = true := by decide +kernel
theorem m_ch98 : m_chm 98 = true := by decide +kernel
theorem m_ch99 : m_chm 99 = true := by decide +kernel
theorem m_ch100 : m_chm 100 = true := by decide +kernel
theorem m_ch101 : m_chm 101 = true := by decide +kernel
theorem m_ch102 : m_chm 102 = true := by decide +kernel
theorem m_ch103 : m_chm 103 = true := by decide +kernel
theorem m_ch104 : m_chm 104 = true := by decide +kernel
theorem m_ch105 : m_chm 105 = true := by decide +kernel
theorem m_ch106 : m_chm 106 = true := by decide +kernel
theorem m_ch107 : m_chm 107 = true := by decide +kernel
theorem m_ch108 : m_chm 108 = true := by decide +kernel
theorem m_ch109 : m_chm 109 = true := by decide +kernel
theorem m_ch110 : m_chm 110 = true := by decide +kernel
theorem m_ch111 : m_chm 111 = true := by decide +kernel
theorem m_ch112 : m_chm 112 = true := by decide +kernel
theorem m_ch113 : m_chm 113 = true := by decide +kernel
theorem m_ch114 : m_chm 114 = true := by decide +kernel
theorem m_ch115 : m_chm 115 = true := by decide +kernel
theorem m_ch116 : m_chm 116 = true := by decide +kernel
theorem m_ch117 : m_chm 117 = true := by decide +kernel
theorem m_ch118 : m_chm 118 = true := by decide +kernel
theorem m_ch119 : m_chm 119 = true := by decide +kernel
theorem m_ch120 : m_chm 120 = true := by decide +kernel
theorem m_ch121 : m_chm 121 = true := by decide +kernel
theorem m_ch122 : m_chm 122 = true := by decide +kernel
theorem m_ch123 : m_chm 123 = true := by decide +kernel
theorem m_ch124 : m_chm 124 = true := by decide +kernel
theorem m_ch125 : m_chm 125 = true := by decide +kernel
theorem m_ch126 : m_chm 126 = true := by decide +kernel
theorem m_ch127 : m_chm 127 = true := by decide +kernel
theorem m_ch128 : m_chm 128 = true := by decide +kernel
theorem m_ch129 : m_chm 129 = true := by decide +kernel
theorem m_ch130 : m_chm 130 = true := by decide +kernel
theorem m_ch131 : m_chm 131 = true := by decide +kernel
theorem m_ch132 : m_chm 132 = true := by decide +kernel
theorem m_ch133 : m_chm 133 = true := by decide +kernel
theorem m_ch134 : m_chm 134 = true := by decide +kernel
theorem m_ch135 : m_chm 135 = true := by decide +kernel
theorem m_ch136 : m_chm 136 = true := by decide +kernel
theorem m_ch137 : m_chm 137 = true := by decide +kernel
theorem m_ch138 : m_chm 138 = true := by decide +kernel
theorem m_ch139 : m_chm 139 = true := by decide +kernel
theorem m_ch140 : m_chm 140 = true := by decide +kernel
theorem m_ch141 : m_chm 141 = true := by decide +kernel
theorem m_ch142 : m_chm 142 = true := by decide +kernel
theorem m_ch143 : m_chm 143 = true := by decide +kernel
theorem m_ch144 : m_chm 144 = true := by decide +kernel
theorem m_ch145 : m_chm 145 = true := by decide +kernel
theorem m_ch146 : m_chm 146 = true := by decide +kernel
theorem m_ch147 : m_chm 147 = true := by decide +kernel
theorem m_ch148 : m_chm 148 = true := by decide +kernel
theorem m_ch149 : m_chm 149 = true := by decide +kernel
theorem m_ch150 : m_chm 150 = true := by decide +kernel
theorem m_ch151 : m_chm 151 = true := by decide +kernel
theorem m_ch152 : m_chm 152 = true := by decide +kernel
theorem m_ch153 : m_chm 153 = true := by decide +kernel
theorem m_ch154 : m_chm 154 = true := by decide +kernel
theorem m_ch155 : m_chm 155 = true := by decide +kernel
theorem m_ch156 : m_chm 156 = true := by decide +kernel
theorem m_ch157 : m_chm 157 = true := by decide +kernel
theorem m_ch158 : m_chm 158 = true := by decide +kernel
theorem m_ch159 : m_chm 159 = true := by decide +kernel
theorem m_ch160 : m_chm 160 = true := by decide +kernel
theorem m_ch161 : m_chm 161 = true := by decide +kernel
theorem m_ch162 : m_chm 162 = true := by decide +kernel
theorem m_ch163 : m_chm 163 = true := by decide +kernel
theorem m_ch164 : m_chm 164 = true := by decide +kernel
theorem m_ch165 : m_chm 165 = true := by decide +kernel
theorem m_ch166 : m_chm 166 = true := by decide +kernel
theorem m_ch167 : m_chm 167 = true := by decide +kernel
theorem m_ch168 : m_chm 168 = true := by decide +kernel
theorem m_ch169 : m_chm 169 = true := by decide +kernel
theorem m_ch170 : m_chm 170 = true := by decide +kernel
theorem m_ch171 : m_chm 171 = true := by decide +kernel
theorem m_ch172 : m_chm 172 = true := by decide +kernel
theorem m_ch173 : m_chm 173 = true := by decide +kernel
theorem m_ch174 : m_chm 174 = true := by decide +kernel
theorem m_ch175 : m_chm 175 = true := by decide +kernel
theorem m_ch176 : m_chm 176 = true := by decide +kernel
theorem m_ch177 : m_chm 177 = true := by decide +kernel
theorem m_ch178 : m_chm 178 = true := by decide +kernel
theorem m_ch179 : m_chm 179 = true := by decide +kernel
theorem m_ch180 : m_chm 180 = true := by decide +kernel
theorem m_ch181 : m_chm 181 = true := by decide +kernel
theorem m_ch182 : m_chm 182 = true := by decide +kernel
theorem m_ch183 : m_chm 183 = true := by decide +kernel
theorem m_ch184 : m_chm 184 = true := by decide +kernel
theorem m_ch185 : m_chm 185 = true := by decide +kernel
theorem m_ch186 : m_chm 186 = true := by decide +kernel
theorem m_ch187 : m_chm 187 = true := by decide +kernel
theorem m_ch188 : m_chm 188 = true := by decide +kernel
theorem m_ch189 : m_chm 189 = true := by decide +kernel
theorem m_ch190 : m_chm 190 = true := by decide +kernel
theorem m_ch191 : m_chm 191 = true := by decide +kernel
theorem m_ch192 : m_chm 192 = true := by decide +kernel
theorem m_ch193 : m_chm 193 = true := by decide +kernel
theorem m_ch194 : m_chm 194 = true := by decide +kernel
theorem m_ch195 : m_chm 195 = true := by decide +kernel
theorem m_ch196 : m_chm 196 = true := by decide +kernel
theorem m_all_cut {α : Type} {p : α → Bool} : ∀ (l : List α) (a n : Nat), ((l.drop a).take n).all p = true → (l.drop (a + n)).all p = true → (l.drop a).all p = true := by
  intro l a n h1 h2
  rw [← List.take_append_drop n (l.drop a), List.all_append, h1, List.drop_drop, h2]
  rfl
theorem m_chL0 : ((m_c197.drop 0).take 8).all (fun q => m_chk 197 q.2 q.1) = true := by decide +kernel
theorem m_chL8 : ((m_c197.drop 8).take 8).all (fun q => m_chk 197 q.2 q.1) = true := by decide +kernel
theorem m_chL16 : ((m_c197.drop 16).take 8).all (fun q => m_chk 197 q.2 q.1) = true := by decide +kernel
theorem m_chL24 : ((m_c197.drop 24).take 8).all (fun q => m_chk 197 q.2 q.1) = true := by decide +kernel
theorem m_chL32 : ((m_c197.drop 32).take 8).all (fun q => m_chk 197 q.2 q.1) = true := by decide +kernel
theorem m_chL40 : ((m_c197.drop 40).take 8).all (fun q => m_chk 197 q.2 q.1) = true := by decide +kernel
theorem m_chLe : (m_c197.drop 48).all (fun q => m_chk 197 q.2 q.1) = true := by decide +kernel
theorem m_chR40 : (m_c197.drop 40).all (fun q => m_chk 197 q.2 q.1) = true := m_all_cut m_c197 40 8 m_chL40 m_chLe
theorem m_chR32 : (m_c197.drop 32).all (fun q => m_chk 197 q.2 q.1) = true := m_all_cut m_c197 32 8 m_chL32 m_chR40
theorem m_chR24 : (m_c197.drop 24).all (fun q => m_chk 197 q.2 q.1) = true := m_all_cut m_c197 24 8 m_chL24 m_chR32
theorem m_chR16 : (m_c197.drop 16).all (fun q => m_chk 197 q.2 q.1) = true := m_all_cut m_c197 16 8 m_chL16 m_chR24
theorem m_chR8 : (m_c197.drop 8).all (fun q => m_chk 197 q.2 q.1) = true := m_all_cut m_c197 8 8 m_chL8 m_chR16
theorem m_chR0 : (m_c197.drop 0).all (fun q => m_chk 197 q.2 q.1) = true := m_all_cut m_c197 0 8 m_chL0 m_chR8
theorem m_ch197 : m_chm 197 = true := by
  show (decide (m_stt 197 0 = 0) && m_c197.all (fun q => m_chk 197 q.2 q.1)) = true
  rw [show m_c197.all (fun q => m_chk 197 q.2 q.1) = true from m_chR0]
  decide +kernel
set_option maxRecDepth 20000 in
theorem m_cha : ∀ y, y < 198 → m_chm y = true := lt_s (lt_s (lt_s (lt_s (lt_s (lt_s (lt_s (lt_s (lt_s (lt_s (lt_s (lt_s (lt_s (lt_s (lt_s (lt_s (lt_s (lt_s (lt_s (lt_s (lt_s (lt_s (lt_s (lt_s (lt_s (lt_s (lt_s (lt_s (lt_s (lt_s (lt_s (lt_s (lt_s (lt_s (lt_s (lt_s (lt_s (lt_s (lt_s (lt_s (lt_s (lt_s (lt_s (lt_s (lt_s (lt_s (lt_s (lt_s (lt_s (lt_s (lt_s (lt_s (lt_s (lt_s (lt_s (lt_s (lt_s (lt_s (lt_s (lt_s (lt_s (lt_s (lt_s (lt_s (lt_s (lt_s (lt_s (lt_s (lt_s (lt_s (lt_s (lt_s (lt_s (lt_s (lt_s (lt_s (lt_s (lt_s (lt_s (lt_s (lt_s (lt_s (lt_s (lt_s (lt_s (lt_s (lt_s (lt_s (lt_s (lt_s (lt_s (lt_s (lt_s (lt_s (lt_s (lt_s (lt_s (lt_s (lt_s (lt_s (lt_s (lt_s (lt_s (lt_s (lt_s (lt_s (lt_s (lt_s (lt_s (lt_s (lt_s (lt_s (lt_s (lt_s (lt_s (lt_s (lt_s (lt_s (lt_s (lt_s (lt_s (lt_s (lt_s (lt_s (lt_s (lt_s (lt_s (lt_s (lt_s (lt_s (lt_s (lt_s (lt_s (lt_s (lt_s (lt_s (lt_s (lt_s (lt_s (lt_s (lt_s (lt_s (lt_s (lt_s (lt_s (lt_s (lt_s (lt_s (lt_s (lt_s (lt_s (lt_s (lt_s (lt_s (lt_s (lt_s (lt_s (lt_s (lt_s (lt_s (lt_s (lt_s (lt_s (lt_s (lt_s (lt_s (lt_s (lt_s (lt_s (lt_s (lt_s (lt_s (lt_s (lt_s (lt_s (lt_s (lt_s (lt_s (lt_s (lt_s (lt_s (lt_s (lt_s (lt_s (lt_s (lt_s (lt_s (lt_s (lt_s (lt_s (lt_s (lt_s (lt_s (lt_s (lt_s (lt_s (lt_s (lt_s (lt_0) m_ch0) m_ch1) m_ch2) m_ch3) m_ch4) m_ch5) m_ch6) m_ch7) m_ch8) m_ch9) m_ch10) m_ch11) m_ch12) m_ch13) m_ch14) m_ch15) m_ch16) m_ch17) m_ch18) m_ch19) m_ch20) m_ch21) m_ch22) m_ch23) m_ch24) m_ch25) m_ch26) m_ch27) m_ch28) m_ch29) m_ch30) m_ch31) m_ch32) m_ch33) m_ch34) m_ch35) m_ch36) m_ch37) m_ch38) m_ch39) m_ch40) m_ch41) m_ch42) m_ch43) m_ch44) m_ch45) m_ch46) m_ch47) m_ch48) m_ch49) m_ch50) m_ch51) m_ch52) m_ch53) m_ch54) m_ch55) m_ch56) m_ch57) m_ch58) m_ch59) m_ch60) m_ch61) m_ch62) m_ch63) m_ch64) m_ch65) m_ch66) m_ch67) m_ch68) m_ch69) m_ch70) m_ch71) m_ch72) m_ch73) m_ch74) m_ch75) m_ch76) m_ch77) m_ch78) m_ch79) m_ch80) m_ch81) m_ch82) m_ch83) m_ch84) m_ch85) m_ch86) m_ch87) m_ch88) m_ch89) m_ch90) m_ch91) m_ch92) m_ch93) m_ch94) m_ch95) m_ch96) m_ch97) m_ch98) m_ch99) m_ch100) m_ch101) m_ch102) m_ch103) m_ch104) m_ch105) m_ch106) m_ch107) m_ch108) m_ch109) m_ch110) m_ch111) m_ch112) m_ch113) m_ch114) m_ch115) m_ch116) m_ch117) m_ch118) m_ch119) m_ch120) m_ch121) m_ch122) m_ch123) m_ch124) m_ch125) m_ch126) m_ch127) m_ch128) m_ch129) m_ch130) m_ch131) m_ch132) m_ch133) m_ch134) m_ch135) m_ch136) m_ch137) m_ch138) m_ch139) m_ch140) m_ch141) m_ch142) m_ch143) m_ch144) m_ch145) m_ch146) m_ch147) m_ch148) m_ch149) m_ch150) m_ch151) m_ch152) m_ch153) m_ch154) m_ch155) m_ch156) m_ch157) m_ch158) m_ch159) m_ch160) m_ch161) m_ch162) m_ch163) m_ch164) m_ch165) m_ch166) m_ch167) m_ch168) m_ch169) m_ch170) m_ch171) m_ch172) m_ch173) m_ch174) m_ch175) m_ch176) m_ch177) m_ch178) m_ch179) m_ch180) m_ch181) m_ch182) m_ch183) m_ch184) m_ch185) m_ch186) m_ch187) m_ch188) m_ch189) m_ch190) m_ch191) m_ch192) m_ch193) m_ch194) m_ch195) m_ch196) m_ch197

theorem mJ7_fill_53178 : mthS miJ7_fill_53178 2 := ⟨⟨tb_1 (List.mem_of_getElem? (i := 3) rfl) rfl, tb_1 (List.mem_of_getElem? (i := 40) rfl) rfl, by decide +kernel⟩, tb_1 (List.mem_of_getElem? (i := 39) rfl) rfl⟩
theorem mX11_status : mthV miX11_status 0 := ⟨⟨tb_1 (List.mem_of_getElem? (i := 1) rfl) rfl, tb_2 (List.mem_of_getElem? (i := 180) rfl) rfl, by decide +kernel⟩, tb_2 (List.mem_of_getElem? (i := 178) rfl) rfl, tb_2 (List.mem_of_getElem? (i := 179) rfl) rfl⟩
theorem mX11_top : mthV miX11_top 0 := ⟨⟨tb_1 (List.mem_of_getElem? (i := 1) rfl) rfl, tb_2 (List.mem_of_getElem? (i := 184) rfl) rfl, by decide +kernel⟩, tb_2 (List.mem_of_getElem? (i := 182) rfl) rfl, tb_2 (List.mem_of_getElem? (i := 183) rfl) rfl⟩
theorem mX11_bottom : mthV miX11_bottom 0 := ⟨⟨tb_1 (List.mem_of_getElem? (i := 1) rfl) rfl, tb_2 (List.mem_of_getElem? (i := 188) rfl) rfl, by decide +kernel⟩, tb_2 (List.mem_of_getElem? (i := 186) rfl) rfl, tb_2 (List.mem_of_getElem? (i := 187) rfl) rfl⟩
theorem mX11_tray : mthV miX11_tray 3 := ⟨⟨tb_1 (List.mem_of_getElem? (i := 1) rfl) rfl, tb_2 (List.mem_of_getElem? (i := 192) rfl) rfl, by decide +kernel⟩, tb_2 (List.mem_of_getElem? (i := 190) rfl) rfl, tb_2 (List.mem_of_getElem? (i := 191) rfl) rfl⟩
theorem mX5_isTray : mthS miX5_isTray 1 := ⟨⟨tb_1 (List.mem_of_getElem? (i := 2) rfl) rfl, tb_2 (List.mem_of_getElem? (i := 195) rfl) rfl, by decide +kernel⟩, tb_2 (List.mem_of_getElem? (i := 194) rfl) rfl⟩
theorem mX11_refuse : mthV miX11_refuse 1 := ⟨⟨tb_1 (List.mem_of_getElem? (i := 1) rfl) rfl, tb_2 (List.mem_of_getElem? (i := 199) rfl) rfl, by decide +kernel⟩, tb_2 (List.mem_of_getElem? (i := 198) rfl) rfl, tb_s (lw_in1 (List.mem_of_getElem? (i := 0) rfl)) rfl⟩
theorem mX5_lay : mthV miX5_lay 3 := ⟨⟨tb_1 (List.mem_of_getElem? (i := 2) rfl) rfl, tb_2 (List.mem_of_getElem? (i := 203) rfl) rfl, by decide +kernel⟩, tb_2 (List.mem_of_getElem? (i := 201) rfl) rfl, tb_2 (List.mem_of_getElem? (i := 202) rfl) rfl⟩
theorem mJ7_fill_d0a16 : mthS miJ7_fill_d0a16 2 := ⟨⟨tb_1 (List.mem_of_getElem? (i := 3) rfl) rfl, tb_2 (List.mem_of_getElem? (i := 206) rfl) rfl, by decide +kernel⟩, tb_2 (List.mem_of_getElem? (i := 205) rfl) rfl⟩
theorem mX11_agree : mthV miX11_agree 0 := ⟨⟨tb_1 (List.mem_of_getElem? (i := 1) rfl) rfl, tb_2 (List.mem_of_getElem? (i := 210) rfl) rfl, by decide +kernel⟩, tb_2 (List.mem_of_getElem? (i := 209) rfl) rfl, tb_s (lw_in1 (List.mem_of_getElem? (i := 1) rfl)) rfl⟩
theorem mX11_write : mthV miX11_write 3 := ⟨⟨tb_1 (List.mem_of_getElem? (i := 1) rfl) rfl, tb_2 (List.mem_of_getElem? (i := 214) rfl) rfl, by decide +kernel⟩, tb_2 (List.mem_of_getElem? (i := 212) rfl) rfl, tb_2 (List.mem_of_getElem? (i := 213) rfl) rfl⟩
theorem mX5_whyNot : mthV miX5_whyNot 3 := ⟨⟨tb_1 (List.mem_of_getElem? (i := 2) rfl) rfl, tb_2 (List.mem_of_getElem? (i := 218) rfl) rfl, by decide +kernel⟩, tb_2 (List.mem_of_getElem? (i := 216) rfl) rfl, tb_2 (List.mem_of_getElem? (i := 217) rfl) rfl⟩
theorem mX5_isMissing : mthV miX5_isMissing 1 := ⟨⟨tb_1 (List.mem_of_getElem? (i := 2) rfl) rfl, tb_2 (List.mem_of_getElem? (i := 223) rfl) rfl, by decide +kernel⟩, tb_2 (List.mem_of_getElem? (i := 221) rfl) rfl, tb_2 (List.mem_of_getElem? (i := 222) rfl) rfl⟩
theorem mX5_has : mthV miX5_has 3 := ⟨⟨tb_1 (List.mem_of_getElem? (i := 2) rfl) rfl, tb_2 (List.mem_of_getElem? (i := 227) rfl) rfl, by decide +kernel⟩, tb_2 (List.mem_of_getElem? (i := 225) rfl) rfl, tb_2 (List.mem_of_getElem? (i := 226) rfl) rfl⟩
theorem mX5_put : mthV miX5_put 3 := ⟨⟨tb_1 (List.mem_of_getElem? (i := 2) rfl) rfl, tb_2 (List.mem_of_getElem? (i := 231) rfl) rfl, by decide +kernel⟩, tb_2 (List.mem_of_getElem? (i := 229) rfl) rfl, tb_2 (List.mem_of_getElem? (i := 230) rfl) rfl⟩
theorem mX11_read : mthV miX11_read 2 := ⟨⟨tb_1 (List.mem_of_getElem? (i := 1) rfl) rfl, tb_2 (List.mem_of_getElem? (i := 235) rfl) rfl, by decide +kernel⟩, tb_2 (List.mem_of_getElem? (i := 233) rfl) rfl, tb_2 (List.mem_of_getElem? (i := 234) rfl) rfl⟩
theorem mX11_none : mthV miX11_none 1 := ⟨⟨tb_1 (List.mem_of_getElem? (i := 1) rfl) rfl, tb_2 (List.mem_of_getElem? (i := 239) rfl) rfl, by decide +kernel⟩, tb_2 (List.mem_of_getElem? (i := 238) rfl) rfl, tb_s (lw_in1 (List.mem_of_getElem? (i := 2) rfl)) rfl⟩
theorem mX11_pour : mthV miX11_pour 5 := ⟨⟨tb_1 (List.mem_of_getElem? (i := 1) rfl) rfl, tb_3 (List.mem_of_getElem? (i := 3) rfl) rfl, by decide +kernel⟩, tb_3 (List.mem_of_getElem? (i := 1) rfl) rfl, tb_3 (List.mem_of_getElem? (i := 2) rfl) rfl⟩
theorem mX11_feed : mthV miX11_feed 5 := ⟨⟨tb_1 (List.mem_of_getElem? (i := 1) rfl) rfl, tb_3 (List.mem_of_getElem? (i := 12) rfl) rfl, by decide +kernel⟩, tb_3 (List.mem_of_getElem? (i := 10) rfl) rfl, tb_3 (List.mem_of_getElem? (i := 11) rfl) rfl⟩
theorem mX11_feedInt : mthV miX11_feedInt 1 := ⟨⟨tb_1 (List.mem_of_getElem? (i := 1) rfl) rfl, tb_3 (List.mem_of_getElem? (i := 16) rfl) rfl, by decide +kernel⟩, tb_3 (List.mem_of_getElem? (i := 15) rfl) rfl, tb_s (lw_in1 (List.mem_of_getElem? (i := 3) rfl)) rfl⟩
theorem mX11_wood : mthV miX11_wood 1 := ⟨⟨tb_1 (List.mem_of_getElem? (i := 1) rfl) rfl, tb_3 (List.mem_of_getElem? (i := 20) rfl) rfl, by decide +kernel⟩, tb_3 (List.mem_of_getElem? (i := 18) rfl) rfl, tb_3 (List.mem_of_getElem? (i := 19) rfl) rfl⟩
theorem mX4_open : mthV miX4_open 2 := ⟨⟨tb_1 (List.mem_of_getElem? (i := 4) rfl) rfl, tb_3 (List.mem_of_getElem? (i := 24) rfl) rfl, by decide +kernel⟩, tb_3 (List.mem_of_getElem? (i := 22) rfl) rfl, tb_3 (List.mem_of_getElem? (i := 23) rfl) rfl⟩
theorem mJ9_min_7cf53 : mthS miJ9_min_7cf53 2 := ⟨⟨tb_1 (List.mem_of_getElem? (i := 15) rfl) rfl, tb_3 (List.mem_of_getElem? (i := 27) rfl) rfl, by decide +kernel⟩, tb_3 (List.mem_of_getElem? (i := 26) rfl) rfl⟩
theorem mJ9_max_7cf53 : mthS miJ9_max_7cf53 2 := ⟨⟨tb_1 (List.mem_of_getElem? (i := 15) rfl) rfl, tb_3 (List.mem_of_getElem? (i := 30) rfl) rfl, by decide +kernel⟩, tb_3 (List.mem_of_getElem? (i := 29) rfl) rfl⟩
theorem mX4_isLetter : mthS miX4_isLetter 1 := ⟨⟨tb_1 (List.mem_of_getElem? (i := 4) rfl) rfl, tb_3 (List.mem_of_getElem? (i := 33) rfl) rfl, by decide +kernel⟩, tb_3 (List.mem_of_getElem? (i := 32) rfl) rfl⟩
theorem mX4_addWord : mthV miX4_addWord 3 := ⟨⟨tb_1 (List.mem_of_getElem? (i := 4) rfl) rfl, tb_3 (List.mem_of_getElem? (i := 37) rfl) rfl, by decide +kernel⟩, tb_3 (List.mem_of_getElem? (i := 36) rfl) rfl, tb_s (lw_in1 (List.mem_of_getElem? (i := 4) rfl)) rfl⟩
theorem mX8_codeWith : mthS miX8_codeWith 2 := ⟨⟨tb_1 (List.mem_of_getElem? (i := 16) rfl) rfl, tb_3 (List.mem_of_getElem? (i := 40) rfl) rfl, by decide +kernel⟩, tb_3 (List.mem_of_getElem? (i := 39) rfl) rfl⟩
theorem mX8_keywordOf : mthS miX8_keywordOf 1 := ⟨⟨tb_1 (List.mem_of_getElem? (i := 16) rfl) rfl, tb_3 (List.mem_of_getElem? (i := 44) rfl) rfl, by decide +kernel⟩, tb_3 (List.mem_of_getElem? (i := 43) rfl) rfl⟩
theorem mJ0_length_8abf5 : mthV miJ0_length_8abf5 0 := ⟨⟨tb_1 (List.mem_of_getElem? (i := 17) rfl) rfl, tb_3 (List.mem_of_getElem? (i := 49) rfl) rfl, by decide +kernel⟩, tb_3 (List.mem_of_getElem? (i := 47) rfl) rfl, tb_3 (List.mem_of_getElem? (i := 48) rfl) rfl⟩
theorem mJ0_coder_7d493 : mthV miJ0_coder_7d493 0 := ⟨⟨tb_1 (List.mem_of_getElem? (i := 17) rfl) rfl, tb_3 (List.mem_of_getElem? (i := 53) rfl) rfl, by decide +kernel⟩, tb_3 (List.mem_of_getElem? (i := 51) rfl) rfl, tb_3 (List.mem_of_getElem? (i := 52) rfl) rfl⟩
theorem mJ0_charAt_5068e : mthV miJ0_charAt_5068e 1 := ⟨⟨tb_1 (List.mem_of_getElem? (i := 17) rfl) rfl, tb_3 (List.mem_of_getElem? (i := 59) rfl) rfl, by decide +kernel⟩, tb_3 (List.mem_of_getElem? (i := 57) rfl) rfl, tb_3 (List.mem_of_getElem? (i := 58) rfl) rfl⟩
theorem mJ0_isLatin1_aae02 : mthV miJ0_isLatin1_aae02 0 := ⟨⟨tb_1 (List.mem_of_getElem? (i := 17) rfl) rfl, tb_3 (List.mem_of_getElem? (i := 63) rfl) rfl, by decide +kernel⟩, tb_3 (List.mem_of_getElem? (i := 61) rfl) rfl, tb_3 (List.mem_of_getElem? (i := 62) rfl) rfl⟩
theorem mJ1_charAt_3b067 : mthS miJ1_charAt_3b067 2 := ⟨⟨tb_1 (List.mem_of_getElem? (i := 18) rfl) rfl, tb_3 (List.mem_of_getElem? (i := 66) rfl) rfl, by decide +kernel⟩, tb_3 (List.mem_of_getElem? (i := 65) rfl) rfl⟩
theorem mJ0_checkIndex_df160 : mthS miJ0_checkIndex_df160 2 := ⟨⟨tb_1 (List.mem_of_getElem? (i := 17) rfl) rfl, tb_3 (List.mem_of_getElem? (i := 69) rfl) rfl, by decide +kernel⟩, tb_3 (List.mem_of_getElem? (i := 68) rfl) rfl⟩
theorem mJ3_checkIndex_8e157 : mthS miJ3_checkIndex_8e157 3 := ⟨⟨tb_1 (List.mem_of_getElem? (i := 19) rfl) rfl, tb_3 (List.mem_of_getElem? (i := 74) rfl) rfl, by decide +kernel⟩, tb_3 (List.mem_of_getElem? (i := 73) rfl) rfl⟩
theorem mJ2_charAt_3b067 : mthS miJ2_charAt_3b067 2 := ⟨⟨tb_1 (List.mem_of_getElem? (i := 20) rfl) rfl, tb_3 (List.mem_of_getElem? (i := 77) rfl) rfl, by decide +kernel⟩, tb_3 (List.mem_of_getElem? (i := 76) rfl) rfl⟩
theorem mJ2_checkIndex_2214a : mthS miJ2_checkIndex_2214a 2 := ⟨⟨tb_1 (List.mem_of_getElem? (i := 20) rfl) rfl, tb_3 (List.mem_of_getElem? (i := 80) rfl) rfl, by decide +kernel⟩, tb_3 (List.mem_of_getElem? (i := 79) rfl) rfl⟩
theorem mJ2_length_9d52b : mthS miJ2_length_9d52b 1 := ⟨⟨tb_1 (List.mem_of_getElem? (i := 20) rfl) rfl, tb_3 (List.mem_of_getElem? (i := 83) rfl) rfl, by decide +kernel⟩, tb_3 (List.mem_of_getElem? (i := 82) rfl) rfl⟩
theorem mJ2_getChar_3b067 : mthS miJ2_getChar_3b067 2 := ⟨⟨tb_1 (List.mem_of_getElem? (i := 20) rfl) rfl, tb_3 (List.mem_of_getElem? (i := 87) rfl) rfl, by decide +kernel⟩, tb_3 (List.mem_of_getElem? (i := 86) rfl) rfl⟩
theorem mX4_add : mthV miX4_add 3 := ⟨⟨tb_1 (List.mem_of_getElem? (i := 4) rfl) rfl, tb_3 (List.mem_of_getElem? (i := 98) rfl) rfl, by decide +kernel⟩, tb_3 (List.mem_of_getElem? (i := 97) rfl) rfl, tb_s (lw_in1 (List.mem_of_getElem? (i := 5) rfl)) rfl⟩
theorem mX4_isDigit : mthS miX4_isDigit 1 := ⟨⟨tb_1 (List.mem_of_getElem? (i := 4) rfl) rfl, tb_3 (List.mem_of_getElem? (i := 101) rfl) rfl, by decide +kernel⟩, tb_3 (List.mem_of_getElem? (i := 100) rfl) rfl⟩
theorem mX4_addNumber : mthV miX4_addNumber 3 := ⟨⟨tb_1 (List.mem_of_getElem? (i := 4) rfl) rfl, tb_3 (List.mem_of_getElem? (i := 105) rfl) rfl, by decide +kernel⟩, tb_3 (List.mem_of_getElem? (i := 104) rfl) rfl, tb_s (lw_in1 (List.mem_of_getElem? (i := 6) rfl)) rfl⟩
theorem mX4_isSign : mthS miX4_isSign 1 := ⟨⟨tb_1 (List.mem_of_getElem? (i := 4) rfl) rfl, tb_3 (List.mem_of_getElem? (i := 108) rfl) rfl, by decide +kernel⟩, tb_3 (List.mem_of_getElem? (i := 107) rfl) rfl⟩
theorem mX7_readInto : mthV miX7_readInto 2 := ⟨⟨tb_1 (List.mem_of_getElem? (i := 5) rfl) rfl, tb_3 (List.mem_of_getElem? (i := 112) rfl) rfl, by decide +kernel⟩, tb_3 (List.mem_of_getElem? (i := 110) rfl) rfl, tb_3 (List.mem_of_getElem? (i := 111) rfl) rfl⟩
theorem mX6_makeEmpty : mthV miX6_makeEmpty 0 := ⟨⟨tb_1 (List.mem_of_getElem? (i := 7) rfl) rfl, tb_3 (List.mem_of_getElem? (i := 116) rfl) rfl, by decide +kernel⟩, tb_3 (List.mem_of_getElem? (i := 114) rfl) rfl, tb_3 (List.mem_of_getElem? (i := 115) rfl) rfl⟩
theorem mX9_makeEmpty : mthV miX9_makeEmpty 0 := ⟨⟨tb_1 (List.mem_of_getElem? (i := 8) rfl) rfl, tb_3 (List.mem_of_getElem? (i := 120) rfl) rfl, by decide +kernel⟩, tb_3 (List.mem_of_getElem? (i := 118) rfl) rfl, tb_3 (List.mem_of_getElem? (i := 119) rfl) rfl⟩
theorem mX4_goOn : mthV miX4_goOn 0 := ⟨⟨tb_1 (List.mem_of_getElem? (i := 4) rfl) rfl, tb_3 (List.mem_of_getElem? (i := 124) rfl) rfl, by decide +kernel⟩, tb_3 (List.mem_of_getElem? (i := 122) rfl) rfl, tb_3 (List.mem_of_getElem? (i := 123) rfl) rfl⟩
theorem mX7_readPart : mthV miX7_readPart 2 := ⟨⟨tb_1 (List.mem_of_getElem? (i := 5) rfl) rfl, tb_3 (List.mem_of_getElem? (i := 128) rfl) rfl, by decide +kernel⟩, tb_3 (List.mem_of_getElem? (i := 127) rfl) rfl, tb_s (lw_in1 (List.mem_of_getElem? (i := 7) rfl)) rfl⟩
theorem mX4_keyword : mthV miX4_keyword 0 := ⟨⟨tb_1 (List.mem_of_getElem? (i := 4) rfl) rfl, tb_3 (List.mem_of_getElem? (i := 132) rfl) rfl, by decide +kernel⟩, tb_3 (List.mem_of_getElem? (i := 130) rfl) rfl, tb_3 (List.mem_of_getElem? (i := 131) rfl) rfl⟩
theorem mX7_readOdds : mthV miX7_readOdds 2 := ⟨⟨tb_1 (List.mem_of_getElem? (i := 5) rfl) rfl, tb_3 (List.mem_of_getElem? (i := 136) rfl) rfl, by decide +kernel⟩, tb_3 (List.mem_of_getElem? (i := 135) rfl) rfl, tb_s (lw_in1 (List.mem_of_getElem? (i := 8) rfl)) rfl⟩
theorem mX4_fail : mthV miX4_fail 1 := ⟨⟨tb_1 (List.mem_of_getElem? (i := 4) rfl) rfl, tb_3 (List.mem_of_getElem? (i := 140) rfl) rfl, by decide +kernel⟩, tb_3 (List.mem_of_getElem? (i := 138) rfl) rfl, tb_3 (List.mem_of_getElem? (i := 139) rfl) rfl⟩
theorem mX4_step : mthV miX4_step 0 := ⟨⟨tb_1 (List.mem_of_getElem? (i := 4) rfl) rfl, tb_3 (List.mem_of_getElem? (i := 144) rfl) rfl, by decide +kernel⟩, tb_3 (List.mem_of_getElem? (i := 142) rfl) rfl, tb_3 (List.mem_of_getElem? (i := 143) rfl) rfl⟩
theorem mX4_takeNumber : mthV miX4_takeNumber 2 := ⟨⟨tb_1 (List.mem_of_getElem? (i := 4) rfl) rfl, tb_3 (List.mem_of_getElem? (i := 148) rfl) rfl, by decide +kernel⟩, tb_3 (List.mem_of_getElem? (i := 146) rfl) rfl, tb_3 (List.mem_of_getElem? (i := 147) rfl) rfl⟩
theorem mX7_readMatter : mthS miX7_readMatter 2 := ⟨⟨tb_1 (List.mem_of_getElem? (i := 5) rfl) rfl, tb_3 (List.mem_of_getElem? (i := 153) rfl) rfl, by decide +kernel⟩, tb_3 (List.mem_of_getElem? (i := 152) rfl) rfl⟩
theorem mX7_begin : mthS miX7_begin 2 := ⟨⟨tb_1 (List.mem_of_getElem? (i := 5) rfl) rfl, tb_3 (List.mem_of_getElem? (i := 156) rfl) rfl, by decide +kernel⟩, tb_3 (List.mem_of_getElem? (i := 155) rfl) rfl⟩
theorem mX4_takeNewName : mthV miX4_takeNewName 1 := ⟨⟨tb_1 (List.mem_of_getElem? (i := 4) rfl) rfl, tb_3 (List.mem_of_getElem? (i := 160) rfl) rfl, by decide +kernel⟩, tb_3 (List.mem_of_getElem? (i := 158) rfl) rfl, tb_3 (List.mem_of_getElem? (i := 159) rfl) rfl⟩
theorem mX6_matterNamed : mthV miX6_matterNamed 1 := ⟨⟨tb_1 (List.mem_of_getElem? (i := 7) rfl) rfl, tb_3 (List.mem_of_getElem? (i := 164) rfl) rfl, by decide +kernel⟩, tb_3 (List.mem_of_getElem? (i := 162) rfl) rfl, tb_3 (List.mem_of_getElem? (i := 163) rfl) rfl⟩
theorem mX6_sitterNamed : mthV miX6_sitterNamed 1 := ⟨⟨tb_1 (List.mem_of_getElem? (i := 7) rfl) rfl, tb_3 (List.mem_of_getElem? (i := 168) rfl) rfl, by decide +kernel⟩, tb_3 (List.mem_of_getElem? (i := 166) rfl) rfl, tb_3 (List.mem_of_getElem? (i := 167) rfl) rfl⟩
theorem mX4_takeKeyword : mthV miX4_takeKeyword 1 := ⟨⟨tb_1 (List.mem_of_getElem? (i := 4) rfl) rfl, tb_3 (List.mem_of_getElem? (i := 172) rfl) rfl, by decide +kernel⟩, tb_3 (List.mem_of_getElem? (i := 170) rfl) rfl, tb_3 (List.mem_of_getElem? (i := 171) rfl) rfl⟩
theorem mX4_areGood : mthV miX4_areGood 0 := ⟨⟨tb_1 (List.mem_of_getElem? (i := 4) rfl) rfl, tb_3 (List.mem_of_getElem? (i := 177) rfl) rfl, by decide +kernel⟩, tb_3 (List.mem_of_getElem? (i := 175) rfl) rfl, tb_3 (List.mem_of_getElem? (i := 176) rfl) rfl⟩
theorem mX6_addMatter : mthV miX6_addMatter 3 := ⟨⟨tb_1 (List.mem_of_getElem? (i := 7) rfl) rfl, tb_3 (List.mem_of_getElem? (i := 181) rfl) rfl, by decide +kernel⟩, tb_3 (List.mem_of_getElem? (i := 179) rfl) rfl, tb_3 (List.mem_of_getElem? (i := 180) rfl) rfl⟩
theorem mX7_readHold : mthS miX7_readHold 2 := ⟨⟨tb_1 (List.mem_of_getElem? (i := 5) rfl) rfl, tb_3 (List.mem_of_getElem? (i := 184) rfl) rfl, by decide +kernel⟩, tb_3 (List.mem_of_getElem? (i := 183) rfl) rfl⟩
theorem mX4_takeMatter : mthV miX4_takeMatter 1 := ⟨⟨tb_1 (List.mem_of_getElem? (i := 4) rfl) rfl, tb_3 (List.mem_of_getElem? (i := 188) rfl) rfl, by decide +kernel⟩, tb_3 (List.mem_of_getElem? (i := 186) rfl) rfl, tb_3 (List.mem_of_getElem? (i := 187) rfl) rfl⟩
theorem mX4_matterHere : mthV miX4_matterHere 1 := ⟨⟨tb_1 (List.mem_of_getElem? (i := 4) rfl) rfl, tb_3 (List.mem_of_getElem? (i := 192) rfl) rfl, by decide +kernel⟩, tb_3 (List.mem_of_getElem? (i := 190) rfl) rfl, tb_3 (List.mem_of_getElem? (i := 191) rfl) rfl⟩
theorem mX6_isHeldBy : mthV miX6_isHeldBy 2 := ⟨⟨tb_1 (List.mem_of_getElem? (i := 7) rfl) rfl, tb_3 (List.mem_of_getElem? (i := 197) rfl) rfl, by decide +kernel⟩, tb_3 (List.mem_of_getElem? (i := 195) rfl) rfl, tb_3 (List.mem_of_getElem? (i := 196) rfl) rfl⟩
theorem mX6_addHold : mthV miX6_addHold 2 := ⟨⟨tb_1 (List.mem_of_getElem? (i := 7) rfl) rfl, tb_3 (List.mem_of_getElem? (i := 201) rfl) rfl, by decide +kernel⟩, tb_3 (List.mem_of_getElem? (i := 199) rfl) rfl, tb_3 (List.mem_of_getElem? (i := 200) rfl) rfl⟩
theorem mX7_readSitter : mthS miX7_readSitter 2 := ⟨⟨tb_1 (List.mem_of_getElem? (i := 5) rfl) rfl, tb_3 (List.mem_of_getElem? (i := 204) rfl) rfl, by decide +kernel⟩, tb_3 (List.mem_of_getElem? (i := 203) rfl) rfl⟩
theorem mX6_addSitter : mthV miX6_addSitter 5 := ⟨⟨tb_1 (List.mem_of_getElem? (i := 7) rfl) rfl, tb_3 (List.mem_of_getElem? (i := 208) rfl) rfl, by decide +kernel⟩, tb_3 (List.mem_of_getElem? (i := 206) rfl) rfl, tb_3 (List.mem_of_getElem? (i := 207) rfl) rfl⟩
theorem mX7_readNews : mthS miX7_readNews 2 := ⟨⟨tb_1 (List.mem_of_getElem? (i := 5) rfl) rfl, tb_3 (List.mem_of_getElem? (i := 211) rfl) rfl, by decide +kernel⟩, tb_3 (List.mem_of_getElem? (i := 210) rfl) rfl⟩
theorem mX6_addNews : mthV miX6_addNews 2 := ⟨⟨tb_1 (List.mem_of_getElem? (i := 7) rfl) rfl, tb_3 (List.mem_of_getElem? (i := 215) rfl) rfl, by decide +kernel⟩, tb_3 (List.mem_of_getElem? (i := 213) rfl) rfl, tb_3 (List.mem_of_getElem? (i := 214) rfl) rfl⟩
theorem mX4_takeEndOfPart : mthV miX4_takeEndOfPart 0 := ⟨⟨tb_1 (List.mem_of_getElem? (i := 4) rfl) rfl, tb_3 (List.mem_of_getElem? (i := 219) rfl) rfl, by decide +kernel⟩, tb_3 (List.mem_of_getElem? (i := 217) rfl) rfl, tb_3 (List.mem_of_getElem? (i := 218) rfl) rfl⟩
theorem mX6_takeFrom : mthV miX6_takeFrom 1 := ⟨⟨tb_1 (List.mem_of_getElem? (i := 7) rfl) rfl, tb_3 (List.mem_of_getElem? (i := 225) rfl) rfl, by decide +kernel⟩, tb_3 (List.mem_of_getElem? (i := 223) rfl) rfl, tb_3 (List.mem_of_getElem? (i := 224) rfl) rfl⟩
theorem mX9_takeFrom : mthV miX9_takeFrom 1 := ⟨⟨tb_1 (List.mem_of_getElem? (i := 8) rfl) rfl, tb_3 (List.mem_of_getElem? (i := 230) rfl) rfl, by decide +kernel⟩, tb_3 (List.mem_of_getElem? (i := 228) rfl) rfl, tb_3 (List.mem_of_getElem? (i := 229) rfl) rfl⟩
theorem mX11_answer : mthV miX11_answer 1 := ⟨⟨tb_1 (List.mem_of_getElem? (i := 1) rfl) rfl, tb_3 (List.mem_of_getElem? (i := 235) rfl) rfl, by decide +kernel⟩, tb_3 (List.mem_of_getElem? (i := 234) rfl) rfl, tb_s (lw_in1 (List.mem_of_getElem? (i := 9) rfl)) rfl⟩
theorem mX11_years : mthV miX11_years 1 := ⟨⟨tb_1 (List.mem_of_getElem? (i := 1) rfl) rfl, tb_3 (List.mem_of_getElem? (i := 239) rfl) rfl, by decide +kernel⟩, tb_3 (List.mem_of_getElem? (i := 237) rfl) rfl, tb_3 (List.mem_of_getElem? (i := 238) rfl) rfl⟩
theorem mX10_readInto : mthV miX10_readInto 3 := ⟨⟨tb_1 (List.mem_of_getElem? (i := 6) rfl) rfl, tb_4 (List.mem_of_getElem? (i := 3) rfl) rfl, by decide +kernel⟩, tb_4 (List.mem_of_getElem? (i := 1) rfl) rfl, tb_4 (List.mem_of_getElem? (i := 2) rfl) rfl⟩
theorem mX10_begin : mthV miX10_begin 3 := ⟨⟨tb_1 (List.mem_of_getElem? (i := 6) rfl) rfl, tb_4 (List.mem_of_getElem? (i := 10) rfl) rfl, by decide +kernel⟩, tb_4 (List.mem_of_getElem? (i := 9) rfl) rfl, tb_s (lw_in1 (List.mem_of_getElem? (i := 10) rfl)) rfl⟩
theorem mX10_isStep : mthS miX10_isStep 1 := ⟨⟨tb_1 (List.mem_of_getElem? (i := 6) rfl) rfl, tb_4 (List.mem_of_getElem? (i := 13) rfl) rfl, by decide +kernel⟩, tb_4 (List.mem_of_getElem? (i := 12) rfl) rfl⟩
theorem mX10_isOpening : mthS miX10_isOpening 1 := ⟨⟨tb_1 (List.mem_of_getElem? (i := 6) rfl) rfl, tb_4 (List.mem_of_getElem? (i := 17) rfl) rfl, by decide +kernel⟩, tb_4 (List.mem_of_getElem? (i := 16) rfl) rfl⟩
theorem mX10_readRest : mthV miX10_readRest 4 := ⟨⟨tb_1 (List.mem_of_getElem? (i := 6) rfl) rfl, tb_4 (List.mem_of_getElem? (i := 23) rfl) rfl, by decide +kernel⟩, tb_4 (List.mem_of_getElem? (i := 22) rfl) rfl, tb_s (lw_in1 (List.mem_of_getElem? (i := 11) rfl)) rfl⟩
theorem mX9_addStep : mthV miX9_addStep 3 := ⟨⟨tb_1 (List.mem_of_getElem? (i := 8) rfl) rfl, tb_4 (List.mem_of_getElem? (i := 28) rfl) rfl, by decide +kernel⟩, tb_4 (List.mem_of_getElem? (i := 26) rfl) rfl, tb_4 (List.mem_of_getElem? (i := 27) rfl) rfl⟩
theorem mX9_add : mthV miX9_add 3 := ⟨⟨tb_1 (List.mem_of_getElem? (i := 8) rfl) rfl, tb_4 (List.mem_of_getElem? (i := 32) rfl) rfl, by decide +kernel⟩, tb_4 (List.mem_of_getElem? (i := 31) rfl) rfl, tb_s (lw_in1 (List.mem_of_getElem? (i := 12) rfl)) rfl⟩
theorem mX4_takeSitter : mthV miX4_takeSitter 1 := ⟨⟨tb_1 (List.mem_of_getElem? (i := 4) rfl) rfl, tb_4 (List.mem_of_getElem? (i := 37) rfl) rfl, by decide +kernel⟩, tb_4 (List.mem_of_getElem? (i := 35) rfl) rfl, tb_4 (List.mem_of_getElem? (i := 36) rfl) rfl⟩
theorem mX10_goIn : mthV miX10_goIn 1 := ⟨⟨tb_1 (List.mem_of_getElem? (i := 6) rfl) rfl, tb_4 (List.mem_of_getElem? (i := 41) rfl) rfl, by decide +kernel⟩, tb_4 (List.mem_of_getElem? (i := 40) rfl) rfl, tb_s (lw_in1 (List.mem_of_getElem? (i := 13) rfl)) rfl⟩
theorem mX10_readTest : mthS miX10_readTest 3 := ⟨⟨tb_1 (List.mem_of_getElem? (i := 6) rfl) rfl, tb_4 (List.mem_of_getElem? (i := 44) rfl) rfl, by decide +kernel⟩, tb_4 (List.mem_of_getElem? (i := 43) rfl) rfl⟩
theorem mX4_takeCompare : mthV miX4_takeCompare 0 := ⟨⟨tb_1 (List.mem_of_getElem? (i := 4) rfl) rfl, tb_4 (List.mem_of_getElem? (i := 48) rfl) rfl, by decide +kernel⟩, tb_4 (List.mem_of_getElem? (i := 46) rfl) rfl, tb_4 (List.mem_of_getElem? (i := 47) rfl) rfl⟩
theorem mX9_addWhen : mthV miX9_addWhen 4 := ⟨⟨tb_1 (List.mem_of_getElem? (i := 8) rfl) rfl, tb_4 (List.mem_of_getElem? (i := 52) rfl) rfl, by decide +kernel⟩, tb_4 (List.mem_of_getElem? (i := 50) rfl) rfl, tb_4 (List.mem_of_getElem? (i := 51) rfl) rfl⟩
theorem mX10_goOut : mthV miX10_goOut 1 := ⟨⟨tb_1 (List.mem_of_getElem? (i := 6) rfl) rfl, tb_4 (List.mem_of_getElem? (i := 57) rfl) rfl, by decide +kernel⟩, tb_4 (List.mem_of_getElem? (i := 56) rfl) rfl, tb_s (lw_in1 (List.mem_of_getElem? (i := 14) rfl)) rfl⟩
theorem mX9_addEnd : mthV miX9_addEnd 1 := ⟨⟨tb_1 (List.mem_of_getElem? (i := 8) rfl) rfl, tb_4 (List.mem_of_getElem? (i := 61) rfl) rfl, by decide +kernel⟩, tb_4 (List.mem_of_getElem? (i := 59) rfl) rfl, tb_4 (List.mem_of_getElem? (i := 60) rfl) rfl⟩
theorem mX11_fault : mthV miX11_fault 1 := ⟨⟨tb_1 (List.mem_of_getElem? (i := 1) rfl) rfl, tb_4 (List.mem_of_getElem? (i := 67) rfl) rfl, by decide +kernel⟩, tb_4 (List.mem_of_getElem? (i := 65) rfl) rfl, tb_4 (List.mem_of_getElem? (i := 66) rfl) rfl⟩
theorem mX11_many : mthV miX11_many 1 := ⟨⟨tb_1 (List.mem_of_getElem? (i := 1) rfl) rfl, tb_4 (List.mem_of_getElem? (i := 71) rfl) rfl, by decide +kernel⟩, tb_4 (List.mem_of_getElem? (i := 69) rfl) rfl, tb_4 (List.mem_of_getElem? (i := 70) rfl) rfl⟩
theorem mX6_settledSet : mthV miX6_settledSet 1 := ⟨⟨tb_1 (List.mem_of_getElem? (i := 7) rfl) rfl, tb_4 (List.mem_of_getElem? (i := 75) rfl) rfl, by decide +kernel⟩, tb_4 (List.mem_of_getElem? (i := 73) rfl) rfl, tb_4 (List.mem_of_getElem? (i := 74) rfl) rfl⟩
theorem mX6_stuckSet : mthV miX6_stuckSet 1 := ⟨⟨tb_1 (List.mem_of_getElem? (i := 7) rfl) rfl, tb_4 (List.mem_of_getElem? (i := 79) rfl) rfl, by decide +kernel⟩, tb_4 (List.mem_of_getElem? (i := 77) rfl) rfl, tb_4 (List.mem_of_getElem? (i := 78) rfl) rfl⟩
theorem mX6_downSet : mthV miX6_downSet 1 := ⟨⟨tb_1 (List.mem_of_getElem? (i := 7) rfl) rfl, tb_4 (List.mem_of_getElem? (i := 83) rfl) rfl, by decide +kernel⟩, tb_4 (List.mem_of_getElem? (i := 81) rfl) rfl, tb_4 (List.mem_of_getElem? (i := 82) rfl) rfl⟩
theorem mX6_heightBy : mthV miX6_heightBy 2 := ⟨⟨tb_1 (List.mem_of_getElem? (i := 7) rfl) rfl, tb_4 (List.mem_of_getElem? (i := 87) rfl) rfl, by decide +kernel⟩, tb_4 (List.mem_of_getElem? (i := 85) rfl) rfl, tb_4 (List.mem_of_getElem? (i := 86) rfl) rfl⟩
theorem mX11_matter : mthV miX11_matter 2 := ⟨⟨tb_1 (List.mem_of_getElem? (i := 1) rfl) rfl, tb_4 (List.mem_of_getElem? (i := 91) rfl) rfl, by decide +kernel⟩, tb_4 (List.mem_of_getElem? (i := 89) rfl) rfl, tb_4 (List.mem_of_getElem? (i := 90) rfl) rfl⟩
theorem mX6_hasMatter : mthV miX6_hasMatter 1 := ⟨⟨tb_1 (List.mem_of_getElem? (i := 7) rfl) rfl, tb_4 (List.mem_of_getElem? (i := 95) rfl) rfl, by decide +kernel⟩, tb_4 (List.mem_of_getElem? (i := 93) rfl) rfl, tb_4 (List.mem_of_getElem? (i := 94) rfl) rfl⟩
theorem mX6_holdersOf : mthV miX6_holdersOf 1 := ⟨⟨tb_1 (List.mem_of_getElem? (i := 7) rfl) rfl, tb_4 (List.mem_of_getElem? (i := 99) rfl) rfl, by decide +kernel⟩, tb_4 (List.mem_of_getElem? (i := 97) rfl) rfl, tb_4 (List.mem_of_getElem? (i := 98) rfl) rfl⟩
theorem mX6_sittersFor : mthV miX6_sittersFor 1 := ⟨⟨tb_1 (List.mem_of_getElem? (i := 7) rfl) rfl, tb_4 (List.mem_of_getElem? (i := 103) rfl) rfl, by decide +kernel⟩, tb_4 (List.mem_of_getElem? (i := 101) rfl) rfl, tb_4 (List.mem_of_getElem? (i := 102) rfl) rfl⟩
theorem mX6_loadOf : mthV miX6_loadOf 1 := ⟨⟨tb_1 (List.mem_of_getElem? (i := 7) rfl) rfl, tb_4 (List.mem_of_getElem? (i := 107) rfl) rfl, by decide +kernel⟩, tb_4 (List.mem_of_getElem? (i := 105) rfl) rfl, tb_4 (List.mem_of_getElem? (i := 106) rfl) rfl⟩
theorem mX11_answerIfThere : mthV miX11_answerIfThere 1 := ⟨⟨tb_1 (List.mem_of_getElem? (i := 1) rfl) rfl, tb_4 (List.mem_of_getElem? (i := 111) rfl) rfl, by decide +kernel⟩, tb_4 (List.mem_of_getElem? (i := 110) rfl) rfl, tb_s (lw_in1 (List.mem_of_getElem? (i := 15) rfl)) rfl⟩
theorem mX11_hold : mthV miX11_hold 2 := ⟨⟨tb_1 (List.mem_of_getElem? (i := 1) rfl) rfl, tb_4 (List.mem_of_getElem? (i := 115) rfl) rfl, by decide +kernel⟩, tb_4 (List.mem_of_getElem? (i := 113) rfl) rfl, tb_4 (List.mem_of_getElem? (i := 114) rfl) rfl⟩
theorem mX6_hasHold : mthV miX6_hasHold 1 := ⟨⟨tb_1 (List.mem_of_getElem? (i := 7) rfl) rfl, tb_4 (List.mem_of_getElem? (i := 119) rfl) rfl, by decide +kernel⟩, tb_4 (List.mem_of_getElem? (i := 117) rfl) rfl, tb_4 (List.mem_of_getElem? (i := 118) rfl) rfl⟩
theorem mX11_sitter : mthV miX11_sitter 2 := ⟨⟨tb_1 (List.mem_of_getElem? (i := 1) rfl) rfl, tb_4 (List.mem_of_getElem? (i := 123) rfl) rfl, by decide +kernel⟩, tb_4 (List.mem_of_getElem? (i := 121) rfl) rfl, tb_4 (List.mem_of_getElem? (i := 122) rfl) rfl⟩
theorem mX6_hasSitter : mthV miX6_hasSitter 1 := ⟨⟨tb_1 (List.mem_of_getElem? (i := 7) rfl) rfl, tb_4 (List.mem_of_getElem? (i := 127) rfl) rfl, by decide +kernel⟩, tb_4 (List.mem_of_getElem? (i := 125) rfl) rfl, tb_4 (List.mem_of_getElem? (i := 126) rfl) rfl⟩
theorem mX6_heightNow : mthV miX6_heightNow 1 := ⟨⟨tb_1 (List.mem_of_getElem? (i := 7) rfl) rfl, tb_4 (List.mem_of_getElem? (i := 131) rfl) rfl, by decide +kernel⟩, tb_4 (List.mem_of_getElem? (i := 129) rfl) rfl, tb_4 (List.mem_of_getElem? (i := 130) rfl) rfl⟩
theorem mX11_news : mthV miX11_news 2 := ⟨⟨tb_1 (List.mem_of_getElem? (i := 1) rfl) rfl, tb_4 (List.mem_of_getElem? (i := 135) rfl) rfl, by decide +kernel⟩, tb_4 (List.mem_of_getElem? (i := 133) rfl) rfl, tb_4 (List.mem_of_getElem? (i := 134) rfl) rfl⟩
theorem mX6_hasNews : mthV miX6_hasNews 1 := ⟨⟨tb_1 (List.mem_of_getElem? (i := 7) rfl) rfl, tb_4 (List.mem_of_getElem? (i := 139) rfl) rfl, by decide +kernel⟩, tb_4 (List.mem_of_getElem? (i := 137) rfl) rfl, tb_4 (List.mem_of_getElem? (i := 138) rfl) rfl⟩
theorem mX11_copyHeights : mthV miX11_copyHeights 1 := ⟨⟨tb_1 (List.mem_of_getElem? (i := 1) rfl) rfl, tb_4 (List.mem_of_getElem? (i := 143) rfl) rfl, by decide +kernel⟩, tb_4 (List.mem_of_getElem? (i := 141) rfl) rfl, tb_4 (List.mem_of_getElem? (i := 142) rfl) rfl⟩
theorem mX11_day : mthV miX11_day 1 := ⟨⟨tb_1 (List.mem_of_getElem? (i := 1) rfl) rfl, tb_4 (List.mem_of_getElem? (i := 147) rfl) rfl, by decide +kernel⟩, tb_4 (List.mem_of_getElem? (i := 145) rfl) rfl, tb_4 (List.mem_of_getElem? (i := 146) rfl) rfl⟩
theorem mX6_hasDays : mthV miX6_hasDays 1 := ⟨⟨tb_1 (List.mem_of_getElem? (i := 7) rfl) rfl, tb_4 (List.mem_of_getElem? (i := 151) rfl) rfl, by decide +kernel⟩, tb_4 (List.mem_of_getElem? (i := 149) rfl) rfl, tb_4 (List.mem_of_getElem? (i := 150) rfl) rfl⟩
theorem mX6_goDays : mthV miX6_goDays 1 := ⟨⟨tb_1 (List.mem_of_getElem? (i := 7) rfl) rfl, tb_4 (List.mem_of_getElem? (i := 155) rfl) rfl, by decide +kernel⟩, tb_4 (List.mem_of_getElem? (i := 153) rfl) rfl, tb_4 (List.mem_of_getElem? (i := 154) rfl) rfl⟩
theorem mX6_passDay : mthV miX6_passDay 1 := ⟨⟨tb_1 (List.mem_of_getElem? (i := 7) rfl) rfl, tb_4 (List.mem_of_getElem? (i := 159) rfl) rfl, by decide +kernel⟩, tb_4 (List.mem_of_getElem? (i := 157) rfl) rfl, tb_4 (List.mem_of_getElem? (i := 158) rfl) rfl⟩
theorem mX11_bring : mthV miX11_bring 1 := ⟨⟨tb_1 (List.mem_of_getElem? (i := 1) rfl) rfl, tb_4 (List.mem_of_getElem? (i := 165) rfl) rfl, by decide +kernel⟩, tb_4 (List.mem_of_getElem? (i := 163) rfl) rfl, tb_4 (List.mem_of_getElem? (i := 164) rfl) rfl⟩
theorem mX6_canCome : mthV miX6_canCome 1 := ⟨⟨tb_1 (List.mem_of_getElem? (i := 7) rfl) rfl, tb_4 (List.mem_of_getElem? (i := 169) rfl) rfl, by decide +kernel⟩, tb_4 (List.mem_of_getElem? (i := 167) rfl) rfl, tb_4 (List.mem_of_getElem? (i := 168) rfl) rfl⟩
theorem mX6_come : mthV miX6_come 1 := ⟨⟨tb_1 (List.mem_of_getElem? (i := 7) rfl) rfl, tb_4 (List.mem_of_getElem? (i := 174) rfl) rfl, by decide +kernel⟩, tb_4 (List.mem_of_getElem? (i := 172) rfl) rfl, tb_4 (List.mem_of_getElem? (i := 173) rfl) rfl⟩
theorem mX11_crisis : mthV miX11_crisis 2 := ⟨⟨tb_1 (List.mem_of_getElem? (i := 1) rfl) rfl, tb_4 (List.mem_of_getElem? (i := 178) rfl) rfl, by decide +kernel⟩, tb_4 (List.mem_of_getElem? (i := 176) rfl) rfl, tb_4 (List.mem_of_getElem? (i := 177) rfl) rfl⟩
theorem mX6_worsen : mthV miX6_worsen 2 := ⟨⟨tb_1 (List.mem_of_getElem? (i := 7) rfl) rfl, tb_4 (List.mem_of_getElem? (i := 182) rfl) rfl, by decide +kernel⟩, tb_4 (List.mem_of_getElem? (i := 180) rfl) rfl, tb_4 (List.mem_of_getElem? (i := 181) rfl) rfl⟩
theorem mX11_turn : mthV miX11_turn 2 := ⟨⟨tb_1 (List.mem_of_getElem? (i := 1) rfl) rfl, tb_4 (List.mem_of_getElem? (i := 187) rfl) rfl, by decide +kernel⟩, tb_4 (List.mem_of_getElem? (i := 185) rfl) rfl, tb_4 (List.mem_of_getElem? (i := 186) rfl) rfl⟩
theorem mX11_sit : mthV miX11_sit 3 := ⟨⟨tb_1 (List.mem_of_getElem? (i := 1) rfl) rfl, tb_4 (List.mem_of_getElem? (i := 191) rfl) rfl, by decide +kernel⟩, tb_4 (List.mem_of_getElem? (i := 189) rfl) rfl, tb_4 (List.mem_of_getElem? (i := 190) rfl) rfl⟩
theorem mX11_hear : mthV miX11_hear 2 := ⟨⟨tb_1 (List.mem_of_getElem? (i := 1) rfl) rfl, tb_4 (List.mem_of_getElem? (i := 196) rfl) rfl, by decide +kernel⟩, tb_4 (List.mem_of_getElem? (i := 194) rfl) rfl, tb_4 (List.mem_of_getElem? (i := 195) rfl) rfl⟩
theorem mX11_bind : mthV miX11_bind 2 := ⟨⟨tb_1 (List.mem_of_getElem? (i := 1) rfl) rfl, tb_4 (List.mem_of_getElem? (i := 201) rfl) rfl, by decide +kernel⟩, tb_4 (List.mem_of_getElem? (i := 199) rfl) rfl, tb_4 (List.mem_of_getElem? (i := 200) rfl) rfl⟩
theorem mX11_loose : mthV miX11_loose 1 := ⟨⟨tb_1 (List.mem_of_getElem? (i := 1) rfl) rfl, tb_4 (List.mem_of_getElem? (i := 207) rfl) rfl, by decide +kernel⟩, tb_4 (List.mem_of_getElem? (i := 205) rfl) rfl, tb_4 (List.mem_of_getElem? (i := 206) rfl) rfl⟩
theorem mX6_dropHold : mthV miX6_dropHold 1 := ⟨⟨tb_1 (List.mem_of_getElem? (i := 7) rfl) rfl, tb_4 (List.mem_of_getElem? (i := 211) rfl) rfl, by decide +kernel⟩, tb_4 (List.mem_of_getElem? (i := 209) rfl) rfl, tb_4 (List.mem_of_getElem? (i := 210) rfl) rfl⟩
theorem mX11_hurry : mthV miX11_hurry 2 := ⟨⟨tb_1 (List.mem_of_getElem? (i := 1) rfl) rfl, tb_4 (List.mem_of_getElem? (i := 215) rfl) rfl, by decide +kernel⟩, tb_4 (List.mem_of_getElem? (i := 213) rfl) rfl, tb_4 (List.mem_of_getElem? (i := 214) rfl) rfl⟩
theorem mX11_rule : mthV miX11_rule 1 := ⟨⟨tb_1 (List.mem_of_getElem? (i := 1) rfl) rfl, tb_4 (List.mem_of_getElem? (i := 219) rfl) rfl, by decide +kernel⟩, tb_4 (List.mem_of_getElem? (i := 217) rfl) rfl, tb_4 (List.mem_of_getElem? (i := 218) rfl) rfl⟩
theorem mX11_clearIn : mthV miX11_clearIn 2 := ⟨⟨tb_1 (List.mem_of_getElem? (i := 1) rfl) rfl, tb_4 (List.mem_of_getElem? (i := 223) rfl) rfl, by decide +kernel⟩, tb_4 (List.mem_of_getElem? (i := 221) rfl) rfl, tb_4 (List.mem_of_getElem? (i := 222) rfl) rfl⟩
theorem mX0_look : mthV miX0_look 2 := ⟨⟨tb_1 (List.mem_of_getElem? (i := 10) rfl) rfl, tb_4 (List.mem_of_getElem? (i := 227) rfl) rfl, by decide +kernel⟩, tb_4 (List.mem_of_getElem? (i := 225) rfl) rfl, tb_4 (List.mem_of_getElem? (i := 226) rfl) rfl⟩
theorem mX11_heightIn : mthV miX11_heightIn 2 := ⟨⟨tb_1 (List.mem_of_getElem? (i := 1) rfl) rfl, tb_4 (List.mem_of_getElem? (i := 233) rfl) rfl, by decide +kernel⟩, tb_4 (List.mem_of_getElem? (i := 231) rfl) rfl, tb_4 (List.mem_of_getElem? (i := 232) rfl) rfl⟩
theorem mX11_downIn : mthV miX11_downIn 1 := ⟨⟨tb_1 (List.mem_of_getElem? (i := 1) rfl) rfl, tb_4 (List.mem_of_getElem? (i := 238) rfl) rfl, by decide +kernel⟩, tb_4 (List.mem_of_getElem? (i := 236) rfl) rfl, tb_4 (List.mem_of_getElem? (i := 237) rfl) rfl⟩
theorem mX0_daysTillDown : mthV miX0_daysTillDown 2 := ⟨⟨tb_1 (List.mem_of_getElem? (i := 10) rfl) rfl, tb_5 (List.mem_of_getElem? (i := 2) rfl) rfl, by decide +kernel⟩, tb_5 (List.mem_of_getElem? (i := 0) rfl) rfl, tb_5 (List.mem_of_getElem? (i := 1) rfl) rfl⟩
theorem mX11_least : mthV miX11_least 1 := ⟨⟨tb_1 (List.mem_of_getElem? (i := 1) rfl) rfl, tb_5 (List.mem_of_getElem? (i := 8) rfl) rfl, by decide +kernel⟩, tb_5 (List.mem_of_getElem? (i := 6) rfl) rfl, tb_5 (List.mem_of_getElem? (i := 7) rfl) rfl⟩
theorem mX6_isSitterSet : mthV miX6_isSitterSet 1 := ⟨⟨tb_1 (List.mem_of_getElem? (i := 7) rfl) rfl, tb_5 (List.mem_of_getElem? (i := 12) rfl) rfl, by decide +kernel⟩, tb_5 (List.mem_of_getElem? (i := 10) rfl) rfl, tb_5 (List.mem_of_getElem? (i := 11) rfl) rfl⟩
theorem mX3_fewestNews : mthV miX3_fewestNews 2 := ⟨⟨tb_1 (List.mem_of_getElem? (i := 11) rfl) rfl, tb_5 (List.mem_of_getElem? (i := 16) rfl) rfl, by decide +kernel⟩, tb_5 (List.mem_of_getElem? (i := 14) rfl) rfl, tb_5 (List.mem_of_getElem? (i := 15) rfl) rfl⟩
theorem mJ6_bitCount_0f7a4 : mthS miJ6_bitCount_0f7a4 1 := ⟨⟨tb_1 (List.mem_of_getElem? (i := 21) rfl) rfl, tb_5 (List.mem_of_getElem? (i := 19) rfl) rfl, by decide +kernel⟩, tb_5 (List.mem_of_getElem? (i := 18) rfl) rfl⟩
theorem mX3_canAllCome : mthS miX3_canAllCome 2 := ⟨⟨tb_1 (List.mem_of_getElem? (i := 11) rfl) rfl, tb_5 (List.mem_of_getElem? (i := 25) rfl) rfl, by decide +kernel⟩, tb_5 (List.mem_of_getElem? (i := 24) rfl) rfl⟩
theorem mX3_isIn : mthS miX3_isIn 2 := ⟨⟨tb_1 (List.mem_of_getElem? (i := 11) rfl) rfl, tb_5 (List.mem_of_getElem? (i := 28) rfl) rfl, by decide +kernel⟩, tb_5 (List.mem_of_getElem? (i := 27) rfl) rfl⟩
theorem mX3_downBy : mthV miX3_downBy 2 := ⟨⟨tb_1 (List.mem_of_getElem? (i := 11) rfl) rfl, tb_5 (List.mem_of_getElem? (i := 33) rfl) rfl, by decide +kernel⟩, tb_5 (List.mem_of_getElem? (i := 32) rfl) rfl, tb_s (lw_in2 (List.mem_of_getElem? (i := 0) rfl)) rfl⟩
theorem mX11_leastSet : mthV miX11_leastSet 1 := ⟨⟨tb_1 (List.mem_of_getElem? (i := 1) rfl) rfl, tb_5 (List.mem_of_getElem? (i := 41) rfl) rfl, by decide +kernel⟩, tb_5 (List.mem_of_getElem? (i := 39) rfl) rfl, tb_5 (List.mem_of_getElem? (i := 40) rfl) rfl⟩
theorem mX11_ring : mthV miX11_ring 0 := ⟨⟨tb_1 (List.mem_of_getElem? (i := 1) rfl) rfl, tb_5 (List.mem_of_getElem? (i := 45) rfl) rfl, by decide +kernel⟩, tb_5 (List.mem_of_getElem? (i := 43) rfl) rfl, tb_5 (List.mem_of_getElem? (i := 44) rfl) rfl⟩
theorem mX3_shortestRing : mthV miX3_shortestRing 1 := ⟨⟨tb_1 (List.mem_of_getElem? (i := 11) rfl) rfl, tb_5 (List.mem_of_getElem? (i := 49) rfl) rfl, by decide +kernel⟩, tb_5 (List.mem_of_getElem? (i := 47) rfl) rfl, tb_5 (List.mem_of_getElem? (i := 48) rfl) rfl⟩
theorem mX3_findHolders : mthV miX3_findHolders 2 := ⟨⟨tb_1 (List.mem_of_getElem? (i := 11) rfl) rfl, tb_5 (List.mem_of_getElem? (i := 53) rfl) rfl, by decide +kernel⟩, tb_5 (List.mem_of_getElem? (i := 52) rfl) rfl, tb_s (lw_in2 (List.mem_of_getElem? (i := 1) rfl)) rfl⟩
theorem mX3_ringFrom : mthV miX3_ringFrom 2 := ⟨⟨tb_1 (List.mem_of_getElem? (i := 11) rfl) rfl, tb_5 (List.mem_of_getElem? (i := 58) rfl) rfl, by decide +kernel⟩, tb_5 (List.mem_of_getElem? (i := 57) rfl) rfl, tb_s (lw_in2 (List.mem_of_getElem? (i := 2) rfl)) rfl⟩
theorem mX3_holdersOfAll : mthV miX3_holdersOfAll 2 := ⟨⟨tb_1 (List.mem_of_getElem? (i := 11) rfl) rfl, tb_5 (List.mem_of_getElem? (i := 62) rfl) rfl, by decide +kernel⟩, tb_5 (List.mem_of_getElem? (i := 61) rfl) rfl, tb_s (lw_in2 (List.mem_of_getElem? (i := 3) rfl)) rfl⟩
theorem mX11_loosen : mthV miX11_loosen 0 := ⟨⟨tb_1 (List.mem_of_getElem? (i := 1) rfl) rfl, tb_5 (List.mem_of_getElem? (i := 66) rfl) rfl, by decide +kernel⟩, tb_5 (List.mem_of_getElem? (i := 64) rfl) rfl, tb_5 (List.mem_of_getElem? (i := 65) rfl) rfl⟩
theorem mX3_fewestHolds : mthV miX3_fewestHolds 1 := ⟨⟨tb_1 (List.mem_of_getElem? (i := 11) rfl) rfl, tb_5 (List.mem_of_getElem? (i := 70) rfl) rfl, by decide +kernel⟩, tb_5 (List.mem_of_getElem? (i := 68) rfl) rfl, tb_5 (List.mem_of_getElem? (i := 69) rfl) rfl⟩
theorem mX3_isFreeWithout : mthV miX3_isFreeWithout 2 := ⟨⟨tb_1 (List.mem_of_getElem? (i := 11) rfl) rfl, tb_5 (List.mem_of_getElem? (i := 74) rfl) rfl, by decide +kernel⟩, tb_5 (List.mem_of_getElem? (i := 73) rfl) rfl, tb_s (lw_in2 (List.mem_of_getElem? (i := 4) rfl)) rfl⟩
theorem mX11_loosenSet : mthV miX11_loosenSet 0 := ⟨⟨tb_1 (List.mem_of_getElem? (i := 1) rfl) rfl, tb_5 (List.mem_of_getElem? (i := 78) rfl) rfl, by decide +kernel⟩, tb_5 (List.mem_of_getElem? (i := 76) rfl) rfl, tb_5 (List.mem_of_getElem? (i := 77) rfl) rfl⟩
theorem mX11_waiting : mthV miX11_waiting 0 := ⟨⟨tb_1 (List.mem_of_getElem? (i := 1) rfl) rfl, tb_5 (List.mem_of_getElem? (i := 82) rfl) rfl, by decide +kernel⟩, tb_5 (List.mem_of_getElem? (i := 80) rfl) rfl, tb_5 (List.mem_of_getElem? (i := 81) rfl) rfl⟩
theorem mX3_leastWaiting : mthV miX3_leastWaiting 1 := ⟨⟨tb_1 (List.mem_of_getElem? (i := 11) rfl) rfl, tb_5 (List.mem_of_getElem? (i := 86) rfl) rfl, by decide +kernel⟩, tb_5 (List.mem_of_getElem? (i := 84) rfl) rfl, tb_5 (List.mem_of_getElem? (i := 85) rfl) rfl⟩
theorem mX3_weightFor : mthS miX3_weightFor 2 := ⟨⟨tb_1 (List.mem_of_getElem? (i := 11) rfl) rfl, tb_5 (List.mem_of_getElem? (i := 90) rfl) rfl, by decide +kernel⟩, tb_5 (List.mem_of_getElem? (i := 89) rfl) rfl⟩
theorem mX3_waitsWith : mthV miX3_waitsWith 3 := ⟨⟨tb_1 (List.mem_of_getElem? (i := 11) rfl) rfl, tb_5 (List.mem_of_getElem? (i := 95) rfl) rfl, by decide +kernel⟩, tb_5 (List.mem_of_getElem? (i := 94) rfl) rfl, tb_s (lw_in2 (List.mem_of_getElem? (i := 5) rfl)) rfl⟩
theorem mX11_orderAt : mthV miX11_orderAt 1 := ⟨⟨tb_1 (List.mem_of_getElem? (i := 1) rfl) rfl, tb_5 (List.mem_of_getElem? (i := 99) rfl) rfl, by decide +kernel⟩, tb_5 (List.mem_of_getElem? (i := 97) rfl) rfl, tb_5 (List.mem_of_getElem? (i := 98) rfl) rfl⟩
theorem mX3_decidedAt : mthV miX3_decidedAt 2 := ⟨⟨tb_1 (List.mem_of_getElem? (i := 11) rfl) rfl, tb_5 (List.mem_of_getElem? (i := 103) rfl) rfl, by decide +kernel⟩, tb_5 (List.mem_of_getElem? (i := 101) rfl) rfl, tb_5 (List.mem_of_getElem? (i := 102) rfl) rfl⟩
theorem mX3_nextDecided : mthV miX3_nextDecided 2 := ⟨⟨tb_1 (List.mem_of_getElem? (i := 11) rfl) rfl, tb_5 (List.mem_of_getElem? (i := 107) rfl) rfl, by decide +kernel⟩, tb_5 (List.mem_of_getElem? (i := 106) rfl) rfl, tb_s (lw_in2 (List.mem_of_getElem? (i := 6) rfl)) rfl⟩
theorem mX11_round : mthV miX11_round 1 := ⟨⟨tb_1 (List.mem_of_getElem? (i := 1) rfl) rfl, tb_5 (List.mem_of_getElem? (i := 111) rfl) rfl, by decide +kernel⟩, tb_5 (List.mem_of_getElem? (i := 109) rfl) rfl, tb_5 (List.mem_of_getElem? (i := 110) rfl) rfl⟩
theorem mX3_shortestRound : mthV miX3_shortestRound 2 := ⟨⟨tb_1 (List.mem_of_getElem? (i := 11) rfl) rfl, tb_5 (List.mem_of_getElem? (i := 115) rfl) rfl, by decide +kernel⟩, tb_5 (List.mem_of_getElem? (i := 113) rfl) rfl, tb_5 (List.mem_of_getElem? (i := 114) rfl) rfl⟩
theorem mX3_wayTo : mthS miX3_wayTo 2 := ⟨⟨tb_1 (List.mem_of_getElem? (i := 11) rfl) rfl, tb_5 (List.mem_of_getElem? (i := 118) rfl) rfl, by decide +kernel⟩, tb_5 (List.mem_of_getElem? (i := 117) rfl) rfl⟩
theorem mJ9_abs_0f7a4 : mthS miJ9_abs_0f7a4 1 := ⟨⟨tb_1 (List.mem_of_getElem? (i := 15) rfl) rfl, tb_5 (List.mem_of_getElem? (i := 121) rfl) rfl, by decide +kernel⟩, tb_5 (List.mem_of_getElem? (i := 120) rfl) rfl⟩
theorem mX3_goOn : mthV miX3_goOn 4 := ⟨⟨tb_1 (List.mem_of_getElem? (i := 11) rfl) rfl, tb_5 (List.mem_of_getElem? (i := 125) rfl) rfl, by decide +kernel⟩, tb_5 (List.mem_of_getElem? (i := 124) rfl) rfl, tb_s (lw_in2 (List.mem_of_getElem? (i := 7) rfl)) rfl⟩
theorem mX11_out : mthV miX11_out 3 := ⟨⟨tb_1 (List.mem_of_getElem? (i := 1) rfl) rfl, tb_5 (List.mem_of_getElem? (i := 129) rfl) rfl, by decide +kernel⟩, tb_5 (List.mem_of_getElem? (i := 127) rfl) rfl, tb_5 (List.mem_of_getElem? (i := 128) rfl) rfl⟩
theorem mX11_whyNotOut : mthV miX11_whyNotOut 3 := ⟨⟨tb_1 (List.mem_of_getElem? (i := 1) rfl) rfl, tb_5 (List.mem_of_getElem? (i := 133) rfl) rfl, by decide +kernel⟩, tb_5 (List.mem_of_getElem? (i := 132) rfl) rfl, tb_s (lw_in2 (List.mem_of_getElem? (i := 8) rfl)) rfl⟩
theorem mX5_whyNoTwos : mthV miX5_whyNoTwos 2 := ⟨⟨tb_1 (List.mem_of_getElem? (i := 2) rfl) rfl, tb_5 (List.mem_of_getElem? (i := 137) rfl) rfl, by decide +kernel⟩, tb_5 (List.mem_of_getElem? (i := 135) rfl) rfl, tb_5 (List.mem_of_getElem? (i := 136) rfl) rfl⟩
theorem mX0_fitting : mthV miX0_fitting 4 := ⟨⟨tb_1 (List.mem_of_getElem? (i := 10) rfl) rfl, tb_5 (List.mem_of_getElem? (i := 143) rfl) rfl, by decide +kernel⟩, tb_5 (List.mem_of_getElem? (i := 141) rfl) rfl, tb_5 (List.mem_of_getElem? (i := 142) rfl) rfl⟩
theorem mX11_ask : mthV miX11_ask 3 := ⟨⟨tb_1 (List.mem_of_getElem? (i := 1) rfl) rfl, tb_5 (List.mem_of_getElem? (i := 147) rfl) rfl, by decide +kernel⟩, tb_5 (List.mem_of_getElem? (i := 145) rfl) rfl, tb_5 (List.mem_of_getElem? (i := 146) rfl) rfl⟩
theorem mX0_partingDays : mthV miX0_partingDays 3 := ⟨⟨tb_1 (List.mem_of_getElem? (i := 10) rfl) rfl, tb_5 (List.mem_of_getElem? (i := 151) rfl) rfl, by decide +kernel⟩, tb_5 (List.mem_of_getElem? (i := 149) rfl) rfl, tb_5 (List.mem_of_getElem? (i := 150) rfl) rfl⟩
theorem mX0_largestCrowd : mthV miX0_largestCrowd 3 := ⟨⟨tb_1 (List.mem_of_getElem? (i := 10) rfl) rfl, tb_5 (List.mem_of_getElem? (i := 155) rfl) rfl, by decide +kernel⟩, tb_5 (List.mem_of_getElem? (i := 154) rfl) rfl, tb_s (lw_in2 (List.mem_of_getElem? (i := 9) rfl)) rfl⟩
theorem mX11_laws : mthV miX11_laws 2 := ⟨⟨tb_1 (List.mem_of_getElem? (i := 1) rfl) rfl, tb_5 (List.mem_of_getElem? (i := 160) rfl) rfl, by decide +kernel⟩, tb_5 (List.mem_of_getElem? (i := 158) rfl) rfl, tb_5 (List.mem_of_getElem? (i := 159) rfl) rfl⟩
theorem mX0_lawCount : mthS miX0_lawCount 2 := ⟨⟨tb_1 (List.mem_of_getElem? (i := 10) rfl) rfl, tb_5 (List.mem_of_getElem? (i := 163) rfl) rfl, by decide +kernel⟩, tb_5 (List.mem_of_getElem? (i := 162) rfl) rfl⟩
theorem mX0_isLaw : mthS miX0_isLaw 4 := ⟨⟨tb_1 (List.mem_of_getElem? (i := 10) rfl) rfl, tb_5 (List.mem_of_getElem? (i := 166) rfl) rfl, by decide +kernel⟩, tb_5 (List.mem_of_getElem? (i := 165) rfl) rfl⟩
theorem mX11_lawOf : mthV miX11_lawOf 3 := ⟨⟨tb_1 (List.mem_of_getElem? (i := 1) rfl) rfl, tb_5 (List.mem_of_getElem? (i := 171) rfl) rfl, by decide +kernel⟩, tb_5 (List.mem_of_getElem? (i := 169) rfl) rfl, tb_5 (List.mem_of_getElem? (i := 170) rfl) rfl⟩
theorem mX0_firstLaw : mthS miX0_firstLaw 2 := ⟨⟨tb_1 (List.mem_of_getElem? (i := 10) rfl) rfl, tb_5 (List.mem_of_getElem? (i := 174) rfl) rfl, by decide +kernel⟩, tb_5 (List.mem_of_getElem? (i := 173) rfl) rfl⟩
theorem mX11_off : mthV miX11_off 2 := ⟨⟨tb_1 (List.mem_of_getElem? (i := 1) rfl) rfl, tb_5 (List.mem_of_getElem? (i := 178) rfl) rfl, by decide +kernel⟩, tb_5 (List.mem_of_getElem? (i := 176) rfl) rfl, tb_5 (List.mem_of_getElem? (i := 177) rfl) rfl⟩
theorem mX11_isOffCase : mthS miX11_isOffCase 2 := ⟨⟨tb_1 (List.mem_of_getElem? (i := 1) rfl) rfl, tb_5 (List.mem_of_getElem? (i := 181) rfl) rfl, by decide +kernel⟩, tb_5 (List.mem_of_getElem? (i := 180) rfl) rfl⟩
theorem mX11_offCost : mthV miX11_offCost 2 := ⟨⟨tb_1 (List.mem_of_getElem? (i := 1) rfl) rfl, tb_5 (List.mem_of_getElem? (i := 185) rfl) rfl, by decide +kernel⟩, tb_5 (List.mem_of_getElem? (i := 184) rfl) rfl, tb_s (lw_in2 (List.mem_of_getElem? (i := 10) rfl)) rfl⟩
theorem mX11_powerOf16 : mthS miX11_powerOf16 1 := ⟨⟨tb_1 (List.mem_of_getElem? (i := 1) rfl) rfl, tb_5 (List.mem_of_getElem? (i := 188) rfl) rfl, by decide +kernel⟩, tb_5 (List.mem_of_getElem? (i := 187) rfl) rfl⟩
theorem mJ9_min_f86c9 : mthS miJ9_min_f86c9 2 := ⟨⟨tb_1 (List.mem_of_getElem? (i := 15) rfl) rfl, tb_5 (List.mem_of_getElem? (i := 191) rfl) rfl, by decide +kernel⟩, tb_5 (List.mem_of_getElem? (i := 190) rfl) rfl⟩
theorem mX11_tellFraction : mthV miX11_tellFraction 2 := ⟨⟨tb_1 (List.mem_of_getElem? (i := 1) rfl) rfl, tb_5 (List.mem_of_getElem? (i := 195) rfl) rfl, by decide +kernel⟩, tb_5 (List.mem_of_getElem? (i := 194) rfl) rfl, tb_s (lw_in2 (List.mem_of_getElem? (i := 11) rfl)) rfl⟩
theorem mX11_commonDivisor : mthS miX11_commonDivisor 2 := ⟨⟨tb_1 (List.mem_of_getElem? (i := 1) rfl) rfl, tb_5 (List.mem_of_getElem? (i := 198) rfl) rfl, by decide +kernel⟩, tb_5 (List.mem_of_getElem? (i := 197) rfl) rfl⟩
theorem mX11_stay : mthV miX11_stay 2 := ⟨⟨tb_1 (List.mem_of_getElem? (i := 1) rfl) rfl, tb_5 (List.mem_of_getElem? (i := 202) rfl) rfl, by decide +kernel⟩, tb_5 (List.mem_of_getElem? (i := 200) rfl) rfl, tb_5 (List.mem_of_getElem? (i := 201) rfl) rfl⟩
theorem mX11_game : mthV miX11_game 3 := ⟨⟨tb_1 (List.mem_of_getElem? (i := 1) rfl) rfl, tb_5 (List.mem_of_getElem? (i := 206) rfl) rfl, by decide +kernel⟩, tb_5 (List.mem_of_getElem? (i := 204) rfl) rfl, tb_5 (List.mem_of_getElem? (i := 205) rfl) rfl⟩
theorem mX1_valueOf : mthV miX1_valueOf 4 := ⟨⟨tb_1 (List.mem_of_getElem? (i := 12) rfl) rfl, tb_5 (List.mem_of_getElem? (i := 210) rfl) rfl, by decide +kernel⟩, tb_5 (List.mem_of_getElem? (i := 208) rfl) rfl, tb_5 (List.mem_of_getElem? (i := 209) rfl) rfl⟩
theorem mX1_begin : mthV miX1_begin 3 := ⟨⟨tb_1 (List.mem_of_getElem? (i := 12) rfl) rfl, tb_5 (List.mem_of_getElem? (i := 214) rfl) rfl, by decide +kernel⟩, tb_5 (List.mem_of_getElem? (i := 213) rfl) rfl, tb_s (lw_in2 (List.mem_of_getElem? (i := 12) rfl)) rfl⟩
theorem mX1_best : mthV miX1_best 4 := ⟨⟨tb_1 (List.mem_of_getElem? (i := 12) rfl) rfl, tb_5 (List.mem_of_getElem? (i := 219) rfl) rfl, by decide +kernel⟩, tb_5 (List.mem_of_getElem? (i := 218) rfl) rfl, tb_s (lw_in2 (List.mem_of_getElem? (i := 13) rfl)) rfl⟩
theorem mX1_heightOf : mthV miX1_heightOf 2 := ⟨⟨tb_1 (List.mem_of_getElem? (i := 12) rfl) rfl, tb_5 (List.mem_of_getElem? (i := 223) rfl) rfl, by decide +kernel⟩, tb_5 (List.mem_of_getElem? (i := 222) rfl) rfl, tb_s (lw_in2 (List.mem_of_getElem? (i := 14) rfl)) rfl⟩
theorem mX1_canCome : mthV miX1_canCome 3 := ⟨⟨tb_1 (List.mem_of_getElem? (i := 12) rfl) rfl, tb_5 (List.mem_of_getElem? (i := 228) rfl) rfl, by decide +kernel⟩, tb_5 (List.mem_of_getElem? (i := 227) rfl) rfl, tb_s (lw_in2 (List.mem_of_getElem? (i := 15) rfl)) rfl⟩
theorem mX1_behind : mthV miX1_behind 5 := ⟨⟨tb_1 (List.mem_of_getElem? (i := 12) rfl) rfl, tb_5 (List.mem_of_getElem? (i := 232) rfl) rfl, by decide +kernel⟩, tb_5 (List.mem_of_getElem? (i := 231) rfl) rfl, tb_s (lw_in3 (List.mem_of_getElem? (i := 0) rfl)) rfl⟩
theorem mX11_moveOf : mthV miX11_moveOf 3 := ⟨⟨tb_1 (List.mem_of_getElem? (i := 1) rfl) rfl, tb_5 (List.mem_of_getElem? (i := 238) rfl) rfl, by decide +kernel⟩, tb_5 (List.mem_of_getElem? (i := 236) rfl) rfl, tb_5 (List.mem_of_getElem? (i := 237) rfl) rfl⟩
theorem mX1_firstNews : mthV miX1_firstNews 4 := ⟨⟨tb_1 (List.mem_of_getElem? (i := 12) rfl) rfl, tb_6 (List.mem_of_getElem? (i := 2) rfl) rfl, by decide +kernel⟩, tb_6 (List.mem_of_getElem? (i := 0) rfl) rfl, tb_6 (List.mem_of_getElem? (i := 1) rfl) rfl⟩
theorem mX11_lasts : mthV miX11_lasts 1 := ⟨⟨tb_1 (List.mem_of_getElem? (i := 1) rfl) rfl, tb_6 (List.mem_of_getElem? (i := 6) rfl) rfl, by decide +kernel⟩, tb_6 (List.mem_of_getElem? (i := 4) rfl) rfl, tb_6 (List.mem_of_getElem? (i := 5) rfl) rfl⟩
theorem mX11_share : mthV miX11_share 1 := ⟨⟨tb_1 (List.mem_of_getElem? (i := 1) rfl) rfl, tb_6 (List.mem_of_getElem? (i := 10) rfl) rfl, by decide +kernel⟩, tb_6 (List.mem_of_getElem? (i := 8) rfl) rfl, tb_6 (List.mem_of_getElem? (i := 9) rfl) rfl⟩
theorem mX6_heightsTogether : mthV miX6_heightsTogether 0 := ⟨⟨tb_1 (List.mem_of_getElem? (i := 7) rfl) rfl, tb_6 (List.mem_of_getElem? (i := 14) rfl) rfl, by decide +kernel⟩, tb_6 (List.mem_of_getElem? (i := 12) rfl) rfl, tb_6 (List.mem_of_getElem? (i := 13) rfl) rfl⟩
theorem mX11_live : mthV miX11_live 1 := ⟨⟨tb_1 (List.mem_of_getElem? (i := 1) rfl) rfl, tb_6 (List.mem_of_getElem? (i := 19) rfl) rfl, by decide +kernel⟩, tb_6 (List.mem_of_getElem? (i := 17) rfl) rfl, tb_6 (List.mem_of_getElem? (i := 18) rfl) rfl⟩
theorem mX2_runThrough : mthV miX2_runThrough 2 := ⟨⟨tb_1 (List.mem_of_getElem? (i := 9) rfl) rfl, tb_6 (List.mem_of_getElem? (i := 23) rfl) rfl, by decide +kernel⟩, tb_6 (List.mem_of_getElem? (i := 21) rfl) rfl, tb_6 (List.mem_of_getElem? (i := 22) rfl) rfl⟩
theorem mX2_passEnd : mthV miX2_passEnd 1 := ⟨⟨tb_1 (List.mem_of_getElem? (i := 9) rfl) rfl, tb_6 (List.mem_of_getElem? (i := 28) rfl) rfl, by decide +kernel⟩, tb_6 (List.mem_of_getElem? (i := 27) rfl) rfl, tb_s (lw_in3 (List.mem_of_getElem? (i := 1) rfl)) rfl⟩
theorem mX2_doStep : mthV miX2_doStep 2 := ⟨⟨tb_1 (List.mem_of_getElem? (i := 9) rfl) rfl, tb_6 (List.mem_of_getElem? (i := 32) rfl) rfl, by decide +kernel⟩, tb_6 (List.mem_of_getElem? (i := 31) rfl) rfl, tb_s (lw_in3 (List.mem_of_getElem? (i := 2) rfl)) rfl⟩
theorem mX2_doDays : mthV miX2_doDays 2 := ⟨⟨tb_1 (List.mem_of_getElem? (i := 9) rfl) rfl, tb_6 (List.mem_of_getElem? (i := 36) rfl) rfl, by decide +kernel⟩, tb_6 (List.mem_of_getElem? (i := 35) rfl) rfl, tb_s (lw_in3 (List.mem_of_getElem? (i := 3) rfl)) rfl⟩
theorem mX2_doBring : mthV miX2_doBring 2 := ⟨⟨tb_1 (List.mem_of_getElem? (i := 9) rfl) rfl, tb_6 (List.mem_of_getElem? (i := 42) rfl) rfl, by decide +kernel⟩, tb_6 (List.mem_of_getElem? (i := 41) rfl) rfl, tb_s (lw_in3 (List.mem_of_getElem? (i := 4) rfl)) rfl⟩
theorem mX2_doCrisis : mthV miX2_doCrisis 3 := ⟨⟨tb_1 (List.mem_of_getElem? (i := 9) rfl) rfl, tb_6 (List.mem_of_getElem? (i := 48) rfl) rfl, by decide +kernel⟩, tb_6 (List.mem_of_getElem? (i := 47) rfl) rfl, tb_s (lw_in3 (List.mem_of_getElem? (i := 5) rfl)) rfl⟩
theorem mX2_doTurn : mthV miX2_doTurn 3 := ⟨⟨tb_1 (List.mem_of_getElem? (i := 9) rfl) rfl, tb_6 (List.mem_of_getElem? (i := 54) rfl) rfl, by decide +kernel⟩, tb_6 (List.mem_of_getElem? (i := 53) rfl) rfl, tb_s (lw_in3 (List.mem_of_getElem? (i := 6) rfl)) rfl⟩
theorem mX2_doAny : mthV miX2_doAny 1 := ⟨⟨tb_1 (List.mem_of_getElem? (i := 9) rfl) rfl, tb_6 (List.mem_of_getElem? (i := 59) rfl) rfl, by decide +kernel⟩, tb_6 (List.mem_of_getElem? (i := 58) rfl) rfl, tb_s (lw_in3 (List.mem_of_getElem? (i := 7) rfl)) rfl⟩
theorem mX2_draw : mthV miX2_draw 1 := ⟨⟨tb_1 (List.mem_of_getElem? (i := 9) rfl) rfl, tb_6 (List.mem_of_getElem? (i := 63) rfl) rfl, by decide +kernel⟩, tb_6 (List.mem_of_getElem? (i := 62) rfl) rfl, tb_s (lw_in3 (List.mem_of_getElem? (i := 8) rfl)) rfl⟩
theorem mX2_isSo : mthS miX2_isSo 3 := ⟨⟨tb_1 (List.mem_of_getElem? (i := 9) rfl) rfl, tb_6 (List.mem_of_getElem? (i := 67) rfl) rfl, by decide +kernel⟩, tb_6 (List.mem_of_getElem? (i := 66) rfl) rfl⟩
theorem mX2_copyCounts : mthV miX2_copyCounts 1 := ⟨⟨tb_1 (List.mem_of_getElem? (i := 9) rfl) rfl, tb_6 (List.mem_of_getElem? (i := 72) rfl) rfl, by decide +kernel⟩, tb_6 (List.mem_of_getElem? (i := 70) rfl) rfl, tb_6 (List.mem_of_getElem? (i := 71) rfl) rfl⟩
theorem mX11_lived : mthV miX11_lived 1 := ⟨⟨tb_1 (List.mem_of_getElem? (i := 1) rfl) rfl, tb_6 (List.mem_of_getElem? (i := 76) rfl) rfl, by decide +kernel⟩, tb_6 (List.mem_of_getElem? (i := 74) rfl) rfl, tb_6 (List.mem_of_getElem? (i := 75) rfl) rfl⟩
theorem mX11_mean : mthV miX11_mean 2 := ⟨⟨tb_1 (List.mem_of_getElem? (i := 1) rfl) rfl, tb_6 (List.mem_of_getElem? (i := 80) rfl) rfl, by decide +kernel⟩, tb_6 (List.mem_of_getElem? (i := 78) rfl) rfl, tb_6 (List.mem_of_getElem? (i := 79) rfl) rfl⟩
theorem mX11_mark : mthV miX11_mark 0 := ⟨⟨tb_1 (List.mem_of_getElem? (i := 1) rfl) rfl, tb_6 (List.mem_of_getElem? (i := 84) rfl) rfl, by decide +kernel⟩, tb_6 (List.mem_of_getElem? (i := 82) rfl) rfl, tb_6 (List.mem_of_getElem? (i := 83) rfl) rfl⟩
theorem mX11_back : mthV miX11_back 0 := ⟨⟨tb_1 (List.mem_of_getElem? (i := 1) rfl) rfl, tb_6 (List.mem_of_getElem? (i := 88) rfl) rfl, by decide +kernel⟩, tb_6 (List.mem_of_getElem? (i := 86) rfl) rfl, tb_6 (List.mem_of_getElem? (i := 87) rfl) rfl⟩
theorem mX12_empties : mthV miX12_empties 1 := ⟨⟨tb_1 (List.mem_of_getElem? (i := 13) rfl) rfl, tb_6 (List.mem_of_getElem? (i := 98) rfl) rfl, by decide +kernel⟩, tb_6 (List.mem_of_getElem? (i := 97) rfl) rfl, tb_s (lw_in3 (List.mem_of_getElem? (i := 9) rfl)) rfl⟩
theorem mX12_status : mthV miX12_status 0 := ⟨⟨tb_1 (List.mem_of_getElem? (i := 13) rfl) rfl, tb_7 (List.mem_of_getElem? (i := 4) rfl) rfl, by decide +kernel⟩, tb_7 (List.mem_of_getElem? (i := 2) rfl) rfl, tb_7 (List.mem_of_getElem? (i := 3) rfl) rfl⟩
theorem mX12_top : mthV miX12_top 0 := ⟨⟨tb_1 (List.mem_of_getElem? (i := 13) rfl) rfl, tb_7 (List.mem_of_getElem? (i := 8) rfl) rfl, by decide +kernel⟩, tb_7 (List.mem_of_getElem? (i := 6) rfl) rfl, tb_7 (List.mem_of_getElem? (i := 7) rfl) rfl⟩
theorem mX12_bottom : mthV miX12_bottom 0 := ⟨⟨tb_1 (List.mem_of_getElem? (i := 13) rfl) rfl, tb_7 (List.mem_of_getElem? (i := 12) rfl) rfl, by decide +kernel⟩, tb_7 (List.mem_of_getElem? (i := 10) rfl) rfl, tb_7 (List.mem_of_getElem? (i := 11) rfl) rfl⟩
theorem mX12_tray : mthV miX12_tray 3 := ⟨⟨tb_1 (List.mem_of_getElem? (i := 13) rfl) rfl, tb_7 (List.mem_of_getElem? (i := 16) rfl) rfl, by decide +kernel⟩, tb_7 (List.mem_of_getElem? (i := 14) rfl) rfl, tb_7 (List.mem_of_getElem? (i := 15) rfl) rfl⟩
theorem mX12_no : mthV miX12_no 1 := ⟨⟨tb_1 (List.mem_of_getElem? (i := 13) rfl) rfl, tb_7 (List.mem_of_getElem? (i := 20) rfl) rfl, by decide +kernel⟩, tb_7 (List.mem_of_getElem? (i := 19) rfl) rfl, tb_s (lw_in3 (List.mem_of_getElem? (i := 10) rfl)) rfl⟩
theorem mX12_write : mthV miX12_write 3 := ⟨⟨tb_1 (List.mem_of_getElem? (i := 13) rfl) rfl, tb_7 (List.mem_of_getElem? (i := 24) rfl) rfl, by decide +kernel⟩, tb_7 (List.mem_of_getElem? (i := 22) rfl) rfl, tb_7 (List.mem_of_getElem? (i := 23) rfl) rfl⟩
theorem mX12_placed : mthV miX12_placed 2 := ⟨⟨tb_1 (List.mem_of_getElem? (i := 13) rfl) rfl, tb_7 (List.mem_of_getElem? (i := 28) rfl) rfl, by decide +kernel⟩, tb_7 (List.mem_of_getElem? (i := 27) rfl) rfl, tb_s (lw_in3 (List.mem_of_getElem? (i := 11) rfl)) rfl⟩
theorem mX12_trayed : mthV miX12_trayed 1 := ⟨⟨tb_1 (List.mem_of_getElem? (i := 13) rfl) rfl, tb_7 (List.mem_of_getElem? (i := 32) rfl) rfl, by decide +kernel⟩, tb_7 (List.mem_of_getElem? (i := 31) rfl) rfl, tb_s (lw_in3 (List.mem_of_getElem? (i := 12) rfl)) rfl⟩
theorem mX12_cut : mthS miX12_cut 2 := ⟨⟨tb_1 (List.mem_of_getElem? (i := 13) rfl) rfl, tb_7 (List.mem_of_getElem? (i := 35) rfl) rfl, by decide +kernel⟩, tb_7 (List.mem_of_getElem? (i := 34) rfl) rfl⟩
theorem mX12_read : mthV miX12_read 2 := ⟨⟨tb_1 (List.mem_of_getElem? (i := 13) rfl) rfl, tb_7 (List.mem_of_getElem? (i := 39) rfl) rfl, by decide +kernel⟩, tb_7 (List.mem_of_getElem? (i := 37) rfl) rfl, tb_7 (List.mem_of_getElem? (i := 38) rfl) rfl⟩
theorem mX12_pour : mthV miX12_pour 5 := ⟨⟨tb_1 (List.mem_of_getElem? (i := 13) rfl) rfl, tb_7 (List.mem_of_getElem? (i := 44) rfl) rfl, by decide +kernel⟩, tb_7 (List.mem_of_getElem? (i := 42) rfl) rfl, tb_7 (List.mem_of_getElem? (i := 43) rfl) rfl⟩
theorem mX12_feed : mthV miX12_feed 5 := ⟨⟨tb_1 (List.mem_of_getElem? (i := 13) rfl) rfl, tb_7 (List.mem_of_getElem? (i := 48) rfl) rfl, by decide +kernel⟩, tb_7 (List.mem_of_getElem? (i := 46) rfl) rfl, tb_7 (List.mem_of_getElem? (i := 47) rfl) rfl⟩
theorem mX12_lay : mthV miX12_lay 1 := ⟨⟨tb_1 (List.mem_of_getElem? (i := 13) rfl) rfl, tb_7 (List.mem_of_getElem? (i := 52) rfl) rfl, by decide +kernel⟩, tb_7 (List.mem_of_getElem? (i := 51) rfl) rfl, tb_s (lw_in3 (List.mem_of_getElem? (i := 13) rfl)) rfl⟩
theorem mX12_fault : mthV miX12_fault 1 := ⟨⟨tb_1 (List.mem_of_getElem? (i := 13) rfl) rfl, tb_7 (List.mem_of_getElem? (i := 56) rfl) rfl, by decide +kernel⟩, tb_7 (List.mem_of_getElem? (i := 54) rfl) rfl, tb_7 (List.mem_of_getElem? (i := 55) rfl) rfl⟩
theorem mX12_wood : mthV miX12_wood 1 := ⟨⟨tb_1 (List.mem_of_getElem? (i := 13) rfl) rfl, tb_7 (List.mem_of_getElem? (i := 60) rfl) rfl, by decide +kernel⟩, tb_7 (List.mem_of_getElem? (i := 58) rfl) rfl, tb_7 (List.mem_of_getElem? (i := 59) rfl) rfl⟩
theorem mX12_starts : mthV miX12_starts 2 := ⟨⟨tb_1 (List.mem_of_getElem? (i := 13) rfl) rfl, tb_7 (List.mem_of_getElem? (i := 64) rfl) rfl, by decide +kernel⟩, tb_7 (List.mem_of_getElem? (i := 63) rfl) rfl, tb_s (lw_in3 (List.mem_of_getElem? (i := 14) rfl)) rfl⟩
theorem mX12_advance : mthV miX12_advance 0 := ⟨⟨tb_1 (List.mem_of_getElem? (i := 13) rfl) rfl, tb_7 (List.mem_of_getElem? (i := 68) rfl) rfl, by decide +kernel⟩, tb_7 (List.mem_of_getElem? (i := 67) rfl) rfl, tb_s (lw_in3 (List.mem_of_getElem? (i := 15) rfl)) rfl⟩
theorem mX12_look2 : mthV miX12_look2 1 := ⟨⟨tb_1 (List.mem_of_getElem? (i := 13) rfl) rfl, tb_7 (List.mem_of_getElem? (i := 72) rfl) rfl, by decide +kernel⟩, tb_7 (List.mem_of_getElem? (i := 71) rfl) rfl, tb_s (lw_in4 (List.mem_of_getElem? (i := 0) rfl)) rfl⟩
theorem mX12_isLetter : mthS miX12_isLetter 1 := ⟨⟨tb_1 (List.mem_of_getElem? (i := 13) rfl) rfl, tb_7 (List.mem_of_getElem? (i := 75) rfl) rfl, by decide +kernel⟩, tb_7 (List.mem_of_getElem? (i := 74) rfl) rfl⟩
theorem mX12_isDigit : mthS miX12_isDigit 1 := ⟨⟨tb_1 (List.mem_of_getElem? (i := 13) rfl) rfl, tb_7 (List.mem_of_getElem? (i := 80) rfl) rfl, by decide +kernel⟩, tb_7 (List.mem_of_getElem? (i := 79) rfl) rfl⟩
theorem mX12_isSignByte : mthV miX12_isSignByte 1 := ⟨⟨tb_1 (List.mem_of_getElem? (i := 13) rfl) rfl, tb_7 (List.mem_of_getElem? (i := 84) rfl) rfl, by decide +kernel⟩, tb_7 (List.mem_of_getElem? (i := 83) rfl) rfl, tb_s (lw_in4 (List.mem_of_getElem? (i := 1) rfl)) rfl⟩
theorem mX12_readPart : mthV miX12_readPart 0 := ⟨⟨tb_1 (List.mem_of_getElem? (i := 13) rfl) rfl, tb_7 (List.mem_of_getElem? (i := 88) rfl) rfl, by decide +kernel⟩, tb_7 (List.mem_of_getElem? (i := 87) rfl) rfl, tb_s (lw_in4 (List.mem_of_getElem? (i := 2) rfl)) rfl⟩
theorem mX12_isOdds : mthV miX12_isOdds 0 := ⟨⟨tb_1 (List.mem_of_getElem? (i := 13) rfl) rfl, tb_7 (List.mem_of_getElem? (i := 92) rfl) rfl, by decide +kernel⟩, tb_7 (List.mem_of_getElem? (i := 91) rfl) rfl, tb_s (lw_in4 (List.mem_of_getElem? (i := 3) rfl)) rfl⟩
theorem mX12_spelled : mthS miX12_spelled 6 := ⟨⟨tb_1 (List.mem_of_getElem? (i := 13) rfl) rfl, tb_7 (List.mem_of_getElem? (i := 95) rfl) rfl, by decide +kernel⟩, tb_7 (List.mem_of_getElem? (i := 94) rfl) rfl⟩
theorem mX12_isWord : mthV miX12_isWord 1 := ⟨⟨tb_1 (List.mem_of_getElem? (i := 13) rfl) rfl, tb_7 (List.mem_of_getElem? (i := 99) rfl) rfl, by decide +kernel⟩, tb_7 (List.mem_of_getElem? (i := 98) rfl) rfl, tb_s (lw_in4 (List.mem_of_getElem? (i := 4) rfl)) rfl⟩
theorem mX12_readOdds : mthV miX12_readOdds 0 := ⟨⟨tb_1 (List.mem_of_getElem? (i := 13) rfl) rfl, tb_7 (List.mem_of_getElem? (i := 103) rfl) rfl, by decide +kernel⟩, tb_7 (List.mem_of_getElem? (i := 102) rfl) rfl, tb_s (lw_in4 (List.mem_of_getElem? (i := 5) rfl)) rfl⟩
theorem mX12_fail : mthV miX12_fail 2 := ⟨⟨tb_1 (List.mem_of_getElem? (i := 13) rfl) rfl, tb_7 (List.mem_of_getElem? (i := 107) rfl) rfl, by decide +kernel⟩, tb_7 (List.mem_of_getElem? (i := 106) rfl) rfl, tb_s (lw_in4 (List.mem_of_getElem? (i := 6) rfl)) rfl⟩
theorem mX12_must : mthV miX12_must 1 := ⟨⟨tb_1 (List.mem_of_getElem? (i := 13) rfl) rfl, tb_7 (List.mem_of_getElem? (i := 111) rfl) rfl, by decide +kernel⟩, tb_7 (List.mem_of_getElem? (i := 110) rfl) rfl, tb_s (lw_in4 (List.mem_of_getElem? (i := 7) rfl)) rfl⟩
theorem mX12_amiss : mthV miX12_amiss 0 := ⟨⟨tb_1 (List.mem_of_getElem? (i := 13) rfl) rfl, tb_7 (List.mem_of_getElem? (i := 115) rfl) rfl, by decide +kernel⟩, tb_7 (List.mem_of_getElem? (i := 114) rfl) rfl, tb_s (lw_in4 (List.mem_of_getElem? (i := 8) rfl)) rfl⟩
theorem mX12_count : mthV miX12_count 2 := ⟨⟨tb_1 (List.mem_of_getElem? (i := 13) rfl) rfl, tb_7 (List.mem_of_getElem? (i := 119) rfl) rfl, by decide +kernel⟩, tb_7 (List.mem_of_getElem? (i := 118) rfl) rfl, tb_s (lw_in4 (List.mem_of_getElem? (i := 9) rfl)) rfl⟩
theorem mX12_isIn : mthS miX12_isIn 3 := ⟨⟨tb_1 (List.mem_of_getElem? (i := 13) rfl) rfl, tb_7 (List.mem_of_getElem? (i := 122) rfl) rfl, by decide +kernel⟩, tb_7 (List.mem_of_getElem? (i := 121) rfl) rfl⟩
theorem mX12_isMatter : mthV miX12_isMatter 0 := ⟨⟨tb_1 (List.mem_of_getElem? (i := 13) rfl) rfl, tb_7 (List.mem_of_getElem? (i := 126) rfl) rfl, by decide +kernel⟩, tb_7 (List.mem_of_getElem? (i := 125) rfl) rfl, tb_s (lw_in4 (List.mem_of_getElem? (i := 10) rfl)) rfl⟩
theorem mX12_readMatter : mthV miX12_readMatter 0 := ⟨⟨tb_1 (List.mem_of_getElem? (i := 13) rfl) rfl, tb_7 (List.mem_of_getElem? (i := 130) rfl) rfl, by decide +kernel⟩, tb_7 (List.mem_of_getElem? (i := 129) rfl) rfl, tb_s (lw_in4 (List.mem_of_getElem? (i := 11) rfl)) rfl⟩
theorem mX12_readNew : mthV miX12_readNew 2 := ⟨⟨tb_1 (List.mem_of_getElem? (i := 13) rfl) rfl, tb_7 (List.mem_of_getElem? (i := 134) rfl) rfl, by decide +kernel⟩, tb_7 (List.mem_of_getElem? (i := 133) rfl) rfl, tb_s (lw_in4 (List.mem_of_getElem? (i := 12) rfl)) rfl⟩
theorem mX12_isName : mthV miX12_isName 0 := ⟨⟨tb_1 (List.mem_of_getElem? (i := 13) rfl) rfl, tb_7 (List.mem_of_getElem? (i := 138) rfl) rfl, by decide +kernel⟩, tb_7 (List.mem_of_getElem? (i := 137) rfl) rfl, tb_s (lw_in4 (List.mem_of_getElem? (i := 13) rfl)) rfl⟩
theorem mX12_isKept : mthV miX12_isKept 0 := ⟨⟨tb_1 (List.mem_of_getElem? (i := 13) rfl) rfl, tb_7 (List.mem_of_getElem? (i := 142) rfl) rfl, by decide +kernel⟩, tb_7 (List.mem_of_getElem? (i := 141) rfl) rfl, tb_s (lw_in4 (List.mem_of_getElem? (i := 14) rfl)) rfl⟩
theorem mX12_isPace : mthV miX12_isPace 0 := ⟨⟨tb_1 (List.mem_of_getElem? (i := 13) rfl) rfl, tb_7 (List.mem_of_getElem? (i := 146) rfl) rfl, by decide +kernel⟩, tb_7 (List.mem_of_getElem? (i := 145) rfl) rfl, tb_s (lw_in4 (List.mem_of_getElem? (i := 15) rfl)) rfl⟩
theorem mX12_isClearWord : mthV miX12_isClearWord 0 := ⟨⟨tb_1 (List.mem_of_getElem? (i := 13) rfl) rfl, tb_7 (List.mem_of_getElem? (i := 150) rfl) rfl, by decide +kernel⟩, tb_7 (List.mem_of_getElem? (i := 149) rfl) rfl, tb_s (lw_in5 (List.mem_of_getElem? (i := 0) rfl)) rfl⟩
theorem mX12_isHold : mthV miX12_isHold 0 := ⟨⟨tb_1 (List.mem_of_getElem? (i := 13) rfl) rfl, tb_7 (List.mem_of_getElem? (i := 154) rfl) rfl, by decide +kernel⟩, tb_7 (List.mem_of_getElem? (i := 153) rfl) rfl, tb_s (lw_in5 (List.mem_of_getElem? (i := 1) rfl)) rfl⟩
theorem mX12_isBy : mthV miX12_isBy 0 := ⟨⟨tb_1 (List.mem_of_getElem? (i := 13) rfl) rfl, tb_7 (List.mem_of_getElem? (i := 158) rfl) rfl, by decide +kernel⟩, tb_7 (List.mem_of_getElem? (i := 157) rfl) rfl, tb_s (lw_in5 (List.mem_of_getElem? (i := 2) rfl)) rfl⟩
theorem mX12_isSitter : mthV miX12_isSitter 0 := ⟨⟨tb_1 (List.mem_of_getElem? (i := 13) rfl) rfl, tb_7 (List.mem_of_getElem? (i := 162) rfl) rfl, by decide +kernel⟩, tb_7 (List.mem_of_getElem? (i := 161) rfl) rfl, tb_s (lw_in5 (List.mem_of_getElem? (i := 3) rfl)) rfl⟩
theorem mX12_isMile : mthV miX12_isMile 0 := ⟨⟨tb_1 (List.mem_of_getElem? (i := 13) rfl) rfl, tb_7 (List.mem_of_getElem? (i := 166) rfl) rfl, by decide +kernel⟩, tb_7 (List.mem_of_getElem? (i := 165) rfl) rfl, tb_s (lw_in5 (List.mem_of_getElem? (i := 4) rfl)) rfl⟩
theorem mX12_isTall : mthV miX12_isTall 0 := ⟨⟨tb_1 (List.mem_of_getElem? (i := 13) rfl) rfl, tb_7 (List.mem_of_getElem? (i := 170) rfl) rfl, by decide +kernel⟩, tb_7 (List.mem_of_getElem? (i := 169) rfl) rfl, tb_s (lw_in5 (List.mem_of_getElem? (i := 5) rfl)) rfl⟩
theorem mX12_isFor : mthV miX12_isFor 0 := ⟨⟨tb_1 (List.mem_of_getElem? (i := 13) rfl) rfl, tb_7 (List.mem_of_getElem? (i := 174) rfl) rfl, by decide +kernel⟩, tb_7 (List.mem_of_getElem? (i := 173) rfl) rfl, tb_s (lw_in5 (List.mem_of_getElem? (i := 6) rfl)) rfl⟩
theorem mX12_isWeight : mthV miX12_isWeight 0 := ⟨⟨tb_1 (List.mem_of_getElem? (i := 13) rfl) rfl, tb_7 (List.mem_of_getElem? (i := 178) rfl) rfl, by decide +kernel⟩, tb_7 (List.mem_of_getElem? (i := 177) rfl) rfl, tb_s (lw_in5 (List.mem_of_getElem? (i := 7) rfl)) rfl⟩
theorem mX12_isNews : mthV miX12_isNews 0 := ⟨⟨tb_1 (List.mem_of_getElem? (i := 13) rfl) rfl, tb_7 (List.mem_of_getElem? (i := 182) rfl) rfl, by decide +kernel⟩, tb_7 (List.mem_of_getElem? (i := 181) rfl) rfl, tb_s (lw_in5 (List.mem_of_getElem? (i := 8) rfl)) rfl⟩
theorem mX12_isSize : mthV miX12_isSize 0 := ⟨⟨tb_1 (List.mem_of_getElem? (i := 13) rfl) rfl, tb_7 (List.mem_of_getElem? (i := 186) rfl) rfl, by decide +kernel⟩, tb_7 (List.mem_of_getElem? (i := 185) rfl) rfl, tb_s (lw_in5 (List.mem_of_getElem? (i := 9) rfl)) rfl⟩
theorem mX12_stepWord : mthV miX12_stepWord 0 := ⟨⟨tb_1 (List.mem_of_getElem? (i := 13) rfl) rfl, tb_7 (List.mem_of_getElem? (i := 190) rfl) rfl, by decide +kernel⟩, tb_7 (List.mem_of_getElem? (i := 189) rfl) rfl, tb_s (lw_in5 (List.mem_of_getElem? (i := 10) rfl)) rfl⟩
theorem mX12_testWord : mthV miX12_testWord 0 := ⟨⟨tb_1 (List.mem_of_getElem? (i := 13) rfl) rfl, tb_7 (List.mem_of_getElem? (i := 194) rfl) rfl, by decide +kernel⟩, tb_7 (List.mem_of_getElem? (i := 193) rfl) rfl, tb_s (lw_in5 (List.mem_of_getElem? (i := 11) rfl)) rfl⟩
theorem mX12_isEnd : mthV miX12_isEnd 0 := ⟨⟨tb_1 (List.mem_of_getElem? (i := 13) rfl) rfl, tb_7 (List.mem_of_getElem? (i := 199) rfl) rfl, by decide +kernel⟩, tb_7 (List.mem_of_getElem? (i := 198) rfl) rfl, tb_s (lw_in5 (List.mem_of_getElem? (i := 12) rfl)) rfl⟩
theorem mX12_named : mthV miX12_named 2 := ⟨⟨tb_1 (List.mem_of_getElem? (i := 13) rfl) rfl, tb_7 (List.mem_of_getElem? (i := 203) rfl) rfl, by decide +kernel⟩, tb_7 (List.mem_of_getElem? (i := 202) rfl) rfl, tb_s (lw_in5 (List.mem_of_getElem? (i := 13) rfl)) rfl⟩
theorem mX12_behindWord : mthV miX12_behindWord 3 := ⟨⟨tb_1 (List.mem_of_getElem? (i := 13) rfl) rfl, tb_7 (List.mem_of_getElem? (i := 207) rfl) rfl, by decide +kernel⟩, tb_7 (List.mem_of_getElem? (i := 206) rfl) rfl, tb_s (lw_in5 (List.mem_of_getElem? (i := 14) rfl)) rfl⟩
theorem mX12_perhaps : mthV miX12_perhaps 1 := ⟨⟨tb_1 (List.mem_of_getElem? (i := 13) rfl) rfl, tb_7 (List.mem_of_getElem? (i := 211) rfl) rfl, by decide +kernel⟩, tb_7 (List.mem_of_getElem? (i := 210) rfl) rfl, tb_s (lw_in5 (List.mem_of_getElem? (i := 15) rfl)) rfl⟩
theorem mX12_readHold : mthV miX12_readHold 0 := ⟨⟨tb_1 (List.mem_of_getElem? (i := 13) rfl) rfl, tb_7 (List.mem_of_getElem? (i := 215) rfl) rfl, by decide +kernel⟩, tb_7 (List.mem_of_getElem? (i := 214) rfl) rfl, tb_s (lw_in6 (List.mem_of_getElem? (i := 0) rfl)) rfl⟩
theorem mX12_readTold : mthV miX12_readTold 2 := ⟨⟨tb_1 (List.mem_of_getElem? (i := 13) rfl) rfl, tb_7 (List.mem_of_getElem? (i := 219) rfl) rfl, by decide +kernel⟩, tb_7 (List.mem_of_getElem? (i := 218) rfl) rfl, tb_s (lw_in6 (List.mem_of_getElem? (i := 1) rfl)) rfl⟩
theorem mX12_told : mthV miX12_told 2 := ⟨⟨tb_1 (List.mem_of_getElem? (i := 13) rfl) rfl, tb_7 (List.mem_of_getElem? (i := 223) rfl) rfl, by decide +kernel⟩, tb_7 (List.mem_of_getElem? (i := 222) rfl) rfl, tb_s (lw_in6 (List.mem_of_getElem? (i := 2) rfl)) rfl⟩
theorem mX12_isBound : mthV miX12_isBound 3 := ⟨⟨tb_1 (List.mem_of_getElem? (i := 13) rfl) rfl, tb_7 (List.mem_of_getElem? (i := 228) rfl) rfl, by decide +kernel⟩, tb_7 (List.mem_of_getElem? (i := 227) rfl) rfl, tb_s (lw_in6 (List.mem_of_getElem? (i := 3) rfl)) rfl⟩
theorem mX12_binds : mthV miX12_binds 3 := ⟨⟨tb_1 (List.mem_of_getElem? (i := 13) rfl) rfl, tb_7 (List.mem_of_getElem? (i := 232) rfl) rfl, by decide +kernel⟩, tb_7 (List.mem_of_getElem? (i := 231) rfl) rfl, tb_s (lw_in6 (List.mem_of_getElem? (i := 4) rfl)) rfl⟩
theorem mX12_readSitter : mthV miX12_readSitter 0 := ⟨⟨tb_1 (List.mem_of_getElem? (i := 13) rfl) rfl, tb_7 (List.mem_of_getElem? (i := 236) rfl) rfl, by decide +kernel⟩, tb_7 (List.mem_of_getElem? (i := 235) rfl) rfl, tb_s (lw_in6 (List.mem_of_getElem? (i := 5) rfl)) rfl⟩
theorem mX12_sits : mthV miX12_sits 5 := ⟨⟨tb_1 (List.mem_of_getElem? (i := 13) rfl) rfl, tb_8 (List.mem_of_getElem? (i := 0) rfl) rfl, by decide +kernel⟩, tb_7 (List.mem_of_getElem? (i := 239) rfl) rfl, tb_s (lw_in6 (List.mem_of_getElem? (i := 6) rfl)) rfl⟩
theorem mX12_readNews : mthV miX12_readNews 0 := ⟨⟨tb_1 (List.mem_of_getElem? (i := 13) rfl) rfl, tb_8 (List.mem_of_getElem? (i := 4) rfl) rfl, by decide +kernel⟩, tb_8 (List.mem_of_getElem? (i := 3) rfl) rfl, tb_s (lw_in6 (List.mem_of_getElem? (i := 7) rfl)) rfl⟩
theorem mX12_hears : mthV miX12_hears 3 := ⟨⟨tb_1 (List.mem_of_getElem? (i := 13) rfl) rfl, tb_8 (List.mem_of_getElem? (i := 8) rfl) rfl, by decide +kernel⟩, tb_8 (List.mem_of_getElem? (i := 7) rfl) rfl, tb_s (lw_in6 (List.mem_of_getElem? (i := 8) rfl)) rfl⟩
theorem mX12_isSign : mthV miX12_isSign 1 := ⟨⟨tb_1 (List.mem_of_getElem? (i := 13) rfl) rfl, tb_8 (List.mem_of_getElem? (i := 12) rfl) rfl, by decide +kernel⟩, tb_8 (List.mem_of_getElem? (i := 11) rfl) rfl, tb_s (lw_in6 (List.mem_of_getElem? (i := 9) rfl)) rfl⟩
theorem mX12_isWell : mthV miX12_isWell 0 := ⟨⟨tb_1 (List.mem_of_getElem? (i := 13) rfl) rfl, tb_8 (List.mem_of_getElem? (i := 16) rfl) rfl, by decide +kernel⟩, tb_8 (List.mem_of_getElem? (i := 15) rfl) rfl, tb_s (lw_in6 (List.mem_of_getElem? (i := 10) rfl)) rfl⟩
theorem mX12_copy : mthV miX12_copy 2 := ⟨⟨tb_1 (List.mem_of_getElem? (i := 13) rfl) rfl, tb_8 (List.mem_of_getElem? (i := 20) rfl) rfl, by decide +kernel⟩, tb_8 (List.mem_of_getElem? (i := 19) rfl) rfl, tb_s (lw_in6 (List.mem_of_getElem? (i := 11) rfl)) rfl⟩
theorem mX12_years : mthV miX12_years 1 := ⟨⟨tb_1 (List.mem_of_getElem? (i := 13) rfl) rfl, tb_8 (List.mem_of_getElem? (i := 24) rfl) rfl, by decide +kernel⟩, tb_8 (List.mem_of_getElem? (i := 22) rfl) rfl, tb_8 (List.mem_of_getElem? (i := 23) rfl) rfl⟩
theorem mX12_readStep : mthV miX12_readStep 1 := ⟨⟨tb_1 (List.mem_of_getElem? (i := 13) rfl) rfl, tb_8 (List.mem_of_getElem? (i := 28) rfl) rfl, by decide +kernel⟩, tb_8 (List.mem_of_getElem? (i := 27) rfl) rfl, tb_s (lw_in6 (List.mem_of_getElem? (i := 12) rfl)) rfl⟩
theorem mX12_readRest : mthV miX12_readRest 1 := ⟨⟨tb_1 (List.mem_of_getElem? (i := 13) rfl) rfl, tb_8 (List.mem_of_getElem? (i := 32) rfl) rfl, by decide +kernel⟩, tb_8 (List.mem_of_getElem? (i := 31) rfl) rfl, tb_s (lw_in6 (List.mem_of_getElem? (i := 13) rfl)) rfl⟩
theorem mX12_readTest : mthV miX12_readTest 1 := ⟨⟨tb_1 (List.mem_of_getElem? (i := 13) rfl) rfl, tb_8 (List.mem_of_getElem? (i := 36) rfl) rfl, by decide +kernel⟩, tb_8 (List.mem_of_getElem? (i := 35) rfl) rfl, tb_s (lw_in6 (List.mem_of_getElem? (i := 14) rfl)) rfl⟩
theorem mX12_many : mthV miX12_many 1 := ⟨⟨tb_1 (List.mem_of_getElem? (i := 13) rfl) rfl, tb_8 (List.mem_of_getElem? (i := 40) rfl) rfl, by decide +kernel⟩, tb_8 (List.mem_of_getElem? (i := 38) rfl) rfl, tb_8 (List.mem_of_getElem? (i := 39) rfl) rfl⟩
theorem mX12_refuse : mthV miX12_refuse 1 := ⟨⟨tb_1 (List.mem_of_getElem? (i := 13) rfl) rfl, tb_8 (List.mem_of_getElem? (i := 45) rfl) rfl, by decide +kernel⟩, tb_8 (List.mem_of_getElem? (i := 44) rfl) rfl, tb_s (lw_in6 (List.mem_of_getElem? (i := 15) rfl)) rfl⟩
theorem mX12_settledOnes : mthV miX12_settledOnes 0 := ⟨⟨tb_1 (List.mem_of_getElem? (i := 13) rfl) rfl, tb_8 (List.mem_of_getElem? (i := 49) rfl) rfl, by decide +kernel⟩, tb_8 (List.mem_of_getElem? (i := 48) rfl) rfl, tb_s (lw_in7 (List.mem_of_getElem? (i := 0) rfl)) rfl⟩
theorem mX12_isSettled : mthV miX12_isSettled 1 := ⟨⟨tb_1 (List.mem_of_getElem? (i := 13) rfl) rfl, tb_8 (List.mem_of_getElem? (i := 53) rfl) rfl, by decide +kernel⟩, tb_8 (List.mem_of_getElem? (i := 52) rfl) rfl, tb_s (lw_in7 (List.mem_of_getElem? (i := 1) rfl)) rfl⟩
theorem mX12_stuckOnes : mthV miX12_stuckOnes 0 := ⟨⟨tb_1 (List.mem_of_getElem? (i := 13) rfl) rfl, tb_8 (List.mem_of_getElem? (i := 57) rfl) rfl, by decide +kernel⟩, tb_8 (List.mem_of_getElem? (i := 56) rfl) rfl, tb_s (lw_in7 (List.mem_of_getElem? (i := 2) rfl)) rfl⟩
theorem mX12_heldBy : mthV miX12_heldBy 1 := ⟨⟨tb_1 (List.mem_of_getElem? (i := 13) rfl) rfl, tb_8 (List.mem_of_getElem? (i := 61) rfl) rfl, by decide +kernel⟩, tb_8 (List.mem_of_getElem? (i := 60) rfl) rfl, tb_s (lw_in7 (List.mem_of_getElem? (i := 3) rfl)) rfl⟩
theorem mX12_downOnes : mthV miX12_downOnes 0 := ⟨⟨tb_1 (List.mem_of_getElem? (i := 13) rfl) rfl, tb_8 (List.mem_of_getElem? (i := 65) rfl) rfl, by decide +kernel⟩, tb_8 (List.mem_of_getElem? (i := 64) rfl) rfl, tb_s (lw_in7 (List.mem_of_getElem? (i := 4) rfl)) rfl⟩
theorem mX12_heightOf : mthV miX12_heightOf 1 := ⟨⟨tb_1 (List.mem_of_getElem? (i := 13) rfl) rfl, tb_8 (List.mem_of_getElem? (i := 69) rfl) rfl, by decide +kernel⟩, tb_8 (List.mem_of_getElem? (i := 68) rfl) rfl, tb_s (lw_in7 (List.mem_of_getElem? (i := 5) rfl)) rfl⟩
theorem mX12_heightBy : mthS miX12_heightBy 2 := ⟨⟨tb_1 (List.mem_of_getElem? (i := 13) rfl) rfl, tb_8 (List.mem_of_getElem? (i := 72) rfl) rfl, by decide +kernel⟩, tb_8 (List.mem_of_getElem? (i := 71) rfl) rfl⟩
theorem mX12_cameOnes : mthV miX12_cameOnes 0 := ⟨⟨tb_1 (List.mem_of_getElem? (i := 13) rfl) rfl, tb_8 (List.mem_of_getElem? (i := 76) rfl) rfl, by decide +kernel⟩, tb_8 (List.mem_of_getElem? (i := 75) rfl) rfl, tb_s (lw_in7 (List.mem_of_getElem? (i := 6) rfl)) rfl⟩
theorem mX12_matter : mthV miX12_matter 2 := ⟨⟨tb_1 (List.mem_of_getElem? (i := 13) rfl) rfl, tb_8 (List.mem_of_getElem? (i := 80) rfl) rfl, by decide +kernel⟩, tb_8 (List.mem_of_getElem? (i := 78) rfl) rfl, tb_8 (List.mem_of_getElem? (i := 79) rfl) rfl⟩
theorem mX12_isMatterAt : mthV miX12_isMatterAt 1 := ⟨⟨tb_1 (List.mem_of_getElem? (i := 13) rfl) rfl, tb_8 (List.mem_of_getElem? (i := 84) rfl) rfl, by decide +kernel⟩, tb_8 (List.mem_of_getElem? (i := 83) rfl) rfl, tb_s (lw_in7 (List.mem_of_getElem? (i := 7) rfl)) rfl⟩
theorem mX12_satFor : mthV miX12_satFor 1 := ⟨⟨tb_1 (List.mem_of_getElem? (i := 13) rfl) rfl, tb_8 (List.mem_of_getElem? (i := 89) rfl) rfl, by decide +kernel⟩, tb_8 (List.mem_of_getElem? (i := 88) rfl) rfl, tb_s (lw_in7 (List.mem_of_getElem? (i := 8) rfl)) rfl⟩
theorem mX12_loadOf : mthV miX12_loadOf 1 := ⟨⟨tb_1 (List.mem_of_getElem? (i := 13) rfl) rfl, tb_8 (List.mem_of_getElem? (i := 93) rfl) rfl, by decide +kernel⟩, tb_8 (List.mem_of_getElem? (i := 92) rfl) rfl, tb_s (lw_in7 (List.mem_of_getElem? (i := 9) rfl)) rfl⟩
theorem mX12_answer : mthV miX12_answer 1 := ⟨⟨tb_1 (List.mem_of_getElem? (i := 13) rfl) rfl, tb_8 (List.mem_of_getElem? (i := 97) rfl) rfl, by decide +kernel⟩, tb_8 (List.mem_of_getElem? (i := 96) rfl) rfl, tb_s (lw_in7 (List.mem_of_getElem? (i := 10) rfl)) rfl⟩
theorem mX12_hold : mthV miX12_hold 2 := ⟨⟨tb_1 (List.mem_of_getElem? (i := 13) rfl) rfl, tb_8 (List.mem_of_getElem? (i := 101) rfl) rfl, by decide +kernel⟩, tb_8 (List.mem_of_getElem? (i := 99) rfl) rfl, tb_8 (List.mem_of_getElem? (i := 100) rfl) rfl⟩
theorem mX12_sitter : mthV miX12_sitter 2 := ⟨⟨tb_1 (List.mem_of_getElem? (i := 13) rfl) rfl, tb_8 (List.mem_of_getElem? (i := 105) rfl) rfl, by decide +kernel⟩, tb_8 (List.mem_of_getElem? (i := 103) rfl) rfl, tb_8 (List.mem_of_getElem? (i := 104) rfl) rfl⟩
theorem mX12_isSitterAt : mthV miX12_isSitterAt 1 := ⟨⟨tb_1 (List.mem_of_getElem? (i := 13) rfl) rfl, tb_8 (List.mem_of_getElem? (i := 109) rfl) rfl, by decide +kernel⟩, tb_8 (List.mem_of_getElem? (i := 108) rfl) rfl, tb_s (lw_in7 (List.mem_of_getElem? (i := 11) rfl)) rfl⟩
theorem mX12_news : mthV miX12_news 2 := ⟨⟨tb_1 (List.mem_of_getElem? (i := 13) rfl) rfl, tb_8 (List.mem_of_getElem? (i := 113) rfl) rfl, by decide +kernel⟩, tb_8 (List.mem_of_getElem? (i := 111) rfl) rfl, tb_8 (List.mem_of_getElem? (i := 112) rfl) rfl⟩
theorem mX12_isNewsAt : mthV miX12_isNewsAt 1 := ⟨⟨tb_1 (List.mem_of_getElem? (i := 13) rfl) rfl, tb_8 (List.mem_of_getElem? (i := 117) rfl) rfl, by decide +kernel⟩, tb_8 (List.mem_of_getElem? (i := 116) rfl) rfl, tb_s (lw_in7 (List.mem_of_getElem? (i := 12) rfl)) rfl⟩
theorem mX12_copyHeights : mthV miX12_copyHeights 1 := ⟨⟨tb_1 (List.mem_of_getElem? (i := 13) rfl) rfl, tb_8 (List.mem_of_getElem? (i := 122) rfl) rfl, by decide +kernel⟩, tb_8 (List.mem_of_getElem? (i := 120) rfl) rfl, tb_8 (List.mem_of_getElem? (i := 121) rfl) rfl⟩
theorem mX12_isTray : mthV miX12_isTray 1 := ⟨⟨tb_1 (List.mem_of_getElem? (i := 13) rfl) rfl, tb_8 (List.mem_of_getElem? (i := 126) rfl) rfl, by decide +kernel⟩, tb_8 (List.mem_of_getElem? (i := 125) rfl) rfl, tb_s (lw_in7 (List.mem_of_getElem? (i := 13) rfl)) rfl⟩
theorem mX12_day : mthV miX12_day 1 := ⟨⟨tb_1 (List.mem_of_getElem? (i := 13) rfl) rfl, tb_8 (List.mem_of_getElem? (i := 132) rfl) rfl, by decide +kernel⟩, tb_8 (List.mem_of_getElem? (i := 130) rfl) rfl, tb_8 (List.mem_of_getElem? (i := 131) rfl) rfl⟩
theorem mX12_passes : mthV miX12_passes 0 := ⟨⟨tb_1 (List.mem_of_getElem? (i := 13) rfl) rfl, tb_8 (List.mem_of_getElem? (i := 137) rfl) rfl, by decide +kernel⟩, tb_8 (List.mem_of_getElem? (i := 136) rfl) rfl, tb_s (lw_in7 (List.mem_of_getElem? (i := 14) rfl)) rfl⟩
theorem mX12_has : mthS miX12_has 2 := ⟨⟨tb_1 (List.mem_of_getElem? (i := 13) rfl) rfl, tb_8 (List.mem_of_getElem? (i := 140) rfl) rfl, by decide +kernel⟩, tb_8 (List.mem_of_getElem? (i := 139) rfl) rfl⟩
theorem mX12_clears : mthV miX12_clears 2 := ⟨⟨tb_1 (List.mem_of_getElem? (i := 13) rfl) rfl, tb_8 (List.mem_of_getElem? (i := 144) rfl) rfl, by decide +kernel⟩, tb_8 (List.mem_of_getElem? (i := 143) rfl) rfl, tb_s (lw_in7 (List.mem_of_getElem? (i := 15) rfl)) rfl⟩
theorem mX12_bring : mthV miX12_bring 1 := ⟨⟨tb_1 (List.mem_of_getElem? (i := 13) rfl) rfl, tb_8 (List.mem_of_getElem? (i := 149) rfl) rfl, by decide +kernel⟩, tb_8 (List.mem_of_getElem? (i := 147) rfl) rfl, tb_8 (List.mem_of_getElem? (i := 148) rfl) rfl⟩
theorem mX12_brings : mthV miX12_brings 1 := ⟨⟨tb_1 (List.mem_of_getElem? (i := 13) rfl) rfl, tb_8 (List.mem_of_getElem? (i := 153) rfl) rfl, by decide +kernel⟩, tb_8 (List.mem_of_getElem? (i := 152) rfl) rfl, tb_s (lw_in8 (List.mem_of_getElem? (i := 0) rfl)) rfl⟩
theorem mX12_canBring : mthV miX12_canBring 1 := ⟨⟨tb_1 (List.mem_of_getElem? (i := 13) rfl) rfl, tb_8 (List.mem_of_getElem? (i := 157) rfl) rfl, by decide +kernel⟩, tb_8 (List.mem_of_getElem? (i := 156) rfl) rfl, tb_s (lw_in8 (List.mem_of_getElem? (i := 1) rfl)) rfl⟩
theorem mX12_crisis : mthV miX12_crisis 2 := ⟨⟨tb_1 (List.mem_of_getElem? (i := 13) rfl) rfl, tb_8 (List.mem_of_getElem? (i := 161) rfl) rfl, by decide +kernel⟩, tb_8 (List.mem_of_getElem? (i := 159) rfl) rfl, tb_8 (List.mem_of_getElem? (i := 160) rfl) rfl⟩
theorem mX12_clouds : mthV miX12_clouds 2 := ⟨⟨tb_1 (List.mem_of_getElem? (i := 13) rfl) rfl, tb_8 (List.mem_of_getElem? (i := 165) rfl) rfl, by decide +kernel⟩, tb_8 (List.mem_of_getElem? (i := 164) rfl) rfl, tb_s (lw_in8 (List.mem_of_getElem? (i := 2) rfl)) rfl⟩
theorem mX12_turn : mthV miX12_turn 2 := ⟨⟨tb_1 (List.mem_of_getElem? (i := 13) rfl) rfl, tb_8 (List.mem_of_getElem? (i := 169) rfl) rfl, by decide +kernel⟩, tb_8 (List.mem_of_getElem? (i := 167) rfl) rfl, tb_8 (List.mem_of_getElem? (i := 168) rfl) rfl⟩
theorem mX12_becomes : mthV miX12_becomes 2 := ⟨⟨tb_1 (List.mem_of_getElem? (i := 13) rfl) rfl, tb_8 (List.mem_of_getElem? (i := 173) rfl) rfl, by decide +kernel⟩, tb_8 (List.mem_of_getElem? (i := 172) rfl) rfl, tb_s (lw_in8 (List.mem_of_getElem? (i := 3) rfl)) rfl⟩
theorem mX12_sit : mthV miX12_sit 3 := ⟨⟨tb_1 (List.mem_of_getElem? (i := 13) rfl) rfl, tb_8 (List.mem_of_getElem? (i := 177) rfl) rfl, by decide +kernel⟩, tb_8 (List.mem_of_getElem? (i := 175) rfl) rfl, tb_8 (List.mem_of_getElem? (i := 176) rfl) rfl⟩
theorem mX12_hear : mthV miX12_hear 2 := ⟨⟨tb_1 (List.mem_of_getElem? (i := 13) rfl) rfl, tb_8 (List.mem_of_getElem? (i := 183) rfl) rfl, by decide +kernel⟩, tb_8 (List.mem_of_getElem? (i := 181) rfl) rfl, tb_8 (List.mem_of_getElem? (i := 182) rfl) rfl⟩
theorem mX12_bind : mthV miX12_bind 2 := ⟨⟨tb_1 (List.mem_of_getElem? (i := 13) rfl) rfl, tb_8 (List.mem_of_getElem? (i := 187) rfl) rfl, by decide +kernel⟩, tb_8 (List.mem_of_getElem? (i := 185) rfl) rfl, tb_8 (List.mem_of_getElem? (i := 186) rfl) rfl⟩
theorem mX12_loose : mthV miX12_loose 1 := ⟨⟨tb_1 (List.mem_of_getElem? (i := 13) rfl) rfl, tb_8 (List.mem_of_getElem? (i := 191) rfl) rfl, by decide +kernel⟩, tb_8 (List.mem_of_getElem? (i := 189) rfl) rfl, tb_8 (List.mem_of_getElem? (i := 190) rfl) rfl⟩
theorem mX12_hurry : mthV miX12_hurry 2 := ⟨⟨tb_1 (List.mem_of_getElem? (i := 13) rfl) rfl, tb_8 (List.mem_of_getElem? (i := 195) rfl) rfl, by decide +kernel⟩, tb_8 (List.mem_of_getElem? (i := 193) rfl) rfl, tb_8 (List.mem_of_getElem? (i := 194) rfl) rfl⟩
theorem mX12_rule : mthV miX12_rule 1 := ⟨⟨tb_1 (List.mem_of_getElem? (i := 13) rfl) rfl, tb_8 (List.mem_of_getElem? (i := 200) rfl) rfl, by decide +kernel⟩, tb_8 (List.mem_of_getElem? (i := 198) rfl) rfl, tb_8 (List.mem_of_getElem? (i := 199) rfl) rfl⟩
theorem mX12_clearIn : mthV miX12_clearIn 2 := ⟨⟨tb_1 (List.mem_of_getElem? (i := 13) rfl) rfl, tb_8 (List.mem_of_getElem? (i := 205) rfl) rfl, by decide +kernel⟩, tb_8 (List.mem_of_getElem? (i := 203) rfl) rfl, tb_8 (List.mem_of_getElem? (i := 204) rfl) rfl⟩
theorem mX12_clearBehind : mthV miX12_clearBehind 2 := ⟨⟨tb_1 (List.mem_of_getElem? (i := 13) rfl) rfl, tb_8 (List.mem_of_getElem? (i := 210) rfl) rfl, by decide +kernel⟩, tb_8 (List.mem_of_getElem? (i := 209) rfl) rfl, tb_s (lw_in8 (List.mem_of_getElem? (i := 4) rfl)) rfl⟩
theorem mX12_keeps : mthV miX12_keeps 0 := ⟨⟨tb_1 (List.mem_of_getElem? (i := 13) rfl) rfl, tb_8 (List.mem_of_getElem? (i := 214) rfl) rfl, by decide +kernel⟩, tb_8 (List.mem_of_getElem? (i := 213) rfl) rfl, tb_s (lw_in8 (List.mem_of_getElem? (i := 5) rfl)) rfl⟩
theorem mX12_restores : mthV miX12_restores 0 := ⟨⟨tb_1 (List.mem_of_getElem? (i := 13) rfl) rfl, tb_8 (List.mem_of_getElem? (i := 218) rfl) rfl, by decide +kernel⟩, tb_8 (List.mem_of_getElem? (i := 217) rfl) rfl, tb_s (lw_in8 (List.mem_of_getElem? (i := 6) rfl)) rfl⟩
theorem mX12_heightIn : mthV miX12_heightIn 2 := ⟨⟨tb_1 (List.mem_of_getElem? (i := 13) rfl) rfl, tb_8 (List.mem_of_getElem? (i := 222) rfl) rfl, by decide +kernel⟩, tb_8 (List.mem_of_getElem? (i := 220) rfl) rfl, tb_8 (List.mem_of_getElem? (i := 221) rfl) rfl⟩
theorem mX12_downIn : mthV miX12_downIn 1 := ⟨⟨tb_1 (List.mem_of_getElem? (i := 13) rfl) rfl, tb_8 (List.mem_of_getElem? (i := 226) rfl) rfl, by decide +kernel⟩, tb_8 (List.mem_of_getElem? (i := 224) rfl) rfl, tb_8 (List.mem_of_getElem? (i := 225) rfl) rfl⟩
theorem mX12_least : mthV miX12_least 1 := ⟨⟨tb_1 (List.mem_of_getElem? (i := 13) rfl) rfl, tb_8 (List.mem_of_getElem? (i := 230) rfl) rfl, by decide +kernel⟩, tb_8 (List.mem_of_getElem? (i := 228) rfl) rfl, tb_8 (List.mem_of_getElem? (i := 229) rfl) rfl⟩
theorem mX12_areSitters : mthV miX12_areSitters 1 := ⟨⟨tb_1 (List.mem_of_getElem? (i := 13) rfl) rfl, tb_8 (List.mem_of_getElem? (i := 234) rfl) rfl, by decide +kernel⟩, tb_8 (List.mem_of_getElem? (i := 233) rfl) rfl, tb_s (lw_in8 (List.mem_of_getElem? (i := 7) rfl)) rfl⟩
theorem mX12_leastOf : mthV miX12_leastOf 1 := ⟨⟨tb_1 (List.mem_of_getElem? (i := 13) rfl) rfl, tb_8 (List.mem_of_getElem? (i := 238) rfl) rfl, by decide +kernel⟩, tb_8 (List.mem_of_getElem? (i := 237) rfl) rfl, tb_s (lw_in8 (List.mem_of_getElem? (i := 8) rfl)) rfl⟩
theorem mX12_sizeOf : mthS miX12_sizeOf 1 := ⟨⟨tb_1 (List.mem_of_getElem? (i := 13) rfl) rfl, tb_9 (List.mem_of_getElem? (i := 1) rfl) rfl, by decide +kernel⟩, tb_9 (List.mem_of_getElem? (i := 0) rfl) rfl⟩
theorem mX12_isEnough : mthV miX12_isEnough 2 := ⟨⟨tb_1 (List.mem_of_getElem? (i := 13) rfl) rfl, tb_9 (List.mem_of_getElem? (i := 5) rfl) rfl, by decide +kernel⟩, tb_9 (List.mem_of_getElem? (i := 4) rfl) rfl, tb_s (lw_in8 (List.mem_of_getElem? (i := 9) rfl)) rfl⟩
theorem mX12_leastSet : mthV miX12_leastSet 1 := ⟨⟨tb_1 (List.mem_of_getElem? (i := 13) rfl) rfl, tb_9 (List.mem_of_getElem? (i := 9) rfl) rfl, by decide +kernel⟩, tb_9 (List.mem_of_getElem? (i := 7) rfl) rfl, tb_9 (List.mem_of_getElem? (i := 8) rfl) rfl⟩
theorem mX12_ring : mthV miX12_ring 0 := ⟨⟨tb_1 (List.mem_of_getElem? (i := 13) rfl) rfl, tb_9 (List.mem_of_getElem? (i := 13) rfl) rfl, by decide +kernel⟩, tb_9 (List.mem_of_getElem? (i := 11) rfl) rfl, tb_9 (List.mem_of_getElem? (i := 12) rfl) rfl⟩
theorem mX12_ringBut : mthV miX12_ringBut 1 := ⟨⟨tb_1 (List.mem_of_getElem? (i := 13) rfl) rfl, tb_9 (List.mem_of_getElem? (i := 17) rfl) rfl, by decide +kernel⟩, tb_9 (List.mem_of_getElem? (i := 16) rfl) rfl, tb_s (lw_in8 (List.mem_of_getElem? (i := 10) rfl)) rfl⟩
theorem mX12_loosen : mthV miX12_loosen 0 := ⟨⟨tb_1 (List.mem_of_getElem? (i := 13) rfl) rfl, tb_9 (List.mem_of_getElem? (i := 21) rfl) rfl, by decide +kernel⟩, tb_9 (List.mem_of_getElem? (i := 19) rfl) rfl, tb_9 (List.mem_of_getElem? (i := 20) rfl) rfl⟩
theorem mX12_loosening : mthV miX12_loosening 0 := ⟨⟨tb_1 (List.mem_of_getElem? (i := 13) rfl) rfl, tb_9 (List.mem_of_getElem? (i := 25) rfl) rfl, by decide +kernel⟩, tb_9 (List.mem_of_getElem? (i := 24) rfl) rfl, tb_s (lw_in8 (List.mem_of_getElem? (i := 11) rfl)) rfl⟩
theorem mX12_loosenSet : mthV miX12_loosenSet 0 := ⟨⟨tb_1 (List.mem_of_getElem? (i := 13) rfl) rfl, tb_9 (List.mem_of_getElem? (i := 29) rfl) rfl, by decide +kernel⟩, tb_9 (List.mem_of_getElem? (i := 27) rfl) rfl, tb_9 (List.mem_of_getElem? (i := 28) rfl) rfl⟩
theorem mX12_waiting : mthV miX12_waiting 0 := ⟨⟨tb_1 (List.mem_of_getElem? (i := 13) rfl) rfl, tb_9 (List.mem_of_getElem? (i := 33) rfl) rfl, by decide +kernel⟩, tb_9 (List.mem_of_getElem? (i := 31) rfl) rfl, tb_9 (List.mem_of_getElem? (i := 32) rfl) rfl⟩
theorem mX12_isOrdered : mthV miX12_isOrdered 0 := ⟨⟨tb_1 (List.mem_of_getElem? (i := 13) rfl) rfl, tb_9 (List.mem_of_getElem? (i := 37) rfl) rfl, by decide +kernel⟩, tb_9 (List.mem_of_getElem? (i := 36) rfl) rfl, tb_s (lw_in8 (List.mem_of_getElem? (i := 12) rfl)) rfl⟩
theorem mX12_decides : mthV miX12_decides 4 := ⟨⟨tb_1 (List.mem_of_getElem? (i := 13) rfl) rfl, tb_9 (List.mem_of_getElem? (i := 41) rfl) rfl, by decide +kernel⟩, tb_9 (List.mem_of_getElem? (i := 40) rfl) rfl, tb_s (lw_in8 (List.mem_of_getElem? (i := 13) rfl)) rfl⟩
theorem mX12_weightsFor : mthV miX12_weightsFor 1 := ⟨⟨tb_1 (List.mem_of_getElem? (i := 13) rfl) rfl, tb_9 (List.mem_of_getElem? (i := 45) rfl) rfl, by decide +kernel⟩, tb_9 (List.mem_of_getElem? (i := 44) rfl) rfl, tb_s (lw_in8 (List.mem_of_getElem? (i := 14) rfl)) rfl⟩
theorem mX12_orderAt : mthV miX12_orderAt 1 := ⟨⟨tb_1 (List.mem_of_getElem? (i := 13) rfl) rfl, tb_9 (List.mem_of_getElem? (i := 49) rfl) rfl, by decide +kernel⟩, tb_9 (List.mem_of_getElem? (i := 47) rfl) rfl, tb_9 (List.mem_of_getElem? (i := 48) rfl) rfl⟩
theorem mX12_round : mthV miX12_round 1 := ⟨⟨tb_1 (List.mem_of_getElem? (i := 13) rfl) rfl, tb_9 (List.mem_of_getElem? (i := 53) rfl) rfl, by decide +kernel⟩, tb_9 (List.mem_of_getElem? (i := 51) rfl) rfl, tb_9 (List.mem_of_getElem? (i := 52) rfl) rfl⟩
theorem mX12_laysMiles : mthV miX12_laysMiles 0 := ⟨⟨tb_1 (List.mem_of_getElem? (i := 13) rfl) rfl, tb_9 (List.mem_of_getElem? (i := 57) rfl) rfl, by decide +kernel⟩, tb_9 (List.mem_of_getElem? (i := 56) rfl) rfl, tb_s (lw_in8 (List.mem_of_getElem? (i := 15) rfl)) rfl⟩
theorem mX12_serves : mthV miX12_serves 4 := ⟨⟨tb_1 (List.mem_of_getElem? (i := 13) rfl) rfl, tb_9 (List.mem_of_getElem? (i := 61) rfl) rfl, by decide +kernel⟩, tb_9 (List.mem_of_getElem? (i := 60) rfl) rfl, tb_s (lw_in9 (List.mem_of_getElem? (i := 0) rfl)) rfl⟩
theorem mX12_out : mthV miX12_out 3 := ⟨⟨tb_1 (List.mem_of_getElem? (i := 13) rfl) rfl, tb_9 (List.mem_of_getElem? (i := 66) rfl) rfl, by decide +kernel⟩, tb_9 (List.mem_of_getElem? (i := 64) rfl) rfl, tb_9 (List.mem_of_getElem? (i := 65) rfl) rfl⟩
theorem mX12_whyNoOut : mthV miX12_whyNoOut 3 := ⟨⟨tb_1 (List.mem_of_getElem? (i := 13) rfl) rfl, tb_9 (List.mem_of_getElem? (i := 70) rfl) rfl, by decide +kernel⟩, tb_9 (List.mem_of_getElem? (i := 69) rfl) rfl, tb_s (lw_in9 (List.mem_of_getElem? (i := 1) rfl)) rfl⟩
theorem mX12_whyNoTwos : mthV miX12_whyNoTwos 2 := ⟨⟨tb_1 (List.mem_of_getElem? (i := 13) rfl) rfl, tb_9 (List.mem_of_getElem? (i := 74) rfl) rfl, by decide +kernel⟩, tb_9 (List.mem_of_getElem? (i := 73) rfl) rfl, tb_s (lw_in9 (List.mem_of_getElem? (i := 2) rfl)) rfl⟩
theorem mX12_numberOf : mthV miX12_numberOf 2 := ⟨⟨tb_1 (List.mem_of_getElem? (i := 13) rfl) rfl, tb_9 (List.mem_of_getElem? (i := 78) rfl) rfl, by decide +kernel⟩, tb_9 (List.mem_of_getElem? (i := 77) rfl) rfl, tb_s (lw_in9 (List.mem_of_getElem? (i := 3) rfl)) rfl⟩
theorem mX12_outOf : mthV miX12_outOf 3 := ⟨⟨tb_1 (List.mem_of_getElem? (i := 13) rfl) rfl, tb_9 (List.mem_of_getElem? (i := 83) rfl) rfl, by decide +kernel⟩, tb_9 (List.mem_of_getElem? (i := 82) rfl) rfl, tb_s (lw_in9 (List.mem_of_getElem? (i := 4) rfl)) rfl⟩
theorem mX12_laysClearer : mthV miX12_laysClearer 0 := ⟨⟨tb_1 (List.mem_of_getElem? (i := 13) rfl) rfl, tb_9 (List.mem_of_getElem? (i := 87) rfl) rfl, by decide +kernel⟩, tb_9 (List.mem_of_getElem? (i := 86) rfl) rfl, tb_s (lw_in9 (List.mem_of_getElem? (i := 5) rfl)) rfl⟩
theorem mX12_ask : mthV miX12_ask 3 := ⟨⟨tb_1 (List.mem_of_getElem? (i := 13) rfl) rfl, tb_9 (List.mem_of_getElem? (i := 91) rfl) rfl, by decide +kernel⟩, tb_9 (List.mem_of_getElem? (i := 89) rfl) rfl, tb_9 (List.mem_of_getElem? (i := 90) rfl) rfl⟩
theorem mX12_mostAlike : mthV miX12_mostAlike 3 := ⟨⟨tb_1 (List.mem_of_getElem? (i := 13) rfl) rfl, tb_9 (List.mem_of_getElem? (i := 95) rfl) rfl, by decide +kernel⟩, tb_9 (List.mem_of_getElem? (i := 94) rfl) rfl, tb_s (lw_in9 (List.mem_of_getElem? (i := 6) rfl)) rfl⟩
theorem mX12_laws : mthV miX12_laws 2 := ⟨⟨tb_1 (List.mem_of_getElem? (i := 13) rfl) rfl, tb_9 (List.mem_of_getElem? (i := 99) rfl) rfl, by decide +kernel⟩, tb_9 (List.mem_of_getElem? (i := 97) rfl) rfl, tb_9 (List.mem_of_getElem? (i := 98) rfl) rfl⟩
theorem mX12_whyNoLaw : mthV miX12_whyNoLaw 2 := ⟨⟨tb_1 (List.mem_of_getElem? (i := 13) rfl) rfl, tb_9 (List.mem_of_getElem? (i := 103) rfl) rfl, by decide +kernel⟩, tb_9 (List.mem_of_getElem? (i := 102) rfl) rfl, tb_s (lw_in9 (List.mem_of_getElem? (i := 7) rfl)) rfl⟩
theorem mX12_isLaw : mthV miX12_isLaw 4 := ⟨⟨tb_1 (List.mem_of_getElem? (i := 13) rfl) rfl, tb_9 (List.mem_of_getElem? (i := 107) rfl) rfl, by decide +kernel⟩, tb_9 (List.mem_of_getElem? (i := 106) rfl) rfl, tb_s (lw_in9 (List.mem_of_getElem? (i := 8) rfl)) rfl⟩
theorem mX12_lawOf : mthV miX12_lawOf 3 := ⟨⟨tb_1 (List.mem_of_getElem? (i := 13) rfl) rfl, tb_9 (List.mem_of_getElem? (i := 111) rfl) rfl, by decide +kernel⟩, tb_9 (List.mem_of_getElem? (i := 109) rfl) rfl, tb_9 (List.mem_of_getElem? (i := 110) rfl) rfl⟩
theorem mX12_off : mthV miX12_off 2 := ⟨⟨tb_1 (List.mem_of_getElem? (i := 13) rfl) rfl, tb_9 (List.mem_of_getElem? (i := 115) rfl) rfl, by decide +kernel⟩, tb_9 (List.mem_of_getElem? (i := 113) rfl) rfl, tb_9 (List.mem_of_getElem? (i := 114) rfl) rfl⟩
theorem mX12_laysCost : mthV miX12_laysCost 2 := ⟨⟨tb_1 (List.mem_of_getElem? (i := 13) rfl) rfl, tb_9 (List.mem_of_getElem? (i := 120) rfl) rfl, by decide +kernel⟩, tb_9 (List.mem_of_getElem? (i := 119) rfl) rfl, tb_s (lw_in9 (List.mem_of_getElem? (i := 9) rfl)) rfl⟩
theorem mX12_fraction : mthV miX12_fraction 2 := ⟨⟨tb_1 (List.mem_of_getElem? (i := 13) rfl) rfl, tb_9 (List.mem_of_getElem? (i := 125) rfl) rfl, by decide +kernel⟩, tb_9 (List.mem_of_getElem? (i := 124) rfl) rfl, tb_s (lw_in9 (List.mem_of_getElem? (i := 10) rfl)) rfl⟩
theorem mJ9_abs_067f4 : mthS miJ9_abs_067f4 1 := ⟨⟨tb_1 (List.mem_of_getElem? (i := 15) rfl) rfl, tb_9 (List.mem_of_getElem? (i := 128) rfl) rfl, by decide +kernel⟩, tb_9 (List.mem_of_getElem? (i := 127) rfl) rfl⟩
theorem mX12_stay : mthV miX12_stay 2 := ⟨⟨tb_1 (List.mem_of_getElem? (i := 13) rfl) rfl, tb_9 (List.mem_of_getElem? (i := 132) rfl) rfl, by decide +kernel⟩, tb_9 (List.mem_of_getElem? (i := 130) rfl) rfl, tb_9 (List.mem_of_getElem? (i := 131) rfl) rfl⟩
theorem mX12_game : mthV miX12_game 3 := ⟨⟨tb_1 (List.mem_of_getElem? (i := 13) rfl) rfl, tb_9 (List.mem_of_getElem? (i := 136) rfl) rfl, by decide +kernel⟩, tb_9 (List.mem_of_getElem? (i := 134) rfl) rfl, tb_9 (List.mem_of_getElem? (i := 135) rfl) rfl⟩
theorem mX12_whyNoGame : mthV miX12_whyNoGame 4 := ⟨⟨tb_1 (List.mem_of_getElem? (i := 13) rfl) rfl, tb_9 (List.mem_of_getElem? (i := 140) rfl) rfl, by decide +kernel⟩, tb_9 (List.mem_of_getElem? (i := 139) rfl) rfl, tb_s (lw_in9 (List.mem_of_getElem? (i := 11) rfl)) rfl⟩
theorem mX12_plays : mthV miX12_plays 4 := ⟨⟨tb_1 (List.mem_of_getElem? (i := 13) rfl) rfl, tb_9 (List.mem_of_getElem? (i := 144) rfl) rfl, by decide +kernel⟩, tb_9 (List.mem_of_getElem? (i := 143) rfl) rfl, tb_s (lw_in9 (List.mem_of_getElem? (i := 12) rfl)) rfl⟩
theorem mX12_moveOf : mthV miX12_moveOf 3 := ⟨⟨tb_1 (List.mem_of_getElem? (i := 13) rfl) rfl, tb_9 (List.mem_of_getElem? (i := 148) rfl) rfl, by decide +kernel⟩, tb_9 (List.mem_of_getElem? (i := 146) rfl) rfl, tb_9 (List.mem_of_getElem? (i := 147) rfl) rfl⟩
theorem mX12_lasts : mthV miX12_lasts 1 := ⟨⟨tb_1 (List.mem_of_getElem? (i := 13) rfl) rfl, tb_9 (List.mem_of_getElem? (i := 152) rfl) rfl, by decide +kernel⟩, tb_9 (List.mem_of_getElem? (i := 150) rfl) rfl, tb_9 (List.mem_of_getElem? (i := 151) rfl) rfl⟩
theorem mX12_share : mthV miX12_share 1 := ⟨⟨tb_1 (List.mem_of_getElem? (i := 13) rfl) rfl, tb_9 (List.mem_of_getElem? (i := 157) rfl) rfl, by decide +kernel⟩, tb_9 (List.mem_of_getElem? (i := 155) rfl) rfl, tb_9 (List.mem_of_getElem? (i := 156) rfl) rfl⟩
theorem mX12_heights : mthV miX12_heights 0 := ⟨⟨tb_1 (List.mem_of_getElem? (i := 13) rfl) rfl, tb_9 (List.mem_of_getElem? (i := 161) rfl) rfl, by decide +kernel⟩, tb_9 (List.mem_of_getElem? (i := 160) rfl) rfl, tb_s (lw_in9 (List.mem_of_getElem? (i := 13) rfl)) rfl⟩
theorem mX12_live : mthV miX12_live 1 := ⟨⟨tb_1 (List.mem_of_getElem? (i := 13) rfl) rfl, tb_9 (List.mem_of_getElem? (i := 165) rfl) rfl, by decide +kernel⟩, tb_9 (List.mem_of_getElem? (i := 163) rfl) rfl, tb_9 (List.mem_of_getElem? (i := 164) rfl) rfl⟩
theorem mX12_runsYears : mthV miX12_runsYears 1 := ⟨⟨tb_1 (List.mem_of_getElem? (i := 13) rfl) rfl, tb_9 (List.mem_of_getElem? (i := 170) rfl) rfl, by decide +kernel⟩, tb_9 (List.mem_of_getElem? (i := 169) rfl) rfl, tb_s (lw_in9 (List.mem_of_getElem? (i := 14) rfl)) rfl⟩
theorem mX12_doAll : mthV miX12_doAll 2 := ⟨⟨tb_1 (List.mem_of_getElem? (i := 13) rfl) rfl, tb_9 (List.mem_of_getElem? (i := 174) rfl) rfl, by decide +kernel⟩, tb_9 (List.mem_of_getElem? (i := 173) rfl) rfl, tb_s (lw_in9 (List.mem_of_getElem? (i := 15) rfl)) rfl⟩
theorem mX12_doOne : mthV miX12_doOne 1 := ⟨⟨tb_1 (List.mem_of_getElem? (i := 13) rfl) rfl, tb_9 (List.mem_of_getElem? (i := 178) rfl) rfl, by decide +kernel⟩, tb_9 (List.mem_of_getElem? (i := 177) rfl) rfl, tb_s (lw_in10 (List.mem_of_getElem? (i := 0) rfl)) rfl⟩
theorem mX12_does : mthV miX12_does 1 := ⟨⟨tb_1 (List.mem_of_getElem? (i := 13) rfl) rfl, tb_9 (List.mem_of_getElem? (i := 182) rfl) rfl, by decide +kernel⟩, tb_9 (List.mem_of_getElem? (i := 181) rfl) rfl, tb_s (lw_in10 (List.mem_of_getElem? (i := 1) rfl)) rfl⟩
theorem mX12_anyDays : mthV miX12_anyDays 1 := ⟨⟨tb_1 (List.mem_of_getElem? (i := 13) rfl) rfl, tb_9 (List.mem_of_getElem? (i := 186) rfl) rfl, by decide +kernel⟩, tb_9 (List.mem_of_getElem? (i := 185) rfl) rfl, tb_s (lw_in10 (List.mem_of_getElem? (i := 2) rfl)) rfl⟩
theorem mX12_isBrought : mthV miX12_isBrought 1 := ⟨⟨tb_1 (List.mem_of_getElem? (i := 13) rfl) rfl, tb_9 (List.mem_of_getElem? (i := 190) rfl) rfl, by decide +kernel⟩, tb_9 (List.mem_of_getElem? (i := 189) rfl) rfl, tb_s (lw_in10 (List.mem_of_getElem? (i := 3) rfl)) rfl⟩
theorem mX12_isClouded : mthV miX12_isClouded 2 := ⟨⟨tb_1 (List.mem_of_getElem? (i := 13) rfl) rfl, tb_9 (List.mem_of_getElem? (i := 194) rfl) rfl, by decide +kernel⟩, tb_9 (List.mem_of_getElem? (i := 193) rfl) rfl, tb_s (lw_in10 (List.mem_of_getElem? (i := 4) rfl)) rfl⟩
theorem mX12_isAny : mthV miX12_isAny 0 := ⟨⟨tb_1 (List.mem_of_getElem? (i := 13) rfl) rfl, tb_9 (List.mem_of_getElem? (i := 198) rfl) rfl, by decide +kernel⟩, tb_9 (List.mem_of_getElem? (i := 197) rfl) rfl, tb_s (lw_in10 (List.mem_of_getElem? (i := 5) rfl)) rfl⟩
theorem mX12_draw : mthV miX12_draw 1 := ⟨⟨tb_1 (List.mem_of_getElem? (i := 13) rfl) rfl, tb_9 (List.mem_of_getElem? (i := 202) rfl) rfl, by decide +kernel⟩, tb_9 (List.mem_of_getElem? (i := 201) rfl) rfl, tb_s (lw_in10 (List.mem_of_getElem? (i := 6) rfl)) rfl⟩
theorem mX12_holds : mthV miX12_holds 1 := ⟨⟨tb_1 (List.mem_of_getElem? (i := 13) rfl) rfl, tb_9 (List.mem_of_getElem? (i := 207) rfl) rfl, by decide +kernel⟩, tb_9 (List.mem_of_getElem? (i := 206) rfl) rfl, tb_s (lw_in10 (List.mem_of_getElem? (i := 7) rfl)) rfl⟩
theorem mX12_lived : mthV miX12_lived 1 := ⟨⟨tb_1 (List.mem_of_getElem? (i := 13) rfl) rfl, tb_9 (List.mem_of_getElem? (i := 211) rfl) rfl, by decide +kernel⟩, tb_9 (List.mem_of_getElem? (i := 209) rfl) rfl, tb_9 (List.mem_of_getElem? (i := 210) rfl) rfl⟩
theorem mX12_mean : mthV miX12_mean 2 := ⟨⟨tb_1 (List.mem_of_getElem? (i := 13) rfl) rfl, tb_9 (List.mem_of_getElem? (i := 215) rfl) rfl, by decide +kernel⟩, tb_9 (List.mem_of_getElem? (i := 213) rfl) rfl, tb_9 (List.mem_of_getElem? (i := 214) rfl) rfl⟩
theorem mX12_mark : mthV miX12_mark 0 := ⟨⟨tb_1 (List.mem_of_getElem? (i := 13) rfl) rfl, tb_9 (List.mem_of_getElem? (i := 219) rfl) rfl, by decide +kernel⟩, tb_9 (List.mem_of_getElem? (i := 217) rfl) rfl, tb_9 (List.mem_of_getElem? (i := 218) rfl) rfl⟩
theorem mX12_back : mthV miX12_back 0 := ⟨⟨tb_1 (List.mem_of_getElem? (i := 13) rfl) rfl, tb_9 (List.mem_of_getElem? (i := 223) rfl) rfl, by decide +kernel⟩, tb_9 (List.mem_of_getElem? (i := 221) rfl) rfl, tb_9 (List.mem_of_getElem? (i := 222) rfl) rfl⟩
theorem lL_9 : Cond.methodLink RL 9 yX11_init ∈ TB := tb_1 (List.mem_of_getElem? (i := 24) rfl) rfl
theorem lX11_29 : Cond.methodLink RX11 29 yX5_init ∈ TB := tb_1 (List.mem_of_getElem? (i := 32) rfl) rfl
theorem lX5_23 : Cond.methodLink RX5 23 yJ7_fill_53178 ∈ TB := tb_1 (List.mem_of_getElem? (i := 38) rfl) rfl
theorem fX5_11 : lnkF RX5 11 5 0 := ⟨_, _, _, _, clsF_5, by decide, tb_1 (List.mem_of_getElem? (i := 41) rfl) rfl, rfl⟩
theorem fX11_135 : lnkF RX11 135 5 0 := ⟨_, _, _, _, clsF_5, by decide, tb_1 (List.mem_of_getElem? (i := 42) rfl) rfl, rfl⟩
theorem fX5_16 : lnkF RX5 16 5 1 := ⟨_, _, _, _, clsF_5, by decide, tb_1 (List.mem_of_getElem? (i := 43) rfl) rfl, rfl⟩
theorem fX11_142 : lnkF RX11 142 5 1 := ⟨_, _, _, _, clsF_5, by decide, tb_1 (List.mem_of_getElem? (i := 44) rfl) rfl, rfl⟩
theorem fX5_20 : lnkF RX5 20 5 2 := ⟨_, _, _, _, clsF_5, by decide, tb_1 (List.mem_of_getElem? (i := 45) rfl) rfl, rfl⟩
theorem lX11_36 : Cond.methodLink RX11 36 yX4_init ∈ TB := tb_1 (List.mem_of_getElem? (i := 58) rfl) rfl
theorem fX4_11 : lnkF RX4 11 4 0 := ⟨_, _, _, _, clsF_4, by decide, tb_1 (List.mem_of_getElem? (i := 62) rfl) rfl, rfl⟩
theorem fX4_15 : lnkF RX4 15 4 1 := ⟨_, _, _, _, clsF_4, by decide, tb_1 (List.mem_of_getElem? (i := 63) rfl) rfl, rfl⟩
theorem fX4_18 : lnkF RX4 18 4 2 := ⟨_, _, _, _, clsF_4, by decide, tb_1 (List.mem_of_getElem? (i := 64) rfl) rfl, rfl⟩
theorem fX4_38 : lnkF RX4 38 4 3 := ⟨_, _, _, _, clsF_4, by decide, tb_1 (List.mem_of_getElem? (i := 65) rfl) rfl, rfl⟩
theorem pX4_38 : lnkP RX4 38 4 3 .int := ⟨_, _, _, _, clsF_4, by decide, tb_1 (List.mem_of_getElem? (i := 65) rfl) rfl, rfl, rfl, rfl⟩
theorem fX4_62 : lnkF RX4 62 4 4 := ⟨_, _, _, _, clsF_4, by decide, tb_1 (List.mem_of_getElem? (i := 66) rfl) rfl, rfl⟩
theorem pX4_62 : lnkP RX4 62 4 4 .int := ⟨_, _, _, _, clsF_4, by decide, tb_1 (List.mem_of_getElem? (i := 66) rfl) rfl, rfl, rfl, rfl⟩
theorem fX4_22 : lnkF RX4 22 4 5 := ⟨_, _, _, _, clsF_4, by decide, tb_1 (List.mem_of_getElem? (i := 67) rfl) rfl, rfl⟩
theorem pX4_22 : lnkP RX4 22 4 5 .int := ⟨_, _, _, _, clsF_4, by decide, tb_1 (List.mem_of_getElem? (i := 67) rfl) rfl, rfl, rfl, rfl⟩
theorem fX11_195 : lnkF RX11 195 4 5 := ⟨_, _, _, _, clsF_4, by decide, tb_1 (List.mem_of_getElem? (i := 68) rfl) rfl, rfl⟩
theorem pX11_195 : lnkP RX11 195 4 5 .int := ⟨_, _, _, _, clsF_4, by decide, tb_1 (List.mem_of_getElem? (i := 68) rfl) rfl, rfl, rfl, rfl⟩
theorem fX4_26 : lnkF RX4 26 4 6 := ⟨_, _, _, _, clsF_4, by decide, tb_1 (List.mem_of_getElem? (i := 69) rfl) rfl, rfl⟩
theorem pX4_26 : lnkP RX4 26 4 6 .int := ⟨_, _, _, _, clsF_4, by decide, tb_1 (List.mem_of_getElem? (i := 69) rfl) rfl, rfl, rfl, rfl⟩
theorem fX11_198 : lnkF RX11 198 4 6 := ⟨_, _, _, _, clsF_4, by decide, tb_1 (List.mem_of_getElem? (i := 70) rfl) rfl, rfl⟩
theorem pX11_198 : lnkP RX11 198 4 6 .int := ⟨_, _, _, _, clsF_4, by decide, tb_1 (List.mem_of_getElem? (i := 70) rfl) rfl, rfl, rfl, rfl⟩
theorem fX7_14 : lnkF RX7 14 7 0 := ⟨_, _, _, _, clsF_7, by decide, tb_1 (List.mem_of_getElem? (i := 92) rfl) rfl, rfl⟩
theorem pX7_14 : lnkP RX7 14 7 0 .boolean := ⟨_, _, _, _, clsF_7, by decide, tb_1 (List.mem_of_getElem? (i := 92) rfl) rfl, rfl, rfl, rfl⟩
theorem lX11_50 : Cond.methodLink RX11 50 yX10_init ∈ TB := tb_1 (List.mem_of_getElem? (i := 98) rfl) rfl
theorem fX10_11 : lnkF RX10 11 9 0 := ⟨_, _, _, _, clsF_9, by decide, tb_1 (List.mem_of_getElem? (i := 102) rfl) rfl, rfl⟩
theorem fX10_24 : lnkF RX10 24 9 1 := ⟨_, _, _, _, clsF_9, by decide, tb_1 (List.mem_of_getElem? (i := 103) rfl) rfl, rfl⟩
theorem pX10_24 : lnkP RX10 24 9 1 .int := ⟨_, _, _, _, clsF_9, by decide, tb_1 (List.mem_of_getElem? (i := 103) rfl) rfl, rfl, rfl, rfl⟩
theorem lX11_57 : Cond.methodLink RX11 57 yX6_init ∈ TB := tb_1 (List.mem_of_getElem? (i := 111) rfl) rfl
theorem lX6_55 : Cond.methodLink RX6 55 yX9_init ∈ TB := tb_1 (List.mem_of_getElem? (i := 117) rfl) rfl
theorem fX9_30 : lnkF RX9 30 8 0 := ⟨_, _, _, _, clsF_8, by decide, tb_1 (List.mem_of_getElem? (i := 121) rfl) rfl, rfl⟩
theorem pX9_30 : lnkP RX9 30 8 0 .boolean := ⟨_, _, _, _, clsF_8, by decide, tb_1 (List.mem_of_getElem? (i := 121) rfl) rfl, rfl, rfl, rfl⟩
theorem fX10_20 : lnkF RX10 20 8 0 := ⟨_, _, _, _, clsF_8, by decide, tb_1 (List.mem_of_getElem? (i := 122) rfl) rfl, rfl⟩
theorem pX10_20 : lnkP RX10 20 8 0 .boolean := ⟨_, _, _, _, clsF_8, by decide, tb_1 (List.mem_of_getElem? (i := 122) rfl) rfl, rfl, rfl, rfl⟩
theorem fX11_408 : lnkF RX11 408 8 0 := ⟨_, _, _, _, clsF_8, by decide, tb_1 (List.mem_of_getElem? (i := 123) rfl) rfl, rfl⟩
theorem pX11_408 : lnkP RX11 408 8 0 .boolean := ⟨_, _, _, _, clsF_8, by decide, tb_1 (List.mem_of_getElem? (i := 123) rfl) rfl, rfl, rfl, rfl⟩
theorem fX9_34 : lnkF RX9 34 8 1 := ⟨_, _, _, _, clsF_8, by decide, tb_1 (List.mem_of_getElem? (i := 124) rfl) rfl, rfl⟩
theorem pX9_34 : lnkP RX9 34 8 1 .int := ⟨_, _, _, _, clsF_8, by decide, tb_1 (List.mem_of_getElem? (i := 124) rfl) rfl, rfl, rfl, rfl⟩
theorem fX10_62 : lnkF RX10 62 8 1 := ⟨_, _, _, _, clsF_8, by decide, tb_1 (List.mem_of_getElem? (i := 125) rfl) rfl, rfl⟩
theorem pX10_62 : lnkP RX10 62 8 1 .int := ⟨_, _, _, _, clsF_8, by decide, tb_1 (List.mem_of_getElem? (i := 125) rfl) rfl, rfl, rfl, rfl⟩
theorem fX11_192 : lnkF RX11 192 8 1 := ⟨_, _, _, _, clsF_8, by decide, tb_1 (List.mem_of_getElem? (i := 126) rfl) rfl, rfl⟩
theorem pX11_192 : lnkP RX11 192 8 1 .int := ⟨_, _, _, _, clsF_8, by decide, tb_1 (List.mem_of_getElem? (i := 126) rfl) rfl, rfl, rfl, rfl⟩
theorem fX9_38 : lnkF RX9 38 8 2 := ⟨_, _, _, _, clsF_8, by decide, tb_1 (List.mem_of_getElem? (i := 127) rfl) rfl, rfl⟩
theorem pX9_38 : lnkP RX9 38 8 2 .int := ⟨_, _, _, _, clsF_8, by decide, tb_1 (List.mem_of_getElem? (i := 127) rfl) rfl, rfl, rfl, rfl⟩
theorem fX2_50 : lnkF RX2 50 8 2 := ⟨_, _, _, _, clsF_8, by decide, tb_1 (List.mem_of_getElem? (i := 128) rfl) rfl, rfl⟩
theorem pX2_50 : lnkP RX2 50 8 2 .int := ⟨_, _, _, _, clsF_8, by decide, tb_1 (List.mem_of_getElem? (i := 128) rfl) rfl, rfl, rfl, rfl⟩
theorem fX10_97 : lnkF RX10 97 8 2 := ⟨_, _, _, _, clsF_8, by decide, tb_1 (List.mem_of_getElem? (i := 129) rfl) rfl, rfl⟩
theorem pX10_97 : lnkP RX10 97 8 2 .int := ⟨_, _, _, _, clsF_8, by decide, tb_1 (List.mem_of_getElem? (i := 129) rfl) rfl, rfl, rfl, rfl⟩
theorem fX9_11 : lnkF RX9 11 8 3 := ⟨_, _, _, _, clsF_8, by decide, tb_1 (List.mem_of_getElem? (i := 130) rfl) rfl, rfl⟩
theorem fX2_53 : lnkF RX2 53 8 3 := ⟨_, _, _, _, clsF_8, by decide, tb_1 (List.mem_of_getElem? (i := 131) rfl) rfl, rfl⟩
theorem fX9_15 : lnkF RX9 15 8 4 := ⟨_, _, _, _, clsF_8, by decide, tb_1 (List.mem_of_getElem? (i := 132) rfl) rfl, rfl⟩
theorem fX2_138 : lnkF RX2 138 8 4 := ⟨_, _, _, _, clsF_8, by decide, tb_1 (List.mem_of_getElem? (i := 133) rfl) rfl, rfl⟩
theorem fX9_18 : lnkF RX9 18 8 5 := ⟨_, _, _, _, clsF_8, by decide, tb_1 (List.mem_of_getElem? (i := 134) rfl) rfl, rfl⟩
theorem fX2_69 : lnkF RX2 69 8 5 := ⟨_, _, _, _, clsF_8, by decide, tb_1 (List.mem_of_getElem? (i := 135) rfl) rfl, rfl⟩
theorem fX9_21 : lnkF RX9 21 8 6 := ⟨_, _, _, _, clsF_8, by decide, tb_1 (List.mem_of_getElem? (i := 136) rfl) rfl, rfl⟩
theorem fX2_144 : lnkF RX2 144 8 6 := ⟨_, _, _, _, clsF_8, by decide, tb_1 (List.mem_of_getElem? (i := 137) rfl) rfl, rfl⟩
theorem fX9_24 : lnkF RX9 24 8 7 := ⟨_, _, _, _, clsF_8, by decide, tb_1 (List.mem_of_getElem? (i := 138) rfl) rfl, rfl⟩
theorem fX2_72 : lnkF RX2 72 8 7 := ⟨_, _, _, _, clsF_8, by decide, tb_1 (List.mem_of_getElem? (i := 139) rfl) rfl, rfl⟩
theorem fX9_27 : lnkF RX9 27 8 8 := ⟨_, _, _, _, clsF_8, by decide, tb_1 (List.mem_of_getElem? (i := 140) rfl) rfl, rfl⟩
theorem fX2_66 : lnkF RX2 66 8 8 := ⟨_, _, _, _, clsF_8, by decide, tb_1 (List.mem_of_getElem? (i := 141) rfl) rfl, rfl⟩
theorem fX6_9 : lnkF RX6 9 6 0 := ⟨_, _, _, _, clsF_6, by decide, tb_1 (List.mem_of_getElem? (i := 161) rfl) rfl, rfl⟩
theorem pX6_9 : lnkP RX6 9 6 0 .int := ⟨_, _, _, _, clsF_6, by decide, tb_1 (List.mem_of_getElem? (i := 161) rfl) rfl, rfl, rfl, rfl⟩
theorem fX7_63 : lnkF RX7 63 6 0 := ⟨_, _, _, _, clsF_6, by decide, tb_1 (List.mem_of_getElem? (i := 162) rfl) rfl, rfl⟩
theorem pX7_63 : lnkP RX7 63 6 0 .int := ⟨_, _, _, _, clsF_6, by decide, tb_1 (List.mem_of_getElem? (i := 162) rfl) rfl, rfl, rfl, rfl⟩
theorem fX2_134 : lnkF RX2 134 6 0 := ⟨_, _, _, _, clsF_6, by decide, tb_1 (List.mem_of_getElem? (i := 163) rfl) rfl, rfl⟩
theorem pX2_134 : lnkP RX2 134 6 0 .int := ⟨_, _, _, _, clsF_6, by decide, tb_1 (List.mem_of_getElem? (i := 163) rfl) rfl, rfl, rfl, rfl⟩
theorem fX11_210 : lnkF RX11 210 6 0 := ⟨_, _, _, _, clsF_6, by decide, tb_1 (List.mem_of_getElem? (i := 164) rfl) rfl, rfl⟩
theorem pX11_210 : lnkP RX11 210 6 0 .int := ⟨_, _, _, _, clsF_6, by decide, tb_1 (List.mem_of_getElem? (i := 164) rfl) rfl, rfl, rfl, rfl⟩
theorem fX6_60 : lnkF RX6 60 6 1 := ⟨_, _, _, _, clsF_6, by decide, tb_1 (List.mem_of_getElem? (i := 165) rfl) rfl, rfl⟩
theorem pX6_60 : lnkP RX6 60 6 1 .int := ⟨_, _, _, _, clsF_6, by decide, tb_1 (List.mem_of_getElem? (i := 165) rfl) rfl, rfl, rfl, rfl⟩
theorem fX11_213 : lnkF RX11 213 6 1 := ⟨_, _, _, _, clsF_6, by decide, tb_1 (List.mem_of_getElem? (i := 166) rfl) rfl, rfl⟩
theorem pX11_213 : lnkP RX11 213 6 1 .int := ⟨_, _, _, _, clsF_6, by decide, tb_1 (List.mem_of_getElem? (i := 166) rfl) rfl, rfl, rfl, rfl⟩
theorem fX6_63 : lnkF RX6 63 6 2 := ⟨_, _, _, _, clsF_6, by decide, tb_1 (List.mem_of_getElem? (i := 167) rfl) rfl, rfl⟩
theorem pX6_63 : lnkP RX6 63 6 2 .int := ⟨_, _, _, _, clsF_6, by decide, tb_1 (List.mem_of_getElem? (i := 167) rfl) rfl, rfl, rfl, rfl⟩
theorem fX0_41 : lnkF RX0 41 6 2 := ⟨_, _, _, _, clsF_6, by decide, tb_1 (List.mem_of_getElem? (i := 168) rfl) rfl, rfl⟩
theorem pX0_41 : lnkP RX0 41 6 2 .int := ⟨_, _, _, _, clsF_6, by decide, tb_1 (List.mem_of_getElem? (i := 168) rfl) rfl, rfl, rfl, rfl⟩
theorem fX7_67 : lnkF RX7 67 6 2 := ⟨_, _, _, _, clsF_6, by decide, tb_1 (List.mem_of_getElem? (i := 169) rfl) rfl, rfl⟩
theorem pX7_67 : lnkP RX7 67 6 2 .int := ⟨_, _, _, _, clsF_6, by decide, tb_1 (List.mem_of_getElem? (i := 169) rfl) rfl, rfl, rfl, rfl⟩
theorem fX3_98 : lnkF RX3 98 6 2 := ⟨_, _, _, _, clsF_6, by decide, tb_1 (List.mem_of_getElem? (i := 170) rfl) rfl, rfl⟩
theorem pX3_98 : lnkP RX3 98 6 2 .int := ⟨_, _, _, _, clsF_6, by decide, tb_1 (List.mem_of_getElem? (i := 170) rfl) rfl, rfl, rfl, rfl⟩
theorem fX2_127 : lnkF RX2 127 6 2 := ⟨_, _, _, _, clsF_6, by decide, tb_1 (List.mem_of_getElem? (i := 171) rfl) rfl, rfl⟩
theorem pX2_127 : lnkP RX2 127 6 2 .int := ⟨_, _, _, _, clsF_6, by decide, tb_1 (List.mem_of_getElem? (i := 171) rfl) rfl, rfl, rfl, rfl⟩
theorem fX11_201 : lnkF RX11 201 6 2 := ⟨_, _, _, _, clsF_6, by decide, tb_1 (List.mem_of_getElem? (i := 172) rfl) rfl, rfl⟩
theorem pX11_201 : lnkP RX11 201 6 2 .int := ⟨_, _, _, _, clsF_6, by decide, tb_1 (List.mem_of_getElem? (i := 172) rfl) rfl, rfl, rfl, rfl⟩
theorem fX6_66 : lnkF RX6 66 6 3 := ⟨_, _, _, _, clsF_6, by decide, tb_1 (List.mem_of_getElem? (i := 173) rfl) rfl, rfl⟩
theorem pX6_66 : lnkP RX6 66 6 3 .int := ⟨_, _, _, _, clsF_6, by decide, tb_1 (List.mem_of_getElem? (i := 173) rfl) rfl, rfl, rfl, rfl⟩
theorem fX3_89 : lnkF RX3 89 6 3 := ⟨_, _, _, _, clsF_6, by decide, tb_1 (List.mem_of_getElem? (i := 174) rfl) rfl, rfl⟩
theorem pX3_89 : lnkP RX3 89 6 3 .int := ⟨_, _, _, _, clsF_6, by decide, tb_1 (List.mem_of_getElem? (i := 174) rfl) rfl, rfl, rfl, rfl⟩
theorem fX7_90 : lnkF RX7 90 6 3 := ⟨_, _, _, _, clsF_6, by decide, tb_1 (List.mem_of_getElem? (i := 175) rfl) rfl, rfl⟩
theorem pX7_90 : lnkP RX7 90 6 3 .int := ⟨_, _, _, _, clsF_6, by decide, tb_1 (List.mem_of_getElem? (i := 175) rfl) rfl, rfl, rfl, rfl⟩
theorem fX11_204 : lnkF RX11 204 6 3 := ⟨_, _, _, _, clsF_6, by decide, tb_1 (List.mem_of_getElem? (i := 176) rfl) rfl, rfl⟩
theorem pX11_204 : lnkP RX11 204 6 3 .int := ⟨_, _, _, _, clsF_6, by decide, tb_1 (List.mem_of_getElem? (i := 176) rfl) rfl, rfl, rfl, rfl⟩
theorem fX6_69 : lnkF RX6 69 6 4 := ⟨_, _, _, _, clsF_6, by decide, tb_1 (List.mem_of_getElem? (i := 177) rfl) rfl, rfl⟩
theorem pX6_69 : lnkP RX6 69 6 4 .int := ⟨_, _, _, _, clsF_6, by decide, tb_1 (List.mem_of_getElem? (i := 177) rfl) rfl, rfl, rfl, rfl⟩
theorem fX7_108 : lnkF RX7 108 6 4 := ⟨_, _, _, _, clsF_6, by decide, tb_1 (List.mem_of_getElem? (i := 178) rfl) rfl, rfl⟩
theorem pX7_108 : lnkP RX7 108 6 4 .int := ⟨_, _, _, _, clsF_6, by decide, tb_1 (List.mem_of_getElem? (i := 178) rfl) rfl, rfl, rfl, rfl⟩
theorem fX11_174 : lnkF RX11 174 6 4 := ⟨_, _, _, _, clsF_6, by decide, tb_1 (List.mem_of_getElem? (i := 179) rfl) rfl, rfl⟩
theorem pX11_174 : lnkP RX11 174 6 4 .int := ⟨_, _, _, _, clsF_6, by decide, tb_1 (List.mem_of_getElem? (i := 179) rfl) rfl, rfl, rfl, rfl⟩
theorem fX3_125 : lnkF RX3 125 6 4 := ⟨_, _, _, _, clsF_6, by decide, tb_1 (List.mem_of_getElem? (i := 180) rfl) rfl, rfl⟩
theorem pX3_125 : lnkP RX3 125 6 4 .int := ⟨_, _, _, _, clsF_6, by decide, tb_1 (List.mem_of_getElem? (i := 180) rfl) rfl, rfl, rfl, rfl⟩
theorem fX6_72 : lnkF RX6 72 6 5 := ⟨_, _, _, _, clsF_6, by decide, tb_1 (List.mem_of_getElem? (i := 181) rfl) rfl, rfl⟩
theorem pX6_72 : lnkP RX6 72 6 5 .int := ⟨_, _, _, _, clsF_6, by decide, tb_1 (List.mem_of_getElem? (i := 181) rfl) rfl, rfl, rfl, rfl⟩
theorem fX3_30 : lnkF RX3 30 6 5 := ⟨_, _, _, _, clsF_6, by decide, tb_1 (List.mem_of_getElem? (i := 182) rfl) rfl, rfl⟩
theorem pX3_30 : lnkP RX3 30 6 5 .int := ⟨_, _, _, _, clsF_6, by decide, tb_1 (List.mem_of_getElem? (i := 182) rfl) rfl, rfl, rfl, rfl⟩
theorem fX1_44 : lnkF RX1 44 6 5 := ⟨_, _, _, _, clsF_6, by decide, tb_1 (List.mem_of_getElem? (i := 183) rfl) rfl, rfl⟩
theorem pX1_44 : lnkP RX1 44 6 5 .int := ⟨_, _, _, _, clsF_6, by decide, tb_1 (List.mem_of_getElem? (i := 183) rfl) rfl, rfl, rfl, rfl⟩
theorem fX7_115 : lnkF RX7 115 6 5 := ⟨_, _, _, _, clsF_6, by decide, tb_1 (List.mem_of_getElem? (i := 184) rfl) rfl, rfl⟩
theorem pX7_115 : lnkP RX7 115 6 5 .int := ⟨_, _, _, _, clsF_6, by decide, tb_1 (List.mem_of_getElem? (i := 184) rfl) rfl, rfl, rfl, rfl⟩
theorem fX11_207 : lnkF RX11 207 6 5 := ⟨_, _, _, _, clsF_6, by decide, tb_1 (List.mem_of_getElem? (i := 185) rfl) rfl, rfl⟩
theorem pX11_207 : lnkP RX11 207 6 5 .int := ⟨_, _, _, _, clsF_6, by decide, tb_1 (List.mem_of_getElem? (i := 185) rfl) rfl, rfl, rfl, rfl⟩
theorem fX6_75 : lnkF RX6 75 6 6 := ⟨_, _, _, _, clsF_6, by decide, tb_1 (List.mem_of_getElem? (i := 186) rfl) rfl, rfl⟩
theorem pX6_75 : lnkP RX6 75 6 6 .int := ⟨_, _, _, _, clsF_6, by decide, tb_1 (List.mem_of_getElem? (i := 186) rfl) rfl, rfl, rfl, rfl⟩
theorem fX1_37 : lnkF RX1 37 6 6 := ⟨_, _, _, _, clsF_6, by decide, tb_1 (List.mem_of_getElem? (i := 187) rfl) rfl, rfl⟩
theorem pX1_37 : lnkP RX1 37 6 6 .int := ⟨_, _, _, _, clsF_6, by decide, tb_1 (List.mem_of_getElem? (i := 187) rfl) rfl, rfl, rfl, rfl⟩
theorem fX11_229 : lnkF RX11 229 6 6 := ⟨_, _, _, _, clsF_6, by decide, tb_1 (List.mem_of_getElem? (i := 188) rfl) rfl, rfl⟩
theorem pX11_229 : lnkP RX11 229 6 6 .int := ⟨_, _, _, _, clsF_6, by decide, tb_1 (List.mem_of_getElem? (i := 188) rfl) rfl, rfl, rfl, rfl⟩
theorem fX6_15 : lnkF RX6 15 6 7 := ⟨_, _, _, _, clsF_6, by decide, tb_1 (List.mem_of_getElem? (i := 189) rfl) rfl, rfl⟩
theorem fX6_19 : lnkF RX6 19 6 8 := ⟨_, _, _, _, clsF_6, by decide, tb_1 (List.mem_of_getElem? (i := 190) rfl) rfl, rfl⟩
theorem fX11_235 : lnkF RX11 235 6 8 := ⟨_, _, _, _, clsF_6, by decide, tb_1 (List.mem_of_getElem? (i := 191) rfl) rfl, rfl⟩
theorem fX6_23 : lnkF RX6 23 6 9 := ⟨_, _, _, _, clsF_6, by decide, tb_1 (List.mem_of_getElem? (i := 192) rfl) rfl, rfl⟩
theorem fX0_15 : lnkF RX0 15 6 9 := ⟨_, _, _, _, clsF_6, by decide, tb_1 (List.mem_of_getElem? (i := 193) rfl) rfl, rfl⟩
theorem fX1_22 : lnkF RX1 22 6 9 := ⟨_, _, _, _, clsF_6, by decide, tb_1 (List.mem_of_getElem? (i := 194) rfl) rfl, rfl⟩
theorem fX3_58 : lnkF RX3 58 6 9 := ⟨_, _, _, _, clsF_6, by decide, tb_1 (List.mem_of_getElem? (i := 195) rfl) rfl, rfl⟩
theorem fX2_114 : lnkF RX2 114 6 9 := ⟨_, _, _, _, clsF_6, by decide, tb_1 (List.mem_of_getElem? (i := 196) rfl) rfl, rfl⟩
theorem fX11_216 : lnkF RX11 216 6 9 := ⟨_, _, _, _, clsF_6, by decide, tb_1 (List.mem_of_getElem? (i := 197) rfl) rfl, rfl⟩
theorem fX6_26 : lnkF RX6 26 6 10 := ⟨_, _, _, _, clsF_6, by decide, tb_1 (List.mem_of_getElem? (i := 198) rfl) rfl, rfl⟩
theorem fX3_92 : lnkF RX3 92 6 10 := ⟨_, _, _, _, clsF_6, by decide, tb_1 (List.mem_of_getElem? (i := 199) rfl) rfl, rfl⟩
theorem fX11_253 : lnkF RX11 253 6 10 := ⟨_, _, _, _, clsF_6, by decide, tb_1 (List.mem_of_getElem? (i := 200) rfl) rfl, rfl⟩
theorem fX6_29 : lnkF RX6 29 6 11 := ⟨_, _, _, _, clsF_6, by decide, tb_1 (List.mem_of_getElem? (i := 201) rfl) rfl, rfl⟩
theorem fX3_95 : lnkF RX3 95 6 11 := ⟨_, _, _, _, clsF_6, by decide, tb_1 (List.mem_of_getElem? (i := 202) rfl) rfl, rfl⟩
theorem fX11_256 : lnkF RX11 256 6 11 := ⟨_, _, _, _, clsF_6, by decide, tb_1 (List.mem_of_getElem? (i := 203) rfl) rfl, rfl⟩
theorem fX6_32 : lnkF RX6 32 6 12 := ⟨_, _, _, _, clsF_6, by decide, tb_1 (List.mem_of_getElem? (i := 204) rfl) rfl, rfl⟩
theorem fX6_35 : lnkF RX6 35 6 13 := ⟨_, _, _, _, clsF_6, by decide, tb_1 (List.mem_of_getElem? (i := 205) rfl) rfl, rfl⟩
theorem fX11_262 : lnkF RX11 262 6 13 := ⟨_, _, _, _, clsF_6, by decide, tb_1 (List.mem_of_getElem? (i := 206) rfl) rfl, rfl⟩
theorem fX3_140 : lnkF RX3 140 6 13 := ⟨_, _, _, _, clsF_6, by decide, tb_1 (List.mem_of_getElem? (i := 207) rfl) rfl, rfl⟩
theorem fX6_38 : lnkF RX6 38 6 14 := ⟨_, _, _, _, clsF_6, by decide, tb_1 (List.mem_of_getElem? (i := 208) rfl) rfl, rfl⟩
theorem fX11_265 : lnkF RX11 265 6 14 := ⟨_, _, _, _, clsF_6, by decide, tb_1 (List.mem_of_getElem? (i := 209) rfl) rfl, rfl⟩
theorem fX6_41 : lnkF RX6 41 6 15 := ⟨_, _, _, _, clsF_6, by decide, tb_1 (List.mem_of_getElem? (i := 210) rfl) rfl, rfl⟩
theorem fX0_30 : lnkF RX0 30 6 15 := ⟨_, _, _, _, clsF_6, by decide, tb_1 (List.mem_of_getElem? (i := 211) rfl) rfl, rfl⟩
theorem fX1_74 : lnkF RX1 74 6 15 := ⟨_, _, _, _, clsF_6, by decide, tb_1 (List.mem_of_getElem? (i := 212) rfl) rfl, rfl⟩
theorem fX2_124 : lnkF RX2 124 6 15 := ⟨_, _, _, _, clsF_6, by decide, tb_1 (List.mem_of_getElem? (i := 213) rfl) rfl, rfl⟩
theorem fX3_128 : lnkF RX3 128 6 15 := ⟨_, _, _, _, clsF_6, by decide, tb_1 (List.mem_of_getElem? (i := 214) rfl) rfl, rfl⟩
theorem fX11_268 : lnkF RX11 268 6 15 := ⟨_, _, _, _, clsF_6, by decide, tb_1 (List.mem_of_getElem? (i := 215) rfl) rfl, rfl⟩
theorem fX6_44 : lnkF RX6 44 6 16 := ⟨_, _, _, _, clsF_6, by decide, tb_1 (List.mem_of_getElem? (i := 216) rfl) rfl, rfl⟩
theorem fX3_131 : lnkF RX3 131 6 16 := ⟨_, _, _, _, clsF_6, by decide, tb_1 (List.mem_of_getElem? (i := 217) rfl) rfl, rfl⟩
theorem fX11_271 : lnkF RX11 271 6 16 := ⟨_, _, _, _, clsF_6, by decide, tb_1 (List.mem_of_getElem? (i := 218) rfl) rfl, rfl⟩
theorem fX6_47 : lnkF RX6 47 6 17 := ⟨_, _, _, _, clsF_6, by decide, tb_1 (List.mem_of_getElem? (i := 219) rfl) rfl, rfl⟩
theorem fX1_55 : lnkF RX1 55 6 17 := ⟨_, _, _, _, clsF_6, by decide, tb_1 (List.mem_of_getElem? (i := 220) rfl) rfl, rfl⟩
theorem fX3_67 : lnkF RX3 67 6 17 := ⟨_, _, _, _, clsF_6, by decide, tb_1 (List.mem_of_getElem? (i := 221) rfl) rfl, rfl⟩
theorem fX11_280 : lnkF RX11 280 6 17 := ⟨_, _, _, _, clsF_6, by decide, tb_1 (List.mem_of_getElem? (i := 222) rfl) rfl, rfl⟩
theorem fX6_50 : lnkF RX6 50 6 18 := ⟨_, _, _, _, clsF_6, by decide, tb_1 (List.mem_of_getElem? (i := 223) rfl) rfl, rfl⟩
theorem fX3_70 : lnkF RX3 70 6 18 := ⟨_, _, _, _, clsF_6, by decide, tb_1 (List.mem_of_getElem? (i := 224) rfl) rfl, rfl⟩
theorem fX1_58 : lnkF RX1 58 6 18 := ⟨_, _, _, _, clsF_6, by decide, tb_1 (List.mem_of_getElem? (i := 225) rfl) rfl, rfl⟩
theorem fX11_283 : lnkF RX11 283 6 18 := ⟨_, _, _, _, clsF_6, by decide, tb_1 (List.mem_of_getElem? (i := 226) rfl) rfl, rfl⟩
theorem fX6_56 : lnkF RX6 56 6 19 := ⟨_, _, _, _, clsF_6, by decide, tb_1 (List.mem_of_getElem? (i := 227) rfl) rfl, rfl⟩
theorem fX2_17 : lnkF RX2 17 6 19 := ⟨_, _, _, _, clsF_6, by decide, tb_1 (List.mem_of_getElem? (i := 228) rfl) rfl, rfl⟩
theorem fX11_180 : lnkF RX11 180 6 19 := ⟨_, _, _, _, clsF_6, by decide, tb_1 (List.mem_of_getElem? (i := 229) rfl) rfl, rfl⟩
theorem lX11_74 : Cond.methodLink RX11 74 yX2_init ∈ TB := tb_2 (List.mem_of_getElem? (i := 34) rfl) rfl
theorem fX2_23 : lnkF RX2 23 2 0 := ⟨_, _, _, _, clsF_2, by decide, tb_2 (List.mem_of_getElem? (i := 38) rfl) rfl, rfl⟩
theorem pX2_23 : lnkP RX2 23 2 0 .int := ⟨_, _, _, _, clsF_2, by decide, tb_2 (List.mem_of_getElem? (i := 38) rfl) rfl, rfl, rfl, rfl⟩
theorem fX2_27 : lnkF RX2 27 2 1 := ⟨_, _, _, _, clsF_2, by decide, tb_2 (List.mem_of_getElem? (i := 39) rfl) rfl, rfl⟩
theorem pX2_27 : lnkP RX2 27 2 1 .int := ⟨_, _, _, _, clsF_2, by decide, tb_2 (List.mem_of_getElem? (i := 39) rfl) rfl, rfl, rfl, rfl⟩
theorem fX2_11 : lnkF RX2 11 2 2 := ⟨_, _, _, _, clsF_2, by decide, tb_2 (List.mem_of_getElem? (i := 40) rfl) rfl, rfl⟩
theorem fX2_30 : lnkF RX2 30 2 3 := ⟨_, _, _, _, clsF_2, by decide, tb_2 (List.mem_of_getElem? (i := 41) rfl) rfl, rfl⟩
theorem pX2_30 : lnkP RX2 30 2 3 .int := ⟨_, _, _, _, clsF_2, by decide, tb_2 (List.mem_of_getElem? (i := 41) rfl) rfl, rfl, rfl, rfl⟩
theorem fX11_418 : lnkF RX11 418 2 3 := ⟨_, _, _, _, clsF_2, by decide, tb_2 (List.mem_of_getElem? (i := 42) rfl) rfl, rfl⟩
theorem pX11_418 : lnkP RX11 418 2 3 .int := ⟨_, _, _, _, clsF_2, by decide, tb_2 (List.mem_of_getElem? (i := 42) rfl) rfl, rfl, rfl, rfl⟩
theorem fX2_33 : lnkF RX2 33 2 4 := ⟨_, _, _, _, clsF_2, by decide, tb_2 (List.mem_of_getElem? (i := 43) rfl) rfl, rfl⟩
theorem pX2_33 : lnkP RX2 33 2 4 .int := ⟨_, _, _, _, clsF_2, by decide, tb_2 (List.mem_of_getElem? (i := 43) rfl) rfl, rfl, rfl, rfl⟩
theorem fX2_36 : lnkF RX2 36 2 5 := ⟨_, _, _, _, clsF_2, by decide, tb_2 (List.mem_of_getElem? (i := 44) rfl) rfl, rfl⟩
theorem pX2_36 : lnkP RX2 36 2 5 .int := ⟨_, _, _, _, clsF_2, by decide, tb_2 (List.mem_of_getElem? (i := 44) rfl) rfl, rfl, rfl, rfl⟩
theorem fX2_39 : lnkF RX2 39 2 6 := ⟨_, _, _, _, clsF_2, by decide, tb_2 (List.mem_of_getElem? (i := 45) rfl) rfl, rfl⟩
theorem pX2_39 : lnkP RX2 39 2 6 .int := ⟨_, _, _, _, clsF_2, by decide, tb_2 (List.mem_of_getElem? (i := 45) rfl) rfl, rfl, rfl, rfl⟩
theorem fX2_42 : lnkF RX2 42 2 7 := ⟨_, _, _, _, clsF_2, by decide, tb_2 (List.mem_of_getElem? (i := 46) rfl) rfl, rfl⟩
theorem pX2_42 : lnkP RX2 42 2 7 .int := ⟨_, _, _, _, clsF_2, by decide, tb_2 (List.mem_of_getElem? (i := 46) rfl) rfl, rfl, rfl, rfl⟩
theorem fX2_45 : lnkF RX2 45 2 8 := ⟨_, _, _, _, clsF_2, by decide, tb_2 (List.mem_of_getElem? (i := 47) rfl) rfl, rfl⟩
theorem pX2_45 : lnkP RX2 45 2 8 .boolean := ⟨_, _, _, _, clsF_2, by decide, tb_2 (List.mem_of_getElem? (i := 47) rfl) rfl, rfl, rfl, rfl⟩
theorem lX11_89 : Cond.methodLink RX11 89 yX0_init ∈ TB := tb_2 (List.mem_of_getElem? (i := 69) rfl) rfl
theorem fX0_9 : lnkF RX0 9 0 0 := ⟨_, _, _, _, clsF_0, by decide, tb_2 (List.mem_of_getElem? (i := 73) rfl) rfl, rfl⟩
theorem fX11_323 : lnkF RX11 323 0 0 := ⟨_, _, _, _, clsF_0, by decide, tb_2 (List.mem_of_getElem? (i := 74) rfl) rfl, rfl⟩
theorem lX11_96 : Cond.methodLink RX11 96 yX3_init ∈ TB := tb_2 (List.mem_of_getElem? (i := 80) rfl) rfl
theorem fX3_9 : lnkF RX3 9 3 0 := ⟨_, _, _, _, clsF_3, by decide, tb_2 (List.mem_of_getElem? (i := 84) rfl) rfl, rfl⟩
theorem fX3_15 : lnkF RX3 15 3 1 := ⟨_, _, _, _, clsF_3, by decide, tb_2 (List.mem_of_getElem? (i := 85) rfl) rfl, rfl⟩
theorem fX3_18 : lnkF RX3 18 3 2 := ⟨_, _, _, _, clsF_3, by decide, tb_2 (List.mem_of_getElem? (i := 86) rfl) rfl, rfl⟩
theorem fX3_21 : lnkF RX3 21 3 3 := ⟨_, _, _, _, clsF_3, by decide, tb_2 (List.mem_of_getElem? (i := 87) rfl) rfl, rfl⟩
theorem fX3_24 : lnkF RX3 24 3 4 := ⟨_, _, _, _, clsF_3, by decide, tb_2 (List.mem_of_getElem? (i := 88) rfl) rfl, rfl⟩
theorem fX3_27 : lnkF RX3 27 3 5 := ⟨_, _, _, _, clsF_3, by decide, tb_2 (List.mem_of_getElem? (i := 89) rfl) rfl, rfl⟩
theorem lX11_103 : Cond.methodLink RX11 103 yX1_init ∈ TB := tb_2 (List.mem_of_getElem? (i := 105) rfl) rfl
theorem fX1_9 : lnkF RX1 9 1 0 := ⟨_, _, _, _, clsF_1, by decide, tb_2 (List.mem_of_getElem? (i := 109) rfl) rfl, rfl⟩
theorem fX1_15 : lnkF RX1 15 1 1 := ⟨_, _, _, _, clsF_1, by decide, tb_2 (List.mem_of_getElem? (i := 110) rfl) rfl, rfl⟩
theorem pX1_15 : lnkP RX1 15 1 1 .int := ⟨_, _, _, _, clsF_1, by decide, tb_2 (List.mem_of_getElem? (i := 110) rfl) rfl, rfl, rfl, rfl⟩
theorem fX1_19 : lnkF RX1 19 1 2 := ⟨_, _, _, _, clsF_1, by decide, tb_2 (List.mem_of_getElem? (i := 111) rfl) rfl, rfl⟩
theorem pX1_19 : lnkP RX1 19 1 2 .int := ⟨_, _, _, _, clsF_1, by decide, tb_2 (List.mem_of_getElem? (i := 111) rfl) rfl, rfl, rfl, rfl⟩
theorem fX11_9 : lnkF RX11 9 10 0 := ⟨_, _, _, _, clsF_10, by decide, tb_2 (List.mem_of_getElem? (i := 119) rfl) rfl, rfl⟩
theorem pX11_9 : lnkP RX11 9 10 0 .int := ⟨_, _, _, _, clsF_10, by decide, tb_2 (List.mem_of_getElem? (i := 119) rfl) rfl, rfl, rfl, rfl⟩
theorem fX11_13 : lnkF RX11 13 10 1 := ⟨_, _, _, _, clsF_10, by decide, tb_2 (List.mem_of_getElem? (i := 120) rfl) rfl, rfl⟩
theorem pX11_13 : lnkP RX11 13 10 1 .long := ⟨_, _, _, _, clsF_10, by decide, tb_2 (List.mem_of_getElem? (i := 120) rfl) rfl, rfl, rfl, rfl⟩
theorem fX11_17 : lnkF RX11 17 10 2 := ⟨_, _, _, _, clsF_10, by decide, tb_2 (List.mem_of_getElem? (i := 121) rfl) rfl, rfl⟩
theorem pX11_17 : lnkP RX11 17 10 2 .long := ⟨_, _, _, _, clsF_10, by decide, tb_2 (List.mem_of_getElem? (i := 121) rfl) rfl, rfl, rfl, rfl⟩
theorem fX11_20 : lnkF RX11 20 10 3 := ⟨_, _, _, _, clsF_10, by decide, tb_2 (List.mem_of_getElem? (i := 122) rfl) rfl, rfl⟩
theorem fX11_24 : lnkF RX11 24 10 4 := ⟨_, _, _, _, clsF_10, by decide, tb_2 (List.mem_of_getElem? (i := 123) rfl) rfl, rfl⟩
theorem pX11_24 : lnkP RX11 24 10 4 .int := ⟨_, _, _, _, clsF_10, by decide, tb_2 (List.mem_of_getElem? (i := 123) rfl) rfl, rfl, rfl, rfl⟩
theorem fX11_30 : lnkF RX11 30 10 5 := ⟨_, _, _, _, clsF_10, by decide, tb_2 (List.mem_of_getElem? (i := 124) rfl) rfl, rfl⟩
theorem fX11_37 : lnkF RX11 37 10 6 := ⟨_, _, _, _, clsF_10, by decide, tb_2 (List.mem_of_getElem? (i := 125) rfl) rfl, rfl⟩
theorem fX11_44 : lnkF RX11 44 10 7 := ⟨_, _, _, _, clsF_10, by decide, tb_2 (List.mem_of_getElem? (i := 126) rfl) rfl, rfl⟩
theorem fX11_51 : lnkF RX11 51 10 8 := ⟨_, _, _, _, clsF_10, by decide, tb_2 (List.mem_of_getElem? (i := 127) rfl) rfl, rfl⟩
theorem fX11_58 : lnkF RX11 58 10 9 := ⟨_, _, _, _, clsF_10, by decide, tb_2 (List.mem_of_getElem? (i := 128) rfl) rfl, rfl⟩
theorem fX11_62 : lnkF RX11 62 10 10 := ⟨_, _, _, _, clsF_10, by decide, tb_2 (List.mem_of_getElem? (i := 129) rfl) rfl, rfl⟩
theorem fX11_65 : lnkF RX11 65 10 11 := ⟨_, _, _, _, clsF_10, by decide, tb_2 (List.mem_of_getElem? (i := 130) rfl) rfl, rfl⟩
theorem fX11_69 : lnkF RX11 69 10 12 := ⟨_, _, _, _, clsF_10, by decide, tb_2 (List.mem_of_getElem? (i := 131) rfl) rfl, rfl⟩
theorem pX11_69 : lnkP RX11 69 10 12 .int := ⟨_, _, _, _, clsF_10, by decide, tb_2 (List.mem_of_getElem? (i := 131) rfl) rfl, rfl, rfl, rfl⟩
theorem fX11_75 : lnkF RX11 75 10 13 := ⟨_, _, _, _, clsF_10, by decide, tb_2 (List.mem_of_getElem? (i := 132) rfl) rfl, rfl⟩
theorem fX11_79 : lnkF RX11 79 10 14 := ⟨_, _, _, _, clsF_10, by decide, tb_2 (List.mem_of_getElem? (i := 133) rfl) rfl, rfl⟩
theorem fX11_83 : lnkF RX11 83 10 15 := ⟨_, _, _, _, clsF_10, by decide, tb_2 (List.mem_of_getElem? (i := 134) rfl) rfl, rfl⟩
theorem pX11_83 : lnkP RX11 83 10 15 .boolean := ⟨_, _, _, _, clsF_10, by decide, tb_2 (List.mem_of_getElem? (i := 134) rfl) rfl, rfl, rfl, rfl⟩
theorem fX11_90 : lnkF RX11 90 10 16 := ⟨_, _, _, _, clsF_10, by decide, tb_2 (List.mem_of_getElem? (i := 135) rfl) rfl, rfl⟩
theorem fX11_97 : lnkF RX11 97 10 17 := ⟨_, _, _, _, clsF_10, by decide, tb_2 (List.mem_of_getElem? (i := 136) rfl) rfl, rfl⟩
theorem fX11_104 : lnkF RX11 104 10 18 := ⟨_, _, _, _, clsF_10, by decide, tb_2 (List.mem_of_getElem? (i := 137) rfl) rfl, rfl⟩
theorem lL_13 : Cond.methodLink RL 13 yX11_status ∈ TB := tb_2 (List.mem_of_getElem? (i := 177) rfl) rfl
theorem lL_18 : Cond.methodLink RL 18 yX11_top ∈ TB := tb_2 (List.mem_of_getElem? (i := 181) rfl) rfl
theorem lL_23 : Cond.methodLink RL 23 yX11_bottom ∈ TB := tb_2 (List.mem_of_getElem? (i := 185) rfl) rfl
theorem lL_27 : Cond.methodLink RL 27 yX11_tray ∈ TB := tb_2 (List.mem_of_getElem? (i := 189) rfl) rfl
theorem lX11_108 : Cond.methodLink RX11 108 yX5_isTray ∈ TB := tb_2 (List.mem_of_getElem? (i := 193) rfl) rfl
theorem lX11_112 : Cond.methodLink RX11 112 yX11_refuse ∈ TB := tb_2 (List.mem_of_getElem? (i := 196) rfl) rfl
theorem lX11_115 : Cond.methodLink RX11 115 yX5_lay ∈ TB := tb_2 (List.mem_of_getElem? (i := 200) rfl) rfl
theorem lX5_29 : Cond.methodLink RX5 29 yJ7_fill_d0a16 ∈ TB := tb_2 (List.mem_of_getElem? (i := 204) rfl) rfl
theorem lX11_119 : Cond.methodLink RX11 119 yX11_agree ∈ TB := tb_2 (List.mem_of_getElem? (i := 207) rfl) rfl
theorem lL_34 : Cond.methodLink RL 34 yX11_write ∈ TB := tb_2 (List.mem_of_getElem? (i := 211) rfl) rfl
theorem lX11_123 : Cond.methodLink RX11 123 yX5_whyNot ∈ TB := tb_2 (List.mem_of_getElem? (i := 215) rfl) rfl
theorem lX5_32 : Cond.methodLink RX5 32 yX5_isTray ∈ TB := tb_2 (List.mem_of_getElem? (i := 219) rfl) rfl
theorem lX5_36 : Cond.methodLink RX5 36 yX5_isMissing ∈ TB := tb_2 (List.mem_of_getElem? (i := 220) rfl) rfl
theorem lX5_39 : Cond.methodLink RX5 39 yX5_has ∈ TB := tb_2 (List.mem_of_getElem? (i := 224) rfl) rfl
theorem lX11_127 : Cond.methodLink RX11 127 yX5_put ∈ TB := tb_2 (List.mem_of_getElem? (i := 228) rfl) rfl
theorem lL_39 : Cond.methodLink RL 39 yX11_read ∈ TB := tb_2 (List.mem_of_getElem? (i := 232) rfl) rfl
theorem lX11_131 : Cond.methodLink RX11 131 yX11_none ∈ TB := tb_2 (List.mem_of_getElem? (i := 236) rfl) rfl
theorem lL_44 : Cond.methodLink RL 44 yX11_pour ∈ TB := tb_3 (List.mem_of_getElem? (i := 0) rfl) rfl
theorem lX11_139 : Cond.methodLink RX11 139 yX5_isMissing ∈ TB := tb_3 (List.mem_of_getElem? (i := 4) rfl) rfl
theorem lX11_145 : Cond.methodLink RX11 145 yX5_has ∈ TB := tb_3 (List.mem_of_getElem? (i := 5) rfl) rfl
theorem lL_49 : Cond.methodLink RL 49 yX11_feed ∈ TB := tb_3 (List.mem_of_getElem? (i := 9) rfl) rfl
theorem lX11_155 : Cond.methodLink RX11 155 yX11_feedInt ∈ TB := tb_3 (List.mem_of_getElem? (i := 13) rfl) rfl
theorem lL_54 : Cond.methodLink RL 54 yX11_wood ∈ TB := tb_3 (List.mem_of_getElem? (i := 17) rfl) rfl
theorem lX11_159 : Cond.methodLink RX11 159 yX4_open ∈ TB := tb_3 (List.mem_of_getElem? (i := 21) rfl) rfl
theorem lX4_29 : Cond.methodLink RX4 29 yJ9_min_7cf53 ∈ TB := tb_3 (List.mem_of_getElem? (i := 25) rfl) rfl
theorem lX4_35 : Cond.methodLink RX4 35 yJ9_max_7cf53 ∈ TB := tb_3 (List.mem_of_getElem? (i := 28) rfl) rfl
theorem lX4_41 : Cond.methodLink RX4 41 yX4_isLetter ∈ TB := tb_3 (List.mem_of_getElem? (i := 31) rfl) rfl
theorem lX4_45 : Cond.methodLink RX4 45 yX4_addWord ∈ TB := tb_3 (List.mem_of_getElem? (i := 34) rfl) rfl
theorem lX4_65 : Cond.methodLink RX4 65 yX8_codeWith ∈ TB := tb_3 (List.mem_of_getElem? (i := 38) rfl) rfl
theorem kX8_7 : Cond.constantLong RX8 7 (32) ∈ TB := tb_3 (List.mem_of_getElem? (i := 41) rfl) rfl
theorem lX4_71 : Cond.methodLink RX4 71 yX8_keywordOf ∈ TB := tb_3 (List.mem_of_getElem? (i := 42) rfl) rfl
theorem lX8_13 : Cond.methodLink RX8 13 yJ0_length_8abf5 ∈ TB := tb_3 (List.mem_of_getElem? (i := 46) rfl) rfl
theorem lJ0_335 : Cond.methodLink RJ0 335 yJ0_coder_7d493 ∈ TB := tb_3 (List.mem_of_getElem? (i := 50) rfl) rfl
theorem lX8_19 : Cond.methodLink RX8 19 yJ0_charAt_5068e ∈ TB := tb_3 (List.mem_of_getElem? (i := 56) rfl) rfl
theorem lJ0_492 : Cond.methodLink RJ0 492 yJ0_isLatin1_aae02 ∈ TB := tb_3 (List.mem_of_getElem? (i := 60) rfl) rfl
theorem lJ0_495 : Cond.methodLink RJ0 495 yJ1_charAt_3b067 ∈ TB := tb_3 (List.mem_of_getElem? (i := 64) rfl) rfl
theorem lJ1_9 : Cond.methodLink RJ1 9 yJ0_checkIndex_df160 ∈ TB := tb_3 (List.mem_of_getElem? (i := 67) rfl) rfl
theorem lJ0_1059 : Cond.methodLink RJ0 1059 yJ3_checkIndex_8e157 ∈ TB := tb_3 (List.mem_of_getElem? (i := 72) rfl) rfl
theorem lJ0_498 : Cond.methodLink RJ0 498 yJ2_charAt_3b067 ∈ TB := tb_3 (List.mem_of_getElem? (i := 75) rfl) rfl
theorem lJ2_67 : Cond.methodLink RJ2 67 yJ2_checkIndex_2214a ∈ TB := tb_3 (List.mem_of_getElem? (i := 78) rfl) rfl
theorem lJ2_48 : Cond.methodLink RJ2 48 yJ2_length_9d52b ∈ TB := tb_3 (List.mem_of_getElem? (i := 81) rfl) rfl
theorem lJ2_414 : Cond.methodLink RJ2 414 yJ0_checkIndex_df160 ∈ TB := tb_3 (List.mem_of_getElem? (i := 84) rfl) rfl
theorem lJ2_71 : Cond.methodLink RJ2 71 yJ2_getChar_3b067 ∈ TB := tb_3 (List.mem_of_getElem? (i := 85) rfl) rfl
theorem lX8_23 : Cond.methodLink RX8 23 yX8_codeWith ∈ TB := tb_3 (List.mem_of_getElem? (i := 94) rfl) rfl
theorem lX4_58 : Cond.methodLink RX4 58 yX4_add ∈ TB := tb_3 (List.mem_of_getElem? (i := 95) rfl) rfl
theorem lX4_49 : Cond.methodLink RX4 49 yX4_isDigit ∈ TB := tb_3 (List.mem_of_getElem? (i := 99) rfl) rfl
theorem lX4_52 : Cond.methodLink RX4 52 yX4_addNumber ∈ TB := tb_3 (List.mem_of_getElem? (i := 102) rfl) rfl
theorem lX4_55 : Cond.methodLink RX4 55 yX4_isSign ∈ TB := tb_3 (List.mem_of_getElem? (i := 106) rfl) rfl
theorem lX11_163 : Cond.methodLink RX11 163 yX7_readInto ∈ TB := tb_3 (List.mem_of_getElem? (i := 109) rfl) rfl
theorem lX7_9 : Cond.methodLink RX7 9 yX6_makeEmpty ∈ TB := tb_3 (List.mem_of_getElem? (i := 113) rfl) rfl
theorem lX6_78 : Cond.methodLink RX6 78 yX9_makeEmpty ∈ TB := tb_3 (List.mem_of_getElem? (i := 117) rfl) rfl
theorem lX7_20 : Cond.methodLink RX7 20 yX4_goOn ∈ TB := tb_3 (List.mem_of_getElem? (i := 121) rfl) rfl
theorem lX7_26 : Cond.methodLink RX7 26 yX7_readPart ∈ TB := tb_3 (List.mem_of_getElem? (i := 125) rfl) rfl
theorem lX7_33 : Cond.methodLink RX7 33 yX4_keyword ∈ TB := tb_3 (List.mem_of_getElem? (i := 129) rfl) rfl
theorem lX7_37 : Cond.methodLink RX7 37 yX7_readOdds ∈ TB := tb_3 (List.mem_of_getElem? (i := 133) rfl) rfl
theorem lX7_52 : Cond.methodLink RX7 52 yX4_fail ∈ TB := tb_3 (List.mem_of_getElem? (i := 137) rfl) rfl
theorem lX7_56 : Cond.methodLink RX7 56 yX4_step ∈ TB := tb_3 (List.mem_of_getElem? (i := 141) rfl) rfl
theorem lX7_59 : Cond.methodLink RX7 59 yX4_takeNumber ∈ TB := tb_3 (List.mem_of_getElem? (i := 145) rfl) rfl
theorem lX4_79 : Cond.methodLink RX4 79 yX4_fail ∈ TB := tb_3 (List.mem_of_getElem? (i := 149) rfl) rfl
theorem lX4_83 : Cond.methodLink RX4 83 yX4_step ∈ TB := tb_3 (List.mem_of_getElem? (i := 150) rfl) rfl
theorem lX7_40 : Cond.methodLink RX7 40 yX7_readMatter ∈ TB := tb_3 (List.mem_of_getElem? (i := 151) rfl) rfl
theorem lX7_70 : Cond.methodLink RX7 70 yX7_begin ∈ TB := tb_3 (List.mem_of_getElem? (i := 154) rfl) rfl
theorem lX7_74 : Cond.methodLink RX7 74 yX4_takeNewName ∈ TB := tb_3 (List.mem_of_getElem? (i := 157) rfl) rfl
theorem lX4_88 : Cond.methodLink RX4 88 yX6_matterNamed ∈ TB := tb_3 (List.mem_of_getElem? (i := 161) rfl) rfl
theorem lX4_93 : Cond.methodLink RX4 93 yX6_sitterNamed ∈ TB := tb_3 (List.mem_of_getElem? (i := 165) rfl) rfl
theorem lX7_80 : Cond.methodLink RX7 80 yX4_takeKeyword ∈ TB := tb_3 (List.mem_of_getElem? (i := 169) rfl) rfl
theorem lX4_75 : Cond.methodLink RX4 75 yX4_keyword ∈ TB := tb_3 (List.mem_of_getElem? (i := 173) rfl) rfl
theorem lX7_83 : Cond.methodLink RX7 83 yX4_areGood ∈ TB := tb_3 (List.mem_of_getElem? (i := 174) rfl) rfl
theorem lX7_86 : Cond.methodLink RX7 86 yX6_addMatter ∈ TB := tb_3 (List.mem_of_getElem? (i := 178) rfl) rfl
theorem lX7_43 : Cond.methodLink RX7 43 yX7_readHold ∈ TB := tb_3 (List.mem_of_getElem? (i := 182) rfl) rfl
theorem lX7_93 : Cond.methodLink RX7 93 yX4_takeMatter ∈ TB := tb_3 (List.mem_of_getElem? (i := 185) rfl) rfl
theorem lX4_96 : Cond.methodLink RX4 96 yX4_matterHere ∈ TB := tb_3 (List.mem_of_getElem? (i := 189) rfl) rfl
theorem lX7_97 : Cond.methodLink RX7 97 yX4_matterHere ∈ TB := tb_3 (List.mem_of_getElem? (i := 193) rfl) rfl
theorem lX7_100 : Cond.methodLink RX7 100 yX6_isHeldBy ∈ TB := tb_3 (List.mem_of_getElem? (i := 194) rfl) rfl
theorem lX7_104 : Cond.methodLink RX7 104 yX6_addHold ∈ TB := tb_3 (List.mem_of_getElem? (i := 198) rfl) rfl
theorem lX7_46 : Cond.methodLink RX7 46 yX7_readSitter ∈ TB := tb_3 (List.mem_of_getElem? (i := 202) rfl) rfl
theorem lX7_111 : Cond.methodLink RX7 111 yX6_addSitter ∈ TB := tb_3 (List.mem_of_getElem? (i := 205) rfl) rfl
theorem lX7_49 : Cond.methodLink RX7 49 yX7_readNews ∈ TB := tb_3 (List.mem_of_getElem? (i := 209) rfl) rfl
theorem lX7_118 : Cond.methodLink RX7 118 yX6_addNews ∈ TB := tb_3 (List.mem_of_getElem? (i := 212) rfl) rfl
theorem lX7_30 : Cond.methodLink RX7 30 yX4_takeEndOfPart ∈ TB := tb_3 (List.mem_of_getElem? (i := 216) rfl) rfl
theorem kX4_86 : Cond.constantLong RX4 86 (59) ∈ TB := tb_3 (List.mem_of_getElem? (i := 220) rfl) rfl
theorem lX11_167 : Cond.methodLink RX11 167 yX4_areGood ∈ TB := tb_3 (List.mem_of_getElem? (i := 221) rfl) rfl
theorem lX11_170 : Cond.methodLink RX11 170 yX6_takeFrom ∈ TB := tb_3 (List.mem_of_getElem? (i := 222) rfl) rfl
theorem lX6_87 : Cond.methodLink RX6 87 yX9_takeFrom ∈ TB := tb_3 (List.mem_of_getElem? (i := 227) rfl) rfl
theorem lX11_177 : Cond.methodLink RX11 177 yX11_answer ∈ TB := tb_3 (List.mem_of_getElem? (i := 232) rfl) rfl
theorem lL_59 : Cond.methodLink RL 59 yX11_years ∈ TB := tb_3 (List.mem_of_getElem? (i := 236) rfl) rfl
theorem lX11_184 : Cond.methodLink RX11 184 yX10_readInto ∈ TB := tb_4 (List.mem_of_getElem? (i := 0) rfl) rfl
theorem lX10_15 : Cond.methodLink RX10 15 yX9_makeEmpty ∈ TB := tb_4 (List.mem_of_getElem? (i := 4) rfl) rfl
theorem lX10_28 : Cond.methodLink RX10 28 yX4_goOn ∈ TB := tb_4 (List.mem_of_getElem? (i := 5) rfl) rfl
theorem lX10_34 : Cond.methodLink RX10 34 yX4_keyword ∈ TB := tb_4 (List.mem_of_getElem? (i := 6) rfl) rfl
theorem lX10_38 : Cond.methodLink RX10 38 yX10_begin ∈ TB := tb_4 (List.mem_of_getElem? (i := 7) rfl) rfl
theorem lX10_58 : Cond.methodLink RX10 58 yX10_isStep ∈ TB := tb_4 (List.mem_of_getElem? (i := 11) rfl) rfl
theorem lX10_52 : Cond.methodLink RX10 52 yX4_fail ∈ TB := tb_4 (List.mem_of_getElem? (i := 14) rfl) rfl
theorem lX10_65 : Cond.methodLink RX10 65 yX10_isOpening ∈ TB := tb_4 (List.mem_of_getElem? (i := 15) rfl) rfl
theorem lX10_68 : Cond.methodLink RX10 68 yX4_step ∈ TB := tb_4 (List.mem_of_getElem? (i := 18) rfl) rfl
theorem lX10_42 : Cond.methodLink RX10 42 yX4_areGood ∈ TB := tb_4 (List.mem_of_getElem? (i := 19) rfl) rfl
theorem lX10_45 : Cond.methodLink RX10 45 yX10_readRest ∈ TB := tb_4 (List.mem_of_getElem? (i := 20) rfl) rfl
theorem lX10_71 : Cond.methodLink RX10 71 yX4_takeNumber ∈ TB := tb_4 (List.mem_of_getElem? (i := 24) rfl) rfl
theorem lX10_75 : Cond.methodLink RX10 75 yX9_addStep ∈ TB := tb_4 (List.mem_of_getElem? (i := 25) rfl) rfl
theorem lX9_49 : Cond.methodLink RX9 49 yX9_add ∈ TB := tb_4 (List.mem_of_getElem? (i := 29) rfl) rfl
theorem lX10_79 : Cond.methodLink RX10 79 yX4_takeMatter ∈ TB := tb_4 (List.mem_of_getElem? (i := 33) rfl) rfl
theorem lX10_83 : Cond.methodLink RX10 83 yX4_takeSitter ∈ TB := tb_4 (List.mem_of_getElem? (i := 34) rfl) rfl
theorem lX10_86 : Cond.methodLink RX10 86 yX10_goIn ∈ TB := tb_4 (List.mem_of_getElem? (i := 38) rfl) rfl
theorem lX10_90 : Cond.methodLink RX10 90 yX10_readTest ∈ TB := tb_4 (List.mem_of_getElem? (i := 42) rfl) rfl
theorem lX10_103 : Cond.methodLink RX10 103 yX4_takeCompare ∈ TB := tb_4 (List.mem_of_getElem? (i := 45) rfl) rfl
theorem lX10_106 : Cond.methodLink RX10 106 yX9_addWhen ∈ TB := tb_4 (List.mem_of_getElem? (i := 49) rfl) rfl
theorem lX9_53 : Cond.methodLink RX9 53 yX9_addStep ∈ TB := tb_4 (List.mem_of_getElem? (i := 53) rfl) rfl
theorem lX10_94 : Cond.methodLink RX10 94 yX10_goOut ∈ TB := tb_4 (List.mem_of_getElem? (i := 54) rfl) rfl
theorem lX10_100 : Cond.methodLink RX10 100 yX9_addEnd ∈ TB := tb_4 (List.mem_of_getElem? (i := 58) rfl) rfl
theorem lX10_49 : Cond.methodLink RX10 49 yX4_takeEndOfPart ∈ TB := tb_4 (List.mem_of_getElem? (i := 62) rfl) rfl
theorem lX11_187 : Cond.methodLink RX11 187 yX9_takeFrom ∈ TB := tb_4 (List.mem_of_getElem? (i := 63) rfl) rfl
theorem lL_63 : Cond.methodLink RL 63 yX11_fault ∈ TB := tb_4 (List.mem_of_getElem? (i := 64) rfl) rfl
theorem lL_67 : Cond.methodLink RL 67 yX11_many ∈ TB := tb_4 (List.mem_of_getElem? (i := 68) rfl) rfl
theorem lX11_219 : Cond.methodLink RX11 219 yX6_settledSet ∈ TB := tb_4 (List.mem_of_getElem? (i := 72) rfl) rfl
theorem lX11_223 : Cond.methodLink RX11 223 yX6_stuckSet ∈ TB := tb_4 (List.mem_of_getElem? (i := 76) rfl) rfl
theorem lX11_226 : Cond.methodLink RX11 226 yX6_downSet ∈ TB := tb_4 (List.mem_of_getElem? (i := 80) rfl) rfl
theorem lX6_91 : Cond.methodLink RX6 91 yX6_heightBy ∈ TB := tb_4 (List.mem_of_getElem? (i := 84) rfl) rfl
theorem lL_71 : Cond.methodLink RL 71 yX11_matter ∈ TB := tb_4 (List.mem_of_getElem? (i := 88) rfl) rfl
theorem lX11_232 : Cond.methodLink RX11 232 yX6_hasMatter ∈ TB := tb_4 (List.mem_of_getElem? (i := 92) rfl) rfl
theorem lX11_238 : Cond.methodLink RX11 238 yX6_holdersOf ∈ TB := tb_4 (List.mem_of_getElem? (i := 96) rfl) rfl
theorem lX11_241 : Cond.methodLink RX11 241 yX6_sittersFor ∈ TB := tb_4 (List.mem_of_getElem? (i := 100) rfl) rfl
theorem lX11_244 : Cond.methodLink RX11 244 yX6_loadOf ∈ TB := tb_4 (List.mem_of_getElem? (i := 104) rfl) rfl
theorem lX11_247 : Cond.methodLink RX11 247 yX11_answerIfThere ∈ TB := tb_4 (List.mem_of_getElem? (i := 108) rfl) rfl
theorem lL_76 : Cond.methodLink RL 76 yX11_hold ∈ TB := tb_4 (List.mem_of_getElem? (i := 112) rfl) rfl
theorem lX11_250 : Cond.methodLink RX11 250 yX6_hasHold ∈ TB := tb_4 (List.mem_of_getElem? (i := 116) rfl) rfl
theorem lL_80 : Cond.methodLink RL 80 yX11_sitter ∈ TB := tb_4 (List.mem_of_getElem? (i := 120) rfl) rfl
theorem lX11_259 : Cond.methodLink RX11 259 yX6_hasSitter ∈ TB := tb_4 (List.mem_of_getElem? (i := 124) rfl) rfl
theorem lX11_274 : Cond.methodLink RX11 274 yX6_heightNow ∈ TB := tb_4 (List.mem_of_getElem? (i := 128) rfl) rfl
theorem lL_84 : Cond.methodLink RL 84 yX11_news ∈ TB := tb_4 (List.mem_of_getElem? (i := 132) rfl) rfl
theorem lX11_277 : Cond.methodLink RX11 277 yX6_hasNews ∈ TB := tb_4 (List.mem_of_getElem? (i := 136) rfl) rfl
theorem lL_88 : Cond.methodLink RL 88 yX11_copyHeights ∈ TB := tb_4 (List.mem_of_getElem? (i := 140) rfl) rfl
theorem lL_92 : Cond.methodLink RL 92 yX11_day ∈ TB := tb_4 (List.mem_of_getElem? (i := 144) rfl) rfl
theorem lX11_286 : Cond.methodLink RX11 286 yX6_hasDays ∈ TB := tb_4 (List.mem_of_getElem? (i := 148) rfl) rfl
theorem lX11_289 : Cond.methodLink RX11 289 yX6_goDays ∈ TB := tb_4 (List.mem_of_getElem? (i := 152) rfl) rfl
theorem lX6_99 : Cond.methodLink RX6 99 yX6_passDay ∈ TB := tb_4 (List.mem_of_getElem? (i := 156) rfl) rfl
theorem lX6_103 : Cond.methodLink RX6 103 yX6_stuckSet ∈ TB := tb_4 (List.mem_of_getElem? (i := 160) rfl) rfl
theorem lX6_107 : Cond.methodLink RX6 107 yJ9_min_7cf53 ∈ TB := tb_4 (List.mem_of_getElem? (i := 161) rfl) rfl
theorem lL_96 : Cond.methodLink RL 96 yX11_bring ∈ TB := tb_4 (List.mem_of_getElem? (i := 162) rfl) rfl
theorem lX11_292 : Cond.methodLink RX11 292 yX6_canCome ∈ TB := tb_4 (List.mem_of_getElem? (i := 166) rfl) rfl
theorem lX6_112 : Cond.methodLink RX6 112 yX6_hasNews ∈ TB := tb_4 (List.mem_of_getElem? (i := 170) rfl) rfl
theorem lX11_295 : Cond.methodLink RX11 295 yX6_come ∈ TB := tb_4 (List.mem_of_getElem? (i := 171) rfl) rfl
theorem lL_100 : Cond.methodLink RL 100 yX11_crisis ∈ TB := tb_4 (List.mem_of_getElem? (i := 175) rfl) rfl
theorem lX11_298 : Cond.methodLink RX11 298 yX6_worsen ∈ TB := tb_4 (List.mem_of_getElem? (i := 179) rfl) rfl
theorem lX6_116 : Cond.methodLink RX6 116 yJ9_max_7cf53 ∈ TB := tb_4 (List.mem_of_getElem? (i := 183) rfl) rfl
theorem lL_104 : Cond.methodLink RL 104 yX11_turn ∈ TB := tb_4 (List.mem_of_getElem? (i := 184) rfl) rfl
theorem lL_108 : Cond.methodLink RL 108 yX11_sit ∈ TB := tb_4 (List.mem_of_getElem? (i := 188) rfl) rfl
theorem lX11_302 : Cond.methodLink RX11 302 yX6_addSitter ∈ TB := tb_4 (List.mem_of_getElem? (i := 192) rfl) rfl
theorem lL_113 : Cond.methodLink RL 113 yX11_hear ∈ TB := tb_4 (List.mem_of_getElem? (i := 193) rfl) rfl
theorem lX11_306 : Cond.methodLink RX11 306 yX6_addNews ∈ TB := tb_4 (List.mem_of_getElem? (i := 197) rfl) rfl
theorem lL_117 : Cond.methodLink RL 117 yX11_bind ∈ TB := tb_4 (List.mem_of_getElem? (i := 198) rfl) rfl
theorem lX11_309 : Cond.methodLink RX11 309 yX6_isHeldBy ∈ TB := tb_4 (List.mem_of_getElem? (i := 202) rfl) rfl
theorem lX11_313 : Cond.methodLink RX11 313 yX6_addHold ∈ TB := tb_4 (List.mem_of_getElem? (i := 203) rfl) rfl
theorem lL_121 : Cond.methodLink RL 121 yX11_loose ∈ TB := tb_4 (List.mem_of_getElem? (i := 204) rfl) rfl
theorem lX11_316 : Cond.methodLink RX11 316 yX6_dropHold ∈ TB := tb_4 (List.mem_of_getElem? (i := 208) rfl) rfl
theorem lL_125 : Cond.methodLink RL 125 yX11_hurry ∈ TB := tb_4 (List.mem_of_getElem? (i := 212) rfl) rfl
theorem lL_129 : Cond.methodLink RL 129 yX11_rule ∈ TB := tb_4 (List.mem_of_getElem? (i := 216) rfl) rfl
theorem lL_134 : Cond.methodLink RL 134 yX11_clearIn ∈ TB := tb_4 (List.mem_of_getElem? (i := 220) rfl) rfl
theorem lX11_319 : Cond.methodLink RX11 319 yX0_look ∈ TB := tb_4 (List.mem_of_getElem? (i := 224) rfl) rfl
theorem lX0_26 : Cond.methodLink RX0 26 yX6_passDay ∈ TB := tb_4 (List.mem_of_getElem? (i := 229) rfl) rfl
theorem lL_138 : Cond.methodLink RL 138 yX11_heightIn ∈ TB := tb_4 (List.mem_of_getElem? (i := 230) rfl) rfl
theorem lX11_326 : Cond.methodLink RX11 326 yX6_heightBy ∈ TB := tb_4 (List.mem_of_getElem? (i := 234) rfl) rfl
theorem lL_142 : Cond.methodLink RL 142 yX11_downIn ∈ TB := tb_4 (List.mem_of_getElem? (i := 235) rfl) rfl
theorem lX11_330 : Cond.methodLink RX11 330 yX0_daysTillDown ∈ TB := tb_4 (List.mem_of_getElem? (i := 239) rfl) rfl
theorem lX0_33 : Cond.methodLink RX0 33 yX0_look ∈ TB := tb_5 (List.mem_of_getElem? (i := 3) rfl) rfl
theorem lX0_37 : Cond.methodLink RX0 37 yX6_heightBy ∈ TB := tb_5 (List.mem_of_getElem? (i := 4) rfl) rfl
theorem lL_146 : Cond.methodLink RL 146 yX11_least ∈ TB := tb_5 (List.mem_of_getElem? (i := 5) rfl) rfl
theorem lX11_334 : Cond.methodLink RX11 334 yX6_isSitterSet ∈ TB := tb_5 (List.mem_of_getElem? (i := 9) rfl) rfl
theorem lX11_337 : Cond.methodLink RX11 337 yX3_fewestNews ∈ TB := tb_5 (List.mem_of_getElem? (i := 13) rfl) rfl
theorem lX3_36 : Cond.methodLink RX3 36 yJ6_bitCount_0f7a4 ∈ TB := tb_5 (List.mem_of_getElem? (i := 17) rfl) rfl
theorem kJ6_265 : Cond.constant RJ6 265 (1431655765) ∈ TB := tb_5 (List.mem_of_getElem? (i := 20) rfl) rfl
theorem kJ6_266 : Cond.constant RJ6 266 (858993459) ∈ TB := tb_5 (List.mem_of_getElem? (i := 21) rfl) rfl
theorem kJ6_267 : Cond.constant RJ6 267 (252645135) ∈ TB := tb_5 (List.mem_of_getElem? (i := 22) rfl) rfl
theorem lX3_42 : Cond.methodLink RX3 42 yX3_canAllCome ∈ TB := tb_5 (List.mem_of_getElem? (i := 23) rfl) rfl
theorem lX3_50 : Cond.methodLink RX3 50 yX3_isIn ∈ TB := tb_5 (List.mem_of_getElem? (i := 26) rfl) rfl
theorem lX3_54 : Cond.methodLink RX3 54 yX6_canCome ∈ TB := tb_5 (List.mem_of_getElem? (i := 29) rfl) rfl
theorem lX3_46 : Cond.methodLink RX3 46 yX3_downBy ∈ TB := tb_5 (List.mem_of_getElem? (i := 30) rfl) rfl
theorem lX3_73 : Cond.methodLink RX3 73 yJ9_min_7cf53 ∈ TB := tb_5 (List.mem_of_getElem? (i := 35) rfl) rfl
theorem lX3_79 : Cond.methodLink RX3 79 yX6_downSet ∈ TB := tb_5 (List.mem_of_getElem? (i := 36) rfl) rfl
theorem lX11_340 : Cond.methodLink RX11 340 yJ6_bitCount_0f7a4 ∈ TB := tb_5 (List.mem_of_getElem? (i := 37) rfl) rfl
theorem lL_150 : Cond.methodLink RL 150 yX11_leastSet ∈ TB := tb_5 (List.mem_of_getElem? (i := 38) rfl) rfl
theorem lL_154 : Cond.methodLink RL 154 yX11_ring ∈ TB := tb_5 (List.mem_of_getElem? (i := 42) rfl) rfl
theorem lX11_345 : Cond.methodLink RX11 345 yX3_shortestRing ∈ TB := tb_5 (List.mem_of_getElem? (i := 46) rfl) rfl
theorem lX3_101 : Cond.methodLink RX3 101 yX3_findHolders ∈ TB := tb_5 (List.mem_of_getElem? (i := 50) rfl) rfl
theorem lX3_83 : Cond.methodLink RX3 83 yJ7_fill_53178 ∈ TB := tb_5 (List.mem_of_getElem? (i := 54) rfl) rfl
theorem lX3_105 : Cond.methodLink RX3 105 yX3_ringFrom ∈ TB := tb_5 (List.mem_of_getElem? (i := 55) rfl) rfl
theorem lX3_108 : Cond.methodLink RX3 108 yX3_holdersOfAll ∈ TB := tb_5 (List.mem_of_getElem? (i := 59) rfl) rfl
theorem lL_158 : Cond.methodLink RL 158 yX11_loosen ∈ TB := tb_5 (List.mem_of_getElem? (i := 63) rfl) rfl
theorem lX11_349 : Cond.methodLink RX11 349 yX3_fewestHolds ∈ TB := tb_5 (List.mem_of_getElem? (i := 67) rfl) rfl
theorem lX3_111 : Cond.methodLink RX3 111 yX3_isFreeWithout ∈ TB := tb_5 (List.mem_of_getElem? (i := 71) rfl) rfl
theorem lL_162 : Cond.methodLink RL 162 yX11_loosenSet ∈ TB := tb_5 (List.mem_of_getElem? (i := 75) rfl) rfl
theorem lL_166 : Cond.methodLink RL 166 yX11_waiting ∈ TB := tb_5 (List.mem_of_getElem? (i := 79) rfl) rfl
theorem lX11_352 : Cond.methodLink RX11 352 yX3_leastWaiting ∈ TB := tb_5 (List.mem_of_getElem? (i := 83) rfl) rfl
theorem lX3_114 : Cond.methodLink RX3 114 yX6_loadOf ∈ TB := tb_5 (List.mem_of_getElem? (i := 87) rfl) rfl
theorem lX3_117 : Cond.methodLink RX3 117 yX3_weightFor ∈ TB := tb_5 (List.mem_of_getElem? (i := 88) rfl) rfl
theorem kX3_120 : Cond.constant RX3 120 (1000000) ∈ TB := tb_5 (List.mem_of_getElem? (i := 91) rfl) rfl
theorem lX3_121 : Cond.methodLink RX3 121 yX3_waitsWith ∈ TB := tb_5 (List.mem_of_getElem? (i := 92) rfl) rfl
theorem lL_170 : Cond.methodLink RL 170 yX11_orderAt ∈ TB := tb_5 (List.mem_of_getElem? (i := 96) rfl) rfl
theorem lX11_355 : Cond.methodLink RX11 355 yX3_decidedAt ∈ TB := tb_5 (List.mem_of_getElem? (i := 100) rfl) rfl
theorem lX3_134 : Cond.methodLink RX3 134 yX3_nextDecided ∈ TB := tb_5 (List.mem_of_getElem? (i := 104) rfl) rfl
theorem lL_174 : Cond.methodLink RL 174 yX11_round ∈ TB := tb_5 (List.mem_of_getElem? (i := 108) rfl) rfl
theorem lX11_358 : Cond.methodLink RX11 358 yX3_shortestRound ∈ TB := tb_5 (List.mem_of_getElem? (i := 112) rfl) rfl
theorem lX3_137 : Cond.methodLink RX3 137 yX3_wayTo ∈ TB := tb_5 (List.mem_of_getElem? (i := 116) rfl) rfl
theorem lX3_143 : Cond.methodLink RX3 143 yJ9_abs_0f7a4 ∈ TB := tb_5 (List.mem_of_getElem? (i := 119) rfl) rfl
theorem lX3_146 : Cond.methodLink RX3 146 yX3_goOn ∈ TB := tb_5 (List.mem_of_getElem? (i := 122) rfl) rfl
theorem lL_178 : Cond.methodLink RL 178 yX11_out ∈ TB := tb_5 (List.mem_of_getElem? (i := 126) rfl) rfl
theorem lX11_361 : Cond.methodLink RX11 361 yX11_whyNotOut ∈ TB := tb_5 (List.mem_of_getElem? (i := 130) rfl) rfl
theorem lX11_372 : Cond.methodLink RX11 372 yX5_whyNoTwos ∈ TB := tb_5 (List.mem_of_getElem? (i := 134) rfl) rfl
theorem kX5_43 : Cond.constantLong RX5 43 (40) ∈ TB := tb_5 (List.mem_of_getElem? (i := 138) rfl) rfl
theorem kX5_45 : Cond.constantLong RX5 45 (99) ∈ TB := tb_5 (List.mem_of_getElem? (i := 139) rfl) rfl
theorem lX11_364 : Cond.methodLink RX11 364 yX0_fitting ∈ TB := tb_5 (List.mem_of_getElem? (i := 140) rfl) rfl
theorem lL_182 : Cond.methodLink RL 182 yX11_ask ∈ TB := tb_5 (List.mem_of_getElem? (i := 144) rfl) rfl
theorem lX11_368 : Cond.methodLink RX11 368 yX0_partingDays ∈ TB := tb_5 (List.mem_of_getElem? (i := 148) rfl) rfl
theorem lX0_45 : Cond.methodLink RX0 45 yX0_largestCrowd ∈ TB := tb_5 (List.mem_of_getElem? (i := 152) rfl) rfl
theorem lX0_49 : Cond.methodLink RX0 49 yJ9_max_7cf53 ∈ TB := tb_5 (List.mem_of_getElem? (i := 156) rfl) rfl
theorem lL_186 : Cond.methodLink RL 186 yX11_laws ∈ TB := tb_5 (List.mem_of_getElem? (i := 157) rfl) rfl
theorem lX11_375 : Cond.methodLink RX11 375 yX0_lawCount ∈ TB := tb_5 (List.mem_of_getElem? (i := 161) rfl) rfl
theorem lX0_54 : Cond.methodLink RX0 54 yX0_isLaw ∈ TB := tb_5 (List.mem_of_getElem? (i := 164) rfl) rfl
theorem lX0_58 : Cond.methodLink RX0 58 yJ9_min_7cf53 ∈ TB := tb_5 (List.mem_of_getElem? (i := 167) rfl) rfl
theorem lL_190 : Cond.methodLink RL 190 yX11_lawOf ∈ TB := tb_5 (List.mem_of_getElem? (i := 168) rfl) rfl
theorem lX11_379 : Cond.methodLink RX11 379 yX0_firstLaw ∈ TB := tb_5 (List.mem_of_getElem? (i := 172) rfl) rfl
theorem lL_194 : Cond.methodLink RL 194 yX11_off ∈ TB := tb_5 (List.mem_of_getElem? (i := 175) rfl) rfl
theorem lX11_382 : Cond.methodLink RX11 382 yX11_isOffCase ∈ TB := tb_5 (List.mem_of_getElem? (i := 179) rfl) rfl
theorem lX11_385 : Cond.methodLink RX11 385 yX11_offCost ∈ TB := tb_5 (List.mem_of_getElem? (i := 182) rfl) rfl
theorem lX11_389 : Cond.methodLink RX11 389 yX11_powerOf16 ∈ TB := tb_5 (List.mem_of_getElem? (i := 186) rfl) rfl
theorem lX11_423 : Cond.methodLink RX11 423 yJ9_min_f86c9 ∈ TB := tb_5 (List.mem_of_getElem? (i := 189) rfl) rfl
theorem lX11_393 : Cond.methodLink RX11 393 yX11_tellFraction ∈ TB := tb_5 (List.mem_of_getElem? (i := 192) rfl) rfl
theorem lX11_419 : Cond.methodLink RX11 419 yX11_commonDivisor ∈ TB := tb_5 (List.mem_of_getElem? (i := 196) rfl) rfl
theorem lL_199 : Cond.methodLink RL 199 yX11_stay ∈ TB := tb_5 (List.mem_of_getElem? (i := 199) rfl) rfl
theorem lL_203 : Cond.methodLink RL 203 yX11_game ∈ TB := tb_5 (List.mem_of_getElem? (i := 203) rfl) rfl
theorem lX11_397 : Cond.methodLink RX11 397 yX1_valueOf ∈ TB := tb_5 (List.mem_of_getElem? (i := 207) rfl) rfl
theorem lX1_33 : Cond.methodLink RX1 33 yX1_begin ∈ TB := tb_5 (List.mem_of_getElem? (i := 211) rfl) rfl
theorem lX1_40 : Cond.methodLink RX1 40 yX1_best ∈ TB := tb_5 (List.mem_of_getElem? (i := 216) rfl) rfl
theorem lX1_67 : Cond.methodLink RX1 67 yX1_heightOf ∈ TB := tb_5 (List.mem_of_getElem? (i := 220) rfl) rfl
theorem lX1_77 : Cond.methodLink RX1 77 yX6_heightBy ∈ TB := tb_5 (List.mem_of_getElem? (i := 224) rfl) rfl
theorem lX1_47 : Cond.methodLink RX1 47 yX1_canCome ∈ TB := tb_5 (List.mem_of_getElem? (i := 225) rfl) rfl
theorem lX1_51 : Cond.methodLink RX1 51 yX1_behind ∈ TB := tb_5 (List.mem_of_getElem? (i := 229) rfl) rfl
theorem lX1_61 : Cond.methodLink RX1 61 yJ9_min_7cf53 ∈ TB := tb_5 (List.mem_of_getElem? (i := 233) rfl) rfl
theorem lX1_71 : Cond.methodLink RX1 71 yJ9_max_7cf53 ∈ TB := tb_5 (List.mem_of_getElem? (i := 234) rfl) rfl
theorem lL_207 : Cond.methodLink RL 207 yX11_moveOf ∈ TB := tb_5 (List.mem_of_getElem? (i := 235) rfl) rfl
theorem lX11_401 : Cond.methodLink RX11 401 yX1_firstNews ∈ TB := tb_5 (List.mem_of_getElem? (i := 239) rfl) rfl
theorem lL_211 : Cond.methodLink RL 211 yX11_lasts ∈ TB := tb_6 (List.mem_of_getElem? (i := 3) rfl) rfl
theorem lL_215 : Cond.methodLink RL 215 yX11_share ∈ TB := tb_6 (List.mem_of_getElem? (i := 7) rfl) rfl
theorem lX11_404 : Cond.methodLink RX11 404 yX6_heightsTogether ∈ TB := tb_6 (List.mem_of_getElem? (i := 11) rfl) rfl
theorem lX6_95 : Cond.methodLink RX6 95 yX6_heightNow ∈ TB := tb_6 (List.mem_of_getElem? (i := 15) rfl) rfl
theorem lL_219 : Cond.methodLink RL 219 yX11_live ∈ TB := tb_6 (List.mem_of_getElem? (i := 16) rfl) rfl
theorem lX11_411 : Cond.methodLink RX11 411 yX2_runThrough ∈ TB := tb_6 (List.mem_of_getElem? (i := 20) rfl) rfl
theorem kX2_49 : Cond.constant RX2 49 (1000000) ∈ TB := tb_6 (List.mem_of_getElem? (i := 24) rfl) rfl
theorem lX2_58 : Cond.methodLink RX2 58 yX2_passEnd ∈ TB := tb_6 (List.mem_of_getElem? (i := 25) rfl) rfl
theorem lX2_62 : Cond.methodLink RX2 62 yX2_doStep ∈ TB := tb_6 (List.mem_of_getElem? (i := 29) rfl) rfl
theorem lX2_75 : Cond.methodLink RX2 75 yX2_doDays ∈ TB := tb_6 (List.mem_of_getElem? (i := 33) rfl) rfl
theorem lX2_97 : Cond.methodLink RX2 97 yX6_hasDays ∈ TB := tb_6 (List.mem_of_getElem? (i := 37) rfl) rfl
theorem lX2_101 : Cond.methodLink RX2 101 yX6_goDays ∈ TB := tb_6 (List.mem_of_getElem? (i := 38) rfl) rfl
theorem lX2_79 : Cond.methodLink RX2 79 yX2_doBring ∈ TB := tb_6 (List.mem_of_getElem? (i := 39) rfl) rfl
theorem lX2_105 : Cond.methodLink RX2 105 yX6_canCome ∈ TB := tb_6 (List.mem_of_getElem? (i := 43) rfl) rfl
theorem lX2_108 : Cond.methodLink RX2 108 yX6_come ∈ TB := tb_6 (List.mem_of_getElem? (i := 44) rfl) rfl
theorem lX2_82 : Cond.methodLink RX2 82 yX2_doCrisis ∈ TB := tb_6 (List.mem_of_getElem? (i := 45) rfl) rfl
theorem lX2_111 : Cond.methodLink RX2 111 yX6_hasMatter ∈ TB := tb_6 (List.mem_of_getElem? (i := 49) rfl) rfl
theorem lX2_117 : Cond.methodLink RX2 117 yX6_worsen ∈ TB := tb_6 (List.mem_of_getElem? (i := 50) rfl) rfl
theorem lX2_86 : Cond.methodLink RX2 86 yX2_doTurn ∈ TB := tb_6 (List.mem_of_getElem? (i := 51) rfl) rfl
theorem lX2_121 : Cond.methodLink RX2 121 yX6_hasSitter ∈ TB := tb_6 (List.mem_of_getElem? (i := 55) rfl) rfl
theorem lX2_89 : Cond.methodLink RX2 89 yX2_doAny ∈ TB := tb_6 (List.mem_of_getElem? (i := 56) rfl) rfl
theorem lX2_130 : Cond.methodLink RX2 130 yX2_draw ∈ TB := tb_6 (List.mem_of_getElem? (i := 60) rfl) rfl
theorem kX2_137 : Cond.constant RX2 137 (65536) ∈ TB := tb_6 (List.mem_of_getElem? (i := 64) rfl) rfl
theorem lX2_93 : Cond.methodLink RX2 93 yX2_isSo ∈ TB := tb_6 (List.mem_of_getElem? (i := 65) rfl) rfl
theorem lX2_141 : Cond.methodLink RX2 141 yX6_heightNow ∈ TB := tb_6 (List.mem_of_getElem? (i := 68) rfl) rfl
theorem lX11_414 : Cond.methodLink RX11 414 yX2_copyCounts ∈ TB := tb_6 (List.mem_of_getElem? (i := 69) rfl) rfl
theorem lL_223 : Cond.methodLink RL 223 yX11_lived ∈ TB := tb_6 (List.mem_of_getElem? (i := 73) rfl) rfl
theorem lL_227 : Cond.methodLink RL 227 yX11_mean ∈ TB := tb_6 (List.mem_of_getElem? (i := 77) rfl) rfl
theorem lL_231 : Cond.methodLink RL 231 yX11_mark ∈ TB := tb_6 (List.mem_of_getElem? (i := 81) rfl) rfl
theorem lL_235 : Cond.methodLink RL 235 yX11_back ∈ TB := tb_6 (List.mem_of_getElem? (i := 85) rfl) rfl
theorem lL_12 : Cond.methodLink RL 12 yX12_init ∈ TB := tb_6 (List.mem_of_getElem? (i := 91) rfl) rfl
theorem lX12_65 : Cond.methodLink RX12 65 yX12_empties ∈ TB := tb_6 (List.mem_of_getElem? (i := 95) rfl) rfl
theorem fX12_72 : lnkF RX12 72 11 0 := ⟨_, _, _, _, clsF_11, by decide, tb_6 (List.mem_of_getElem? (i := 99) rfl) rfl, rfl⟩
theorem pX12_72 : lnkP RX12 72 11 0 .int := ⟨_, _, _, _, clsF_11, by decide, tb_6 (List.mem_of_getElem? (i := 99) rfl) rfl, rfl, rfl, rfl⟩
theorem fX12_69 : lnkF RX12 69 11 1 := ⟨_, _, _, _, clsF_11, by decide, tb_6 (List.mem_of_getElem? (i := 100) rfl) rfl, rfl⟩
theorem pX12_69 : lnkP RX12 69 11 1 .int := ⟨_, _, _, _, clsF_11, by decide, tb_6 (List.mem_of_getElem? (i := 100) rfl) rfl, rfl, rfl, rfl⟩
theorem fX12_75 : lnkF RX12 75 11 2 := ⟨_, _, _, _, clsF_11, by decide, tb_6 (List.mem_of_getElem? (i := 101) rfl) rfl, rfl⟩
theorem pX12_75 : lnkP RX12 75 11 2 .long := ⟨_, _, _, _, clsF_11, by decide, tb_6 (List.mem_of_getElem? (i := 101) rfl) rfl, rfl, rfl, rfl⟩
theorem fX12_7 : lnkF RX12 7 11 3 := ⟨_, _, _, _, clsF_11, by decide, tb_6 (List.mem_of_getElem? (i := 102) rfl) rfl, rfl⟩
theorem pX12_7 : lnkP RX12 7 11 3 .long := ⟨_, _, _, _, clsF_11, by decide, tb_6 (List.mem_of_getElem? (i := 102) rfl) rfl, rfl, rfl, rfl⟩
theorem fX12_13 : lnkF RX12 13 11 4 := ⟨_, _, _, _, clsF_11, by decide, tb_6 (List.mem_of_getElem? (i := 103) rfl) rfl, rfl⟩
theorem fX12_17 : lnkF RX12 17 11 5 := ⟨_, _, _, _, clsF_11, by decide, tb_6 (List.mem_of_getElem? (i := 104) rfl) rfl, rfl⟩
theorem fX12_20 : lnkF RX12 20 11 6 := ⟨_, _, _, _, clsF_11, by decide, tb_6 (List.mem_of_getElem? (i := 105) rfl) rfl, rfl⟩
theorem fX12_24 : lnkF RX12 24 11 7 := ⟨_, _, _, _, clsF_11, by decide, tb_6 (List.mem_of_getElem? (i := 106) rfl) rfl, rfl⟩
theorem fX12_235 : lnkF RX12 235 11 8 := ⟨_, _, _, _, clsF_11, by decide, tb_6 (List.mem_of_getElem? (i := 107) rfl) rfl, rfl⟩
theorem pX12_235 : lnkP RX12 235 11 8 .int := ⟨_, _, _, _, clsF_11, by decide, tb_6 (List.mem_of_getElem? (i := 107) rfl) rfl, rfl, rfl, rfl⟩
theorem fX12_112 : lnkF RX12 112 11 9 := ⟨_, _, _, _, clsF_11, by decide, tb_6 (List.mem_of_getElem? (i := 108) rfl) rfl, rfl⟩
theorem pX12_112 : lnkP RX12 112 11 9 .int := ⟨_, _, _, _, clsF_11, by decide, tb_6 (List.mem_of_getElem? (i := 108) rfl) rfl, rfl, rfl, rfl⟩
theorem fX12_28 : lnkF RX12 28 11 10 := ⟨_, _, _, _, clsF_11, by decide, tb_6 (List.mem_of_getElem? (i := 109) rfl) rfl, rfl⟩
theorem pX12_28 : lnkP RX12 28 11 10 .int := ⟨_, _, _, _, clsF_11, by decide, tb_6 (List.mem_of_getElem? (i := 109) rfl) rfl, rfl, rfl, rfl⟩
theorem fX12_32 : lnkF RX12 32 11 11 := ⟨_, _, _, _, clsF_11, by decide, tb_6 (List.mem_of_getElem? (i := 110) rfl) rfl, rfl⟩
theorem pX12_32 : lnkP RX12 32 11 11 .int := ⟨_, _, _, _, clsF_11, by decide, tb_6 (List.mem_of_getElem? (i := 110) rfl) rfl, rfl, rfl, rfl⟩
theorem fX12_212 : lnkF RX12 212 11 12 := ⟨_, _, _, _, clsF_11, by decide, tb_6 (List.mem_of_getElem? (i := 111) rfl) rfl, rfl⟩
theorem pX12_212 : lnkP RX12 212 11 12 .int := ⟨_, _, _, _, clsF_11, by decide, tb_6 (List.mem_of_getElem? (i := 111) rfl) rfl, rfl, rfl, rfl⟩
theorem fX12_215 : lnkF RX12 215 11 13 := ⟨_, _, _, _, clsF_11, by decide, tb_6 (List.mem_of_getElem? (i := 112) rfl) rfl, rfl⟩
theorem pX12_215 : lnkP RX12 215 11 13 .int := ⟨_, _, _, _, clsF_11, by decide, tb_6 (List.mem_of_getElem? (i := 112) rfl) rfl, rfl, rfl, rfl⟩
theorem fX12_124 : lnkF RX12 124 11 14 := ⟨_, _, _, _, clsF_11, by decide, tb_6 (List.mem_of_getElem? (i := 113) rfl) rfl, rfl⟩
theorem pX12_124 : lnkP RX12 124 11 14 .int := ⟨_, _, _, _, clsF_11, by decide, tb_6 (List.mem_of_getElem? (i := 113) rfl) rfl, rfl, rfl, rfl⟩
theorem fX12_118 : lnkF RX12 118 11 15 := ⟨_, _, _, _, clsF_11, by decide, tb_6 (List.mem_of_getElem? (i := 114) rfl) rfl, rfl⟩
theorem pX12_118 : lnkP RX12 118 11 15 .int := ⟨_, _, _, _, clsF_11, by decide, tb_6 (List.mem_of_getElem? (i := 114) rfl) rfl, rfl, rfl, rfl⟩
theorem fX12_115 : lnkF RX12 115 11 16 := ⟨_, _, _, _, clsF_11, by decide, tb_6 (List.mem_of_getElem? (i := 115) rfl) rfl, rfl⟩
theorem pX12_115 : lnkP RX12 115 11 16 .int := ⟨_, _, _, _, clsF_11, by decide, tb_6 (List.mem_of_getElem? (i := 115) rfl) rfl, rfl, rfl, rfl⟩
theorem fX12_143 : lnkF RX12 143 11 17 := ⟨_, _, _, _, clsF_11, by decide, tb_6 (List.mem_of_getElem? (i := 116) rfl) rfl, rfl⟩
theorem pX12_143 : lnkP RX12 143 11 17 .int := ⟨_, _, _, _, clsF_11, by decide, tb_6 (List.mem_of_getElem? (i := 116) rfl) rfl, rfl, rfl, rfl⟩
theorem fX12_137 : lnkF RX12 137 11 18 := ⟨_, _, _, _, clsF_11, by decide, tb_6 (List.mem_of_getElem? (i := 117) rfl) rfl, rfl⟩
theorem pX12_137 : lnkP RX12 137 11 18 .int := ⟨_, _, _, _, clsF_11, by decide, tb_6 (List.mem_of_getElem? (i := 117) rfl) rfl, rfl, rfl, rfl⟩
theorem fX12_130 : lnkF RX12 130 11 19 := ⟨_, _, _, _, clsF_11, by decide, tb_6 (List.mem_of_getElem? (i := 118) rfl) rfl, rfl⟩
theorem pX12_130 : lnkP RX12 130 11 19 .long := ⟨_, _, _, _, clsF_11, by decide, tb_6 (List.mem_of_getElem? (i := 118) rfl) rfl, rfl, rfl, rfl⟩
theorem fX12_35 : lnkF RX12 35 11 20 := ⟨_, _, _, _, clsF_11, by decide, tb_6 (List.mem_of_getElem? (i := 119) rfl) rfl, rfl⟩
theorem fX12_38 : lnkF RX12 38 11 21 := ⟨_, _, _, _, clsF_11, by decide, tb_6 (List.mem_of_getElem? (i := 120) rfl) rfl, rfl⟩
theorem fX12_41 : lnkF RX12 41 11 22 := ⟨_, _, _, _, clsF_11, by decide, tb_6 (List.mem_of_getElem? (i := 121) rfl) rfl, rfl⟩
theorem fX12_592 : lnkF RX12 592 11 23 := ⟨_, _, _, _, clsF_11, by decide, tb_6 (List.mem_of_getElem? (i := 122) rfl) rfl, rfl⟩
theorem pX12_592 : lnkP RX12 592 11 23 .int := ⟨_, _, _, _, clsF_11, by decide, tb_6 (List.mem_of_getElem? (i := 122) rfl) rfl, rfl, rfl, rfl⟩
theorem fX12_253 : lnkF RX12 253 11 24 := ⟨_, _, _, _, clsF_11, by decide, tb_6 (List.mem_of_getElem? (i := 123) rfl) rfl, rfl⟩
theorem pX12_253 : lnkP RX12 253 11 24 .boolean := ⟨_, _, _, _, clsF_11, by decide, tb_6 (List.mem_of_getElem? (i := 123) rfl) rfl, rfl, rfl, rfl⟩
theorem fX12_319 : lnkF RX12 319 11 25 := ⟨_, _, _, _, clsF_11, by decide, tb_6 (List.mem_of_getElem? (i := 124) rfl) rfl, rfl⟩
theorem pX12_319 : lnkP RX12 319 11 25 .int := ⟨_, _, _, _, clsF_11, by decide, tb_6 (List.mem_of_getElem? (i := 124) rfl) rfl, rfl, rfl, rfl⟩
theorem fX12_44 : lnkF RX12 44 11 26 := ⟨_, _, _, _, clsF_11, by decide, tb_6 (List.mem_of_getElem? (i := 125) rfl) rfl, rfl⟩
theorem fX12_446 : lnkF RX12 446 11 27 := ⟨_, _, _, _, clsF_11, by decide, tb_6 (List.mem_of_getElem? (i := 126) rfl) rfl, rfl⟩
theorem pX12_446 : lnkP RX12 446 11 27 .int := ⟨_, _, _, _, clsF_11, by decide, tb_6 (List.mem_of_getElem? (i := 126) rfl) rfl, rfl, rfl, rfl⟩
theorem fX12_47 : lnkF RX12 47 11 28 := ⟨_, _, _, _, clsF_11, by decide, tb_6 (List.mem_of_getElem? (i := 127) rfl) rfl, rfl⟩
theorem fX12_50 : lnkF RX12 50 11 29 := ⟨_, _, _, _, clsF_11, by decide, tb_6 (List.mem_of_getElem? (i := 128) rfl) rfl, rfl⟩
theorem fX12_53 : lnkF RX12 53 11 30 := ⟨_, _, _, _, clsF_11, by decide, tb_6 (List.mem_of_getElem? (i := 129) rfl) rfl, rfl⟩
theorem fX12_56 : lnkF RX12 56 11 31 := ⟨_, _, _, _, clsF_11, by decide, tb_6 (List.mem_of_getElem? (i := 130) rfl) rfl, rfl⟩
theorem fX12_459 : lnkF RX12 459 11 32 := ⟨_, _, _, _, clsF_11, by decide, tb_6 (List.mem_of_getElem? (i := 131) rfl) rfl, rfl⟩
theorem pX12_459 : lnkP RX12 459 11 32 .int := ⟨_, _, _, _, clsF_11, by decide, tb_6 (List.mem_of_getElem? (i := 131) rfl) rfl, rfl, rfl, rfl⟩
theorem fX12_59 : lnkF RX12 59 11 33 := ⟨_, _, _, _, clsF_11, by decide, tb_6 (List.mem_of_getElem? (i := 132) rfl) rfl, rfl⟩
theorem fX12_500 : lnkF RX12 500 11 34 := ⟨_, _, _, _, clsF_11, by decide, tb_6 (List.mem_of_getElem? (i := 133) rfl) rfl, rfl⟩
theorem pX12_500 : lnkP RX12 500 11 34 .long := ⟨_, _, _, _, clsF_11, by decide, tb_6 (List.mem_of_getElem? (i := 133) rfl) rfl, rfl, rfl, rfl⟩
theorem fX12_503 : lnkF RX12 503 11 35 := ⟨_, _, _, _, clsF_11, by decide, tb_6 (List.mem_of_getElem? (i := 134) rfl) rfl, rfl⟩
theorem pX12_503 : lnkP RX12 503 11 35 .long := ⟨_, _, _, _, clsF_11, by decide, tb_6 (List.mem_of_getElem? (i := 134) rfl) rfl, rfl, rfl, rfl⟩
theorem fX12_521 : lnkF RX12 521 11 36 := ⟨_, _, _, _, clsF_11, by decide, tb_6 (List.mem_of_getElem? (i := 135) rfl) rfl, rfl⟩
theorem pX12_521 : lnkP RX12 521 11 36 .int := ⟨_, _, _, _, clsF_11, by decide, tb_6 (List.mem_of_getElem? (i := 135) rfl) rfl, rfl, rfl, rfl⟩
theorem fX12_62 : lnkF RX12 62 11 37 := ⟨_, _, _, _, clsF_11, by decide, tb_6 (List.mem_of_getElem? (i := 136) rfl) rfl, rfl⟩
theorem fX12_589 : lnkF RX12 589 11 38 := ⟨_, _, _, _, clsF_11, by decide, tb_6 (List.mem_of_getElem? (i := 137) rfl) rfl, rfl⟩
theorem pX12_589 : lnkP RX12 589 11 38 .boolean := ⟨_, _, _, _, clsF_11, by decide, tb_6 (List.mem_of_getElem? (i := 137) rfl) rfl, rfl, rfl, rfl⟩
theorem fX12_560 : lnkF RX12 560 11 39 := ⟨_, _, _, _, clsF_11, by decide, tb_6 (List.mem_of_getElem? (i := 138) rfl) rfl, rfl⟩
theorem pX12_560 : lnkP RX12 560 11 39 .boolean := ⟨_, _, _, _, clsF_11, by decide, tb_6 (List.mem_of_getElem? (i := 138) rfl) rfl, rfl, rfl, rfl⟩
theorem fX12_532 : lnkF RX12 532 11 40 := ⟨_, _, _, _, clsF_11, by decide, tb_6 (List.mem_of_getElem? (i := 139) rfl) rfl, rfl⟩
theorem pX12_532 : lnkP RX12 532 11 40 .int := ⟨_, _, _, _, clsF_11, by decide, tb_6 (List.mem_of_getElem? (i := 139) rfl) rfl, rfl, rfl, rfl⟩
theorem fX12_557 : lnkF RX12 557 11 41 := ⟨_, _, _, _, clsF_11, by decide, tb_6 (List.mem_of_getElem? (i := 140) rfl) rfl, rfl⟩
theorem pX12_557 : lnkP RX12 557 11 41 .int := ⟨_, _, _, _, clsF_11, by decide, tb_6 (List.mem_of_getElem? (i := 140) rfl) rfl, rfl, rfl, rfl⟩
theorem fX12_566 : lnkF RX12 566 11 42 := ⟨_, _, _, _, clsF_11, by decide, tb_6 (List.mem_of_getElem? (i := 141) rfl) rfl, rfl⟩
theorem pX12_566 : lnkP RX12 566 11 42 .int := ⟨_, _, _, _, clsF_11, by decide, tb_6 (List.mem_of_getElem? (i := 141) rfl) rfl, rfl, rfl, rfl⟩
theorem fX12_581 : lnkF RX12 581 11 43 := ⟨_, _, _, _, clsF_11, by decide, tb_6 (List.mem_of_getElem? (i := 142) rfl) rfl, rfl⟩
theorem pX12_581 : lnkP RX12 581 11 43 .int := ⟨_, _, _, _, clsF_11, by decide, tb_6 (List.mem_of_getElem? (i := 142) rfl) rfl, rfl, rfl, rfl⟩
theorem fX12_536 : lnkF RX12 536 11 44 := ⟨_, _, _, _, clsF_11, by decide, tb_6 (List.mem_of_getElem? (i := 143) rfl) rfl, rfl⟩
theorem pX12_536 : lnkP RX12 536 11 44 .int := ⟨_, _, _, _, clsF_11, by decide, tb_6 (List.mem_of_getElem? (i := 143) rfl) rfl, rfl, rfl, rfl⟩
theorem fX12_539 : lnkF RX12 539 11 45 := ⟨_, _, _, _, clsF_11, by decide, tb_6 (List.mem_of_getElem? (i := 144) rfl) rfl, rfl⟩
theorem pX12_539 : lnkP RX12 539 11 45 .int := ⟨_, _, _, _, clsF_11, by decide, tb_6 (List.mem_of_getElem? (i := 144) rfl) rfl, rfl, rfl, rfl⟩
theorem fX12_563 : lnkF RX12 563 11 46 := ⟨_, _, _, _, clsF_11, by decide, tb_6 (List.mem_of_getElem? (i := 145) rfl) rfl, rfl⟩
theorem pX12_563 : lnkP RX12 563 11 46 .int := ⟨_, _, _, _, clsF_11, by decide, tb_6 (List.mem_of_getElem? (i := 145) rfl) rfl, rfl, rfl, rfl⟩
theorem lL_17 : Cond.methodLink RL 17 yX12_status ∈ TB := tb_7 (List.mem_of_getElem? (i := 1) rfl) rfl
theorem lL_22 : Cond.methodLink RL 22 yX12_top ∈ TB := tb_7 (List.mem_of_getElem? (i := 5) rfl) rfl
theorem lL_26 : Cond.methodLink RL 26 yX12_bottom ∈ TB := tb_7 (List.mem_of_getElem? (i := 9) rfl) rfl
theorem lL_31 : Cond.methodLink RL 31 yX12_tray ∈ TB := tb_7 (List.mem_of_getElem? (i := 13) rfl) rfl
theorem lX12_84 : Cond.methodLink RX12 84 yX12_no ∈ TB := tb_7 (List.mem_of_getElem? (i := 17) rfl) rfl
theorem lL_38 : Cond.methodLink RL 38 yX12_write ∈ TB := tb_7 (List.mem_of_getElem? (i := 21) rfl) rfl
theorem lX12_92 : Cond.methodLink RX12 92 yX12_placed ∈ TB := tb_7 (List.mem_of_getElem? (i := 25) rfl) rfl
theorem lX12_88 : Cond.methodLink RX12 88 yX12_trayed ∈ TB := tb_7 (List.mem_of_getElem? (i := 29) rfl) rfl
theorem lX12_96 : Cond.methodLink RX12 96 yX12_cut ∈ TB := tb_7 (List.mem_of_getElem? (i := 33) rfl) rfl
theorem lL_43 : Cond.methodLink RL 43 yX12_read ∈ TB := tb_7 (List.mem_of_getElem? (i := 36) rfl) rfl
theorem kX12_100 : Cond.constantLong RX12 100 (-1) ∈ TB := tb_7 (List.mem_of_getElem? (i := 40) rfl) rfl
theorem lL_48 : Cond.methodLink RL 48 yX12_pour ∈ TB := tb_7 (List.mem_of_getElem? (i := 41) rfl) rfl
theorem lL_53 : Cond.methodLink RL 53 yX12_feed ∈ TB := tb_7 (List.mem_of_getElem? (i := 45) rfl) rfl
theorem lX12_238 : Cond.methodLink RX12 238 yX12_lay ∈ TB := tb_7 (List.mem_of_getElem? (i := 49) rfl) rfl
theorem lL_66 : Cond.methodLink RL 66 yX12_fault ∈ TB := tb_7 (List.mem_of_getElem? (i := 53) rfl) rfl
theorem lL_58 : Cond.methodLink RL 58 yX12_wood ∈ TB := tb_7 (List.mem_of_getElem? (i := 57) rfl) rfl
theorem lX12_301 : Cond.methodLink RX12 301 yX12_starts ∈ TB := tb_7 (List.mem_of_getElem? (i := 61) rfl) rfl
theorem lX12_222 : Cond.methodLink RX12 222 yX12_advance ∈ TB := tb_7 (List.mem_of_getElem? (i := 65) rfl) rfl
theorem lX12_121 : Cond.methodLink RX12 121 yX12_look2 ∈ TB := tb_7 (List.mem_of_getElem? (i := 69) rfl) rfl
theorem lX12_127 : Cond.methodLink RX12 127 yX12_isLetter ∈ TB := tb_7 (List.mem_of_getElem? (i := 73) rfl) rfl
theorem kX12_133 : Cond.constantLong RX12 133 (32) ∈ TB := tb_7 (List.mem_of_getElem? (i := 76) rfl) rfl
theorem kX12_135 : Cond.constantLong RX12 135 (96) ∈ TB := tb_7 (List.mem_of_getElem? (i := 77) rfl) rfl
theorem lX12_140 : Cond.methodLink RX12 140 yX12_isDigit ∈ TB := tb_7 (List.mem_of_getElem? (i := 78) rfl) rfl
theorem lX12_146 : Cond.methodLink RX12 146 yX12_isSignByte ∈ TB := tb_7 (List.mem_of_getElem? (i := 81) rfl) rfl
theorem lX12_304 : Cond.methodLink RX12 304 yX12_readPart ∈ TB := tb_7 (List.mem_of_getElem? (i := 85) rfl) rfl
theorem lX12_159 : Cond.methodLink RX12 159 yX12_isOdds ∈ TB := tb_7 (List.mem_of_getElem? (i := 89) rfl) rfl
theorem lX12_149 : Cond.methodLink RX12 149 yX12_spelled ∈ TB := tb_7 (List.mem_of_getElem? (i := 93) rfl) rfl
theorem lX12_153 : Cond.methodLink RX12 153 yX12_isWord ∈ TB := tb_7 (List.mem_of_getElem? (i := 96) rfl) rfl
theorem lX12_286 : Cond.methodLink RX12 286 yX12_readOdds ∈ TB := tb_7 (List.mem_of_getElem? (i := 100) rfl) rfl
theorem lX12_218 : Cond.methodLink RX12 218 yX12_fail ∈ TB := tb_7 (List.mem_of_getElem? (i := 104) rfl) rfl
theorem lX12_228 : Cond.methodLink RX12 228 yX12_must ∈ TB := tb_7 (List.mem_of_getElem? (i := 108) rfl) rfl
theorem lX12_225 : Cond.methodLink RX12 225 yX12_amiss ∈ TB := tb_7 (List.mem_of_getElem? (i := 112) rfl) rfl
theorem lX12_232 : Cond.methodLink RX12 232 yX12_count ∈ TB := tb_7 (List.mem_of_getElem? (i := 116) rfl) rfl
theorem lX12_104 : Cond.methodLink RX12 104 yX12_isIn ∈ TB := tb_7 (List.mem_of_getElem? (i := 120) rfl) rfl
theorem lX12_163 : Cond.methodLink RX12 163 yX12_isMatter ∈ TB := tb_7 (List.mem_of_getElem? (i := 123) rfl) rfl
theorem lX12_289 : Cond.methodLink RX12 289 yX12_readMatter ∈ TB := tb_7 (List.mem_of_getElem? (i := 127) rfl) rfl
theorem lX12_257 : Cond.methodLink RX12 257 yX12_readNew ∈ TB := tb_7 (List.mem_of_getElem? (i := 131) rfl) rfl
theorem lX12_241 : Cond.methodLink RX12 241 yX12_isName ∈ TB := tb_7 (List.mem_of_getElem? (i := 135) rfl) rfl
theorem lX12_209 : Cond.methodLink RX12 209 yX12_isKept ∈ TB := tb_7 (List.mem_of_getElem? (i := 139) rfl) rfl
theorem lX12_166 : Cond.methodLink RX12 166 yX12_isPace ∈ TB := tb_7 (List.mem_of_getElem? (i := 143) rfl) rfl
theorem lX12_169 : Cond.methodLink RX12 169 yX12_isClearWord ∈ TB := tb_7 (List.mem_of_getElem? (i := 147) rfl) rfl
theorem lX12_172 : Cond.methodLink RX12 172 yX12_isHold ∈ TB := tb_7 (List.mem_of_getElem? (i := 151) rfl) rfl
theorem lX12_175 : Cond.methodLink RX12 175 yX12_isBy ∈ TB := tb_7 (List.mem_of_getElem? (i := 155) rfl) rfl
theorem lX12_178 : Cond.methodLink RX12 178 yX12_isSitter ∈ TB := tb_7 (List.mem_of_getElem? (i := 159) rfl) rfl
theorem lX12_181 : Cond.methodLink RX12 181 yX12_isMile ∈ TB := tb_7 (List.mem_of_getElem? (i := 163) rfl) rfl
theorem lX12_184 : Cond.methodLink RX12 184 yX12_isTall ∈ TB := tb_7 (List.mem_of_getElem? (i := 167) rfl) rfl
theorem lX12_187 : Cond.methodLink RX12 187 yX12_isFor ∈ TB := tb_7 (List.mem_of_getElem? (i := 171) rfl) rfl
theorem lX12_190 : Cond.methodLink RX12 190 yX12_isWeight ∈ TB := tb_7 (List.mem_of_getElem? (i := 175) rfl) rfl
theorem lX12_193 : Cond.methodLink RX12 193 yX12_isNews ∈ TB := tb_7 (List.mem_of_getElem? (i := 179) rfl) rfl
theorem lX12_196 : Cond.methodLink RX12 196 yX12_isSize ∈ TB := tb_7 (List.mem_of_getElem? (i := 183) rfl) rfl
theorem lX12_199 : Cond.methodLink RX12 199 yX12_stepWord ∈ TB := tb_7 (List.mem_of_getElem? (i := 187) rfl) rfl
theorem lX12_203 : Cond.methodLink RX12 203 yX12_testWord ∈ TB := tb_7 (List.mem_of_getElem? (i := 191) rfl) rfl
theorem kX12_157 : Cond.constantLong RX12 157 (100) ∈ TB := tb_7 (List.mem_of_getElem? (i := 195) rfl) rfl
theorem lX12_206 : Cond.methodLink RX12 206 yX12_isEnd ∈ TB := tb_7 (List.mem_of_getElem? (i := 196) rfl) rfl
theorem lX12_244 : Cond.methodLink RX12 244 yX12_named ∈ TB := tb_7 (List.mem_of_getElem? (i := 200) rfl) rfl
theorem lX12_260 : Cond.methodLink RX12 260 yX12_behindWord ∈ TB := tb_7 (List.mem_of_getElem? (i := 204) rfl) rfl
theorem lX12_264 : Cond.methodLink RX12 264 yX12_perhaps ∈ TB := tb_7 (List.mem_of_getElem? (i := 208) rfl) rfl
theorem lX12_292 : Cond.methodLink RX12 292 yX12_readHold ∈ TB := tb_7 (List.mem_of_getElem? (i := 212) rfl) rfl
theorem lX12_268 : Cond.methodLink RX12 268 yX12_readTold ∈ TB := tb_7 (List.mem_of_getElem? (i := 216) rfl) rfl
theorem lX12_250 : Cond.methodLink RX12 250 yX12_told ∈ TB := tb_7 (List.mem_of_getElem? (i := 220) rfl) rfl
theorem lX12_247 : Cond.methodLink RX12 247 yJ9_max_7cf53 ∈ TB := tb_7 (List.mem_of_getElem? (i := 224) rfl) rfl
theorem lX12_271 : Cond.methodLink RX12 271 yX12_isBound ∈ TB := tb_7 (List.mem_of_getElem? (i := 225) rfl) rfl
theorem lX12_275 : Cond.methodLink RX12 275 yX12_binds ∈ TB := tb_7 (List.mem_of_getElem? (i := 229) rfl) rfl
theorem lX12_295 : Cond.methodLink RX12 295 yX12_readSitter ∈ TB := tb_7 (List.mem_of_getElem? (i := 233) rfl) rfl
theorem lX12_279 : Cond.methodLink RX12 279 yX12_sits ∈ TB := tb_7 (List.mem_of_getElem? (i := 237) rfl) rfl
theorem lX12_298 : Cond.methodLink RX12 298 yX12_readNews ∈ TB := tb_8 (List.mem_of_getElem? (i := 1) rfl) rfl
theorem lX12_283 : Cond.methodLink RX12 283 yX12_hears ∈ TB := tb_8 (List.mem_of_getElem? (i := 5) rfl) rfl
theorem lX12_307 : Cond.methodLink RX12 307 yX12_isSign ∈ TB := tb_8 (List.mem_of_getElem? (i := 9) rfl) rfl
theorem lX12_310 : Cond.methodLink RX12 310 yX12_isWell ∈ TB := tb_8 (List.mem_of_getElem? (i := 13) rfl) rfl
theorem lX12_313 : Cond.methodLink RX12 313 yX12_copy ∈ TB := tb_8 (List.mem_of_getElem? (i := 17) rfl) rfl
theorem lL_62 : Cond.methodLink RL 62 yX12_years ∈ TB := tb_8 (List.mem_of_getElem? (i := 21) rfl) rfl
theorem lX12_325 : Cond.methodLink RX12 325 yX12_readStep ∈ TB := tb_8 (List.mem_of_getElem? (i := 25) rfl) rfl
theorem lX12_322 : Cond.methodLink RX12 322 yX12_readRest ∈ TB := tb_8 (List.mem_of_getElem? (i := 29) rfl) rfl
theorem lX12_316 : Cond.methodLink RX12 316 yX12_readTest ∈ TB := tb_8 (List.mem_of_getElem? (i := 33) rfl) rfl
theorem lL_70 : Cond.methodLink RL 70 yX12_many ∈ TB := tb_8 (List.mem_of_getElem? (i := 37) rfl) rfl
theorem kX12_343 : Cond.constantLong RX12 343 (9) ∈ TB := tb_8 (List.mem_of_getElem? (i := 41) rfl) rfl
theorem lX12_345 : Cond.methodLink RX12 345 yX12_refuse ∈ TB := tb_8 (List.mem_of_getElem? (i := 42) rfl) rfl
theorem lX12_331 : Cond.methodLink RX12 331 yX12_settledOnes ∈ TB := tb_8 (List.mem_of_getElem? (i := 46) rfl) rfl
theorem lX12_328 : Cond.methodLink RX12 328 yX12_isSettled ∈ TB := tb_8 (List.mem_of_getElem? (i := 50) rfl) rfl
theorem lX12_348 : Cond.methodLink RX12 348 yX12_stuckOnes ∈ TB := tb_8 (List.mem_of_getElem? (i := 54) rfl) rfl
theorem lX12_334 : Cond.methodLink RX12 334 yX12_heldBy ∈ TB := tb_8 (List.mem_of_getElem? (i := 58) rfl) rfl
theorem lX12_351 : Cond.methodLink RX12 351 yX12_downOnes ∈ TB := tb_8 (List.mem_of_getElem? (i := 62) rfl) rfl
theorem lX12_340 : Cond.methodLink RX12 340 yX12_heightOf ∈ TB := tb_8 (List.mem_of_getElem? (i := 66) rfl) rfl
theorem lX12_337 : Cond.methodLink RX12 337 yX12_heightBy ∈ TB := tb_8 (List.mem_of_getElem? (i := 70) rfl) rfl
theorem lX12_354 : Cond.methodLink RX12 354 yX12_cameOnes ∈ TB := tb_8 (List.mem_of_getElem? (i := 73) rfl) rfl
theorem lL_75 : Cond.methodLink RL 75 yX12_matter ∈ TB := tb_8 (List.mem_of_getElem? (i := 77) rfl) rfl
theorem lX12_357 : Cond.methodLink RX12 357 yX12_isMatterAt ∈ TB := tb_8 (List.mem_of_getElem? (i := 81) rfl) rfl
theorem kX12_360 : Cond.constantLong RX12 360 (4) ∈ TB := tb_8 (List.mem_of_getElem? (i := 85) rfl) rfl
theorem lX12_362 : Cond.methodLink RX12 362 yX12_satFor ∈ TB := tb_8 (List.mem_of_getElem? (i := 86) rfl) rfl
theorem lX12_365 : Cond.methodLink RX12 365 yX12_loadOf ∈ TB := tb_8 (List.mem_of_getElem? (i := 90) rfl) rfl
theorem lX12_368 : Cond.methodLink RX12 368 yX12_answer ∈ TB := tb_8 (List.mem_of_getElem? (i := 94) rfl) rfl
theorem lL_79 : Cond.methodLink RL 79 yX12_hold ∈ TB := tb_8 (List.mem_of_getElem? (i := 98) rfl) rfl
theorem lL_83 : Cond.methodLink RL 83 yX12_sitter ∈ TB := tb_8 (List.mem_of_getElem? (i := 102) rfl) rfl
theorem lX12_371 : Cond.methodLink RX12 371 yX12_isSitterAt ∈ TB := tb_8 (List.mem_of_getElem? (i := 106) rfl) rfl
theorem lL_87 : Cond.methodLink RL 87 yX12_news ∈ TB := tb_8 (List.mem_of_getElem? (i := 110) rfl) rfl
theorem lX12_374 : Cond.methodLink RX12 374 yX12_isNewsAt ∈ TB := tb_8 (List.mem_of_getElem? (i := 114) rfl) rfl
theorem kX12_377 : Cond.constantLong RX12 377 (2) ∈ TB := tb_8 (List.mem_of_getElem? (i := 118) rfl) rfl
theorem lL_91 : Cond.methodLink RL 91 yX12_copyHeights ∈ TB := tb_8 (List.mem_of_getElem? (i := 119) rfl) rfl
theorem lX12_379 : Cond.methodLink RX12 379 yX12_isTray ∈ TB := tb_8 (List.mem_of_getElem? (i := 123) rfl) rfl
theorem kX12_102 : Cond.constantLong RX12 102 (3) ∈ TB := tb_8 (List.mem_of_getElem? (i := 127) rfl) rfl
theorem lX12_382 : Cond.methodLink RX12 382 yX12_write ∈ TB := tb_8 (List.mem_of_getElem? (i := 128) rfl) rfl
theorem lL_95 : Cond.methodLink RL 95 yX12_day ∈ TB := tb_8 (List.mem_of_getElem? (i := 129) rfl) rfl
theorem kX12_392 : Cond.constantLong RX12 392 (999) ∈ TB := tb_8 (List.mem_of_getElem? (i := 133) rfl) rfl
theorem lX12_394 : Cond.methodLink RX12 394 yX12_passes ∈ TB := tb_8 (List.mem_of_getElem? (i := 134) rfl) rfl
theorem lX12_108 : Cond.methodLink RX12 108 yX12_has ∈ TB := tb_8 (List.mem_of_getElem? (i := 138) rfl) rfl
theorem lX12_389 : Cond.methodLink RX12 389 yX12_clears ∈ TB := tb_8 (List.mem_of_getElem? (i := 141) rfl) rfl
theorem lX12_386 : Cond.methodLink RX12 386 yJ9_min_7cf53 ∈ TB := tb_8 (List.mem_of_getElem? (i := 145) rfl) rfl
theorem lL_99 : Cond.methodLink RL 99 yX12_bring ∈ TB := tb_8 (List.mem_of_getElem? (i := 146) rfl) rfl
theorem lX12_400 : Cond.methodLink RX12 400 yX12_brings ∈ TB := tb_8 (List.mem_of_getElem? (i := 150) rfl) rfl
theorem lX12_397 : Cond.methodLink RX12 397 yX12_canBring ∈ TB := tb_8 (List.mem_of_getElem? (i := 154) rfl) rfl
theorem lL_103 : Cond.methodLink RL 103 yX12_crisis ∈ TB := tb_8 (List.mem_of_getElem? (i := 158) rfl) rfl
theorem lX12_403 : Cond.methodLink RX12 403 yX12_clouds ∈ TB := tb_8 (List.mem_of_getElem? (i := 162) rfl) rfl
theorem lL_107 : Cond.methodLink RL 107 yX12_turn ∈ TB := tb_8 (List.mem_of_getElem? (i := 166) rfl) rfl
theorem lX12_406 : Cond.methodLink RX12 406 yX12_becomes ∈ TB := tb_8 (List.mem_of_getElem? (i := 170) rfl) rfl
theorem lL_112 : Cond.methodLink RL 112 yX12_sit ∈ TB := tb_8 (List.mem_of_getElem? (i := 174) rfl) rfl
theorem kX12_409 : Cond.constantLong RX12 409 (59) ∈ TB := tb_8 (List.mem_of_getElem? (i := 178) rfl) rfl
theorem kX12_411 : Cond.constantLong RX12 411 (99) ∈ TB := tb_8 (List.mem_of_getElem? (i := 179) rfl) rfl
theorem lL_116 : Cond.methodLink RL 116 yX12_hear ∈ TB := tb_8 (List.mem_of_getElem? (i := 180) rfl) rfl
theorem lL_120 : Cond.methodLink RL 120 yX12_bind ∈ TB := tb_8 (List.mem_of_getElem? (i := 184) rfl) rfl
theorem lL_124 : Cond.methodLink RL 124 yX12_loose ∈ TB := tb_8 (List.mem_of_getElem? (i := 188) rfl) rfl
theorem lL_128 : Cond.methodLink RL 128 yX12_hurry ∈ TB := tb_8 (List.mem_of_getElem? (i := 192) rfl) rfl
theorem kX12_413 : Cond.constantLong RX12 413 (20) ∈ TB := tb_8 (List.mem_of_getElem? (i := 196) rfl) rfl
theorem lL_133 : Cond.methodLink RL 133 yX12_rule ∈ TB := tb_8 (List.mem_of_getElem? (i := 197) rfl) rfl
theorem kX12_415 : Cond.constantLong RX12 415 (16) ∈ TB := tb_8 (List.mem_of_getElem? (i := 201) rfl) rfl
theorem lL_137 : Cond.methodLink RL 137 yX12_clearIn ∈ TB := tb_8 (List.mem_of_getElem? (i := 202) rfl) rfl
theorem kX12_423 : Cond.constantLong RX12 423 (200) ∈ TB := tb_8 (List.mem_of_getElem? (i := 206) rfl) rfl
theorem lX12_425 : Cond.methodLink RX12 425 yX12_clearBehind ∈ TB := tb_8 (List.mem_of_getElem? (i := 207) rfl) rfl
theorem lX12_417 : Cond.methodLink RX12 417 yX12_keeps ∈ TB := tb_8 (List.mem_of_getElem? (i := 211) rfl) rfl
theorem lX12_420 : Cond.methodLink RX12 420 yX12_restores ∈ TB := tb_8 (List.mem_of_getElem? (i := 215) rfl) rfl
theorem lL_141 : Cond.methodLink RL 141 yX12_heightIn ∈ TB := tb_8 (List.mem_of_getElem? (i := 219) rfl) rfl
theorem lL_145 : Cond.methodLink RL 145 yX12_downIn ∈ TB := tb_8 (List.mem_of_getElem? (i := 223) rfl) rfl
theorem lL_149 : Cond.methodLink RL 149 yX12_least ∈ TB := tb_8 (List.mem_of_getElem? (i := 227) rfl) rfl
theorem lX12_434 : Cond.methodLink RX12 434 yX12_areSitters ∈ TB := tb_8 (List.mem_of_getElem? (i := 231) rfl) rfl
theorem lX12_437 : Cond.methodLink RX12 437 yX12_leastOf ∈ TB := tb_8 (List.mem_of_getElem? (i := 235) rfl) rfl
theorem lX12_428 : Cond.methodLink RX12 428 yX12_sizeOf ∈ TB := tb_8 (List.mem_of_getElem? (i := 239) rfl) rfl
theorem lX12_431 : Cond.methodLink RX12 431 yX12_isEnough ∈ TB := tb_9 (List.mem_of_getElem? (i := 2) rfl) rfl
theorem lL_153 : Cond.methodLink RL 153 yX12_leastSet ∈ TB := tb_9 (List.mem_of_getElem? (i := 6) rfl) rfl
theorem lL_157 : Cond.methodLink RL 157 yX12_ring ∈ TB := tb_9 (List.mem_of_getElem? (i := 10) rfl) rfl
theorem lX12_440 : Cond.methodLink RX12 440 yX12_ringBut ∈ TB := tb_9 (List.mem_of_getElem? (i := 14) rfl) rfl
theorem lL_161 : Cond.methodLink RL 161 yX12_loosen ∈ TB := tb_9 (List.mem_of_getElem? (i := 18) rfl) rfl
theorem lX12_443 : Cond.methodLink RX12 443 yX12_loosening ∈ TB := tb_9 (List.mem_of_getElem? (i := 22) rfl) rfl
theorem lL_165 : Cond.methodLink RL 165 yX12_loosenSet ∈ TB := tb_9 (List.mem_of_getElem? (i := 26) rfl) rfl
theorem lL_169 : Cond.methodLink RL 169 yX12_waiting ∈ TB := tb_9 (List.mem_of_getElem? (i := 30) rfl) rfl
theorem lX12_456 : Cond.methodLink RX12 456 yX12_isOrdered ∈ TB := tb_9 (List.mem_of_getElem? (i := 34) rfl) rfl
theorem lX12_452 : Cond.methodLink RX12 452 yX12_decides ∈ TB := tb_9 (List.mem_of_getElem? (i := 38) rfl) rfl
theorem lX12_449 : Cond.methodLink RX12 449 yX12_weightsFor ∈ TB := tb_9 (List.mem_of_getElem? (i := 42) rfl) rfl
theorem lL_173 : Cond.methodLink RL 173 yX12_orderAt ∈ TB := tb_9 (List.mem_of_getElem? (i := 46) rfl) rfl
theorem lL_177 : Cond.methodLink RL 177 yX12_round ∈ TB := tb_9 (List.mem_of_getElem? (i := 50) rfl) rfl
theorem lX12_468 : Cond.methodLink RX12 468 yX12_laysMiles ∈ TB := tb_9 (List.mem_of_getElem? (i := 54) rfl) rfl
theorem lX12_464 : Cond.methodLink RX12 464 yX12_serves ∈ TB := tb_9 (List.mem_of_getElem? (i := 58) rfl) rfl
theorem lX12_462 : Cond.methodLink RX12 462 yJ9_abs_0f7a4 ∈ TB := tb_9 (List.mem_of_getElem? (i := 62) rfl) rfl
theorem lL_181 : Cond.methodLink RL 181 yX12_out ∈ TB := tb_9 (List.mem_of_getElem? (i := 63) rfl) rfl
theorem lX12_483 : Cond.methodLink RX12 483 yX12_whyNoOut ∈ TB := tb_9 (List.mem_of_getElem? (i := 67) rfl) rfl
theorem lX12_477 : Cond.methodLink RX12 477 yX12_whyNoTwos ∈ TB := tb_9 (List.mem_of_getElem? (i := 71) rfl) rfl
theorem lX12_471 : Cond.methodLink RX12 471 yX12_numberOf ∈ TB := tb_9 (List.mem_of_getElem? (i := 75) rfl) rfl
theorem kX12_475 : Cond.constantLong RX12 475 (40) ∈ TB := tb_9 (List.mem_of_getElem? (i := 79) rfl) rfl
theorem lX12_487 : Cond.methodLink RX12 487 yX12_outOf ∈ TB := tb_9 (List.mem_of_getElem? (i := 80) rfl) rfl
theorem lX12_480 : Cond.methodLink RX12 480 yX12_laysClearer ∈ TB := tb_9 (List.mem_of_getElem? (i := 84) rfl) rfl
theorem lL_185 : Cond.methodLink RL 185 yX12_ask ∈ TB := tb_9 (List.mem_of_getElem? (i := 88) rfl) rfl
theorem lX12_490 : Cond.methodLink RX12 490 yX12_mostAlike ∈ TB := tb_9 (List.mem_of_getElem? (i := 92) rfl) rfl
theorem lL_189 : Cond.methodLink RL 189 yX12_laws ∈ TB := tb_9 (List.mem_of_getElem? (i := 96) rfl) rfl
theorem lX12_493 : Cond.methodLink RX12 493 yX12_whyNoLaw ∈ TB := tb_9 (List.mem_of_getElem? (i := 100) rfl) rfl
theorem lX12_496 : Cond.methodLink RX12 496 yX12_isLaw ∈ TB := tb_9 (List.mem_of_getElem? (i := 104) rfl) rfl
theorem lL_193 : Cond.methodLink RL 193 yX12_lawOf ∈ TB := tb_9 (List.mem_of_getElem? (i := 108) rfl) rfl
theorem lL_198 : Cond.methodLink RL 198 yX12_off ∈ TB := tb_9 (List.mem_of_getElem? (i := 112) rfl) rfl
theorem kX12_509 : Cond.constantLong RX12 509 (8) ∈ TB := tb_9 (List.mem_of_getElem? (i := 116) rfl) rfl
theorem lX12_511 : Cond.methodLink RX12 511 yX12_laysCost ∈ TB := tb_9 (List.mem_of_getElem? (i := 117) rfl) rfl
theorem lX12_506 : Cond.methodLink RX12 506 yJ9_min_f86c9 ∈ TB := tb_9 (List.mem_of_getElem? (i := 121) rfl) rfl
theorem lX12_514 : Cond.methodLink RX12 514 yX12_fraction ∈ TB := tb_9 (List.mem_of_getElem? (i := 122) rfl) rfl
theorem lX12_78 : Cond.methodLink RX12 78 yJ9_abs_067f4 ∈ TB := tb_9 (List.mem_of_getElem? (i := 126) rfl) rfl
theorem lL_202 : Cond.methodLink RL 202 yX12_stay ∈ TB := tb_9 (List.mem_of_getElem? (i := 129) rfl) rfl
theorem lL_206 : Cond.methodLink RL 206 yX12_game ∈ TB := tb_9 (List.mem_of_getElem? (i := 133) rfl) rfl
theorem lX12_524 : Cond.methodLink RX12 524 yX12_whyNoGame ∈ TB := tb_9 (List.mem_of_getElem? (i := 137) rfl) rfl
theorem lX12_518 : Cond.methodLink RX12 518 yX12_plays ∈ TB := tb_9 (List.mem_of_getElem? (i := 141) rfl) rfl
theorem lL_210 : Cond.methodLink RL 210 yX12_moveOf ∈ TB := tb_9 (List.mem_of_getElem? (i := 145) rfl) rfl
theorem lL_214 : Cond.methodLink RL 214 yX12_lasts ∈ TB := tb_9 (List.mem_of_getElem? (i := 149) rfl) rfl
theorem kX12_527 : Cond.constantLong RX12 527 (12) ∈ TB := tb_9 (List.mem_of_getElem? (i := 153) rfl) rfl
theorem lL_218 : Cond.methodLink RL 218 yX12_share ∈ TB := tb_9 (List.mem_of_getElem? (i := 154) rfl) rfl
theorem lX12_529 : Cond.methodLink RX12 529 yX12_heights ∈ TB := tb_9 (List.mem_of_getElem? (i := 158) rfl) rfl
theorem lL_222 : Cond.methodLink RL 222 yX12_live ∈ TB := tb_9 (List.mem_of_getElem? (i := 162) rfl) rfl
theorem kX12_584 : Cond.constantLong RX12 584 (9999) ∈ TB := tb_9 (List.mem_of_getElem? (i := 166) rfl) rfl
theorem lX12_586 : Cond.methodLink RX12 586 yX12_runsYears ∈ TB := tb_9 (List.mem_of_getElem? (i := 167) rfl) rfl
theorem lX12_575 : Cond.methodLink RX12 575 yX12_doAll ∈ TB := tb_9 (List.mem_of_getElem? (i := 171) rfl) rfl
theorem lX12_578 : Cond.methodLink RX12 578 yX12_doOne ∈ TB := tb_9 (List.mem_of_getElem? (i := 175) rfl) rfl
theorem lX12_569 : Cond.methodLink RX12 569 yX12_does ∈ TB := tb_9 (List.mem_of_getElem? (i := 179) rfl) rfl
theorem lX12_548 : Cond.methodLink RX12 548 yX12_anyDays ∈ TB := tb_9 (List.mem_of_getElem? (i := 183) rfl) rfl
theorem lX12_551 : Cond.methodLink RX12 551 yX12_isBrought ∈ TB := tb_9 (List.mem_of_getElem? (i := 187) rfl) rfl
theorem lX12_545 : Cond.methodLink RX12 545 yX12_isClouded ∈ TB := tb_9 (List.mem_of_getElem? (i := 191) rfl) rfl
theorem lX12_554 : Cond.methodLink RX12 554 yX12_isAny ∈ TB := tb_9 (List.mem_of_getElem? (i := 195) rfl) rfl
theorem lX12_542 : Cond.methodLink RX12 542 yX12_draw ∈ TB := tb_9 (List.mem_of_getElem? (i := 199) rfl) rfl
theorem kX12_535 : Cond.constant RX12 535 (65536) ∈ TB := tb_9 (List.mem_of_getElem? (i := 203) rfl) rfl
theorem lX12_572 : Cond.methodLink RX12 572 yX12_holds ∈ TB := tb_9 (List.mem_of_getElem? (i := 204) rfl) rfl
theorem lL_226 : Cond.methodLink RL 226 yX12_lived ∈ TB := tb_9 (List.mem_of_getElem? (i := 208) rfl) rfl
theorem lL_230 : Cond.methodLink RL 230 yX12_mean ∈ TB := tb_9 (List.mem_of_getElem? (i := 212) rfl) rfl
theorem lL_234 : Cond.methodLink RL 234 yX12_mark ∈ TB := tb_9 (List.mem_of_getElem? (i := 216) rfl) rfl
theorem lL_238 : Cond.methodLink RL 238 yX12_back ∈ TB := tb_9 (List.mem_of_getElem? (i := 220) rfl) rfl
theorem kL_32 : Cond.constantLong RL 32 (4294967295) ∈ TB := tb_9 (List.mem_of_getElem? (i := 224) rfl) rfl
theorem lX11_149 : Cond.methodLink RX11 149 arraycopyName ∈ TB := tb_3 (List.mem_of_getElem? (i := 6) rfl) rfl
theorem lX6_81 : Cond.methodLink RX6 81 arraycopyName ∈ TB := tb_3 (List.mem_of_getElem? (i := 226) rfl) rfl
theorem lX9_41 : Cond.methodLink RX9 41 arraycopyName ∈ TB := tb_3 (List.mem_of_getElem? (i := 231) rfl) rfl
theorem lX0_20 : Cond.methodLink RX0 20 arraycopyName ∈ TB := tb_4 (List.mem_of_getElem? (i := 228) rfl) rfl
theorem lX3_61 : Cond.methodLink RX3 61 arraycopyName ∈ TB := tb_5 (List.mem_of_getElem? (i := 34) rfl) rfl
theorem lX1_27 : Cond.methodLink RX1 27 arraycopyName ∈ TB := tb_5 (List.mem_of_getElem? (i := 215) rfl) rfl

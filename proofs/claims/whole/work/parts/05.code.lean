/-! the code words, one by one -/
set_option maxRecDepth 100000 in
theorem pm_c_0 : lw_tbl[117]? = some (Cond.code (pm_y 0) (pm_b 0) (pm_l 0) (pm_r 0)) := rfl
set_option maxRecDepth 100000 in
theorem pm_c_1 : lw_tbl[125]? = some (Cond.code (pm_y 1) (pm_b 1) (pm_l 1) (pm_r 1)) := rfl
set_option maxRecDepth 100000 in
theorem pm_c_2 : lw_tbl[132]? = some (Cond.code (pm_y 2) (pm_b 2) (pm_l 2) (pm_r 2)) := rfl
set_option maxRecDepth 100000 in
theorem pm_c_3 : lw_tbl[175]? = some (Cond.code (pm_y 3) (pm_b 3) (pm_l 3) (pm_r 3)) := rfl
set_option maxRecDepth 100000 in
theorem pm_c_4 : lw_tbl[189]? = some (Cond.code (pm_y 4) (pm_b 4) (pm_l 4) (pm_r 4)) := rfl
set_option maxRecDepth 100000 in
theorem pm_c_5 : lw_tbl[243]? = some (Cond.code (pm_y 5) (pm_b 5) (pm_l 5) (pm_r 5)) := rfl
set_option maxRecDepth 100000 in
theorem pm_c_6 : lw_tbl[247]? = some (Cond.code (pm_y 6) (pm_b 6) (pm_l 6) (pm_r 6)) := rfl
set_option maxRecDepth 100000 in
theorem pm_c_7 : lw_tbl[251]? = some (Cond.code (pm_y 7) (pm_b 7) (pm_l 7) (pm_r 7)) := rfl
set_option maxRecDepth 100000 in
theorem pm_c_8 : lw_tbl[255]? = some (Cond.code (pm_y 8) (pm_b 8) (pm_l 8) (pm_r 8)) := rfl
set_option maxRecDepth 100000 in
theorem pm_c_9 : lw_tbl[259]? = some (Cond.code (pm_y 9) (pm_b 9) (pm_l 9) (pm_r 9)) := rfl
set_option maxRecDepth 100000 in
theorem pm_c_10 : lw_tbl[263]? = some (Cond.code (pm_y 10) (pm_b 10) (pm_l 10) (pm_r 10)) := rfl
set_option maxRecDepth 100000 in
theorem pm_c_11 : lw_tbl[266]? = some (Cond.code (pm_y 11) (pm_b 11) (pm_l 11) (pm_r 11)) := rfl
set_option maxRecDepth 100000 in
theorem pm_c_12 : lw_tbl[269]? = some (Cond.code (pm_y 12) (pm_b 12) (pm_l 12) (pm_r 12)) := rfl
set_option maxRecDepth 100000 in
theorem pm_c_13 : lw_tbl[272]? = some (Cond.code (pm_y 13) (pm_b 13) (pm_l 13) (pm_r 13)) := rfl
set_option maxRecDepth 100000 in
theorem pm_c_14 : lw_tbl[304]? = some (Cond.code (pm_y 14) (pm_b 14) (pm_l 14) (pm_r 14)) := rfl
set_option maxRecDepth 100000 in
theorem pm_c_15 : lw_tbl[307]? = some (Cond.code (pm_y 15) (pm_b 15) (pm_l 15) (pm_r 15)) := rfl
set_option maxRecDepth 100000 in
theorem pm_c_16 : lw_tbl[363]? = some (Cond.code (pm_y 16) (pm_b 16) (pm_l 16) (pm_r 16)) := rfl
set_option maxRecDepth 100000 in
theorem pm_c_17 : lw_tbl[367]? = some (Cond.code (pm_y 17) (pm_b 17) (pm_l 17) (pm_r 17)) := rfl
set_option maxRecDepth 100000 in
theorem pm_c_18 : lw_tbl[375]? = some (Cond.code (pm_y 18) (pm_b 18) (pm_l 18) (pm_r 18)) := rfl
set_option maxRecDepth 100000 in
theorem pm_c_19 : lw_tbl[379]? = some (Cond.code (pm_y 19) (pm_b 19) (pm_l 19) (pm_r 19)) := rfl
set_option maxRecDepth 100000 in
theorem pm_c_20 : lw_tbl[383]? = some (Cond.code (pm_y 20) (pm_b 20) (pm_l 20) (pm_r 20)) := rfl
set_option maxRecDepth 100000 in
theorem pm_c_21 : lw_tbl[387]? = some (Cond.code (pm_y 21) (pm_b 21) (pm_l 21) (pm_r 21)) := rfl
set_option maxRecDepth 100000 in
theorem pm_c_22 : lw_tbl[391]? = some (Cond.code (pm_y 22) (pm_b 22) (pm_l 22) (pm_r 22)) := rfl
set_option maxRecDepth 100000 in
theorem pm_c_23 : lw_tbl[395]? = some (Cond.code (pm_y 23) (pm_b 23) (pm_l 23) (pm_r 23)) := rfl
set_option maxRecDepth 100000 in
theorem pm_c_24 : lw_tbl[398]? = some (Cond.code (pm_y 24) (pm_b 24) (pm_l 24) (pm_r 24)) := rfl
set_option maxRecDepth 100000 in
theorem pm_c_25 : lw_tbl[402]? = some (Cond.code (pm_y 25) (pm_b 25) (pm_l 25) (pm_r 25)) := rfl
set_option maxRecDepth 100000 in
theorem pm_c_26 : lw_tbl[406]? = some (Cond.code (pm_y 26) (pm_b 26) (pm_l 26) (pm_r 26)) := rfl
set_option maxRecDepth 100000 in
theorem pm_c_27 : lw_tbl[410]? = some (Cond.code (pm_y 27) (pm_b 27) (pm_l 27) (pm_r 27)) := rfl
set_option maxRecDepth 100000 in
theorem pm_c_28 : lw_tbl[414]? = some (Cond.code (pm_y 28) (pm_b 28) (pm_l 28) (pm_r 28)) := rfl
set_option maxRecDepth 100000 in
theorem pm_c_29 : lw_tbl[418]? = some (Cond.code (pm_y 29) (pm_b 29) (pm_l 29) (pm_r 29)) := rfl
set_option maxRecDepth 100000 in
theorem pm_c_30 : lw_tbl[422]? = some (Cond.code (pm_y 30) (pm_b 30) (pm_l 30) (pm_r 30)) := rfl
set_option maxRecDepth 100000 in
theorem pm_c_31 : lw_tbl[427]? = some (Cond.code (pm_y 31) (pm_b 31) (pm_l 31) (pm_r 31)) := rfl
set_option maxRecDepth 100000 in
theorem pm_c_32 : lw_tbl[432]? = some (Cond.code (pm_y 32) (pm_b 32) (pm_l 32) (pm_r 32)) := rfl
set_option maxRecDepth 100000 in
theorem pm_c_33 : lw_tbl[438]? = some (Cond.code (pm_y 33) (pm_b 33) (pm_l 33) (pm_r 33)) := rfl
set_option maxRecDepth 100000 in
theorem pm_c_34 : lw_tbl[442]? = some (Cond.code (pm_y 34) (pm_b 34) (pm_l 34) (pm_r 34)) := rfl
set_option maxRecDepth 100000 in
theorem pm_c_35 : lw_tbl[447]? = some (Cond.code (pm_y 35) (pm_b 35) (pm_l 35) (pm_r 35)) := rfl
set_option maxRecDepth 100000 in
theorem pm_c_36 : lw_tbl[451]? = some (Cond.code (pm_y 36) (pm_b 36) (pm_l 36) (pm_r 36)) := rfl
set_option maxRecDepth 100000 in
theorem pm_c_37 : lw_tbl[455]? = some (Cond.code (pm_y 37) (pm_b 37) (pm_l 37) (pm_r 37)) := rfl
set_option maxRecDepth 100000 in
theorem pm_c_38 : lw_tbl[459]? = some (Cond.code (pm_y 38) (pm_b 38) (pm_l 38) (pm_r 38)) := rfl
set_option maxRecDepth 100000 in
theorem pm_c_39 : lw_tbl[463]? = some (Cond.code (pm_y 39) (pm_b 39) (pm_l 39) (pm_r 39)) := rfl
set_option maxRecDepth 100000 in
theorem pm_c_40 : lw_tbl[467]? = some (Cond.code (pm_y 40) (pm_b 40) (pm_l 40) (pm_r 40)) := rfl
set_option maxRecDepth 100000 in
theorem pm_c_41 : lw_tbl[473]? = some (Cond.code (pm_y 41) (pm_b 41) (pm_l 41) (pm_r 41)) := rfl
set_option maxRecDepth 100000 in
theorem pm_c_42 : lw_tbl[477]? = some (Cond.code (pm_y 42) (pm_b 42) (pm_l 42) (pm_r 42)) := rfl
set_option maxRecDepth 100000 in
theorem pm_c_43 : lw_tbl[481]? = some (Cond.code (pm_y 43) (pm_b 43) (pm_l 43) (pm_r 43)) := rfl
set_option maxRecDepth 100000 in
theorem pm_c_44 : lw_tbl[485]? = some (Cond.code (pm_y 44) (pm_b 44) (pm_l 44) (pm_r 44)) := rfl
set_option maxRecDepth 100000 in
theorem pm_c_45 : lw_tbl[489]? = some (Cond.code (pm_y 45) (pm_b 45) (pm_l 45) (pm_r 45)) := rfl
set_option maxRecDepth 100000 in
theorem pm_c_46 : lw_tbl[492]? = some (Cond.code (pm_y 46) (pm_b 46) (pm_l 46) (pm_r 46)) := rfl
set_option maxRecDepth 100000 in
theorem pm_c_47 : lw_tbl[496]? = some (Cond.code (pm_y 47) (pm_b 47) (pm_l 47) (pm_r 47)) := rfl
set_option maxRecDepth 100000 in
theorem pm_c_48 : lw_tbl[500]? = some (Cond.code (pm_y 48) (pm_b 48) (pm_l 48) (pm_r 48)) := rfl
set_option maxRecDepth 100000 in
theorem pm_c_49 : lw_tbl[503]? = some (Cond.code (pm_y 49) (pm_b 49) (pm_l 49) (pm_r 49)) := rfl
set_option maxRecDepth 100000 in
theorem pm_c_50 : lw_tbl[507]? = some (Cond.code (pm_y 50) (pm_b 50) (pm_l 50) (pm_r 50)) := rfl
set_option maxRecDepth 100000 in
theorem pm_c_51 : lw_tbl[511]? = some (Cond.code (pm_y 51) (pm_b 51) (pm_l 51) (pm_r 51)) := rfl
set_option maxRecDepth 100000 in
theorem pm_c_52 : lw_tbl[515]? = some (Cond.code (pm_y 52) (pm_b 52) (pm_l 52) (pm_r 52)) := rfl
set_option maxRecDepth 100000 in
theorem pm_c_53 : lw_tbl[518]? = some (Cond.code (pm_y 53) (pm_b 53) (pm_l 53) (pm_r 53)) := rfl
set_option maxRecDepth 100000 in
theorem pm_c_54 : lw_tbl[522]? = some (Cond.code (pm_y 54) (pm_b 54) (pm_l 54) (pm_r 54)) := rfl
set_option maxRecDepth 100000 in
theorem pm_c_55 : lw_tbl[525]? = some (Cond.code (pm_y 55) (pm_b 55) (pm_l 55) (pm_r 55)) := rfl
set_option maxRecDepth 100000 in
theorem pm_c_56 : lw_tbl[528]? = some (Cond.code (pm_y 56) (pm_b 56) (pm_l 56) (pm_r 56)) := rfl
set_option maxRecDepth 100000 in
theorem pm_c_57 : lw_tbl[531]? = some (Cond.code (pm_y 57) (pm_b 57) (pm_l 57) (pm_r 57)) := rfl
set_option maxRecDepth 100000 in
theorem pm_c_58 : lw_tbl[534]? = some (Cond.code (pm_y 58) (pm_b 58) (pm_l 58) (pm_r 58)) := rfl
set_option maxRecDepth 100000 in
theorem pm_c_59 : lw_tbl[538]? = some (Cond.code (pm_y 59) (pm_b 59) (pm_l 59) (pm_r 59)) := rfl
set_option maxRecDepth 100000 in
theorem pm_c_60 : lw_tbl[541]? = some (Cond.code (pm_y 60) (pm_b 60) (pm_l 60) (pm_r 60)) := rfl
set_option maxRecDepth 100000 in
theorem pm_c_61 : lw_tbl[546]? = some (Cond.code (pm_y 61) (pm_b 61) (pm_l 61) (pm_r 61)) := rfl
set_option maxRecDepth 100000 in
theorem pm_c_62 : lw_tbl[549]? = some (Cond.code (pm_y 62) (pm_b 62) (pm_l 62) (pm_r 62)) := rfl
set_option maxRecDepth 100000 in
theorem pm_c_63 : lw_tbl[552]? = some (Cond.code (pm_y 63) (pm_b 63) (pm_l 63) (pm_r 63)) := rfl
set_option maxRecDepth 100000 in
theorem pm_c_64 : lw_tbl[555]? = some (Cond.code (pm_y 64) (pm_b 64) (pm_l 64) (pm_r 64)) := rfl
set_option maxRecDepth 100000 in
theorem pm_c_65 : lw_tbl[558]? = some (Cond.code (pm_y 65) (pm_b 65) (pm_l 65) (pm_r 65)) := rfl
set_option maxRecDepth 100000 in
theorem pm_c_66 : lw_tbl[562]? = some (Cond.code (pm_y 66) (pm_b 66) (pm_l 66) (pm_r 66)) := rfl
set_option maxRecDepth 100000 in
theorem pm_c_67 : lw_tbl[566]? = some (Cond.code (pm_y 67) (pm_b 67) (pm_l 67) (pm_r 67)) := rfl
set_option maxRecDepth 100000 in
theorem pm_c_68 : lw_tbl[569]? = some (Cond.code (pm_y 68) (pm_b 68) (pm_l 68) (pm_r 68)) := rfl
set_option maxRecDepth 100000 in
theorem pm_c_69 : lw_tbl[572]? = some (Cond.code (pm_y 69) (pm_b 69) (pm_l 69) (pm_r 69)) := rfl
set_option maxRecDepth 100000 in
theorem pm_c_70 : lw_tbl[576]? = some (Cond.code (pm_y 70) (pm_b 70) (pm_l 70) (pm_r 70)) := rfl
set_option maxRecDepth 100000 in
theorem pm_c_71 : lw_tbl[581]? = some (Cond.code (pm_y 71) (pm_b 71) (pm_l 71) (pm_r 71)) := rfl
set_option maxRecDepth 100000 in
theorem pm_c_72 : lw_tbl[585]? = some (Cond.code (pm_y 72) (pm_b 72) (pm_l 72) (pm_r 72)) := rfl
set_option maxRecDepth 100000 in
theorem pm_c_73 : lw_tbl[589]? = some (Cond.code (pm_y 73) (pm_b 73) (pm_l 73) (pm_r 73)) := rfl
set_option maxRecDepth 100000 in
theorem pm_c_74 : lw_tbl[593]? = some (Cond.code (pm_y 74) (pm_b 74) (pm_l 74) (pm_r 74)) := rfl
set_option maxRecDepth 100000 in
theorem pm_c_75 : lw_tbl[597]? = some (Cond.code (pm_y 75) (pm_b 75) (pm_l 75) (pm_r 75)) := rfl
set_option maxRecDepth 100000 in
theorem pm_c_76 : lw_tbl[601]? = some (Cond.code (pm_y 76) (pm_b 76) (pm_l 76) (pm_r 76)) := rfl
set_option maxRecDepth 100000 in
theorem pm_c_77 : lw_tbl[605]? = some (Cond.code (pm_y 77) (pm_b 77) (pm_l 77) (pm_r 77)) := rfl
set_option maxRecDepth 100000 in
theorem pm_c_78 : lw_tbl[609]? = some (Cond.code (pm_y 78) (pm_b 78) (pm_l 78) (pm_r 78)) := rfl
set_option maxRecDepth 100000 in
theorem pm_c_79 : lw_tbl[612]? = some (Cond.code (pm_y 79) (pm_b 79) (pm_l 79) (pm_r 79)) := rfl
set_option maxRecDepth 100000 in
theorem pm_c_80 : lw_tbl[619]? = some (Cond.code (pm_y 80) (pm_b 80) (pm_l 80) (pm_r 80)) := rfl
set_option maxRecDepth 100000 in
theorem pm_c_81 : lw_tbl[625]? = some (Cond.code (pm_y 81) (pm_b 81) (pm_l 81) (pm_r 81)) := rfl
set_option maxRecDepth 100000 in
theorem pm_c_82 : lw_tbl[629]? = some (Cond.code (pm_y 82) (pm_b 82) (pm_l 82) (pm_r 82)) := rfl
set_option maxRecDepth 100000 in
theorem pm_c_83 : lw_tbl[633]? = some (Cond.code (pm_y 83) (pm_b 83) (pm_l 83) (pm_r 83)) := rfl
set_option maxRecDepth 100000 in
theorem pm_c_84 : lw_tbl[637]? = some (Cond.code (pm_y 84) (pm_b 84) (pm_l 84) (pm_r 84)) := rfl
set_option maxRecDepth 100000 in
theorem pm_c_85 : lw_tbl[641]? = some (Cond.code (pm_y 85) (pm_b 85) (pm_l 85) (pm_r 85)) := rfl
set_option maxRecDepth 100000 in
theorem pm_c_86 : lw_tbl[645]? = some (Cond.code (pm_y 86) (pm_b 86) (pm_l 86) (pm_r 86)) := rfl
set_option maxRecDepth 100000 in
theorem pm_c_87 : lw_tbl[649]? = some (Cond.code (pm_y 87) (pm_b 87) (pm_l 87) (pm_r 87)) := rfl
set_option maxRecDepth 100000 in
theorem pm_c_88 : lw_tbl[654]? = some (Cond.code (pm_y 88) (pm_b 88) (pm_l 88) (pm_r 88)) := rfl
set_option maxRecDepth 100000 in
theorem pm_c_89 : lw_tbl[658]? = some (Cond.code (pm_y 89) (pm_b 89) (pm_l 89) (pm_r 89)) := rfl
set_option maxRecDepth 100000 in
theorem pm_c_90 : lw_tbl[662]? = some (Cond.code (pm_y 90) (pm_b 90) (pm_l 90) (pm_r 90)) := rfl
set_option maxRecDepth 100000 in
theorem pm_c_91 : lw_tbl[666]? = some (Cond.code (pm_y 91) (pm_b 91) (pm_l 91) (pm_r 91)) := rfl
set_option maxRecDepth 100000 in
theorem pm_c_92 : lw_tbl[670]? = some (Cond.code (pm_y 92) (pm_b 92) (pm_l 92) (pm_r 92)) := rfl
set_option maxRecDepth 100000 in
theorem pm_c_93 : lw_tbl[676]? = some (Cond.code (pm_y 93) (pm_b 93) (pm_l 93) (pm_r 93)) := rfl
set_option maxRecDepth 100000 in
theorem pm_c_94 : lw_tbl[680]? = some (Cond.code (pm_y 94) (pm_b 94) (pm_l 94) (pm_r 94)) := rfl
set_option maxRecDepth 100000 in
theorem pm_c_95 : lw_tbl[684]? = some (Cond.code (pm_y 95) (pm_b 95) (pm_l 95) (pm_r 95)) := rfl
set_option maxRecDepth 100000 in
theorem pm_c_96 : lw_tbl[688]? = some (Cond.code (pm_y 96) (pm_b 96) (pm_l 96) (pm_r 96)) := rfl
set_option maxRecDepth 100000 in
theorem pm_c_97 : lw_tbl[692]? = some (Cond.code (pm_y 97) (pm_b 97) (pm_l 97) (pm_r 97)) := rfl
set_option maxRecDepth 100000 in
theorem pm_c_98 : lw_tbl[695]? = some (Cond.code (pm_y 98) (pm_b 98) (pm_l 98) (pm_r 98)) := rfl
set_option maxRecDepth 100000 in
theorem pm_c_99 : lw_tbl[699]? = some (Cond.code (pm_y 99) (pm_b 99) (pm_l 99) (pm_r 99)) := rfl
set_option maxRecDepth 100000 in
theorem pm_c_100 : lw_tbl[704]? = some (Cond.code (pm_y 100) (pm_b 100) (pm_l 100) (pm_r 100)) := rfl
set_option maxRecDepth 100000 in
theorem pm_c_101 : lw_tbl[708]? = some (Cond.code (pm_y 101) (pm_b 101) (pm_l 101) (pm_r 101)) := rfl
set_option maxRecDepth 100000 in
theorem pm_c_102 : lw_tbl[712]? = some (Cond.code (pm_y 102) (pm_b 102) (pm_l 102) (pm_r 102)) := rfl
set_option maxRecDepth 100000 in
theorem pm_c_103 : lw_tbl[716]? = some (Cond.code (pm_y 103) (pm_b 103) (pm_l 103) (pm_r 103)) := rfl
set_option maxRecDepth 100000 in
theorem pm_c_104 : lw_tbl[720]? = some (Cond.code (pm_y 104) (pm_b 104) (pm_l 104) (pm_r 104)) := rfl
set_option maxRecDepth 100000 in
theorem pm_c_105 : lw_tbl[724]? = some (Cond.code (pm_y 105) (pm_b 105) (pm_l 105) (pm_r 105)) := rfl
set_option maxRecDepth 100000 in
theorem pm_c_106 : lw_tbl[728]? = some (Cond.code (pm_y 106) (pm_b 106) (pm_l 106) (pm_r 106)) := rfl
set_option maxRecDepth 100000 in
theorem pm_c_107 : lw_tbl[733]? = some (Cond.code (pm_y 107) (pm_b 107) (pm_l 107) (pm_r 107)) := rfl
set_option maxRecDepth 100000 in
theorem pm_c_108 : lw_tbl[738]? = some (Cond.code (pm_y 108) (pm_b 108) (pm_l 108) (pm_r 108)) := rfl
set_option maxRecDepth 100000 in
theorem pm_c_109 : lw_tbl[743]? = some (Cond.code (pm_y 109) (pm_b 109) (pm_l 109) (pm_r 109)) := rfl
set_option maxRecDepth 100000 in
theorem pm_c_110 : lw_tbl[747]? = some (Cond.code (pm_y 110) (pm_b 110) (pm_l 110) (pm_r 110)) := rfl
set_option maxRecDepth 100000 in
theorem pm_c_111 : lw_tbl[751]? = some (Cond.code (pm_y 111) (pm_b 111) (pm_l 111) (pm_r 111)) := rfl
set_option maxRecDepth 100000 in
theorem pm_c_112 : lw_tbl[755]? = some (Cond.code (pm_y 112) (pm_b 112) (pm_l 112) (pm_r 112)) := rfl
set_option maxRecDepth 100000 in
theorem pm_c_113 : lw_tbl[759]? = some (Cond.code (pm_y 113) (pm_b 113) (pm_l 113) (pm_r 113)) := rfl
set_option maxRecDepth 100000 in
theorem pm_c_114 : lw_tbl[763]? = some (Cond.code (pm_y 114) (pm_b 114) (pm_l 114) (pm_r 114)) := rfl
set_option maxRecDepth 100000 in
theorem pm_c_115 : lw_tbl[766]? = some (Cond.code (pm_y 115) (pm_b 115) (pm_l 115) (pm_r 115)) := rfl
set_option maxRecDepth 100000 in
theorem pm_c_116 : lw_tbl[772]? = some (Cond.code (pm_y 116) (pm_b 116) (pm_l 116) (pm_r 116)) := rfl
set_option maxRecDepth 100000 in
theorem pm_c_117 : lw_tbl[775]? = some (Cond.code (pm_y 117) (pm_b 117) (pm_l 117) (pm_r 117)) := rfl
set_option maxRecDepth 100000 in
theorem pm_c_118 : lw_tbl[779]? = some (Cond.code (pm_y 118) (pm_b 118) (pm_l 118) (pm_r 118)) := rfl
set_option maxRecDepth 100000 in
theorem pm_c_119 : lw_tbl[783]? = some (Cond.code (pm_y 119) (pm_b 119) (pm_l 119) (pm_r 119)) := rfl
set_option maxRecDepth 100000 in
theorem pm_c_120 : lw_tbl[787]? = some (Cond.code (pm_y 120) (pm_b 120) (pm_l 120) (pm_r 120)) := rfl
set_option maxRecDepth 100000 in
theorem pm_c_121 : lw_tbl[791]? = some (Cond.code (pm_y 121) (pm_b 121) (pm_l 121) (pm_r 121)) := rfl
set_option maxRecDepth 100000 in
theorem pm_c_122 : lw_tbl[795]? = some (Cond.code (pm_y 122) (pm_b 122) (pm_l 122) (pm_r 122)) := rfl
set_option maxRecDepth 100000 in
theorem pm_c_123 : lw_tbl[799]? = some (Cond.code (pm_y 123) (pm_b 123) (pm_l 123) (pm_r 123)) := rfl
set_option maxRecDepth 100000 in
theorem pm_c_124 : lw_tbl[803]? = some (Cond.code (pm_y 124) (pm_b 124) (pm_l 124) (pm_r 124)) := rfl
set_option maxRecDepth 100000 in
theorem pm_c_125 : lw_tbl[814]? = some (Cond.code (pm_y 125) (pm_b 125) (pm_l 125) (pm_r 125)) := rfl
set_option maxRecDepth 100000 in
theorem pm_c_126 : lw_tbl[818]? = some (Cond.code (pm_y 126) (pm_b 126) (pm_l 126) (pm_r 126)) := rfl
set_option maxRecDepth 100000 in
theorem pm_c_127 : lw_tbl[822]? = some (Cond.code (pm_y 127) (pm_b 127) (pm_l 127) (pm_r 127)) := rfl
set_option maxRecDepth 100000 in
theorem pm_c_128 : lw_tbl[826]? = some (Cond.code (pm_y 128) (pm_b 128) (pm_l 128) (pm_r 128)) := rfl
set_option maxRecDepth 100000 in
theorem pm_c_129 : lw_tbl[830]? = some (Cond.code (pm_y 129) (pm_b 129) (pm_l 129) (pm_r 129)) := rfl
set_option maxRecDepth 100000 in
theorem pm_c_130 : lw_tbl[835]? = some (Cond.code (pm_y 130) (pm_b 130) (pm_l 130) (pm_r 130)) := rfl
set_option maxRecDepth 100000 in
theorem pm_c_131 : lw_tbl[932]? = some (Cond.code (pm_y 131) (pm_b 131) (pm_l 131) (pm_r 131)) := rfl
set_option maxRecDepth 100000 in
theorem pm_c_132 : lw_tbl[935]? = some (Cond.code (pm_y 132) (pm_b 132) (pm_l 132) (pm_r 132)) := rfl
set_option maxRecDepth 100000 in
theorem pm_c_133 : lw_tbl[939]? = some (Cond.code (pm_y 133) (pm_b 133) (pm_l 133) (pm_r 133)) := rfl
set_option maxRecDepth 100000 in
theorem pm_c_134 : lw_tbl[943]? = some (Cond.code (pm_y 134) (pm_b 134) (pm_l 134) (pm_r 134)) := rfl
set_option maxRecDepth 100000 in
theorem pm_c_135 : lw_tbl[947]? = some (Cond.code (pm_y 135) (pm_b 135) (pm_l 135) (pm_r 135)) := rfl
set_option maxRecDepth 100000 in
theorem pm_c_136 : lw_tbl[951]? = some (Cond.code (pm_y 136) (pm_b 136) (pm_l 136) (pm_r 136)) := rfl
set_option maxRecDepth 100000 in
theorem pm_c_137 : lw_tbl[955]? = some (Cond.code (pm_y 137) (pm_b 137) (pm_l 137) (pm_r 137)) := rfl
set_option maxRecDepth 100000 in
theorem pm_c_138 : lw_tbl[959]? = some (Cond.code (pm_y 138) (pm_b 138) (pm_l 138) (pm_r 138)) := rfl
set_option maxRecDepth 100000 in
theorem pm_c_139 : lw_tbl[962]? = some (Cond.code (pm_y 139) (pm_b 139) (pm_l 139) (pm_r 139)) := rfl
set_option maxRecDepth 100000 in
theorem pm_c_140 : lw_tbl[966]? = some (Cond.code (pm_y 140) (pm_b 140) (pm_l 140) (pm_r 140)) := rfl
set_option maxRecDepth 100000 in
theorem pm_c_141 : lw_tbl[969]? = some (Cond.code (pm_y 141) (pm_b 141) (pm_l 141) (pm_r 141)) := rfl
set_option maxRecDepth 100000 in
theorem pm_c_142 : lw_tbl[973]? = some (Cond.code (pm_y 142) (pm_b 142) (pm_l 142) (pm_r 142)) := rfl
set_option maxRecDepth 100000 in
theorem pm_c_143 : lw_tbl[977]? = some (Cond.code (pm_y 143) (pm_b 143) (pm_l 143) (pm_r 143)) := rfl
set_option maxRecDepth 100000 in
theorem pm_c_144 : lw_tbl[981]? = some (Cond.code (pm_y 144) (pm_b 144) (pm_l 144) (pm_r 144)) := rfl
set_option maxRecDepth 100000 in
theorem pm_c_145 : lw_tbl[985]? = some (Cond.code (pm_y 145) (pm_b 145) (pm_l 145) (pm_r 145)) := rfl
set_option maxRecDepth 100000 in
theorem pm_c_146 : lw_tbl[988]? = some (Cond.code (pm_y 146) (pm_b 146) (pm_l 146) (pm_r 146)) := rfl
set_option maxRecDepth 100000 in
theorem pm_c_147 : lw_tbl[992]? = some (Cond.code (pm_y 147) (pm_b 147) (pm_l 147) (pm_r 147)) := rfl
set_option maxRecDepth 100000 in
theorem pm_c_148 : lw_tbl[996]? = some (Cond.code (pm_y 148) (pm_b 148) (pm_l 148) (pm_r 148)) := rfl
set_option maxRecDepth 100000 in
theorem pm_c_149 : lw_tbl[1000]? = some (Cond.code (pm_y 149) (pm_b 149) (pm_l 149) (pm_r 149)) := rfl
set_option maxRecDepth 100000 in
theorem pm_c_150 : lw_tbl[1004]? = some (Cond.code (pm_y 150) (pm_b 150) (pm_l 150) (pm_r 150)) := rfl
set_option maxRecDepth 100000 in
theorem pm_c_151 : lw_tbl[1008]? = some (Cond.code (pm_y 151) (pm_b 151) (pm_l 151) (pm_r 151)) := rfl
set_option maxRecDepth 100000 in
theorem pm_c_152 : lw_tbl[1012]? = some (Cond.code (pm_y 152) (pm_b 152) (pm_l 152) (pm_r 152)) := rfl
set_option maxRecDepth 100000 in
theorem pm_c_153 : lw_tbl[1016]? = some (Cond.code (pm_y 153) (pm_b 153) (pm_l 153) (pm_r 153)) := rfl
set_option maxRecDepth 100000 in
theorem pm_c_154 : lw_tbl[1020]? = some (Cond.code (pm_y 154) (pm_b 154) (pm_l 154) (pm_r 154)) := rfl
set_option maxRecDepth 100000 in
theorem pm_c_155 : lw_tbl[1024]? = some (Cond.code (pm_y 155) (pm_b 155) (pm_l 155) (pm_r 155)) := rfl
set_option maxRecDepth 100000 in
theorem pm_c_156 : lw_tbl[1028]? = some (Cond.code (pm_y 156) (pm_b 156) (pm_l 156) (pm_r 156)) := rfl
set_option maxRecDepth 100000 in
theorem pm_c_157 : lw_tbl[1032]? = some (Cond.code (pm_y 157) (pm_b 157) (pm_l 157) (pm_r 157)) := rfl
set_option maxRecDepth 100000 in
theorem pm_c_158 : lw_tbl[1036]? = some (Cond.code (pm_y 158) (pm_b 158) (pm_l 158) (pm_r 158)) := rfl
set_option maxRecDepth 100000 in
theorem pm_c_159 : lw_tbl[1040]? = some (Cond.code (pm_y 159) (pm_b 159) (pm_l 159) (pm_r 159)) := rfl
set_option maxRecDepth 100000 in
theorem pm_c_160 : lw_tbl[1044]? = some (Cond.code (pm_y 160) (pm_b 160) (pm_l 160) (pm_r 160)) := rfl
set_option maxRecDepth 100000 in
theorem pm_c_161 : lw_tbl[1048]? = some (Cond.code (pm_y 161) (pm_b 161) (pm_l 161) (pm_r 161)) := rfl
set_option maxRecDepth 100000 in
theorem pm_c_162 : lw_tbl[1052]? = some (Cond.code (pm_y 162) (pm_b 162) (pm_l 162) (pm_r 162)) := rfl
set_option maxRecDepth 100000 in
theorem pm_c_163 : lw_tbl[1056]? = some (Cond.code (pm_y 163) (pm_b 163) (pm_l 163) (pm_r 163)) := rfl
set_option maxRecDepth 100000 in
theorem pm_c_164 : lw_tbl[1060]? = some (Cond.code (pm_y 164) (pm_b 164) (pm_l 164) (pm_r 164)) := rfl
set_option maxRecDepth 100000 in
theorem pm_c_165 : lw_tbl[1064]? = some (Cond.code (pm_y 165) (pm_b 165) (pm_l 165) (pm_r 165)) := rfl
set_option maxRecDepth 100000 in
theorem pm_c_166 : lw_tbl[1068]? = some (Cond.code (pm_y 166) (pm_b 166) (pm_l 166) (pm_r 166)) := rfl
set_option maxRecDepth 100000 in
theorem pm_c_167 : lw_tbl[1072]? = some (Cond.code (pm_y 167) (pm_b 167) (pm_l 167) (pm_r 167)) := rfl
set_option maxRecDepth 100000 in
theorem pm_c_168 : lw_tbl[1075]? = some (Cond.code (pm_y 168) (pm_b 168) (pm_l 168) (pm_r 168)) := rfl
set_option maxRecDepth 100000 in
theorem pm_c_169 : lw_tbl[1079]? = some (Cond.code (pm_y 169) (pm_b 169) (pm_l 169) (pm_r 169)) := rfl
set_option maxRecDepth 100000 in
theorem pm_c_170 : lw_tbl[1083]? = some (Cond.code (pm_y 170) (pm_b 170) (pm_l 170) (pm_r 170)) := rfl
set_option maxRecDepth 100000 in
theorem pm_c_171 : lw_tbl[1086]? = some (Cond.code (pm_y 171) (pm_b 171) (pm_l 171) (pm_r 171)) := rfl
set_option maxRecDepth 100000 in
theorem pm_c_172 : lw_tbl[1089]? = some (Cond.code (pm_y 172) (pm_b 172) (pm_l 172) (pm_r 172)) := rfl
set_option maxRecDepth 100000 in
theorem pm_c_173 : lw_tbl[1093]? = some (Cond.code (pm_y 173) (pm_b 173) (pm_l 173) (pm_r 173)) := rfl
set_option maxRecDepth 100000 in
theorem pm_c_174 : lw_tbl[1097]? = some (Cond.code (pm_y 174) (pm_b 174) (pm_l 174) (pm_r 174)) := rfl
set_option maxRecDepth 100000 in
theorem pm_c_175 : lw_tbl[1101]? = some (Cond.code (pm_y 175) (pm_b 175) (pm_l 175) (pm_r 175)) := rfl
set_option maxRecDepth 100000 in
theorem pm_c_176 : lw_tbl[1105]? = some (Cond.code (pm_y 176) (pm_b 176) (pm_l 176) (pm_r 176)) := rfl
set_option maxRecDepth 100000 in
theorem pm_c_177 : lw_tbl[1109]? = some (Cond.code (pm_y 177) (pm_b 177) (pm_l 177) (pm_r 177)) := rfl
set_option maxRecDepth 100000 in
theorem pm_c_178 : lw_tbl[1112]? = some (Cond.code (pm_y 178) (pm_b 178) (pm_l 178) (pm_r 178)) := rfl
set_option maxRecDepth 100000 in
theorem pm_c_179 : lw_tbl[1116]? = some (Cond.code (pm_y 179) (pm_b 179) (pm_l 179) (pm_r 179)) := rfl
set_option maxRecDepth 100000 in
theorem pm_c_180 : lw_tbl[1120]? = some (Cond.code (pm_y 180) (pm_b 180) (pm_l 180) (pm_r 180)) := rfl
set_option maxRecDepth 100000 in
theorem pm_c_181 : lw_tbl[1124]? = some (Cond.code (pm_y 181) (pm_b 181) (pm_l 181) (pm_r 181)) := rfl
set_option maxRecDepth 100000 in
theorem pm_c_182 : lw_tbl[1128]? = some (Cond.code (pm_y 182) (pm_b 182) (pm_l 182) (pm_r 182)) := rfl
set_option maxRecDepth 100000 in
theorem pm_c_183 : lw_tbl[1132]? = some (Cond.code (pm_y 183) (pm_b 183) (pm_l 183) (pm_r 183)) := rfl
set_option maxRecDepth 100000 in
theorem pm_c_184 : lw_tbl[1136]? = some (Cond.code (pm_y 184) (pm_b 184) (pm_l 184) (pm_r 184)) := rfl
set_option maxRecDepth 100000 in
theorem pm_c_185 : lw_tbl[1140]? = some (Cond.code (pm_y 185) (pm_b 185) (pm_l 185) (pm_r 185)) := rfl
set_option maxRecDepth 100000 in
theorem pm_c_186 : lw_tbl[1144]? = some (Cond.code (pm_y 186) (pm_b 186) (pm_l 186) (pm_r 186)) := rfl
set_option maxRecDepth 100000 in
theorem pm_c_187 : lw_tbl[1147]? = some (Cond.code (pm_y 187) (pm_b 187) (pm_l 187) (pm_r 187)) := rfl
set_option maxRecDepth 100000 in
theorem pm_c_188 : lw_tbl[1151]? = some (Cond.code (pm_y 188) (pm_b 188) (pm_l 188) (pm_r 188)) := rfl
set_option maxRecDepth 100000 in
theorem pm_c_189 : lw_tbl[1154]? = some (Cond.code (pm_y 189) (pm_b 189) (pm_l 189) (pm_r 189)) := rfl
set_option maxRecDepth 100000 in
theorem pm_c_190 : lw_tbl[1158]? = some (Cond.code (pm_y 190) (pm_b 190) (pm_l 190) (pm_r 190)) := rfl
set_option maxRecDepth 100000 in
theorem pm_c_191 : lw_tbl[1161]? = some (Cond.code (pm_y 191) (pm_b 191) (pm_l 191) (pm_r 191)) := rfl
set_option maxRecDepth 100000 in
theorem pm_c_192 : lw_tbl[1165]? = some (Cond.code (pm_y 192) (pm_b 192) (pm_l 192) (pm_r 192)) := rfl
set_option maxRecDepth 100000 in
theorem pm_c_193 : lw_tbl[1169]? = some (Cond.code (pm_y 193) (pm_b 193) (pm_l 193) (pm_r 193)) := rfl
set_option maxRecDepth 100000 in
theorem pm_c_194 : lw_tbl[1173]? = some (Cond.code (pm_y 194) (pm_b 194) (pm_l 194) (pm_r 194)) := rfl
set_option maxRecDepth 100000 in
theorem pm_c_195 : lw_tbl[1177]? = some (Cond.code (pm_y 195) (pm_b 195) (pm_l 195) (pm_r 195)) := rfl
set_option maxRecDepth 100000 in
theorem pm_c_196 : lw_tbl[1181]? = some (Cond.code (pm_y 196) (pm_b 196) (pm_l 196) (pm_r 196)) := rfl
set_option maxRecDepth 100000 in
theorem pm_c_197 : lw_tbl[1186]? = some (Cond.code (pm_y 197) (pm_b 197) (pm_l 197) (pm_r 197)) := rfl
set_option maxRecDepth 100000 in
theorem pm_c_198 : lw_tbl[1189]? = some (Cond.code (pm_y 198) (pm_b 198) (pm_l 198) (pm_r 198)) := rfl
set_option maxRecDepth 100000 in
theorem pm_c_199 : lw_tbl[1193]? = some (Cond.code (pm_y 199) (pm_b 199) (pm_l 199) (pm_r 199)) := rfl
set_option maxRecDepth 100000 in
theorem pm_c_200 : lw_tbl[1197]? = some (Cond.code (pm_y 200) (pm_b 200) (pm_l 200) (pm_r 200)) := rfl
set_option maxRecDepth 100000 in
theorem pm_c_201 : lw_tbl[1202]? = some (Cond.code (pm_y 201) (pm_b 201) (pm_l 201) (pm_r 201)) := rfl
set_option maxRecDepth 100000 in
theorem pm_c_202 : lw_tbl[1206]? = some (Cond.code (pm_y 202) (pm_b 202) (pm_l 202) (pm_r 202)) := rfl
set_option maxRecDepth 100000 in
theorem pm_c_203 : lw_tbl[1210]? = some (Cond.code (pm_y 203) (pm_b 203) (pm_l 203) (pm_r 203)) := rfl
set_option maxRecDepth 100000 in
theorem pm_c_204 : lw_tbl[1213]? = some (Cond.code (pm_y 204) (pm_b 204) (pm_l 204) (pm_r 204)) := rfl
set_option maxRecDepth 100000 in
theorem pm_c_205 : lw_tbl[1217]? = some (Cond.code (pm_y 205) (pm_b 205) (pm_l 205) (pm_r 205)) := rfl
set_option maxRecDepth 100000 in
theorem pm_c_206 : lw_tbl[1222]? = some (Cond.code (pm_y 206) (pm_b 206) (pm_l 206) (pm_r 206)) := rfl
set_option maxRecDepth 100000 in
theorem pm_c_207 : lw_tbl[1226]? = some (Cond.code (pm_y 207) (pm_b 207) (pm_l 207) (pm_r 207)) := rfl
set_option maxRecDepth 100000 in
theorem pm_c_208 : lw_tbl[1229]? = some (Cond.code (pm_y 208) (pm_b 208) (pm_l 208) (pm_r 208)) := rfl
set_option maxRecDepth 100000 in
theorem pm_c_209 : lw_tbl[1233]? = some (Cond.code (pm_y 209) (pm_b 209) (pm_l 209) (pm_r 209)) := rfl
set_option maxRecDepth 100000 in
theorem pm_c_210 : lw_tbl[1237]? = some (Cond.code (pm_y 210) (pm_b 210) (pm_l 210) (pm_r 210)) := rfl
set_option maxRecDepth 100000 in
theorem pm_c_211 : lw_tbl[1241]? = some (Cond.code (pm_y 211) (pm_b 211) (pm_l 211) (pm_r 211)) := rfl
set_option maxRecDepth 100000 in
theorem pm_c_212 : lw_tbl[1245]? = some (Cond.code (pm_y 212) (pm_b 212) (pm_l 212) (pm_r 212)) := rfl
set_option maxRecDepth 100000 in
theorem pm_c_213 : lw_tbl[1249]? = some (Cond.code (pm_y 213) (pm_b 213) (pm_l 213) (pm_r 213)) := rfl
set_option maxRecDepth 100000 in
theorem pm_c_214 : lw_tbl[1253]? = some (Cond.code (pm_y 214) (pm_b 214) (pm_l 214) (pm_r 214)) := rfl
set_option maxRecDepth 100000 in
theorem pm_c_215 : lw_tbl[1257]? = some (Cond.code (pm_y 215) (pm_b 215) (pm_l 215) (pm_r 215)) := rfl
set_option maxRecDepth 100000 in
theorem pm_c_216 : lw_tbl[1261]? = some (Cond.code (pm_y 216) (pm_b 216) (pm_l 216) (pm_r 216)) := rfl
set_option maxRecDepth 100000 in
theorem pm_c_217 : lw_tbl[1265]? = some (Cond.code (pm_y 217) (pm_b 217) (pm_l 217) (pm_r 217)) := rfl
set_option maxRecDepth 100000 in
theorem pm_c_218 : lw_tbl[1269]? = some (Cond.code (pm_y 218) (pm_b 218) (pm_l 218) (pm_r 218)) := rfl
set_option maxRecDepth 100000 in
theorem pm_c_219 : lw_tbl[1273]? = some (Cond.code (pm_y 219) (pm_b 219) (pm_l 219) (pm_r 219)) := rfl
set_option maxRecDepth 100000 in
theorem pm_c_220 : lw_tbl[1277]? = some (Cond.code (pm_y 220) (pm_b 220) (pm_l 220) (pm_r 220)) := rfl
set_option maxRecDepth 100000 in
theorem pm_c_221 : lw_tbl[1281]? = some (Cond.code (pm_y 221) (pm_b 221) (pm_l 221) (pm_r 221)) := rfl
set_option maxRecDepth 100000 in
theorem pm_c_222 : lw_tbl[1285]? = some (Cond.code (pm_y 222) (pm_b 222) (pm_l 222) (pm_r 222)) := rfl
set_option maxRecDepth 100000 in
theorem pm_c_223 : lw_tbl[1289]? = some (Cond.code (pm_y 223) (pm_b 223) (pm_l 223) (pm_r 223)) := rfl
set_option maxRecDepth 100000 in
theorem pm_c_224 : lw_tbl[1293]? = some (Cond.code (pm_y 224) (pm_b 224) (pm_l 224) (pm_r 224)) := rfl
set_option maxRecDepth 100000 in
theorem pm_c_225 : lw_tbl[1297]? = some (Cond.code (pm_y 225) (pm_b 225) (pm_l 225) (pm_r 225)) := rfl
set_option maxRecDepth 100000 in
theorem pm_c_226 : lw_tbl[1301]? = some (Cond.code (pm_y 226) (pm_b 226) (pm_l 226) (pm_r 226)) := rfl
set_option maxRecDepth 100000 in
theorem pm_c_227 : lw_tbl[1308]? = some (Cond.code (pm_y 227) (pm_b 227) (pm_l 227) (pm_r 227)) := rfl
theorem pm_code_in : ∀ k, k < 228 → Cond.code (pm_y k) (pm_b k) (pm_l k) (pm_r k) ∈ pm_T
  | 0, _ => pm_in _ pm_c_0 rfl
  | 1, _ => pm_in _ pm_c_1 rfl
  | 2, _ => pm_in _ pm_c_2 rfl
  | 3, _ => pm_in _ pm_c_3 rfl
  | 4, _ => pm_in _ pm_c_4 rfl
  | 5, _ => pm_in _ pm_c_5 rfl
  | 6, _ => pm_in _ pm_c_6 rfl
  | 7, _ => pm_in _ pm_c_7 rfl
  | 8, _ => pm_in _ pm_c_8 rfl
  | 9, _ => pm_in _ pm_c_9 rfl
  | 10, _ => pm_in _ pm_c_10 rfl
  | 11, _ => pm_in _ pm_c_11 rfl
  | 12, _ => pm_in _ pm_c_12 rfl
  | 13, _ => pm_in _ pm_c_13 rfl
  | 14, _ => pm_in _ pm_c_14 rfl
  | 15, _ => pm_in _ pm_c_15 rfl
  | 16, _ => pm_in _ pm_c_16 rfl
  | 17, _ => pm_in _ pm_c_17 rfl
  | 18, _ => pm_in _ pm_c_18 rfl
  | 19, _ => pm_in _ pm_c_19 rfl
  | 20, _ => pm_in _ pm_c_20 rfl
  | 21, _ => pm_in _ pm_c_21 rfl
  | 22, _ => pm_in _ pm_c_22 rfl
  | 23, _ => pm_in _ pm_c_23 rfl
  | 24, _ => pm_in _ pm_c_24 rfl
  | 25, _ => pm_in _ pm_c_25 rfl
  | 26, _ => pm_in _ pm_c_26 rfl
  | 27, _ => pm_in _ pm_c_27 rfl
  | 28, _ => pm_in _ pm_c_28 rfl
  | 29, _ => pm_in _ pm_c_29 rfl
  | 30, _ => pm_in _ pm_c_30 rfl
  | 31, _ => pm_in _ pm_c_31 rfl
  | 32, _ => pm_in _ pm_c_32 rfl
  | 33, _ => pm_in _ pm_c_33 rfl
  | 34, _ => pm_in _ pm_c_34 rfl
  | 35, _ => pm_in _ pm_c_35 rfl
  | 36, _ => pm_in _ pm_c_36 rfl
  | 37, _ => pm_in _ pm_c_37 rfl
  | 38, _ => pm_in _ pm_c_38 rfl
  | 39, _ => pm_in _ pm_c_39 rfl
  | 40, _ => pm_in _ pm_c_40 rfl
  | 41, _ => pm_in _ pm_c_41 rfl
  | 42, _ => pm_in _ pm_c_42 rfl
  | 43, _ => pm_in _ pm_c_43 rfl
  | 44, _ => pm_in _ pm_c_44 rfl
  | 45, _ => pm_in _ pm_c_45 rfl
  | 46, _ => pm_in _ pm_c_46 rfl
  | 47, _ => pm_in _ pm_c_47 rfl
  | 48, _ => pm_in _ pm_c_48 rfl
  | 49, _ => pm_in _ pm_c_49 rfl
  | 50, _ => pm_in _ pm_c_50 rfl
  | 51, _ => pm_in _ pm_c_51 rfl
  | 52, _ => pm_in _ pm_c_52 rfl
  | 53, _ => pm_in _ pm_c_53 rfl
  | 54, _ => pm_in _ pm_c_54 rfl
  | 55, _ => pm_in _ pm_c_55 rfl
  | 56, _ => pm_in _ pm_c_56 rfl
  | 57, _ => pm_in _ pm_c_57 rfl
  | 58, _ => pm_in _ pm_c_58 rfl
  | 59, _ => pm_in _ pm_c_59 rfl
  | 60, _ => pm_in _ pm_c_60 rfl
  | 61, _ => pm_in _ pm_c_61 rfl
  | 62, _ => pm_in _ pm_c_62 rfl
  | 63, _ => pm_in _ pm_c_63 rfl
  | 64, _ => pm_in _ pm_c_64 rfl
  | 65, _ => pm_in _ pm_c_65 rfl
  | 66, _ => pm_in _ pm_c_66 rfl
  | 67, _ => pm_in _ pm_c_67 rfl
  | 68, _ => pm_in _ pm_c_68 rfl
  | 69, _ => pm_in _ pm_c_69 rfl
  | 70, _ => pm_in _ pm_c_70 rfl
  | 71, _ => pm_in _ pm_c_71 rfl
  | 72, _ => pm_in _ pm_c_72 rfl
  | 73, _ => pm_in _ pm_c_73 rfl
  | 74, _ => pm_in _ pm_c_74 rfl
  | 75, _ => pm_in _ pm_c_75 rfl
  | 76, _ => pm_in _ pm_c_76 rfl
  | 77, _ => pm_in _ pm_c_77 rfl
  | 78, _ => pm_in _ pm_c_78 rfl
  | 79, _ => pm_in _ pm_c_79 rfl
  | 80, _ => pm_in _ pm_c_80 rfl
  | 81, _ => pm_in _ pm_c_81 rfl
  | 82, _ => pm_in _ pm_c_82 rfl
  | 83, _ => pm_in _ pm_c_83 rfl
  | 84, _ => pm_in _ pm_c_84 rfl
  | 85, _ => pm_in _ pm_c_85 rfl
  | 86, _ => pm_in _ pm_c_86 rfl
  | 87, _ => pm_in _ pm_c_87 rfl
  | 88, _ => pm_in _ pm_c_88 rfl
  | 89, _ => pm_in _ pm_c_89 rfl
  | 90, _ => pm_in _ pm_c_90 rfl
  | 91, _ => pm_in _ pm_c_91 rfl
  | 92, _ => pm_in _ pm_c_92 rfl
  | 93, _ => pm_in _ pm_c_93 rfl
  | 94, _ => pm_in _ pm_c_94 rfl
  | 95, _ => pm_in _ pm_c_95 rfl
  | 96, _ => pm_in _ pm_c_96 rfl
  | 97, _ => pm_in _ pm_c_97 rfl
  | 98, _ => pm_in _ pm_c_98 rfl
  | 99, _ => pm_in _ pm_c_99 rfl
  | 100, _ => pm_in _ pm_c_100 rfl
  | 101, _ => pm_in _ pm_c_101 rfl
  | 102, _ => pm_in _ pm_c_102 rfl
  | 103, _ => pm_in _ pm_c_103 rfl
  | 104, _ => pm_in _ pm_c_104 rfl
  | 105, _ => pm_in _ pm_c_105 rfl
  | 106, _ => pm_in _ pm_c_106 rfl
  | 107, _ => pm_in _ pm_c_107 rfl
  | 108, _ => pm_in _ pm_c_108 rfl
  | 109, _ => pm_in _ pm_c_109 rfl
  | 110, _ => pm_in _ pm_c_110 rfl
  | 111, _ => pm_in _ pm_c_111 rfl
  | 112, _ => pm_in _ pm_c_112 rfl
  | 113, _ => pm_in _ pm_c_113 rfl
  | 114, _ => pm_in _ pm_c_114 rfl
  | 115, _ => pm_in _ pm_c_115 rfl
  | 116, _ => pm_in _ pm_c_116 rfl
  | 117, _ => pm_in _ pm_c_117 rfl
  | 118, _ => pm_in _ pm_c_118 rfl
  | 119, _ => pm_in _ pm_c_119 rfl
  | 120, _ => pm_in _ pm_c_120 rfl
  | 121, _ => pm_in _ pm_c_121 rfl
  | 122, _ => pm_in _ pm_c_122 rfl
  | 123, _ => pm_in _ pm_c_123 rfl
  | 124, _ => pm_in _ pm_c_124 rfl
  | 125, _ => pm_in _ pm_c_125 rfl
  | 126, _ => pm_in _ pm_c_126 rfl
  | 127, _ => pm_in _ pm_c_127 rfl
  | 128, _ => pm_in _ pm_c_128 rfl
  | 129, _ => pm_in _ pm_c_129 rfl
  | 130, _ => pm_in _ pm_c_130 rfl
  | 131, _ => pm_in _ pm_c_131 rfl
  | 132, _ => pm_in _ pm_c_132 rfl
  | 133, _ => pm_in _ pm_c_133 rfl
  | 134, _ => pm_in _ pm_c_134 rfl
  | 135, _ => pm_in _ pm_c_135 rfl
  | 136, _ => pm_in _ pm_c_136 rfl
  | 137, _ => pm_in _ pm_c_137 rfl
  | 138, _ => pm_in _ pm_c_138 rfl
  | 139, _ => pm_in _ pm_c_139 rfl
  | 140, _ => pm_in _ pm_c_140 rfl
  | 141, _ => pm_in _ pm_c_141 rfl
  | 142, _ => pm_in _ pm_c_142 rfl
  | 143, _ => pm_in _ pm_c_143 rfl
  | 144, _ => pm_in _ pm_c_144 rfl
  | 145, _ => pm_in _ pm_c_145 rfl
  | 146, _ => pm_in _ pm_c_146 rfl
  | 147, _ => pm_in _ pm_c_147 rfl
  | 148, _ => pm_in _ pm_c_148 rfl
  | 149, _ => pm_in _ pm_c_149 rfl
  | 150, _ => pm_in _ pm_c_150 rfl
  | 151, _ => pm_in _ pm_c_151 rfl
  | 152, _ => pm_in _ pm_c_152 rfl
  | 153, _ => pm_in _ pm_c_153 rfl
  | 154, _ => pm_in _ pm_c_154 rfl
  | 155, _ => pm_in _ pm_c_155 rfl
  | 156, _ => pm_in _ pm_c_156 rfl
  | 157, _ => pm_in _ pm_c_157 rfl
  | 158, _ => pm_in _ pm_c_158 rfl
  | 159, _ => pm_in _ pm_c_159 rfl
  | 160, _ => pm_in _ pm_c_160 rfl
  | 161, _ => pm_in _ pm_c_161 rfl
  | 162, _ => pm_in _ pm_c_162 rfl
  | 163, _ => pm_in _ pm_c_163 rfl
  | 164, _ => pm_in _ pm_c_164 rfl
  | 165, _ => pm_in _ pm_c_165 rfl
  | 166, _ => pm_in _ pm_c_166 rfl
  | 167, _ => pm_in _ pm_c_167 rfl
  | 168, _ => pm_in _ pm_c_168 rfl
  | 169, _ => pm_in _ pm_c_169 rfl
  | 170, _ => pm_in _ pm_c_170 rfl
  | 171, _ => pm_in _ pm_c_171 rfl
  | 172, _ => pm_in _ pm_c_172 rfl
  | 173, _ => pm_in _ pm_c_173 rfl
  | 174, _ => pm_in _ pm_c_174 rfl
  | 175, _ => pm_in _ pm_c_175 rfl
  | 176, _ => pm_in _ pm_c_176 rfl
  | 177, _ => pm_in _ pm_c_177 rfl
  | 178, _ => pm_in _ pm_c_178 rfl
  | 179, _ => pm_in _ pm_c_179 rfl
  | 180, _ => pm_in _ pm_c_180 rfl
  | 181, _ => pm_in _ pm_c_181 rfl
  | 182, _ => pm_in _ pm_c_182 rfl
  | 183, _ => pm_in _ pm_c_183 rfl
  | 184, _ => pm_in _ pm_c_184 rfl
  | 185, _ => pm_in _ pm_c_185 rfl
  | 186, _ => pm_in _ pm_c_186 rfl
  | 187, _ => pm_in _ pm_c_187 rfl
  | 188, _ => pm_in _ pm_c_188 rfl
  | 189, _ => pm_in _ pm_c_189 rfl
  | 190, _ => pm_in _ pm_c_190 rfl
  | 191, _ => pm_in _ pm_c_191 rfl
  | 192, _ => pm_in _ pm_c_192 rfl
  | 193, _ => pm_in _ pm_c_193 rfl
  | 194, _ => pm_in _ pm_c_194 rfl
  | 195, _ => pm_in _ pm_c_195 rfl
  | 196, _ => pm_in _ pm_c_196 rfl
  | 197, _ => pm_in _ pm_c_197 rfl
  | 198, _ => pm_in _ pm_c_198 rfl
  | 199, _ => pm_in _ pm_c_199 rfl
  | 200, _ => pm_in _ pm_c_200 rfl
  | 201, _ => pm_in _ pm_c_201 rfl
  | 202, _ => pm_in _ pm_c_202 rfl
  | 203, _ => pm_in _ pm_c_203 rfl
  | 204, _ => pm_in _ pm_c_204 rfl
  | 205, _ => pm_in _ pm_c_205 rfl
  | 206, _ => pm_in _ pm_c_206 rfl
  | 207, _ => pm_in _ pm_c_207 rfl
  | 208, _ => pm_in _ pm_c_208 rfl
  | 209, _ => pm_in _ pm_c_209 rfl
  | 210, _ => pm_in _ pm_c_210 rfl
  | 211, _ => pm_in _ pm_c_211 rfl
  | 212, _ => pm_in _ pm_c_212 rfl
  | 213, _ => pm_in _ pm_c_213 rfl
  | 214, _ => pm_in _ pm_c_214 rfl
  | 215, _ => pm_in _ pm_c_215 rfl
  | 216, _ => pm_in _ pm_c_216 rfl
  | 217, _ => pm_in _ pm_c_217 rfl
  | 218, _ => pm_in _ pm_c_218 rfl
  | 219, _ => pm_in _ pm_c_219 rfl
  | 220, _ => pm_in _ pm_c_220 rfl
  | 221, _ => pm_in _ pm_c_221 rfl
  | 222, _ => pm_in _ pm_c_222 rfl
  | 223, _ => pm_in _ pm_c_223 rfl
  | 224, _ => pm_in _ pm_c_224 rfl
  | 225, _ => pm_in _ pm_c_225 rfl
  | 226, _ => pm_in _ pm_c_226 rfl
  | 227, _ => pm_in _ pm_c_227 rfl
  | k + 228, h => absurd h (by omega)

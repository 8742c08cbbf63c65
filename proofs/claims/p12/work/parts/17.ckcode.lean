set_option maxRecDepth 100000 in
theorem mc_1 : lw_tbl[98]? = some (.code (xe_mY 1) (xe_mB 1) (xe_mL 1) (xe_mR 1)) := xa_cb_ok (by decide +kernel)
set_option maxRecDepth 100000 in
theorem mc_2 : lw_tbl[467]? = some (.code (xe_mY 2) (xe_mB 2) (xe_mL 2) (xe_mR 2)) := xa_cb_ok (by decide +kernel)
set_option maxRecDepth 100000 in
theorem mc_3 : lw_tbl[579]? = some (.code (xe_mY 3) (xe_mB 3) (xe_mL 3) (xe_mR 3)) := xa_cb_ok (by decide +kernel)
set_option maxRecDepth 100000 in
theorem mc_4 : lw_tbl[663]? = some (.code (xe_mY 4) (xe_mB 4) (xe_mL 4) (xe_mR 4)) := xa_cb_ok (by decide +kernel)
set_option maxRecDepth 100000 in
theorem mc_5 : lw_tbl[698]? = some (.code (xe_mY 5) (xe_mB 5) (xe_mL 5) (xe_mR 5)) := xa_cb_ok (by decide +kernel)
set_option maxRecDepth 100000 in
theorem mc_6 : lw_tbl[725]? = some (.code (xe_mY 6) (xe_mB 6) (xe_mL 6) (xe_mR 6)) := xa_cb_ok (by decide +kernel)
set_option maxRecDepth 100000 in
theorem mc_7 : lw_tbl[741]? = some (.code (xe_mY 7) (xe_mB 7) (xe_mL 7) (xe_mR 7)) := xa_cb_ok (by decide +kernel)
set_option maxRecDepth 100000 in
theorem mc_8 : lw_tbl[945]? = some (.code (xe_mY 8) (xe_mB 8) (xe_mL 8) (xe_mR 8)) := xa_cb_ok (by decide +kernel)
set_option maxRecDepth 100000 in
theorem mc_9 : lw_tbl[1144]? = some (.code (xe_mY 9) (xe_mB 9) (xe_mL 9) (xe_mR 9)) := xa_cb_ok (by decide +kernel)
set_option maxRecDepth 100000 in
theorem mc_10 : lw_tbl[1147]? = some (.code (xe_mY 10) (xe_mB 10) (xe_mL 10) (xe_mR 10)) := xa_cb_ok (by decide +kernel)
set_option maxRecDepth 100000 in
theorem mc_11 : lw_tbl[1150]? = some (.code (xe_mY 11) (xe_mB 11) (xe_mL 11) (xe_mR 11)) := xa_cb_ok (by decide +kernel)
set_option maxRecDepth 100000 in
theorem mc_12 : lw_tbl[1154]? = some (.code (xe_mY 12) (xe_mB 12) (xe_mL 12) (xe_mR 12)) := xa_cb_ok (by decide +kernel)
set_option maxRecDepth 100000 in
theorem mc_13 : lw_tbl[1159]? = some (.code (xe_mY 13) (xe_mB 13) (xe_mL 13) (xe_mR 13)) := xa_cb_ok (by decide +kernel)
set_option maxRecDepth 100000 in
theorem mc_14 : lw_tbl[1163]? = some (.code (xe_mY 14) (xe_mB 14) (xe_mL 14) (xe_mR 14)) := xa_cb_ok (by decide +kernel)
set_option maxRecDepth 100000 in
theorem mc_15 : lw_tbl[1167]? = some (.code (xe_mY 15) (xe_mB 15) (xe_mL 15) (xe_mR 15)) := xa_cb_ok (by decide +kernel)
set_option maxRecDepth 100000 in
theorem mc_16 : lw_tbl[1171]? = some (.code (xe_mY 16) (xe_mB 16) (xe_mL 16) (xe_mR 16)) := xa_cb_ok (by decide +kernel)
set_option maxRecDepth 100000 in
theorem mc_17 : lw_tbl[1175]? = some (.code (xe_mY 17) (xe_mB 17) (xe_mL 17) (xe_mR 17)) := xa_cb_ok (by decide +kernel)
set_option maxRecDepth 100000 in
theorem mc_18 : lw_tbl[1180]? = some (.code (xe_mY 18) (xe_mB 18) (xe_mL 18) (xe_mR 18)) := xa_cb_ok (by decide +kernel)
set_option maxRecDepth 100000 in
theorem mc_19 : lw_tbl[1184]? = some (.code (xe_mY 19) (xe_mB 19) (xe_mL 19) (xe_mR 19)) := xa_cb_ok (by decide +kernel)
set_option maxRecDepth 100000 in
theorem mc_20 : lw_tbl[1188]? = some (.code (xe_mY 20) (xe_mB 20) (xe_mL 20) (xe_mR 20)) := xa_cb_ok (by decide +kernel)
set_option maxRecDepth 100000 in
theorem mc_21 : lw_tbl[1192]? = some (.code (xe_mY 21) (xe_mB 21) (xe_mL 21) (xe_mR 21)) := xa_cb_ok (by decide +kernel)
set_option maxRecDepth 100000 in
theorem mc_22 : lw_tbl[1195]? = some (.code (xe_mY 22) (xe_mB 22) (xe_mL 22) (xe_mR 22)) := xa_cb_ok (by decide +kernel)
set_option maxRecDepth 100000 in
theorem mc_23 : lw_tbl[1199]? = some (.code (xe_mY 23) (xe_mB 23) (xe_mL 23) (xe_mR 23)) := xa_cb_ok (by decide +kernel)
set_option maxRecDepth 100000 in
theorem mc_24 : lw_tbl[1202]? = some (.code (xe_mY 24) (xe_mB 24) (xe_mL 24) (xe_mR 24)) := xa_cb_ok (by decide +kernel)
set_option maxRecDepth 100000 in
theorem mc_25 : lw_tbl[1206]? = some (.code (xe_mY 25) (xe_mB 25) (xe_mL 25) (xe_mR 25)) := xa_cb_ok (by decide +kernel)
set_option maxRecDepth 100000 in
theorem mc_26 : lw_tbl[1210]? = some (.code (xe_mY 26) (xe_mB 26) (xe_mL 26) (xe_mR 26)) := xa_cb_ok (by decide +kernel)
set_option maxRecDepth 100000 in
theorem mc_27 : lw_tbl[1214]? = some (.code (xe_mY 27) (xe_mB 27) (xe_mL 27) (xe_mR 27)) := xa_cb_ok (by decide +kernel)
set_option maxRecDepth 100000 in
theorem mc_28 : lw_tbl[1218]? = some (.code (xe_mY 28) (xe_mB 28) (xe_mL 28) (xe_mR 28)) := xa_cb_ok (by decide +kernel)
set_option maxRecDepth 100000 in
theorem mc_29 : lw_tbl[1222]? = some (.code (xe_mY 29) (xe_mB 29) (xe_mL 29) (xe_mR 29)) := xa_cb_ok (by decide +kernel)
set_option maxRecDepth 100000 in
theorem mc_30 : lw_tbl[1226]? = some (.code (xe_mY 30) (xe_mB 30) (xe_mL 30) (xe_mR 30)) := xa_cb_ok (by decide +kernel)
set_option maxRecDepth 100000 in
theorem mc_31 : lw_tbl[1230]? = some (.code (xe_mY 31) (xe_mB 31) (xe_mL 31) (xe_mR 31)) := xa_cb_ok (by decide +kernel)
set_option maxRecDepth 100000 in
theorem mc_32 : lw_tbl[1234]? = some (.code (xe_mY 32) (xe_mB 32) (xe_mL 32) (xe_mR 32)) := xa_cb_ok (by decide +kernel)
set_option maxRecDepth 100000 in
theorem mc_33 : lw_tbl[1238]? = some (.code (xe_mY 33) (xe_mB 33) (xe_mL 33) (xe_mR 33)) := xa_cb_ok (by decide +kernel)
set_option maxRecDepth 100000 in
theorem mc_34 : lw_tbl[1242]? = some (.code (xe_mY 34) (xe_mB 34) (xe_mL 34) (xe_mR 34)) := xa_cb_ok (by decide +kernel)
set_option maxRecDepth 100000 in
theorem mc_35 : lw_tbl[1246]? = some (.code (xe_mY 35) (xe_mB 35) (xe_mL 35) (xe_mR 35)) := xa_cb_ok (by decide +kernel)
set_option maxRecDepth 100000 in
theorem mc_36 : lw_tbl[1250]? = some (.code (xe_mY 36) (xe_mB 36) (xe_mL 36) (xe_mR 36)) := xa_cb_ok (by decide +kernel)
set_option maxRecDepth 100000 in
theorem mc_37 : lw_tbl[1254]? = some (.code (xe_mY 37) (xe_mB 37) (xe_mL 37) (xe_mR 37)) := xa_cb_ok (by decide +kernel)
set_option maxRecDepth 100000 in
theorem mc_38 : lw_tbl[1258]? = some (.code (xe_mY 38) (xe_mB 38) (xe_mL 38) (xe_mR 38)) := xa_cb_ok (by decide +kernel)
set_option maxRecDepth 100000 in
theorem mc_39 : lw_tbl[1261]? = some (.code (xe_mY 39) (xe_mB 39) (xe_mL 39) (xe_mR 39)) := xa_cb_ok (by decide +kernel)
set_option maxRecDepth 100000 in
theorem mc_40 : lw_tbl[1265]? = some (.code (xe_mY 40) (xe_mB 40) (xe_mL 40) (xe_mR 40)) := xa_cb_ok (by decide +kernel)
set_option maxRecDepth 100000 in
theorem mc_41 : lw_tbl[1269]? = some (.code (xe_mY 41) (xe_mB 41) (xe_mL 41) (xe_mR 41)) := xa_cb_ok (by decide +kernel)
set_option maxRecDepth 100000 in
theorem mc_42 : lw_tbl[1273]? = some (.code (xe_mY 42) (xe_mB 42) (xe_mL 42) (xe_mR 42)) := xa_cb_ok (by decide +kernel)
set_option maxRecDepth 100000 in
theorem mc_43 : lw_tbl[1277]? = some (.code (xe_mY 43) (xe_mB 43) (xe_mL 43) (xe_mR 43)) := xa_cb_ok (by decide +kernel)
set_option maxRecDepth 100000 in
theorem mc_44 : lw_tbl[1281]? = some (.code (xe_mY 44) (xe_mB 44) (xe_mL 44) (xe_mR 44)) := xa_cb_ok (by decide +kernel)
set_option maxRecDepth 100000 in
theorem mc_45 : lw_tbl[1285]? = some (.code (xe_mY 45) (xe_mB 45) (xe_mL 45) (xe_mR 45)) := xa_cb_ok (by decide +kernel)
set_option maxRecDepth 100000 in
theorem mc_46 : lw_tbl[1289]? = some (.code (xe_mY 46) (xe_mB 46) (xe_mL 46) (xe_mR 46)) := xa_cb_ok (by decide +kernel)
set_option maxRecDepth 100000 in
theorem mc_47 : lw_tbl[1293]? = some (.code (xe_mY 47) (xe_mB 47) (xe_mL 47) (xe_mR 47)) := xa_cb_ok (by decide +kernel)
set_option maxRecDepth 100000 in
theorem mc_48 : lw_tbl[1297]? = some (.code (xe_mY 48) (xe_mB 48) (xe_mL 48) (xe_mR 48)) := xa_cb_ok (by decide +kernel)
set_option maxRecDepth 100000 in
theorem mc_49 : lw_tbl[1300]? = some (.code (xe_mY 49) (xe_mB 49) (xe_mL 49) (xe_mR 49)) := xa_cb_ok (by decide +kernel)
set_option maxRecDepth 100000 in
theorem mc_50 : lw_tbl[1304]? = some (.code (xe_mY 50) (xe_mB 50) (xe_mL 50) (xe_mR 50)) := xa_cb_ok (by decide +kernel)
set_option maxRecDepth 100000 in
theorem mc_51 : lw_tbl[1308]? = some (.code (xe_mY 51) (xe_mB 51) (xe_mL 51) (xe_mR 51)) := xa_cb_ok (by decide +kernel)
set_option maxRecDepth 100000 in
theorem mc_52 : lw_tbl[1312]? = some (.code (xe_mY 52) (xe_mB 52) (xe_mL 52) (xe_mR 52)) := xa_cb_ok (by decide +kernel)
set_option maxRecDepth 100000 in
theorem mc_53 : lw_tbl[1316]? = some (.code (xe_mY 53) (xe_mB 53) (xe_mL 53) (xe_mR 53)) := xa_cb_ok (by decide +kernel)
set_option maxRecDepth 100000 in
theorem mc_54 : lw_tbl[1320]? = some (.code (xe_mY 54) (xe_mB 54) (xe_mL 54) (xe_mR 54)) := xa_cb_ok (by decide +kernel)
set_option maxRecDepth 100000 in
theorem mc_55 : lw_tbl[1324]? = some (.code (xe_mY 55) (xe_mB 55) (xe_mL 55) (xe_mR 55)) := xa_cb_ok (by decide +kernel)
set_option maxRecDepth 100000 in
theorem mc_56 : lw_tbl[1328]? = some (.code (xe_mY 56) (xe_mB 56) (xe_mL 56) (xe_mR 56)) := xa_cb_ok (by decide +kernel)
set_option maxRecDepth 100000 in
theorem mc_57 : lw_tbl[1332]? = some (.code (xe_mY 57) (xe_mB 57) (xe_mL 57) (xe_mR 57)) := xa_cb_ok (by decide +kernel)
set_option maxRecDepth 100000 in
theorem mc_58 : lw_tbl[1336]? = some (.code (xe_mY 58) (xe_mB 58) (xe_mL 58) (xe_mR 58)) := xa_cb_ok (by decide +kernel)
set_option maxRecDepth 100000 in
theorem mc_59 : lw_tbl[1340]? = some (.code (xe_mY 59) (xe_mB 59) (xe_mL 59) (xe_mR 59)) := xa_cb_ok (by decide +kernel)
set_option maxRecDepth 100000 in
theorem mc_60 : lw_tbl[1344]? = some (.code (xe_mY 60) (xe_mB 60) (xe_mL 60) (xe_mR 60)) := xa_cb_ok (by decide +kernel)
set_option maxRecDepth 100000 in
theorem mc_61 : lw_tbl[1348]? = some (.code (xe_mY 61) (xe_mB 61) (xe_mL 61) (xe_mR 61)) := xa_cb_ok (by decide +kernel)
set_option maxRecDepth 100000 in
theorem mc_62 : lw_tbl[1352]? = some (.code (xe_mY 62) (xe_mB 62) (xe_mL 62) (xe_mR 62)) := xa_cb_ok (by decide +kernel)
set_option maxRecDepth 100000 in
theorem mc_63 : lw_tbl[1356]? = some (.code (xe_mY 63) (xe_mB 63) (xe_mL 63) (xe_mR 63)) := xa_cb_ok (by decide +kernel)
set_option maxRecDepth 100000 in
theorem mc_64 : lw_tbl[1360]? = some (.code (xe_mY 64) (xe_mB 64) (xe_mL 64) (xe_mR 64)) := xa_cb_ok (by decide +kernel)
set_option maxRecDepth 100000 in
theorem mc_65 : lw_tbl[1364]? = some (.code (xe_mY 65) (xe_mB 65) (xe_mL 65) (xe_mR 65)) := xa_cb_ok (by decide +kernel)
set_option maxRecDepth 100000 in
theorem mc_66 : lw_tbl[1368]? = some (.code (xe_mY 66) (xe_mB 66) (xe_mL 66) (xe_mR 66)) := xa_cb_ok (by decide +kernel)
set_option maxRecDepth 100000 in
theorem mc_67 : lw_tbl[1372]? = some (.code (xe_mY 67) (xe_mB 67) (xe_mL 67) (xe_mR 67)) := xa_cb_ok (by decide +kernel)
set_option maxRecDepth 100000 in
theorem mc_68 : lw_tbl[1376]? = some (.code (xe_mY 68) (xe_mB 68) (xe_mL 68) (xe_mR 68)) := xa_cb_ok (by decide +kernel)
set_option maxRecDepth 100000 in
theorem mc_69 : lw_tbl[1380]? = some (.code (xe_mY 69) (xe_mB 69) (xe_mL 69) (xe_mR 69)) := xa_cb_ok (by decide +kernel)
set_option maxRecDepth 100000 in
theorem mc_70 : lw_tbl[1384]? = some (.code (xe_mY 70) (xe_mB 70) (xe_mL 70) (xe_mR 70)) := xa_cb_ok (by decide +kernel)
set_option maxRecDepth 100000 in
theorem mc_71 : lw_tbl[1388]? = some (.code (xe_mY 71) (xe_mB 71) (xe_mL 71) (xe_mR 71)) := xa_cb_ok (by decide +kernel)
set_option maxRecDepth 100000 in
theorem mc_72 : lw_tbl[1392]? = some (.code (xe_mY 72) (xe_mB 72) (xe_mL 72) (xe_mR 72)) := xa_cb_ok (by decide +kernel)
set_option maxRecDepth 100000 in
theorem mc_73 : lw_tbl[1396]? = some (.code (xe_mY 73) (xe_mB 73) (xe_mL 73) (xe_mR 73)) := xa_cb_ok (by decide +kernel)
set_option maxRecDepth 100000 in
theorem mc_74 : lw_tbl[1400]? = some (.code (xe_mY 74) (xe_mB 74) (xe_mL 74) (xe_mR 74)) := xa_cb_ok (by decide +kernel)
set_option maxRecDepth 100000 in
theorem mc_75 : lw_tbl[1404]? = some (.code (xe_mY 75) (xe_mB 75) (xe_mL 75) (xe_mR 75)) := xa_cb_ok (by decide +kernel)
set_option maxRecDepth 100000 in
theorem mc_76 : lw_tbl[74]? = some (.code (xe_mY 76) (xe_mB 76) (xe_mL 76) (xe_mR 76)) := xa_cb_ok (by decide +kernel)
set_option maxRecDepth 100000 in
theorem mc_77 : lw_tbl[82]? = some (.code (xe_mY 77) (xe_mB 77) (xe_mL 77) (xe_mR 77)) := xa_cb_ok (by decide +kernel)
set_option maxRecDepth 100000 in
theorem mc_78 : lw_tbl[94]? = some (.code (xe_mY 78) (xe_mB 78) (xe_mL 78) (xe_mR 78)) := xa_cb_ok (by decide +kernel)
set_option maxRecDepth 100000 in
theorem mc_79 : lw_tbl[113]? = some (.code (xe_mY 79) (xe_mB 79) (xe_mL 79) (xe_mR 79)) := xa_cb_ok (by decide +kernel)
set_option maxRecDepth 100000 in
theorem mc_80 : lw_tbl[128]? = some (.code (xe_mY 80) (xe_mB 80) (xe_mL 80) (xe_mR 80)) := xa_cb_ok (by decide +kernel)
set_option maxRecDepth 100000 in
theorem mc_81 : lw_tbl[155]? = some (.code (xe_mY 81) (xe_mB 81) (xe_mL 81) (xe_mR 81)) := xa_cb_ok (by decide +kernel)
set_option maxRecDepth 100000 in
theorem mc_82 : lw_tbl[200]? = some (.code (xe_mY 82) (xe_mB 82) (xe_mL 82) (xe_mR 82)) := xa_cb_ok (by decide +kernel)
set_option maxRecDepth 100000 in
theorem mc_83 : lw_tbl[228]? = some (.code (xe_mY 83) (xe_mB 83) (xe_mL 83) (xe_mR 83)) := xa_cb_ok (by decide +kernel)
set_option maxRecDepth 100000 in
theorem mc_84 : lw_tbl[266]? = some (.code (xe_mY 84) (xe_mB 84) (xe_mL 84) (xe_mR 84)) := xa_cb_ok (by decide +kernel)
set_option maxRecDepth 100000 in
theorem mc_85 : lw_tbl[290]? = some (.code (xe_mY 85) (xe_mB 85) (xe_mL 85) (xe_mR 85)) := xa_cb_ok (by decide +kernel)
set_option maxRecDepth 100000 in
theorem mc_86 : lw_tbl[310]? = some (.code (xe_mY 86) (xe_mB 86) (xe_mL 86) (xe_mR 86)) := xa_cb_ok (by decide +kernel)
set_option maxRecDepth 100000 in
theorem mc_87 : lw_tbl[348]? = some (.code (xe_mY 87) (xe_mB 87) (xe_mL 87) (xe_mR 87)) := xa_cb_ok (by decide +kernel)
set_option maxRecDepth 100000 in
theorem mc_88 : lw_tbl[403]? = some (.code (xe_mY 88) (xe_mB 88) (xe_mL 88) (xe_mR 88)) := xa_cb_ok (by decide +kernel)
set_option maxRecDepth 100000 in
theorem mc_89 : lw_tbl[406]? = some (.code (xe_mY 89) (xe_mB 89) (xe_mL 89) (xe_mR 89)) := xa_cb_ok (by decide +kernel)
set_option maxRecDepth 100000 in
theorem mc_90 : lw_tbl[410]? = some (.code (xe_mY 90) (xe_mB 90) (xe_mL 90) (xe_mR 90)) := xa_cb_ok (by decide +kernel)
set_option maxRecDepth 100000 in
theorem mc_91 : lw_tbl[418]? = some (.code (xe_mY 91) (xe_mB 91) (xe_mL 91) (xe_mR 91)) := xa_cb_ok (by decide +kernel)
set_option maxRecDepth 100000 in
theorem mc_92 : lw_tbl[422]? = some (.code (xe_mY 92) (xe_mB 92) (xe_mL 92) (xe_mR 92)) := xa_cb_ok (by decide +kernel)
set_option maxRecDepth 100000 in
theorem mc_93 : lw_tbl[427]? = some (.code (xe_mY 93) (xe_mB 93) (xe_mL 93) (xe_mR 93)) := xa_cb_ok (by decide +kernel)
set_option maxRecDepth 100000 in
theorem mc_94 : lw_tbl[431]? = some (.code (xe_mY 94) (xe_mB 94) (xe_mL 94) (xe_mR 94)) := xa_cb_ok (by decide +kernel)
set_option maxRecDepth 100000 in
theorem mc_95 : lw_tbl[435]? = some (.code (xe_mY 95) (xe_mB 95) (xe_mL 95) (xe_mR 95)) := xa_cb_ok (by decide +kernel)
set_option maxRecDepth 100000 in
theorem mc_96 : lw_tbl[439]? = some (.code (xe_mY 96) (xe_mB 96) (xe_mL 96) (xe_mR 96)) := xa_cb_ok (by decide +kernel)
set_option maxRecDepth 100000 in
theorem mc_97 : lw_tbl[444]? = some (.code (xe_mY 97) (xe_mB 97) (xe_mL 97) (xe_mR 97)) := xa_cb_ok (by decide +kernel)
set_option maxRecDepth 100000 in
theorem mc_98 : lw_tbl[448]? = some (.code (xe_mY 98) (xe_mB 98) (xe_mL 98) (xe_mR 98)) := xa_cb_ok (by decide +kernel)
set_option maxRecDepth 100000 in
theorem mc_99 : lw_tbl[452]? = some (.code (xe_mY 99) (xe_mB 99) (xe_mL 99) (xe_mR 99)) := xa_cb_ok (by decide +kernel)
set_option maxRecDepth 100000 in
theorem mc_100 : lw_tbl[456]? = some (.code (xe_mY 100) (xe_mB 100) (xe_mL 100) (xe_mR 100)) := xa_cb_ok (by decide +kernel)
set_option maxRecDepth 100000 in
theorem mc_101 : lw_tbl[461]? = some (.code (xe_mY 101) (xe_mB 101) (xe_mL 101) (xe_mR 101)) := xa_cb_ok (by decide +kernel)
set_option maxRecDepth 100000 in
theorem mc_102 : lw_tbl[464]? = some (.code (xe_mY 102) (xe_mB 102) (xe_mL 102) (xe_mR 102)) := xa_cb_ok (by decide +kernel)
set_option maxRecDepth 100000 in
theorem mc_103 : lw_tbl[471]? = some (.code (xe_mY 103) (xe_mB 103) (xe_mL 103) (xe_mR 103)) := xa_cb_ok (by decide +kernel)
set_option maxRecDepth 100000 in
theorem mc_104 : lw_tbl[474]? = some (.code (xe_mY 104) (xe_mB 104) (xe_mL 104) (xe_mR 104)) := xa_cb_ok (by decide +kernel)
set_option maxRecDepth 100000 in
theorem mc_105 : lw_tbl[478]? = some (.code (xe_mY 105) (xe_mB 105) (xe_mL 105) (xe_mR 105)) := xa_cb_ok (by decide +kernel)
set_option maxRecDepth 100000 in
theorem mc_106 : lw_tbl[483]? = some (.code (xe_mY 106) (xe_mB 106) (xe_mL 106) (xe_mR 106)) := xa_cb_ok (by decide +kernel)
set_option maxRecDepth 100000 in
theorem mc_107 : lw_tbl[487]? = some (.code (xe_mY 107) (xe_mB 107) (xe_mL 107) (xe_mR 107)) := xa_cb_ok (by decide +kernel)
set_option maxRecDepth 100000 in
theorem mc_108 : lw_tbl[491]? = some (.code (xe_mY 108) (xe_mB 108) (xe_mL 108) (xe_mR 108)) := xa_cb_ok (by decide +kernel)
set_option maxRecDepth 100000 in
theorem mc_109 : lw_tbl[498]? = some (.code (xe_mY 109) (xe_mB 109) (xe_mL 109) (xe_mR 109)) := xa_cb_ok (by decide +kernel)
set_option maxRecDepth 100000 in
theorem mc_110 : lw_tbl[502]? = some (.code (xe_mY 110) (xe_mB 110) (xe_mL 110) (xe_mR 110)) := xa_cb_ok (by decide +kernel)
set_option maxRecDepth 100000 in
theorem mc_111 : lw_tbl[506]? = some (.code (xe_mY 111) (xe_mB 111) (xe_mL 111) (xe_mR 111)) := xa_cb_ok (by decide +kernel)
set_option maxRecDepth 100000 in
theorem mc_112 : lw_tbl[510]? = some (.code (xe_mY 112) (xe_mB 112) (xe_mL 112) (xe_mR 112)) := xa_cb_ok (by decide +kernel)
set_option maxRecDepth 100000 in
theorem mc_113 : lw_tbl[514]? = some (.code (xe_mY 113) (xe_mB 113) (xe_mL 113) (xe_mR 113)) := xa_cb_ok (by decide +kernel)
set_option maxRecDepth 100000 in
theorem mc_114 : lw_tbl[519]? = some (.code (xe_mY 114) (xe_mB 114) (xe_mL 114) (xe_mR 114)) := xa_cb_ok (by decide +kernel)
set_option maxRecDepth 100000 in
theorem mc_115 : lw_tbl[524]? = some (.code (xe_mY 115) (xe_mB 115) (xe_mL 115) (xe_mR 115)) := xa_cb_ok (by decide +kernel)
set_option maxRecDepth 100000 in
theorem mc_116 : lw_tbl[528]? = some (.code (xe_mY 116) (xe_mB 116) (xe_mL 116) (xe_mR 116)) := xa_cb_ok (by decide +kernel)
set_option maxRecDepth 100000 in
theorem mc_117 : lw_tbl[531]? = some (.code (xe_mY 117) (xe_mB 117) (xe_mL 117) (xe_mR 117)) := xa_cb_ok (by decide +kernel)
set_option maxRecDepth 100000 in
theorem mc_118 : lw_tbl[535]? = some (.code (xe_mY 118) (xe_mB 118) (xe_mL 118) (xe_mR 118)) := xa_cb_ok (by decide +kernel)
set_option maxRecDepth 100000 in
theorem mc_119 : lw_tbl[539]? = some (.code (xe_mY 119) (xe_mB 119) (xe_mL 119) (xe_mR 119)) := xa_cb_ok (by decide +kernel)
set_option maxRecDepth 100000 in
theorem mc_120 : lw_tbl[543]? = some (.code (xe_mY 120) (xe_mB 120) (xe_mL 120) (xe_mR 120)) := xa_cb_ok (by decide +kernel)
set_option maxRecDepth 100000 in
theorem mc_121 : lw_tbl[547]? = some (.code (xe_mY 121) (xe_mB 121) (xe_mL 121) (xe_mR 121)) := xa_cb_ok (by decide +kernel)
set_option maxRecDepth 100000 in
theorem mc_122 : lw_tbl[551]? = some (.code (xe_mY 122) (xe_mB 122) (xe_mL 122) (xe_mR 122)) := xa_cb_ok (by decide +kernel)
set_option maxRecDepth 100000 in
theorem mc_123 : lw_tbl[555]? = some (.code (xe_mY 123) (xe_mB 123) (xe_mL 123) (xe_mR 123)) := xa_cb_ok (by decide +kernel)
set_option maxRecDepth 100000 in
theorem mc_124 : lw_tbl[559]? = some (.code (xe_mY 124) (xe_mB 124) (xe_mL 124) (xe_mR 124)) := xa_cb_ok (by decide +kernel)
set_option maxRecDepth 100000 in
theorem mc_125 : lw_tbl[563]? = some (.code (xe_mY 125) (xe_mB 125) (xe_mL 125) (xe_mR 125)) := xa_cb_ok (by decide +kernel)
set_option maxRecDepth 100000 in
theorem mc_126 : lw_tbl[567]? = some (.code (xe_mY 126) (xe_mB 126) (xe_mL 126) (xe_mR 126)) := xa_cb_ok (by decide +kernel)
set_option maxRecDepth 100000 in
theorem mc_127 : lw_tbl[571]? = some (.code (xe_mY 127) (xe_mB 127) (xe_mL 127) (xe_mR 127)) := xa_cb_ok (by decide +kernel)
set_option maxRecDepth 100000 in
theorem mc_128 : lw_tbl[576]? = some (.code (xe_mY 128) (xe_mB 128) (xe_mL 128) (xe_mR 128)) := xa_cb_ok (by decide +kernel)
set_option maxRecDepth 100000 in
theorem mc_129 : lw_tbl[584]? = some (.code (xe_mY 129) (xe_mB 129) (xe_mL 129) (xe_mR 129)) := xa_cb_ok (by decide +kernel)
set_option maxRecDepth 100000 in
theorem mc_130 : lw_tbl[588]? = some (.code (xe_mY 130) (xe_mB 130) (xe_mL 130) (xe_mR 130)) := xa_cb_ok (by decide +kernel)
set_option maxRecDepth 100000 in
theorem mc_131 : lw_tbl[592]? = some (.code (xe_mY 131) (xe_mB 131) (xe_mL 131) (xe_mR 131)) := xa_cb_ok (by decide +kernel)
set_option maxRecDepth 100000 in
theorem mc_132 : lw_tbl[596]? = some (.code (xe_mY 132) (xe_mB 132) (xe_mL 132) (xe_mR 132)) := xa_cb_ok (by decide +kernel)
set_option maxRecDepth 100000 in
theorem mc_133 : lw_tbl[600]? = some (.code (xe_mY 133) (xe_mB 133) (xe_mL 133) (xe_mR 133)) := xa_cb_ok (by decide +kernel)
set_option maxRecDepth 100000 in
theorem mc_134 : lw_tbl[604]? = some (.code (xe_mY 134) (xe_mB 134) (xe_mL 134) (xe_mR 134)) := xa_cb_ok (by decide +kernel)
set_option maxRecDepth 100000 in
theorem mc_135 : lw_tbl[608]? = some (.code (xe_mY 135) (xe_mB 135) (xe_mL 135) (xe_mR 135)) := xa_cb_ok (by decide +kernel)
set_option maxRecDepth 100000 in
theorem mc_136 : lw_tbl[612]? = some (.code (xe_mY 136) (xe_mB 136) (xe_mL 136) (xe_mR 136)) := xa_cb_ok (by decide +kernel)
set_option maxRecDepth 100000 in
theorem mc_137 : lw_tbl[616]? = some (.code (xe_mY 137) (xe_mB 137) (xe_mL 137) (xe_mR 137)) := xa_cb_ok (by decide +kernel)
set_option maxRecDepth 100000 in
theorem mc_138 : lw_tbl[620]? = some (.code (xe_mY 138) (xe_mB 138) (xe_mL 138) (xe_mR 138)) := xa_cb_ok (by decide +kernel)
set_option maxRecDepth 100000 in
theorem mc_139 : lw_tbl[624]? = some (.code (xe_mY 139) (xe_mB 139) (xe_mL 139) (xe_mR 139)) := xa_cb_ok (by decide +kernel)
set_option maxRecDepth 100000 in
theorem mc_140 : lw_tbl[628]? = some (.code (xe_mY 140) (xe_mB 140) (xe_mL 140) (xe_mR 140)) := xa_cb_ok (by decide +kernel)
set_option maxRecDepth 100000 in
theorem mc_141 : lw_tbl[632]? = some (.code (xe_mY 141) (xe_mB 141) (xe_mL 141) (xe_mR 141)) := xa_cb_ok (by decide +kernel)
set_option maxRecDepth 100000 in
theorem mc_142 : lw_tbl[636]? = some (.code (xe_mY 142) (xe_mB 142) (xe_mL 142) (xe_mR 142)) := xa_cb_ok (by decide +kernel)
set_option maxRecDepth 100000 in
theorem mc_143 : lw_tbl[640]? = some (.code (xe_mY 143) (xe_mB 143) (xe_mL 143) (xe_mR 143)) := xa_cb_ok (by decide +kernel)
set_option maxRecDepth 100000 in
theorem mc_144 : lw_tbl[647]? = some (.code (xe_mY 144) (xe_mB 144) (xe_mL 144) (xe_mR 144)) := xa_cb_ok (by decide +kernel)
set_option maxRecDepth 100000 in
theorem mc_145 : lw_tbl[651]? = some (.code (xe_mY 145) (xe_mB 145) (xe_mL 145) (xe_mR 145)) := xa_cb_ok (by decide +kernel)
set_option maxRecDepth 100000 in
theorem mc_146 : lw_tbl[655]? = some (.code (xe_mY 146) (xe_mB 146) (xe_mL 146) (xe_mR 146)) := xa_cb_ok (by decide +kernel)
set_option maxRecDepth 100000 in
theorem mc_147 : lw_tbl[660]? = some (.code (xe_mY 147) (xe_mB 147) (xe_mL 147) (xe_mR 147)) := xa_cb_ok (by decide +kernel)
set_option maxRecDepth 100000 in
theorem mc_148 : lw_tbl[670]? = some (.code (xe_mY 148) (xe_mB 148) (xe_mL 148) (xe_mR 148)) := xa_cb_ok (by decide +kernel)
set_option maxRecDepth 100000 in
theorem mc_149 : lw_tbl[674]? = some (.code (xe_mY 149) (xe_mB 149) (xe_mL 149) (xe_mR 149)) := xa_cb_ok (by decide +kernel)
set_option maxRecDepth 100000 in
theorem mc_150 : lw_tbl[678]? = some (.code (xe_mY 150) (xe_mB 150) (xe_mL 150) (xe_mR 150)) := xa_cb_ok (by decide +kernel)
set_option maxRecDepth 100000 in
theorem mc_151 : lw_tbl[682]? = some (.code (xe_mY 151) (xe_mB 151) (xe_mL 151) (xe_mR 151)) := xa_cb_ok (by decide +kernel)
set_option maxRecDepth 100000 in
theorem mc_152 : lw_tbl[686]? = some (.code (xe_mY 152) (xe_mB 152) (xe_mL 152) (xe_mR 152)) := xa_cb_ok (by decide +kernel)
set_option maxRecDepth 100000 in
theorem mc_153 : lw_tbl[690]? = some (.code (xe_mY 153) (xe_mB 153) (xe_mL 153) (xe_mR 153)) := xa_cb_ok (by decide +kernel)
set_option maxRecDepth 100000 in
theorem mc_154 : lw_tbl[694]? = some (.code (xe_mY 154) (xe_mB 154) (xe_mL 154) (xe_mR 154)) := xa_cb_ok (by decide +kernel)
set_option maxRecDepth 100000 in
theorem mc_155 : lw_tbl[705]? = some (.code (xe_mY 155) (xe_mB 155) (xe_mL 155) (xe_mR 155)) := xa_cb_ok (by decide +kernel)
set_option maxRecDepth 100000 in
theorem mc_156 : lw_tbl[709]? = some (.code (xe_mY 156) (xe_mB 156) (xe_mL 156) (xe_mR 156)) := xa_cb_ok (by decide +kernel)
set_option maxRecDepth 100000 in
theorem mc_157 : lw_tbl[713]? = some (.code (xe_mY 157) (xe_mB 157) (xe_mL 157) (xe_mR 157)) := xa_cb_ok (by decide +kernel)
set_option maxRecDepth 100000 in
theorem mc_158 : lw_tbl[717]? = some (.code (xe_mY 158) (xe_mB 158) (xe_mL 158) (xe_mR 158)) := xa_cb_ok (by decide +kernel)
set_option maxRecDepth 100000 in
theorem mc_159 : lw_tbl[721]? = some (.code (xe_mY 159) (xe_mB 159) (xe_mL 159) (xe_mR 159)) := xa_cb_ok (by decide +kernel)
set_option maxRecDepth 100000 in
theorem mc_160 : lw_tbl[729]? = some (.code (xe_mY 160) (xe_mB 160) (xe_mL 160) (xe_mR 160)) := xa_cb_ok (by decide +kernel)
set_option maxRecDepth 100000 in
theorem mc_161 : lw_tbl[733]? = some (.code (xe_mY 161) (xe_mB 161) (xe_mL 161) (xe_mR 161)) := xa_cb_ok (by decide +kernel)
set_option maxRecDepth 100000 in
theorem mc_162 : lw_tbl[738]? = some (.code (xe_mY 162) (xe_mB 162) (xe_mL 162) (xe_mR 162)) := xa_cb_ok (by decide +kernel)
set_option maxRecDepth 100000 in
theorem mc_163 : lw_tbl[745]? = some (.code (xe_mY 163) (xe_mB 163) (xe_mL 163) (xe_mR 163)) := xa_cb_ok (by decide +kernel)
set_option maxRecDepth 100000 in
theorem mc_164 : lw_tbl[749]? = some (.code (xe_mY 164) (xe_mB 164) (xe_mL 164) (xe_mR 164)) := xa_cb_ok (by decide +kernel)
set_option maxRecDepth 100000 in
theorem mc_165 : lw_tbl[753]? = some (.code (xe_mY 165) (xe_mB 165) (xe_mL 165) (xe_mR 165)) := xa_cb_ok (by decide +kernel)
set_option maxRecDepth 100000 in
theorem mc_166 : lw_tbl[757]? = some (.code (xe_mY 166) (xe_mB 166) (xe_mL 166) (xe_mR 166)) := xa_cb_ok (by decide +kernel)
set_option maxRecDepth 100000 in
theorem mc_167 : lw_tbl[761]? = some (.code (xe_mY 167) (xe_mB 167) (xe_mL 167) (xe_mR 167)) := xa_cb_ok (by decide +kernel)
set_option maxRecDepth 100000 in
theorem mc_168 : lw_tbl[765]? = some (.code (xe_mY 168) (xe_mB 168) (xe_mL 168) (xe_mR 168)) := xa_cb_ok (by decide +kernel)
set_option maxRecDepth 100000 in
theorem mc_169 : lw_tbl[769]? = some (.code (xe_mY 169) (xe_mB 169) (xe_mL 169) (xe_mR 169)) := xa_cb_ok (by decide +kernel)
set_option maxRecDepth 100000 in
theorem mc_170 : lw_tbl[773]? = some (.code (xe_mY 170) (xe_mB 170) (xe_mL 170) (xe_mR 170)) := xa_cb_ok (by decide +kernel)
set_option maxRecDepth 100000 in
theorem mc_171 : lw_tbl[777]? = some (.code (xe_mY 171) (xe_mB 171) (xe_mL 171) (xe_mR 171)) := xa_cb_ok (by decide +kernel)
set_option maxRecDepth 100000 in
theorem mc_172 : lw_tbl[782]? = some (.code (xe_mY 172) (xe_mB 172) (xe_mL 172) (xe_mR 172)) := xa_cb_ok (by decide +kernel)
set_option maxRecDepth 100000 in
theorem mc_173 : lw_tbl[786]? = some (.code (xe_mY 173) (xe_mB 173) (xe_mL 173) (xe_mR 173)) := xa_cb_ok (by decide +kernel)
set_option maxRecDepth 100000 in
theorem mc_174 : lw_tbl[790]? = some (.code (xe_mY 174) (xe_mB 174) (xe_mL 174) (xe_mR 174)) := xa_cb_ok (by decide +kernel)
set_option maxRecDepth 100000 in
theorem mc_175 : lw_tbl[794]? = some (.code (xe_mY 175) (xe_mB 175) (xe_mL 175) (xe_mR 175)) := xa_cb_ok (by decide +kernel)
set_option maxRecDepth 100000 in
theorem mc_176 : lw_tbl[798]? = some (.code (xe_mY 176) (xe_mB 176) (xe_mL 176) (xe_mR 176)) := xa_cb_ok (by decide +kernel)
set_option maxRecDepth 100000 in
theorem mc_177 : lw_tbl[803]? = some (.code (xe_mY 177) (xe_mB 177) (xe_mL 177) (xe_mR 177)) := xa_cb_ok (by decide +kernel)
set_option maxRecDepth 100000 in
theorem mc_178 : lw_tbl[807]? = some (.code (xe_mY 178) (xe_mB 178) (xe_mL 178) (xe_mR 178)) := xa_cb_ok (by decide +kernel)
set_option maxRecDepth 100000 in
theorem mc_179 : lw_tbl[811]? = some (.code (xe_mY 179) (xe_mB 179) (xe_mL 179) (xe_mR 179)) := xa_cb_ok (by decide +kernel)
set_option maxRecDepth 100000 in
theorem mc_180 : lw_tbl[815]? = some (.code (xe_mY 180) (xe_mB 180) (xe_mL 180) (xe_mR 180)) := xa_cb_ok (by decide +kernel)
set_option maxRecDepth 100000 in
theorem mc_181 : lw_tbl[819]? = some (.code (xe_mY 181) (xe_mB 181) (xe_mL 181) (xe_mR 181)) := xa_cb_ok (by decide +kernel)
set_option maxRecDepth 100000 in
theorem mc_182 : lw_tbl[824]? = some (.code (xe_mY 182) (xe_mB 182) (xe_mL 182) (xe_mR 182)) := xa_cb_ok (by decide +kernel)
set_option maxRecDepth 100000 in
theorem mc_183 : lw_tbl[828]? = some (.code (xe_mY 183) (xe_mB 183) (xe_mL 183) (xe_mR 183)) := xa_cb_ok (by decide +kernel)
set_option maxRecDepth 100000 in
theorem mc_184 : lw_tbl[832]? = some (.code (xe_mY 184) (xe_mB 184) (xe_mL 184) (xe_mR 184)) := xa_cb_ok (by decide +kernel)
set_option maxRecDepth 100000 in
theorem mc_185 : lw_tbl[836]? = some (.code (xe_mY 185) (xe_mB 185) (xe_mL 185) (xe_mR 185)) := xa_cb_ok (by decide +kernel)
set_option maxRecDepth 100000 in
theorem mc_186 : lw_tbl[840]? = some (.code (xe_mY 186) (xe_mB 186) (xe_mL 186) (xe_mR 186)) := xa_cb_ok (by decide +kernel)
set_option maxRecDepth 100000 in
theorem mc_187 : lw_tbl[844]? = some (.code (xe_mY 187) (xe_mB 187) (xe_mL 187) (xe_mR 187)) := xa_cb_ok (by decide +kernel)
set_option maxRecDepth 100000 in
theorem mc_188 : lw_tbl[848]? = some (.code (xe_mY 188) (xe_mB 188) (xe_mL 188) (xe_mR 188)) := xa_cb_ok (by decide +kernel)
set_option maxRecDepth 100000 in
theorem mc_189 : lw_tbl[852]? = some (.code (xe_mY 189) (xe_mB 189) (xe_mL 189) (xe_mR 189)) := xa_cb_ok (by decide +kernel)
set_option maxRecDepth 100000 in
theorem mc_190 : lw_tbl[856]? = some (.code (xe_mY 190) (xe_mB 190) (xe_mL 190) (xe_mR 190)) := xa_cb_ok (by decide +kernel)
set_option maxRecDepth 100000 in
theorem mc_191 : lw_tbl[860]? = some (.code (xe_mY 191) (xe_mB 191) (xe_mL 191) (xe_mR 191)) := xa_cb_ok (by decide +kernel)
set_option maxRecDepth 100000 in
theorem mc_192 : lw_tbl[865]? = some (.code (xe_mY 192) (xe_mB 192) (xe_mL 192) (xe_mR 192)) := xa_cb_ok (by decide +kernel)
set_option maxRecDepth 100000 in
theorem mc_193 : lw_tbl[873]? = some (.code (xe_mY 193) (xe_mB 193) (xe_mL 193) (xe_mR 193)) := xa_cb_ok (by decide +kernel)
def xe_cdF (k : Nat) : List (List Nat) → Prop
  | [] => True
  | x :: l => (x.headD 9 = 9 ∨ Jvm.Cond.code (xe_mY k) (xe_mB k) (xe_mL k) (xe_mR k) ∈ xe_G) ∧ xe_cdF (k + 1) l
theorem xe_cdG {p : Nat} {y : MethodName} {b : ByteArray} {m : Nat} {r : Option FieldType} (h : lw_tbl[p]? = some (.code y b m r)) : Jvm.Cond.code y b m r ∈ xe_G := List.mem_filter.mpr ⟨List.mem_of_getElem? h, rfl⟩
theorem xe_cdF_get : ∀ (l : List (List Nat)) (k : Nat), xe_cdF k l → ∀ j, ((l.getD j []).headD 9 ≠ 9) → Jvm.Cond.code (xe_mY (k + j)) (xe_mB (k + j)) (xe_mL (k + j)) (xe_mR (k + j)) ∈ xe_G
  | [], _, _, j, h => absurd (by simp) h
  | x :: l, k, hh, 0, h => hh.1.resolve_left h
  | x :: l, k, hh, j + 1, h => by
    have := xe_cdF_get l (k + 1) hh.2 j h
    rw [show k + 1 + j = k + (j + 1) by omega] at this
    exact this
theorem xe_cdF_ok : xe_cdF 0 xe_mq := ⟨Or.inl rfl, Or.inr (xe_cdG mc_1), Or.inr (xe_cdG mc_2), Or.inr (xe_cdG mc_3), Or.inr (xe_cdG mc_4), Or.inr (xe_cdG mc_5), Or.inr (xe_cdG mc_6), Or.inr (xe_cdG mc_7), Or.inr (xe_cdG mc_8), Or.inr (xe_cdG mc_9), Or.inr (xe_cdG mc_10), Or.inr (xe_cdG mc_11), Or.inr (xe_cdG mc_12), Or.inr (xe_cdG mc_13), Or.inr (xe_cdG mc_14), Or.inr (xe_cdG mc_15), Or.inr (xe_cdG mc_16), Or.inr (xe_cdG mc_17), Or.inr (xe_cdG mc_18), Or.inr (xe_cdG mc_19), Or.inr (xe_cdG mc_20), Or.inr (xe_cdG mc_21), Or.inr (xe_cdG mc_22), Or.inr (xe_cdG mc_23), Or.inr (xe_cdG mc_24), Or.inr (xe_cdG mc_25), Or.inr (xe_cdG mc_26), Or.inr (xe_cdG mc_27), Or.inr (xe_cdG mc_28), Or.inr (xe_cdG mc_29), Or.inr (xe_cdG mc_30), Or.inr (xe_cdG mc_31), Or.inr (xe_cdG mc_32), Or.inr (xe_cdG mc_33), Or.inr (xe_cdG mc_34), Or.inr (xe_cdG mc_35), Or.inr (xe_cdG mc_36), Or.inr (xe_cdG mc_37), Or.inr (xe_cdG mc_38), Or.inr (xe_cdG mc_39), Or.inr (xe_cdG mc_40), Or.inr (xe_cdG mc_41), Or.inr (xe_cdG mc_42), Or.inr (xe_cdG mc_43), Or.inr (xe_cdG mc_44), Or.inr (xe_cdG mc_45), Or.inr (xe_cdG mc_46), Or.inr (xe_cdG mc_47), Or.inr (xe_cdG mc_48), Or.inr (xe_cdG mc_49), Or.inr (xe_cdG mc_50), Or.inr (xe_cdG mc_51), Or.inr (xe_cdG mc_52), Or.inr (xe_cdG mc_53), Or.inr (xe_cdG mc_54), Or.inr (xe_cdG mc_55), Or.inr (xe_cdG mc_56), Or.inr (xe_cdG mc_57), Or.inr (xe_cdG mc_58), Or.inr (xe_cdG mc_59), Or.inr (xe_cdG mc_60), Or.inr (xe_cdG mc_61), Or.inr (xe_cdG mc_62), Or.inr (xe_cdG mc_63), Or.inr (xe_cdG mc_64), Or.inr (xe_cdG mc_65), Or.inr (xe_cdG mc_66), Or.inr (xe_cdG mc_67), Or.inr (xe_cdG mc_68), Or.inr (xe_cdG mc_69), Or.inr (xe_cdG mc_70), Or.inr (xe_cdG mc_71), Or.inr (xe_cdG mc_72), Or.inr (xe_cdG mc_73), Or.inr (xe_cdG mc_74), Or.inr (xe_cdG mc_75), Or.inr (xe_cdG mc_76), Or.inr (xe_cdG mc_77), Or.inr (xe_cdG mc_78), Or.inr (xe_cdG mc_79), Or.inr (xe_cdG mc_80), Or.inr (xe_cdG mc_81), Or.inr (xe_cdG mc_82), Or.inr (xe_cdG mc_83), Or.inr (xe_cdG mc_84), Or.inr (xe_cdG mc_85), Or.inr (xe_cdG mc_86), Or.inr (xe_cdG mc_87), Or.inr (xe_cdG mc_88), Or.inr (xe_cdG mc_89), Or.inr (xe_cdG mc_90), Or.inr (xe_cdG mc_91), Or.inr (xe_cdG mc_92), Or.inr (xe_cdG mc_93), Or.inr (xe_cdG mc_94), Or.inr (xe_cdG mc_95), Or.inr (xe_cdG mc_96), Or.inr (xe_cdG mc_97), Or.inr (xe_cdG mc_98), Or.inr (xe_cdG mc_99), Or.inr (xe_cdG mc_100), Or.inr (xe_cdG mc_101), Or.inr (xe_cdG mc_102), Or.inr (xe_cdG mc_103), Or.inr (xe_cdG mc_104), Or.inr (xe_cdG mc_105), Or.inr (xe_cdG mc_106), Or.inr (xe_cdG mc_107), Or.inr (xe_cdG mc_108), Or.inr (xe_cdG mc_109), Or.inr (xe_cdG mc_110), Or.inr (xe_cdG mc_111), Or.inr (xe_cdG mc_112), Or.inr (xe_cdG mc_113), Or.inr (xe_cdG mc_114), Or.inr (xe_cdG mc_115), Or.inr (xe_cdG mc_116), Or.inr (xe_cdG mc_117), Or.inr (xe_cdG mc_118), Or.inr (xe_cdG mc_119), Or.inr (xe_cdG mc_120), Or.inr (xe_cdG mc_121), Or.inr (xe_cdG mc_122), Or.inr (xe_cdG mc_123), Or.inr (xe_cdG mc_124), Or.inr (xe_cdG mc_125), Or.inr (xe_cdG mc_126), Or.inr (xe_cdG mc_127), Or.inr (xe_cdG mc_128), Or.inr (xe_cdG mc_129), Or.inr (xe_cdG mc_130), Or.inr (xe_cdG mc_131), Or.inr (xe_cdG mc_132), Or.inr (xe_cdG mc_133), Or.inr (xe_cdG mc_134), Or.inr (xe_cdG mc_135), Or.inr (xe_cdG mc_136), Or.inr (xe_cdG mc_137), Or.inr (xe_cdG mc_138), Or.inr (xe_cdG mc_139), Or.inr (xe_cdG mc_140), Or.inr (xe_cdG mc_141), Or.inr (xe_cdG mc_142), Or.inr (xe_cdG mc_143), Or.inr (xe_cdG mc_144), Or.inr (xe_cdG mc_145), Or.inr (xe_cdG mc_146), Or.inr (xe_cdG mc_147), Or.inr (xe_cdG mc_148), Or.inr (xe_cdG mc_149), Or.inr (xe_cdG mc_150), Or.inr (xe_cdG mc_151), Or.inr (xe_cdG mc_152), Or.inr (xe_cdG mc_153), Or.inr (xe_cdG mc_154), Or.inr (xe_cdG mc_155), Or.inr (xe_cdG mc_156), Or.inr (xe_cdG mc_157), Or.inr (xe_cdG mc_158), Or.inr (xe_cdG mc_159), Or.inr (xe_cdG mc_160), Or.inr (xe_cdG mc_161), Or.inr (xe_cdG mc_162), Or.inr (xe_cdG mc_163), Or.inr (xe_cdG mc_164), Or.inr (xe_cdG mc_165), Or.inr (xe_cdG mc_166), Or.inr (xe_cdG mc_167), Or.inr (xe_cdG mc_168), Or.inr (xe_cdG mc_169), Or.inr (xe_cdG mc_170), Or.inr (xe_cdG mc_171), Or.inr (xe_cdG mc_172), Or.inr (xe_cdG mc_173), Or.inr (xe_cdG mc_174), Or.inr (xe_cdG mc_175), Or.inr (xe_cdG mc_176), Or.inr (xe_cdG mc_177), Or.inr (xe_cdG mc_178), Or.inr (xe_cdG mc_179), Or.inr (xe_cdG mc_180), Or.inr (xe_cdG mc_181), Or.inr (xe_cdG mc_182), Or.inr (xe_cdG mc_183), Or.inr (xe_cdG mc_184), Or.inr (xe_cdG mc_185), Or.inr (xe_cdG mc_186), Or.inr (xe_cdG mc_187), Or.inr (xe_cdG mc_188), Or.inr (xe_cdG mc_189), Or.inr (xe_cdG mc_190), Or.inr (xe_cdG mc_191), Or.inr (xe_cdG mc_192), Or.inr (xe_cdG mc_193), Or.inl rfl, Or.inl rfl, trivial⟩

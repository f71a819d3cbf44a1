/-! THE FACTS, 4: all rules. -/
def zRSl : List zRs := [rS1_86, rS5_86, rS7_86, rS12_86, rS1_88, rS5_88, rS7_88, rS12_88, rS3, rS4, rS9, rS10, rS11, rW1, rW2, rW3, rH1_0, rH2_0, rH3_0, rH4_0, rH1_1, rH2_1, rH3_1, rH4_1, rT1_0, rT2_0, rT3_0, rT1_1, rT2_1, rT3_1, rZ1, rZ2, rZ3, rZ4, rZ5, rD1, rD2, rD3_114, rD4_114, rD3_115, rD4_115, rD3_116, rD4_116, rD3_118, rD4_118, rD5, rD6, rD7, rD8, rD9, rD10, rD11, rD12, rD13, rD14, rZ375_56, rZ375_90, rZ376_57, rZ376_91, rZM0_56, rZH0_56, rZM0_90, rZH0_90, rZC0_57, rZN0_57, rZC0_91, rZN0_91, rZQ0, rZM1_56, rZH1_56, rZM1_90, rZH1_90, rZC1_57, rZN1_57, rZC1_91, rZN1_91, rZQ1, rZF0, rZG0, rZF1, rZG1, rZF2, rZG2, rZF3, rZG3, rZF4, rZG4, rZF5, rZG5, rZF6, rZG6, rZF7, rZG7, rZF8, rZG8, rZF9, rZG9, rZF10, rZG10, rZF11, rZG11, rZF12, rZG12, rZF13, rZG13, rZF14, rZG14, rZF15, rZG15, rZF16, rZG16, rZF17, rZG17, rZF18, rZG18, rZF19, rZG19, rZ391, rZ392, rZ396, rZT, rZI, rZK, rZX, rZZ, rZY, rZV, rZU, rZD2, rZD3, rZE47, rZE48, rZE49, rZE50, rZE51, rZA78, rZA79, rZA80, rZT0_5, rZT0_6, rZO0_5, rZO0_6, rZT1_5, rZT1_6, rZO1_5, rZO1_6, rZT2_5, rZT2_6, rZO2_5, rZO2_6, rZR0_47, rZQ0_47, rZR0_48, rZQ0_48, rZR0_49, rZQ0_49, rZS0_78u, rZS0_79u, rZS0_80u, rZR1_47, rZQ1_47, rZR1_48, rZQ1_48, rZR1_49, rZQ1_49, rZS1_78u, rZS1_78l, rZS1_79u, rZS1_79l, rZS1_80u, rZS1_80l, rZR2_47, rZR2_48, rZR2_49, rZS2_78u, rZS2_78l, rZS2_79u, rZS2_79l, rZS2_80u, rZS2_80l, rZG78, rZH78_0, rZH78_1, rZH78_2, rZG79, rZH79_0, rZH79_1, rZH79_2, rZG80, rZH80_0, rZH80_1, rZH80_2, rZV71]
def zRUl : List zRu := [rU10, rU11, rU12, rU13, rU14, rU20, rU30, rU32, rU34, rU36, rU31, rU33, rU35, rU37, rU38, rU29, rU39, rU40, rU42, rU44, rU46, rU41, rU43, rU45, rU47, rU48, rU49, rU50, rU51, rU52, rU53, rU54, rU55, rU56, rU57, rU60, rU61, rU62, rU63, rU64, rU65, rU66, rU67, rU68, rU70, rU71, rU72, rU80, rU81, rU82, rU83, rU84, rU85, rU86, rU87, rU88, rU89, rU90, rU400, rU401, rU402, rU403, rU404, rU405, rU406, rU407, rU408, rU409, rU410, rU411, rU412, rU413, rU414, rU415, rU416, rU417, rU418, rU419, rU420, rU421, rU422, rU423, rU424, rU425, rU426, rU430, rU431, rU432, rU433, rU434, rU450, rU470, rU451, rU471, rU452, rU472, rU453, rU473, rU454, rU474, rU455, rU475, rU456, rU476, rU457, rU477, rU458, rU478, rU459, rU479, rU460, rU480, rU461, rU481, rU462, rU482, rU463, rU483, rU440, rU441, rU442, rU485, rU486, rU487, rU495, rU496, rU497, rU488, rU498, rU489, rU499, rU889, rU899, rU448, rU449, rU443, rU444, rU445, rU447, rU490, rU500, rU501, rU502, rU602, rU503, rU504, rU506, rU505, rU507, rU508, rU509, rU510, rU511, rU512, rU513, rU514, rU515, rU516, rU517, rU518, rU519, rU520, rU521, rU522, rU523, rU524, rU525, rU526, rU527, rU528, rU530, rU531, rU532, rU533, rU534, rU535, rU540, rU541, rU542, rU543, rU544, rU545, rU546, rU547, rU548, rU549, rU550, rU551, rU552, rU553, rU560, rU561, rU562, rU563, rU620, rU621, rU622, rU623, rU624, rU625, rU626, rU627, rU628, rU629, rU630, rU631, rU632, rU643, rU633, rU644, rU634, rU645, rU636, rU637, rU640, rU641, rU642, rU635, rU646, rU647, rU648, rU650, rU651, rU652, rU653, rU654, rU655, rU656, rU657, rU658, rU660, rU661, rU662, rU663, rU664, rU665, rU666, rU667, rU668, rU669, rU670, rU603, rU604, rU605, rU606, rU607, rU608, rU609, rU610, rU611, rU612, rU613, rU614, rU680, rU681, rU682, rU683, rU690, rU691, rU692, rU693, rU700, rU701, rU702, rU703, rU704, rU705, rU706, rU707, rU710, rU711, rU712, rU713, rU714, rU715, rU716, rU717, rU718, rU719, rU720, rU721, rU722, rU723, rU730, rU731, rU754, rU750, rU755, rU752, rU753, rU435, rU733, rU734, rU735, rU736, rU737, rU738, rU740, rU741, rU742, rU743, rU744, rU760, rU761, rU762, rU763, rU764, rU765, rU766, rU767, rU768, rU769, rU770, rU771, rU772, rU773, rU774, rU775, rU776, rU777, rU778, rU780, rU781, rU782, rU783, rU784, rU785, rU786, rU787, rU788, rU789, rU790, rU791, rU792, rU793, rU794, rU795, rU796, rU797, rU799, rU800, rU801, rU802, rU803, rU804, rU805, rU806, rU810, rU811, rU812, rU813, rU814, rU815, rU816, rU817, rU818, rU819, rU820, rU822, rU821, rU823, rU824, rU825, rU826, rU827, rU828, rU829, rU830, rU831, rU832, rU833, rU834, rU835, rU836, rU837, rU838, rU839, rU840, rU841, rU844, rU845, rU846, rU847, rU848, rU849, rU850, rU851, rU852, rU853, rU854, rU855, rU856, rU857, rU858, rU860, rU861, rU863, rU864, rU888, rU890, rU865, rU866, rU867, rU915, rU869, rU918, rU868, rU917, rU870, rU871, rU872, rU873, rU874, rU875, rU876, rU877, rU878, rU879, rU880, rU881, rU882, rU883, rU884, rU885, rU886, rU887, rU892, rU893, rU894, rU895, rU897, rU898, rU900, rU901, rU902, rU904, rU907, rU908, rU909, rU910, rU911, rU912, rU913, rU914, rU916, rU919, rU920, rU921, rU922, rU923, rU924, rU925, rU926, rU927, rU928, rU930, rU931, rU932, rU933, rU934, rU935, rU938, rU937, rU939, rU940, rU941, rU936, rU943, rU944, rU945, rU946, rU947, rU948, rU950, rU951, rU952, rU953, rU955, rU956, rU957, rU954, rU958, rU959, rU960, rU961, rU962, rU964, rU965, rU966, rU967, rU968, rU969, rU970, rU971, rU949, rU999, rU980, rU981, rU982, rU983, rU984, rU985, rU986, rU987, rU988, rU989, rU990, rU991, rU992, rU993, rU994, rU995, rU996, rU997, rU998, rU972, rU973, rU974, rU975, rU963, rU862, rU843, rU859, rU842, rU808, rU798, rU350, rU351, rU352, rU353, rU354, rU355, rU359, rU356, rU360, rU357, rU363, rU364, rU365, rU366, rU367, rU368, rU369, rU370, rU371, rU372, rU373, rU374, rU375, rU376, rU377, rU378, rU381, rU379, rU382, rU380, rU383, rU2000, rU2001, rU2002, rU2003, rU2004, rU2005, rU2010, rU2013, rU2016, rU2020, rU2023, rU2030, rU2031, rU2032, rU2011, rU2014, rU2017, rU2021, rU2024, rU2033, rU2012, rU2015, rU2018, rU2022, rU2025, rU2034, rU2070, rU2071, rU2073, rU2074, rU2075, rU2076, rU2077, rU2078, rU2080, rU2079, rU2081, rU2082, rU2083, rU2084, rU2085, rU2086, rU2088, rU2087, rU2089, rU2092, rU2093, rU2094, rU2095, rU2096, rU2097, rU2098, rU2099, rU2100, rU2101]
section
variable {D : zD} {ua : Nat → Nat}
set_option maxRecDepth 16384 in
theorem zRS_ok (hD : zk_d2 D ua) : ∀ R ∈ zRSl, zr_okS D R := zr_c (rS1_86_ok hD) (zr_c (rS5_86_ok hD) (zr_c (rS7_86_ok hD) (zr_c (rS12_86_ok hD) (zr_c (rS1_88_ok hD) (zr_c (rS5_88_ok hD) (zr_c (rS7_88_ok hD) (zr_c (rS12_88_ok hD) (zr_c (rS3_ok hD) (zr_c (rS4_ok hD) (zr_c (rS9_ok hD) (zr_c (rS10_ok hD) (zr_c (rS11_ok hD) (zr_c (rW1_ok hD) (zr_c (rW2_ok hD) (zr_c (rW3_ok hD) (zr_c (rH1_0_ok hD) (zr_c (rH2_0_ok hD) (zr_c (rH3_0_ok hD) (zr_c (rH4_0_ok hD) (zr_c (rH1_1_ok hD) (zr_c (rH2_1_ok hD) (zr_c (rH3_1_ok hD) (zr_c (rH4_1_ok hD) (zr_c (rT1_0_ok hD) (zr_c (rT2_0_ok hD) (zr_c (rT3_0_ok hD) (zr_c (rT1_1_ok hD) (zr_c (rT2_1_ok hD) (zr_c (rT3_1_ok hD) (zr_c (rZ1_ok hD) (zr_c (rZ2_ok hD) (zr_c (rZ3_ok hD) (zr_c (rZ4_ok hD) (zr_c (rZ5_ok hD) (zr_c (rD1_ok hD) (zr_c (rD2_ok hD) (zr_c (rD3_114_ok hD) (zr_c (rD4_114_ok hD) (zr_c (rD3_115_ok hD) (zr_c (rD4_115_ok hD) (zr_c (rD3_116_ok hD) (zr_c (rD4_116_ok hD) (zr_c (rD3_118_ok hD) (zr_c (rD4_118_ok hD) (zr_c (rD5_ok hD) (zr_c (rD6_ok hD) (zr_c (rD7_ok hD) (zr_c (rD8_ok hD) (zr_c (rD9_ok hD) (zr_c (rD10_ok hD) (zr_c (rD11_ok hD) (zr_c (rD12_ok hD) (zr_c (rD13_ok hD) (zr_c (rD14_ok hD) (zr_c (rZ375_56_ok hD) (zr_c (rZ375_90_ok hD) (zr_c (rZ376_57_ok hD) (zr_c (rZ376_91_ok hD) (zr_c (rZM0_56_ok hD) (zr_c (rZH0_56_ok hD) (zr_c (rZM0_90_ok hD) (zr_c (rZH0_90_ok hD) (zr_c (rZC0_57_ok hD) (zr_c (rZN0_57_ok hD) (zr_c (rZC0_91_ok hD) (zr_c (rZN0_91_ok hD) (zr_c (rZQ0_ok hD) (zr_c (rZM1_56_ok hD) (zr_c (rZH1_56_ok hD) (zr_c (rZM1_90_ok hD) (zr_c (rZH1_90_ok hD) (zr_c (rZC1_57_ok hD) (zr_c (rZN1_57_ok hD) (zr_c (rZC1_91_ok hD) (zr_c (rZN1_91_ok hD) (zr_c (rZQ1_ok hD) (zr_c (rZF0_ok hD) (zr_c (rZG0_ok hD) (zr_c (rZF1_ok hD) (zr_c (rZG1_ok hD) (zr_c (rZF2_ok hD) (zr_c (rZG2_ok hD) (zr_c (rZF3_ok hD) (zr_c (rZG3_ok hD) (zr_c (rZF4_ok hD) (zr_c (rZG4_ok hD) (zr_c (rZF5_ok hD) (zr_c (rZG5_ok hD) (zr_c (rZF6_ok hD) (zr_c (rZG6_ok hD) (zr_c (rZF7_ok hD) (zr_c (rZG7_ok hD) (zr_c (rZF8_ok hD) (zr_c (rZG8_ok hD) (zr_c (rZF9_ok hD) (zr_c (rZG9_ok hD) (zr_c (rZF10_ok hD) (zr_c (rZG10_ok hD) (zr_c (rZF11_ok hD) (zr_c (rZG11_ok hD) (zr_c (rZF12_ok hD) (zr_c (rZG12_ok hD) (zr_c (rZF13_ok hD) (zr_c (rZG13_ok hD) (zr_c (rZF14_ok hD) (zr_c (rZG14_ok hD) (zr_c (rZF15_ok hD) (zr_c (rZG15_ok hD) (zr_c (rZF16_ok hD) (zr_c (rZG16_ok hD) (zr_c (rZF17_ok hD) (zr_c (rZG17_ok hD) (zr_c (rZF18_ok hD) (zr_c (rZG18_ok hD) (zr_c (rZF19_ok hD) (zr_c (rZG19_ok hD) (zr_c (rZ391_ok hD) (zr_c (rZ392_ok hD) (zr_c (rZ396_ok hD) (zr_c (rZT_ok hD) (zr_c (rZI_ok hD) (zr_c (rZK_ok hD) (zr_c (rZX_ok hD) (zr_c (rZZ_ok hD) (zr_c (rZY_ok hD) (zr_c (rZV_ok hD) (zr_c (rZU_ok hD) (zr_c (rZD2_ok hD) (zr_c (rZD3_ok hD) (zr_c (rZE47_ok hD) (zr_c (rZE48_ok hD) (zr_c (rZE49_ok hD) (zr_c (rZE50_ok hD) (zr_c (rZE51_ok hD) (zr_c (rZA78_ok hD) (zr_c (rZA79_ok hD) (zr_c (rZA80_ok hD) (zr_c (rZT0_5_ok hD) (zr_c (rZT0_6_ok hD) (zr_c (rZO0_5_ok hD) (zr_c (rZO0_6_ok hD) (zr_c (rZT1_5_ok hD) (zr_c (rZT1_6_ok hD) (zr_c (rZO1_5_ok hD) (zr_c (rZO1_6_ok hD) (zr_c (rZT2_5_ok hD) (zr_c (rZT2_6_ok hD) (zr_c (rZO2_5_ok hD) (zr_c (rZO2_6_ok hD) (zr_c (rZR0_47_ok hD) (zr_c (rZQ0_47_ok hD) (zr_c (rZR0_48_ok hD) (zr_c (rZQ0_48_ok hD) (zr_c (rZR0_49_ok hD) (zr_c (rZQ0_49_ok hD) (zr_c (rZS0_78u_ok hD) (zr_c (rZS0_79u_ok hD) (zr_c (rZS0_80u_ok hD) (zr_c (rZR1_47_ok hD) (zr_c (rZQ1_47_ok hD) (zr_c (rZR1_48_ok hD) (zr_c (rZQ1_48_ok hD) (zr_c (rZR1_49_ok hD) (zr_c (rZQ1_49_ok hD) (zr_c (rZS1_78u_ok hD) (zr_c (rZS1_78l_ok hD) (zr_c (rZS1_79u_ok hD) (zr_c (rZS1_79l_ok hD) (zr_c (rZS1_80u_ok hD) (zr_c (rZS1_80l_ok hD) (zr_c (rZR2_47_ok hD) (zr_c (rZR2_48_ok hD) (zr_c (rZR2_49_ok hD) (zr_c (rZS2_78u_ok hD) (zr_c (rZS2_78l_ok hD) (zr_c (rZS2_79u_ok hD) (zr_c (rZS2_79l_ok hD) (zr_c (rZS2_80u_ok hD) (zr_c (rZS2_80l_ok hD) (zr_c (rZG78_ok hD) (zr_c (rZH78_0_ok hD) (zr_c (rZH78_1_ok hD) (zr_c (rZH78_2_ok hD) (zr_c (rZG79_ok hD) (zr_c (rZH79_0_ok hD) (zr_c (rZH79_1_ok hD) (zr_c (rZH79_2_ok hD) (zr_c (rZG80_ok hD) (zr_c (rZH80_0_ok hD) (zr_c (rZH80_1_ok hD) (zr_c (rZH80_2_ok hD) (zr_c (rZV71_ok hD) ((fun _ h => (by cases h)))))))))))))))))))))))))))))))))))))))))))))))))))))))))))))))))))))))))))))))))))))))))))))))))))))))))))))))))))))))))))))))))))))))))))))))))))))))))))))))))))))))))))))))))))))))))))))))))))
set_option maxRecDepth 16384 in
theorem zRU_ok (hD : zk_d2 D ua) : ∀ R ∈ zRUl, zr_okU D R := zr_c (rU10_ok hD) (zr_c (rU11_ok hD) (zr_c (rU12_ok hD) (zr_c (rU13_ok hD) (zr_c (rU14_ok hD) (zr_c (rU20_ok hD) (zr_c (rU30_ok hD) (zr_c (rU32_ok hD) (zr_c (rU34_ok hD) (zr_c (rU36_ok hD) (zr_c (rU31_ok hD) (zr_c (rU33_ok hD) (zr_c (rU35_ok hD) (zr_c (rU37_ok hD) (zr_c (rU38_ok hD) (zr_c (rU29_ok hD) (zr_c (rU39_ok hD) (zr_c (rU40_ok hD) (zr_c (rU42_ok hD) (zr_c (rU44_ok hD) (zr_c (rU46_ok hD) (zr_c (rU41_ok hD) (zr_c (rU43_ok hD) (zr_c (rU45_ok hD) (zr_c (rU47_ok hD) (zr_c (rU48_ok hD) (zr_c (rU49_ok hD) (zr_c (rU50_ok hD) (zr_c (rU51_ok hD) (zr_c (rU52_ok hD) (zr_c (rU53_ok hD) (zr_c (rU54_ok hD) (zr_c (rU55_ok hD) (zr_c (rU56_ok hD) (zr_c (rU57_ok hD) (zr_c (rU60_ok hD) (zr_c (rU61_ok hD) (zr_c (rU62_ok hD) (zr_c (rU63_ok hD) (zr_c (rU64_ok hD) (zr_c (rU65_ok hD) (zr_c (rU66_ok hD) (zr_c (rU67_ok hD) (zr_c (rU68_ok hD) (zr_c (rU70_ok hD) (zr_c (rU71_ok hD) (zr_c (rU72_ok hD) (zr_c (rU80_ok hD) (zr_c (rU81_ok hD) (zr_c (rU82_ok hD) (zr_c (rU83_ok hD) (zr_c (rU84_ok hD) (zr_c (rU85_ok hD) (zr_c (rU86_ok hD) (zr_c (rU87_ok hD) (zr_c (rU88_ok hD) (zr_c (rU89_ok hD) (zr_c (rU90_ok hD) (zr_c (rU400_ok hD) (zr_c (rU401_ok hD) (zr_c (rU402_ok hD) (zr_c (rU403_ok hD) (zr_c (rU404_ok hD) (zr_c (rU405_ok hD) (zr_c (rU406_ok hD) (zr_c (rU407_ok hD) (zr_c (rU408_ok hD) (zr_c (rU409_ok hD) (zr_c (rU410_ok hD) (zr_c (rU411_ok hD) (zr_c (rU412_ok hD) (zr_c (rU413_ok hD) (zr_c (rU414_ok hD) (zr_c (rU415_ok hD) (zr_c (rU416_ok hD) (zr_c (rU417_ok hD) (zr_c (rU418_ok hD) (zr_c (rU419_ok hD) (zr_c (rU420_ok hD) (zr_c (rU421_ok hD) (zr_c (rU422_ok hD) (zr_c (rU423_ok hD) (zr_c (rU424_ok hD) (zr_c (rU425_ok hD) (zr_c (rU426_ok hD) (zr_c (rU430_ok hD) (zr_c (rU431_ok hD) (zr_c (rU432_ok hD) (zr_c (rU433_ok hD) (zr_c (rU434_ok hD) (zr_c (rU450_ok hD) (zr_c (rU470_ok hD) (zr_c (rU451_ok hD) (zr_c (rU471_ok hD) (zr_c (rU452_ok hD) (zr_c (rU472_ok hD) (zr_c (rU453_ok hD) (zr_c (rU473_ok hD) (zr_c (rU454_ok hD) (zr_c (rU474_ok hD) (zr_c (rU455_ok hD) (zr_c (rU475_ok hD) (zr_c (rU456_ok hD) (zr_c (rU476_ok hD) (zr_c (rU457_ok hD) (zr_c (rU477_ok hD) (zr_c (rU458_ok hD) (zr_c (rU478_ok hD) (zr_c (rU459_ok hD) (zr_c (rU479_ok hD) (zr_c (rU460_ok hD) (zr_c (rU480_ok hD) (zr_c (rU461_ok hD) (zr_c (rU481_ok hD) (zr_c (rU462_ok hD) (zr_c (rU482_ok hD) (zr_c (rU463_ok hD) (zr_c (rU483_ok hD) (zr_c (rU440_ok hD) (zr_c (rU441_ok hD) (zr_c (rU442_ok hD) (zr_c (rU485_ok hD) (zr_c (rU486_ok hD) (zr_c (rU487_ok hD) (zr_c (rU495_ok hD) (zr_c (rU496_ok hD) (zr_c (rU497_ok hD) (zr_c (rU488_ok hD) (zr_c (rU498_ok hD) (zr_c (rU489_ok hD) (zr_c (rU499_ok hD) (zr_c (rU889_ok hD) (zr_c (rU899_ok hD) (zr_c (rU448_ok hD) (zr_c (rU449_ok hD) (zr_c (rU443_ok hD) (zr_c (rU444_ok hD) (zr_c (rU445_ok hD) (zr_c (rU447_ok hD) (zr_c (rU490_ok hD) (zr_c (rU500_ok hD) (zr_c (rU501_ok hD) (zr_c (rU502_ok hD) (zr_c (rU602_ok hD) (zr_c (rU503_ok hD) (zr_c (rU504_ok hD) (zr_c (rU506_ok hD) (zr_c (rU505_ok hD) (zr_c (rU507_ok hD) (zr_c (rU508_ok hD) (zr_c (rU509_ok hD) (zr_c (rU510_ok hD) (zr_c (rU511_ok hD) (zr_c (rU512_ok hD) (zr_c (rU513_ok hD) (zr_c (rU514_ok hD) (zr_c (rU515_ok hD) (zr_c (rU516_ok hD) (zr_c (rU517_ok hD) (zr_c (rU518_ok hD) (zr_c (rU519_ok hD) (zr_c (rU520_ok hD) (zr_c (rU521_ok hD) (zr_c (rU522_ok hD) (zr_c (rU523_ok hD) (zr_c (rU524_ok hD) (zr_c (rU525_ok hD) (zr_c (rU526_ok hD) (zr_c (rU527_ok hD) (zr_c (rU528_ok hD) (zr_c (rU530_ok hD) (zr_c (rU531_ok hD) (zr_c (rU532_ok hD) (zr_c (rU533_ok hD) (zr_c (rU534_ok hD) (zr_c (rU535_ok hD) (zr_c (rU540_ok hD) (zr_c (rU541_ok hD) (zr_c (rU542_ok hD) (zr_c (rU543_ok hD) (zr_c (rU544_ok hD) (zr_c (rU545_ok hD) (zr_c (rU546_ok hD) (zr_c (rU547_ok hD) (zr_c (rU548_ok hD) (zr_c (rU549_ok hD) (zr_c (rU550_ok hD) (zr_c (rU551_ok hD) (zr_c (rU552_ok hD) (zr_c (rU553_ok hD) (zr_c (rU560_ok hD) (zr_c (rU561_ok hD) (zr_c (rU562_ok hD) (zr_c (rU563_ok hD) (zr_c (rU620_ok hD) (zr_c (rU621_ok hD) (zr_c (rU622_ok hD) (zr_c (rU623_ok hD) (zr_c (rU624_ok hD) (zr_c (rU625_ok hD) (zr_c (rU626_ok hD) (zr_c (rU627_ok hD) (zr_c (rU628_ok hD) (zr_c (rU629_ok hD) (zr_c (rU630_ok hD) (zr_c (rU631_ok hD) (zr_c (rU632_ok hD) (zr_c (rU643_ok hD) (zr_c (rU633_ok hD) (zr_c (rU644_ok hD) (zr_c (rU634_ok hD) (zr_c (rU645_ok hD) (zr_c (rU636_ok hD) (zr_c (rU637_ok hD) (zr_c (rU640_ok hD) (zr_c (rU641_ok hD) (zr_c (rU642_ok hD) (zr_c (rU635_ok hD) (zr_c (rU646_ok hD) (zr_c (rU647_ok hD) (zr_c (rU648_ok hD) (zr_c (rU650_ok hD) (zr_c (rU651_ok hD) (zr_c (rU652_ok hD) (zr_c (rU653_ok hD) (zr_c (rU654_ok hD) (zr_c (rU655_ok hD) (zr_c (rU656_ok hD) (zr_c (rU657_ok hD) (zr_c (rU658_ok hD) (zr_c (rU660_ok hD) (zr_c (rU661_ok hD) (zr_c (rU662_ok hD) (zr_c (rU663_ok hD) (zr_c (rU664_ok hD) (zr_c (rU665_ok hD) (zr_c (rU666_ok hD) (zr_c (rU667_ok hD) (zr_c (rU668_ok hD) (zr_c (rU669_ok hD) (zr_c (rU670_ok hD) (zr_c (rU603_ok hD) (zr_c (rU604_ok hD) (zr_c (rU605_ok hD) (zr_c (rU606_ok hD) (zr_c (rU607_ok hD) (zr_c (rU608_ok hD) (zr_c (rU609_ok hD) (zr_c (rU610_ok hD) (zr_c (rU611_ok hD) (zr_c (rU612_ok hD) (zr_c (rU613_ok hD) (zr_c (rU614_ok hD) (zr_c (rU680_ok hD) (zr_c (rU681_ok hD) (zr_c (rU682_ok hD) (zr_c (rU683_ok hD) (zr_c (rU690_ok hD) (zr_c (rU691_ok hD) (zr_c (rU692_ok hD) (zr_c (rU693_ok hD) (zr_c (rU700_ok hD) (zr_c (rU701_ok hD) (zr_c (rU702_ok hD) (zr_c (rU703_ok hD) (zr_c (rU704_ok hD) (zr_c (rU705_ok hD) (zr_c (rU706_ok hD) (zr_c (rU707_ok hD) (zr_c (rU710_ok hD) (zr_c (rU711_ok hD) (zr_c (rU712_ok hD) (zr_c (rU713_ok hD) (zr_c (rU714_ok hD) (zr_c (rU715_ok hD) (zr_c (rU716_ok hD) (zr_c (rU717_ok hD) (zr_c (rU718_ok hD) (zr_c (rU719_ok hD) (zr_c (rU720_ok hD) (zr_c (rU721_ok hD) (zr_c (rU722_ok hD) (zr_c (rU723_ok hD) (zr_c (rU730_ok hD) (zr_c (rU731_ok hD) (zr_c (rU754_ok hD) (zr_c (rU750_ok hD) (zr_c (rU755_ok hD) (zr_c (rU752_ok hD) (zr_c (rU753_ok hD) (zr_c (rU435_ok hD) (zr_c (rU733_ok hD) (zr_c (rU734_ok hD) (zr_c (rU735_ok hD) (zr_c (rU736_ok hD) (zr_c (rU737_ok hD) (zr_c (rU738_ok hD) (zr_c (rU740_ok hD) (zr_c (rU741_ok hD) (zr_c (rU742_ok hD) (zr_c (rU743_ok hD) (zr_c (rU744_ok hD) (zr_c (rU760_ok hD) (zr_c (rU761_ok hD) (zr_c (rU762_ok hD) (zr_c (rU763_ok hD) (zr_c (rU764_ok hD) (zr_c (rU765_ok hD) (zr_c (rU766_ok hD) (zr_c (rU767_ok hD) (zr_c (rU768_ok hD) (zr_c (rU769_ok hD) (zr_c (rU770_ok hD) (zr_c (rU771_ok hD) (zr_c (rU772_ok hD) (zr_c (rU773_ok hD) (zr_c (rU774_ok hD) (zr_c (rU775_ok hD) (zr_c (rU776_ok hD) (zr_c (rU777_ok hD) (zr_c (rU778_ok hD) (zr_c (rU780_ok hD) (zr_c (rU781_ok hD) (zr_c (rU782_ok hD) (zr_c (rU783_ok hD) (zr_c (rU784_ok hD) (zr_c (rU785_ok hD) (zr_c (rU786_ok hD) (zr_c (rU787_ok hD) (zr_c (rU788_ok hD) (zr_c (rU789_ok hD) (zr_c (rU790_ok hD) (zr_c (rU791_ok hD) (zr_c (rU792_ok hD) (zr_c (rU793_ok hD) (zr_c (rU794_ok hD) (zr_c (rU795_ok hD) (zr_c (rU796_ok hD) (zr_c (rU797_ok hD) (zr_c (rU799_ok hD) (zr_c (rU800_ok hD) (zr_c (rU801_ok hD) (zr_c (rU802_ok hD) (zr_c (rU803_ok hD) (zr_c (rU804_ok hD) (zr_c (rU805_ok hD) (zr_c (rU806_ok hD) (zr_c (rU810_ok hD) (zr_c (rU811_ok hD) (zr_c (rU812_ok hD) (zr_c (rU813_ok hD) (zr_c (rU814_ok hD) (zr_c (rU815_ok hD) (zr_c (rU816_ok hD) (zr_c (rU817_ok hD) (zr_c (rU818_ok hD) (zr_c (rU819_ok hD) (zr_c (rU820_ok hD) (zr_c (rU822_ok hD) (zr_c (rU821_ok hD) (zr_c (rU823_ok hD) (zr_c (rU824_ok hD) (zr_c (rU825_ok hD) (zr_c (rU826_ok hD) (zr_c (rU827_ok hD) (zr_c (rU828_ok hD) (zr_c (rU829_ok hD) (zr_c (rU830_ok hD) (zr_c (rU831_ok hD) (zr_c (rU832_ok hD) (zr_c (rU833_ok hD) (zr_c (rU834_ok hD) (zr_c (rU835_ok hD) (zr_c (rU836_ok hD) (zr_c (rU837_ok hD) (zr_c (rU838_ok hD) (zr_c (rU839_ok hD) (zr_c (rU840_ok hD) (zr_c (rU841_ok hD) (zr_c (rU844_ok hD) (zr_c (rU845_ok hD) (zr_c (rU846_ok hD) (zr_c (rU847_ok hD) (zr_c (rU848_ok hD) (zr_c (rU849_ok hD) (zr_c (rU850_ok hD) (zr_c (rU851_ok hD) (zr_c (rU852_ok hD) (zr_c (rU853_ok hD) (zr_c (rU854_ok hD) (zr_c (rU855_ok hD) (zr_c (rU856_ok hD) (zr_c (rU857_ok hD) (zr_c (rU858_ok hD) (zr_c (rU860_ok hD) (zr_c (rU861_ok hD) (zr_c (rU863_ok hD) (zr_c (rU864_ok hD) (zr_c (rU888_ok hD) (zr_c (rU890_ok hD) (zr_c (rU865_ok hD) (zr_c (rU866_ok hD) (zr_c (rU867_ok hD) (zr_c (rU915_ok hD) (zr_c (rU869_ok hD) (zr_c (rU918_ok hD) (zr_c (rU868_ok hD) (zr_c (rU917_ok hD) (zr_c (rU870_ok hD) (zr_c (rU871_ok hD) (zr_c (rU872_ok hD) (zr_c (rU873_ok hD) (zr_c (rU874_ok hD) (zr_c (rU875_ok hD) (zr_c (rU876_ok hD) (zr_c (rU877_ok hD) (zr_c (rU878_ok hD) (zr_c (rU879_ok hD) (zr_c (rU880_ok hD) (zr_c (rU881_ok hD) (zr_c (rU882_ok hD) (zr_c (rU883_ok hD) (zr_c (rU884_ok hD) (zr_c (rU885_ok hD) (zr_c (rU886_ok hD) (zr_c (rU887_ok hD) (zr_c (rU892_ok hD) (zr_c (rU893_ok hD) (zr_c (rU894_ok hD) (zr_c (rU895_ok hD) (zr_c (rU897_ok hD) (zr_c (rU898_ok hD) (zr_c (rU900_ok hD) (zr_c (rU901_ok hD) (zr_c (rU902_ok hD) (zr_c (rU904_ok hD) (zr_c (rU907_ok hD) (zr_c (rU908_ok hD) (zr_c (rU909_ok hD) (zr_c (rU910_ok hD) (zr_c (rU911_ok hD) (zr_c (rU912_ok hD) (zr_c (rU913_ok hD) (zr_c (rU914_ok hD) (zr_c (rU916_ok hD) (zr_c (rU919_ok hD) (zr_c (rU920_ok hD) (zr_c (rU921_ok hD) (zr_c (rU922_ok hD) (zr_c (rU923_ok hD) (zr_c (rU924_ok hD) (zr_c (rU925_ok hD) (zr_c (rU926_ok hD) (zr_c (rU927_ok hD) (zr_c (rU928_ok hD) (zr_c (rU930_ok hD) (zr_c (rU931_ok hD) (zr_c (rU932_ok hD) (zr_c (rU933_ok hD) (zr_c (rU934_ok hD) (zr_c (rU935_ok hD) (zr_c (rU938_ok hD) (zr_c (rU937_ok hD) (zr_c (rU939_ok hD) (zr_c (rU940_ok hD) (zr_c (rU941_ok hD) (zr_c (rU936_ok hD) (zr_c (rU943_ok hD) (zr_c (rU944_ok hD) (zr_c (rU945_ok hD) (zr_c (rU946_ok hD) (zr_c (rU947_ok hD) (zr_c (rU948_ok hD) (zr_c (rU950_ok hD) (zr_c (rU951_ok hD) (zr_c (rU952_ok hD) (zr_c (rU953_ok hD) (zr_c (rU955_ok hD) (zr_c (rU956_ok hD) (zr_c (rU957_ok hD) (zr_c (rU954_ok hD) (zr_c (rU958_ok hD) (zr_c (rU959_ok hD) (zr_c (rU960_ok hD) (zr_c (rU961_ok hD) (zr_c (rU962_ok hD) (zr_c (rU964_ok hD) (zr_c (rU965_ok hD) (zr_c (rU966_ok hD) (zr_c (rU967_ok hD) (zr_c (rU968_ok hD) (zr_c (rU969_ok hD) (zr_c (rU970_ok hD) (zr_c (rU971_ok hD) (zr_c (rU949_ok hD) (zr_c (rU999_ok hD) (zr_c (rU980_ok hD) (zr_c (rU981_ok hD) (zr_c (rU982_ok hD) (zr_c (rU983_ok hD) (zr_c (rU984_ok hD) (zr_c (rU985_ok hD) (zr_c (rU986_ok hD) (zr_c (rU987_ok hD) (zr_c (rU988_ok hD) (zr_c (rU989_ok hD) (zr_c (rU990_ok hD) (zr_c (rU991_ok hD) (zr_c (rU992_ok hD) (zr_c (rU993_ok hD) (zr_c (rU994_ok hD) (zr_c (rU995_ok hD) (zr_c (rU996_ok hD) (zr_c (rU997_ok hD) (zr_c (rU998_ok hD) (zr_c (rU972_ok hD) (zr_c (rU973_ok hD) (zr_c (rU974_ok hD) (zr_c (rU975_ok hD) (zr_c (rU963_ok hD) (zr_c (rU862_ok hD) (zr_c (rU843_ok hD) (zr_c (rU859_ok hD) (zr_c (rU842_ok hD) (zr_c (rU808_ok hD) (zr_c (rU798_ok hD) (zr_c (rU350_ok hD) (zr_c (rU351_ok hD) (zr_c (rU352_ok hD) (zr_c (rU353_ok hD) (zr_c (rU354_ok hD) (zr_c (rU355_ok hD) (zr_c (rU359_ok hD) (zr_c (rU356_ok hD) (zr_c (rU360_ok hD) (zr_c (rU357_ok hD) (zr_c (rU363_ok hD) (zr_c (rU364_ok hD) (zr_c (rU365_ok hD) (zr_c (rU366_ok hD) (zr_c (rU367_ok hD) (zr_c (rU368_ok hD) (zr_c (rU369_ok hD) (zr_c (rU370_ok hD) (zr_c (rU371_ok hD) (zr_c (rU372_ok hD) (zr_c (rU373_ok hD) (zr_c (rU374_ok hD) (zr_c (rU375_ok hD) (zr_c (rU376_ok hD) (zr_c (rU377_ok hD) (zr_c (rU378_ok hD) (zr_c (rU381_ok hD) (zr_c (rU379_ok hD) (zr_c (rU382_ok hD) (zr_c (rU380_ok hD) (zr_c (rU383_ok hD) (zr_c (rU2000_ok hD) (zr_c (rU2001_ok hD) (zr_c (rU2002_ok hD) (zr_c (rU2003_ok hD) (zr_c (rU2004_ok hD) (zr_c (rU2005_ok hD) (zr_c (rU2010_ok hD) (zr_c (rU2013_ok hD) (zr_c (rU2016_ok hD) (zr_c (rU2020_ok hD) (zr_c (rU2023_ok hD) (zr_c (rU2030_ok hD) (zr_c (rU2031_ok hD) (zr_c (rU2032_ok hD) (zr_c (rU2011_ok hD) (zr_c (rU2014_ok hD) (zr_c (rU2017_ok hD) (zr_c (rU2021_ok hD) (zr_c (rU2024_ok hD) (zr_c (rU2033_ok hD) (zr_c (rU2012_ok hD) (zr_c (rU2015_ok hD) (zr_c (rU2018_ok hD) (zr_c (rU2022_ok hD) (zr_c (rU2025_ok hD) (zr_c (rU2034_ok hD) (zr_c (rU2070_ok hD) (zr_c (rU2071_ok hD) (zr_c (rU2073_ok hD) (zr_c (rU2074_ok hD) (zr_c (rU2075_ok hD) (zr_c (rU2076_ok hD) (zr_c (rU2077_ok hD) (zr_c (rU2078_ok hD) (zr_c (rU2080_ok hD) (zr_c (rU2079_ok hD) (zr_c (rU2081_ok hD) (zr_c (rU2082_ok hD) (zr_c (rU2083_ok hD) (zr_c (rU2084_ok hD) (zr_c (rU2085_ok hD) (zr_c (rU2086_ok hD) (zr_c (rU2088_ok hD) (zr_c (rU2087_ok hD) (zr_c (rU2089_ok hD) (zr_c (rU2092_ok hD) (zr_c (rU2093_ok hD) (zr_c (rU2094_ok hD) (zr_c (rU2095_ok hD) (zr_c (rU2096_ok hD) (zr_c (rU2097_ok hD) (zr_c (rU2098_ok hD) (zr_c (rU2099_ok hD) (zr_c (rU2100_ok hD) (zr_c (rU2101_ok hD) ((fun _ h => (by cases h))))))))))))))))))))))))))))))))))))))))))))))))))))))))))))))))))))))))))))))))))))))))))))))))))))))))))))))))))))))))))))))))))))))))))))))))))))))))))))))))))))))))))))))))))))))))))))))))))))))))))))))))))))))))))))))))))))))))))))))))))))))))))))))))))))))))))))))))))))))))))))))))))))))))))))))))))))))))))))))))))))))))))))))))))))))))))))))))))))))))))))))))))))))))))))))))))))))))))))))))))))))))))))))))))))))))))))))))))))))))))))))))))))))))))))))))))))))))))))))))))))))))))))))))))))))))))))))))))))))))))))))))))))))))))))))))))))))))))))))))))))))))))))))))))))))))))))))))))))))))))))))))))))))
end
/-- what the facts hang on -/
def zPF : Nat → List (Nat × Nat) := fun j => if Nat.beq j 100 then [(33, 1), (33, 3)] else if Nat.beq j 101 then [(33, 1), (33, 3)] else if Nat.beq j 108 then [(43, 60)] else if Nat.beq j 110 then [(43, 60), (43, 61)] else if Nat.beq j 111 then [(43, 67)] else if Nat.beq j 114 then [(43, 67)] else if Nat.beq j 115 then [(43, 60)] else if Nat.beq j 116 then [(43, 60)] else if Nat.beq j 117 then [(43, 67)] else if Nat.beq j 118 then [(43, 67)] else if Nat.beq j 119 then [(43, 67), (43, 60)] else if Nat.beq j 150 then [(37, 3), (37, 10)] else if Nat.beq j 151 then [(37, 3), (37, 10)] else if Nat.beq j 152 then [(37, 3), (37, 10)] else if Nat.beq j 153 then [(37, 3), (37, 10)] else if Nat.beq j 154 then [(37, 3), (37, 10)] else if Nat.beq j 331 then [(122, 0), (122, 1), (122, 2), (122, 3), (122, 4)] else if Nat.beq j 332 then [(123, 0), (123, 1), (123, 2), (123, 3), (123, 4)] else if Nat.beq j 333 then [(122, 0), (122, 2), (122, 3), (122, 4)] else if Nat.beq j 334 then [(123, 0), (123, 2), (123, 3), (123, 4)] else if Nat.beq j 343 then [(33, 6)] else if Nat.beq j 351 then [(43, 10), (43, 7)] else if Nat.beq j 358 then [(43, 10)] else if Nat.beq j 362 then [(43, 10)] else if Nat.beq j 398 then [(32, 2), (32, 3)] else if Nat.beq j 430 then [(31, 0), (31, 1), (31, 2), (31, 3), (31, 4)] else if Nat.beq j 431 then [(31, 0), (31, 1), (31, 2), (31, 3), (31, 4)] else if Nat.beq j 433 then [(31, 0), (31, 1), (31, 2), (31, 3), (31, 4)] else if Nat.beq j 434 then [(31, 0), (31, 1), (31, 2), (31, 3), (31, 4)] else if Nat.beq j 435 then [(31, 0), (31, 1), (31, 2), (31, 3), (31, 4)] else if Nat.beq j 459 then [(31, 0), (31, 1), (31, 2), (31, 3), (31, 4)] else if Nat.beq j 460 then [(31, 0), (31, 1), (31, 2)] else if Nat.beq j 461 then [(31, 0), (31, 1), (31, 2)] else if Nat.beq j 462 then [(31, 0), (31, 1), (31, 2)] else if Nat.beq j 463 then [(31, 0), (31, 1), (31, 2), (31, 3), (31, 4)] else if Nat.beq j 465 then [(31, 0), (31, 1), (31, 2)] else if Nat.beq j 470 then [(31, 5), (31, 6)] else if Nat.beq j 471 then [(31, 5), (31, 6)] else if Nat.beq j 472 then [(31, 5), (31, 6)] else if Nat.beq j 473 then [(31, 5), (31, 6)] else if Nat.beq j 474 then [(31, 0), (31, 1), (31, 2), (31, 5), (31, 6)] else if Nat.beq j 477 then [(31, 0), (31, 1), (31, 2)] else if Nat.beq j 479 then [(31, 0), (31, 1), (31, 2)] else if Nat.beq j 481 then [(31, 0), (31, 1), (31, 2), (31, 5), (31, 6)] else []
def zPB_0 : Nat → List Nat := fun j => if Nat.beq j 100 then [53, 55] else if Nat.beq j 101 then [53, 55] else if Nat.beq j 102 then [84, 86, 88] else if Nat.beq j 103 then [84, 86, 88] else if Nat.beq j 104 then [86, 88] else if Nat.beq j 110 then [77, 79, 114, 115, 116, 118] else if Nat.beq j 111 then [77, 79, 114, 115, 116, 118, 119] else if Nat.beq j 112 then [79, 119] else if Nat.beq j 113 then [119] else if Nat.beq j 114 then [77, 79, 114, 115, 116, 118, 119] else if Nat.beq j 115 then [77, 79, 114, 115, 116, 118] else if Nat.beq j 116 then [77, 79, 114, 115, 116, 118] else if Nat.beq j 117 then [119] else if Nat.beq j 118 then [119] else if Nat.beq j 119 then [77, 79, 114, 115, 116, 118, 119] else if Nat.beq j 120 then [105, 106] else if Nat.beq j 121 then [105, 106] else if Nat.beq j 122 then [105, 106] else if Nat.beq j 123 then [105, 106] else if Nat.beq j 124 then [105, 106] else if Nat.beq j 132 then [111, 112] else if Nat.beq j 133 then [111, 112] else if Nat.beq j 134 then [105, 111] else if Nat.beq j 135 then [105, 111] else if Nat.beq j 136 then [111, 112] else if Nat.beq j 137 then [111, 112] else if Nat.beq j 138 then [111, 112] else if Nat.beq j 139 then [111, 112] else if Nat.beq j 150 then [63] else if Nat.beq j 151 then [63] else if Nat.beq j 152 then [63] else if Nat.beq j 153 then [63] else if Nat.beq j 154 then [63] else if Nat.beq j 331 then [124] else if Nat.beq j 332 then [125] else if Nat.beq j 333 then [124] else if Nat.beq j 334 then [125] else if Nat.beq j 340 then [44, 73] else if Nat.beq j 341 then [44, 73] else if Nat.beq j 342 then [44, 73] else if Nat.beq j 345 then [44, 73] else if Nat.beq j 346 then [44, 73] else if Nat.beq j 347 then [44, 73] else if Nat.beq j 348 then [44, 73] else if Nat.beq j 349 then [44, 73] else if Nat.beq j 350 then [44, 73] else if Nat.beq j 351 then [44, 73] else if Nat.beq j 352 then [44, 73] else if Nat.beq j 353 then [44, 73] else if Nat.beq j 354 then [44, 73] else []
def zPB_1 : Nat → List Nat := fun j => if Nat.beq j 355 then [44, 73] else if Nat.beq j 356 then [44, 73] else if Nat.beq j 357 then [44, 73] else if Nat.beq j 370 then [44, 56, 57, 73, 90, 91] else if Nat.beq j 371 then [44, 56, 57, 73, 90, 91] else if Nat.beq j 372 then [44, 56, 57, 73, 90, 91] else if Nat.beq j 373 then [44, 73] else if Nat.beq j 374 then [44, 73] else if Nat.beq j 375 then [56, 90] else if Nat.beq j 376 then [57, 91] else if Nat.beq j 377 then [56, 57, 90, 91] else if Nat.beq j 378 then [44, 73] else if Nat.beq j 379 then [44, 56, 57, 73, 90, 91] else if Nat.beq j 380 then [44, 45, 46, 73] else if Nat.beq j 382 then [44, 45, 46, 73] else if Nat.beq j 383 then [44, 45, 46, 73] else if Nat.beq j 384 then [44, 73] else if Nat.beq j 386 then [44, 73] else if Nat.beq j 387 then [44, 73, 74] else if Nat.beq j 388 then [44, 73, 74] else if Nat.beq j 389 then [44, 73, 74] else if Nat.beq j 390 then [45, 74] else if Nat.beq j 391 then [45] else if Nat.beq j 392 then [46] else if Nat.beq j 393 then [46] else if Nat.beq j 394 then [74] else if Nat.beq j 395 then [74] else if Nat.beq j 396 then [74] else if Nat.beq j 397 then [46] else if Nat.beq j 400 then [45] else if Nat.beq j 401 then [45] else if Nat.beq j 402 then [74] else if Nat.beq j 403 then [74] else if Nat.beq j 404 then [44, 45, 73] else if Nat.beq j 405 then [44, 73, 74] else if Nat.beq j 408 then [45] else if Nat.beq j 409 then [74] else if Nat.beq j 410 then [44, 73] else if Nat.beq j 411 then [44, 73] else if Nat.beq j 412 then [44, 73] else if Nat.beq j 430 then [44, 45, 47, 48, 49, 50, 51, 73] else if Nat.beq j 431 then [44, 45, 47, 48, 49, 50, 51, 73] else if Nat.beq j 432 then [44, 45, 73] else if Nat.beq j 433 then [47, 48, 49, 50, 51] else if Nat.beq j 434 then [47, 48, 49, 50, 51] else if Nat.beq j 435 then [47, 48, 49, 50, 51] else if Nat.beq j 440 then [44, 73, 74, 78, 79, 80] else if Nat.beq j 441 then [44, 73, 74, 78, 79, 80] else if Nat.beq j 442 then [44, 73, 74] else if Nat.beq j 444 then [79] else []
def zPB_2 : Nat → List Nat := fun j => if Nat.beq j 445 then [79] else if Nat.beq j 450 then [44, 45, 73] else if Nat.beq j 451 then [44, 73, 74] else if Nat.beq j 460 then [47, 48, 49, 78, 79, 80] else if Nat.beq j 461 then [47, 48, 49, 78, 79, 80] else if Nat.beq j 462 then [47, 48, 49, 78, 79, 80] else if Nat.beq j 465 then [44, 45, 47, 48, 49, 73] else if Nat.beq j 466 then [78] else if Nat.beq j 467 then [79] else if Nat.beq j 468 then [80] else if Nat.beq j 469 then [44, 73, 74, 78, 79, 80] else if Nat.beq j 474 then [47, 48, 49] else if Nat.beq j 475 then [79] else if Nat.beq j 477 then [47, 48, 49] else if Nat.beq j 478 then [78, 79] else if Nat.beq j 479 then [47, 48, 49, 71] else if Nat.beq j 480 then [71] else if Nat.beq j 481 then [47, 48, 49] else if Nat.beq j 482 then [79] else if Nat.beq j 483 then [79] else if Nat.beq j 484 then [79] else []
def zPB : Nat → List Nat := fun j => if Nat.beq j 0 then [0, 1, 2, 3, 4, 5, 6, 7, 8, 9, 10, 11, 12, 13, 14, 15, 16, 17, 18, 19, 20, 21, 22, 23, 24, 25, 26, 27, 28, 29] else if Nat.ble j 354 then zPB_0 j else if Nat.ble j 444 then zPB_1 j else zPB_2 j
def zPF1 : Nat → List (Nat × Nat) := fun _ => []
def zPB1 : Nat → List Nat := fun j => if Nat.beq j 0 then [0, 1, 2, 3, 4, 5, 6, 7, 8, 9, 10, 11, 12, 13, 14, 15, 16, 17, 18, 19, 20, 21, 22, 23, 24, 25, 26, 27, 28, 29] else []
section
variable {D : zD} {ua : Nat → Nat} {ty ty' : Nat → Nat} {H H' : Heap} {j : Nat}
theorem zst_ar (hTT : D.TT = zTT) (hz : zty ua ty) (hst : zk_st D (zPF j) (zPB j) ty H ty' H') {q : Nat × Nat} (hq : q ∈ zUt) (h1 : q.2 ∈ zPB j) (h2 : (zTT q.2).1 ≠ 0) (k : Nat) : zi H' (ua q.1) k = zi H (ua q.1) k := by
  have := hst.2.1 _ _ (hz q hq) (by rw [hTT]; exact h2) h1
  unfold zi
  rw [this]
theorem zst_fd (hTT : D.TT = zTT) (hz : zty ua ty) (hst : zk_st D (zPF j) (zPB j) ty H ty' H') (hT : zk_T D ty H) (hT' : zk_T D ty' H') {q : Nat × Nat} (hq : q ∈ zUt) {k : Nat} (h1 : (q.2, k) ∈ zPF j) (h2 : (zTT q.2).1 = 0) (h3 : k < (zTT q.2).2.2.length) {c : Nat} (h4 : (zTT q.2).2.1 = c) : zi H' (ua q.1) (D.dI c k) = zi H (ua q.1) (D.dI c k) := by
  subst h4
  have a1 := zk_T_lt hT (a := ua q.1) (by rw [hz q hq]; omega)
  have a2 := zk_T_lt hT' (a := ua q.1) (by rw [hst.1 _ _ (hz q hq)]; omega)
  have e0 : H[ua q.1]? = some H[ua q.1] := Array.getElem?_eq_getElem a1
  have e1 : H'[ua q.1]? = some H'[ua q.1] := Array.getElem?_eq_getElem a2
  have := hst.2.2 _ _ (hz q hq) (by rw [hTT]; exact h2) k (by rw [hTT]; exact h3) h1 _ _ e0 e1
  rw [hTT] at this
  unfold zi
  rw [e0, e1]
  dsimp only
  rw [this]
end
section
variable {D : zD} {ty ty' : Nat → Nat} {H H' : Heap} {j : Nat}
theorem zst_w (hTT : D.TT = zTT) (hst : zk_st D (zPF j) (zPB j) ty H ty' H') (hT : zk_T D ty H) (hT' : zk_T D ty' H') {x : Int} (hx : zyw ty x) (h1 : (33, 6) ∈ zPF j) : zyw ty' x ∧ zi H' x.toNat (D.dI 10 6) = zi H x.toNat (D.dI 10 6) := by
  obtain ⟨x0, hx⟩ := hx
  have hy := hst.1 _ _ hx
  have a1 := zk_T_lt hT (a := x.toNat) (by rw [hx]; omega)
  have a2 := zk_T_lt hT' (a := x.toNat) (by rw [hy]; omega)
  have e0 : H[x.toNat]? = some H[x.toNat] := Array.getElem?_eq_getElem a1
  have e1 : H'[x.toNat]? = some H'[x.toNat] := Array.getElem?_eq_getElem a2
  have this := hst.2.2 _ _ hx (by rw [hTT]; decide) 6 (by rw [hTT]; decide) h1 _ _ e0 e1
  rw [hTT] at this
  have this : H'[x.toNat].slots[D.dI 10 6]? = H[x.toNat].slots[D.dI 10 6]? := this
  refine ⟨⟨x0, hy⟩, ?_⟩
  unfold zi
  rw [e0, e1]
  dsimp only
  rw [this]
theorem zst_N (hTT : D.TT = zTT) (hst : zk_st D (zPF j) (zPB j) ty H ty' H') (hT : zk_T D ty H) (hT' : zk_T D ty' H') {x : Int} (hx : zyN ty D.dI (zi H) x) (m0 : (31, 0) ∈ zPF j) (m1 : (31, 1) ∈ zPF j) (m2 : (31, 2) ∈ zPF j) (m3 : (31, 3) ∈ zPF j) (m4 : (31, 4) ∈ zPF j) (b0 : 47 ∈ zPB j) (b1 : 48 ∈ zPB j) (b2 : 49 ∈ zPB j) (b3 : 50 ∈ zPB j) (b4 : 51 ∈ zPB j) : zyN ty' D.dI (zi H') x ∧ zi H' x.toNat (D.dI 4 0) = zi H x.toNat (D.dI 4 0) ∧ zi H' x.toNat (D.dI 4 1) = zi H x.toNat (D.dI 4 1) ∧ zi H' x.toNat (D.dI 4 2) = zi H x.toNat (D.dI 4 2) ∧ zi H' x.toNat (D.dI 4 3) = zi H x.toNat (D.dI 4 3) ∧ zi H' x.toNat (D.dI 4 4) = zi H x.toNat (D.dI 4 4) ∧ zi H' (zi H x.toNat (D.dI 4 0)).toNat = zi H (zi H x.toNat (D.dI 4 0)).toNat ∧ zi H' (zi H x.toNat (D.dI 4 1)).toNat = zi H (zi H x.toNat (D.dI 4 1)).toNat ∧ zi H' (zi H x.toNat (D.dI 4 2)).toNat = zi H (zi H x.toNat (D.dI 4 2)).toNat ∧ zi H' (zi H x.toNat (D.dI 4 3)).toNat = zi H (zi H x.toNat (D.dI 4 3)).toNat ∧ zi H' (zi H x.toNat (D.dI 4 4)).toNat = zi H (zi H x.toNat (D.dI 4 4)).toNat := by
  obtain ⟨x0, hx, r0, r1, r2, r3, r4⟩ := hx
  have hy := hst.1 _ _ hx
  have a1 := zk_T_lt hT (a := x.toNat) (by rw [hx]; omega)
  have a2 := zk_T_lt hT' (a := x.toNat) (by rw [hy]; omega)
  have e0 : H[x.toNat]? = some H[x.toNat] := Array.getElem?_eq_getElem a1
  have e1 : H'[x.toNat]? = some H'[x.toNat] := Array.getElem?_eq_getElem a2
  have kf : ∀ k, k < 5 → (31, k) ∈ zPF j → zi H' x.toNat (D.dI 4 k) = zi H x.toNat (D.dI 4 k) := by
    intro k hk hm
    have t1 := hst.2.2 _ _ hx (by rw [hTT]; decide) k (by rw [hTT]; exact Nat.lt_of_lt_of_le hk (by decide)) hm _ _ e0 e1
    rw [hTT] at t1
    have t1 : H'[x.toNat].slots[D.dI 4 k]? = H[x.toNat].slots[D.dI 4 k]? := t1
    unfold zi
    rw [e0, e1]
    dsimp only
    rw [t1]
  have ka : ∀ (t : Nat) (v : Nat), ty v = t + 1 → t ∈ zPB j → (zTT t).1 ≠ 0 → ty' v = t + 1 ∧ zi H' v = zi H v := by
    intro t v e1 e2 e3
    have e4 := hst.2.1 _ _ e1 (by rw [hTT]; exact e3) e2
    refine ⟨hst.1 _ _ e1, funext fun k => ?_⟩
    unfold zi
    rw [e4]
  have f0 := kf 0 (by decide) m0
  obtain ⟨g0, h0⟩ := ka 47 _ r0 b0 (by decide)
  have f1 := kf 1 (by decide) m1
  obtain ⟨g1, h1⟩ := ka 48 _ r1 b1 (by decide)
  have f2 := kf 2 (by decide) m2
  obtain ⟨g2, h2⟩ := ka 49 _ r2 b2 (by decide)
  have f3 := kf 3 (by decide) m3
  obtain ⟨g3, h3⟩ := ka 50 _ r3 b3 (by decide)
  have f4 := kf 4 (by decide) m4
  obtain ⟨g4, h4⟩ := ka 51 _ r4 b4 (by decide)
  refine ⟨⟨x0, hy, ?_, ?_, ?_, ?_, ?_⟩, f0, f1, f2, f3, f4, h0, h1, h2, h3, h4⟩
  · rw [f0]
    exact g0
  · rw [f1]
    exact g1
  · rw [f2]
    exact g2
  · rw [f3]
    exact g3
  · rw [f4]
    exact g4
theorem zst_L (hTT : D.TT = zTT) (hst : zk_st D (zPF j) (zPB j) ty H ty' H') (hT : zk_T D ty H) (hT' : zk_T D ty' H') {x : Int} (hx : zyL ty D.dI (zi H) x) (m0 : (31, 0) ∈ zPF j) (m1 : (31, 1) ∈ zPF j) (m2 : (31, 2) ∈ zPF j) (b0 : 47 ∈ zPB j) (b1 : 48 ∈ zPB j) (b2 : 49 ∈ zPB j) : zyL ty' D.dI (zi H') x ∧ zi H' x.toNat (D.dI 4 0) = zi H x.toNat (D.dI 4 0) ∧ zi H' x.toNat (D.dI 4 1) = zi H x.toNat (D.dI 4 1) ∧ zi H' x.toNat (D.dI 4 2) = zi H x.toNat (D.dI 4 2) ∧ zi H' (zi H x.toNat (D.dI 4 0)).toNat = zi H (zi H x.toNat (D.dI 4 0)).toNat ∧ zi H' (zi H x.toNat (D.dI 4 1)).toNat = zi H (zi H x.toNat (D.dI 4 1)).toNat ∧ zi H' (zi H x.toNat (D.dI 4 2)).toNat = zi H (zi H x.toNat (D.dI 4 2)).toNat := by
  obtain ⟨x0, hx, r0, r1, r2⟩ := hx
  have hy := hst.1 _ _ hx
  have a1 := zk_T_lt hT (a := x.toNat) (by rw [hx]; omega)
  have a2 := zk_T_lt hT' (a := x.toNat) (by rw [hy]; omega)
  have e0 : H[x.toNat]? = some H[x.toNat] := Array.getElem?_eq_getElem a1
  have e1 : H'[x.toNat]? = some H'[x.toNat] := Array.getElem?_eq_getElem a2
  have kf : ∀ k, k < 7 → (31, k) ∈ zPF j → zi H' x.toNat (D.dI 4 k) = zi H x.toNat (D.dI 4 k) := by
    intro k hk hm
    have t1 := hst.2.2 _ _ hx (by rw [hTT]; decide) k (by rw [hTT]; exact Nat.lt_of_lt_of_le hk (by decide)) hm _ _ e0 e1
    rw [hTT] at t1
    have t1 : H'[x.toNat].slots[D.dI 4 k]? = H[x.toNat].slots[D.dI 4 k]? := t1
    unfold zi
    rw [e0, e1]
    dsimp only
    rw [t1]
  have ka : ∀ (t : Nat) (v : Nat), ty v = t + 1 → t ∈ zPB j → (zTT t).1 ≠ 0 → ty' v = t + 1 ∧ zi H' v = zi H v := by
    intro t v e1 e2 e3
    have e4 := hst.2.1 _ _ e1 (by rw [hTT]; exact e3) e2
    refine ⟨hst.1 _ _ e1, funext fun k => ?_⟩
    unfold zi
    rw [e4]
  have f0 := kf 0 (by decide) m0
  have f1 := kf 1 (by decide) m1
  have f2 := kf 2 (by decide) m2
  obtain ⟨g0, h0⟩ := ka 47 _ r0 b0 (by decide)
  obtain ⟨g1, h1⟩ := ka 48 _ r1 b1 (by decide)
  obtain ⟨g2, h2⟩ := ka 49 _ r2 b2 (by decide)
  exact ⟨⟨x0, hy, by rw [f0]; exact g0, by rw [f1]; exact g1, by rw [f2]; exact g2⟩, f0, f1, f2, h0, h1, h2⟩
theorem zst_D (hTT : D.TT = zTT) (hst : zk_st D (zPF j) (zPB j) ty H ty' H') (hT : zk_T D ty H) (hT' : zk_T D ty' H') {x : Int} (hx : zyD ty x) (m0 : (31, 0) ∈ zPF j) (m1 : (31, 1) ∈ zPF j) (m2 : (31, 2) ∈ zPF j) (m3 : (31, 3) ∈ zPF j) (m4 : (31, 4) ∈ zPF j)  : zyD ty' x ∧ zi H' x.toNat (D.dI 4 0) = zi H x.toNat (D.dI 4 0) ∧ zi H' x.toNat (D.dI 4 1) = zi H x.toNat (D.dI 4 1) ∧ zi H' x.toNat (D.dI 4 2) = zi H x.toNat (D.dI 4 2) ∧ zi H' x.toNat (D.dI 4 3) = zi H x.toNat (D.dI 4 3) ∧ zi H' x.toNat (D.dI 4 4) = zi H x.toNat (D.dI 4 4) := by
  obtain ⟨x0, hx⟩ := hx
  have hy := hst.1 _ _ hx
  have a1 := zk_T_lt hT (a := x.toNat) (by rw [hx]; omega)
  have a2 := zk_T_lt hT' (a := x.toNat) (by rw [hy]; omega)
  have e0 : H[x.toNat]? = some H[x.toNat] := Array.getElem?_eq_getElem a1
  have e1 : H'[x.toNat]? = some H'[x.toNat] := Array.getElem?_eq_getElem a2
  have kf : ∀ k, k < 7 → (31, k) ∈ zPF j → zi H' x.toNat (D.dI 4 k) = zi H x.toNat (D.dI 4 k) := by
    intro k hk hm
    have t1 := hst.2.2 _ _ hx (by rw [hTT]; decide) k (by rw [hTT]; exact Nat.lt_of_lt_of_le hk (by decide)) hm _ _ e0 e1
    rw [hTT] at t1
    have t1 : H'[x.toNat].slots[D.dI 4 k]? = H[x.toNat].slots[D.dI 4 k]? := t1
    unfold zi
    rw [e0, e1]
    dsimp only
    rw [t1]
  have f0 := kf 0 (by decide) m0
  have f1 := kf 1 (by decide) m1
  have f2 := kf 2 (by decide) m2
  have f3 := kf 3 (by decide) m3
  have f4 := kf 4 (by decide) m4
  exact ⟨⟨x0, hy⟩, f0, f1, f2, f3, f4⟩
theorem zst_T (hTT : D.TT = zTT) (hst : zk_st D (zPF j) (zPB j) ty H ty' H') (hT : zk_T D ty H) (hT' : zk_T D ty' H') {x : Int} (hx : zyT ty x) (m5 : (31, 5) ∈ zPF j) (m6 : (31, 6) ∈ zPF j)  : zyT ty' x ∧ zi H' x.toNat (D.dI 4 5) = zi H x.toNat (D.dI 4 5) ∧ zi H' x.toNat (D.dI 4 6) = zi H x.toNat (D.dI 4 6) := by
  obtain ⟨x0, hx⟩ := hx
  have hy := hst.1 _ _ hx
  have a1 := zk_T_lt hT (a := x.toNat) (by rw [hx]; omega)
  have a2 := zk_T_lt hT' (a := x.toNat) (by rw [hy]; omega)
  have e0 : H[x.toNat]? = some H[x.toNat] := Array.getElem?_eq_getElem a1
  have e1 : H'[x.toNat]? = some H'[x.toNat] := Array.getElem?_eq_getElem a2
  have kf : ∀ k, k < 7 → (31, k) ∈ zPF j → zi H' x.toNat (D.dI 4 k) = zi H x.toNat (D.dI 4 k) := by
    intro k hk hm
    have t1 := hst.2.2 _ _ hx (by rw [hTT]; decide) k (by rw [hTT]; exact Nat.lt_of_lt_of_le hk (by decide)) hm _ _ e0 e1
    rw [hTT] at t1
    have t1 : H'[x.toNat].slots[D.dI 4 k]? = H[x.toNat].slots[D.dI 4 k]? := t1
    unfold zi
    rw [e0, e1]
    dsimp only
    rw [t1]
  have f5 := kf 5 (by decide) m5
  have f6 := kf 6 (by decide) m6
  exact ⟨⟨x0, hy⟩, f5, f6⟩
theorem zst_v (hTT : D.TT = zTT) (hst : zk_st D (zPF j) (zPB j) ty H ty' H') (hT : zk_T D ty H) (hT' : zk_T D ty' H') {x : Int} (hx : zyv ty x) (h1 : (32, 2) ∈ zPF j) (h2 : (32, 3) ∈ zPF j) : zyv ty' x ∧ zi H' x.toNat (D.dI 7 2) = zi H x.toNat (D.dI 7 2) ∧ zi H' x.toNat (D.dI 7 3) = zi H x.toNat (D.dI 7 3) := by
  obtain ⟨x0, hx⟩ := hx
  have hy := hst.1 _ _ hx
  have a1 := zk_T_lt hT (a := x.toNat) (by rw [hx]; omega)
  have a2 := zk_T_lt hT' (a := x.toNat) (by rw [hy]; omega)
  have e0 : H[x.toNat]? = some H[x.toNat] := Array.getElem?_eq_getElem a1
  have e1 : H'[x.toNat]? = some H'[x.toNat] := Array.getElem?_eq_getElem a2
  have t1 := hst.2.2 _ _ hx (by rw [hTT]; decide) 2 (by rw [hTT]; decide) h1 _ _ e0 e1
  have t2 := hst.2.2 _ _ hx (by rw [hTT]; decide) 3 (by rw [hTT]; decide) h2 _ _ e0 e1
  rw [hTT] at t1 t2
  have t1 : H'[x.toNat].slots[D.dI 7 2]? = H[x.toNat].slots[D.dI 7 2]? := t1
  have t2 : H'[x.toNat].slots[D.dI 7 3]? = H[x.toNat].slots[D.dI 7 3]? := t2
  refine ⟨⟨x0, hy⟩, ?_, ?_⟩
  · unfold zi
    rw [e0, e1]
    dsimp only
    rw [t1]
  · unfold zi
    rw [e0, e1]
    dsimp only
    rw [t2]
theorem zst_b (hTT : D.TT = zTT) (hst : zk_st D (zPF j) (zPB j) ty H ty' H') {x : Int} (hx : zyb ty x) (h1 : 44 ∈ zPB j) (h2 : 73 ∈ zPB j) : zyb ty' x ∧ zi H' x.toNat = zi H x.toNat := by
  obtain ⟨x0, hx⟩ := hx
  have key : ∀ t, ty x.toNat = t + 1 → t ∈ zPB j → (zTT t).1 ≠ 0 → ty' x.toNat = t + 1 ∧ zi H' x.toNat = zi H x.toNat := by
    intro t e1 e2 e3
    have e4 := hst.2.1 _ _ e1 (by rw [hTT]; exact e3) e2
    refine ⟨hst.1 _ _ e1, funext fun k => ?_⟩
    unfold zi
    rw [e4]
  rcases hx with hx | hx
  · obtain ⟨a1, a2⟩ := key 44 hx h1 (by decide)
    exact ⟨⟨x0, Or.inl a1⟩, a2⟩
  · obtain ⟨a1, a2⟩ := key 73 hx h2 (by decide)
    exact ⟨⟨x0, Or.inr a1⟩, a2⟩
theorem zst_h (hTT : D.TT = zTT) (hst : zk_st D (zPF j) (zPB j) ty H ty' H') {x : Int} (hx : zyh ty x) (h1 : 56 ∈ zPB j) (h2 : 90 ∈ zPB j) : zyh ty' x ∧ zi H' x.toNat = zi H x.toNat := by
  obtain ⟨x0, hx⟩ := hx
  have key : ∀ t, ty x.toNat = t + 1 → t ∈ zPB j → (zTT t).1 ≠ 0 → ty' x.toNat = t + 1 ∧ zi H' x.toNat = zi H x.toNat := by
    intro t e1 e2 e3
    have e4 := hst.2.1 _ _ e1 (by rw [hTT]; exact e3) e2
    refine ⟨hst.1 _ _ e1, funext fun k => ?_⟩
    unfold zi
    rw [e4]
  rcases hx with hx | hx
  · obtain ⟨a1, a2⟩ := key 56 hx h1 (by decide)
    exact ⟨⟨x0, Or.inl a1⟩, a2⟩
  · obtain ⟨a1, a2⟩ := key 90 hx h2 (by decide)
    exact ⟨⟨x0, Or.inr a1⟩, a2⟩
theorem zst_c (hTT : D.TT = zTT) (hst : zk_st D (zPF j) (zPB j) ty H ty' H') {x : Int} (hx : zyc ty x) (h1 : 57 ∈ zPB j) (h2 : 91 ∈ zPB j) : zyc ty' x ∧ zi H' x.toNat = zi H x.toNat := by
  obtain ⟨x0, hx⟩ := hx
  have key : ∀ t, ty x.toNat = t + 1 → t ∈ zPB j → (zTT t).1 ≠ 0 → ty' x.toNat = t + 1 ∧ zi H' x.toNat = zi H x.toNat := by
    intro t e1 e2 e3
    have e4 := hst.2.1 _ _ e1 (by rw [hTT]; exact e3) e2
    refine ⟨hst.1 _ _ e1, funext fun k => ?_⟩
    unfold zi
    rw [e4]
  rcases hx with hx | hx
  · obtain ⟨a1, a2⟩ := key 57 hx h1 (by decide)
    exact ⟨⟨x0, Or.inl a1⟩, a2⟩
  · obtain ⟨a1, a2⟩ := key 91 hx h2 (by decide)
    exact ⟨⟨x0, Or.inr a1⟩, a2⟩
theorem zst_p (hTT : D.TT = zTT) (hst : zk_st D (zPF j) (zPB j) ty H ty' H') {x : Int} (hx : zyp ty x) (h1 : 44 ∈ zPB j) (h2 : 44 ∈ zPB j) : zyp ty' x ∧ zi H' x.toNat = zi H x.toNat := by
  obtain ⟨x0, hx⟩ := hx
  have key : ∀ t, ty x.toNat = t + 1 → t ∈ zPB j → (zTT t).1 ≠ 0 → ty' x.toNat = t + 1 ∧ zi H' x.toNat = zi H x.toNat := by
    intro t e1 e2 e3
    have e4 := hst.2.1 _ _ e1 (by rw [hTT]; exact e3) e2
    refine ⟨hst.1 _ _ e1, funext fun k => ?_⟩
    unfold zi
    rw [e4]
  rcases hx with hx | hx
  · obtain ⟨a1, a2⟩ := key 44 hx h1 (by decide)
    exact ⟨⟨x0, Or.inl a1⟩, a2⟩
  · obtain ⟨a1, a2⟩ := key 44 hx h2 (by decide)
    exact ⟨⟨x0, Or.inr a1⟩, a2⟩
theorem zst_q (hTT : D.TT = zTT) (hst : zk_st D (zPF j) (zPB j) ty H ty' H') {x : Int} (hx : zyq ty x) (h1 : 73 ∈ zPB j) (h2 : 73 ∈ zPB j) : zyq ty' x ∧ zi H' x.toNat = zi H x.toNat := by
  obtain ⟨x0, hx⟩ := hx
  have key : ∀ t, ty x.toNat = t + 1 → t ∈ zPB j → (zTT t).1 ≠ 0 → ty' x.toNat = t + 1 ∧ zi H' x.toNat = zi H x.toNat := by
    intro t e1 e2 e3
    have e4 := hst.2.1 _ _ e1 (by rw [hTT]; exact e3) e2
    refine ⟨hst.1 _ _ e1, funext fun k => ?_⟩
    unfold zi
    rw [e4]
  rcases hx with hx | hx
  · obtain ⟨a1, a2⟩ := key 73 hx h1 (by decide)
    exact ⟨⟨x0, Or.inl a1⟩, a2⟩
  · obtain ⟨a1, a2⟩ := key 73 hx h2 (by decide)
    exact ⟨⟨x0, Or.inr a1⟩, a2⟩
theorem zst_s (hTT : D.TT = zTT) (hst : zk_st D (zPF j) (zPB j) ty H ty' H') {x : Int} (hx : zys ty x) (h1 : 45 ∈ zPB j) (h2 : 45 ∈ zPB j) : zys ty' x ∧ zi H' x.toNat = zi H x.toNat := by
  obtain ⟨x0, hx⟩ := hx
  have key : ∀ t, ty x.toNat = t + 1 → t ∈ zPB j → (zTT t).1 ≠ 0 → ty' x.toNat = t + 1 ∧ zi H' x.toNat = zi H x.toNat := by
    intro t e1 e2 e3
    have e4 := hst.2.1 _ _ e1 (by rw [hTT]; exact e3) e2
    refine ⟨hst.1 _ _ e1, funext fun k => ?_⟩
    unfold zi
    rw [e4]
  rcases hx with hx | hx
  · obtain ⟨a1, a2⟩ := key 45 hx h1 (by decide)
    exact ⟨⟨x0, Or.inl a1⟩, a2⟩
  · obtain ⟨a1, a2⟩ := key 45 hx h2 (by decide)
    exact ⟨⟨x0, Or.inr a1⟩, a2⟩
theorem zst_t (hTT : D.TT = zTT) (hst : zk_st D (zPF j) (zPB j) ty H ty' H') {x : Int} (hx : zyt ty x) (h1 : 46 ∈ zPB j) (h2 : 46 ∈ zPB j) : zyt ty' x ∧ zi H' x.toNat = zi H x.toNat := by
  obtain ⟨x0, hx⟩ := hx
  have key : ∀ t, ty x.toNat = t + 1 → t ∈ zPB j → (zTT t).1 ≠ 0 → ty' x.toNat = t + 1 ∧ zi H' x.toNat = zi H x.toNat := by
    intro t e1 e2 e3
    have e4 := hst.2.1 _ _ e1 (by rw [hTT]; exact e3) e2
    refine ⟨hst.1 _ _ e1, funext fun k => ?_⟩
    unfold zi
    rw [e4]
  rcases hx with hx | hx
  · obtain ⟨a1, a2⟩ := key 46 hx h1 (by decide)
    exact ⟨⟨x0, Or.inl a1⟩, a2⟩
  · obtain ⟨a1, a2⟩ := key 46 hx h2 (by decide)
    exact ⟨⟨x0, Or.inr a1⟩, a2⟩
theorem zst_d (hTT : D.TT = zTT) (hst : zk_st D (zPF j) (zPB j) ty H ty' H') {x : Int} (hx : zyd ty x) (h1 : 74 ∈ zPB j) (h2 : 74 ∈ zPB j) : zyd ty' x ∧ zi H' x.toNat = zi H x.toNat := by
  obtain ⟨x0, hx⟩ := hx
  have key : ∀ t, ty x.toNat = t + 1 → t ∈ zPB j → (zTT t).1 ≠ 0 → ty' x.toNat = t + 1 ∧ zi H' x.toNat = zi H x.toNat := by
    intro t e1 e2 e3
    have e4 := hst.2.1 _ _ e1 (by rw [hTT]; exact e3) e2
    refine ⟨hst.1 _ _ e1, funext fun k => ?_⟩
    unfold zi
    rw [e4]
  rcases hx with hx | hx
  · obtain ⟨a1, a2⟩ := key 74 hx h1 (by decide)
    exact ⟨⟨x0, Or.inl a1⟩, a2⟩
  · obtain ⟨a1, a2⟩ := key 74 hx h2 (by decide)
    exact ⟨⟨x0, Or.inr a1⟩, a2⟩
theorem zst_x (hTT : D.TT = zTT) (hst : zk_st D (zPF j) (zPB j) ty H ty' H') {x : Int} (hx : zyx ty x) (h1 : 78 ∈ zPB j) (h2 : 78 ∈ zPB j) : zyx ty' x ∧ zi H' x.toNat = zi H x.toNat := by
  obtain ⟨x0, hx⟩ := hx
  have key : ∀ t, ty x.toNat = t + 1 → t ∈ zPB j → (zTT t).1 ≠ 0 → ty' x.toNat = t + 1 ∧ zi H' x.toNat = zi H x.toNat := by
    intro t e1 e2 e3
    have e4 := hst.2.1 _ _ e1 (by rw [hTT]; exact e3) e2
    refine ⟨hst.1 _ _ e1, funext fun k => ?_⟩
    unfold zi
    rw [e4]
  rcases hx with hx | hx
  · obtain ⟨a1, a2⟩ := key 78 hx h1 (by decide)
    exact ⟨⟨x0, Or.inl a1⟩, a2⟩
  · obtain ⟨a1, a2⟩ := key 78 hx h2 (by decide)
    exact ⟨⟨x0, Or.inr a1⟩, a2⟩
theorem zst_y (hTT : D.TT = zTT) (hst : zk_st D (zPF j) (zPB j) ty H ty' H') {x : Int} (hx : zyy ty x) (h1 : 79 ∈ zPB j) (h2 : 79 ∈ zPB j) : zyy ty' x ∧ zi H' x.toNat = zi H x.toNat := by
  obtain ⟨x0, hx⟩ := hx
  have key : ∀ t, ty x.toNat = t + 1 → t ∈ zPB j → (zTT t).1 ≠ 0 → ty' x.toNat = t + 1 ∧ zi H' x.toNat = zi H x.toNat := by
    intro t e1 e2 e3
    have e4 := hst.2.1 _ _ e1 (by rw [hTT]; exact e3) e2
    refine ⟨hst.1 _ _ e1, funext fun k => ?_⟩
    unfold zi
    rw [e4]
  rcases hx with hx | hx
  · obtain ⟨a1, a2⟩ := key 79 hx h1 (by decide)
    exact ⟨⟨x0, Or.inl a1⟩, a2⟩
  · obtain ⟨a1, a2⟩ := key 79 hx h2 (by decide)
    exact ⟨⟨x0, Or.inr a1⟩, a2⟩
theorem zst_z (hTT : D.TT = zTT) (hst : zk_st D (zPF j) (zPB j) ty H ty' H') {x : Int} (hx : zyz ty x) (h1 : 80 ∈ zPB j) (h2 : 80 ∈ zPB j) : zyz ty' x ∧ zi H' x.toNat = zi H x.toNat := by
  obtain ⟨x0, hx⟩ := hx
  have key : ∀ t, ty x.toNat = t + 1 → t ∈ zPB j → (zTT t).1 ≠ 0 → ty' x.toNat = t + 1 ∧ zi H' x.toNat = zi H x.toNat := by
    intro t e1 e2 e3
    have e4 := hst.2.1 _ _ e1 (by rw [hTT]; exact e3) e2
    refine ⟨hst.1 _ _ e1, funext fun k => ?_⟩
    unfold zi
    rw [e4]
  rcases hx with hx | hx
  · obtain ⟨a1, a2⟩ := key 80 hx h1 (by decide)
    exact ⟨⟨x0, Or.inl a1⟩, a2⟩
  · obtain ⟨a1, a2⟩ := key 80 hx h2 (by decide)
    exact ⟨⟨x0, Or.inr a1⟩, a2⟩
theorem zst_n (hTT : D.TT = zTT) (hst : zk_st D (zPF j) (zPB j) ty H ty' H') {x : Int} (hx : zyn ty x) (h1 : 71 ∈ zPB j) (h2 : 71 ∈ zPB j) : zyn ty' x ∧ zi H' x.toNat = zi H x.toNat := by
  obtain ⟨x0, hx⟩ := hx
  have key : ∀ t, ty x.toNat = t + 1 → t ∈ zPB j → (zTT t).1 ≠ 0 → ty' x.toNat = t + 1 ∧ zi H' x.toNat = zi H x.toNat := by
    intro t e1 e2 e3
    have e4 := hst.2.1 _ _ e1 (by rw [hTT]; exact e3) e2
    refine ⟨hst.1 _ _ e1, funext fun k => ?_⟩
    unfold zi
    rw [e4]
  rcases hx with hx | hx
  · obtain ⟨a1, a2⟩ := key 71 hx h1 (by decide)
    exact ⟨⟨x0, Or.inl a1⟩, a2⟩
  · obtain ⟨a1, a2⟩ := key 71 hx h2 (by decide)
    exact ⟨⟨x0, Or.inr a1⟩, a2⟩
theorem zPM_st {ua : Nat → Nat} (hTT : D.TT = zTT) (hz : zty ua ty) {vs : List Int} (hst : zk_st D (zPF j) (zPB j) ty H ty' H') (hT : zk_T D ty H) (hT' : zk_T D ty' H') (hp : zPM ua D.dI ty j (zi H) vs) : zPM ua D.dI ty' j (zi H') vs := by
  have fh : ∀ k, (43, k) ∈ zPF j → k < 73 → zi H' (ua 43) (D.dI 12 k) = zi H (ua 43) (D.dI 12 k) := fun k h1 h2 => zst_fd hTT hz hst hT hT' (q := (43, 43)) (by decide) h1 (by decide) h2 (by decide)
  unfold zPM at hp ⊢
  by_cases e : j = 340
  · subst e
    rw [if_pos rfl] at hp ⊢
    obtain ⟨C, M, n, h0, g0, g1, hh⟩ := hp
    obtain ⟨q0, f0⟩ := zst_p hTT hst g0 (by decide) (by decide)
    obtain ⟨q1, f1⟩ := zst_q hTT hst g1 (by decide) (by decide)
    refine ⟨C, M, n, h0, q0, q1, ?_⟩
    simp only [f0, f1]
    first | exact hh | simpa only using hh | simpa using hh
  rw [if_neg e] at hp ⊢
  clear e
  by_cases e : j = 341
  · subst e
    rw [if_pos rfl] at hp ⊢
    obtain ⟨C, M, l, k, va, vb, vc, vd, ve, h0, g0, g1, hh⟩ := hp
    obtain ⟨q0, f0⟩ := zst_p hTT hst g0 (by decide) (by decide)
    obtain ⟨q1, f1⟩ := zst_q hTT hst g1 (by decide) (by decide)
    refine ⟨C, M, l, k, va, vb, vc, vd, ve, h0, q0, q1, ?_⟩
    simp only [f0, f1]
    first | exact hh | simpa only using hh | simpa using hh
  rw [if_neg e] at hp ⊢
  clear e
  by_cases e : j = 342
  · subst e
    rw [if_pos rfl] at hp ⊢
    obtain ⟨C, M, l, k, va, vb, vc, vd, ve, h0, g0, g1, hh⟩ := hp
    obtain ⟨q0, f0⟩ := zst_p hTT hst g0 (by decide) (by decide)
    obtain ⟨q1, f1⟩ := zst_q hTT hst g1 (by decide) (by decide)
    refine ⟨C, M, l, k, va, vb, vc, vd, ve, h0, q0, q1, ?_⟩
    simp only [f0, f1]
    first | exact hh | simpa only using hh | simpa using hh
  rw [if_neg e] at hp ⊢
  clear e
  by_cases e : j = 343
  · subst e
    rw [if_pos rfl] at hp ⊢
    obtain ⟨o, L, h0, g0, hh⟩ := hp
    obtain ⟨q0, f0⟩ := zst_w hTT hst hT hT' g0 (by decide)
    refine ⟨o, L, h0, q0, ?_⟩
    simp only [f0]
    first | exact hh | simpa only using hh | simpa using hh
  rw [if_neg e] at hp ⊢
  clear e
  by_cases e : j = 345
  · subst e
    rw [if_pos rfl] at hp ⊢
    obtain ⟨B, n, i, j, h0, g0, hh⟩ := hp
    obtain ⟨q0, f0⟩ := zst_b hTT hst g0 (by decide) (by decide)
    refine ⟨B, n, i, j, h0, q0, ?_⟩
    simp only [f0]
    first | exact hh | simpa only using hh | simpa using hh
  rw [if_neg e] at hp ⊢
  clear e
  by_cases e : j = 346
  · subst e
    rw [if_pos rfl] at hp ⊢
    obtain ⟨B, n, a, e, s, w, h0, g0, hh⟩ := hp
    obtain ⟨q0, f0⟩ := zst_b hTT hst g0 (by decide) (by decide)
    refine ⟨B, n, a, e, s, w, h0, q0, ?_⟩
    simp only [f0]
    first | exact hh | simpa only using hh | simpa using hh
  rw [if_neg e] at hp ⊢
  clear e
  by_cases e : j = 347
  · subst e
    rw [if_pos rfl] at hp ⊢
    obtain ⟨B, n, a, e, s, v, h0, g0, hh⟩ := hp
    obtain ⟨q0, f0⟩ := zst_b hTT hst g0 (by decide) (by decide)
    refine ⟨B, n, a, e, s, v, h0, q0, ?_⟩
    simp only [f0]
    first | exact hh | simpa only using hh | simpa using hh
  rw [if_neg e] at hp ⊢
  clear e
  by_cases e : j = 348
  · subst e
    rw [if_pos rfl] at hp ⊢
    obtain ⟨B, n, e, h0, g0, hh⟩ := hp
    obtain ⟨q0, f0⟩ := zst_b hTT hst g0 (by decide) (by decide)
    refine ⟨B, n, e, h0, q0, ?_⟩
    simp only [f0]
    first | exact hh | simpa only using hh | simpa using hh
  rw [if_neg e] at hp ⊢
  clear e
  by_cases e : j = 349
  · subst e
    rw [if_pos rfl] at hp ⊢
    obtain ⟨B, n, e, h0, g0, hh⟩ := hp
    obtain ⟨q0, f0⟩ := zst_b hTT hst g0 (by decide) (by decide)
    refine ⟨B, n, e, h0, q0, ?_⟩
    simp only [f0]
    first | exact hh | simpa only using hh | simpa using hh
  rw [if_neg e] at hp ⊢
  clear e
  by_cases e : j = 350
  · subst e
    rw [if_pos rfl] at hp ⊢
    obtain ⟨B, n, i, k, a, x, w, v, h0, g0, hh⟩ := hp
    obtain ⟨q0, f0⟩ := zst_b hTT hst g0 (by decide) (by decide)
    refine ⟨B, n, i, k, a, x, w, v, h0, q0, ?_⟩
    simp only [f0]
    first | exact hh | simpa only using hh | simpa using hh
  rw [if_neg e] at hp ⊢
  clear e
  by_cases e : j = 351
  · subst e
    rw [if_pos rfl] at hp ⊢
    obtain ⟨B, n, i, so, a, x, h0, g0, hh⟩ := hp
    obtain ⟨q0, f0⟩ := zst_b hTT hst g0 (by decide) (by decide)
    refine ⟨B, n, i, so, a, x, h0, q0, ?_⟩
    simp only [f0, fh 10 (by decide) (by decide), fh 7 (by decide) (by decide)]
    first | exact hh | simpa only using hh | simpa using hh
  rw [if_neg e] at hp ⊢
  clear e
  by_cases e : j = 358
  · subst e
    rw [if_pos rfl] at hp ⊢
    obtain ⟨so, key, h0, hh⟩ := hp
    refine ⟨so, key, h0, ?_⟩
    simp only [fh 10 (by decide) (by decide)]
    first | exact hh | simpa only using hh | simpa using hh
  rw [if_neg e] at hp ⊢
  clear e
  by_cases e : j = 362
  · subst e
    rw [if_pos rfl] at hp ⊢
    obtain ⟨so, r, h0, hh⟩ := hp
    refine ⟨so, r, h0, ?_⟩
    simp only [fh 10 (by decide) (by decide)]
    first | exact hh | simpa only using hh | simpa using hh
  rw [if_neg e] at hp ⊢
  clear e
  by_cases e : j = 352
  · subst e
    rw [if_pos rfl] at hp ⊢
    obtain ⟨B, n, a, h0, g0, hh⟩ := hp
    obtain ⟨q0, f0⟩ := zst_b hTT hst g0 (by decide) (by decide)
    refine ⟨B, n, a, h0, q0, ?_⟩
    simp only [f0]
    first | exact hh | simpa only using hh | simpa using hh
  rw [if_neg e] at hp ⊢
  clear e
  by_cases e : j = 353
  · subst e
    rw [if_pos rfl] at hp ⊢
    obtain ⟨B, n, a, h0, g0, hh⟩ := hp
    obtain ⟨q0, f0⟩ := zst_b hTT hst g0 (by decide) (by decide)
    refine ⟨B, n, a, h0, q0, ?_⟩
    simp only [f0]
    first | exact hh | simpa only using hh | simpa using hh
  rw [if_neg e] at hp ⊢
  clear e
  by_cases e : j = 354
  · subst e
    rw [if_pos rfl] at hp ⊢
    obtain ⟨B, n, k, a, x, w, v, h0, g0, hh⟩ := hp
    obtain ⟨q0, f0⟩ := zst_b hTT hst g0 (by decide) (by decide)
    refine ⟨B, n, k, a, x, w, v, h0, q0, ?_⟩
    simp only [f0]
    first | exact hh | simpa only using hh | simpa using hh
  rw [if_neg e] at hp ⊢
  clear e
  by_cases e : j = 355
  · subst e
    rw [if_pos rfl] at hp ⊢
    obtain ⟨B, n, a, h0, g0, hh⟩ := hp
    obtain ⟨q0, f0⟩ := zst_b hTT hst g0 (by decide) (by decide)
    refine ⟨B, n, a, h0, q0, ?_⟩
    simp only [f0]
    first | exact hh | simpa only using hh | simpa using hh
  rw [if_neg e] at hp ⊢
  clear e
  by_cases e : j = 356
  · subst e
    rw [if_pos rfl] at hp ⊢
    obtain ⟨B, n, k, a, s, w, h0, g0, hh⟩ := hp
    obtain ⟨q0, f0⟩ := zst_b hTT hst g0 (by decide) (by decide)
    refine ⟨B, n, k, a, s, w, h0, q0, ?_⟩
    simp only [f0]
    first | exact hh | simpa only using hh | simpa using hh
  rw [if_neg e] at hp ⊢
  clear e
  by_cases e : j = 357
  · subst e
    rw [if_pos rfl] at hp ⊢
    obtain ⟨B, n, a, p, j, q, h0, g0, hh⟩ := hp
    obtain ⟨q0, f0⟩ := zst_b hTT hst g0 (by decide) (by decide)
    refine ⟨B, n, a, p, j, q, h0, q0, ?_⟩
    simp only [f0]
    first | exact hh | simpa only using hh | simpa using hh
  rw [if_neg e] at hp ⊢
  clear e
  by_cases e : j = 370
  · subst e
    rw [if_pos rfl] at hp ⊢
    obtain ⟨B, n, h, c, m, i, L, sd, ac, b, h0, g0, g1, g2, hh⟩ := hp
    obtain ⟨q0, f0⟩ := zst_b hTT hst g0 (by decide) (by decide)
    obtain ⟨q1, f1⟩ := zst_h hTT hst g1 (by decide) (by decide)
    obtain ⟨q2, f2⟩ := zst_c hTT hst g2 (by decide) (by decide)
    refine ⟨B, n, h, c, m, i, L, sd, ac, b, h0, q0, q1, q2, ?_⟩
    simp only [f0, f1, f2]
    first | exact hh | simpa only using hh | simpa using hh
  rw [if_neg e] at hp ⊢
  clear e
  by_cases e : j = 371
  · subst e
    rw [if_pos rfl] at hp ⊢
    obtain ⟨B, n, h, c, m, i, L, sd, ac, b, h0, g0, g1, g2, hh⟩ := hp
    obtain ⟨q0, f0⟩ := zst_b hTT hst g0 (by decide) (by decide)
    obtain ⟨q1, f1⟩ := zst_h hTT hst g1 (by decide) (by decide)
    obtain ⟨q2, f2⟩ := zst_c hTT hst g2 (by decide) (by decide)
    refine ⟨B, n, h, c, m, i, L, sd, ac, b, h0, q0, q1, q2, ?_⟩
    simp only [f0, f1, f2]
    first | exact hh | simpa only using hh | simpa using hh
  rw [if_neg e] at hp ⊢
  clear e
  by_cases e : j = 372
  · subst e
    rw [if_pos rfl] at hp ⊢
    obtain ⟨B, n, h, c, m, i, L, sd, ac, b, h0, g0, g1, g2, hh⟩ := hp
    obtain ⟨q0, f0⟩ := zst_b hTT hst g0 (by decide) (by decide)
    obtain ⟨q1, f1⟩ := zst_h hTT hst g1 (by decide) (by decide)
    obtain ⟨q2, f2⟩ := zst_c hTT hst g2 (by decide) (by decide)
    refine ⟨B, n, h, c, m, i, L, sd, ac, b, h0, q0, q1, q2, ?_⟩
    simp only [f0, f1, f2]
    first | exact hh | simpa only using hh | simpa using hh
  rw [if_neg e] at hp ⊢
  clear e
  by_cases e : j = 373
  · subst e
    rw [if_pos rfl] at hp ⊢
    obtain ⟨B, n, kd, a, h0, g0, hh⟩ := hp
    obtain ⟨q0, f0⟩ := zst_b hTT hst g0 (by decide) (by decide)
    refine ⟨B, n, kd, a, h0, q0, ?_⟩
    simp only [f0]
    first | exact hh | simpa only using hh | simpa using hh
  rw [if_neg e] at hp ⊢
  clear e
  by_cases e : j = 374
  · subst e
    rw [if_pos rfl] at hp ⊢
    obtain ⟨B, n, L, h0, g0, hh⟩ := hp
    obtain ⟨q0, f0⟩ := zst_b hTT hst g0 (by decide) (by decide)
    refine ⟨B, n, L, h0, q0, ?_⟩
    simp only [f0]
    first | exact hh | simpa only using hh | simpa using hh
  rw [if_neg e] at hp ⊢
  clear e
  by_cases e : j = 375
  · subst e
    rw [if_pos rfl] at hp ⊢
    obtain ⟨h, k, h0, g0, hh⟩ := hp
    obtain ⟨q0, f0⟩ := zst_h hTT hst g0 (by decide) (by decide)
    refine ⟨h, k, h0, q0, ?_⟩
    simp only [f0]
    first | exact hh | simpa only using hh | simpa using hh
  rw [if_neg e] at hp ⊢
  clear e
  by_cases e : j = 376
  · subst e
    rw [if_pos rfl] at hp ⊢
    obtain ⟨c, k, h0, g0, hh⟩ := hp
    obtain ⟨q0, f0⟩ := zst_c hTT hst g0 (by decide) (by decide)
    refine ⟨c, k, h0, q0, ?_⟩
    simp only [f0]
    first | exact hh | simpa only using hh | simpa using hh
  rw [if_neg e] at hp ⊢
  clear e
  by_cases e : j = 377
  · subst e
    rw [if_pos rfl] at hp ⊢
    obtain ⟨h, c, sd, ac, b, r, h0, g0, g1, hh⟩ := hp
    obtain ⟨q0, f0⟩ := zst_h hTT hst g0 (by decide) (by decide)
    obtain ⟨q1, f1⟩ := zst_c hTT hst g1 (by decide) (by decide)
    refine ⟨h, c, sd, ac, b, r, h0, q0, q1, ?_⟩
    simp only [f0, f1]
    first | exact hh | simpa only using hh | simpa using hh
  rw [if_neg e] at hp ⊢
  clear e
  by_cases e : j = 379
  · subst e
    rw [if_pos rfl] at hp ⊢
    obtain ⟨B, n, h, c, i, L, sd, ac, b, h0, g0, g1, g2, hh⟩ := hp
    obtain ⟨q0, f0⟩ := zst_b hTT hst g0 (by decide) (by decide)
    obtain ⟨q1, f1⟩ := zst_h hTT hst g1 (by decide) (by decide)
    obtain ⟨q2, f2⟩ := zst_c hTT hst g2 (by decide) (by decide)
    refine ⟨B, n, h, c, i, L, sd, ac, b, h0, q0, q1, q2, ?_⟩
    simp only [f0, f1, f2]
    first | exact hh | simpa only using hh | simpa using hh
  rw [if_neg e] at hp ⊢
  clear e
  by_cases e : j = 378
  · subst e
    rw [if_pos rfl] at hp ⊢
    obtain ⟨B, n, r, h0, g0, hh⟩ := hp
    obtain ⟨q0, f0⟩ := zst_b hTT hst g0 (by decide) (by decide)
    refine ⟨B, n, r, h0, q0, ?_⟩
    simp only [f0]
    first | exact hh | simpa only using hh | simpa using hh
  rw [if_neg e] at hp ⊢
  clear e
  by_cases e : j = 380
  · subst e
    rw [if_pos rfl] at hp ⊢
    obtain ⟨B, n, im, tt, m, i, N, d, f, r, h0, g0, g1, g2, hh⟩ := hp
    obtain ⟨q0, f0⟩ := zst_b hTT hst g0 (by decide) (by decide)
    obtain ⟨q1, f1⟩ := zst_s hTT hst g1 (by decide) (by decide)
    obtain ⟨q2, f2⟩ := zst_t hTT hst g2 (by decide) (by decide)
    refine ⟨B, n, im, tt, m, i, N, d, f, r, h0, q0, q1, q2, ?_⟩
    simp only [f0, f1, f2]
    first | exact hh | simpa only using hh | simpa using hh
  rw [if_neg e] at hp ⊢
  clear e
  by_cases e : j = 382
  · subst e
    rw [if_pos rfl] at hp ⊢
    obtain ⟨B, n, im, tt, m, i, N, d, f, r, l, v, h0, g0, g1, g2, hh⟩ := hp
    obtain ⟨q0, f0⟩ := zst_b hTT hst g0 (by decide) (by decide)
    obtain ⟨q1, f1⟩ := zst_s hTT hst g1 (by decide) (by decide)
    obtain ⟨q2, f2⟩ := zst_t hTT hst g2 (by decide) (by decide)
    refine ⟨B, n, im, tt, m, i, N, d, f, r, l, v, h0, q0, q1, q2, ?_⟩
    simp only [f0, f1, f2]
    first | exact hh | simpa only using hh | simpa using hh
  rw [if_neg e] at hp ⊢
  clear e
  by_cases e : j = 383
  · subst e
    rw [if_pos rfl] at hp ⊢
    obtain ⟨B, n, im, tt, m, i, N, d, f, r, l, v, h0, g0, g1, g2, hh⟩ := hp
    obtain ⟨q0, f0⟩ := zst_b hTT hst g0 (by decide) (by decide)
    obtain ⟨q1, f1⟩ := zst_s hTT hst g1 (by decide) (by decide)
    obtain ⟨q2, f2⟩ := zst_t hTT hst g2 (by decide) (by decide)
    refine ⟨B, n, im, tt, m, i, N, d, f, r, l, v, h0, q0, q1, q2, ?_⟩
    simp only [f0, f1, f2]
    first | exact hh | simpa only using hh | simpa using hh
  rw [if_neg e] at hp ⊢
  clear e
  by_cases e : j = 384
  · subst e
    rw [if_pos rfl] at hp ⊢
    obtain ⟨B, n, kd, a, h0, g0, hh⟩ := hp
    obtain ⟨q0, f0⟩ := zst_b hTT hst g0 (by decide) (by decide)
    refine ⟨B, n, kd, a, h0, q0, ?_⟩
    simp only [f0]
    first | exact hh | simpa only using hh | simpa using hh
  rw [if_neg e] at hp ⊢
  clear e
  by_cases e : j = 386
  · subst e
    rw [if_pos rfl] at hp ⊢
    obtain ⟨B, n, r, h0, g0, hh⟩ := hp
    obtain ⟨q0, f0⟩ := zst_b hTT hst g0 (by decide) (by decide)
    refine ⟨B, n, r, h0, q0, ?_⟩
    simp only [f0]
    first | exact hh | simpa only using hh | simpa using hh
  rw [if_neg e] at hp ⊢
  clear e
  by_cases e : j = 387
  · subst e
    rw [if_pos rfl] at hp ⊢
    obtain ⟨B, n, st, ul, uw, m, i, N, d, g, r, h0, g0, g1, hh⟩ := hp
    obtain ⟨q0, f0⟩ := zst_b hTT hst g0 (by decide) (by decide)
    obtain ⟨q1, f1⟩ := zst_d hTT hst g1 (by decide) (by decide)
    refine ⟨B, n, st, ul, uw, m, i, N, d, g, r, h0, q0, q1, ?_⟩
    simp only [f0, f1]
    first | exact hh | simpa only using hh | simpa using hh
  rw [if_neg e] at hp ⊢
  clear e
  by_cases e : j = 388
  · subst e
    rw [if_pos rfl] at hp ⊢
    obtain ⟨B, n, st, ul, uw, m, i, N, d, g, r, l, v, h0, g0, g1, hh⟩ := hp
    obtain ⟨q0, f0⟩ := zst_b hTT hst g0 (by decide) (by decide)
    obtain ⟨q1, f1⟩ := zst_d hTT hst g1 (by decide) (by decide)
    refine ⟨B, n, st, ul, uw, m, i, N, d, g, r, l, v, h0, q0, q1, ?_⟩
    simp only [f0, f1]
    first | exact hh | simpa only using hh | simpa using hh
  rw [if_neg e] at hp ⊢
  clear e
  by_cases e : j = 391
  · subst e
    rw [if_pos rfl] at hp ⊢
    obtain ⟨im, k, h0, g0, hh⟩ := hp
    obtain ⟨q0, f0⟩ := zst_s hTT hst g0 (by decide) (by decide)
    refine ⟨im, k, h0, q0, ?_⟩
    simp only [f0]
    first | exact hh | simpa only using hh | simpa using hh
  rw [if_neg e] at hp ⊢
  clear e
  by_cases e : j = 392
  · subst e
    rw [if_pos rfl] at hp ⊢
    obtain ⟨tt, k, h0, g0, hh⟩ := hp
    obtain ⟨q0, f0⟩ := zst_t hTT hst g0 (by decide) (by decide)
    refine ⟨tt, k, h0, q0, ?_⟩
    simp only [f0]
    first | exact hh | simpa only using hh | simpa using hh
  rw [if_neg e] at hp ⊢
  clear e
  by_cases e : j = 393
  · subst e
    rw [if_pos rfl] at hp ⊢
    obtain ⟨tt, c, h0, g0, hh⟩ := hp
    obtain ⟨q0, f0⟩ := zst_t hTT hst g0 (by decide) (by decide)
    refine ⟨tt, c, h0, q0, ?_⟩
    simp only [f0]
    first | exact hh | simpa only using hh | simpa using hh
  rw [if_neg e] at hp ⊢
  clear e
  by_cases e : j = 396
  · subst e
    rw [if_pos rfl] at hp ⊢
    obtain ⟨st, k, h0, g0, hh⟩ := hp
    obtain ⟨q0, f0⟩ := zst_d hTT hst g0 (by decide) (by decide)
    refine ⟨st, k, h0, q0, ?_⟩
    simp only [f0]
    first | exact hh | simpa only using hh | simpa using hh
  rw [if_neg e] at hp ⊢
  clear e
  by_cases e : j = 397
  · subst e
    rw [if_pos rfl] at hp ⊢
    obtain ⟨tt, l, r, h0, g0, hh⟩ := hp
    obtain ⟨q0, f0⟩ := zst_t hTT hst g0 (by decide) (by decide)
    refine ⟨tt, l, r, h0, q0, ?_⟩
    simp only [f0]
    first | exact hh | simpa only using hh | simpa using hh
  rw [if_neg e] at hp ⊢
  clear e
  by_cases e : j = 389
  · subst e
    rw [if_pos rfl] at hp ⊢
    obtain ⟨B, n, st, i, N, d, g, h0, g0, g1, hh⟩ := hp
    obtain ⟨q0, f0⟩ := zst_b hTT hst g0 (by decide) (by decide)
    obtain ⟨q1, f1⟩ := zst_d hTT hst g1 (by decide) (by decide)
    refine ⟨B, n, st, i, N, d, g, h0, q0, q1, ?_⟩
    simp only [f0, f1]
    first | exact hh | simpa only using hh | simpa using hh
  rw [if_neg e] at hp ⊢
  clear e
  by_cases e : j = 390
  · subst e
    rw [if_pos rfl] at hp ⊢
    obtain ⟨im, st, h0, g0, g1, hh⟩ := hp
    obtain ⟨q0, f0⟩ := zst_s hTT hst g0 (by decide) (by decide)
    obtain ⟨q1, f1⟩ := zst_d hTT hst g1 (by decide) (by decide)
    refine ⟨im, st, h0, q0, q1, ?_⟩
    simp only [f0, f1]
    first | exact hh | simpa only using hh | simpa using hh
  rw [if_neg e] at hp ⊢
  clear e
  by_cases e : j = 394
  · subst e
    rw [if_pos rfl] at hp ⊢
    obtain ⟨st, k, h0, g0, hh⟩ := hp
    obtain ⟨q0, f0⟩ := zst_d hTT hst g0 (by decide) (by decide)
    refine ⟨st, k, h0, q0, ?_⟩
    simp only [f0]
    first | exact hh | simpa only using hh | simpa using hh
  rw [if_neg e] at hp ⊢
  clear e
  by_cases e : j = 400
  · subst e
    rw [if_pos rfl] at hp ⊢
    obtain ⟨im, d, m, w, s, k, t, b, h0, g0, hh⟩ := hp
    obtain ⟨q0, f0⟩ := zst_s hTT hst g0 (by decide) (by decide)
    refine ⟨im, d, m, w, s, k, t, b, h0, q0, ?_⟩
    simp only [f0]
    first | exact hh | simpa only using hh | simpa using hh
  rw [if_neg e] at hp ⊢
  clear e
  by_cases e : j = 401
  · subst e
    rw [if_pos rfl] at hp ⊢
    obtain ⟨im, d, f, w, r, h0, g0, hh⟩ := hp
    obtain ⟨q0, f0⟩ := zst_s hTT hst g0 (by decide) (by decide)
    refine ⟨im, d, f, w, r, h0, q0, ?_⟩
    simp only [f0]
    first | exact hh | simpa only using hh | simpa using hh
  rw [if_neg e] at hp ⊢
  clear e
  by_cases e : j = 402
  · subst e
    rw [if_pos rfl] at hp ⊢
    obtain ⟨st, d, m, w, s, k, t, la, h0, g0, hh⟩ := hp
    obtain ⟨q0, f0⟩ := zst_d hTT hst g0 (by decide) (by decide)
    refine ⟨st, d, m, w, s, k, t, la, h0, q0, ?_⟩
    simp only [f0]
    first | exact hh | simpa only using hh | simpa using hh
  rw [if_neg e] at hp ⊢
  clear e
  by_cases e : j = 403
  · subst e
    rw [if_pos rfl] at hp ⊢
    obtain ⟨st, d, m, w, r, h0, g0, hh⟩ := hp
    obtain ⟨q0, f0⟩ := zst_d hTT hst g0 (by decide) (by decide)
    refine ⟨st, d, m, w, r, h0, q0, ?_⟩
    simp only [f0]
    first | exact hh | simpa only using hh | simpa using hh
  rw [if_neg e] at hp ⊢
  clear e
  by_cases e : j = 404
  · subst e
    rw [if_pos rfl] at hp ⊢
    obtain ⟨B, n, im, d, f, i, r, h0, g0, g1, hh⟩ := hp
    obtain ⟨q0, f0⟩ := zst_b hTT hst g0 (by decide) (by decide)
    obtain ⟨q1, f1⟩ := zst_s hTT hst g1 (by decide) (by decide)
    refine ⟨B, n, im, d, f, i, r, h0, q0, q1, ?_⟩
    simp only [f0, f1]
    first | exact hh | simpa only using hh | simpa using hh
  rw [if_neg e] at hp ⊢
  clear e
  by_cases e : j = 405
  · subst e
    rw [if_pos rfl] at hp ⊢
    obtain ⟨B, n, st, d, g, i, r, h0, g0, g1, hh⟩ := hp
    obtain ⟨q0, f0⟩ := zst_b hTT hst g0 (by decide) (by decide)
    obtain ⟨q1, f1⟩ := zst_d hTT hst g1 (by decide) (by decide)
    refine ⟨B, n, st, d, g, i, r, h0, q0, q1, ?_⟩
    simp only [f0, f1]
    first | exact hh | simpa only using hh | simpa using hh
  rw [if_neg e] at hp ⊢
  clear e
  by_cases e : j = 408
  · subst e
    rw [if_pos rfl] at hp ⊢
    obtain ⟨im, h0, g0, hh⟩ := hp
    obtain ⟨q0, f0⟩ := zst_s hTT hst g0 (by decide) (by decide)
    refine ⟨im, h0, q0, ?_⟩
    simp only [f0]
    first | exact hh | simpa only using hh | simpa using hh
  rw [if_neg e] at hp ⊢
  clear e
  by_cases e : j = 409
  · subst e
    rw [if_pos rfl] at hp ⊢
    obtain ⟨st, h0, g0, hh⟩ := hp
    obtain ⟨q0, f0⟩ := zst_d hTT hst g0 (by decide) (by decide)
    refine ⟨st, h0, q0, ?_⟩
    simp only [f0]
    first | exact hh | simpa only using hh | simpa using hh
  rw [if_neg e] at hp ⊢
  clear e
  by_cases e : j = 410
  · subst e
    rw [if_pos rfl] at hp ⊢
    obtain ⟨B, n, w, h0, g0, hh⟩ := hp
    obtain ⟨q0, f0⟩ := zst_b hTT hst g0 (by decide) (by decide)
    refine ⟨B, n, w, h0, q0, ?_⟩
    simp only [f0]
    first | exact hh | simpa only using hh | simpa using hh
  rw [if_neg e] at hp ⊢
  clear e
  by_cases e : j = 411
  · subst e
    rw [if_pos rfl] at hp ⊢
    obtain ⟨B, n, h0, g0, hh⟩ := hp
    obtain ⟨q0, f0⟩ := zst_b hTT hst g0 (by decide) (by decide)
    refine ⟨B, n, h0, q0, ?_⟩
    simp only [f0]
    first | exact hh | simpa only using hh | simpa using hh
  rw [if_neg e] at hp ⊢
  clear e
  by_cases e : j = 412
  · subst e
    rw [if_pos rfl] at hp ⊢
    obtain ⟨B, n, x, w, h0, g0, hh⟩ := hp
    obtain ⟨q0, f0⟩ := zst_b hTT hst g0 (by decide) (by decide)
    refine ⟨B, n, x, w, h0, q0, ?_⟩
    simp only [f0]
    first | exact hh | simpa only using hh | simpa using hh
  rw [if_neg e] at hp ⊢
  clear e
  by_cases e : j = 398
  · subst e
    rw [if_pos rfl] at hp ⊢
    obtain ⟨o, d, f, h0, g0, hh⟩ := hp
    obtain ⟨q0, f0, fb0⟩ := zst_v hTT hst hT hT' g0 (by decide) (by decide)
    refine ⟨o, d, f, h0, q0, ?_⟩
    simp only [f0, fb0]
    first | exact hh | simpa only using hh | simpa using hh
  rw [if_neg e] at hp ⊢
  clear e
  by_cases e : j = 395
  · subst e
    rw [if_pos rfl] at hp ⊢
    obtain ⟨st, k, h0, g0, hh⟩ := hp
    obtain ⟨q0, f0⟩ := zst_d hTT hst g0 (by decide) (by decide)
    refine ⟨st, k, h0, q0, ?_⟩
    simp only [f0]
    first | exact hh | simpa only using hh | simpa using hh
  rw [if_neg e] at hp ⊢
  clear e
  by_cases e : j = 430
  · subst e
    rw [if_pos rfl] at hp ⊢
    obtain ⟨B, n, im, d, f, o, mx, dw, m, i, N, p, q, h0, g0, g1, g2, hh⟩ := hp
    obtain ⟨q0, f0⟩ := zst_b hTT hst g0 (by decide) (by decide)
    obtain ⟨q1, f1⟩ := zst_s hTT hst g1 (by decide) (by decide)
    obtain ⟨q2, fn2_0, fn2_1, fn2_2, fn2_3, fn2_4, gn2_0, gn2_1, gn2_2, gn2_3, gn2_4⟩ := zst_N hTT hst hT hT' g2 (by decide) (by decide) (by decide) (by decide) (by decide) (by decide) (by decide) (by decide) (by decide) (by decide)
    refine ⟨B, n, im, d, f, o, mx, dw, m, i, N, p, q, h0, q0, q1, q2, ?_⟩
    simp only [f0, f1, fn2_0, fn2_1, fn2_2, fn2_3, fn2_4, gn2_0, gn2_1, gn2_2, gn2_3, gn2_4]
    first | exact hh | simpa only using hh | simpa using hh
  rw [if_neg e] at hp ⊢
  clear e
  by_cases e : j = 431
  · subst e
    rw [if_pos rfl] at hp ⊢
    obtain ⟨B, n, im, d, f, o, mx, dw, i, N, p, q, h0, g0, g1, g2, hh⟩ := hp
    obtain ⟨q0, f0⟩ := zst_b hTT hst g0 (by decide) (by decide)
    obtain ⟨q1, f1⟩ := zst_s hTT hst g1 (by decide) (by decide)
    obtain ⟨q2, fn2_0, fn2_1, fn2_2, fn2_3, fn2_4, gn2_0, gn2_1, gn2_2, gn2_3, gn2_4⟩ := zst_N hTT hst hT hT' g2 (by decide) (by decide) (by decide) (by decide) (by decide) (by decide) (by decide) (by decide) (by decide) (by decide)
    refine ⟨B, n, im, d, f, o, mx, dw, i, N, p, q, h0, q0, q1, q2, ?_⟩
    simp only [f0, f1, fn2_0, fn2_1, fn2_2, fn2_3, fn2_4, gn2_0, gn2_1, gn2_2, gn2_3, gn2_4]
    first | exact hh | simpa only using hh | simpa using hh
  rw [if_neg e] at hp ⊢
  clear e
  by_cases e : j = 432
  · subst e
    rw [if_pos rfl] at hp ⊢
    obtain ⟨B, n, im, d, f, mx, dw, kd, a, h0, g0, g1, hh⟩ := hp
    obtain ⟨q0, f0⟩ := zst_b hTT hst g0 (by decide) (by decide)
    obtain ⟨q1, f1⟩ := zst_s hTT hst g1 (by decide) (by decide)
    refine ⟨B, n, im, d, f, mx, dw, kd, a, h0, q0, q1, ?_⟩
    simp only [f0, f1]
    first | exact hh | simpa only using hh | simpa using hh
  rw [if_neg e] at hp ⊢
  clear e
  by_cases e : j = 433
  · subst e
    rw [if_pos rfl] at hp ⊢
    obtain ⟨o, N, h0, g0, hh⟩ := hp
    obtain ⟨q0, fn0_0, fn0_1, fn0_2, fn0_3, fn0_4, gn0_0, gn0_1, gn0_2, gn0_3, gn0_4⟩ := zst_N hTT hst hT hT' g0 (by decide) (by decide) (by decide) (by decide) (by decide) (by decide) (by decide) (by decide) (by decide) (by decide)
    refine ⟨o, N, h0, q0, ?_⟩
    simp only [fn0_0, fn0_1, fn0_2, fn0_3, fn0_4, gn0_0, gn0_1, gn0_2, gn0_3, gn0_4]
    first | exact hh | simpa only using hh | simpa using hh
  rw [if_neg e] at hp ⊢
  clear e
  by_cases e : j = 434
  · subst e
    rw [if_pos rfl] at hp ⊢
    obtain ⟨o, N, k, h0, g0, hh⟩ := hp
    obtain ⟨q0, fn0_0, fn0_1, fn0_2, fn0_3, fn0_4, gn0_0, gn0_1, gn0_2, gn0_3, gn0_4⟩ := zst_N hTT hst hT hT' g0 (by decide) (by decide) (by decide) (by decide) (by decide) (by decide) (by decide) (by decide) (by decide) (by decide)
    refine ⟨o, N, k, h0, q0, ?_⟩
    simp only [fn0_0, fn0_1, fn0_2, fn0_3, fn0_4, gn0_0, gn0_1, gn0_2, gn0_3, gn0_4]
    first | exact hh | simpa only using hh | simpa using hh
  rw [if_neg e] at hp ⊢
  clear e
  by_cases e : j = 435
  · subst e
    rw [if_pos rfl] at hp ⊢
    obtain ⟨o, N, k, h0, g0, hh⟩ := hp
    obtain ⟨q0, fn0_0, fn0_1, fn0_2, fn0_3, fn0_4, gn0_0, gn0_1, gn0_2, gn0_3, gn0_4⟩ := zst_N hTT hst hT hT' g0 (by decide) (by decide) (by decide) (by decide) (by decide) (by decide) (by decide) (by decide) (by decide) (by decide)
    refine ⟨o, N, k, h0, q0, ?_⟩
    simp only [fn0_0, fn0_1, fn0_2, fn0_3, fn0_4, gn0_0, gn0_1, gn0_2, gn0_3, gn0_4]
    first | exact hh | simpa only using hh | simpa using hh
  rw [if_neg e] at hp ⊢
  clear e
  by_cases e : j = 440
  · subst e
    rw [if_pos rfl] at hp ⊢
    obtain ⟨B, n, st, d, g, wr, kr, dr, mx, dw, m, i, N, p, q, h0, g0, g1, g2, g3, g4, hh⟩ := hp
    obtain ⟨q0, f0⟩ := zst_b hTT hst g0 (by decide) (by decide)
    obtain ⟨q1, f1⟩ := zst_d hTT hst g1 (by decide) (by decide)
    obtain ⟨q2, f2⟩ := zst_x hTT hst g2 (by decide) (by decide)
    obtain ⟨q3, f3⟩ := zst_y hTT hst g3 (by decide) (by decide)
    obtain ⟨q4, f4⟩ := zst_z hTT hst g4 (by decide) (by decide)
    refine ⟨B, n, st, d, g, wr, kr, dr, mx, dw, m, i, N, p, q, h0, q0, q1, q2, q3, q4, ?_⟩
    simp only [f0, f1, f2, f3, f4]
    first | exact hh | simpa only using hh | simpa using hh
  rw [if_neg e] at hp ⊢
  clear e
  by_cases e : j = 441
  · subst e
    rw [if_pos rfl] at hp ⊢
    obtain ⟨B, n, st, d, g, wr, kr, dr, mx, dw, i, N, p, q, h0, g0, g1, g2, g3, g4, hh⟩ := hp
    obtain ⟨q0, f0⟩ := zst_b hTT hst g0 (by decide) (by decide)
    obtain ⟨q1, f1⟩ := zst_d hTT hst g1 (by decide) (by decide)
    obtain ⟨q2, f2⟩ := zst_x hTT hst g2 (by decide) (by decide)
    obtain ⟨q3, f3⟩ := zst_y hTT hst g3 (by decide) (by decide)
    obtain ⟨q4, f4⟩ := zst_z hTT hst g4 (by decide) (by decide)
    refine ⟨B, n, st, d, g, wr, kr, dr, mx, dw, i, N, p, q, h0, q0, q1, q2, q3, q4, ?_⟩
    simp only [f0, f1, f2, f3, f4]
    first | exact hh | simpa only using hh | simpa using hh
  rw [if_neg e] at hp ⊢
  clear e
  by_cases e : j = 442
  · subst e
    rw [if_pos rfl] at hp ⊢
    obtain ⟨B, n, st, d, g, mx, dw, kd, a, h0, g0, g1, hh⟩ := hp
    obtain ⟨q0, f0⟩ := zst_b hTT hst g0 (by decide) (by decide)
    obtain ⟨q1, f1⟩ := zst_d hTT hst g1 (by decide) (by decide)
    refine ⟨B, n, st, d, g, mx, dw, kd, a, h0, q0, q1, ?_⟩
    simp only [f0, f1]
    first | exact hh | simpa only using hh | simpa using hh
  rw [if_neg e] at hp ⊢
  clear e
  by_cases e : j = 444
  · subst e
    rw [if_pos rfl] at hp ⊢
    obtain ⟨kr, i, k, h0, g0, hh⟩ := hp
    obtain ⟨q0, f0⟩ := zst_y hTT hst g0 (by decide) (by decide)
    refine ⟨kr, i, k, h0, q0, ?_⟩
    simp only [f0]
    first | exact hh | simpa only using hh | simpa using hh
  rw [if_neg e] at hp ⊢
  clear e
  by_cases e : j = 445
  · subst e
    rw [if_pos rfl] at hp ⊢
    obtain ⟨kr, N, k, h0, g0, hh⟩ := hp
    obtain ⟨q0, f0⟩ := zst_y hTT hst g0 (by decide) (by decide)
    refine ⟨kr, N, k, h0, q0, ?_⟩
    simp only [f0]
    first | exact hh | simpa only using hh | simpa using hh
  rw [if_neg e] at hp ⊢
  clear e
  by_cases e : j = 450
  · subst e
    rw [if_pos rfl] at hp ⊢
    obtain ⟨B, n, im, d, f, mx, dw, r, h0, g0, g1, hh⟩ := hp
    obtain ⟨q0, f0⟩ := zst_b hTT hst g0 (by decide) (by decide)
    obtain ⟨q1, f1⟩ := zst_s hTT hst g1 (by decide) (by decide)
    refine ⟨B, n, im, d, f, mx, dw, r, h0, q0, q1, ?_⟩
    simp only [f0, f1]
    first | exact hh | simpa only using hh | simpa using hh
  rw [if_neg e] at hp ⊢
  clear e
  by_cases e : j = 451
  · subst e
    rw [if_pos rfl] at hp ⊢
    obtain ⟨B, n, st, d, g, mx, dw, r, h0, g0, g1, hh⟩ := hp
    obtain ⟨q0, f0⟩ := zst_b hTT hst g0 (by decide) (by decide)
    obtain ⟨q1, f1⟩ := zst_d hTT hst g1 (by decide) (by decide)
    refine ⟨B, n, st, d, g, mx, dw, r, h0, q0, q1, ?_⟩
    simp only [f0, f1]
    first | exact hh | simpa only using hh | simpa using hh
  rw [if_neg e] at hp ⊢
  clear e
  by_cases e : j = 459
  · subst e
    rw [if_pos rfl] at hp ⊢
    obtain ⟨o, q, h0, g0, g1, hh⟩ := hp
    obtain ⟨q0, fn0_0, fn0_1, fn0_2, fn0_3, fn0_4⟩ := zst_D hTT hst hT hT' g0 (by decide) (by decide) (by decide) (by decide) (by decide)
    obtain ⟨q1, fn1_0, fn1_1, fn1_2, fn1_3, fn1_4⟩ := zst_D hTT hst hT hT' g1 (by decide) (by decide) (by decide) (by decide) (by decide)
    refine ⟨o, q, h0, q0, q1, ?_⟩
    simp only [fn0_0, fn0_1, fn0_2, fn0_3, fn0_4, fn1_0, fn1_1, fn1_2, fn1_3, fn1_4]
    first | exact hh | simpa only using hh | simpa using hh
  rw [if_neg e] at hp ⊢
  clear e
  by_cases e : j = 463
  · subst e
    rw [if_pos rfl] at hp ⊢
    obtain ⟨o, oa, ob, oc, h0, g0, g1, g2, g3, hh⟩ := hp
    obtain ⟨q0, fn0_0, fn0_1, fn0_2, fn0_3, fn0_4⟩ := zst_D hTT hst hT hT' g0 (by decide) (by decide) (by decide) (by decide) (by decide)
    obtain ⟨q1, fn1_0, fn1_1, fn1_2, fn1_3, fn1_4⟩ := zst_D hTT hst hT hT' g1 (by decide) (by decide) (by decide) (by decide) (by decide)
    obtain ⟨q2, fn2_0, fn2_1, fn2_2, fn2_3, fn2_4⟩ := zst_D hTT hst hT hT' g2 (by decide) (by decide) (by decide) (by decide) (by decide)
    obtain ⟨q3, fn3_0, fn3_1, fn3_2, fn3_3, fn3_4⟩ := zst_D hTT hst hT hT' g3 (by decide) (by decide) (by decide) (by decide) (by decide)
    refine ⟨o, oa, ob, oc, h0, q0, q1, q2, q3, ?_⟩
    simp only [fn0_0, fn0_1, fn0_2, fn0_3, fn0_4, fn1_0, fn1_1, fn1_2, fn1_3, fn1_4, fn2_0, fn2_1, fn2_2, fn2_3, fn2_4, fn3_0, fn3_1, fn3_2, fn3_3, fn3_4]
    first | exact hh | simpa only using hh | simpa using hh
  rw [if_neg e] at hp ⊢
  clear e
  by_cases e : j = 465
  · subst e
    rw [if_pos rfl] at hp ⊢
    obtain ⟨B, n, im, d, f, o, mx, dw, N, h0, g0, g1, g2, hh⟩ := hp
    obtain ⟨q0, f0⟩ := zst_b hTT hst g0 (by decide) (by decide)
    obtain ⟨q1, f1⟩ := zst_s hTT hst g1 (by decide) (by decide)
    obtain ⟨q2, fn2_0, fn2_1, fn2_2, gn2_0, gn2_1, gn2_2⟩ := zst_L hTT hst hT hT' g2 (by decide) (by decide) (by decide) (by decide) (by decide) (by decide)
    refine ⟨B, n, im, d, f, o, mx, dw, N, h0, q0, q1, q2, ?_⟩
    simp only [f0, f1, fn2_0, fn2_1, fn2_2, gn2_0, gn2_1, gn2_2]
    first | exact hh | simpa only using hh | simpa using hh
  rw [if_neg e] at hp ⊢
  clear e
  by_cases e : j = 469
  · subst e
    rw [if_pos rfl] at hp ⊢
    obtain ⟨B, n, st, d, g, wr, kr, dr, mx, dw, N, b, h0, g0, g1, g2, g3, g4, hh⟩ := hp
    obtain ⟨q0, f0⟩ := zst_b hTT hst g0 (by decide) (by decide)
    obtain ⟨q1, f1⟩ := zst_d hTT hst g1 (by decide) (by decide)
    obtain ⟨q2, f2⟩ := zst_x hTT hst g2 (by decide) (by decide)
    obtain ⟨q3, f3⟩ := zst_y hTT hst g3 (by decide) (by decide)
    obtain ⟨q4, f4⟩ := zst_z hTT hst g4 (by decide) (by decide)
    refine ⟨B, n, st, d, g, wr, kr, dr, mx, dw, N, b, h0, q0, q1, q2, q3, q4, ?_⟩
    simp only [f0, f1, f2, f3, f4]
    first | exact hh | simpa only using hh | simpa using hh
  rw [if_neg e] at hp ⊢
  clear e
  by_cases e : j = 466
  · subst e
    rw [if_pos rfl] at hp ⊢
    obtain ⟨wr, b, i, h0, g0, hh⟩ := hp
    obtain ⟨q0, f0⟩ := zst_x hTT hst g0 (by decide) (by decide)
    refine ⟨wr, b, i, h0, q0, ?_⟩
    simp only [f0]
    first | exact hh | simpa only using hh | simpa using hh
  rw [if_neg e] at hp ⊢
  clear e
  by_cases e : j = 467
  · subst e
    rw [if_pos rfl] at hp ⊢
    obtain ⟨kr, b, i, h0, g0, hh⟩ := hp
    obtain ⟨q0, f0⟩ := zst_y hTT hst g0 (by decide) (by decide)
    refine ⟨kr, b, i, h0, q0, ?_⟩
    simp only [f0]
    first | exact hh | simpa only using hh | simpa using hh
  rw [if_neg e] at hp ⊢
  clear e
  by_cases e : j = 468
  · subst e
    rw [if_pos rfl] at hp ⊢
    obtain ⟨dr, b, i, h0, g0, hh⟩ := hp
    obtain ⟨q0, f0⟩ := zst_z hTT hst g0 (by decide) (by decide)
    refine ⟨dr, b, i, h0, q0, ?_⟩
    simp only [f0]
    first | exact hh | simpa only using hh | simpa using hh
  rw [if_neg e] at hp ⊢
  clear e
  by_cases e : j = 460
  · subst e
    rw [if_pos rfl] at hp ⊢
    obtain ⟨o, N, wr, kr, dr, h0, g0, g1, g2, g3, hh⟩ := hp
    obtain ⟨q0, fn0_0, fn0_1, fn0_2, gn0_0, gn0_1, gn0_2⟩ := zst_L hTT hst hT hT' g0 (by decide) (by decide) (by decide) (by decide) (by decide) (by decide)
    obtain ⟨q1, f1⟩ := zst_x hTT hst g1 (by decide) (by decide)
    obtain ⟨q2, f2⟩ := zst_y hTT hst g2 (by decide) (by decide)
    obtain ⟨q3, f3⟩ := zst_z hTT hst g3 (by decide) (by decide)
    refine ⟨o, N, wr, kr, dr, h0, q0, q1, q2, q3, ?_⟩
    simp only [f1, f2, f3, fn0_0, fn0_1, fn0_2, gn0_0, gn0_1, gn0_2]
    first | exact hh | simpa only using hh | simpa using hh
  rw [if_neg e] at hp ⊢
  clear e
  by_cases e : j = 461
  · subst e
    rw [if_pos rfl] at hp ⊢
    obtain ⟨o, N, wr, kr, dr, h0, g0, g1, g2, g3, hh⟩ := hp
    obtain ⟨q0, fn0_0, fn0_1, fn0_2, gn0_0, gn0_1, gn0_2⟩ := zst_L hTT hst hT hT' g0 (by decide) (by decide) (by decide) (by decide) (by decide) (by decide)
    obtain ⟨q1, f1⟩ := zst_x hTT hst g1 (by decide) (by decide)
    obtain ⟨q2, f2⟩ := zst_y hTT hst g2 (by decide) (by decide)
    obtain ⟨q3, f3⟩ := zst_z hTT hst g3 (by decide) (by decide)
    refine ⟨o, N, wr, kr, dr, h0, q0, q1, q2, q3, ?_⟩
    simp only [f1, f2, f3, fn0_0, fn0_1, fn0_2, gn0_0, gn0_1, gn0_2]
    first | exact hh | simpa only using hh | simpa using hh
  rw [if_neg e] at hp ⊢
  clear e
  by_cases e : j = 462
  · subst e
    rw [if_pos rfl] at hp ⊢
    obtain ⟨o, N, wr, kr, dr, h0, g0, g1, g2, g3, hh⟩ := hp
    obtain ⟨q0, fn0_0, fn0_1, fn0_2, gn0_0, gn0_1, gn0_2⟩ := zst_L hTT hst hT hT' g0 (by decide) (by decide) (by decide) (by decide) (by decide) (by decide)
    obtain ⟨q1, f1⟩ := zst_x hTT hst g1 (by decide) (by decide)
    obtain ⟨q2, f2⟩ := zst_y hTT hst g2 (by decide) (by decide)
    obtain ⟨q3, f3⟩ := zst_z hTT hst g3 (by decide) (by decide)
    refine ⟨o, N, wr, kr, dr, h0, q0, q1, q2, q3, ?_⟩
    simp only [f1, f2, f3, fn0_0, fn0_1, fn0_2, gn0_0, gn0_1, gn0_2]
    first | exact hh | simpa only using hh | simpa using hh
  rw [if_neg e] at hp ⊢
  clear e
  by_cases e : j = 470
  · subst e
    rw [if_pos rfl] at hp ⊢
    obtain ⟨o, N, h0, g0, hh⟩ := hp
    obtain ⟨q0, fn0_5, fn0_6⟩ := zst_T hTT hst hT hT' g0 (by decide) (by decide)
    refine ⟨o, N, h0, q0, ?_⟩
    simp only [fn0_5, fn0_6]
    first | exact hh | simpa only using hh | simpa using hh
  rw [if_neg e] at hp ⊢
  clear e
  by_cases e : j = 471
  · subst e
    rw [if_pos rfl] at hp ⊢
    obtain ⟨o, N, h0, g0, hh⟩ := hp
    obtain ⟨q0, fn0_5, fn0_6⟩ := zst_T hTT hst hT hT' g0 (by decide) (by decide)
    refine ⟨o, N, h0, q0, ?_⟩
    simp only [fn0_5, fn0_6]
    first | exact hh | simpa only using hh | simpa using hh
  rw [if_neg e] at hp ⊢
  clear e
  by_cases e : j = 472
  · subst e
    rw [if_pos rfl] at hp ⊢
    obtain ⟨o, N, h0, g0, hh⟩ := hp
    obtain ⟨q0, fn0_5, fn0_6⟩ := zst_T hTT hst hT hT' g0 (by decide) (by decide)
    refine ⟨o, N, h0, q0, ?_⟩
    simp only [fn0_5, fn0_6]
    first | exact hh | simpa only using hh | simpa using hh
  rw [if_neg e] at hp ⊢
  clear e
  by_cases e : j = 473
  · subst e
    rw [if_pos rfl] at hp ⊢
    obtain ⟨o, N, h0, g0, hh⟩ := hp
    obtain ⟨q0, fn0_5, fn0_6⟩ := zst_T hTT hst hT hT' g0 (by decide) (by decide)
    refine ⟨o, N, h0, q0, ?_⟩
    simp only [fn0_5, fn0_6]
    first | exact hh | simpa only using hh | simpa using hh
  rw [if_neg e] at hp ⊢
  clear e
  by_cases e : j = 474
  · subst e
    rw [if_pos rfl] at hp ⊢
    obtain ⟨o, P, i, r, h0, g0, g1, hh⟩ := hp
    obtain ⟨q0, fn0_0, fn0_1, fn0_2, gn0_0, gn0_1, gn0_2⟩ := zst_L hTT hst hT hT' g0 (by decide) (by decide) (by decide) (by decide) (by decide) (by decide)
    obtain ⟨q1, fn1_5, fn1_6⟩ := zst_T hTT hst hT hT' g1 (by decide) (by decide)
    refine ⟨o, P, i, r, h0, q0, q1, ?_⟩
    simp only [fn0_0, fn0_1, fn0_2, gn0_0, gn0_1, gn0_2, fn1_5, fn1_6]
    first | exact hh | simpa only using hh | simpa using hh
  rw [if_neg e] at hp ⊢
  clear e
  by_cases e : j = 475
  · subst e
    rw [if_pos rfl] at hp ⊢
    obtain ⟨kr, sd, P, i, N, r, h0, g0, hh⟩ := hp
    obtain ⟨q0, f0⟩ := zst_y hTT hst g0 (by decide) (by decide)
    refine ⟨kr, sd, P, i, N, r, h0, q0, ?_⟩
    simp only [f0]
    first | exact hh | simpa only using hh | simpa using hh
  rw [if_neg e] at hp ⊢
  clear e
  by_cases e : j = 477
  · subst e
    rw [if_pos rfl] at hp ⊢
    obtain ⟨o, q, N, i, j, n, h0, g0, g1, hh⟩ := hp
    obtain ⟨q0, fn0_0, fn0_1, fn0_2, gn0_0, gn0_1, gn0_2⟩ := zst_L hTT hst hT hT' g0 (by decide) (by decide) (by decide) (by decide) (by decide) (by decide)
    obtain ⟨q1, fn1_0, fn1_1, fn1_2, gn1_0, gn1_1, gn1_2⟩ := zst_L hTT hst hT hT' g1 (by decide) (by decide) (by decide) (by decide) (by decide) (by decide)
    refine ⟨o, q, N, i, j, n, h0, q0, q1, ?_⟩
    simp only [fn0_0, fn0_1, fn0_2, gn0_0, gn0_1, gn0_2, fn1_0, fn1_1, fn1_2, gn1_0, gn1_1, gn1_2]
    first | exact hh | simpa only using hh | simpa using hh
  rw [if_neg e] at hp ⊢
  clear e
  by_cases e : j = 478
  · subst e
    rw [if_pos rfl] at hp ⊢
    obtain ⟨wr, kr, N, i, j, n, h0, g0, g1, hh⟩ := hp
    obtain ⟨q0, f0⟩ := zst_x hTT hst g0 (by decide) (by decide)
    obtain ⟨q1, f1⟩ := zst_y hTT hst g1 (by decide) (by decide)
    refine ⟨wr, kr, N, i, j, n, h0, q0, q1, ?_⟩
    simp only [f0, f1]
    first | exact hh | simpa only using hh | simpa using hh
  rw [if_neg e] at hp ⊢
  clear e
  by_cases e : j = 479
  · subst e
    rw [if_pos rfl] at hp ⊢
    obtain ⟨nu, o, P, i, h0, g0, g1, hh⟩ := hp
    obtain ⟨q0, f0⟩ := zst_n hTT hst g0 (by decide) (by decide)
    obtain ⟨q1, fn1_0, fn1_1, fn1_2, gn1_0, gn1_1, gn1_2⟩ := zst_L hTT hst hT hT' g1 (by decide) (by decide) (by decide) (by decide) (by decide) (by decide)
    refine ⟨nu, o, P, i, h0, q0, q1, ?_⟩
    simp only [f0, fn1_0, fn1_1, fn1_2, gn1_0, gn1_1, gn1_2]
    first | exact hh | simpa only using hh | simpa using hh
  rw [if_neg e] at hp ⊢
  clear e
  by_cases e : j = 480
  · subst e
    rw [if_pos rfl] at hp ⊢
    obtain ⟨nu, m, h, i, w, h0, g0, hh⟩ := hp
    obtain ⟨q0, f0⟩ := zst_n hTT hst g0 (by decide) (by decide)
    refine ⟨nu, m, h, i, w, h0, q0, ?_⟩
    simp only [f0]
    first | exact hh | simpa only using hh | simpa using hh
  rw [if_neg e] at hp ⊢
  clear e
  by_cases e : j = 481
  · subst e
    rw [if_pos rfl] at hp ⊢
    obtain ⟨o, P, m, h, w, h0, g0, g1, hh⟩ := hp
    obtain ⟨q0, fn0_0, fn0_1, fn0_2, gn0_0, gn0_1, gn0_2⟩ := zst_L hTT hst hT hT' g0 (by decide) (by decide) (by decide) (by decide) (by decide) (by decide)
    obtain ⟨q1, fn1_5, fn1_6⟩ := zst_T hTT hst hT hT' g1 (by decide) (by decide)
    refine ⟨o, P, m, h, w, h0, q0, q1, ?_⟩
    simp only [fn0_0, fn0_1, fn0_2, gn0_0, gn0_1, gn0_2, fn1_5, fn1_6]
    first | exact hh | simpa only using hh | simpa using hh
  rw [if_neg e] at hp ⊢
  clear e
  by_cases e : j = 482
  · subst e
    rw [if_pos rfl] at hp ⊢
    obtain ⟨kr, sd, P, N, m, h, w, h0, g0, hh⟩ := hp
    obtain ⟨q0, f0⟩ := zst_y hTT hst g0 (by decide) (by decide)
    refine ⟨kr, sd, P, N, m, h, w, h0, q0, ?_⟩
    simp only [f0]
    first | exact hh | simpa only using hh | simpa using hh
  rw [if_neg e] at hp ⊢
  clear e
  by_cases e : j = 483
  · subst e
    rw [if_pos rfl] at hp ⊢
    obtain ⟨kr, sd, P, m, h, i, j, w, h0, g0, hh⟩ := hp
    obtain ⟨q0, f0⟩ := zst_y hTT hst g0 (by decide) (by decide)
    refine ⟨kr, sd, P, m, h, i, j, w, h0, q0, ?_⟩
    simp only [f0]
    first | exact hh | simpa only using hh | simpa using hh
  rw [if_neg e] at hp ⊢
  clear e
  by_cases e : j = 484
  · subst e
    rw [if_pos rfl] at hp ⊢
    obtain ⟨kr, sd, P, N, m, h, w, h0, g0, hh⟩ := hp
    obtain ⟨q0, f0⟩ := zst_y hTT hst g0 (by decide) (by decide)
    refine ⟨kr, sd, P, N, m, h, w, h0, q0, ?_⟩
    simp only [f0]
    first | exact hh | simpa only using hh | simpa using hh
  rw [if_neg e] at hp ⊢
  clear e
  exact hp.elim
end
section
variable {D : zD} {ua : Nat → Nat} {ty ty' : Nat → Nat} {H H' : Heap} {j : Nat}
theorem zPN_st (hD : zk_d2 D ua) (hTT : D.TT = zTT) (hz : zty ua ty) {vs : List Int} (hst : zk_st D (zPF j) (zPB j) ty H ty' H') (hT : zk_T D ty H) (hT' : zk_T D ty' H') (hp : zPN ua D.dI ty j (zi H) vs) : zPN ua D.dI ty' j (zi H') vs := by
  have sa : ∀ {a t : Nat}, ty a = t + 1 → t ∈ zPB j → (zTT t).1 ≠ 0 → ∀ k, zi H' a k = zi H a k := by
    intro a t h1 h2 h3 k
    have := hst.2.1 _ _ h1 (by rw [hTT]; exact h3) h2
    unfold zi
    rw [this]
  have sf : ∀ {a t : Nat}, ty a = t + 1 → ∀ {k : Nat}, (t, k) ∈ zPF j → (zTT t).1 = 0 → k < (zTT t).2.2.length → (zTT t).2.1 = 9 → zi H' a (D.dI 9 k) = zi H a (D.dI 9 k) := by
    intro a t h1 k h2 h3 h4 h5
    have a1 := zk_T_lt hT (a := a) (by rw [h1]; omega)
    have a2 := zk_T_lt hT' (a := a) (by rw [hst.1 _ _ h1]; omega)
    have e0 : H[a]? = some H[a] := Array.getElem?_eq_getElem a1
    have e1 : H'[a]? = some H'[a] := Array.getElem?_eq_getElem a2
    have := hst.2.2 _ _ h1 (by rw [hTT]; exact h3) k (by rw [hTT]; exact h4) h2 _ _ e0 e1
    rw [hTT, h5] at this
    unfold zi
    rw [e0, e1]
    dsimp only
    rw [this]
  unfold zPN at hp ⊢
  by_cases e : j = 331
  · subst e
    rw [if_pos rfl] at hp ⊢
    obtain ⟨x, h1, ⟨h2, h3, h4⟩, h5⟩ := hp
    refine ⟨x, h1, ?_⟩
    have f0 := sf h3 (k := 0) (by decide) (by decide) (by decide) (by decide)
    have f1 := sf h3 (k := 1) (by decide) (by decide) (by decide) (by decide)
    have f2 := sf h3 (k := 2) (by decide) (by decide) (by decide) (by decide)
    have f3 := sf h3 (k := 3) (by decide) (by decide) (by decide) (by decide)
    have f4 := sf h3 (k := 4) (by decide) (by decide) (by decide) (by decide)
    have a0 := sa h4 (by decide) (by decide)
    unfold zf_tt at h5 ⊢
    simp only [f0, f1, f2, f3, f4, a0]
    exact ⟨⟨h2, hst.1 _ _ h3, hst.1 _ _ h4⟩, h5⟩
  rw [if_neg e] at hp ⊢
  clear e
  by_cases e : j = 332
  · subst e
    rw [if_pos rfl] at hp ⊢
    obtain ⟨x, h1, ⟨h2, h3, h4⟩, h5⟩ := hp
    refine ⟨x, h1, ?_⟩
    have f0 := sf h3 (k := 0) (by decide) (by decide) (by decide) (by decide)
    have f1 := sf h3 (k := 1) (by decide) (by decide) (by decide) (by decide)
    have f2 := sf h3 (k := 2) (by decide) (by decide) (by decide) (by decide)
    have f3 := sf h3 (k := 3) (by decide) (by decide) (by decide) (by decide)
    have f4 := sf h3 (k := 4) (by decide) (by decide) (by decide) (by decide)
    have a0 := sa h4 (by decide) (by decide)
    unfold zf_tt at h5 ⊢
    simp only [f0, f1, f2, f3, f4, a0]
    exact ⟨⟨h2, hst.1 _ _ h3, hst.1 _ _ h4⟩, h5⟩
  rw [if_neg e] at hp ⊢
  clear e
  by_cases e : j = 333
  · subst e
    rw [if_pos rfl] at hp ⊢
    obtain ⟨x, n, h1, ⟨h2, h3, h4⟩, h5⟩ := hp
    refine ⟨x, n, h1, ?_⟩
    have f0 := sf h3 (k := 0) (by decide) (by decide) (by decide) (by decide)
    have f2 := sf h3 (k := 2) (by decide) (by decide) (by decide) (by decide)
    have f3 := sf h3 (k := 3) (by decide) (by decide) (by decide) (by decide)
    have f4 := sf h3 (k := 4) (by decide) (by decide) (by decide) (by decide)
    have a0 := sa h4 (by decide) (by decide)
    unfold zf_tt at h5 ⊢
    simp only [f0, f2, f3, f4, a0]
    exact ⟨⟨h2, hst.1 _ _ h3, hst.1 _ _ h4⟩, h5⟩
  rw [if_neg e] at hp ⊢
  clear e
  by_cases e : j = 334
  · subst e
    rw [if_pos rfl] at hp ⊢
    obtain ⟨x, n, h1, ⟨h2, h3, h4⟩, h5⟩ := hp
    refine ⟨x, n, h1, ?_⟩
    have f0 := sf h3 (k := 0) (by decide) (by decide) (by decide) (by decide)
    have f2 := sf h3 (k := 2) (by decide) (by decide) (by decide) (by decide)
    have f3 := sf h3 (k := 3) (by decide) (by decide) (by decide) (by decide)
    have f4 := sf h3 (k := 4) (by decide) (by decide) (by decide) (by decide)
    have a0 := sa h4 (by decide) (by decide)
    unfold zf_tt at h5 ⊢
    simp only [f0, f2, f3, f4, a0]
    exact ⟨⟨h2, hst.1 _ _ h3, hst.1 _ _ h4⟩, h5⟩
  rw [if_neg e] at hp ⊢
  clear e
  exact zPM_st hTT hz hst hT hT' hp
theorem zPP_st (hD : zk_d2 D ua) (hTT : D.TT = zTT) (hj : 100 ≤ j) {vs : List Int} (hst : zk_st D (zPF j) (zPB j) ty H ty' H') (hT : zk_T D ty H) (hT' : zk_T D ty' H') (h : D.OP j ty H vs) : D.OP j ty' H' vs := by
  obtain ⟨hz, hp⟩ := (hD.1 j hj _ _ _).mp h
  refine (hD.1 j hj _ _ _).mpr ⟨fun q hq => hst.1 _ _ (hz q hq), ?_⟩
  unfold zPW at hp ⊢
  by_cases h300 : 300 ≤ j
  · rw [if_pos h300] at hp ⊢
    exact zPN_st hD hTT hz hst hT hT' hp
  rw [if_neg h300] at hp ⊢
  unfold zPP at hp ⊢
  split at hp
  · rename_i e
    subst e
    rw [if_pos rfl]
    obtain ⟨h1, h2, h3⟩ := hp
    have e0 := zst_ar hTT hz hst (q := (84, 84)) (by decide) (by decide) (by decide) 0
    refine ⟨h1, by rw [e0]; exact h2, fun i hi h => ?_⟩
    rw [e0] at hi
    rw [zst_ar hTT hz hst (q := (86, 86)) (by decide) (by decide) (by decide)] at h
    rw [zst_ar hTT hz hst (q := (88, 88)) (by decide) (by decide) (by decide)]
    exact h3 i hi h
  rename_i n1
  rw [if_neg n1]
  split at hp
  · rename_i e
    subst e
    rw [if_pos rfl]
    obtain ⟨h1, h2, h3⟩ := hp
    have e0 := zst_ar hTT hz hst (q := (84, 84)) (by decide) (by decide) (by decide) 1
    refine ⟨h1, by rw [e0]; exact h2, fun i hi h => ?_⟩
    rw [e0] at hi
    rw [zst_ar hTT hz hst (q := (86, 86)) (by decide) (by decide) (by decide)] at h
    rw [zst_ar hTT hz hst (q := (88, 88)) (by decide) (by decide) (by decide)]
    exact h3 i hi h
  rename_i n2
  rw [if_neg n2]
  split at hp
  · rename_i e
    subst e
    rw [if_pos rfl]
    obtain ⟨k, h1, h3⟩ := hp
    refine ⟨k, h1, fun i hi h => ?_⟩
    rw [zst_ar hTT hz hst (q := (86, 86)) (by decide) (by decide) (by decide)] at h
    rw [zst_ar hTT hz hst (q := (88, 88)) (by decide) (by decide) (by decide)]
    exact h3 i hi h
  rename_i n3
  rw [if_neg n3]
  have hw : (j = 100 ∨ j = 101) → ∀ e, zf_wy ua D.dI (zi H) e → zf_wy ua D.dI (zi H') e := by
    intro hj e h p hp
    obtain ⟨g1, g2, g3⟩ := h p hp
    have m1 : 53 ∈ zPB j ∧ 55 ∈ zPB j ∧ (33, 1) ∈ zPF j ∧ (33, 3) ∈ zPF j := by rcases hj with rfl | rfl <;> decide
    have q0 : (1000 + p, 33) ∈ zUt ∧ (1010 + p, 53) ∈ zUt ∧ (1020 + p, 55) ∈ zUt := by rcases hp with rfl | rfl <;> decide
    refine ⟨by rw [zst_fd hTT hz hst hT hT' q0.1 m1.2.2.1 (show (zTT 33).1 = 0 by decide) (show 1 < (zTT 33).2.2.length by decide) (show (zTT 33).2.1 = 10 by decide)]; exact g1, by rw [zst_fd hTT hz hst hT hT' q0.1 m1.2.2.2 (show (zTT 33).1 = 0 by decide) (show 3 < (zTT 33).2.2.length by decide) (show (zTT 33).2.1 = 10 by decide)]; exact g2, fun i hi h => ?_⟩
    rw [zst_ar hTT hz hst q0.2.1 m1.1 (show (zTT 53).1 ≠ 0 by decide)] at h
    rw [zst_ar hTT hz hst q0.2.2 m1.2.1 (show (zTT 55).1 ≠ 0 by decide)]
    exact g3 i hi h
  split at hp
  · rename_i e
    subst e
    rw [if_pos rfl]
    exact ⟨hp.1, hw (Or.inl rfl) _ hp.2⟩
  rename_i n4
  rw [if_neg n4]
  split at hp
  · rename_i e
    subst e
    rw [if_pos rfl]
    obtain ⟨x, i, h1, h2⟩ := hp
    exact ⟨x, i, h1, hw (Or.inr rfl) _ h2⟩
  rename_i n5
  rw [if_neg n5]
  have fe : ∀ t, (t, t) ∈ zUt → t ∈ zPB j → (zTT t).1 ≠ 0 → zi H' (ua t) = zi H (ua t) := fun t h1 h2 h3 => funext (zst_ar hTT hz hst (q := (t, t)) h1 h2 h3)
  have fh : ∀ k, (43, k) ∈ zPF j → k < 73 → zi H' (ua 43) (D.dI 12 k) = zi H (ua 43) (D.dI 12 k) := fun k h1 h2 => zst_fd hTT hz hst hT hT' (q := (43, 43)) (by decide) h1 (by decide) h2 (by decide)
  by_cases e150 : 150 ≤ j
  · rw [if_pos e150] at hp ⊢
    have hr : 63 ∈ zPB j → (37, 3) ∈ zPF j → (37, 10) ∈ zPF j → ∀ P, zf_hd ua D.dI (zi H) P → zf_hd ua D.dI (zi H') P := by
      intro m1 m2 m3 P h p hp
      obtain ⟨g1, g2⟩ := h p hp
      have q0 : (1030 + p, 37) ∈ zUt ∧ (1040 + p, 63) ∈ zUt := by rcases hp with rfl | rfl <;> decide
      have f1 : zi H' (ua (1040 + p)) = zi H (ua (1040 + p)) := funext (zst_ar hTT hz hst q0.2 m1 (show (zTT 63).1 ≠ 0 by decide))
      rw [zst_fd hTT hz hst hT hT' q0.1 m2 (show (zTT 37).1 = 0 by decide) (show 3 < (zTT 37).2.2.length by decide) (show (zTT 37).2.1 = 3 by decide), zst_fd hTT hz hst hT hT' q0.1 m3 (show (zTT 37).1 = 0 by decide) (show 10 < (zTT 37).2.2.length by decide) (show (zTT 37).2.1 = 3 by decide), f1]
      exact ⟨g1, g2⟩
    unfold zPR at hp ⊢
    by_cases e : j = 150
    · subst e
      rw [if_pos rfl] at hp ⊢
      obtain ⟨h1, h2⟩ := hp
      exact ⟨h1, hr (by decide) (by decide) (by decide) _ h2⟩
    rw [if_neg e] at hp ⊢
    clear e
    by_cases e : j = 151
    · subst e
      rw [if_pos rfl] at hp ⊢
      obtain ⟨x, c, v, h1, h2⟩ := hp
      exact ⟨x, c, v, h1, hr (by decide) (by decide) (by decide) _ h2⟩
    rw [if_neg e] at hp ⊢
    clear e
    by_cases e : j = 152
    · subst e
      rw [if_pos rfl] at hp ⊢
      obtain ⟨x, v, h1, h2⟩ := hp
      exact ⟨x, v, h1, hr (by decide) (by decide) (by decide) _ h2⟩
    rw [if_neg e] at hp ⊢
    clear e
    by_cases e : j = 153
    · subst e
      rw [if_pos rfl] at hp ⊢
      obtain ⟨x, i, h1, h3, h2⟩ := hp
      exact ⟨x, i, h1, h3, hr (by decide) (by decide) (by decide) _ h2⟩
    rw [if_neg e] at hp ⊢
    clear e
    by_cases e : j = 154
    · subst e
      rw [if_pos rfl] at hp ⊢
      obtain ⟨x, i, n, h1, h3, h4, h5, h2⟩ := hp
      exact ⟨x, i, n, h1, h3, h4, h5, hr (by decide) (by decide) (by decide) _ h2⟩
    rw [if_neg e] at hp ⊢
    clear e
    by_cases e : j = 160
    · subst e
      rw [if_pos rfl] at hp ⊢
      exact hp
    rw [if_neg e] at hp ⊢
    clear e
    by_cases e : j = 161
    · subst e
      rw [if_pos rfl] at hp ⊢
      exact hp
    rw [if_neg e] at hp ⊢
    clear e
    by_cases e : j = 162
    · subst e
      rw [if_pos rfl] at hp ⊢
      exact hp
    rw [if_neg e] at hp ⊢
    clear e
    by_cases e : j = 164
    · subst e
      rw [if_pos rfl] at hp ⊢
      exact hp
    rw [if_neg e] at hp ⊢
    clear e
    by_cases e : j = 170
    · subst e
      rw [if_pos rfl] at hp ⊢
      exact hp
    rw [if_neg e] at hp ⊢
    clear e
    by_cases e : j = 171
    · subst e
      rw [if_pos rfl] at hp ⊢
      exact hp
    rw [if_neg e] at hp ⊢
    clear e
    by_cases e : j = 172
    · subst e
      rw [if_pos rfl] at hp ⊢
      exact hp
    rw [if_neg e] at hp ⊢
    clear e
    by_cases e : j = 173
    · subst e
      rw [if_pos rfl] at hp ⊢
      exact hp
    rw [if_neg e] at hp ⊢
    clear e
    by_cases e : j = 174
    · subst e
      rw [if_pos rfl] at hp ⊢
      exact hp
    rw [if_neg e] at hp ⊢
    clear e
    exact hp
  rw [if_neg e150] at hp ⊢
  by_cases e108 : 108 ≤ j ∧ j ≤ 119
  · rw [if_pos e108] at hp ⊢
    unfold zPS at hp ⊢
    by_cases e : j = 108
    · subst e
      rw [if_pos rfl] at hp ⊢
      rw [fh 60 (by decide) (by decide)]
      exact hp
    rw [if_neg e] at hp ⊢
    clear e
    by_cases e : j = 109
    · subst e
      rw [if_pos rfl] at hp ⊢
      exact hp
    rw [if_neg e] at hp ⊢
    clear e
    by_cases e : j = 110
    · subst e
      rw [if_pos rfl] at hp ⊢
      have f6 : ∀ t ∈ [77, 79, 114, 115, 116, 118], zi H' (ua t) = zi H (ua t) := by
        intro t ht
        simp only [List.mem_cons, List.not_mem_nil, or_false] at ht
        rcases ht with rfl | rfl | rfl | rfl | rfl | rfl
        · exact fe 77 (by decide) (by decide) (by decide)
        · exact fe 79 (by decide) (by decide) (by decide)
        · exact fe 114 (by decide) (by decide) (by decide)
        · exact fe 115 (by decide) (by decide) (by decide)
        · exact fe 116 (by decide) (by decide) (by decide)
        · exact fe 118 (by decide) (by decide) (by decide)
      rw [fh 60 (by decide) (by decide), fh 61 (by decide) (by decide), zf_ch_fun f6]
      exact hp
    rw [if_neg e] at hp ⊢
    clear e
    by_cases e : j = 111
    · subst e
      rw [if_pos rfl] at hp ⊢
      have f6 : ∀ t ∈ [77, 79, 114, 115, 116, 118], zi H' (ua t) = zi H (ua t) := by
        intro t ht
        simp only [List.mem_cons, List.not_mem_nil, or_false] at ht
        rcases ht with rfl | rfl | rfl | rfl | rfl | rfl
        · exact fe 77 (by decide) (by decide) (by decide)
        · exact fe 79 (by decide) (by decide) (by decide)
        · exact fe 114 (by decide) (by decide) (by decide)
        · exact fe 115 (by decide) (by decide) (by decide)
        · exact fe 116 (by decide) (by decide) (by decide)
        · exact fe 118 (by decide) (by decide) (by decide)
      simp only [fh 67 (by decide) (by decide), fe 119 (by decide) (by decide) (by decide), zc_t_fun f6]
      exact hp
    rw [if_neg e] at hp ⊢
    clear e
    by_cases e : j = 112
    · subst e
      rw [if_pos rfl] at hp ⊢
      rw [fe 119 (by decide) (by decide) (by decide), fe 79 (by decide) (by decide) (by decide)]
      exact hp
    rw [if_neg e] at hp ⊢
    clear e
    by_cases e : j = 113
    · subst e
      rw [if_pos rfl] at hp ⊢
      rw [fe 119 (by decide) (by decide) (by decide)]
      exact hp
    rw [if_neg e] at hp ⊢
    clear e
    by_cases e : j = 114
    · subst e
      rw [if_pos rfl] at hp ⊢
      have f6 : ∀ t ∈ [77, 79, 114, 115, 116, 118], zi H' (ua t) = zi H (ua t) := by
        intro t ht
        simp only [List.mem_cons, List.not_mem_nil, or_false] at ht
        rcases ht with rfl | rfl | rfl | rfl | rfl | rfl
        · exact fe 77 (by decide) (by decide) (by decide)
        · exact fe 79 (by decide) (by decide) (by decide)
        · exact fe 114 (by decide) (by decide) (by decide)
        · exact fe 115 (by decide) (by decide) (by decide)
        · exact fe 116 (by decide) (by decide) (by decide)
        · exact fe 118 (by decide) (by decide) (by decide)
      simp only [fh 67 (by decide) (by decide), fe 119 (by decide) (by decide) (by decide), zc_t_fun f6]
      exact hp
    rw [if_neg e] at hp ⊢
    clear e
    by_cases e : j = 115
    · subst e
      rw [if_pos rfl] at hp ⊢
      have f6 : ∀ t ∈ [77, 79, 114, 115, 116, 118], zi H' (ua t) = zi H (ua t) := by
        intro t ht
        simp only [List.mem_cons, List.not_mem_nil, or_false] at ht
        rcases ht with rfl | rfl | rfl | rfl | rfl | rfl
        · exact fe 77 (by decide) (by decide) (by decide)
        · exact fe 79 (by decide) (by decide) (by decide)
        · exact fe 114 (by decide) (by decide) (by decide)
        · exact fe 115 (by decide) (by decide) (by decide)
        · exact fe 116 (by decide) (by decide) (by decide)
        · exact fe 118 (by decide) (by decide) (by decide)
      simp only [fh 60 (by decide) (by decide), zc_t_fun f6]
      exact hp
    rw [if_neg e] at hp ⊢
    clear e
    by_cases e : j = 116
    · subst e
      rw [if_pos rfl] at hp ⊢
      have f6 : ∀ t ∈ [77, 79, 114, 115, 116, 118], zi H' (ua t) = zi H (ua t) := by
        intro t ht
        simp only [List.mem_cons, List.not_mem_nil, or_false] at ht
        rcases ht with rfl | rfl | rfl | rfl | rfl | rfl
        · exact fe 77 (by decide) (by decide) (by decide)
        · exact fe 79 (by decide) (by decide) (by decide)
        · exact fe 114 (by decide) (by decide) (by decide)
        · exact fe 115 (by decide) (by decide) (by decide)
        · exact fe 116 (by decide) (by decide) (by decide)
        · exact fe 118 (by decide) (by decide) (by decide)
      simp only [fh 60 (by decide) (by decide), zf_ch_fun f6]
      exact hp
    rw [if_neg e] at hp ⊢
    clear e
    by_cases e : j = 117
    · subst e
      rw [if_pos rfl] at hp ⊢
      rw [fh 67 (by decide) (by decide), fe 119 (by decide) (by decide) (by decide)]
      exact hp
    rw [if_neg e] at hp ⊢
    clear e
    by_cases e : j = 118
    · subst e
      rw [if_pos rfl] at hp ⊢
      rw [fh 67 (by decide) (by decide), fe 119 (by decide) (by decide) (by decide)]
      exact hp
    rw [if_neg e] at hp ⊢
    clear e
    by_cases e : j = 119
    · subst e
      rw [if_pos rfl] at hp ⊢
      have f6 : ∀ t ∈ [77, 79, 114, 115, 116, 118], zi H' (ua t) = zi H (ua t) := by
        intro t ht
        simp only [List.mem_cons, List.not_mem_nil, or_false] at ht
        rcases ht with rfl | rfl | rfl | rfl | rfl | rfl
        · exact fe 77 (by decide) (by decide) (by decide)
        · exact fe 79 (by decide) (by decide) (by decide)
        · exact fe 114 (by decide) (by decide) (by decide)
        · exact fe 115 (by decide) (by decide) (by decide)
        · exact fe 116 (by decide) (by decide) (by decide)
        · exact fe 118 (by decide) (by decide) (by decide)
      simp only [fh 67 (by decide) (by decide), fh 60 (by decide) (by decide), fe 119 (by decide) (by decide) (by decide), zc_t_fun f6]
      exact hp
    rw [if_neg e] at hp ⊢
    clear e
    exact absurd hp (fun z => z)
  rw [if_neg e108] at hp ⊢
  unfold zPQ at hp ⊢
  by_cases e : j = 120
  · subst e
    rw [if_pos rfl] at hp ⊢
    simp only [zf_sw] at hp ⊢
    rw [fe 105 (by decide) (by decide) (by decide), fe 106 (by decide) (by decide) (by decide)]
    exact hp
  rw [if_neg e] at hp ⊢
  clear e
  by_cases e : j = 121
  · subst e
    rw [if_pos rfl] at hp ⊢
    simp only [zf_in, zf_sw] at hp ⊢
    rw [fe 105 (by decide) (by decide) (by decide), fe 106 (by decide) (by decide) (by decide)]
    exact hp
  rw [if_neg e] at hp ⊢
  clear e
  by_cases e : j = 122
  · subst e
    rw [if_pos rfl] at hp ⊢
    simp only [zf_in, zf_sw] at hp ⊢
    rw [fe 105 (by decide) (by decide) (by decide), fe 106 (by decide) (by decide) (by decide)]
    exact hp
  rw [if_neg e] at hp ⊢
  clear e
  by_cases e : j = 123
  · subst e
    rw [if_pos rfl] at hp ⊢
    simp only [zf_in, zf_sw] at hp ⊢
    rw [fe 105 (by decide) (by decide) (by decide), fe 106 (by decide) (by decide) (by decide)]
    exact hp
  rw [if_neg e] at hp ⊢
  clear e
  by_cases e : j = 124
  · subst e
    rw [if_pos rfl] at hp ⊢
    simp only [zf_in, zf_sw] at hp ⊢
    rw [fe 105 (by decide) (by decide) (by decide), fe 106 (by decide) (by decide) (by decide)]
    exact hp
  rw [if_neg e] at hp ⊢
  clear e
  by_cases e : j = 132
  · subst e
    rw [if_pos rfl] at hp ⊢
    simp only [zf_td] at hp ⊢
    rw [fe 111 (by decide) (by decide) (by decide), fe 112 (by decide) (by decide) (by decide)]
    exact hp
  rw [if_neg e] at hp ⊢
  clear e
  by_cases e : j = 133
  · subst e
    rw [if_pos rfl] at hp ⊢
    simp only [zf_td] at hp ⊢
    rw [fe 111 (by decide) (by decide) (by decide), fe 112 (by decide) (by decide) (by decide)]
    exact hp
  rw [if_neg e] at hp ⊢
  clear e
  by_cases e : j = 134
  · subst e
    rw [if_pos rfl] at hp ⊢
    rw [fe 105 (by decide) (by decide) (by decide), fe 111 (by decide) (by decide) (by decide)]
    exact hp
  rw [if_neg e] at hp ⊢
  clear e
  by_cases e : j = 135
  · subst e
    rw [if_pos rfl] at hp ⊢
    rw [fe 105 (by decide) (by decide) (by decide), fe 111 (by decide) (by decide) (by decide)]
    exact hp
  rw [if_neg e] at hp ⊢
  clear e
  by_cases e : j = 136
  · subst e
    rw [if_pos rfl] at hp ⊢
    simp only [zf_wk] at hp ⊢
    rw [fe 111 (by decide) (by decide) (by decide), fe 112 (by decide) (by decide) (by decide)]
    exact hp
  rw [if_neg e] at hp ⊢
  clear e
  by_cases e : j = 137
  · subst e
    rw [if_pos rfl] at hp ⊢
    simp only [zf_wk] at hp ⊢
    rw [fe 111 (by decide) (by decide) (by decide), fe 112 (by decide) (by decide) (by decide)]
    exact hp
  rw [if_neg e] at hp ⊢
  clear e
  by_cases e : j = 138
  · subst e
    rw [if_pos rfl] at hp ⊢
    simp only [zf_wk] at hp ⊢
    rw [fe 111 (by decide) (by decide) (by decide), fe 112 (by decide) (by decide) (by decide)]
    exact hp
  rw [if_neg e] at hp ⊢
  clear e
  by_cases e : j = 139
  · subst e
    rw [if_pos rfl] at hp ⊢
    simp only [zf_wk] at hp ⊢
    rw [fe 111 (by decide) (by decide) (by decide), fe 112 (by decide) (by decide) (by decide)]
    exact hp
  rw [if_neg e] at hp ⊢
  clear e
  exact absurd hp (fun z => z)
end

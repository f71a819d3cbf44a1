/-! THE FACTS, 3: rules. -/
def rS1_86 : zRs := ((1, 86, 0), [(0, 102, 0)], [(0, 3, -30)], (102, []))
def rS5_86 : zRs := ((1, 86, 0), [(0, 103, 0), (1, 84, 0)], [(5, 0, 1), (0, 5, -1), (6, 3, -30)], (103, []))
def rS7_86 : zRs := ((1, 86, 0), [(0, 103, 0)], [(3, 0, 29)], (103, []))
def rS12_86 : zRs := ((1, 86, 0), [(0, 104, 0)], [(4, 3, 0)], (104, [(4, 0)]))
def rS1_88 : zRs := ((1, 88, 0), [(0, 102, 0)], [(0, 3, -30)], (102, []))
def rS5_88 : zRs := ((1, 88, 0), [(0, 103, 0), (1, 84, 0)], [(5, 0, 1), (0, 5, -1), (6, 3, -30)], (103, []))
def rS7_88 : zRs := ((1, 88, 0), [(0, 103, 0)], [(3, 0, 29)], (103, []))
def rS12_88 : zRs := ((1, 88, 0), [(0, 104, 0)], [(4, 3, 0)], (104, [(4, 0)]))
def rS3 : zRs := ((1, 84, 0), [(0, 102, 0)], [(0, 3, -1)], (102, []))
def rS4 : zRs := ((1, 84, 0), [(0, 102, 0)], [(3, 0, 1), (0, 3, -1), (1, 0, 0)], (103, []))
def rS9 : zRs := ((1, 84, 0), [(0, 103, 0), (1, 84, 0), (1, 86, 0)], [(5, 0, 1), (0, 5, -1), (3, 0, 1), (0, 3, -1), (1, 6, 1), (1, 0, 30), (8, 6, 30), (6, 8, -30), (9, 0, 11), (0, 9, -6)], (103, []))
def rS10 : zRs := ((1, 84, 0), [(0, 103, 0), (1, 84, 0), (1, 88, 0)], [(5, 0, 1), (0, 5, -1), (3, 0, 1), (0, 3, -1), (1, 6, 1), (1, 0, 30), (8, 6, 30), (6, 8, -30), (0, 9, 0)], (103, []))
def rS11 : zRs := ((1, 84, 0), [(0, 103, 0)], [(3, 0, 0)], (103, []))
def rW1 : zRs := ((1, 53, 0), [(0, 100, 0), (2, 33, 1)], [(5, 2, 0), (2, 5, 0)], (101, [(4, 0), (3, 0)]))
def rW2 : zRs := ((1, 55, 0), [(0, 101, 0), (2, 33, 3)], [(6, 4, 0), (4, 6, 0), (7, 2, 0), (2, 7, 0), (3, 5, 0), (5, 3, 0), (1, 0, 7)], (100, []))
def rW3 : zRs := ((1, 55, 0), [(0, 101, 0), (2, 33, 3), (2, 33, 1), (1, 53, 0)], [(6, 4, 0), (4, 6, 0), (7, 2, 0), (2, 7, 0), (3, 5, 0), (5, 3, 0), (8, 4, 0), (4, 8, 0), (10, 9, 0), (9, 10, 0), (11, 5, 0), (5, 11, 0), (12, 0, 5)], (100, []))
def rH1_0 : zRs := ((1, 105, 0), [(0, 121, 0), (1, 106, 0)], [(4, 0, 0), (0, 4, 0), (8, 0, 0), (0, 8, 0), (3, 9, 0), (9, 3, 0)], (123, [(1, 0), (6, 0)]))
def rH2_0 : zRs := ((1, 105, 0), [(0, 121, 0), (1, 106, 0)], [(0, 4, -1), (4, 0, 60), (8, 0, 0), (0, 8, 0), (3, 9, 0), (9, 3, 0)], (121, [(4, 0), (5, 0), (6, 0)]))
def rH3_0 : zRs := ((1, 106, 0), [(0, 123, 0), (1, 106, 0)], [(7, 0, 0), (0, 7, 0), (3, 0, 0), (0, 3, 0), (1, 8, 1), (8, 1, -1)], (121, [(0, 1), (4, 0), (5, 0)]))
def rH4_0 : zRs := ((1, 106, 0), [(0, 121, 0), (1, 106, 0)], [(0, 4, -1), (4, 0, 60), (8, 0, 0), (0, 8, 0), (3, 0, 0), (0, 3, 0), (1, 9, 1), (9, 1, -1)], (121, [(4, 1), (5, 0), (6, 0)]))
def rH1_1 : zRs := ((1, 105, 0), [(0, 122, 0), (1, 106, 0)], [(4, 0, 0), (0, 4, 0), (8, 0, 1), (0, 8, -1), (3, 9, 2000), (9, 3, -2000)], (124, [(1, 0), (6, 0)]))
def rH2_1 : zRs := ((1, 105, 0), [(0, 122, 0), (1, 106, 0)], [(0, 4, -1), (4, 0, 60), (8, 0, 1), (0, 8, -1), (3, 9, 2000), (9, 3, -2000)], (122, [(4, 0), (5, 0), (6, 0)]))
def rH3_1 : zRs := ((1, 106, 0), [(0, 124, 0), (1, 106, 0)], [(7, 0, 1), (0, 7, -1), (3, 0, 1), (0, 3, -1), (1, 8, 1), (8, 1, -1)], (122, [(0, 1), (4, 0), (5, 0)]))
def rH4_1 : zRs := ((1, 106, 0), [(0, 122, 0), (1, 106, 0)], [(0, 4, -1), (4, 0, 60), (8, 0, 1), (0, 8, -1), (3, 0, 1), (0, 3, -1), (1, 9, 1), (9, 1, -1)], (122, [(4, 1), (5, 0), (6, 0)]))
def rT1_0 : zRs := ((1, 111, 0), [(0, 132, 0)], [(0, 3, -2000)], (132, []))
def rT2_0 : zRs := ((1, 112, 0), [(0, 132, 0)], [(0, 3, -1)], (132, []))
def rT3_0 : zRs := ((1, 111, 0), [(0, 134, 0), (1, 105, 0)], [(3, 4, 0), (4, 3, 0), (6, 4, 0), (4, 6, 0), (1, 7, 0), (7, 1, 0)], (134, [(4, 1)]))
def rT1_1 : zRs := ((1, 111, 0), [(0, 133, 0)], [(3, 0, 1999)], (133, []))
def rT2_1 : zRs := ((1, 112, 0), [(0, 133, 0)], [(3, 0, 0)], (133, []))
def rT3_1 : zRs := ((1, 111, 0), [(0, 135, 0), (1, 105, 0)], [(3, 4, 2000), (4, 3, -2000), (6, 4, 2000), (4, 6, -2000), (1, 7, 0), (7, 1, 0)], (135, [(4, 1)]))
def rZ1 : zRs := ((1, 63, 0), [(0, 151, 0), (2, 37, 3), (2, 37, 10)], [(7, 4, 0), (4, 7, 0), (9, 4, 0), (4, 9, 0), (8, 2, 0), (2, 8, 0), (3, 10, 0), (10, 3, 0), (3, 0, 1829), (5, 0, 0), (0, 5, 0)], (152, [(4, 0), (1, 0)]))
def rZ2 : zRs := ((1, 63, 0), [(0, 151, 0), (2, 37, 3), (2, 37, 10)], [(7, 4, 0), (4, 7, 0), (9, 4, 0), (4, 9, 0), (8, 2, 0), (2, 8, 0), (3, 10, 0), (10, 3, 0), (3, 0, 1829), (0, 5, -1)], (151, [(4, 0), (5, 0), (6, 0)]))
def rZ3 : zRs := ((0, 37, 10), [(0, 152, 0), (2, 37, 10)], [(5, 3, 0), (3, 5, 0), (2, 3, 0), (3, 2, 0), (1, 6, 1), (6, 1, -1)], (151, [(3, 0), (0, 1), (4, 0)]))
def rZ4 : zRs := ((0, 37, 10), [(0, 151, 0), (2, 37, 10)], [(6, 3, 0), (3, 6, 0), (2, 3, 0), (3, 2, 0), (1, 7, 1), (7, 1, -1), (0, 4, -1), (7, 0, 1829)], (151, [(3, 0), (4, 1), (5, 0)]))
def rZ5 : zRs := ((0, 37, 10), [(0, 150, 0)], [(1, 0, 0), (0, 1, 0)], (150, []))
def rD1 : zRs := ((1, 79, 0), [(0, 110, 0)], [(0, 3, -80)], (110, []))
def rD2 : zRs := ((1, 77, 0), [(0, 110, 0)], [(0, 3, -2)], (110, []))
def rD3_114 : zRs := ((1, 114, 0), [(0, 110, 0), (2, 43, 60)], [(5, 3, 0)], (110, []))
def rD4_114 : zRs := ((1, 114, 0), [(0, 115, 0), (2, 43, 60)], [(8, 3, 0)], (115, [(4, 0), (5, 0), (6, 0)]))
def rD3_115 : zRs := ((1, 115, 0), [(0, 110, 0), (2, 43, 60)], [(5, 3, 0)], (110, []))
def rD4_115 : zRs := ((1, 115, 0), [(0, 115, 0), (2, 43, 60)], [(8, 3, 0)], (115, [(4, 0), (5, 0), (6, 0)]))
def rD3_116 : zRs := ((1, 116, 0), [(0, 110, 0), (2, 43, 60)], [(5, 3, 0)], (110, []))
def rD4_116 : zRs := ((1, 116, 0), [(0, 115, 0), (2, 43, 60)], [(8, 3, 0)], (115, [(4, 0), (5, 0), (6, 0)]))
def rD3_118 : zRs := ((1, 118, 0), [(0, 110, 0), (2, 43, 60)], [(5, 3, 0)], (110, []))
def rD4_118 : zRs := ((1, 118, 0), [(0, 115, 0), (2, 43, 60)], [(8, 3, 0)], (115, [(4, 0), (5, 0), (6, 0)]))
def rD5 : zRs := ((0, 43, 60), [(0, 109, 0)], [(1, 0, 0), (0, 1, 0)], (108, []))
def rD6 : zRs := ((0, 43, 60), [(0, 110, 0), (2, 43, 60), (2, 43, 61), (1, 114, 0), (1, 115, 0), (1, 116, 0), (1, 118, 0)], [(8, 4, 0), (4, 8, 0), (11, 4, 0), (4, 11, 0), (14, 4, 0), (4, 14, 0), (17, 4, 0), (4, 17, 0), (1, 4, 1), (4, 1, -1), (6, 12, 0), (0, 18, -1), (0, 9, 0), (9, 0, 1)], (116, [(12, 0)]))
def rD7 : zRs := ((0, 43, 60), [(0, 110, 0), (2, 43, 60), (2, 43, 61), (1, 114, 0), (1, 115, 0), (1, 116, 0), (1, 118, 0), (0, 115, 0)], [(8, 4, 0), (4, 8, 0), (11, 4, 0), (4, 11, 0), (14, 4, 0), (4, 14, 0), (17, 4, 0), (4, 17, 0), (1, 4, 1), (4, 1, -1), (6, 12, 0), (9, 19, 0), (19, 9, 0), (12, 20, 0), (20, 12, 0), (15, 21, 0), (21, 15, 0)], (116, [(12, 0)]))
def rD8 : zRs := ((0, 43, 61), [(0, 116, 0)], [(1, 3, 0), (3, 1, 0)], (110, []))
def rD9 : zRs := ((1, 119, 0), [(0, 112, 0), (1, 79, 0)], [(4, 0, 0), (0, 4, 0), (3, 5, 0), (5, 3, 0), (7, 5, 0), (5, 7, 0), (1, 8, 0), (8, 1, 0)], (112, [(4, 0), (5, 1)]))
def rD10 : zRs := ((1, 119, 0), [(0, 112, 0), (1, 79, 0)], [(4, 0, 1), (0, 4, -1), (3, 5, 0), (5, 3, 0), (7, 5, 40), (5, 7, -40), (1, 8, 0), (8, 1, 0)], (112, [(4, 0), (5, 1)]))
def rD11 : zRs := ((1, 119, 0), [(0, 111, 0), (2, 43, 67)], [(8, 3, 0)], (111, [(4, 0), (5, 0), (6, 0)]))
def rD12 : zRs := ((0, 43, 67), [(0, 111, 0), (2, 43, 67), (1, 119, 0), (1, 114, 0), (1, 115, 0), (1, 116, 0), (1, 118, 0)], [(9, 7, 0), (7, 9, 0), (10, 19, 0), (19, 10, 0), (12, 5, 0), (5, 12, 0), (15, 5, 0), (5, 15, 0), (18, 5, 0), (5, 18, 0), (21, 5, 0), (5, 21, 0), (13, 3, 0), (3, 13, 0), (16, 4, 0), (0, 22, -1), (1, 7, 1), (7, 1, -1)], (111, [(3, 0), (4, 0), (5, 1)]))
def rD13 : zRs := ((0, 43, 67), [(0, 111, 0), (0, 118, 0), (2, 43, 67), (1, 114, 0), (1, 115, 0), (1, 116, 0), (1, 118, 0)], [(6, 18, 0), (18, 6, 0), (11, 5, 0), (5, 11, 0), (14, 5, 0), (5, 14, 0), (17, 5, 0), (5, 17, 0), (20, 5, 0), (5, 20, 0), (12, 3, 0), (3, 12, 0), (15, 4, 0), (21, 0, 0), (1, 9, -1), (9, 1, 1)], (114, [(3, 0), (4, 0), (5, 0), (7, 0)]))
def rD14 : zRs := ((1, 119, 0), [(0, 114, 0), (2, 43, 67), (1, 119, 0)], [(11, 9, 0), (9, 11, 0), (3, 7, 0), (7, 3, 0), (1, 12, 0), (12, 1, 0)], (111, [(4, 0), (5, 0), (6, 1)]))
def rU10 : zRu := (10, [(0, 103, 0)], [], [([], [(104, [(0, 0)])])])
def rU11 : zRu := (11, [(0, 103, 0), (0, 104, 0), (1, 84, 0), (1, 86, 0), (1, 86, 0), (1, 88, 0), (1, 88, 0)], [(3, 0, 1), (0, 3, -1), (6, 1, 0), (1, 6, 0), (9, 1, 30), (1, 9, -30), (12, 1, 0), (1, 12, 0), (15, 1, 30), (1, 15, -30), (1, 4, -1), (7, 10, 0), (10, 7, 0), (16, 13, 0)], [([], [(104, [(1, 1)])])])
def rU12 : zRu := (12, [(0, 104, 0), (1, 84, 0)], [(3, 0, 0), (4, 1, 0), (4, 0, 30)], [([], [(102, [])])])
def rU13 : zRu := (13, [(0, 102, 0), (1, 84, 0), (1, 86, 0), (1, 88, 0)], [(2, 0, 0), (5, 3, -1), (8, 5, 0), (5, 8, 0), (0, 6, -12)], [([(0, 9, 0)], [])])
def rU14 : zRu := (14, [(0, 102, 0), (1, 84, 0), (1, 86, 0), (1, 88, 0)], [(2, 0, 0), (5, 3, -1), (8, 5, 0), (5, 8, 0), (6, 0, 5)], [([(0, 9, 0)], [])])
def rU20 : zRu := (20, [(0, 100, 0), (2, 33, 1), (1, 53, 0), (2, 33, 3), (1, 55, 0)], [(6, 1, 0), (1, 6, 0), (3, 2, 0), (2, 3, 0), (8, 7, 0), (7, 8, 0), (9, 4, 0), (4, 9, 0), (0, 5, -6)], [([(10, 0, 7)], [])])
def rU30 : zRu := (30, [(0, 120, 0)], [(1, 0, 29), (0, 1, 0)], [([], [(121, [(0, 0), (0, 0), (1, 0)])])])
def rU32 : zRu := (32, [(0, 121, 0), (1, 106, 0)], [(5, 0, 0), (0, 5, 0), (1, 0, 60)], [([(6, 0, 1829), (0, 6, 0)], [])])
def rU34 : zRu := (34, [(0, 121, 0)], [(2, 0, -1), (0, 2, 1), (1, 0, 2), (0, 1, -2)], [([], [(120, [(3, 1)])])])
def rU36 : zRu := (36, [(0, 121, 0)], [(0, 2, 0), (2, 0, 60), (1, 2, 1), (2, 1, -1)], [([], [(120, [(3, 1)])])])
def rU31 : zRu := (31, [(0, 120, 0)], [(1, 0, 29), (0, 1, 0)], [([], [(122, [(0, 0), (0, 0), (1, 0)])])])
def rU33 : zRu := (33, [(0, 122, 0), (1, 106, 0)], [(5, 0, 1), (0, 5, -1), (1, 0, 60)], [([(6, 0, 1829), (0, 6, 0)], [])])
def rU35 : zRu := (35, [(0, 122, 0)], [(2, 0, -1), (0, 2, 1), (1, 0, 2), (0, 1, -2)], [([], [(120, [(3, 1)])])])
def rU37 : zRu := (37, [(0, 122, 0)], [(0, 2, 0), (2, 0, 60), (1, 2, 1), (2, 1, -1)], [([], [(120, [(3, 1)])])])
def rU38 : zRu := (38, [(0, 120, 0), (1, 86, 0)], [(3, 1, 0), (1, 3, 0)], [([], [(120, [(1, 1)])])])
def rU29 : zRu := (29, [(0, 120, 0)], [(1, 0, 30)], [([], [(120, [(0, 30)])])])
def rU39 : zRu := (39, [(0, 102, 0), (1, 106, 0), (1, 106, 0)], [(2, 0, 0), (5, 0, 1), (0, 5, -1), (3, 0, 0), (0, 3, 0), (6, 0, 0), (0, 6, 0)], [([], [(120, [(0, 0)])])])
def rU40 : zRu := (40, [(0, 102, 0)], [], [([], [(134, [(0, 0)])])])
def rU42 : zRu := (42, [(0, 134, 0), (0, 120, 0), (1, 106, 0), (1, 112, 0)], [(4, 0, 0), (0, 4, 0), (7, 0, 0), (0, 7, 0), (5, 1, 0), (2, 0, 30), (8, 5, 0), (5, 8, 0)], [([], [(132, [])])])
def rU44 : zRu := (44, [(0, 132, 0)], [], [([], [(136, [(0, 0)])])])
def rU46 : zRu := (46, [(0, 136, 0), (1, 112, 0), (1, 111, 0)], [(3, 0, 0), (0, 3, 0), (6, 1, 0), (1, 6, 0), (1, 4, -1)], [([(7, 0, -1), (0, 7, 1), (4, 0, 1830), (1, 4, -1), (0, 1, 0)], [(136, [(1, 2)])]), ([(0, 7, 0), (7, 0, 60), (4, 0, 1830), (1, 4, -1), (0, 1, 0)], [(138, [(1, 0), (7, 0)])])])
def rU41 : zRu := (41, [(0, 102, 0)], [], [([], [(135, [(0, 0)])])])
def rU43 : zRu := (43, [(0, 135, 0), (0, 120, 0), (1, 106, 0), (1, 112, 0)], [(4, 0, 1), (0, 4, -1), (7, 0, 1), (0, 7, -1), (5, 1, 0), (2, 0, 30), (8, 5, 0), (5, 8, 0)], [([], [(133, [])])])
def rU45 : zRu := (45, [(0, 133, 0)], [], [([], [(137, [(0, 2000)])])])
def rU47 : zRu := (47, [(0, 137, 0), (1, 112, 0), (1, 111, 0)], [(3, 0, 1), (0, 3, -1), (6, 1, 0), (1, 6, 0), (1, 4, 1999)], [([(7, 0, -1), (0, 7, 1), (4, 0, 1830), (1, 4, 1999), (0, 1, -2000)], [(137, [(1, 2)])]), ([(0, 7, 0), (7, 0, 60), (4, 0, 1830), (1, 4, 1999), (0, 1, -2000)], [(139, [(1, 0), (7, 0)])])])
def rU48 : zRu := (48, [(0, 138, 0), (0, 26, 0)], [(3, 1, 0), (1, 3, 0), (4, 2, 1), (2, 4, -1), (3, 0, 100000), (5, 0, 2147483647), (0, 5, 2147483648)], [([], [(136, [(5, 0)])])])
def rU49 : zRu := (49, [(0, 139, 0), (0, 26, 0)], [(3, 1, 0), (1, 3, 0), (4, 2, 1), (2, 4, -1), (3, 0, 100000), (5, 0, 2147483647), (0, 5, 2147483648)], [([], [(137, [(5, 0)])])])
def rU50 : zRu := (50, [(0, 150, 0), (3, 0, 0)], [], [([], [(151, [(1, 0), (0, 0), (0, 0)])])])
def rU51 : zRu := (51, [(0, 151, 0), (2, 37, 10)], [(4, 1, 0), (1, 4, 0), (0, 5, -1830), (0, 2, -1)], [([], [(151, [(1, 0), (2, 1), (3, 0)])])])
def rU52 : zRu := (52, [(0, 151, 0), (2, 37, 10), (3, 1, 0)], [(4, 1, 0), (1, 4, 0), (0, 5, -1830), (2, 0, 0), (0, 2, 0)], [([], [(151, [(1, 0), (0, 1), (6, 0)])])])
def rU53 : zRu := (53, [(0, 151, 0)], [(3, 0, -1), (0, 3, 1), (2, 0, 2), (0, 2, -2)], [([], [(150, [])])])
def rU54 : zRu := (54, [(0, 151, 0)], [(0, 3, 0), (3, 0, 60), (2, 3, 1), (3, 2, -1)], [([], [(150, [])])])
def rU55 : zRu := (55, [(0, 150, 0), (3, 0, 0)], [], [([], [(153, [(1, 0), (0, 0)])])])
def rU56 : zRu := (56, [(0, 153, 0), (2, 37, 3), (2, 37, 10), (1, 63, 0)], [(3, 1, 0), (1, 3, 0), (5, 1, 0), (1, 5, 0), (7, 4, 0), (4, 7, 0), (8, 2, 0), (2, 8, 0), (2, 6, -1)], [([(9, 0, -1), (0, 9, 1)], [(153, [(1, 0), (2, 2)])]), ([(0, 9, 0), (9, 0, 60)], [(154, [(1, 0), (2, 0), (9, 0)])])])
def rU57 : zRu := (57, [(0, 154, 0), (0, 26, 0)], [(4, 2, 0), (2, 4, 0), (5, 3, 1), (3, 5, -1), (4, 0, 100000), (0, 4, 0), (6, 0, 2147483647), (0, 6, 2147483648)], [([], [(153, [(1, 0), (6, 0)])])])
def rU60 : zRu := (60, [(0, 108, 0)], [], [([], [(110, [])])])
def rU61 : zRu := (61, [(0, 110, 0), (3, 1, 0)], [], [([], [(112, [(1, 0), (0, 0)])])])
def rU62 : zRu := (62, [(0, 112, 0), (3, 1, 0), (3, 2, 0), (2, 43, 67), (1, 77, 0)], [(1, 3, 0), (3, 1, 0), (8, 1, 0), (1, 8, 0), (6, 9, 0), (9, 6, 0), (6, 2, 0), (0, 1, 0), (1, 0, 1), (0, 6, 0)], [([], [(111, [(1, 0), (4, 0), (0, 0)])])])
def rU63 : zRu := (63, [(0, 111, 0), (1, 114, 0)], [(5, 3, 0), (3, 5, 0), (6, 1, -1)], [([], [(111, [(1, 0), (2, 0), (3, 1)])])])
def rU64 : zRu := (64, [(0, 111, 0), (1, 114, 0)], [(5, 3, 0), (3, 5, 0), (1, 6, -1)], [([], [(111, [(1, 0), (2, 0), (3, 1)])])])
def rU65 : zRu := (65, [(0, 111, 0), (1, 115, 0)], [(5, 3, 0), (3, 5, 0), (2, 6, -1)], [([], [(111, [(1, 0), (2, 0), (3, 1)])])])
def rU66 : zRu := (66, [(0, 117, 0), (0, 111, 0), (0, 110, 0), (2, 43, 60), (1, 114, 0), (1, 115, 0), (1, 116, 0), (1, 118, 0)], [(1, 15, 0), (15, 1, 0), (8, 4, 0), (4, 8, 0), (11, 4, 0), (4, 11, 0), (14, 4, 0), (4, 14, 0), (17, 4, 0), (4, 17, 0), (9, 2, 0), (2, 9, 0), (12, 3, 0), (18, 0, 0), (4, 6, -1)], [])
def rU67 : zRu := (67, [(0, 111, 0), (2, 43, 60)], [(3, 5, 0), (5, 3, 0)], [([], [(119, [(1, 0), (2, 0)])])])
def rU68 : zRu := (68, [(0, 119, 0), (0, 118, 0)], [], [([], [(115, [(1, 0), (2, 0), (3, 0)])])])
def rU70 : zRu := (70, [(0, 110, 0), (3, 1, 0)], [], [([], [(113, [(1, 0), (0, 0)])])])
def rU71 : zRu := (71, [(0, 113, 0), (2, 43, 67), (1, 119, 0)], [(6, 2, 0), (2, 6, 0), (2, 4, -1), (0, 2, 0)], [([(7, 1, -1)], [(113, [(1, 0), (2, 1)])]), ([(1, 7, -1)], [(113, [(1, 0), (2, 1)])]), ([(7, 1, 0), (1, 7, 0)], [(118, [(1, 0), (2, 0)])])])
def rU72 : zRu := (72, [(0, 113, 0), (2, 43, 67)], [(4, 2, 0)], [([], [(117, [(1, 0)])])])
def rU80 : zRu := (80, [(0, 109, 0), (3, 0, 0)], [], [([], [(162, [(1, 0), (0, 2)])])])
def rU81 : zRu := (81, [(0, 162, 0), (0, 22, 0)], [(3, 2, 0), (2, 3, 0), (4, 2, 0), (2, 4, 0), (1, 5, -1), (0, 2, -2), (2, 0, 100000), (0, 1, -2), (1, 0, 2147483647), (5, 0, 9223372036854775807), (0, 5, 9223372036854775808)], [([], [(160, [(1, 0)])])])
def rU82 : zRu := (82, [(0, 162, 0), (0, 22, 0), (0, 24, 0)], [(3, 2, 0), (2, 3, 0), (4, 2, 0), (2, 4, 0), (6, 1, 0), (1, 6, 0), (7, 2, 0), (2, 7, 0), (8, 0, 0), (0, 8, 0), (5, 1, 0), (0, 2, -2), (2, 0, 100000), (0, 1, -2), (1, 0, 2147483647), (5, 0, 9223372036854775807), (0, 5, 9223372036854775808)], [([], [(161, [(1, 0)])])])
def rU83 : zRu := (83, [(0, 162, 0), (0, 24, 0)], [(3, 1, 0), (1, 3, 0), (4, 2, 0), (2, 4, 0), (0, 5, -1), (0, 2, -2), (2, 0, 100000), (0, 1, -2), (1, 0, 2147483647), (5, 0, 9223372036854775807), (0, 5, 9223372036854775808)], [([], [(162, [(1, 0), (2, 1)])])])
def rU84 : zRu := (84, [(0, 109, 0), (0, 28, 0)], [(2, 0, 2), (0, 2, -2), (3, 0, 0), (0, 3, 0), (0, 1, -4), (1, 0, 2147483647)], [([], [(161, [(1, 0)])])])
def rU85 : zRu := (85, [(0, 109, 0), (0, 28, 0)], [(2, 0, 2), (0, 2, -2), (0, 3, -1), (0, 1, 0), (1, 0, 2147483647), (3, 0, 2147483647), (0, 3, 2147483648)], [([], [(164, [(1, 0), (0, 3)])])])
def rU86 : zRu := (86, [(0, 164, 0), (0, 28, 0)], [(3, 1, 0), (1, 3, 0), (4, 2, 0), (2, 4, 0), (0, 5, -1), (0, 2, -2), (2, 0, 100000), (0, 1, -2), (1, 0, 2147483647), (5, 0, 2147483647), (0, 5, 2147483648)], [([], [(164, [(1, 0), (2, 2)])])])
def rU87 : zRu := (87, [(0, 164, 0)], [(0, 2, -46341), (1, 0, 2147483647), (0, 1, -2)], [([], [(160, [(1, 0)])])])
def rU88 : zRu := (88, [(0, 164, 0), (0, 27, 0)], [(3, 2, 0), (2, 3, 0), (4, 2, 0), (2, 4, 0), (1, 5, -1), (0, 2, -2), (2, 0, 46340), (0, 1, -2), (5, 0, 2147483647), (0, 5, 2147483648)], [([], [(160, [(1, 0)])])])
def rU89 : zRu := (89, [(0, 164, 0), (0, 27, 0), (0, 28, 0)], [(3, 2, 0), (2, 3, 0), (4, 2, 0), (2, 4, 0), (6, 1, 0), (1, 6, 0), (7, 2, 0), (2, 7, 0), (8, 0, 0), (0, 8, 0), (5, 1, 0), (0, 2, -2), (2, 0, 46340), (0, 1, -2), (1, 0, 2147483647), (5, 0, 2147483647), (0, 5, 2147483648)], [([], [(161, [(1, 0)])])])
def rU90 : zRu := (90, [(0, 160, 0), (0, 161, 0)], [(1, 2, 0), (2, 1, 0)], [])
section
variable {D : zD} {ua : Nat → Nat}
theorem rS1_86_ok (hD : zk_d2 D ua) : zr_okS D rS1_86 := by
  refine zs_A_ok hD rfl (by decide) (by decide) ⟨_, _, rfl, by decide⟩ ?_
  intro ty H H' w a i Ls hT hp hc hw hk
  obtain ⟨l0, Ls', rfl, p0, hp⟩ := zr_cons hp
  cases zr_nil hp
  obtain ⟨rfl, h0_1, h0_2⟩ := zd_op hD (by decide) p0
  obtain ⟨qc0, hc⟩ := zc1 hc
  have qc0 : (0 : Int) ≤ (i : Int) + -30 := qc0
  have e0 := hk 84 0 (by decide) (Or.inl (by decide))
  refine ⟨rfl, by rw [e0]; exact h0_1, fun j hj h => ?_⟩
  rw [e0] at hj
  rw [hk 86 _ (by decide) (Or.inr (by omega))] at h
  rw [hk 88 _ (by decide) (Or.inr (by omega))]
  exact h0_2 j hj h
theorem rS5_86_ok (hD : zk_d2 D ua) : zr_okS D rS5_86 := by
  refine zs_A_ok hD rfl (by decide) (by decide) ⟨_, _, rfl, by decide⟩ ?_
  intro ty H H' w a i Ls hT hp hc hw hk
  obtain ⟨l0, Ls', rfl, p0, hp⟩ := zr_cons hp
  obtain ⟨l1, Ls', rfl, p1, hp⟩ := zr_cons hp
  cases zr_nil hp
  obtain ⟨rfl, h0_1, h0_2⟩ := zd_op hD (by decide) p0
  obtain ⟨x, i1, v, rfl, hi1, hv⟩ := zd_em hD hT (by decide) p1
  obtain ⟨qc0, hc⟩ := zc1 hc
  have qc0 : i1 ≤ (0 : Int) + 1 := qc0
  obtain ⟨qc1, hc⟩ := zc1 hc
  have qc1 : (0 : Int) ≤ i1 + -1 := qc1
  obtain ⟨qc2, hc⟩ := zc1 hc
  have qc2 : v ≤ (i : Int) + -30 := qc2
  rw [show i1.toNat = 1 by omega] at hv
  have e0 := hk 84 1 (by decide) (Or.inl (by decide))
  refine ⟨rfl, by rw [e0]; exact h0_1, fun j hj h => ?_⟩
  rw [e0] at hj
  rw [hk 86 _ (by decide) (Or.inr (by omega))] at h
  rw [hk 88 _ (by decide) (Or.inr (by omega))]
  exact h0_2 j hj h
theorem rS7_86_ok (hD : zk_d2 D ua) : zr_okS D rS7_86 := by
  refine zs_A_ok hD rfl (by decide) (by decide) ⟨_, _, rfl, by decide⟩ ?_
  intro ty H H' w a i Ls hT hp hc hw hk
  obtain ⟨l0, Ls', rfl, p0, hp⟩ := zr_cons hp
  cases zr_nil hp
  obtain ⟨rfl, h0_1, h0_2⟩ := zd_op hD (by decide) p0
  obtain ⟨qc0, hc⟩ := zc1 hc
  have qc0 : (i : Int) ≤ (0 : Int) + 29 := qc0
  have e0 := hk 84 1 (by decide) (Or.inl (by decide))
  refine ⟨rfl, by rw [e0]; exact h0_1, fun j hj h => ?_⟩
  rw [e0] at hj
  rw [hk 86 _ (by decide) (Or.inr (by omega))] at h
  rw [hk 88 _ (by decide) (Or.inr (by omega))]
  exact h0_2 j hj h
theorem rS12_86_ok (hD : zk_d2 D ua) : zr_okS D rS12_86 := by
  refine zs_A_ok hD rfl (by decide) (by decide) ⟨_, _, rfl, by decide⟩ ?_
  intro ty H H' w a i Ls hT hp hc hw hk
  obtain ⟨l0, Ls', rfl, p0, hp⟩ := zr_cons hp
  cases zr_nil hp
  obtain ⟨k, rfl, h0_1⟩ := zd_op hD (by decide) p0
  obtain ⟨qc0, hc⟩ := zc1 hc
  have qc0 : k ≤ (i : Int) + 0 := qc0
  refine ⟨k, by simp [rS12_86], fun j hj h => ?_⟩
  rw [hk 86 _ (by decide) (Or.inr (by omega))] at h
  rw [hk 88 _ (by decide) (Or.inr (by omega))]
  exact h0_1 j hj h
theorem rS1_88_ok (hD : zk_d2 D ua) : zr_okS D rS1_88 := by
  refine zs_A_ok hD rfl (by decide) (by decide) ⟨_, _, rfl, by decide⟩ ?_
  intro ty H H' w a i Ls hT hp hc hw hk
  obtain ⟨l0, Ls', rfl, p0, hp⟩ := zr_cons hp
  cases zr_nil hp
  obtain ⟨rfl, h0_1, h0_2⟩ := zd_op hD (by decide) p0
  obtain ⟨qc0, hc⟩ := zc1 hc
  have qc0 : (0 : Int) ≤ (i : Int) + -30 := qc0
  have e0 := hk 84 0 (by decide) (Or.inl (by decide))
  refine ⟨rfl, by rw [e0]; exact h0_1, fun j hj h => ?_⟩
  rw [e0] at hj
  rw [hk 86 _ (by decide) (Or.inr (by omega))] at h
  rw [hk 88 _ (by decide) (Or.inr (by omega))]
  exact h0_2 j hj h
theorem rS5_88_ok (hD : zk_d2 D ua) : zr_okS D rS5_88 := by
  refine zs_A_ok hD rfl (by decide) (by decide) ⟨_, _, rfl, by decide⟩ ?_
  intro ty H H' w a i Ls hT hp hc hw hk
  obtain ⟨l0, Ls', rfl, p0, hp⟩ := zr_cons hp
  obtain ⟨l1, Ls', rfl, p1, hp⟩ := zr_cons hp
  cases zr_nil hp
  obtain ⟨rfl, h0_1, h0_2⟩ := zd_op hD (by decide) p0
  obtain ⟨x, i1, v, rfl, hi1, hv⟩ := zd_em hD hT (by decide) p1
  obtain ⟨qc0, hc⟩ := zc1 hc
  have qc0 : i1 ≤ (0 : Int) + 1 := qc0
  obtain ⟨qc1, hc⟩ := zc1 hc
  have qc1 : (0 : Int) ≤ i1 + -1 := qc1
  obtain ⟨qc2, hc⟩ := zc1 hc
  have qc2 : v ≤ (i : Int) + -30 := qc2
  rw [show i1.toNat = 1 by omega] at hv
  have e0 := hk 84 1 (by decide) (Or.inl (by decide))
  refine ⟨rfl, by rw [e0]; exact h0_1, fun j hj h => ?_⟩
  rw [e0] at hj
  rw [hk 86 _ (by decide) (Or.inr (by omega))] at h
  rw [hk 88 _ (by decide) (Or.inr (by omega))]
  exact h0_2 j hj h
theorem rS7_88_ok (hD : zk_d2 D ua) : zr_okS D rS7_88 := by
  refine zs_A_ok hD rfl (by decide) (by decide) ⟨_, _, rfl, by decide⟩ ?_
  intro ty H H' w a i Ls hT hp hc hw hk
  obtain ⟨l0, Ls', rfl, p0, hp⟩ := zr_cons hp
  cases zr_nil hp
  obtain ⟨rfl, h0_1, h0_2⟩ := zd_op hD (by decide) p0
  obtain ⟨qc0, hc⟩ := zc1 hc
  have qc0 : (i : Int) ≤ (0 : Int) + 29 := qc0
  have e0 := hk 84 1 (by decide) (Or.inl (by decide))
  refine ⟨rfl, by rw [e0]; exact h0_1, fun j hj h => ?_⟩
  rw [e0] at hj
  rw [hk 86 _ (by decide) (Or.inr (by omega))] at h
  rw [hk 88 _ (by decide) (Or.inr (by omega))]
  exact h0_2 j hj h
theorem rS12_88_ok (hD : zk_d2 D ua) : zr_okS D rS12_88 := by
  refine zs_A_ok hD rfl (by decide) (by decide) ⟨_, _, rfl, by decide⟩ ?_
  intro ty H H' w a i Ls hT hp hc hw hk
  obtain ⟨l0, Ls', rfl, p0, hp⟩ := zr_cons hp
  cases zr_nil hp
  obtain ⟨k, rfl, h0_1⟩ := zd_op hD (by decide) p0
  obtain ⟨qc0, hc⟩ := zc1 hc
  have qc0 : k ≤ (i : Int) + 0 := qc0
  refine ⟨k, by simp [rS12_88], fun j hj h => ?_⟩
  rw [hk 86 _ (by decide) (Or.inr (by omega))] at h
  rw [hk 88 _ (by decide) (Or.inr (by omega))]
  exact h0_1 j hj h
theorem rS3_ok (hD : zk_d2 D ua) : zr_okS D rS3 := by
  refine zs_A_ok hD rfl (by decide) (by decide) ⟨_, _, rfl, by decide⟩ ?_
  intro ty H H' w a i Ls hT hp hc hw hk
  obtain ⟨l0, Ls', rfl, p0, hp⟩ := zr_cons hp
  cases zr_nil hp
  obtain ⟨rfl, h0_1, h0_2⟩ := zd_op hD (by decide) p0
  obtain ⟨qc0, hc⟩ := zc1 hc
  have qc0 : (0 : Int) ≤ (i : Int) + -1 := qc0
  have e0 := hk 84 0 (by decide) (Or.inr (by omega))
  refine ⟨rfl, by rw [e0]; exact h0_1, fun j hj h => ?_⟩
  rw [e0] at hj
  rw [hk 86 _ (by decide) (Or.inl (by decide))] at h
  rw [hk 88 _ (by decide) (Or.inl (by decide))]
  exact h0_2 j hj h
theorem rS4_ok (hD : zk_d2 D ua) : zr_okS D rS4 := by
  refine zs_A_ok hD rfl (by decide) (by decide) ⟨_, _, rfl, by decide⟩ ?_
  intro ty H H' w a i Ls hT hp hc hw hk
  obtain ⟨l0, Ls', rfl, p0, hp⟩ := zr_cons hp
  cases zr_nil hp
  obtain ⟨rfl, h0_1, h0_2⟩ := zd_op hD (by decide) p0
  obtain ⟨qc0, hc⟩ := zc1 hc
  have qc0 : (i : Int) ≤ (0 : Int) + 1 := qc0
  obtain ⟨qc1, hc⟩ := zc1 hc
  have qc1 : (0 : Int) ≤ (i : Int) + -1 := qc1
  obtain ⟨qc2, hc⟩ := zc1 hc
  have qc2 : w ≤ (0 : Int) + 0 := qc2
  have e : i = 1 := by omega
  subst e
  have hw : zi H' (ua 84) 1 = w := hw
  refine ⟨rfl, by omega, fun j hj h => ?_⟩
  omega
theorem rS9_ok (hD : zk_d2 D ua) : zr_okS D rS9 := by
  refine zs_A_ok hD rfl (by decide) (by decide) ⟨_, _, rfl, by decide⟩ ?_
  intro ty H H' w a i Ls hT hp hc hw hk
  obtain ⟨l0, Ls', rfl, p0, hp⟩ := zr_cons hp
  obtain ⟨l1, Ls', rfl, p1, hp⟩ := zr_cons hp
  obtain ⟨l2, Ls', rfl, p2, hp⟩ := zr_cons hp
  cases zr_nil hp
  obtain ⟨rfl, h0_1, h0_2⟩ := zd_op hD (by decide) p0
  obtain ⟨x, i1, v, rfl, hi1, hv⟩ := zd_em hD hT (by decide) p1
  obtain ⟨x2, i2, v2, rfl, hi2, hv2⟩ := zd_em hD hT (by decide) p2
  obtain ⟨qc0, hc⟩ := zc1 hc
  have qc0 : i1 ≤ (0 : Int) + 1 := qc0
  obtain ⟨qc1, hc⟩ := zc1 hc
  have qc1 : (0 : Int) ≤ i1 + -1 := qc1
  obtain ⟨qc2, hc⟩ := zc1 hc
  have qc2 : (i : Int) ≤ (0 : Int) + 1 := qc2
  obtain ⟨qc3, hc⟩ := zc1 hc
  have qc3 : (0 : Int) ≤ (i : Int) + -1 := qc3
  obtain ⟨qc4, hc⟩ := zc1 hc
  have qc4 : w ≤ v + 1 := qc4
  obtain ⟨qc5, hc⟩ := zc1 hc
  have qc5 : w ≤ (0 : Int) + 30 := qc5
  obtain ⟨qc6, hc⟩ := zc1 hc
  have qc6 : i2 ≤ v + 30 := qc6
  obtain ⟨qc7, hc⟩ := zc1 hc
  have qc7 : v ≤ i2 + -30 := qc7
  obtain ⟨qc8, hc⟩ := zc1 hc
  have qc8 : v2 ≤ (0 : Int) + 11 := qc8
  obtain ⟨qc9, hc⟩ := zc1 hc
  have qc9 : (0 : Int) ≤ v2 + -6 := qc9
  rw [show i1.toNat = 1 by omega] at hv
  have e : i = 1 := by omega
  subst e
  have hw : zi H' (ua 84) 1 = w := hw
  refine ⟨rfl, by omega, fun j hj h => ?_⟩
  rw [hk 86 _ (by decide) (Or.inl (by decide))] at h
  rw [hk 88 _ (by decide) (Or.inl (by decide))]
  by_cases e : (j : Int) < v
  · exact h0_2 j (by omega) h
  · rw [show i2.toNat = 30 + j by omega] at hv2
    omega
theorem rS10_ok (hD : zk_d2 D ua) : zr_okS D rS10 := by
  refine zs_A_ok hD rfl (by decide) (by decide) ⟨_, _, rfl, by decide⟩ ?_
  intro ty H H' w a i Ls hT hp hc hw hk
  obtain ⟨l0, Ls', rfl, p0, hp⟩ := zr_cons hp
  obtain ⟨l1, Ls', rfl, p1, hp⟩ := zr_cons hp
  obtain ⟨l2, Ls', rfl, p2, hp⟩ := zr_cons hp
  cases zr_nil hp
  obtain ⟨rfl, h0_1, h0_2⟩ := zd_op hD (by decide) p0
  obtain ⟨x, i1, v, rfl, hi1, hv⟩ := zd_em hD hT (by decide) p1
  obtain ⟨x2, i2, v2, rfl, hi2, hv2⟩ := zd_em hD hT (by decide) p2
  obtain ⟨qc0, hc⟩ := zc1 hc
  have qc0 : i1 ≤ (0 : Int) + 1 := qc0
  obtain ⟨qc1, hc⟩ := zc1 hc
  have qc1 : (0 : Int) ≤ i1 + -1 := qc1
  obtain ⟨qc2, hc⟩ := zc1 hc
  have qc2 : (i : Int) ≤ (0 : Int) + 1 := qc2
  obtain ⟨qc3, hc⟩ := zc1 hc
  have qc3 : (0 : Int) ≤ (i : Int) + -1 := qc3
  obtain ⟨qc4, hc⟩ := zc1 hc
  have qc4 : w ≤ v + 1 := qc4
  obtain ⟨qc5, hc⟩ := zc1 hc
  have qc5 : w ≤ (0 : Int) + 30 := qc5
  obtain ⟨qc6, hc⟩ := zc1 hc
  have qc6 : i2 ≤ v + 30 := qc6
  obtain ⟨qc7, hc⟩ := zc1 hc
  have qc7 : v ≤ i2 + -30 := qc7
  obtain ⟨qc8, hc⟩ := zc1 hc
  have qc8 : (0 : Int) ≤ v2 + 0 := qc8
  rw [show i1.toNat = 1 by omega] at hv
  have e : i = 1 := by omega
  subst e
  have hw : zi H' (ua 84) 1 = w := hw
  refine ⟨rfl, by omega, fun j hj h => ?_⟩
  rw [hk 86 _ (by decide) (Or.inl (by decide))] at h
  rw [hk 88 _ (by decide) (Or.inl (by decide))]
  by_cases e : (j : Int) < v
  · exact h0_2 j (by omega) h
  · rw [show i2.toNat = 30 + j by omega] at hv2
    omega
theorem rS11_ok (hD : zk_d2 D ua) : zr_okS D rS11 := by
  refine zs_A_ok hD rfl (by decide) (by decide) ⟨_, _, rfl, by decide⟩ ?_
  intro ty H H' w a i Ls hT hp hc hw hk
  obtain ⟨l0, Ls', rfl, p0, hp⟩ := zr_cons hp
  cases zr_nil hp
  obtain ⟨rfl, h0_1, h0_2⟩ := zd_op hD (by decide) p0
  obtain ⟨qc0, hc⟩ := zc1 hc
  have qc0 : (i : Int) ≤ (0 : Int) + 0 := qc0
  have e0 := hk 84 1 (by decide) (Or.inr (by omega))
  refine ⟨rfl, by rw [e0]; exact h0_1, fun j hj h => ?_⟩
  rw [e0] at hj
  rw [hk 86 _ (by decide) (Or.inl (by decide))] at h
  rw [hk 88 _ (by decide) (Or.inl (by decide))]
  exact h0_2 j hj h
theorem rW1_ok (hD : zk_d2 D ua) : zr_okS D rW1 := by
  intro ty H H' w a i hd Ls hT hT' ha hty hh hp hc hw ho
  rw [if_neg (show ¬ rW1.1.1 = 0 by decide)] at hh
  subst hh
  obtain ⟨l0, Ls', rfl, p0, hp⟩ := zr_cons hp
  obtain ⟨l1, Ls', rfl, p1, hp⟩ := zr_cons hp
  cases zr_nil hp
  obtain ⟨rfl, h0⟩ := zd_op hD (by decide) p0
  obtain ⟨x, y, rfl, x0, ⟨q, hq, ex⟩, hy⟩ := zd_wy hD hT p1
  obtain ⟨c0, hc⟩ := zc1 hc
  obtain ⟨c1, -⟩ := zc1 hc
  have c0 : y ≤ a + 0 := c0
  have c1 : a ≤ y + 0 := c1
  have e1 : a.toNat = ua (1010 + q) := by
    have := (h0 q hq).1
    rw [ex] at hy
    omega
  refine (hD.1 _ (by decide) _ _ _).mpr ⟨zd_ty hD (by decide) p0, x, i, by simp [rW1], fun p hp => ?_⟩
  obtain ⟨g1, g2, g3⟩ := h0 p hp
  have n1 : ua (1000 + p) ≠ a.toNat := by rw [e1]; exact zd_ww hD (by rcases hp with rfl | rfl <;> decide) (by rcases hq with rfl | rfl <;> decide) (by omega)
  have n2 : ua (1020 + p) ≠ a.toNat := by rw [e1]; exact zd_ww hD (by rcases hp with rfl | rfl <;> decide) (by rcases hq with rfl | rfl <;> decide) (by omega)
  refine ⟨by rw [ho _ _ (fun z => n1 z.1)]; exact g1, by rw [ho _ _ (fun z => n1 z.1)]; exact g2, fun j hj h => ?_⟩
  rw [ho _ _ (fun z => n2 z.1)]
  rw [ho _ _ (fun z => ?_)] at h
  · exact g3 j (fun z => z) h
  · refine hj ⟨?_, by omega⟩
    rw [ex]
    have : p = q := by
      rcases hp with rfl | rfl <;> rcases hq with rfl | rfl
      · rfl
      · exact absurd (z.1.trans e1) (zd_ww hD (by decide) (by decide) (by decide))
      · exact absurd (z.1.trans e1) (zd_ww hD (by decide) (by decide) (by decide))
      · rfl
    rw [this]
theorem rW2_ok (hD : zk_d2 D ua) : zr_okS D rW2 := by
  intro ty H H' w a i hd Ls hT hT' ha hty hh hp hc hw ho
  rw [if_neg (show ¬ rW2.1.1 = 0 by decide)] at hh
  subst hh
  obtain ⟨l0, Ls', rfl, p0, hp⟩ := zr_cons hp
  obtain ⟨l1, Ls', rfl, p1, hp⟩ := zr_cons hp
  cases zr_nil hp
  obtain ⟨x0, k, rfl, h0⟩ := zd_op hD (by decide) p0
  obtain ⟨x, z, rfl, hx0, ⟨q, hq, ex⟩, hz⟩ := zd_wy hD hT p1
  obtain ⟨c0, hc⟩ := zc1 hc
  obtain ⟨c1, hc⟩ := zc1 hc
  obtain ⟨c2, hc⟩ := zc1 hc
  obtain ⟨c3, hc⟩ := zc1 hc
  obtain ⟨c4, hc⟩ := zc1 hc
  obtain ⟨c5, hc⟩ := zc1 hc
  have c0 : x ≤ x0 + 0 := c0
  have c1 : x0 ≤ x + 0 := c1
  have c2 : z ≤ a + 0 := c2
  have c3 : a ≤ z + 0 := c3
  have c4 : (i : Int) ≤ k + 0 := c4
  have c5 : k ≤ (i : Int) + 0 := c5
  obtain ⟨c6, -⟩ := zc1 hc
  have c6 : w ≤ (0 : Int) + 7 := c6
  have e1 : a.toNat = ua (1020 + q) := by
    have := (h0 q hq).2.1
    rw [ex] at hz
    omega
  refine (hD.1 _ (by decide) _ _ _).mpr ⟨zd_ty hD (by decide) p0, by simp [rW2], fun p hp => ?_⟩
  obtain ⟨g1, g2, g3⟩ := h0 p hp
  have n1 : ua (1000 + p) ≠ a.toNat := by rw [e1]; exact zd_ww hD (by rcases hp with rfl | rfl <;> decide) (by rcases hq with rfl | rfl <;> decide) (by omega)
  have n2 : ua (1010 + p) ≠ a.toNat := by rw [e1]; exact zd_ww hD (by rcases hp with rfl | rfl <;> decide) (by rcases hq with rfl | rfl <;> decide) (by omega)
  refine ⟨by rw [ho _ _ (fun z => n1 z.1)]; exact g1, by rw [ho _ _ (fun z => n1 z.1)]; exact g2, fun j hj h => ?_⟩
  rw [ho _ _ (fun z => n2 z.1)] at h
  by_cases ej : p = q ∧ j = i
  · obtain ⟨rfl, rfl⟩ := ej
    rw [← e1, hw]
    omega
  · rw [ho _ _ (fun z => ej ⟨?_, z.2⟩)]
    · refine g3 j (fun z => ej ⟨?_, by omega⟩) h
      have z1 := z.1
      have : x0.toNat = ua (1000 + q) := by rw [← ex]; congr 1; omega
      rw [this] at z1
      rcases hp with rfl | rfl <;> rcases hq with rfl | rfl
      · rfl
      · exact absurd z1 (zd_ww hD (by decide) (by decide) (by decide))
      · exact absurd z1 (zd_ww hD (by decide) (by decide) (by decide))
      · rfl
    · have z1 := z.1.trans e1
      rcases hp with rfl | rfl <;> rcases hq with rfl | rfl
      · rfl
      · exact absurd z1 (zd_ww hD (by decide) (by decide) (by decide))
      · exact absurd z1 (zd_ww hD (by decide) (by decide) (by decide))
      · rfl
theorem rW3_ok (hD : zk_d2 D ua) : zr_okS D rW3 := by
  intro ty H H' w a i hd Ls hT hT' ha hty hh hp hc hw ho
  rw [if_neg (show ¬ rW3.1.1 = 0 by decide)] at hh
  subst hh
  obtain ⟨l0, Ls', rfl, p0, hp⟩ := zr_cons hp
  obtain ⟨l1, Ls', rfl, p1, hp⟩ := zr_cons hp
  obtain ⟨l2, Ls', rfl, p2, hp⟩ := zr_cons hp
  obtain ⟨l3, Ls', rfl, p3, hp⟩ := zr_cons hp
  cases zr_nil hp
  obtain ⟨x0, k, rfl, h0⟩ := zd_op hD (by decide) p0
  obtain ⟨x, z, rfl, hx0, ⟨q, hq, ex⟩, hz⟩ := zd_wy hD hT p1
  obtain ⟨x2, y, rfl, hx2, -, hy⟩ := zd_wy hD hT p2
  obtain ⟨y2, i1, v, rfl, hy2, hi1, hv⟩ := zd_pl p3
  obtain ⟨c0, hc⟩ := zc1 hc
  obtain ⟨c1, hc⟩ := zc1 hc
  obtain ⟨c2, hc⟩ := zc1 hc
  obtain ⟨c3, hc⟩ := zc1 hc
  obtain ⟨c4, hc⟩ := zc1 hc
  obtain ⟨c5, hc⟩ := zc1 hc
  have c0 : x ≤ x0 + 0 := c0
  have c1 : x0 ≤ x + 0 := c1
  have c2 : z ≤ a + 0 := c2
  have c3 : a ≤ z + 0 := c3
  have c4 : (i : Int) ≤ k + 0 := c4
  have c5 : k ≤ (i : Int) + 0 := c5
  obtain ⟨c6, hc⟩ := zc1 hc
  obtain ⟨c7, hc⟩ := zc1 hc
  obtain ⟨c8, hc⟩ := zc1 hc
  obtain ⟨c9, hc⟩ := zc1 hc
  obtain ⟨c10, hc⟩ := zc1 hc
  obtain ⟨c11, hc⟩ := zc1 hc
  obtain ⟨c12, -⟩ := zc1 hc
  have c6 : x2 ≤ x0 + 0 := c6
  have c7 : x0 ≤ x2 + 0 := c7
  have c8 : y2 ≤ y + 0 := c8
  have c9 : y ≤ y2 + 0 := c9
  have c10 : i1 ≤ k + 0 := c10
  have c11 : k ≤ i1 + 0 := c11
  have c12 : v ≤ (0 : Int) + 5 := c12
  have e1 : a.toNat = ua (1020 + q) := by
    have := (h0 q hq).2.1
    rw [ex] at hz
    omega
  refine (hD.1 _ (by decide) _ _ _).mpr ⟨zd_ty hD (by decide) p0, by simp [rW3], fun p hp => ?_⟩
  obtain ⟨g1, g2, g3⟩ := h0 p hp
  have n1 : ua (1000 + p) ≠ a.toNat := by rw [e1]; exact zd_ww hD (by rcases hp with rfl | rfl <;> decide) (by rcases hq with rfl | rfl <;> decide) (by omega)
  have n2 : ua (1010 + p) ≠ a.toNat := by rw [e1]; exact zd_ww hD (by rcases hp with rfl | rfl <;> decide) (by rcases hq with rfl | rfl <;> decide) (by omega)
  refine ⟨by rw [ho _ _ (fun z => n1 z.1)]; exact g1, by rw [ho _ _ (fun z => n1 z.1)]; exact g2, fun j hj h => ?_⟩
  rw [ho _ _ (fun z => n2 z.1)] at h
  by_cases ej : p = q ∧ j = i
  · obtain ⟨rfl, rfl⟩ := ej
    rw [← e1, hw]
    have e2 : y2.toNat = ua (1010 + p) := by
      have : x2.toNat = ua (1000 + p) := by rw [← ex]; congr 1; omega
      rw [this] at hy
      omega
    rw [e2, show i1.toNat = j by omega] at hv
    omega
  · rw [ho _ _ (fun z => ej ⟨?_, z.2⟩)]
    · refine g3 j (fun z => ej ⟨?_, by omega⟩) h
      have z1 := z.1
      have : x0.toNat = ua (1000 + q) := by rw [← ex]; congr 1; omega
      rw [this] at z1
      rcases hp with rfl | rfl <;> rcases hq with rfl | rfl
      · rfl
      · exact absurd z1 (zd_ww hD (by decide) (by decide) (by decide))
      · exact absurd z1 (zd_ww hD (by decide) (by decide) (by decide))
      · rfl
    · have z1 := z.1.trans e1
      rcases hp with rfl | rfl <;> rcases hq with rfl | rfl
      · rfl
      · exact absurd z1 (zd_ww hD (by decide) (by decide) (by decide))
      · exact absurd z1 (zd_ww hD (by decide) (by decide) (by decide))
      · rfl
theorem rH1_0_ok (hD : zk_d2 D ua) : zr_okS D rH1_0 := by
  refine zs_A_ok hD rfl (by decide) (by decide) ⟨_, _, rfl, by decide⟩ ?_
  intro ty H H' w a i Ls hT hp hc hw hk
  obtain ⟨l0, Ls', rfl, p0, hp⟩ := zr_cons hp
  obtain ⟨l1, Ls', rfl, p1, hp⟩ := zr_cons hp
  cases zr_nil hp
  obtain ⟨c, v, k, rfl, k0, k1, b0, b1, o1, o2, a, a1, a2, a3, a4⟩ := zd_op hD (by decide) p0
  obtain ⟨x, j1, m, rfl, hj1, hm⟩ := zd_em hD hT (by decide) p1
  obtain ⟨qc0, hc⟩ := zc1 hc
  have qc0 : c ≤ (0 : Int) + 0 := qc0
  obtain ⟨qc1, hc⟩ := zc1 hc
  have qc1 : (0 : Int) ≤ c + 0 := qc1
  obtain ⟨qc2, hc⟩ := zc1 hc
  have qc2 : j1 ≤ (0 : Int) + 0 := qc2
  obtain ⟨qc3, hc⟩ := zc1 hc
  have qc3 : (0 : Int) ≤ j1 + 0 := qc3
  obtain ⟨qc4, hc⟩ := zc1 hc
  have qc4 : (i : Int) ≤ m + 0 := qc4
  obtain ⟨qc5, hc⟩ := zc1 hc
  have qc5 : m ≤ (i : Int) + 0 := qc5
  have hkeep : ∀ j, j ≠ i → zi H' (ua 105) j = zi H (ua 105) j := fun j hj => hk 105 j (by decide) (Or.inr hj)
  have e106 : ∀ j, zi H' (ua 106) j = zi H (ua 106) j := fun j => hk 106 j (by decide) (Or.inl (by decide))
  rw [show j1.toNat = 0 by omega] at hm
  have hoth : zf_sw ua (zi H') 1 (zi H' (ua 106) 1) := by
    rw [e106]
    have o3 := o1.1
    refine ⟨o1.1, zb_k_keep o1.2 (fun j h1 h2 => hkeep j ?_)⟩
    have h1 : 2000 * 1 ≤ j := h1
    have h2 : j < 2000 * 1 + (zi H (ua 106) 1).toNat := h2
    have o2 : zi H (ua 106) 1 ≤ 61 * (k + 1) := o2
    have a1 := a1.1
    omega
  have hme : zf_sw ua (zi H') 0 a := by
    refine ⟨a1.1, zb_k_keep a1.2 (fun j h1 h2 => hkeep j ?_)⟩
    have h1 : 2000 * 0 ≤ j := h1
    have a1 := a1.1
    omega
  refine ⟨w, k, by simp [rH1_0], k0, k1, by omega, by omega, hoth, by rw [e106]; exact o2, a, hme, a2, by rw [e106]; omega, fun _ => ?_⟩
  have hw : zi H' (ua 105) i = w := hw
  have a5 := a1.1
  rw [show 2000 * 0 + a.toNat = i by omega]
  exact hw
theorem rH2_0_ok (hD : zk_d2 D ua) : zr_okS D rH2_0 := by
  refine zs_A_ok hD rfl (by decide) (by decide) ⟨_, _, rfl, by decide⟩ ?_
  intro ty H H' w a i Ls hT hp hc hw hk
  obtain ⟨l0, Ls', rfl, p0, hp⟩ := zr_cons hp
  obtain ⟨l1, Ls', rfl, p1, hp⟩ := zr_cons hp
  cases zr_nil hp
  obtain ⟨c, v, k, rfl, k0, k1, b0, b1, o1, o2, a, a1, a2, a3, a4⟩ := zd_op hD (by decide) p0
  obtain ⟨x, j1, m, rfl, hj1, hm⟩ := zd_em hD hT (by decide) p1
  obtain ⟨qc0, hc⟩ := zc1 hc
  have qc0 : (0 : Int) ≤ c + -1 := qc0
  obtain ⟨qc1, hc⟩ := zc1 hc
  have qc1 : c ≤ (0 : Int) + 60 := qc1
  obtain ⟨qc2, hc⟩ := zc1 hc
  have qc2 : j1 ≤ (0 : Int) + 0 := qc2
  obtain ⟨qc3, hc⟩ := zc1 hc
  have qc3 : (0 : Int) ≤ j1 + 0 := qc3
  obtain ⟨qc4, hc⟩ := zc1 hc
  have qc4 : (i : Int) ≤ m + 0 := qc4
  obtain ⟨qc5, hc⟩ := zc1 hc
  have qc5 : m ≤ (i : Int) + 0 := qc5
  have hkeep : ∀ j, j ≠ i → zi H' (ua 105) j = zi H (ua 105) j := fun j hj => hk 105 j (by decide) (Or.inr hj)
  have e106 : ∀ j, zi H' (ua 106) j = zi H (ua 106) j := fun j => hk 106 j (by decide) (Or.inl (by decide))
  rw [show j1.toNat = 0 by omega] at hm
  have hoth : zf_sw ua (zi H') 1 (zi H' (ua 106) 1) := by
    rw [e106]
    have o3 := o1.1
    refine ⟨o1.1, zb_k_keep o1.2 (fun j h1 h2 => hkeep j ?_)⟩
    have h1 : 2000 * 1 ≤ j := h1
    have h2 : j < 2000 * 1 + (zi H (ua 106) 1).toNat := h2
    have o2 : zi H (ua 106) 1 ≤ 61 * (k + 1) := o2
    have a1 := a1.1
    omega
  have hme : zf_sw ua (zi H') 0 a := by
    refine ⟨a1.1, zb_k_keep a1.2 (fun j h1 h2 => hkeep j ?_)⟩
    have h1 : 2000 * 0 ≤ j := h1
    have a1 := a1.1
    omega
  refine ⟨c, v, k, by simp [rH2_0], k0, k1, b0, b1, hoth, by rw [e106]; exact o2, a, hme, a2, by rw [e106]; exact a3, fun h => ?_⟩
  have a5 := a1.1
  rw [hkeep _ (by omega)]
  exact a4 h
theorem rH3_0_ok (hD : zk_d2 D ua) : zr_okS D rH3_0 := by
  refine zs_A_ok hD rfl (by decide) (by decide) ⟨_, _, rfl, by decide⟩ ?_
  intro ty H H' w a i Ls hT hp hc hw hk
  obtain ⟨l0, Ls', rfl, p0, hp⟩ := zr_cons hp
  obtain ⟨l1, Ls', rfl, p1, hp⟩ := zr_cons hp
  cases zr_nil hp
  obtain ⟨v, k, rfl, k0, k1, b0, b1, o1, o2, a, a1, a2, a3, a4⟩ := zd_op hD (by decide) p0
  obtain ⟨x, j1, m, rfl, hj1, hm⟩ := zd_em hD hT (by decide) p1
  obtain ⟨qc0, hc⟩ := zc1 hc
  have qc0 : j1 ≤ (0 : Int) + 0 := qc0
  obtain ⟨qc1, hc⟩ := zc1 hc
  have qc1 : (0 : Int) ≤ j1 + 0 := qc1
  obtain ⟨qc2, hc⟩ := zc1 hc
  have qc2 : (i : Int) ≤ (0 : Int) + 0 := qc2
  obtain ⟨qc3, hc⟩ := zc1 hc
  have qc3 : (0 : Int) ≤ (i : Int) + 0 := qc3
  obtain ⟨qc4, hc⟩ := zc1 hc
  have qc4 : w ≤ m + 1 := qc4
  obtain ⟨qc5, hc⟩ := zc1 hc
  have qc5 : m ≤ w + -1 := qc5
  have e105 : ∀ j, zi H' (ua 105) j = zi H (ua 105) j := fun j => hk 105 j (by decide) (Or.inl (by decide))
  rw [show j1.toNat = 0 by omega] at hm
  have ei : i = 0 := by omega
  subst ei
  have e106 : zi H' (ua 106) 1 = zi H (ua 106) 1 := hk 106 1 (by decide) (Or.inr (by decide))
  have hw : zi H' (ua 106) 0 = w := hw
  have hoth : zf_sw ua (zi H') 1 (zi H' (ua 106) 1) := by
    rw [e106]
    exact ⟨o1.1, zb_k_keep o1.2 (fun j _ _ => e105 j)⟩
  have hme : zf_sw ua (zi H') 0 a := ⟨a1.1, zb_k_keep a1.2 (fun j _ _ => e105 j)⟩
  refine ⟨1, v, k, by simp [rH3_0], k0, k1, by omega, by omega, hoth, by rw [e106]; exact o2, a, hme, a2, by omega, fun _ => ?_⟩
  rw [e105]
  exact a4 trivial
theorem rH4_0_ok (hD : zk_d2 D ua) : zr_okS D rH4_0 := by
  refine zs_A_ok hD rfl (by decide) (by decide) ⟨_, _, rfl, by decide⟩ ?_
  intro ty H H' w a i Ls hT hp hc hw hk
  obtain ⟨l0, Ls', rfl, p0, hp⟩ := zr_cons hp
  obtain ⟨l1, Ls', rfl, p1, hp⟩ := zr_cons hp
  cases zr_nil hp
  obtain ⟨c, v, k, rfl, k0, k1, b0, b1, o1, o2, a, a1, a2, a3, a4⟩ := zd_op hD (by decide) p0
  obtain ⟨x, j1, m, rfl, hj1, hm⟩ := zd_em hD hT (by decide) p1
  obtain ⟨qc0, hc⟩ := zc1 hc
  have qc0 : (0 : Int) ≤ c + -1 := qc0
  obtain ⟨qc1, hc⟩ := zc1 hc
  have qc1 : c ≤ (0 : Int) + 60 := qc1
  obtain ⟨qc2, hc⟩ := zc1 hc
  have qc2 : j1 ≤ (0 : Int) + 0 := qc2
  obtain ⟨qc3, hc⟩ := zc1 hc
  have qc3 : (0 : Int) ≤ j1 + 0 := qc3
  obtain ⟨qc4, hc⟩ := zc1 hc
  have qc4 : (i : Int) ≤ (0 : Int) + 0 := qc4
  obtain ⟨qc5, hc⟩ := zc1 hc
  have qc5 : (0 : Int) ≤ (i : Int) + 0 := qc5
  obtain ⟨qc6, hc⟩ := zc1 hc
  have qc6 : w ≤ m + 1 := qc6
  obtain ⟨qc7, hc⟩ := zc1 hc
  have qc7 : m ≤ w + -1 := qc7
  have e105 : ∀ j, zi H' (ua 105) j = zi H (ua 105) j := fun j => hk 105 j (by decide) (Or.inl (by decide))
  rw [show j1.toNat = 0 by omega] at hm
  have ei : i = 0 := by omega
  subst ei
  have e106 : zi H' (ua 106) 1 = zi H (ua 106) 1 := hk 106 1 (by decide) (Or.inr (by decide))
  have hw : zi H' (ua 106) 0 = w := hw
  have hoth : zf_sw ua (zi H') 1 (zi H' (ua 106) 1) := by
    rw [e106]
    exact ⟨o1.1, zb_k_keep o1.2 (fun j _ _ => e105 j)⟩
  have hme : zf_sw ua (zi H') 0 a := ⟨a1.1, zb_k_keep a1.2 (fun j _ _ => e105 j)⟩
  refine ⟨c + 1, v, k, by simp [rH4_0], k0, k1, by omega, by omega, hoth, by rw [e106]; exact o2, a, hme, a2, by omega, fun _ => ?_⟩
  rw [e105]
  exact a4 (by omega)
theorem rH1_1_ok (hD : zk_d2 D ua) : zr_okS D rH1_1 := by
  refine zs_A_ok hD rfl (by decide) (by decide) ⟨_, _, rfl, by decide⟩ ?_
  intro ty H H' w a i Ls hT hp hc hw hk
  obtain ⟨l0, Ls', rfl, p0, hp⟩ := zr_cons hp
  obtain ⟨l1, Ls', rfl, p1, hp⟩ := zr_cons hp
  cases zr_nil hp
  obtain ⟨c, v, k, rfl, k0, k1, b0, b1, o1, o2, a, a1, a2, a3, a4⟩ := zd_op hD (by decide) p0
  obtain ⟨x, j1, m, rfl, hj1, hm⟩ := zd_em hD hT (by decide) p1
  obtain ⟨qc0, hc⟩ := zc1 hc
  have qc0 : c ≤ (0 : Int) + 0 := qc0
  obtain ⟨qc1, hc⟩ := zc1 hc
  have qc1 : (0 : Int) ≤ c + 0 := qc1
  obtain ⟨qc2, hc⟩ := zc1 hc
  have qc2 : j1 ≤ (0 : Int) + 1 := qc2
  obtain ⟨qc3, hc⟩ := zc1 hc
  have qc3 : (0 : Int) ≤ j1 + -1 := qc3
  obtain ⟨qc4, hc⟩ := zc1 hc
  have qc4 : (i : Int) ≤ m + 2000 := qc4
  obtain ⟨qc5, hc⟩ := zc1 hc
  have qc5 : m ≤ (i : Int) + -2000 := qc5
  have hkeep : ∀ j, j ≠ i → zi H' (ua 105) j = zi H (ua 105) j := fun j hj => hk 105 j (by decide) (Or.inr hj)
  have e106 : ∀ j, zi H' (ua 106) j = zi H (ua 106) j := fun j => hk 106 j (by decide) (Or.inl (by decide))
  rw [show j1.toNat = 1 by omega] at hm
  have hoth : zf_sw ua (zi H') 0 (zi H' (ua 106) 0) := by
    rw [e106]
    have o3 := o1.1
    refine ⟨o1.1, zb_k_keep o1.2 (fun j h1 h2 => hkeep j ?_)⟩
    have h1 : 2000 * 0 ≤ j := h1
    have h2 : j < 2000 * 0 + (zi H (ua 106) 0).toNat := h2
    have o2 : zi H (ua 106) 0 ≤ 61 * (k + 1) := o2
    have a1 := a1.1
    omega
  have hme : zf_sw ua (zi H') 1 a := by
    refine ⟨a1.1, zb_k_keep a1.2 (fun j h1 h2 => hkeep j ?_)⟩
    have h1 : 2000 * 1 ≤ j := h1
    have a1 := a1.1
    omega
  refine ⟨w, k, by simp [rH1_1], k0, k1, by omega, by omega, hoth, by rw [e106]; exact o2, a, hme, a2, by rw [e106]; omega, fun _ => ?_⟩
  have hw : zi H' (ua 105) i = w := hw
  have a5 := a1.1
  rw [show 2000 * 1 + a.toNat = i by omega]
  exact hw
theorem rH2_1_ok (hD : zk_d2 D ua) : zr_okS D rH2_1 := by
  refine zs_A_ok hD rfl (by decide) (by decide) ⟨_, _, rfl, by decide⟩ ?_
  intro ty H H' w a i Ls hT hp hc hw hk
  obtain ⟨l0, Ls', rfl, p0, hp⟩ := zr_cons hp
  obtain ⟨l1, Ls', rfl, p1, hp⟩ := zr_cons hp
  cases zr_nil hp
  obtain ⟨c, v, k, rfl, k0, k1, b0, b1, o1, o2, a, a1, a2, a3, a4⟩ := zd_op hD (by decide) p0
  obtain ⟨x, j1, m, rfl, hj1, hm⟩ := zd_em hD hT (by decide) p1
  obtain ⟨qc0, hc⟩ := zc1 hc
  have qc0 : (0 : Int) ≤ c + -1 := qc0
  obtain ⟨qc1, hc⟩ := zc1 hc
  have qc1 : c ≤ (0 : Int) + 60 := qc1
  obtain ⟨qc2, hc⟩ := zc1 hc
  have qc2 : j1 ≤ (0 : Int) + 1 := qc2
  obtain ⟨qc3, hc⟩ := zc1 hc
  have qc3 : (0 : Int) ≤ j1 + -1 := qc3
  obtain ⟨qc4, hc⟩ := zc1 hc
  have qc4 : (i : Int) ≤ m + 2000 := qc4
  obtain ⟨qc5, hc⟩ := zc1 hc
  have qc5 : m ≤ (i : Int) + -2000 := qc5
  have hkeep : ∀ j, j ≠ i → zi H' (ua 105) j = zi H (ua 105) j := fun j hj => hk 105 j (by decide) (Or.inr hj)
  have e106 : ∀ j, zi H' (ua 106) j = zi H (ua 106) j := fun j => hk 106 j (by decide) (Or.inl (by decide))
  rw [show j1.toNat = 1 by omega] at hm
  have hoth : zf_sw ua (zi H') 0 (zi H' (ua 106) 0) := by
    rw [e106]
    have o3 := o1.1
    refine ⟨o1.1, zb_k_keep o1.2 (fun j h1 h2 => hkeep j ?_)⟩
    have h1 : 2000 * 0 ≤ j := h1
    have h2 : j < 2000 * 0 + (zi H (ua 106) 0).toNat := h2
    have o2 : zi H (ua 106) 0 ≤ 61 * (k + 1) := o2
    have a1 := a1.1
    omega
  have hme : zf_sw ua (zi H') 1 a := by
    refine ⟨a1.1, zb_k_keep a1.2 (fun j h1 h2 => hkeep j ?_)⟩
    have h1 : 2000 * 1 ≤ j := h1
    have a1 := a1.1
    omega
  refine ⟨c, v, k, by simp [rH2_1], k0, k1, b0, b1, hoth, by rw [e106]; exact o2, a, hme, a2, by rw [e106]; exact a3, fun h => ?_⟩
  have a5 := a1.1
  rw [hkeep _ (by omega)]
  exact a4 h
theorem rH3_1_ok (hD : zk_d2 D ua) : zr_okS D rH3_1 := by
  refine zs_A_ok hD rfl (by decide) (by decide) ⟨_, _, rfl, by decide⟩ ?_
  intro ty H H' w a i Ls hT hp hc hw hk
  obtain ⟨l0, Ls', rfl, p0, hp⟩ := zr_cons hp
  obtain ⟨l1, Ls', rfl, p1, hp⟩ := zr_cons hp
  cases zr_nil hp
  obtain ⟨v, k, rfl, k0, k1, b0, b1, o1, o2, a, a1, a2, a3, a4⟩ := zd_op hD (by decide) p0
  obtain ⟨x, j1, m, rfl, hj1, hm⟩ := zd_em hD hT (by decide) p1
  obtain ⟨qc0, hc⟩ := zc1 hc
  have qc0 : j1 ≤ (0 : Int) + 1 := qc0
  obtain ⟨qc1, hc⟩ := zc1 hc
  have qc1 : (0 : Int) ≤ j1 + -1 := qc1
  obtain ⟨qc2, hc⟩ := zc1 hc
  have qc2 : (i : Int) ≤ (0 : Int) + 1 := qc2
  obtain ⟨qc3, hc⟩ := zc1 hc
  have qc3 : (0 : Int) ≤ (i : Int) + -1 := qc3
  obtain ⟨qc4, hc⟩ := zc1 hc
  have qc4 : w ≤ m + 1 := qc4
  obtain ⟨qc5, hc⟩ := zc1 hc
  have qc5 : m ≤ w + -1 := qc5
  have e105 : ∀ j, zi H' (ua 105) j = zi H (ua 105) j := fun j => hk 105 j (by decide) (Or.inl (by decide))
  rw [show j1.toNat = 1 by omega] at hm
  have ei : i = 1 := by omega
  subst ei
  have e106 : zi H' (ua 106) 0 = zi H (ua 106) 0 := hk 106 0 (by decide) (Or.inr (by decide))
  have hw : zi H' (ua 106) 1 = w := hw
  have hoth : zf_sw ua (zi H') 0 (zi H' (ua 106) 0) := by
    rw [e106]
    exact ⟨o1.1, zb_k_keep o1.2 (fun j _ _ => e105 j)⟩
  have hme : zf_sw ua (zi H') 1 a := ⟨a1.1, zb_k_keep a1.2 (fun j _ _ => e105 j)⟩
  refine ⟨1, v, k, by simp [rH3_1], k0, k1, by omega, by omega, hoth, by rw [e106]; exact o2, a, hme, a2, by omega, fun _ => ?_⟩
  rw [e105]
  exact a4 trivial
theorem rH4_1_ok (hD : zk_d2 D ua) : zr_okS D rH4_1 := by
  refine zs_A_ok hD rfl (by decide) (by decide) ⟨_, _, rfl, by decide⟩ ?_
  intro ty H H' w a i Ls hT hp hc hw hk
  obtain ⟨l0, Ls', rfl, p0, hp⟩ := zr_cons hp
  obtain ⟨l1, Ls', rfl, p1, hp⟩ := zr_cons hp
  cases zr_nil hp
  obtain ⟨c, v, k, rfl, k0, k1, b0, b1, o1, o2, a, a1, a2, a3, a4⟩ := zd_op hD (by decide) p0
  obtain ⟨x, j1, m, rfl, hj1, hm⟩ := zd_em hD hT (by decide) p1
  obtain ⟨qc0, hc⟩ := zc1 hc
  have qc0 : (0 : Int) ≤ c + -1 := qc0
  obtain ⟨qc1, hc⟩ := zc1 hc
  have qc1 : c ≤ (0 : Int) + 60 := qc1
  obtain ⟨qc2, hc⟩ := zc1 hc
  have qc2 : j1 ≤ (0 : Int) + 1 := qc2
  obtain ⟨qc3, hc⟩ := zc1 hc
  have qc3 : (0 : Int) ≤ j1 + -1 := qc3
  obtain ⟨qc4, hc⟩ := zc1 hc
  have qc4 : (i : Int) ≤ (0 : Int) + 1 := qc4
  obtain ⟨qc5, hc⟩ := zc1 hc
  have qc5 : (0 : Int) ≤ (i : Int) + -1 := qc5
  obtain ⟨qc6, hc⟩ := zc1 hc
  have qc6 : w ≤ m + 1 := qc6
  obtain ⟨qc7, hc⟩ := zc1 hc
  have qc7 : m ≤ w + -1 := qc7
  have e105 : ∀ j, zi H' (ua 105) j = zi H (ua 105) j := fun j => hk 105 j (by decide) (Or.inl (by decide))
  rw [show j1.toNat = 1 by omega] at hm
  have ei : i = 1 := by omega
  subst ei
  have e106 : zi H' (ua 106) 0 = zi H (ua 106) 0 := hk 106 0 (by decide) (Or.inr (by decide))
  have hw : zi H' (ua 106) 1 = w := hw
  have hoth : zf_sw ua (zi H') 0 (zi H' (ua 106) 0) := by
    rw [e106]
    exact ⟨o1.1, zb_k_keep o1.2 (fun j _ _ => e105 j)⟩
  have hme : zf_sw ua (zi H') 1 a := ⟨a1.1, zb_k_keep a1.2 (fun j _ _ => e105 j)⟩
  refine ⟨c + 1, v, k, by simp [rH4_1], k0, k1, by omega, by omega, hoth, by rw [e106]; exact o2, a, hme, a2, by omega, fun _ => ?_⟩
  rw [e105]
  exact a4 (by omega)
theorem rT1_0_ok (hD : zk_d2 D ua) : zr_okS D rT1_0 := by
  refine zs_A_ok hD rfl (by decide) (by decide) ⟨_, _, rfl, by decide⟩ ?_
  intro ty H H' w a i Ls hT hp hc hw hk
  obtain ⟨l0, Ls', rfl, p0, hp⟩ := zr_cons hp
  cases zr_nil hp
  obtain ⟨rfl, d0, d1, d2⟩ := zd_op hD (by decide) p0
  obtain ⟨qc0, hc⟩ := zc1 hc
  have qc0 : (0 : Int) ≤ (i : Int) + -2000 := qc0
  have e112 := hk 112 0 (by decide) (Or.inl (by decide))
  have d0 : 0 ≤ zi H (ua 112) 0 := d0
  refine ⟨rfl, by rw [e112]; exact d0, by rw [e112]; exact d1, ?_⟩
  rw [e112]
  refine zb_k_keep d2 (fun j h1 h2 => hk 111 j (by decide) (Or.inr ?_))
  have h1 : 2000 * 0 ≤ j := h1
  have h2 : j < 2000 * 0 + (zi H (ua 112) 0).toNat := h2
  have d1 : zi H (ua 112) 0 ≤ 1830 := d1
  omega
theorem rT2_0_ok (hD : zk_d2 D ua) : zr_okS D rT2_0 := by
  refine zs_A_ok hD rfl (by decide) (by decide) ⟨_, _, rfl, by decide⟩ ?_
  intro ty H H' w a i Ls hT hp hc hw hk
  obtain ⟨l0, Ls', rfl, p0, hp⟩ := zr_cons hp
  cases zr_nil hp
  obtain ⟨rfl, d0, d1, d2⟩ := zd_op hD (by decide) p0
  obtain ⟨qc0, hc⟩ := zc1 hc
  have qc0 : (0 : Int) ≤ (i : Int) + -1 := qc0
  have e112 := hk 112 0 (by decide) (Or.inr (by omega))
  refine ⟨rfl, by rw [e112]; exact d0, by rw [e112]; exact d1, ?_⟩
  rw [e112]
  exact zb_k_keep d2 (fun j _ _ => hk 111 j (by decide) (Or.inl (by decide)))
theorem rT3_0_ok (hD : zk_d2 D ua) : zr_okS D rT3_0 := by
  refine zs_A_ok hD rfl (by decide) (by decide) ⟨_, _, rfl, by decide⟩ ?_
  intro ty H H' w a i Ls hT hp hc hw hk
  obtain ⟨l0, Ls', rfl, p0, hp⟩ := zr_cons hp
  obtain ⟨l1, Ls', rfl, p1, hp⟩ := zr_cons hp
  cases zr_nil hp
  obtain ⟨k, rfl, h0_1⟩ := zd_op hD (by decide) p0
  obtain ⟨x, j1, v, rfl, hj1, hv⟩ := zd_em hD hT (by decide) p1
  obtain ⟨qc0, hc⟩ := zc1 hc
  have qc0 : (i : Int) ≤ k + 0 := qc0
  obtain ⟨qc1, hc⟩ := zc1 hc
  have qc1 : k ≤ (i : Int) + 0 := qc1
  obtain ⟨qc2, hc⟩ := zc1 hc
  have qc2 : j1 ≤ k + 0 := qc2
  obtain ⟨qc3, hc⟩ := zc1 hc
  have qc3 : k ≤ j1 + 0 := qc3
  obtain ⟨qc4, hc⟩ := zc1 hc
  have qc4 : w ≤ v + 0 := qc4
  obtain ⟨qc5, hc⟩ := zc1 hc
  have qc5 : v ≤ w + 0 := qc5
  refine ⟨k + 1, by simp [rT3_0], fun j hj => ?_⟩
  have hw : zi H' (ua 111) i = w := hw
  rw [hk 105 _ (by decide) (Or.inl (by decide))]
  by_cases e : (j : Int) < k
  · rw [hk 111 _ (by decide) (Or.inr (by omega))]
    exact h0_1 j e
  · have e1 : j1.toNat = i := by omega
    rw [e1] at hv
    rw [show j = i by omega]
    omega
theorem rT1_1_ok (hD : zk_d2 D ua) : zr_okS D rT1_1 := by
  refine zs_A_ok hD rfl (by decide) (by decide) ⟨_, _, rfl, by decide⟩ ?_
  intro ty H H' w a i Ls hT hp hc hw hk
  obtain ⟨l0, Ls', rfl, p0, hp⟩ := zr_cons hp
  cases zr_nil hp
  obtain ⟨rfl, d0, d1, d2⟩ := zd_op hD (by decide) p0
  obtain ⟨qc0, hc⟩ := zc1 hc
  have qc0 : (i : Int) ≤ (0 : Int) + 1999 := qc0
  have e112 := hk 112 1 (by decide) (Or.inl (by decide))
  have d0 : 0 ≤ zi H (ua 112) 1 := d0
  refine ⟨rfl, by rw [e112]; exact d0, by rw [e112]; exact d1, ?_⟩
  rw [e112]
  refine zb_k_keep d2 (fun j h1 h2 => hk 111 j (by decide) (Or.inr ?_))
  have h1 : 2000 * 1 ≤ j := h1
  have h2 : j < 2000 * 1 + (zi H (ua 112) 1).toNat := h2
  have d1 : zi H (ua 112) 1 ≤ 1830 := d1
  omega
theorem rT2_1_ok (hD : zk_d2 D ua) : zr_okS D rT2_1 := by
  refine zs_A_ok hD rfl (by decide) (by decide) ⟨_, _, rfl, by decide⟩ ?_
  intro ty H H' w a i Ls hT hp hc hw hk
  obtain ⟨l0, Ls', rfl, p0, hp⟩ := zr_cons hp
  cases zr_nil hp
  obtain ⟨rfl, d0, d1, d2⟩ := zd_op hD (by decide) p0
  obtain ⟨qc0, hc⟩ := zc1 hc
  have qc0 : (i : Int) ≤ (0 : Int) + 0 := qc0
  have e112 := hk 112 1 (by decide) (Or.inr (by omega))
  refine ⟨rfl, by rw [e112]; exact d0, by rw [e112]; exact d1, ?_⟩
  rw [e112]
  exact zb_k_keep d2 (fun j _ _ => hk 111 j (by decide) (Or.inl (by decide)))
theorem rT3_1_ok (hD : zk_d2 D ua) : zr_okS D rT3_1 := by
  refine zs_A_ok hD rfl (by decide) (by decide) ⟨_, _, rfl, by decide⟩ ?_
  intro ty H H' w a i Ls hT hp hc hw hk
  obtain ⟨l0, Ls', rfl, p0, hp⟩ := zr_cons hp
  obtain ⟨l1, Ls', rfl, p1, hp⟩ := zr_cons hp
  cases zr_nil hp
  obtain ⟨k, rfl, h0_1⟩ := zd_op hD (by decide) p0
  obtain ⟨x, j1, v, rfl, hj1, hv⟩ := zd_em hD hT (by decide) p1
  obtain ⟨qc0, hc⟩ := zc1 hc
  have qc0 : (i : Int) ≤ k + 2000 := qc0
  obtain ⟨qc1, hc⟩ := zc1 hc
  have qc1 : k ≤ (i : Int) + -2000 := qc1
  obtain ⟨qc2, hc⟩ := zc1 hc
  have qc2 : j1 ≤ k + 2000 := qc2
  obtain ⟨qc3, hc⟩ := zc1 hc
  have qc3 : k ≤ j1 + -2000 := qc3
  obtain ⟨qc4, hc⟩ := zc1 hc
  have qc4 : w ≤ v + 0 := qc4
  obtain ⟨qc5, hc⟩ := zc1 hc
  have qc5 : v ≤ w + 0 := qc5
  refine ⟨k + 1, by simp [rT3_1], fun j hj => ?_⟩
  have hw : zi H' (ua 111) i = w := hw
  rw [hk 105 _ (by decide) (Or.inl (by decide))]
  by_cases e : (j : Int) < k
  · rw [hk 111 _ (by decide) (Or.inr (by omega))]
    exact h0_1 j e
  · have e1 : j1.toNat = i := by omega
    rw [e1] at hv
    rw [show 2000 + j = i by omega]
    omega
theorem rZ1_ok (hD : zk_d2 D ua) : zr_okS D rZ1 := by
  intro ty H H' w a i hd Ls hT hT' ha hty hh hp hc hw ho
  rw [if_neg (show ¬ rZ1.1.1 = 0 by decide)] at hh
  subst hh
  obtain ⟨l0, Ls', rfl, p0, hp⟩ := zr_cons hp
  obtain ⟨l1, Ls', rfl, p1, hp⟩ := zr_cons hp
  obtain ⟨l2, Ls', rfl, p2, hp⟩ := zr_cons hp
  cases zr_nil hp
  obtain ⟨x, c, v, rfl, h0⟩ := zd_op hD (by decide) p0
  obtain ⟨x1, y, rfl, h0x1, ⟨q1, hq1, ex1⟩, hy⟩ := zd_hd hD hT p1
  obtain ⟨x2, n, rfl, h0x2, ⟨q2, hq2, ex2⟩, hn⟩ := zd_hd hD hT p2
  obtain ⟨qc0, hc⟩ := zc1 hc
  have qc0 : x1 ≤ x + 0 := qc0
  obtain ⟨qc1, hc⟩ := zc1 hc
  have qc1 : x ≤ x1 + 0 := qc1
  obtain ⟨qc2, hc⟩ := zc1 hc
  have qc2 : x2 ≤ x + 0 := qc2
  obtain ⟨qc3, hc⟩ := zc1 hc
  have qc3 : x ≤ x2 + 0 := qc3
  obtain ⟨qc4, hc⟩ := zc1 hc
  have qc4 : y ≤ a + 0 := qc4
  obtain ⟨qc5, hc⟩ := zc1 hc
  have qc5 : a ≤ y + 0 := qc5
  obtain ⟨qc6, hc⟩ := zc1 hc
  have qc6 : (i : Int) ≤ n + 0 := qc6
  obtain ⟨qc7, hc⟩ := zc1 hc
  have qc7 : n ≤ (i : Int) + 0 := qc7
  obtain ⟨qc8, hc⟩ := zc1 hc
  have qc8 : (i : Int) ≤ (0 : Int) + 1829 := qc8
  obtain ⟨qc9, hc⟩ := zc1 hc
  have qc9 : c ≤ (0 : Int) + 0 := qc9
  obtain ⟨qc10, hc⟩ := zc1 hc
  have qc10 : (0 : Int) ≤ c + 0 := qc10
  have e1 : a.toNat = ua (1040 + q1) := by
    have := (h0 q1 hq1).1
    rw [ex1] at hy
    omega
  have ex : ua (1030 + q1) = x.toNat := by rw [← ex1]; congr 1; omega
  refine (hD.1 _ (by decide) _ _ _).mpr ⟨zd_ty hD (by decide) p0, x, w, by simp [rZ1], zh_A hD h0 hq1 e1 ho (fun b f m hb h => ?_) (fun hj h => ?_)⟩
  · rw [ex] at hb
    exact (zp_hw_ne hb).mpr ((zp_bi_ne hb).mp h)
  · refine (zp_hw_eq ex).mpr ?_
    obtain ⟨g0, s, g1, g2, g3⟩ := (zp_bi_eq ex).mp h
    have e2 : zi H (ua (1030 + q1)) (D.dI 3 10) = n := by rw [← hn, show x2.toNat = ua (1030 + q1) by rw [ex]; congr 1; omega]
    have e3 : s = i := by omega
    refine ⟨s, zb_k_keep g1 (fun j _ h2 => hj j (by omega)), by omega, by omega, ?_⟩
    rw [← e1, e3]
    exact hw
theorem rZ2_ok (hD : zk_d2 D ua) : zr_okS D rZ2 := by
  intro ty H H' w a i hd Ls hT hT' ha hty hh hp hc hw ho
  rw [if_neg (show ¬ rZ2.1.1 = 0 by decide)] at hh
  subst hh
  obtain ⟨l0, Ls', rfl, p0, hp⟩ := zr_cons hp
  obtain ⟨l1, Ls', rfl, p1, hp⟩ := zr_cons hp
  obtain ⟨l2, Ls', rfl, p2, hp⟩ := zr_cons hp
  cases zr_nil hp
  obtain ⟨x, c, v, rfl, h0⟩ := zd_op hD (by decide) p0
  obtain ⟨x1, y, rfl, h0x1, ⟨q1, hq1, ex1⟩, hy⟩ := zd_hd hD hT p1
  obtain ⟨x2, n, rfl, h0x2, ⟨q2, hq2, ex2⟩, hn⟩ := zd_hd hD hT p2
  obtain ⟨qc0, hc⟩ := zc1 hc
  have qc0 : x1 ≤ x + 0 := qc0
  obtain ⟨qc1, hc⟩ := zc1 hc
  have qc1 : x ≤ x1 + 0 := qc1
  obtain ⟨qc2, hc⟩ := zc1 hc
  have qc2 : x2 ≤ x + 0 := qc2
  obtain ⟨qc3, hc⟩ := zc1 hc
  have qc3 : x ≤ x2 + 0 := qc3
  obtain ⟨qc4, hc⟩ := zc1 hc
  have qc4 : y ≤ a + 0 := qc4
  obtain ⟨qc5, hc⟩ := zc1 hc
  have qc5 : a ≤ y + 0 := qc5
  obtain ⟨qc6, hc⟩ := zc1 hc
  have qc6 : (i : Int) ≤ n + 0 := qc6
  obtain ⟨qc7, hc⟩ := zc1 hc
  have qc7 : n ≤ (i : Int) + 0 := qc7
  obtain ⟨qc8, hc⟩ := zc1 hc
  have qc8 : (i : Int) ≤ (0 : Int) + 1829 := qc8
  obtain ⟨qc9, hc⟩ := zc1 hc
  have qc9 : (0 : Int) ≤ c + -1 := qc9
  have e1 : a.toNat = ua (1040 + q1) := by
    have := (h0 q1 hq1).1
    rw [ex1] at hy
    omega
  have ex : ua (1030 + q1) = x.toNat := by rw [← ex1]; congr 1; omega
  refine (hD.1 _ (by decide) _ _ _).mpr ⟨zd_ty hD (by decide) p0, x, c, v, by simp [rZ2], zh_A hD h0 hq1 e1 ho (fun b f m hb h => ?_) (fun hj h => ?_)⟩
  · rw [ex] at hb
    exact (zp_bi_ne hb).mpr ((zp_bi_ne hb).mp h)
  · refine (zp_bi_eq ex).mpr ?_
    obtain ⟨g0, s, g1, g2, g3⟩ := (zp_bi_eq ex).mp h
    have e2 : zi H (ua (1030 + q1)) (D.dI 3 10) = n := by rw [← hn, show x2.toNat = ua (1030 + q1) by rw [ex]; congr 1; omega]
    exact ⟨g0, s, zb_k_keep g1 (fun j _ h2 => hj j (by omega)), g2, fun h1 h2 => by rw [hj s (by omega)]; exact g3 h1 h2⟩
theorem rZ3_ok (hD : zk_d2 D ua) : zr_okS D rZ3 := by
  intro ty H H' w a i hd Ls hT hT' ha hty hh hp hc hw ho
  rw [if_pos (show rZ3.1.1 = 0 by decide), zd_TT hD, show (zTT rZ3.1.2.1).2.1 = 3 by decide] at hh
  obtain ⟨rfl, rfl⟩ := hh
  obtain ⟨l0, Ls', rfl, p0, hp⟩ := zr_cons hp
  obtain ⟨l1, Ls', rfl, p1, hp⟩ := zr_cons hp
  cases zr_nil hp
  obtain ⟨x, v, rfl, h0⟩ := zd_op hD (by decide) p0
  obtain ⟨x2, n, rfl, h0x2, ⟨q2, hq2, ex2⟩, hn⟩ := zd_hd hD hT p1
  obtain ⟨qc0, hc⟩ := zc1 hc
  have qc0 : x2 ≤ x + 0 := qc0
  obtain ⟨qc1, hc⟩ := zc1 hc
  have qc1 : x ≤ x2 + 0 := qc1
  obtain ⟨qc2, hc⟩ := zc1 hc
  have qc2 : a ≤ x + 0 := qc2
  obtain ⟨qc3, hc⟩ := zc1 hc
  have qc3 : x ≤ a + 0 := qc3
  obtain ⟨qc4, hc⟩ := zc1 hc
  have qc4 : w ≤ n + 1 := qc4
  obtain ⟨qc5, hc⟩ := zc1 hc
  have qc5 : n ≤ w + -1 := qc5
  have ex : ua (1030 + q2) = x.toNat := by rw [← ex2]; congr 1; omega
  have e1 : a.toNat = ua (1030 + q2) := by rw [ex]; congr 1; omega
  refine (hD.1 _ (by decide) _ _ _).mpr ⟨zd_ty hD (by decide) p0, x, 1, v, by simp [rZ3], zh_F hD h0 hq2 e1 hw ho (fun b f m hb h => ?_) (fun h => ?_)⟩
  · rw [ex] at hb
    exact (zp_bi_ne hb).mpr ((zp_hw_ne hb).mp h)
  · refine (zp_bi_eq ex).mpr ?_
    obtain ⟨s, g1, g2, g3, g4⟩ := (zp_hw_eq ex).mp h
    rw [← ex2, hn] at g2 g3
    exact ⟨by omega, s, g1, by omega, fun _ _ => g4⟩
theorem rZ4_ok (hD : zk_d2 D ua) : zr_okS D rZ4 := by
  intro ty H H' w a i hd Ls hT hT' ha hty hh hp hc hw ho
  rw [if_pos (show rZ4.1.1 = 0 by decide), zd_TT hD, show (zTT rZ4.1.2.1).2.1 = 3 by decide] at hh
  obtain ⟨rfl, rfl⟩ := hh
  obtain ⟨l0, Ls', rfl, p0, hp⟩ := zr_cons hp
  obtain ⟨l1, Ls', rfl, p1, hp⟩ := zr_cons hp
  cases zr_nil hp
  obtain ⟨x, c, v, rfl, h0⟩ := zd_op hD (by decide) p0
  obtain ⟨x2, n, rfl, h0x2, ⟨q2, hq2, ex2⟩, hn⟩ := zd_hd hD hT p1
  obtain ⟨qc0, hc⟩ := zc1 hc
  have qc0 : x2 ≤ x + 0 := qc0
  obtain ⟨qc1, hc⟩ := zc1 hc
  have qc1 : x ≤ x2 + 0 := qc1
  obtain ⟨qc2, hc⟩ := zc1 hc
  have qc2 : a ≤ x + 0 := qc2
  obtain ⟨qc3, hc⟩ := zc1 hc
  have qc3 : x ≤ a + 0 := qc3
  obtain ⟨qc4, hc⟩ := zc1 hc
  have qc4 : w ≤ n + 1 := qc4
  obtain ⟨qc5, hc⟩ := zc1 hc
  have qc5 : n ≤ w + -1 := qc5
  obtain ⟨qc6, hc⟩ := zc1 hc
  have qc6 : (0 : Int) ≤ c + -1 := qc6
  obtain ⟨qc7, hc⟩ := zc1 hc
  have qc7 : n ≤ (0 : Int) + 1829 := qc7
  have ex : ua (1030 + q2) = x.toNat := by rw [← ex2]; congr 1; omega
  have e1 : a.toNat = ua (1030 + q2) := by rw [ex]; congr 1; omega
  refine (hD.1 _ (by decide) _ _ _).mpr ⟨zd_ty hD (by decide) p0, x, c + 1, v, by simp [rZ4], zh_F hD h0 hq2 e1 hw ho (fun b f m hb h => ?_) (fun h => ?_)⟩
  · rw [ex] at hb
    exact (zp_bi_ne hb).mpr ((zp_bi_ne hb).mp h)
  · refine (zp_bi_eq ex).mpr ?_
    obtain ⟨g0, s, g1, g2, g3⟩ := (zp_bi_eq ex).mp h
    rw [← ex2, hn] at g2
    exact ⟨by omega, s, g1, by omega, fun h1 _ => g3 h1 (by omega)⟩
theorem rZ5_ok (hD : zk_d2 D ua) : zr_okS D rZ5 := by
  intro ty H H' w a i hd Ls hT hT' ha hty hh hp hc hw ho
  rw [if_pos (show rZ5.1.1 = 0 by decide), zd_TT hD, show (zTT rZ5.1.2.1).2.1 = 3 by decide] at hh
  obtain ⟨rfl, rfl⟩ := hh
  obtain ⟨l0, Ls', rfl, p0, hp⟩ := zr_cons hp
  cases zr_nil hp
  obtain ⟨rfl, h0⟩ := zd_op hD (by decide) p0
  obtain ⟨qc0, hc⟩ := zc1 hc
  have qc0 : w ≤ (0 : Int) + 0 := qc0
  obtain ⟨qc1, hc⟩ := zc1 hc
  have qc1 : (0 : Int) ≤ w + 0 := qc1
  have hR : D.RO 37 a.toNat := zk_T_RO hT hty (by rw [zd_TT hD]; decide)
  obtain ⟨q, hq, e1⟩ : ∃ q, (q = 0 ∨ q = 1) ∧ a.toNat = ua (1030 + q) := by
    rcases hD.2.2.2.2.2.2.2.2.2.2.1 _ hR with e | e
    · exact ⟨0, Or.inl rfl, e⟩
    · exact ⟨1, Or.inr rfl, e⟩
  refine (hD.1 _ (by decide) _ _ _).mpr ⟨zd_ty hD (by decide) p0, rfl, zh_F hD h0 hq e1 hw ho (fun b f m hb h => h) (fun h => ?_)⟩
  exact ⟨0, zb_k_nil _ _, by omega⟩
theorem rD1_ok (hD : zk_d2 D ua) : zr_okS D rD1 := by
  refine zs_A_ok hD rfl (by decide) (by decide) ⟨_, _, rfl, by decide⟩ ?_
  intro ty H H' w a i Ls hT hp hc hw hk
  obtain ⟨l0, Ls', rfl, p0, hp⟩ := zr_cons hp
  cases zr_nil hp
  obtain ⟨rfl, a0⟩ := zd_op hD (by decide) p0
  obtain ⟨qc0, hc⟩ := zc1 hc
  have qc0 : (0 : Int) ≤ (i : Int) + -80 := qc0
  have hz := zd_ty hD (by decide) p0
  have e43 : ∀ k, zi H' (ua 43) k = zi H (ua 43) k := fun k => hk 43 k (by decide) (Or.inl (by decide))
  refine ⟨rfl, ?_⟩
  rw [e43, e43]
  exact zf_ch_eq (fun s _ => hk 77 s (by decide) (Or.inl (by decide))) (fun s hs => (zd_many hD hT hz hs).2) (fun j hj => hk 79 j (by decide) (Or.inr (by omega))) (fun j _ => ⟨hk 114 j (by decide) (Or.inl (by decide)), hk 115 j (by decide) (Or.inl (by decide)), hk 116 j (by decide) (Or.inl (by decide)), hk 118 j (by decide) (Or.inl (by decide))⟩) a0
theorem rD2_ok (hD : zk_d2 D ua) : zr_okS D rD2 := by
  refine zs_A_ok hD rfl (by decide) (by decide) ⟨_, _, rfl, by decide⟩ ?_
  intro ty H H' w a i Ls hT hp hc hw hk
  obtain ⟨l0, Ls', rfl, p0, hp⟩ := zr_cons hp
  cases zr_nil hp
  obtain ⟨rfl, a0⟩ := zd_op hD (by decide) p0
  obtain ⟨qc0, hc⟩ := zc1 hc
  have qc0 : (0 : Int) ≤ (i : Int) + -2 := qc0
  have hz := zd_ty hD (by decide) p0
  have e43 : ∀ k, zi H' (ua 43) k = zi H (ua 43) k := fun k => hk 43 k (by decide) (Or.inl (by decide))
  refine ⟨rfl, ?_⟩
  rw [e43, e43]
  exact zf_ch_eq (fun s hs => hk 77 s (by decide) (Or.inr (by omega))) (fun s hs => (zd_many hD hT hz hs).2) (fun j hj => hk 79 j (by decide) (Or.inl (by decide))) (fun j _ => ⟨hk 114 j (by decide) (Or.inl (by decide)), hk 115 j (by decide) (Or.inl (by decide)), hk 116 j (by decide) (Or.inl (by decide)), hk 118 j (by decide) (Or.inl (by decide))⟩) a0
theorem rD3_114_ok (hD : zk_d2 D ua) : zr_okS D rD3_114 := by
  refine zs_A_ok hD rfl (by decide) (by decide) ⟨_, _, rfl, by decide⟩ ?_
  intro ty H H' w a i Ls hT hp hc hw hk
  obtain ⟨l0, Ls', rfl, p0, hp⟩ := zr_cons hp
  obtain ⟨l1, Ls', rfl, p1, hp⟩ := zr_cons hp
  cases zr_nil hp
  obtain ⟨rfl, a0⟩ := zd_op hD (by decide) p0
  obtain ⟨n_o, n, rfl, hn⟩ := zd_fm hD hT p1
  obtain ⟨qc0, hc⟩ := zc1 hc
  have qc0 : n ≤ (i : Int) + 0 := qc0
  have hz := zd_ty hD (by decide) p0
  have e43 : ∀ k, zi H' (ua 43) k = zi H (ua 43) k := fun k => hk 43 k (by decide) (Or.inl (by decide))
  refine ⟨rfl, ?_⟩
  rw [e43, e43]
  exact zf_ch_eq (fun s hs => hk 77 s (by decide) (Or.inl (by decide))) (fun s hs => (zd_many hD hT hz hs).2) (fun j hj => hk 79 j (by decide) (Or.inl (by decide))) (fun j hj => ⟨hk 114 j (by decide) (Or.inr (by omega)), hk 115 j (by decide) (Or.inr (by omega)), hk 116 j (by decide) (Or.inr (by omega)), hk 118 j (by decide) (Or.inr (by omega))⟩) a0
theorem rD4_114_ok (hD : zk_d2 D ua) : zr_okS D rD4_114 := by
  refine zs_A_ok hD rfl (by decide) (by decide) ⟨_, _, rfl, by decide⟩ ?_
  intro ty H H' w a i Ls hT hp hc hw hk
  obtain ⟨l0, Ls', rfl, p0, hp⟩ := zr_cons hp
  obtain ⟨l1, Ls', rfl, p1, hp⟩ := zr_cons hp
  cases zr_nil hp
  obtain ⟨s, d, k, rfl, s0, n0, h0⟩ := zd_op hD (by decide) p0
  obtain ⟨n_o, n, rfl, hn⟩ := zd_fm hD hT p1
  obtain ⟨qc0, hc⟩ := zc1 hc
  have qc0 : n ≤ (i : Int) + 0 := qc0
  have hz := zd_ty hD (by decide) p0
  have e43 : ∀ k, zi H' (ua 43) k = zi H (ua 43) k := fun k => hk 43 k (by decide) (Or.inl (by decide))
  have hs : s.toNat = 0 ∨ s.toNat = 1 := by omega
  refine ⟨s, d, k, by simp [rD4_114], s0, by rw [e43]; exact n0, ?_⟩
  rw [e43, zc_t_eq s0 (zd_many hD hT hz hs).2 (hk 77 _ (by decide) (Or.inl (by decide))) (fun j hj => hk 79 j (by decide) (Or.inl (by decide))) (fun j hj => ⟨hk 114 j (by decide) (Or.inr (by omega)), hk 115 j (by decide) (Or.inr (by omega)), hk 116 j (by decide) (Or.inr (by omega)), hk 118 j (by decide) (Or.inr (by omega))⟩)]
  exact h0
theorem rD3_115_ok (hD : zk_d2 D ua) : zr_okS D rD3_115 := by
  refine zs_A_ok hD rfl (by decide) (by decide) ⟨_, _, rfl, by decide⟩ ?_
  intro ty H H' w a i Ls hT hp hc hw hk
  obtain ⟨l0, Ls', rfl, p0, hp⟩ := zr_cons hp
  obtain ⟨l1, Ls', rfl, p1, hp⟩ := zr_cons hp
  cases zr_nil hp
  obtain ⟨rfl, a0⟩ := zd_op hD (by decide) p0
  obtain ⟨n_o, n, rfl, hn⟩ := zd_fm hD hT p1
  obtain ⟨qc0, hc⟩ := zc1 hc
  have qc0 : n ≤ (i : Int) + 0 := qc0
  have hz := zd_ty hD (by decide) p0
  have e43 : ∀ k, zi H' (ua 43) k = zi H (ua 43) k := fun k => hk 43 k (by decide) (Or.inl (by decide))
  refine ⟨rfl, ?_⟩
  rw [e43, e43]
  exact zf_ch_eq (fun s hs => hk 77 s (by decide) (Or.inl (by decide))) (fun s hs => (zd_many hD hT hz hs).2) (fun j hj => hk 79 j (by decide) (Or.inl (by decide))) (fun j hj => ⟨hk 114 j (by decide) (Or.inr (by omega)), hk 115 j (by decide) (Or.inr (by omega)), hk 116 j (by decide) (Or.inr (by omega)), hk 118 j (by decide) (Or.inr (by omega))⟩) a0
theorem rD4_115_ok (hD : zk_d2 D ua) : zr_okS D rD4_115 := by
  refine zs_A_ok hD rfl (by decide) (by decide) ⟨_, _, rfl, by decide⟩ ?_
  intro ty H H' w a i Ls hT hp hc hw hk
  obtain ⟨l0, Ls', rfl, p0, hp⟩ := zr_cons hp
  obtain ⟨l1, Ls', rfl, p1, hp⟩ := zr_cons hp
  cases zr_nil hp
  obtain ⟨s, d, k, rfl, s0, n0, h0⟩ := zd_op hD (by decide) p0
  obtain ⟨n_o, n, rfl, hn⟩ := zd_fm hD hT p1
  obtain ⟨qc0, hc⟩ := zc1 hc
  have qc0 : n ≤ (i : Int) + 0 := qc0
  have hz := zd_ty hD (by decide) p0
  have e43 : ∀ k, zi H' (ua 43) k = zi H (ua 43) k := fun k => hk 43 k (by decide) (Or.inl (by decide))
  have hs : s.toNat = 0 ∨ s.toNat = 1 := by omega
  refine ⟨s, d, k, by simp [rD4_115], s0, by rw [e43]; exact n0, ?_⟩
  rw [e43, zc_t_eq s0 (zd_many hD hT hz hs).2 (hk 77 _ (by decide) (Or.inl (by decide))) (fun j hj => hk 79 j (by decide) (Or.inl (by decide))) (fun j hj => ⟨hk 114 j (by decide) (Or.inr (by omega)), hk 115 j (by decide) (Or.inr (by omega)), hk 116 j (by decide) (Or.inr (by omega)), hk 118 j (by decide) (Or.inr (by omega))⟩)]
  exact h0
theorem rD3_116_ok (hD : zk_d2 D ua) : zr_okS D rD3_116 := by
  refine zs_A_ok hD rfl (by decide) (by decide) ⟨_, _, rfl, by decide⟩ ?_
  intro ty H H' w a i Ls hT hp hc hw hk
  obtain ⟨l0, Ls', rfl, p0, hp⟩ := zr_cons hp
  obtain ⟨l1, Ls', rfl, p1, hp⟩ := zr_cons hp
  cases zr_nil hp
  obtain ⟨rfl, a0⟩ := zd_op hD (by decide) p0
  obtain ⟨n_o, n, rfl, hn⟩ := zd_fm hD hT p1
  obtain ⟨qc0, hc⟩ := zc1 hc
  have qc0 : n ≤ (i : Int) + 0 := qc0
  have hz := zd_ty hD (by decide) p0
  have e43 : ∀ k, zi H' (ua 43) k = zi H (ua 43) k := fun k => hk 43 k (by decide) (Or.inl (by decide))
  refine ⟨rfl, ?_⟩
  rw [e43, e43]
  exact zf_ch_eq (fun s hs => hk 77 s (by decide) (Or.inl (by decide))) (fun s hs => (zd_many hD hT hz hs).2) (fun j hj => hk 79 j (by decide) (Or.inl (by decide))) (fun j hj => ⟨hk 114 j (by decide) (Or.inr (by omega)), hk 115 j (by decide) (Or.inr (by omega)), hk 116 j (by decide) (Or.inr (by omega)), hk 118 j (by decide) (Or.inr (by omega))⟩) a0
theorem rD4_116_ok (hD : zk_d2 D ua) : zr_okS D rD4_116 := by
  refine zs_A_ok hD rfl (by decide) (by decide) ⟨_, _, rfl, by decide⟩ ?_
  intro ty H H' w a i Ls hT hp hc hw hk
  obtain ⟨l0, Ls', rfl, p0, hp⟩ := zr_cons hp
  obtain ⟨l1, Ls', rfl, p1, hp⟩ := zr_cons hp
  cases zr_nil hp
  obtain ⟨s, d, k, rfl, s0, n0, h0⟩ := zd_op hD (by decide) p0
  obtain ⟨n_o, n, rfl, hn⟩ := zd_fm hD hT p1
  obtain ⟨qc0, hc⟩ := zc1 hc
  have qc0 : n ≤ (i : Int) + 0 := qc0
  have hz := zd_ty hD (by decide) p0
  have e43 : ∀ k, zi H' (ua 43) k = zi H (ua 43) k := fun k => hk 43 k (by decide) (Or.inl (by decide))
  have hs : s.toNat = 0 ∨ s.toNat = 1 := by omega
  refine ⟨s, d, k, by simp [rD4_116], s0, by rw [e43]; exact n0, ?_⟩
  rw [e43, zc_t_eq s0 (zd_many hD hT hz hs).2 (hk 77 _ (by decide) (Or.inl (by decide))) (fun j hj => hk 79 j (by decide) (Or.inl (by decide))) (fun j hj => ⟨hk 114 j (by decide) (Or.inr (by omega)), hk 115 j (by decide) (Or.inr (by omega)), hk 116 j (by decide) (Or.inr (by omega)), hk 118 j (by decide) (Or.inr (by omega))⟩)]
  exact h0
theorem rD3_118_ok (hD : zk_d2 D ua) : zr_okS D rD3_118 := by
  refine zs_A_ok hD rfl (by decide) (by decide) ⟨_, _, rfl, by decide⟩ ?_
  intro ty H H' w a i Ls hT hp hc hw hk
  obtain ⟨l0, Ls', rfl, p0, hp⟩ := zr_cons hp
  obtain ⟨l1, Ls', rfl, p1, hp⟩ := zr_cons hp
  cases zr_nil hp
  obtain ⟨rfl, a0⟩ := zd_op hD (by decide) p0
  obtain ⟨n_o, n, rfl, hn⟩ := zd_fm hD hT p1
  obtain ⟨qc0, hc⟩ := zc1 hc
  have qc0 : n ≤ (i : Int) + 0 := qc0
  have hz := zd_ty hD (by decide) p0
  have e43 : ∀ k, zi H' (ua 43) k = zi H (ua 43) k := fun k => hk 43 k (by decide) (Or.inl (by decide))
  refine ⟨rfl, ?_⟩
  rw [e43, e43]
  exact zf_ch_eq (fun s hs => hk 77 s (by decide) (Or.inl (by decide))) (fun s hs => (zd_many hD hT hz hs).2) (fun j hj => hk 79 j (by decide) (Or.inl (by decide))) (fun j hj => ⟨hk 114 j (by decide) (Or.inr (by omega)), hk 115 j (by decide) (Or.inr (by omega)), hk 116 j (by decide) (Or.inr (by omega)), hk 118 j (by decide) (Or.inr (by omega))⟩) a0
theorem rD4_118_ok (hD : zk_d2 D ua) : zr_okS D rD4_118 := by
  refine zs_A_ok hD rfl (by decide) (by decide) ⟨_, _, rfl, by decide⟩ ?_
  intro ty H H' w a i Ls hT hp hc hw hk
  obtain ⟨l0, Ls', rfl, p0, hp⟩ := zr_cons hp
  obtain ⟨l1, Ls', rfl, p1, hp⟩ := zr_cons hp
  cases zr_nil hp
  obtain ⟨s, d, k, rfl, s0, n0, h0⟩ := zd_op hD (by decide) p0
  obtain ⟨n_o, n, rfl, hn⟩ := zd_fm hD hT p1
  obtain ⟨qc0, hc⟩ := zc1 hc
  have qc0 : n ≤ (i : Int) + 0 := qc0
  have hz := zd_ty hD (by decide) p0
  have e43 : ∀ k, zi H' (ua 43) k = zi H (ua 43) k := fun k => hk 43 k (by decide) (Or.inl (by decide))
  have hs : s.toNat = 0 ∨ s.toNat = 1 := by omega
  refine ⟨s, d, k, by simp [rD4_118], s0, by rw [e43]; exact n0, ?_⟩
  rw [e43, zc_t_eq s0 (zd_many hD hT hz hs).2 (hk 77 _ (by decide) (Or.inl (by decide))) (fun j hj => hk 79 j (by decide) (Or.inl (by decide))) (fun j hj => ⟨hk 114 j (by decide) (Or.inr (by omega)), hk 115 j (by decide) (Or.inr (by omega)), hk 116 j (by decide) (Or.inr (by omega)), hk 118 j (by decide) (Or.inr (by omega))⟩)]
  exact h0
theorem rD5_ok (hD : zk_d2 D ua) : zr_okS D rD5 := by
  refine zs_F_ok hD rfl (by decide) (by decide) ⟨_, _, rfl, by decide⟩ ?_
  intro ty H H' w a Ls hT hp hc hw hk
  obtain ⟨l0, Ls', rfl, p0, hp⟩ := zr_cons hp
  cases zr_nil hp
  obtain ⟨rfl, -⟩ := zd_op hD (by decide) p0
  obtain ⟨qc0, hc⟩ := zc1 hc
  have qc0 : w ≤ (0 : Int) + 0 := qc0
  obtain ⟨qc1, hc⟩ := zc1 hc
  have qc1 : (0 : Int) ≤ w + 0 := qc1
  have hw : zi H' (ua 43) (D.dI 12 60) = w := hw
  exact ⟨rfl, by omega⟩
theorem rD6_ok (hD : zk_d2 D ua) : zr_okS D rD6 := by
  refine zs_F_ok hD rfl (by decide) (by decide) ⟨_, _, rfl, by decide⟩ ?_
  intro ty H H' w a Ls hT hp hc hw hk
  obtain ⟨l0, Ls', rfl, p0, hp⟩ := zr_cons hp
  obtain ⟨l1, Ls', rfl, p1, hp⟩ := zr_cons hp
  obtain ⟨l2, Ls', rfl, p2, hp⟩ := zr_cons hp
  obtain ⟨l3, Ls', rfl, p3, hp⟩ := zr_cons hp
  obtain ⟨l4, Ls', rfl, p4, hp⟩ := zr_cons hp
  obtain ⟨l5, Ls', rfl, p5, hp⟩ := zr_cons hp
  obtain ⟨l6, Ls', rfl, p6, hp⟩ := zr_cons hp
  cases zr_nil hp
  obtain ⟨rfl, a0⟩ := zd_op hD (by decide) p0
  obtain ⟨n_o, n, rfl, hn⟩ := zd_fm hD hT p1
  obtain ⟨ld_o, ld, rfl, hld⟩ := zd_fm hD hT p2
  obtain ⟨s_o, i1, s, rfl, hi1, hs⟩ := zd_em hD hT (by decide) p3
  obtain ⟨d_o, i2, d, rfl, hi2, hd⟩ := zd_em hD hT (by decide) p4
  obtain ⟨k_o, i3, k, rfl, hi3, hk'⟩ := zd_em hD hT (by decide) p5
  obtain ⟨m_o, i4, m, rfl, hi4, hm⟩ := zd_em hD hT (by decide) p6
  obtain ⟨qc0, hc⟩ := zc1 hc
  have qc0 : i1 ≤ n + 0 := qc0
  obtain ⟨qc1, hc⟩ := zc1 hc
  have qc1 : n ≤ i1 + 0 := qc1
  obtain ⟨qc2, hc⟩ := zc1 hc
  have qc2 : i2 ≤ n + 0 := qc2
  obtain ⟨qc3, hc⟩ := zc1 hc
  have qc3 : n ≤ i2 + 0 := qc3
  obtain ⟨qc4, hc⟩ := zc1 hc
  have qc4 : i3 ≤ n + 0 := qc4
  obtain ⟨qc5, hc⟩ := zc1 hc
  have qc5 : n ≤ i3 + 0 := qc5
  obtain ⟨qc6, hc⟩ := zc1 hc
  have qc6 : i4 ≤ n + 0 := qc6
  obtain ⟨qc7, hc⟩ := zc1 hc
  have qc7 : n ≤ i4 + 0 := qc7
  obtain ⟨qc8, hc⟩ := zc1 hc
  have qc8 : w ≤ n + 1 := qc8
  obtain ⟨qc9, hc⟩ := zc1 hc
  have qc9 : n ≤ w + -1 := qc9
  obtain ⟨qc10, hc⟩ := zc1 hc
  have qc10 : ld ≤ d + 0 := qc10
  obtain ⟨qc11, hc⟩ := zc1 hc
  have qc11 : (0 : Int) ≤ m + -1 := qc11
  obtain ⟨qc12, hc⟩ := zc1 hc
  have qc12 : (0 : Int) ≤ s + 0 := qc12
  obtain ⟨qc13, hc⟩ := zc1 hc
  have qc13 : s ≤ (0 : Int) + 1 := qc13
  have hw : zi H' (ua 43) (D.dI 12 60) = w := hw
  have hu : ∀ t ∈ [77, 79, 114, 115, 116, 118], zi H' (ua t) = zi H (ua t) := fun t ht => funext (fun k => hk t k (zUq6 t ht).1 (Or.inl (zUq6 t ht).2.1))
  refine ⟨d, by simp [rD6], ?_⟩
  rw [hw, zf_ch_fun hu]
  obtain ⟨n1, h1⟩ := a0
  rw [hn] at n1 h1
  rw [hld] at h1
  refine ⟨by omega, fun c hc => ?_⟩
  by_cases e : (c : Int) < n
  · obtain ⟨a1, a2, a3, a4⟩ := h1 c e
    exact ⟨by omega, a2, a3, a4⟩
  · rw [show i1.toNat = c by omega] at hs
    rw [show i2.toNat = c by omega] at hd
    rw [show i3.toNat = c by omega] at hk'
    rw [show i4.toNat = c by omega] at hm
    refine ⟨by omega, fun j hj => ?_, by omega, fun h => ?_⟩
    · have := (h1 j (by omega)).1
      omega
    · omega
theorem rD7_ok (hD : zk_d2 D ua) : zr_okS D rD7 := by
  refine zs_F_ok hD rfl (by decide) (by decide) ⟨_, _, rfl, by decide⟩ ?_
  intro ty H H' w a Ls hT hp hc hw hk
  obtain ⟨l0, Ls', rfl, p0, hp⟩ := zr_cons hp
  obtain ⟨l1, Ls', rfl, p1, hp⟩ := zr_cons hp
  obtain ⟨l2, Ls', rfl, p2, hp⟩ := zr_cons hp
  obtain ⟨l3, Ls', rfl, p3, hp⟩ := zr_cons hp
  obtain ⟨l4, Ls', rfl, p4, hp⟩ := zr_cons hp
  obtain ⟨l5, Ls', rfl, p5, hp⟩ := zr_cons hp
  obtain ⟨l6, Ls', rfl, p6, hp⟩ := zr_cons hp
  obtain ⟨l7, Ls', rfl, p7, hp⟩ := zr_cons hp
  cases zr_nil hp
  obtain ⟨rfl, a0⟩ := zd_op hD (by decide) p0
  obtain ⟨n_o, n, rfl, hn⟩ := zd_fm hD hT p1
  obtain ⟨ld_o, ld, rfl, hld⟩ := zd_fm hD hT p2
  obtain ⟨s_o, i1, s, rfl, hi1, hs⟩ := zd_em hD hT (by decide) p3
  obtain ⟨d_o, i2, d, rfl, hi2, hd⟩ := zd_em hD hT (by decide) p4
  obtain ⟨k_o, i3, k, rfl, hi3, hk'⟩ := zd_em hD hT (by decide) p5
  obtain ⟨m_o, i4, m, rfl, hi4, hm⟩ := zd_em hD hT (by decide) p6
  obtain ⟨s2, d2, k2, rfl, s0, n0, h0⟩ := zd_op hD (by decide) p7
  obtain ⟨qc0, hc⟩ := zc1 hc
  have qc0 : i1 ≤ n + 0 := qc0
  obtain ⟨qc1, hc⟩ := zc1 hc
  have qc1 : n ≤ i1 + 0 := qc1
  obtain ⟨qc2, hc⟩ := zc1 hc
  have qc2 : i2 ≤ n + 0 := qc2
  obtain ⟨qc3, hc⟩ := zc1 hc
  have qc3 : n ≤ i2 + 0 := qc3
  obtain ⟨qc4, hc⟩ := zc1 hc
  have qc4 : i3 ≤ n + 0 := qc4
  obtain ⟨qc5, hc⟩ := zc1 hc
  have qc5 : n ≤ i3 + 0 := qc5
  obtain ⟨qc6, hc⟩ := zc1 hc
  have qc6 : i4 ≤ n + 0 := qc6
  obtain ⟨qc7, hc⟩ := zc1 hc
  have qc7 : n ≤ i4 + 0 := qc7
  obtain ⟨qc8, hc⟩ := zc1 hc
  have qc8 : w ≤ n + 1 := qc8
  obtain ⟨qc9, hc⟩ := zc1 hc
  have qc9 : n ≤ w + -1 := qc9
  obtain ⟨qc10, hc⟩ := zc1 hc
  have qc10 : ld ≤ d + 0 := qc10
  obtain ⟨qc11, hc⟩ := zc1 hc
  have qc11 : s ≤ s2 + 0 := qc11
  obtain ⟨qc12, hc⟩ := zc1 hc
  have qc12 : s2 ≤ s + 0 := qc12
  obtain ⟨qc13, hc⟩ := zc1 hc
  have qc13 : d ≤ d2 + 0 := qc13
  obtain ⟨qc14, hc⟩ := zc1 hc
  have qc14 : d2 ≤ d + 0 := qc14
  obtain ⟨qc15, hc⟩ := zc1 hc
  have qc15 : k ≤ k2 + 0 := qc15
  obtain ⟨qc16, hc⟩ := zc1 hc
  have qc16 : k2 ≤ k + 0 := qc16
  have hw : zi H' (ua 43) (D.dI 12 60) = w := hw
  have hu : ∀ t ∈ [77, 79, 114, 115, 116, 118], zi H' (ua t) = zi H (ua t) := fun t ht => funext (fun k => hk t k (zUq6 t ht).1 (Or.inl (zUq6 t ht).2.1))
  refine ⟨d, by simp [rD7], ?_⟩
  rw [hw, zf_ch_fun hu]
  obtain ⟨n1, h1⟩ := a0
  rw [hn] at n1 h1
  rw [hld] at h1
  refine ⟨by omega, fun c hc => ?_⟩
  by_cases e : (c : Int) < n
  · obtain ⟨a1, a2, a3, a4⟩ := h1 c e
    exact ⟨by omega, a2, a3, a4⟩
  · rw [show i1.toNat = c by omega] at hs
    rw [show i2.toNat = c by omega] at hd
    rw [show i3.toNat = c by omega] at hk'
    rw [show i4.toNat = c by omega] at hm
    refine ⟨by omega, fun j hj => ?_, by omega, fun h => ?_⟩
    · have := (h1 j (by omega)).1
      omega
    · rw [hs, hd, hk', show s = s2 by omega, show d = d2 by omega, show k = k2 by omega]
      rw [hn, show n.toNat = c by omega] at h0
      exact h0
theorem rD8_ok (hD : zk_d2 D ua) : zr_okS D rD8 := by
  refine zs_F_ok hD rfl (by decide) (by decide) ⟨_, _, rfl, by decide⟩ ?_
  intro ty H H' w a Ls hT hp hc hw hk
  obtain ⟨l0, Ls', rfl, p0, hp⟩ := zr_cons hp
  cases zr_nil hp
  obtain ⟨d, rfl, h0⟩ := zd_op hD (by decide) p0
  obtain ⟨qc0, hc⟩ := zc1 hc
  have qc0 : w ≤ d + 0 := qc0
  obtain ⟨qc1, hc⟩ := zc1 hc
  have qc1 : d ≤ w + 0 := qc1
  have hw : zi H' (ua 43) (D.dI 12 61) = w := hw
  have hu : ∀ t ∈ [77, 79, 114, 115, 116, 118], zi H' (ua t) = zi H (ua t) := fun t ht => funext (fun k => hk t k (zUq6 t ht).1 (Or.inl (zUq6 t ht).2.1))
  have e60 : zi H' (ua 43) (D.dI 12 60) = zi H (ua 43) (D.dI 12 60) := hk 43 _ (by decide) (Or.inr (zd_dI hD).2.1)
  refine ⟨rfl, ?_⟩
  rw [hw, e60, zf_ch_fun hu, show w = d by omega]
  exact h0
theorem rD9_ok (hD : zk_d2 D ua) : zr_okS D rD9 := by
  refine zs_A_ok hD rfl (by decide) (by decide) ⟨_, _, rfl, by decide⟩ ?_
  intro ty H H' w a i Ls hT hp hc hw hk
  obtain ⟨l0, Ls', rfl, p0, hp⟩ := zr_cons hp
  obtain ⟨l1, Ls', rfl, p1, hp⟩ := zr_cons hp
  cases zr_nil hp
  obtain ⟨s, k, rfl, h0⟩ := zd_op hD (by decide) p0
  obtain ⟨v_o, j, v, rfl, hj, hv⟩ := zd_em hD hT (by decide) p1
  obtain ⟨qc0, hc⟩ := zc1 hc
  have qc0 : s ≤ (0 : Int) + 0 := qc0
  obtain ⟨qc1, hc⟩ := zc1 hc
  have qc1 : (0 : Int) ≤ s + 0 := qc1
  obtain ⟨qc2, hc⟩ := zc1 hc
  have qc2 : (i : Int) ≤ k + 0 := qc2
  obtain ⟨qc3, hc⟩ := zc1 hc
  have qc3 : k ≤ (i : Int) + 0 := qc3
  obtain ⟨qc4, hc⟩ := zc1 hc
  have qc4 : j ≤ k + 0 := qc4
  obtain ⟨qc5, hc⟩ := zc1 hc
  have qc5 : k ≤ j + 0 := qc5
  obtain ⟨qc6, hc⟩ := zc1 hc
  have qc6 : w ≤ v + 0 := qc6
  obtain ⟨qc7, hc⟩ := zc1 hc
  have qc7 : v ≤ w + 0 := qc7
  have hw : zi H' (ua 119) i = w := hw
  refine ⟨s, k + 1, by simp [rD9], fun jj hj => ?_⟩
  rw [hk 79 _ (by decide) (Or.inl (by decide))]
  by_cases e : (jj : Int) < k
  · rw [hk 119 jj (by decide) (Or.inr (by omega))]
    exact h0 jj e
  · rw [show jj = i by omega, hw, show 40 * s.toNat + i = j.toNat by omega, hv]
    omega
theorem rD10_ok (hD : zk_d2 D ua) : zr_okS D rD10 := by
  refine zs_A_ok hD rfl (by decide) (by decide) ⟨_, _, rfl, by decide⟩ ?_
  intro ty H H' w a i Ls hT hp hc hw hk
  obtain ⟨l0, Ls', rfl, p0, hp⟩ := zr_cons hp
  obtain ⟨l1, Ls', rfl, p1, hp⟩ := zr_cons hp
  cases zr_nil hp
  obtain ⟨s, k, rfl, h0⟩ := zd_op hD (by decide) p0
  obtain ⟨v_o, j, v, rfl, hj, hv⟩ := zd_em hD hT (by decide) p1
  obtain ⟨qc0, hc⟩ := zc1 hc
  have qc0 : s ≤ (0 : Int) + 1 := qc0
  obtain ⟨qc1, hc⟩ := zc1 hc
  have qc1 : (0 : Int) ≤ s + -1 := qc1
  obtain ⟨qc2, hc⟩ := zc1 hc
  have qc2 : (i : Int) ≤ k + 0 := qc2
  obtain ⟨qc3, hc⟩ := zc1 hc
  have qc3 : k ≤ (i : Int) + 0 := qc3
  obtain ⟨qc4, hc⟩ := zc1 hc
  have qc4 : j ≤ k + 40 := qc4
  obtain ⟨qc5, hc⟩ := zc1 hc
  have qc5 : k ≤ j + -40 := qc5
  obtain ⟨qc6, hc⟩ := zc1 hc
  have qc6 : w ≤ v + 0 := qc6
  obtain ⟨qc7, hc⟩ := zc1 hc
  have qc7 : v ≤ w + 0 := qc7
  have hw : zi H' (ua 119) i = w := hw
  refine ⟨s, k + 1, by simp [rD10], fun jj hj => ?_⟩
  rw [hk 79 _ (by decide) (Or.inl (by decide))]
  by_cases e : (jj : Int) < k
  · rw [hk 119 jj (by decide) (Or.inr (by omega))]
    exact h0 jj e
  · rw [show jj = i by omega, hw, show 40 * s.toNat + i = j.toNat by omega, hv]
    omega
theorem rD11_ok (hD : zk_d2 D ua) : zr_okS D rD11 := by
  refine zs_A_ok hD rfl (by decide) (by decide) ⟨_, _, rfl, by decide⟩ ?_
  intro ty H H' w a i Ls hT hp hc hw hk
  obtain ⟨l0, Ls', rfl, p0, hp⟩ := zr_cons hp
  obtain ⟨l1, Ls', rfl, p1, hp⟩ := zr_cons hp
  cases zr_nil hp
  obtain ⟨s, d, c, rfl, g0, s0, m0, h0⟩ := zd_op hD (by decide) p0
  obtain ⟨m_o, m, rfl, hm⟩ := zd_fm hD hT p1
  obtain ⟨qc0, hc⟩ := zc1 hc
  have qc0 : m ≤ (i : Int) + 0 := qc0
  have e43 : ∀ k, zi H' (ua 43) k = zi H (ua 43) k := fun k => hk 43 k (by decide) (Or.inl (by decide))
  have hu : ∀ t ∈ [77, 79, 114, 115, 116, 118], zi H' (ua t) = zi H (ua t) := fun t ht => funext (fun k => hk t k (zUq6 t ht).1 (Or.inl (zUq6 t ht).2.2))
  refine ⟨s, d, c, by simp [rD11], g0, s0, by rw [e43]; exact m0, fun x => ?_⟩
  rw [e43, zc_t_fun hu, zc_n_eq (fun j hj => hk 119 j (by decide) (Or.inr (by omega)))]
  exact h0 x
theorem rD12_ok (hD : zk_d2 D ua) : zr_okS D rD12 := by
  refine zs_F_ok hD rfl (by decide) (by decide) ⟨_, _, rfl, by decide⟩ ?_
  intro ty H H' w a Ls hT hp hc hw hk
  obtain ⟨l0, Ls', rfl, p0, hp⟩ := zr_cons hp
  obtain ⟨l1, Ls', rfl, p1, hp⟩ := zr_cons hp
  obtain ⟨l2, Ls', rfl, p2, hp⟩ := zr_cons hp
  obtain ⟨l3, Ls', rfl, p3, hp⟩ := zr_cons hp
  obtain ⟨l4, Ls', rfl, p4, hp⟩ := zr_cons hp
  obtain ⟨l5, Ls', rfl, p5, hp⟩ := zr_cons hp
  obtain ⟨l6, Ls', rfl, p6, hp⟩ := zr_cons hp
  cases zr_nil hp
  obtain ⟨s, d, c, rfl, g0, s0, m0, h0⟩ := zd_op hD (by decide) p0
  obtain ⟨m_o, m, rfl, hm⟩ := zd_fm hD hT p1
  obtain ⟨v_o, j, v, rfl, hj, hv⟩ := zd_em hD hT (by decide) p2
  obtain ⟨s2_o, i1, s2, rfl, hi1, hs2⟩ := zd_em hD hT (by decide) p3
  obtain ⟨d2_o, i2, d2, rfl, hi2, hd2⟩ := zd_em hD hT (by decide) p4
  obtain ⟨k2_o, i3, k2, rfl, hi3, hk2⟩ := zd_em hD hT (by decide) p5
  obtain ⟨m2_o, i4, m2, rfl, hi4, hm2⟩ := zd_em hD hT (by decide) p6
  obtain ⟨qc0, hc⟩ := zc1 hc
  have qc0 : j ≤ m + 0 := qc0
  obtain ⟨qc1, hc⟩ := zc1 hc
  have qc1 : m ≤ j + 0 := qc1
  obtain ⟨qc2, hc⟩ := zc1 hc
  have qc2 : v ≤ k2 + 0 := qc2
  obtain ⟨qc3, hc⟩ := zc1 hc
  have qc3 : k2 ≤ v + 0 := qc3
  obtain ⟨qc4, hc⟩ := zc1 hc
  have qc4 : i1 ≤ c + 0 := qc4
  obtain ⟨qc5, hc⟩ := zc1 hc
  have qc5 : c ≤ i1 + 0 := qc5
  obtain ⟨qc6, hc⟩ := zc1 hc
  have qc6 : i2 ≤ c + 0 := qc6
  obtain ⟨qc7, hc⟩ := zc1 hc
  have qc7 : c ≤ i2 + 0 := qc7
  obtain ⟨qc8, hc⟩ := zc1 hc
  have qc8 : i3 ≤ c + 0 := qc8
  obtain ⟨qc9, hc⟩ := zc1 hc
  have qc9 : c ≤ i3 + 0 := qc9
  obtain ⟨qc10, hc⟩ := zc1 hc
  have qc10 : i4 ≤ c + 0 := qc10
  obtain ⟨qc11, hc⟩ := zc1 hc
  have qc11 : c ≤ i4 + 0 := qc11
  obtain ⟨qc12, hc⟩ := zc1 hc
  have qc12 : s2 ≤ s + 0 := qc12
  obtain ⟨qc13, hc⟩ := zc1 hc
  have qc13 : s ≤ s2 + 0 := qc13
  obtain ⟨qc14, hc⟩ := zc1 hc
  have qc14 : d2 ≤ d + 0 := qc14
  obtain ⟨qc15, hc⟩ := zc1 hc
  have qc15 : (0 : Int) ≤ m2 + -1 := qc15
  obtain ⟨qc16, hc⟩ := zc1 hc
  have qc16 : w ≤ m + 1 := qc16
  obtain ⟨qc17, hc⟩ := zc1 hc
  have qc17 : m ≤ w + -1 := qc17
  have hw : zi H' (ua 43) (D.dI 12 67) = w := hw
  have hu : ∀ t ∈ [77, 79, 114, 115, 116, 118], zi H' (ua t) = zi H (ua t) := fun t ht => funext (fun k => hk t k (zUq6 t ht).1 (Or.inl (zUq6 t ht).2.1))
  have e119 : zi H' (ua 119) = zi H (ua 119) := funext (fun k => hk 119 k (by decide) (Or.inl (by decide)))
  rw [show i1.toNat = c.toNat by omega] at hs2
  rw [show i2.toNat = c.toNat by omega] at hd2
  rw [show i3.toNat = c.toNat by omega] at hk2
  rw [show i4.toNat = c.toNat by omega] at hm2
  rw [hm] at m0 h0
  refine ⟨s, d, c + 1, by simp [rD12], by omega, s0, by rw [hw]; omega, fun x => ?_⟩
  rw [hw, zc_t_fun hu, e119, show w.toNat = m.toNat + 1 by omega, show (c + 1).toNat = c.toNat + 1 by omega, zc_t_succ, ← h0 x]
  show zc_n _ x m.toNat + _ = _
  rw [show j.toNat = m.toNat by omega] at hv
  rw [hv, hs2, hk2, hm2, if_pos (show 1 ≤ m2 by omega)]
  by_cases e : v = x
  · rw [if_pos e, if_pos ⟨by omega, by omega, by omega⟩]
  · rw [if_neg e, if_neg (fun z => e (by omega))]
theorem rD13_ok (hD : zk_d2 D ua) : zr_okS D rD13 := by
  refine zs_F_ok hD rfl (by decide) (by decide) ⟨_, _, rfl, by decide⟩ ?_
  intro ty H H' w a Ls hT hp hc hw hk
  obtain ⟨l0, Ls', rfl, p0, hp⟩ := zr_cons hp
  obtain ⟨l1, Ls', rfl, p1, hp⟩ := zr_cons hp
  obtain ⟨l2, Ls', rfl, p2, hp⟩ := zr_cons hp
  obtain ⟨l3, Ls', rfl, p3, hp⟩ := zr_cons hp
  obtain ⟨l4, Ls', rfl, p4, hp⟩ := zr_cons hp
  obtain ⟨l5, Ls', rfl, p5, hp⟩ := zr_cons hp
  obtain ⟨l6, Ls', rfl, p6, hp⟩ := zr_cons hp
  cases zr_nil hp
  obtain ⟨s, d, c, rfl, g0, s0, m0, h0⟩ := zd_op hD (by decide) p0
  obtain ⟨k, p, rfl, b0, b1, b2⟩ := zd_op hD (by decide) p1
  obtain ⟨m_o, m, rfl, hm⟩ := zd_fm hD hT p2
  obtain ⟨s2_o, i1, s2, rfl, hi1, hs2⟩ := zd_em hD hT (by decide) p3
  obtain ⟨d2_o, i2, d2, rfl, hi2, hd2⟩ := zd_em hD hT (by decide) p4
  obtain ⟨k2_o, i3, k2, rfl, hi3, hk2⟩ := zd_em hD hT (by decide) p5
  obtain ⟨m2_o, i4, m2, rfl, hi4, hm2⟩ := zd_em hD hT (by decide) p6
  obtain ⟨qc0, hc⟩ := zc1 hc
  have qc0 : k ≤ k2 + 0 := qc0
  obtain ⟨qc1, hc⟩ := zc1 hc
  have qc1 : k2 ≤ k + 0 := qc1
  obtain ⟨qc2, hc⟩ := zc1 hc
  have qc2 : i1 ≤ c + 0 := qc2
  obtain ⟨qc3, hc⟩ := zc1 hc
  have qc3 : c ≤ i1 + 0 := qc3
  obtain ⟨qc4, hc⟩ := zc1 hc
  have qc4 : i2 ≤ c + 0 := qc4
  obtain ⟨qc5, hc⟩ := zc1 hc
  have qc5 : c ≤ i2 + 0 := qc5
  obtain ⟨qc6, hc⟩ := zc1 hc
  have qc6 : i3 ≤ c + 0 := qc6
  obtain ⟨qc7, hc⟩ := zc1 hc
  have qc7 : c ≤ i3 + 0 := qc7
  obtain ⟨qc8, hc⟩ := zc1 hc
  have qc8 : i4 ≤ c + 0 := qc8
  obtain ⟨qc9, hc⟩ := zc1 hc
  have qc9 : c ≤ i4 + 0 := qc9
  obtain ⟨qc10, hc⟩ := zc1 hc
  have qc10 : s2 ≤ s + 0 := qc10
  obtain ⟨qc11, hc⟩ := zc1 hc
  have qc11 : s ≤ s2 + 0 := qc11
  obtain ⟨qc12, hc⟩ := zc1 hc
  have qc12 : d2 ≤ d + 0 := qc12
  obtain ⟨qc13, hc⟩ := zc1 hc
  have qc13 : m2 ≤ (0 : Int) + 0 := qc13
  obtain ⟨qc14, hc⟩ := zc1 hc
  have qc14 : w ≤ m + -1 := qc14
  obtain ⟨qc15, hc⟩ := zc1 hc
  have qc15 : m ≤ w + 1 := qc15
  have hw : zi H' (ua 43) (D.dI 12 67) = w := hw
  have hu : ∀ t ∈ [77, 79, 114, 115, 116, 118], zi H' (ua t) = zi H (ua t) := fun t ht => funext (fun k => hk t k (zUq6 t ht).1 (Or.inl (zUq6 t ht).2.1))
  have e119 : zi H' (ua 119) = zi H (ua 119) := funext (fun k => hk 119 k (by decide) (Or.inl (by decide)))
  rw [show i1.toNat = c.toNat by omega] at hs2
  rw [show i2.toNat = c.toNat by omega] at hd2
  rw [show i3.toNat = c.toNat by omega] at hk2
  rw [show i4.toNat = c.toNat by omega] at hm2
  rw [hm] at m0 h0 b1
  refine ⟨s, d, c, p, by simp [rD13], g0, s0, b0, by rw [hw]; omega, fun x => ?_⟩
  rw [hw, zc_t_fun hu, e119, show w.toNat + 1 = m.toNat by omega, zc_t_succ, h0 x, b2, hs2, hk2, hm2, if_neg (show ¬ 1 ≤ m2 by omega)]
  by_cases e : k = x
  · rw [if_pos e, if_pos ⟨by omega, by omega, by omega⟩]
    omega
  · rw [if_neg e, if_neg (fun z => e (by omega))]
    omega
theorem rD14_ok (hD : zk_d2 D ua) : zr_okS D rD14 := by
  refine zs_A_ok hD rfl (by decide) (by decide) ⟨_, _, rfl, by decide⟩ ?_
  intro ty H H' w a i Ls hT hp hc hw hk
  obtain ⟨l0, Ls', rfl, p0, hp⟩ := zr_cons hp
  obtain ⟨l1, Ls', rfl, p1, hp⟩ := zr_cons hp
  obtain ⟨l2, Ls', rfl, p2, hp⟩ := zr_cons hp
  cases zr_nil hp
  obtain ⟨s, d, c, p, rfl, g0, s0, b0, b1, h0⟩ := zd_op hD (by decide) p0
  obtain ⟨m_o, m, rfl, hm⟩ := zd_fm hD hT p1
  obtain ⟨v_o, j, v, rfl, hj, hv⟩ := zd_em hD hT (by decide) p2
  obtain ⟨qc0, hc⟩ := zc1 hc
  have qc0 : j ≤ m + 0 := qc0
  obtain ⟨qc1, hc⟩ := zc1 hc
  have qc1 : m ≤ j + 0 := qc1
  obtain ⟨qc2, hc⟩ := zc1 hc
  have qc2 : (i : Int) ≤ p + 0 := qc2
  obtain ⟨qc3, hc⟩ := zc1 hc
  have qc3 : p ≤ (i : Int) + 0 := qc3
  obtain ⟨qc4, hc⟩ := zc1 hc
  have qc4 : w ≤ v + 0 := qc4
  obtain ⟨qc5, hc⟩ := zc1 hc
  have qc5 : v ≤ w + 0 := qc5
  have e43 : ∀ k, zi H' (ua 43) k = zi H (ua 43) k := fun k => hk 43 k (by decide) (Or.inl (by decide))
  have hu : ∀ t ∈ [77, 79, 114, 115, 116, 118], zi H' (ua t) = zi H (ua t) := fun t ht => funext (fun k => hk t k (zUq6 t ht).1 (Or.inl (zUq6 t ht).2.2))
  have hw : zi H' (ua 119) i = w := hw
  rw [hm] at b1 h0
  refine ⟨s, d, c + 1, by simp [rD14], by omega, s0, by rw [e43, hm]; omega, fun x => ?_⟩
  rw [show j.toNat = m.toNat by omega] at hv
  have sw := zc_n_swap (f := zi H (ua 119)) (g := zi H' (ua 119)) (x := x) (p := p.toNat) (m := m.toNat) (by rw [show p.toNat = i by omega, hw, hv]; omega) (fun j' hj' => hk 119 j' (by decide) (Or.inr (by omega))) (by omega)
  rw [h0 x] at sw
  rw [e43, hm, zc_t_fun hu, show (c + 1).toNat = c.toNat + 1 by omega]
  omega
theorem rU10_ok (hD : zk_d2 D ua) : zr_okU D rU10 := by
  intro ty H Ls hT hp hc
  obtain ⟨l0, Ls', rfl, p0, hp⟩ := zr_cons hp
  cases zr_nil hp
  obtain ⟨rfl, h0_1, h0_2⟩ := zd_op hD (by decide) p0
  refine ⟨_, List.mem_singleton.mpr rfl, fun c hc => (by cases hc), fun f hf => ?_⟩
  rw [List.mem_singleton.mp hf]
  exact (hD.1 104 (by decide) _ _ _).mpr ⟨zd_ty hD (by decide) p0, 0, by simp, fun j hj => by omega⟩
theorem rU11_ok (hD : zk_d2 D ua) : zr_okU D rU11 := by
  intro ty H Ls hT hp hc
  obtain ⟨l0, Ls', rfl, p0, hp⟩ := zr_cons hp
  obtain ⟨l1, Ls', rfl, p1, hp⟩ := zr_cons hp
  obtain ⟨l2, Ls', rfl, p2, hp⟩ := zr_cons hp
  obtain ⟨l3, Ls', rfl, p3, hp⟩ := zr_cons hp
  obtain ⟨l4, Ls', rfl, p4, hp⟩ := zr_cons hp
  obtain ⟨l5, Ls', rfl, p5, hp⟩ := zr_cons hp
  obtain ⟨l6, Ls', rfl, p6, hp⟩ := zr_cons hp
  cases zr_nil hp
  obtain ⟨rfl, h0_1, h0_2⟩ := zd_op hD (by decide) p0
  obtain ⟨k, rfl, h1_1⟩ := zd_op hD (by decide) p1
  obtain ⟨x, i1, v, rfl, hi1, hv⟩ := zd_em hD hT (by decide) p2
  obtain ⟨x3, i3, v3, rfl, hi3, hv3⟩ := zd_em hD hT (by decide) p3
  obtain ⟨x4, i4, v4, rfl, hi4, hv4⟩ := zd_em hD hT (by decide) p4
  obtain ⟨x5, i5, v5, rfl, hi5, hv5⟩ := zd_em hD hT (by decide) p5
  obtain ⟨x6, i6, v6, rfl, hi6, hv6⟩ := zd_em hD hT (by decide) p6
  obtain ⟨qc0, hc⟩ := zc1 hc
  have qc0 : i1 ≤ (0 : Int) + 1 := qc0
  obtain ⟨qc1, hc⟩ := zc1 hc
  have qc1 : (0 : Int) ≤ i1 + -1 := qc1
  obtain ⟨qc2, hc⟩ := zc1 hc
  have qc2 : i3 ≤ k + 0 := qc2
  obtain ⟨qc3, hc⟩ := zc1 hc
  have qc3 : k ≤ i3 + 0 := qc3
  obtain ⟨qc4, hc⟩ := zc1 hc
  have qc4 : i4 ≤ k + 30 := qc4
  obtain ⟨qc5, hc⟩ := zc1 hc
  have qc5 : k ≤ i4 + -30 := qc5
  obtain ⟨qc6, hc⟩ := zc1 hc
  have qc6 : i5 ≤ k + 0 := qc6
  obtain ⟨qc7, hc⟩ := zc1 hc
  have qc7 : k ≤ i5 + 0 := qc7
  obtain ⟨qc8, hc⟩ := zc1 hc
  have qc8 : i6 ≤ k + 30 := qc8
  obtain ⟨qc9, hc⟩ := zc1 hc
  have qc9 : k ≤ i6 + -30 := qc9
  obtain ⟨qc10, hc⟩ := zc1 hc
  have qc10 : k ≤ v + -1 := qc10
  obtain ⟨qc11, hc⟩ := zc1 hc
  have qc11 : v3 ≤ v4 + 0 := qc11
  obtain ⟨qc12, hc⟩ := zc1 hc
  have qc12 : v4 ≤ v3 + 0 := qc12
  obtain ⟨qc13, hc⟩ := zc1 hc
  have qc13 : v6 ≤ v5 + 0 := qc13
  rw [show i1.toNat = 1 by omega] at hv
  refine ⟨_, List.mem_singleton.mpr rfl, fun c hc => (by cases hc), fun f hf => ?_⟩
  rw [List.mem_singleton.mp hf]
  refine (hD.1 104 (by decide) _ _ _).mpr ⟨zd_ty hD (by decide) p0, k + 1, by simp, fun j hj h => ?_⟩
  by_cases e : (j : Int) < k
  · exact h1_1 j e h
  · rw [show i3.toNat = 0 + j by omega] at hv3
    rw [show i4.toNat = 30 + j by omega] at hv4
    rw [show i5.toNat = 0 + j by omega] at hv5
    rw [show i6.toNat = 30 + j by omega] at hv6
    have := h0_2 j (by omega) (by omega)
    omega
theorem rU12_ok (hD : zk_d2 D ua) : zr_okU D rU12 := by
  intro ty H Ls hT hp hc
  obtain ⟨l0, Ls', rfl, p0, hp⟩ := zr_cons hp
  obtain ⟨l1, Ls', rfl, p1, hp⟩ := zr_cons hp
  cases zr_nil hp
  obtain ⟨k, rfl, h0_1⟩ := zd_op hD (by decide) p0
  obtain ⟨x, i1, v, rfl, hi1, hv⟩ := zd_em hD hT (by decide) p1
  obtain ⟨qc0, hc⟩ := zc1 hc
  have qc0 : i1 ≤ (0 : Int) + 0 := qc0
  obtain ⟨qc1, hc⟩ := zc1 hc
  have qc1 : v ≤ k + 0 := qc1
  obtain ⟨qc2, hc⟩ := zc1 hc
  have qc2 : v ≤ (0 : Int) + 30 := qc2
  rw [show i1.toNat = 0 by omega] at hv
  refine ⟨_, List.mem_singleton.mpr rfl, fun c hc => (by cases hc), fun f hf => ?_⟩
  rw [List.mem_singleton.mp hf]
  exact (hD.1 102 (by decide) _ _ _).mpr ⟨zd_ty hD (by decide) p0, by simp, by omega, fun j hj h => h0_1 j (by omega) h⟩
theorem rU13_ok (hD : zk_d2 D ua) : zr_okU D rU13 := by
  intro ty H Ls hT hp hc
  obtain ⟨l0, Ls', rfl, p0, hp⟩ := zr_cons hp
  obtain ⟨l1, Ls', rfl, p1, hp⟩ := zr_cons hp
  obtain ⟨l2, Ls', rfl, p2, hp⟩ := zr_cons hp
  obtain ⟨l3, Ls', rfl, p3, hp⟩ := zr_cons hp
  cases zr_nil hp
  obtain ⟨rfl, h0_1, h0_2⟩ := zd_op hD (by decide) p0
  obtain ⟨x, i1, v, rfl, hi1, hv⟩ := zd_em hD hT (by decide) p1
  obtain ⟨x2, i2, v2, rfl, hi2, hv2⟩ := zd_em hD hT (by decide) p2
  obtain ⟨x3, i3, v3, rfl, hi3, hv3⟩ := zd_em hD hT (by decide) p3
  obtain ⟨qc0, hc⟩ := zc1 hc
  have qc0 : i1 ≤ (0 : Int) + 0 := qc0
  obtain ⟨qc1, hc⟩ := zc1 hc
  have qc1 : i2 ≤ v + -1 := qc1
  obtain ⟨qc2, hc⟩ := zc1 hc
  have qc2 : i3 ≤ i2 + 0 := qc2
  obtain ⟨qc3, hc⟩ := zc1 hc
  have qc3 : i2 ≤ i3 + 0 := qc3
  obtain ⟨qc4, hc⟩ := zc1 hc
  have qc4 : (0 : Int) ≤ v2 + -12 := qc4
  rw [show i1.toNat = 0 by omega] at hv
  refine ⟨_, List.mem_singleton.mpr rfl, fun c hc => ?_, fun f hf => (by cases hf)⟩
  rw [List.mem_singleton.mp hc]
  show 0 ≤ v3 + 0
  rw [show i2.toNat = 0 + i3.toNat by omega] at hv2
  have := h0_2 i3.toNat (by omega) (by omega)
  rw [Nat.zero_add] at this
  omega
theorem rU14_ok (hD : zk_d2 D ua) : zr_okU D rU14 := by
  intro ty H Ls hT hp hc
  obtain ⟨l0, Ls', rfl, p0, hp⟩ := zr_cons hp
  obtain ⟨l1, Ls', rfl, p1, hp⟩ := zr_cons hp
  obtain ⟨l2, Ls', rfl, p2, hp⟩ := zr_cons hp
  obtain ⟨l3, Ls', rfl, p3, hp⟩ := zr_cons hp
  cases zr_nil hp
  obtain ⟨rfl, h0_1, h0_2⟩ := zd_op hD (by decide) p0
  obtain ⟨x, i1, v, rfl, hi1, hv⟩ := zd_em hD hT (by decide) p1
  obtain ⟨x2, i2, v2, rfl, hi2, hv2⟩ := zd_em hD hT (by decide) p2
  obtain ⟨x3, i3, v3, rfl, hi3, hv3⟩ := zd_em hD hT (by decide) p3
  obtain ⟨qc0, hc⟩ := zc1 hc
  have qc0 : i1 ≤ (0 : Int) + 0 := qc0
  obtain ⟨qc1, hc⟩ := zc1 hc
  have qc1 : i2 ≤ v + -1 := qc1
  obtain ⟨qc2, hc⟩ := zc1 hc
  have qc2 : i3 ≤ i2 + 0 := qc2
  obtain ⟨qc3, hc⟩ := zc1 hc
  have qc3 : i2 ≤ i3 + 0 := qc3
  obtain ⟨qc4, hc⟩ := zc1 hc
  have qc4 : v2 ≤ (0 : Int) + 5 := qc4
  rw [show i1.toNat = 0 by omega] at hv
  refine ⟨_, List.mem_singleton.mpr rfl, fun c hc => ?_, fun f hf => (by cases hf)⟩
  rw [List.mem_singleton.mp hc]
  show 0 ≤ v3 + 0
  rw [show i2.toNat = 0 + i3.toNat by omega] at hv2
  have := h0_2 i3.toNat (by omega) (by omega)
  rw [Nat.zero_add] at this
  omega
theorem rU20_ok (hD : zk_d2 D ua) : zr_okU D rU20 := by
  intro ty H Ls hT hp hc
  obtain ⟨l0, Ls', rfl, p0, hp⟩ := zr_cons hp
  obtain ⟨l1, Ls', rfl, p1, hp⟩ := zr_cons hp
  obtain ⟨l2, Ls', rfl, p2, hp⟩ := zr_cons hp
  obtain ⟨l3, Ls', rfl, p3, hp⟩ := zr_cons hp
  obtain ⟨l4, Ls', rfl, p4, hp⟩ := zr_cons hp
  cases zr_nil hp
  obtain ⟨rfl, h0⟩ := zd_op hD (by decide) p0
  obtain ⟨x, y, rfl, hx, ⟨q, hq, ex⟩, hy⟩ := zd_wy hD hT p1
  obtain ⟨y2, i1, v1, rfl, hy2, hi1, hv1⟩ := zd_pl p2
  obtain ⟨x3, z, rfl, hx3, -, hz⟩ := zd_wy hD hT p3
  obtain ⟨z2, i2, v2, rfl, hz2, hi2, hv2⟩ := zd_pl p4
  obtain ⟨c0, hc⟩ := zc1 hc
  obtain ⟨c1, hc⟩ := zc1 hc
  obtain ⟨c2, hc⟩ := zc1 hc
  obtain ⟨c3, hc⟩ := zc1 hc
  obtain ⟨c4, hc⟩ := zc1 hc
  obtain ⟨c5, hc⟩ := zc1 hc
  obtain ⟨c6, hc⟩ := zc1 hc
  obtain ⟨c7, hc⟩ := zc1 hc
  obtain ⟨c8, -⟩ := zc1 hc
  have c0 : x3 ≤ x + 0 := c0
  have c1 : x ≤ x3 + 0 := c1
  have c2 : y2 ≤ y + 0 := c2
  have c3 : y ≤ y2 + 0 := c3
  have c4 : z2 ≤ z + 0 := c4
  have c5 : z ≤ z2 + 0 := c5
  have c6 : i2 ≤ i1 + 0 := c6
  have c7 : i1 ≤ i2 + 0 := c7
  have c8 : (0 : Int) ≤ v1 + -6 := c8
  refine ⟨_, List.mem_singleton.mpr rfl, fun c hc => ?_, fun f hf => (by cases hf)⟩
  rw [List.mem_singleton.mp hc]
  show v2 ≤ 0 + 7
  obtain ⟨g1, g2, g3⟩ := h0 q hq
  rw [ex] at hy
  rw [show x3.toNat = ua (1000 + q) by rw [← ex]; congr 1; omega] at hz
  have e1 : y2.toNat = ua (1010 + q) := by omega
  have e2 : z2.toNat = ua (1020 + q) := by omega
  rw [e1] at hv1
  rw [e2, show i2.toNat = i1.toNat by omega] at hv2
  have := g3 i1.toNat (fun z => z) (by omega)
  omega
theorem rU30_ok (hD : zk_d2 D ua) : zr_okU D rU30 := by
  intro ty H Ls hT hp hc
  obtain ⟨l0, Ls', rfl, p0, hp⟩ := zr_cons hp
  cases zr_nil hp
  obtain ⟨k, rfl, h0_1⟩ := zd_op hD (by decide) p0
  obtain ⟨qc0, hc⟩ := zc1 hc
  have qc0 : k ≤ (0 : Int) + 29 := qc0
  obtain ⟨qc1, hc⟩ := zc1 hc
  have qc1 : (0 : Int) ≤ k + 0 := qc1
  refine ⟨_, List.mem_singleton.mpr rfl, fun c hc => (by cases hc), fun f hf => ?_⟩
  rw [List.mem_singleton.mp hf]
  obtain ⟨g1, g2⟩ := h0_1 0 (by decide)
  obtain ⟨g3, g4⟩ := h0_1 1 (by decide)
  exact (hD.1 121 (by decide) _ _ _).mpr ⟨zd_ty hD (by decide) p0, 0, 0, k, by simp, by omega, by omega, by omega, by omega, g3, (show zi H (ua 106) 1 ≤ 61 * (k + 1) by omega), _, g1, g2, by omega, fun h => by omega⟩
theorem rU32_ok (hD : zk_d2 D ua) : zr_okU D rU32 := by
  intro ty H Ls hT hp hc
  obtain ⟨l0, Ls', rfl, p0, hp⟩ := zr_cons hp
  obtain ⟨l1, Ls', rfl, p1, hp⟩ := zr_cons hp
  cases zr_nil hp
  obtain ⟨c, v, k, rfl, k0, k1, b0, b1, o1, o2, a, a1, a2, a3, a4⟩ := zd_op hD (by decide) p0
  obtain ⟨x, j1, m, rfl, hj1, hm⟩ := zd_em hD hT (by decide) p1
  obtain ⟨qc0, hc⟩ := zc1 hc
  have qc0 : j1 ≤ (0 : Int) + 0 := qc0
  obtain ⟨qc1, hc⟩ := zc1 hc
  have qc1 : (0 : Int) ≤ j1 + 0 := qc1
  obtain ⟨qc2, hc⟩ := zc1 hc
  have qc2 : c ≤ (0 : Int) + 60 := qc2
  rw [show j1.toNat = 0 by omega] at hm
  have a5 := a1.1
  refine ⟨_, List.mem_singleton.mpr rfl, fun c hc => ?_, fun f hf => (by cases hf)⟩
  simp only [List.mem_cons, List.not_mem_nil, or_false] at hc
  rcases hc with rfl | rfl
  · show m ≤ 0 + 1829
    omega
  · show 0 ≤ m + 0
    omega
theorem rU34_ok (hD : zk_d2 D ua) : zr_okU D rU34 := by
  intro ty H Ls hT hp hc
  obtain ⟨l0, Ls', rfl, p0, hp⟩ := zr_cons hp
  cases zr_nil hp
  obtain ⟨c, v, k, rfl, k0, k1, b0, b1, o1, o2, a, a1, a2, a3, a4⟩ := zd_op hD (by decide) p0
  obtain ⟨qc0, hc⟩ := zc1 hc
  have qc0 : v ≤ (0 : Int) + -1 := qc0
  obtain ⟨qc1, hc⟩ := zc1 hc
  have qc1 : (0 : Int) ≤ v + 1 := qc1
  obtain ⟨qc2, hc⟩ := zc1 hc
  have qc2 : c ≤ (0 : Int) + 2 := qc2
  obtain ⟨qc3, hc⟩ := zc1 hc
  have qc3 : (0 : Int) ≤ c + -2 := qc3
  refine ⟨_, List.mem_singleton.mpr rfl, fun c hc => (by cases hc), fun f hf => ?_⟩
  rw [List.mem_singleton.mp hf]
  have a5 := a1.1
  have hn : zf_sw ua (zi H) 0 (zi H (ua 106) 0) := by
    have h1 := a4 (by omega)
    have := zb_k_snoc a1.2 (by rw [h1]; omega) (by rw [h1]; omega)
    rw [h1] at this
    refine ⟨by omega, ?_⟩
    have e : 2000 * 0 + a.toNat + zb_l v = 2000 * 0 + (zi H (ua 106) 0).toNat := by
      unfold zb_l
      split <;> omega
    rw [e] at this
    exact this
  refine (hD.1 120 (by decide) _ _ _).mpr ⟨zd_ty hD (by decide) p0, k + 1, by simp, fun s hs => ?_⟩
  rcases hs with rfl | rfl
  · exact ⟨hn, by omega⟩
  · exact ⟨o1, o2⟩
theorem rU36_ok (hD : zk_d2 D ua) : zr_okU D rU36 := by
  intro ty H Ls hT hp hc
  obtain ⟨l0, Ls', rfl, p0, hp⟩ := zr_cons hp
  cases zr_nil hp
  obtain ⟨c, v, k, rfl, k0, k1, b0, b1, o1, o2, a, a1, a2, a3, a4⟩ := zd_op hD (by decide) p0
  obtain ⟨qc0, hc⟩ := zc1 hc
  have qc0 : (0 : Int) ≤ v + 0 := qc0
  obtain ⟨qc1, hc⟩ := zc1 hc
  have qc1 : v ≤ (0 : Int) + 60 := qc1
  obtain ⟨qc2, hc⟩ := zc1 hc
  have qc2 : c ≤ v + 1 := qc2
  obtain ⟨qc3, hc⟩ := zc1 hc
  have qc3 : v ≤ c + -1 := qc3
  refine ⟨_, List.mem_singleton.mpr rfl, fun c hc => (by cases hc), fun f hf => ?_⟩
  rw [List.mem_singleton.mp hf]
  have a5 := a1.1
  have hn : zf_sw ua (zi H) 0 (zi H (ua 106) 0) := by
    have h1 := a4 (by omega)
    have := zb_k_snoc a1.2 (by rw [h1]; omega) (by rw [h1]; omega)
    rw [h1] at this
    refine ⟨by omega, ?_⟩
    have e : 2000 * 0 + a.toNat + zb_l v = 2000 * 0 + (zi H (ua 106) 0).toNat := by
      unfold zb_l
      split <;> omega
    rw [e] at this
    exact this
  refine (hD.1 120 (by decide) _ _ _).mpr ⟨zd_ty hD (by decide) p0, k + 1, by simp, fun s hs => ?_⟩
  rcases hs with rfl | rfl
  · exact ⟨hn, by omega⟩
  · exact ⟨o1, o2⟩
theorem rU31_ok (hD : zk_d2 D ua) : zr_okU D rU31 := by
  intro ty H Ls hT hp hc
  obtain ⟨l0, Ls', rfl, p0, hp⟩ := zr_cons hp
  cases zr_nil hp
  obtain ⟨k, rfl, h0_1⟩ := zd_op hD (by decide) p0
  obtain ⟨qc0, hc⟩ := zc1 hc
  have qc0 : k ≤ (0 : Int) + 29 := qc0
  obtain ⟨qc1, hc⟩ := zc1 hc
  have qc1 : (0 : Int) ≤ k + 0 := qc1
  refine ⟨_, List.mem_singleton.mpr rfl, fun c hc => (by cases hc), fun f hf => ?_⟩
  rw [List.mem_singleton.mp hf]
  obtain ⟨g1, g2⟩ := h0_1 1 (by decide)
  obtain ⟨g3, g4⟩ := h0_1 0 (by decide)
  exact (hD.1 122 (by decide) _ _ _).mpr ⟨zd_ty hD (by decide) p0, 0, 0, k, by simp, by omega, by omega, by omega, by omega, g3, (show zi H (ua 106) 0 ≤ 61 * (k + 1) by omega), _, g1, g2, by omega, fun h => by omega⟩
theorem rU33_ok (hD : zk_d2 D ua) : zr_okU D rU33 := by
  intro ty H Ls hT hp hc
  obtain ⟨l0, Ls', rfl, p0, hp⟩ := zr_cons hp
  obtain ⟨l1, Ls', rfl, p1, hp⟩ := zr_cons hp
  cases zr_nil hp
  obtain ⟨c, v, k, rfl, k0, k1, b0, b1, o1, o2, a, a1, a2, a3, a4⟩ := zd_op hD (by decide) p0
  obtain ⟨x, j1, m, rfl, hj1, hm⟩ := zd_em hD hT (by decide) p1
  obtain ⟨qc0, hc⟩ := zc1 hc
  have qc0 : j1 ≤ (0 : Int) + 1 := qc0
  obtain ⟨qc1, hc⟩ := zc1 hc
  have qc1 : (0 : Int) ≤ j1 + -1 := qc1
  obtain ⟨qc2, hc⟩ := zc1 hc
  have qc2 : c ≤ (0 : Int) + 60 := qc2
  rw [show j1.toNat = 1 by omega] at hm
  have a5 := a1.1
  refine ⟨_, List.mem_singleton.mpr rfl, fun c hc => ?_, fun f hf => (by cases hf)⟩
  simp only [List.mem_cons, List.not_mem_nil, or_false] at hc
  rcases hc with rfl | rfl
  · show m ≤ 0 + 1829
    omega
  · show 0 ≤ m + 0
    omega
theorem rU35_ok (hD : zk_d2 D ua) : zr_okU D rU35 := by
  intro ty H Ls hT hp hc
  obtain ⟨l0, Ls', rfl, p0, hp⟩ := zr_cons hp
  cases zr_nil hp
  obtain ⟨c, v, k, rfl, k0, k1, b0, b1, o1, o2, a, a1, a2, a3, a4⟩ := zd_op hD (by decide) p0
  obtain ⟨qc0, hc⟩ := zc1 hc
  have qc0 : v ≤ (0 : Int) + -1 := qc0
  obtain ⟨qc1, hc⟩ := zc1 hc
  have qc1 : (0 : Int) ≤ v + 1 := qc1
  obtain ⟨qc2, hc⟩ := zc1 hc
  have qc2 : c ≤ (0 : Int) + 2 := qc2
  obtain ⟨qc3, hc⟩ := zc1 hc
  have qc3 : (0 : Int) ≤ c + -2 := qc3
  refine ⟨_, List.mem_singleton.mpr rfl, fun c hc => (by cases hc), fun f hf => ?_⟩
  rw [List.mem_singleton.mp hf]
  have a5 := a1.1
  have hn : zf_sw ua (zi H) 1 (zi H (ua 106) 1) := by
    have h1 := a4 (by omega)
    have := zb_k_snoc a1.2 (by rw [h1]; omega) (by rw [h1]; omega)
    rw [h1] at this
    refine ⟨by omega, ?_⟩
    have e : 2000 * 1 + a.toNat + zb_l v = 2000 * 1 + (zi H (ua 106) 1).toNat := by
      unfold zb_l
      split <;> omega
    rw [e] at this
    exact this
  refine (hD.1 120 (by decide) _ _ _).mpr ⟨zd_ty hD (by decide) p0, k + 1, by simp, fun s hs => ?_⟩
  rcases hs with rfl | rfl
  · exact ⟨o1, o2⟩
  · exact ⟨hn, by omega⟩
theorem rU37_ok (hD : zk_d2 D ua) : zr_okU D rU37 := by
  intro ty H Ls hT hp hc
  obtain ⟨l0, Ls', rfl, p0, hp⟩ := zr_cons hp
  cases zr_nil hp
  obtain ⟨c, v, k, rfl, k0, k1, b0, b1, o1, o2, a, a1, a2, a3, a4⟩ := zd_op hD (by decide) p0
  obtain ⟨qc0, hc⟩ := zc1 hc
  have qc0 : (0 : Int) ≤ v + 0 := qc0
  obtain ⟨qc1, hc⟩ := zc1 hc
  have qc1 : v ≤ (0 : Int) + 60 := qc1
  obtain ⟨qc2, hc⟩ := zc1 hc
  have qc2 : c ≤ v + 1 := qc2
  obtain ⟨qc3, hc⟩ := zc1 hc
  have qc3 : v ≤ c + -1 := qc3
  refine ⟨_, List.mem_singleton.mpr rfl, fun c hc => (by cases hc), fun f hf => ?_⟩
  rw [List.mem_singleton.mp hf]
  have a5 := a1.1
  have hn : zf_sw ua (zi H) 1 (zi H (ua 106) 1) := by
    have h1 := a4 (by omega)
    have := zb_k_snoc a1.2 (by rw [h1]; omega) (by rw [h1]; omega)
    rw [h1] at this
    refine ⟨by omega, ?_⟩
    have e : 2000 * 1 + a.toNat + zb_l v = 2000 * 1 + (zi H (ua 106) 1).toNat := by
      unfold zb_l
      split <;> omega
    rw [e] at this
    exact this
  refine (hD.1 120 (by decide) _ _ _).mpr ⟨zd_ty hD (by decide) p0, k + 1, by simp, fun s hs => ?_⟩
  rcases hs with rfl | rfl
  · exact ⟨o1, o2⟩
  · exact ⟨hn, by omega⟩
theorem rU38_ok (hD : zk_d2 D ua) : zr_okU D rU38 := by
  intro ty H Ls hT hp hc
  obtain ⟨l0, Ls', rfl, p0, hp⟩ := zr_cons hp
  obtain ⟨l1, Ls', rfl, p1, hp⟩ := zr_cons hp
  cases zr_nil hp
  obtain ⟨k, rfl, h0_1⟩ := zd_op hD (by decide) p0
  obtain ⟨x, j1, v, rfl, hj1, hv⟩ := zd_em hD hT (by decide) p1
  obtain ⟨qc0, hc⟩ := zc1 hc
  have qc0 : j1 ≤ k + 0 := qc0
  obtain ⟨qc1, hc⟩ := zc1 hc
  have qc1 : k ≤ j1 + 0 := qc1
  refine ⟨_, List.mem_singleton.mpr rfl, fun c hc => (by cases hc), fun f hf => ?_⟩
  rw [List.mem_singleton.mp hf]
  refine (hD.1 120 (by decide) _ _ _).mpr ⟨zd_ty hD (by decide) p0, k + 1, by simp, fun s hs => ?_⟩
  obtain ⟨g1, g2⟩ := h0_1 s hs
  exact ⟨g1, by omega⟩
theorem rU29_ok (hD : zk_d2 D ua) : zr_okU D rU29 := by
  intro ty H Ls hT hp hc
  obtain ⟨l0, Ls', rfl, p0, hp⟩ := zr_cons hp
  cases zr_nil hp
  obtain ⟨k, rfl, h0_1⟩ := zd_op hD (by decide) p0
  obtain ⟨qc0, hc⟩ := zc1 hc
  have qc0 : k ≤ (0 : Int) + 30 := qc0
  refine ⟨_, List.mem_singleton.mpr rfl, fun c hc => (by cases hc), fun f hf => ?_⟩
  rw [List.mem_singleton.mp hf]
  refine (hD.1 120 (by decide) _ _ _).mpr ⟨zd_ty hD (by decide) p0, 30, by simp, fun s hs => ?_⟩
  obtain ⟨g1, g2⟩ := h0_1 s hs
  exact ⟨g1, by omega⟩
theorem rU39_ok (hD : zk_d2 D ua) : zr_okU D rU39 := by
  intro ty H Ls hT hp hc
  obtain ⟨l0, Ls', rfl, p0, hp⟩ := zr_cons hp
  obtain ⟨l1, Ls', rfl, p1, hp⟩ := zr_cons hp
  obtain ⟨l2, Ls', rfl, p2, hp⟩ := zr_cons hp
  cases zr_nil hp
  obtain ⟨rfl, h0_1, h0_2⟩ := zd_op hD (by decide) p0
  obtain ⟨x, j1, m, rfl, hj1, hm⟩ := zd_em hD hT (by decide) p1
  obtain ⟨x2, j2, m2, rfl, hj2, hm2⟩ := zd_em hD hT (by decide) p2
  obtain ⟨qc0, hc⟩ := zc1 hc
  have qc0 : j1 ≤ (0 : Int) + 0 := qc0
  obtain ⟨qc1, hc⟩ := zc1 hc
  have qc1 : j2 ≤ (0 : Int) + 1 := qc1
  obtain ⟨qc2, hc⟩ := zc1 hc
  have qc2 : (0 : Int) ≤ j2 + -1 := qc2
  obtain ⟨qc3, hc⟩ := zc1 hc
  have qc3 : m ≤ (0 : Int) + 0 := qc3
  obtain ⟨qc4, hc⟩ := zc1 hc
  have qc4 : (0 : Int) ≤ m + 0 := qc4
  obtain ⟨qc5, hc⟩ := zc1 hc
  have qc5 : m2 ≤ (0 : Int) + 0 := qc5
  obtain ⟨qc6, hc⟩ := zc1 hc
  have qc6 : (0 : Int) ≤ m2 + 0 := qc6
  refine ⟨_, List.mem_singleton.mpr rfl, fun c hc => (by cases hc), fun f hf => ?_⟩
  rw [List.mem_singleton.mp hf]
  rw [show j1.toNat = 0 by omega] at hm
  rw [show j2.toNat = 1 by omega] at hm2
  refine (hD.1 120 (by decide) _ _ _).mpr ⟨zd_ty hD (by decide) p0, 0, by simp, fun s hs => ?_⟩
  have e : zi H (ua 106) s = 0 := by rcases hs with rfl | rfl <;> omega
  rw [e]
  exact ⟨⟨by omega, zb_k_nil _ _⟩, by omega⟩
theorem rU40_ok (hD : zk_d2 D ua) : zr_okU D rU40 := by
  intro ty H Ls hT hp hc
  obtain ⟨l0, Ls', rfl, p0, hp⟩ := zr_cons hp
  cases zr_nil hp
  obtain ⟨rfl, h0_1, h0_2⟩ := zd_op hD (by decide) p0
  refine ⟨_, List.mem_singleton.mpr rfl, fun c hc => (by cases hc), fun f hf => ?_⟩
  rw [List.mem_singleton.mp hf]
  exact (hD.1 134 (by decide) _ _ _).mpr ⟨zd_ty hD (by decide) p0, 0, by simp, fun j hj => by omega⟩
theorem rU42_ok (hD : zk_d2 D ua) : zr_okU D rU42 := by
  intro ty H Ls hT hp hc
  obtain ⟨l0, Ls', rfl, p0, hp⟩ := zr_cons hp
  obtain ⟨l1, Ls', rfl, p1, hp⟩ := zr_cons hp
  obtain ⟨l2, Ls', rfl, p2, hp⟩ := zr_cons hp
  obtain ⟨l3, Ls', rfl, p3, hp⟩ := zr_cons hp
  cases zr_nil hp
  obtain ⟨k, rfl, h0_1⟩ := zd_op hD (by decide) p0
  obtain ⟨q, rfl, h1_1⟩ := zd_op hD (by decide) p1
  obtain ⟨x, j1, m, rfl, hj1, hm⟩ := zd_em hD hT (by decide) p2
  obtain ⟨x2, j2, m2, rfl, hj2, hm2⟩ := zd_em hD hT (by decide) p3
  obtain ⟨qc0, hc⟩ := zc1 hc
  have qc0 : j1 ≤ (0 : Int) + 0 := qc0
  obtain ⟨qc1, hc⟩ := zc1 hc
  have qc1 : (0 : Int) ≤ j1 + 0 := qc1
  obtain ⟨qc2, hc⟩ := zc1 hc
  have qc2 : j2 ≤ (0 : Int) + 0 := qc2
  obtain ⟨qc3, hc⟩ := zc1 hc
  have qc3 : (0 : Int) ≤ j2 + 0 := qc3
  obtain ⟨qc4, hc⟩ := zc1 hc
  have qc4 : m ≤ k + 0 := qc4
  obtain ⟨qc5, hc⟩ := zc1 hc
  have qc5 : q ≤ (0 : Int) + 30 := qc5
  obtain ⟨qc6, hc⟩ := zc1 hc
  have qc6 : m2 ≤ m + 0 := qc6
  obtain ⟨qc7, hc⟩ := zc1 hc
  have qc7 : m ≤ m2 + 0 := qc7
  refine ⟨_, List.mem_singleton.mpr rfl, fun c hc => (by cases hc), fun f hf => ?_⟩
  rw [List.mem_singleton.mp hf]
  rw [show j1.toNat = 0 by omega] at hm
  rw [show j2.toNat = 0 by omega] at hm2
  obtain ⟨g1, g2⟩ := h1_1 0 (by decide)
  have g0 := g1.1
  have e : zi H (ua 112) 0 = zi H (ua 106) 0 := by omega
  refine (hD.1 132 (by decide) _ _ _).mpr ⟨zd_ty hD (by decide) p0, by simp, by rw [e]; exact g0, by omega, ?_⟩
  rw [e]
  refine zb_k_keep g1.2 (fun j h1 h2 => ?_)
  have := h0_1 (j - 0) (by omega)
  exact this
theorem rU44_ok (hD : zk_d2 D ua) : zr_okU D rU44 := by
  intro ty H Ls hT hp hc
  obtain ⟨l0, Ls', rfl, p0, hp⟩ := zr_cons hp
  cases zr_nil hp
  obtain ⟨rfl, d0, d1, d2⟩ := zd_op hD (by decide) p0
  refine ⟨_, List.mem_singleton.mpr rfl, fun c hc => (by cases hc), fun f hf => ?_⟩
  rw [List.mem_singleton.mp hf]
  exact (hD.1 136 (by decide) _ _ _).mpr ⟨zd_ty hD (by decide) p0, 0, by simp, by omega, d0, d1, zb_w_start d2⟩
theorem rU46_ok (hD : zk_d2 D ua) : zr_okU D rU46 := by
  intro ty H Ls hT hp hc
  obtain ⟨l0, Ls', rfl, p0, hp⟩ := zr_cons hp
  obtain ⟨l1, Ls', rfl, p1, hp⟩ := zr_cons hp
  obtain ⟨l2, Ls', rfl, p2, hp⟩ := zr_cons hp
  cases zr_nil hp
  obtain ⟨k, rfl, q0, q1, q2, q3⟩ := zd_op hD (by decide) p0
  obtain ⟨x, j1, m, rfl, hj1, hm⟩ := zd_em hD hT (by decide) p1
  obtain ⟨x2, j2, n, rfl, hj2, hn⟩ := zd_em hD hT (by decide) p2
  obtain ⟨qc0, hc⟩ := zc1 hc
  have qc0 : j1 ≤ (0 : Int) + 0 := qc0
  obtain ⟨qc1, hc⟩ := zc1 hc
  have qc1 : (0 : Int) ≤ j1 + 0 := qc1
  obtain ⟨qc2, hc⟩ := zc1 hc
  have qc2 : j2 ≤ k + 0 := qc2
  obtain ⟨qc3, hc⟩ := zc1 hc
  have qc3 : k ≤ j2 + 0 := qc3
  obtain ⟨qc4, hc⟩ := zc1 hc
  have qc4 : k ≤ m + -1 := qc4
  rw [show j1.toNat = 0 by omega] at hm
  rw [show j2.toNat = k.toNat by omega] at hn
  obtain ⟨s1, s2, s3⟩ := zb_w_step q3 (by omega)
  have le := zb_w_le q3
  rw [hn] at s1 s2 s3
  by_cases e : n = -1
  · refine ⟨_, List.mem_cons_self, fun c hc => ?_, fun f hf => ?_⟩
    · simp only [List.mem_cons, List.not_mem_nil, or_false] at hc
      rcases hc with rfl | rfl | rfl | rfl | rfl
      · show n ≤ 0 + -1
        omega
      · show 0 ≤ n + 1
        omega
      · show m ≤ 0 + 1830
        omega
      · show k ≤ m + -1
        omega
      · show 0 ≤ k + 0
        omega
    · rw [List.mem_singleton.mp hf]
      refine (hD.1 136 (by decide) _ _ _).mpr ⟨zd_ty hD (by decide) p0, k + 2, by simp, by omega, q1, q2, ?_⟩
      rw [show (k + 2).toNat = k.toNat + zb_l n by unfold zb_l; rw [if_pos e]; omega]
      exact s3
  · refine ⟨_, List.mem_cons_of_mem _ List.mem_cons_self, fun c hc => ?_, fun f hf => ?_⟩
    · simp only [List.mem_cons, List.not_mem_nil, or_false] at hc
      rcases hc with rfl | rfl | rfl | rfl | rfl
      · show 0 ≤ n + 0
        omega
      · show n ≤ 0 + 60
        omega
      · show m ≤ 0 + 1830
        omega
      · show k ≤ m + -1
        omega
      · show 0 ≤ k + 0
        omega
    · rw [List.mem_singleton.mp hf]
      refine (hD.1 138 (by decide) _ _ _).mpr ⟨zd_ty hD (by decide) p0, k, n, by simp, by omega, by omega, by omega, q1, q2, ?_⟩
      rw [show (k + 1 + n).toNat = k.toNat + zb_l n by unfold zb_l; rw [if_neg e]; omega]
      exact s3
theorem rU41_ok (hD : zk_d2 D ua) : zr_okU D rU41 := by
  intro ty H Ls hT hp hc
  obtain ⟨l0, Ls', rfl, p0, hp⟩ := zr_cons hp
  cases zr_nil hp
  obtain ⟨rfl, h0_1, h0_2⟩ := zd_op hD (by decide) p0
  refine ⟨_, List.mem_singleton.mpr rfl, fun c hc => (by cases hc), fun f hf => ?_⟩
  rw [List.mem_singleton.mp hf]
  exact (hD.1 135 (by decide) _ _ _).mpr ⟨zd_ty hD (by decide) p0, 0, by simp, fun j hj => by omega⟩
theorem rU43_ok (hD : zk_d2 D ua) : zr_okU D rU43 := by
  intro ty H Ls hT hp hc
  obtain ⟨l0, Ls', rfl, p0, hp⟩ := zr_cons hp
  obtain ⟨l1, Ls', rfl, p1, hp⟩ := zr_cons hp
  obtain ⟨l2, Ls', rfl, p2, hp⟩ := zr_cons hp
  obtain ⟨l3, Ls', rfl, p3, hp⟩ := zr_cons hp
  cases zr_nil hp
  obtain ⟨k, rfl, h0_1⟩ := zd_op hD (by decide) p0
  obtain ⟨q, rfl, h1_1⟩ := zd_op hD (by decide) p1
  obtain ⟨x, j1, m, rfl, hj1, hm⟩ := zd_em hD hT (by decide) p2
  obtain ⟨x2, j2, m2, rfl, hj2, hm2⟩ := zd_em hD hT (by decide) p3
  obtain ⟨qc0, hc⟩ := zc1 hc
  have qc0 : j1 ≤ (0 : Int) + 1 := qc0
  obtain ⟨qc1, hc⟩ := zc1 hc
  have qc1 : (0 : Int) ≤ j1 + -1 := qc1
  obtain ⟨qc2, hc⟩ := zc1 hc
  have qc2 : j2 ≤ (0 : Int) + 1 := qc2
  obtain ⟨qc3, hc⟩ := zc1 hc
  have qc3 : (0 : Int) ≤ j2 + -1 := qc3
  obtain ⟨qc4, hc⟩ := zc1 hc
  have qc4 : m ≤ k + 0 := qc4
  obtain ⟨qc5, hc⟩ := zc1 hc
  have qc5 : q ≤ (0 : Int) + 30 := qc5
  obtain ⟨qc6, hc⟩ := zc1 hc
  have qc6 : m2 ≤ m + 0 := qc6
  obtain ⟨qc7, hc⟩ := zc1 hc
  have qc7 : m ≤ m2 + 0 := qc7
  refine ⟨_, List.mem_singleton.mpr rfl, fun c hc => (by cases hc), fun f hf => ?_⟩
  rw [List.mem_singleton.mp hf]
  rw [show j1.toNat = 1 by omega] at hm
  rw [show j2.toNat = 1 by omega] at hm2
  obtain ⟨g1, g2⟩ := h1_1 1 (by decide)
  have g0 := g1.1
  have e : zi H (ua 112) 1 = zi H (ua 106) 1 := by omega
  refine (hD.1 133 (by decide) _ _ _).mpr ⟨zd_ty hD (by decide) p0, by simp, by rw [e]; exact g0, by omega, ?_⟩
  rw [e]
  refine zb_k_keep g1.2 (fun j h1 h2 => ?_)
  have := h0_1 (j - 2000) (by omega)
  rw [show 2000 + (j - 2000) = j by omega] at this
  exact this
theorem rU45_ok (hD : zk_d2 D ua) : zr_okU D rU45 := by
  intro ty H Ls hT hp hc
  obtain ⟨l0, Ls', rfl, p0, hp⟩ := zr_cons hp
  cases zr_nil hp
  obtain ⟨rfl, d0, d1, d2⟩ := zd_op hD (by decide) p0
  refine ⟨_, List.mem_singleton.mpr rfl, fun c hc => (by cases hc), fun f hf => ?_⟩
  rw [List.mem_singleton.mp hf]
  exact (hD.1 137 (by decide) _ _ _).mpr ⟨zd_ty hD (by decide) p0, 2000, by simp, by omega, d0, d1, zb_w_start d2⟩
theorem rU47_ok (hD : zk_d2 D ua) : zr_okU D rU47 := by
  intro ty H Ls hT hp hc
  obtain ⟨l0, Ls', rfl, p0, hp⟩ := zr_cons hp
  obtain ⟨l1, Ls', rfl, p1, hp⟩ := zr_cons hp
  obtain ⟨l2, Ls', rfl, p2, hp⟩ := zr_cons hp
  cases zr_nil hp
  obtain ⟨k, rfl, q0, q1, q2, q3⟩ := zd_op hD (by decide) p0
  obtain ⟨x, j1, m, rfl, hj1, hm⟩ := zd_em hD hT (by decide) p1
  obtain ⟨x2, j2, n, rfl, hj2, hn⟩ := zd_em hD hT (by decide) p2
  obtain ⟨qc0, hc⟩ := zc1 hc
  have qc0 : j1 ≤ (0 : Int) + 1 := qc0
  obtain ⟨qc1, hc⟩ := zc1 hc
  have qc1 : (0 : Int) ≤ j1 + -1 := qc1
  obtain ⟨qc2, hc⟩ := zc1 hc
  have qc2 : j2 ≤ k + 0 := qc2
  obtain ⟨qc3, hc⟩ := zc1 hc
  have qc3 : k ≤ j2 + 0 := qc3
  obtain ⟨qc4, hc⟩ := zc1 hc
  have qc4 : k ≤ m + 1999 := qc4
  rw [show j1.toNat = 1 by omega] at hm
  rw [show j2.toNat = k.toNat by omega] at hn
  obtain ⟨s1, s2, s3⟩ := zb_w_step q3 (by omega)
  have le := zb_w_le q3
  rw [hn] at s1 s2 s3
  by_cases e : n = -1
  · refine ⟨_, List.mem_cons_self, fun c hc => ?_, fun f hf => ?_⟩
    · simp only [List.mem_cons, List.not_mem_nil, or_false] at hc
      rcases hc with rfl | rfl | rfl | rfl | rfl
      · show n ≤ 0 + -1
        omega
      · show 0 ≤ n + 1
        omega
      · show m ≤ 0 + 1830
        omega
      · show k ≤ m + 1999
        omega
      · show 0 ≤ k + -2000
        omega
    · rw [List.mem_singleton.mp hf]
      refine (hD.1 137 (by decide) _ _ _).mpr ⟨zd_ty hD (by decide) p0, k + 2, by simp, by omega, q1, q2, ?_⟩
      rw [show (k + 2).toNat = k.toNat + zb_l n by unfold zb_l; rw [if_pos e]; omega]
      exact s3
  · refine ⟨_, List.mem_cons_of_mem _ List.mem_cons_self, fun c hc => ?_, fun f hf => ?_⟩
    · simp only [List.mem_cons, List.not_mem_nil, or_false] at hc
      rcases hc with rfl | rfl | rfl | rfl | rfl
      · show 0 ≤ n + 0
        omega
      · show n ≤ 0 + 60
        omega
      · show m ≤ 0 + 1830
        omega
      · show k ≤ m + 1999
        omega
      · show 0 ≤ k + -2000
        omega
    · rw [List.mem_singleton.mp hf]
      refine (hD.1 139 (by decide) _ _ _).mpr ⟨zd_ty hD (by decide) p0, k, n, by simp, by omega, by omega, by omega, q1, q2, ?_⟩
      rw [show (k + 1 + n).toNat = k.toNat + zb_l n by unfold zb_l; rw [if_neg e]; omega]
      exact s3
theorem rU48_ok (hD : zk_d2 D ua) : zr_okU D rU48 := by
  intro ty H Ls hT hp hc
  obtain ⟨l0, Ls', rfl, p0, hp⟩ := zr_cons hp
  obtain ⟨l1, Ls', rfl, p1, hp⟩ := zr_cons hp
  cases zr_nil hp
  obtain ⟨k, n, rfl, n0, n1, q0, q1, q2, q3⟩ := zd_op hD (by decide) p0
  obtain ⟨p, q, z, rfl, h26⟩ := zd_26 hD p1
  obtain ⟨qc0, hc⟩ := zc1 hc
  have qc0 : p ≤ k + 0 := qc0
  obtain ⟨qc1, hc⟩ := zc1 hc
  have qc1 : k ≤ p + 0 := qc1
  obtain ⟨qc2, hc⟩ := zc1 hc
  have qc2 : q ≤ n + 1 := qc2
  obtain ⟨qc3, hc⟩ := zc1 hc
  have qc3 : n ≤ q + -1 := qc3
  obtain ⟨qc4, hc⟩ := zc1 hc
  have qc4 : p ≤ (0 : Int) + 100000 := qc4
  obtain ⟨qc5, hc⟩ := zc1 hc
  have qc5 : z ≤ (0 : Int) + 2147483647 := qc5
  obtain ⟨qc6, hc⟩ := zc1 hc
  have qc6 : (0 : Int) ≤ z + 2147483648 := qc6
  refine ⟨_, List.mem_singleton.mpr rfl, fun c hc => (by cases hc), fun f hf => ?_⟩
  rw [List.mem_singleton.mp hf]
  have e := zd_sum h26 (by omega) (by omega) (by omega) (by omega)
  have e : z = k + 1 + n := by omega
  subst e
  exact (hD.1 136 (by decide) _ _ _).mpr ⟨zd_ty hD (by decide) p0, _, by simp, q0, q1, q2, q3⟩
theorem rU49_ok (hD : zk_d2 D ua) : zr_okU D rU49 := by
  intro ty H Ls hT hp hc
  obtain ⟨l0, Ls', rfl, p0, hp⟩ := zr_cons hp
  obtain ⟨l1, Ls', rfl, p1, hp⟩ := zr_cons hp
  cases zr_nil hp
  obtain ⟨k, n, rfl, n0, n1, q0, q1, q2, q3⟩ := zd_op hD (by decide) p0
  obtain ⟨p, q, z, rfl, h26⟩ := zd_26 hD p1
  obtain ⟨qc0, hc⟩ := zc1 hc
  have qc0 : p ≤ k + 0 := qc0
  obtain ⟨qc1, hc⟩ := zc1 hc
  have qc1 : k ≤ p + 0 := qc1
  obtain ⟨qc2, hc⟩ := zc1 hc
  have qc2 : q ≤ n + 1 := qc2
  obtain ⟨qc3, hc⟩ := zc1 hc
  have qc3 : n ≤ q + -1 := qc3
  obtain ⟨qc4, hc⟩ := zc1 hc
  have qc4 : p ≤ (0 : Int) + 100000 := qc4
  obtain ⟨qc5, hc⟩ := zc1 hc
  have qc5 : z ≤ (0 : Int) + 2147483647 := qc5
  obtain ⟨qc6, hc⟩ := zc1 hc
  have qc6 : (0 : Int) ≤ z + 2147483648 := qc6
  refine ⟨_, List.mem_singleton.mpr rfl, fun c hc => (by cases hc), fun f hf => ?_⟩
  rw [List.mem_singleton.mp hf]
  have e := zd_sum h26 (by omega) (by omega) (by omega) (by omega)
  have e : z = k + 1 + n := by omega
  subst e
  exact (hD.1 137 (by decide) _ _ _).mpr ⟨zd_ty hD (by decide) p0, _, by simp, q0, q1, q2, q3⟩
theorem rU50_ok (hD : zk_d2 D ua) : zr_okU D rU50 := by
  intro ty H Ls hT hp hc
  obtain ⟨l0, Ls', rfl, p0, hp⟩ := zr_cons hp
  obtain ⟨l1, Ls', rfl, p1, hp⟩ := zr_cons hp
  cases zr_nil hp
  obtain ⟨rfl, h0⟩ := zd_op hD (by decide) p0
  obtain ⟨x, rfl⟩ := zd_loc p1
  refine ⟨_, List.mem_singleton.mpr rfl, fun c hc => (by cases hc), fun f hf => ?_⟩
  rw [List.mem_singleton.mp hf]
  refine (hD.1 151 (by decide) _ _ _).mpr ⟨zd_ty hD (by decide) p0, x, 0, 0, by simp, fun p hp => ⟨(h0 p hp).1, ?_⟩⟩
  have h := (h0 p hp).2
  by_cases e : ua (1030 + p) = x.toNat
  · obtain ⟨k, g1, g2⟩ := h
    exact (zp_bi_eq e).mpr ⟨by omega, k, g1, by omega, fun _ h => by omega⟩
  · exact (zp_bi_ne e).mpr h
theorem rU51_ok (hD : zk_d2 D ua) : zr_okU D rU51 := by
  intro ty H Ls hT hp hc
  obtain ⟨l0, Ls', rfl, p0, hp⟩ := zr_cons hp
  obtain ⟨l1, Ls', rfl, p1, hp⟩ := zr_cons hp
  cases zr_nil hp
  obtain ⟨x, c, v, rfl, h0⟩ := zd_op hD (by decide) p0
  obtain ⟨x2, n, rfl, h0x2, ⟨q2, hq2, ex2⟩, hn⟩ := zd_hd hD hT p1
  obtain ⟨qc0, hc⟩ := zc1 hc
  have qc0 : x2 ≤ x + 0 := qc0
  obtain ⟨qc1, hc⟩ := zc1 hc
  have qc1 : x ≤ x2 + 0 := qc1
  obtain ⟨qc2, hc⟩ := zc1 hc
  have qc2 : (0 : Int) ≤ n + -1830 := qc2
  obtain ⟨qc3, hc⟩ := zc1 hc
  have qc3 : (0 : Int) ≤ c + -1 := qc3
  refine ⟨_, List.mem_singleton.mpr rfl, fun c hc => (by cases hc), fun f hf => ?_⟩
  rw [List.mem_singleton.mp hf]
  refine (hD.1 151 (by decide) _ _ _).mpr ⟨zd_ty hD (by decide) p0, x, c + 1, v, by simp, fun p hp => ⟨(h0 p hp).1, ?_⟩⟩
  have h := (h0 p hp).2
  by_cases e : ua (1030 + p) = x.toNat
  · refine (zp_bi_eq e).mpr ?_
    obtain ⟨g0, s, g1, g2, g3⟩ := (zp_bi_eq e).mp h
    have e2 : zi H (ua (1030 + p)) (D.dI 3 10) = n := by rw [← hn, show x2.toNat = ua (1030 + p) by rw [e]; congr 1; omega]
    exact ⟨by omega, s, g1, by omega, fun h1 h2 => g3 h1 (by omega)⟩
  · exact (zp_bi_ne e).mpr ((zp_bi_ne e).mp h)
theorem rU52_ok (hD : zk_d2 D ua) : zr_okU D rU52 := by
  intro ty H Ls hT hp hc
  obtain ⟨l0, Ls', rfl, p0, hp⟩ := zr_cons hp
  obtain ⟨l1, Ls', rfl, p1, hp⟩ := zr_cons hp
  obtain ⟨l2, Ls', rfl, p2, hp⟩ := zr_cons hp
  cases zr_nil hp
  obtain ⟨x, c, v, rfl, h0⟩ := zd_op hD (by decide) p0
  obtain ⟨x2, n, rfl, h0x2, ⟨q2, hq2, ex2⟩, hn⟩ := zd_hd hD hT p1
  obtain ⟨z, rfl⟩ := zd_loc p2
  obtain ⟨qc0, hc⟩ := zc1 hc
  have qc0 : x2 ≤ x + 0 := qc0
  obtain ⟨qc1, hc⟩ := zc1 hc
  have qc1 : x ≤ x2 + 0 := qc1
  obtain ⟨qc2, hc⟩ := zc1 hc
  have qc2 : (0 : Int) ≤ n + -1830 := qc2
  obtain ⟨qc3, hc⟩ := zc1 hc
  have qc3 : c ≤ (0 : Int) + 0 := qc3
  obtain ⟨qc4, hc⟩ := zc1 hc
  have qc4 : (0 : Int) ≤ c + 0 := qc4
  refine ⟨_, List.mem_singleton.mpr rfl, fun c hc => (by cases hc), fun f hf => ?_⟩
  rw [List.mem_singleton.mp hf]
  refine (hD.1 151 (by decide) _ _ _).mpr ⟨zd_ty hD (by decide) p0, x, 1, z, by simp, fun p hp => ⟨(h0 p hp).1, ?_⟩⟩
  have h := (h0 p hp).2
  by_cases e : ua (1030 + p) = x.toNat
  · refine (zp_bi_eq e).mpr ?_
    obtain ⟨g0, s, g1, g2, g3⟩ := (zp_bi_eq e).mp h
    have e2 : zi H (ua (1030 + p)) (D.dI 3 10) = n := by rw [← hn, show x2.toNat = ua (1030 + p) by rw [e]; congr 1; omega]
    exact ⟨by omega, s, g1, by omega, fun h1 h2 => by omega⟩
  · exact (zp_bi_ne e).mpr ((zp_bi_ne e).mp h)
theorem rU53_ok (hD : zk_d2 D ua) : zr_okU D rU53 := by
  intro ty H Ls hT hp hc
  obtain ⟨l0, Ls', rfl, p0, hp⟩ := zr_cons hp
  cases zr_nil hp
  obtain ⟨x, c, v, rfl, h0⟩ := zd_op hD (by decide) p0
  obtain ⟨qc0, hc⟩ := zc1 hc
  have qc0 : v ≤ (0 : Int) + -1 := qc0
  obtain ⟨qc1, hc⟩ := zc1 hc
  have qc1 : (0 : Int) ≤ v + 1 := qc1
  obtain ⟨qc2, hc⟩ := zc1 hc
  have qc2 : c ≤ (0 : Int) + 2 := qc2
  obtain ⟨qc3, hc⟩ := zc1 hc
  have qc3 : (0 : Int) ≤ c + -2 := qc3
  refine ⟨_, List.mem_singleton.mpr rfl, fun c hc => (by cases hc), fun f hf => ?_⟩
  rw [List.mem_singleton.mp hf]
  refine (hD.1 150 (by decide) _ _ _).mpr ⟨zd_ty hD (by decide) p0, by simp, fun p hp => ⟨(h0 p hp).1, ?_⟩⟩
  have h := (h0 p hp).2
  by_cases e : ua (1030 + p) = x.toNat
  · obtain ⟨g0, s, g1, g2, g3⟩ := (zp_bi_eq e).mp h
    by_cases h1 : s < 1830
    · have g4 := g3 h1 (by omega)
      have g5 := zb_k_snoc g1 (by rw [g4]; omega) (by rw [g4]; omega)
      rw [g4] at g5
      refine ⟨_, g5, ?_⟩
      unfold zb_l
      rw [if_pos (by omega)]
      omega
    · exact ⟨s, g1, by omega⟩
  · exact (zp_bi_ne e).mp h
theorem rU54_ok (hD : zk_d2 D ua) : zr_okU D rU54 := by
  intro ty H Ls hT hp hc
  obtain ⟨l0, Ls', rfl, p0, hp⟩ := zr_cons hp
  cases zr_nil hp
  obtain ⟨x, c, v, rfl, h0⟩ := zd_op hD (by decide) p0
  obtain ⟨qc0, hc⟩ := zc1 hc
  have qc0 : (0 : Int) ≤ v + 0 := qc0
  obtain ⟨qc1, hc⟩ := zc1 hc
  have qc1 : v ≤ (0 : Int) + 60 := qc1
  obtain ⟨qc2, hc⟩ := zc1 hc
  have qc2 : c ≤ v + 1 := qc2
  obtain ⟨qc3, hc⟩ := zc1 hc
  have qc3 : v ≤ c + -1 := qc3
  refine ⟨_, List.mem_singleton.mpr rfl, fun c hc => (by cases hc), fun f hf => ?_⟩
  rw [List.mem_singleton.mp hf]
  refine (hD.1 150 (by decide) _ _ _).mpr ⟨zd_ty hD (by decide) p0, by simp, fun p hp => ⟨(h0 p hp).1, ?_⟩⟩
  have h := (h0 p hp).2
  by_cases e : ua (1030 + p) = x.toNat
  · obtain ⟨g0, s, g1, g2, g3⟩ := (zp_bi_eq e).mp h
    by_cases h1 : s < 1830
    · have g4 := g3 h1 (by omega)
      have g5 := zb_k_snoc g1 (by rw [g4]; omega) (by rw [g4]; omega)
      rw [g4] at g5
      refine ⟨_, g5, ?_⟩
      unfold zb_l
      rw [if_neg (by omega)]
      omega
    · exact ⟨s, g1, by omega⟩
  · exact (zp_bi_ne e).mp h
theorem rU55_ok (hD : zk_d2 D ua) : zr_okU D rU55 := by
  intro ty H Ls hT hp hc
  obtain ⟨l0, Ls', rfl, p0, hp⟩ := zr_cons hp
  obtain ⟨l1, Ls', rfl, p1, hp⟩ := zr_cons hp
  cases zr_nil hp
  obtain ⟨rfl, h0⟩ := zd_op hD (by decide) p0
  obtain ⟨x, rfl⟩ := zd_loc p1
  refine ⟨_, List.mem_singleton.mpr rfl, fun c hc => (by cases hc), fun f hf => ?_⟩
  rw [List.mem_singleton.mp hf]
  refine (hD.1 153 (by decide) _ _ _).mpr ⟨zd_ty hD (by decide) p0, x, 0, by simp, by omega, fun p hp => ⟨(h0 p hp).1, fun _ => ?_⟩⟩
  obtain ⟨e, g1, g2⟩ := (h0 p hp).2
  exact ⟨e, zb_w_start g1, by omega⟩
theorem rU56_ok (hD : zk_d2 D ua) : zr_okU D rU56 := by
  intro ty H Ls hT hp hc
  obtain ⟨l0, Ls', rfl, p0, hp⟩ := zr_cons hp
  obtain ⟨l1, Ls', rfl, p1, hp⟩ := zr_cons hp
  obtain ⟨l2, Ls', rfl, p2, hp⟩ := zr_cons hp
  obtain ⟨l3, Ls', rfl, p3, hp⟩ := zr_cons hp
  cases zr_nil hp
  obtain ⟨x, i, rfl, i0, h0⟩ := zd_op hD (by decide) p0
  obtain ⟨x1, y, rfl, h0x1, ⟨q1, hq1, ex1⟩, hy⟩ := zd_hd hD hT p1
  obtain ⟨x2, n, rfl, h0x2, ⟨q2, hq2, ex2⟩, hn⟩ := zd_hd hD hT p2
  obtain ⟨y2, j, v, rfl, h0y2, hj, hv⟩ := zd_pl p3
  obtain ⟨qc0, hc⟩ := zc1 hc
  have qc0 : x1 ≤ x + 0 := qc0
  obtain ⟨qc1, hc⟩ := zc1 hc
  have qc1 : x ≤ x1 + 0 := qc1
  obtain ⟨qc2, hc⟩ := zc1 hc
  have qc2 : x2 ≤ x + 0 := qc2
  obtain ⟨qc3, hc⟩ := zc1 hc
  have qc3 : x ≤ x2 + 0 := qc3
  obtain ⟨qc4, hc⟩ := zc1 hc
  have qc4 : y2 ≤ y + 0 := qc4
  obtain ⟨qc5, hc⟩ := zc1 hc
  have qc5 : y ≤ y2 + 0 := qc5
  obtain ⟨qc6, hc⟩ := zc1 hc
  have qc6 : j ≤ (i : Int) + 0 := qc6
  obtain ⟨qc7, hc⟩ := zc1 hc
  have qc7 : (i : Int) ≤ j + 0 := qc7
  obtain ⟨qc8, hc⟩ := zc1 hc
  have qc8 : (i : Int) ≤ n + -1 := qc8
  have ex : ua (1030 + q1) = x.toNat := by rw [← ex1]; congr 1; omega
  have e1 : y2.toNat = ua (1040 + q1) := by
    have := (h0 q1 hq1).1
    rw [ex1] at hy
    omega
  have e2 : zi H (ua (1030 + q1)) (D.dI 3 10) = n := by rw [← hn, show x2.toNat = ua (1030 + q1) by rw [ex]; congr 1; omega]
  obtain ⟨e, g1, g2⟩ := (h0 q1 hq1).2 ex
  rw [e1, show j.toNat = i.toNat by omega] at hv
  obtain ⟨k1, k2, k3⟩ := zb_w_step g1 (by omega)
  rw [hv] at k1 k2 k3
  have hother : ∀ (m : Nat) (P : Prop), (zb_w (zi H (ua (1040 + q1))) 0 m e) → zf_hd ua D.dI (zi H) (zp_wk x m) := by
    intro m _ hm p hp
    refine ⟨(h0 p hp).1, fun z => ?_⟩
    have : p = q1 := by
      rcases hp with rfl | rfl <;> rcases hq1 with rfl | rfl
      · rfl
      · exact absurd (z.trans ex.symm) (zd_ww hD (by decide) (by decide) (by decide))
      · exact absurd (z.trans ex.symm) (zd_ww hD (by decide) (by decide) (by decide))
      · rfl
    subst this
    exact ⟨e, hm, g2⟩
  by_cases hv1 : v = -1
  · refine ⟨_, List.mem_cons_self, fun c hc => ?_, fun f hf => ?_⟩
    · simp only [List.mem_cons, List.not_mem_nil, or_false] at hc
      rcases hc with rfl | rfl
      · show v ≤ 0 + -1
        omega
      · show 0 ≤ v + 1
        omega
    · rw [List.mem_singleton.mp hf]
      refine (hD.1 153 (by decide) _ _ _).mpr ⟨zd_ty hD (by decide) p0, x, i + 2, by simp, by omega, hother _ True ?_⟩
      rw [show (i + 2).toNat = i.toNat + zb_l v by unfold zb_l; rw [if_pos hv1]; omega]
      exact k3
  · refine ⟨_, List.mem_cons_of_mem _ List.mem_cons_self, fun c hc => ?_, fun f hf => ?_⟩
    · simp only [List.mem_cons, List.not_mem_nil, or_false] at hc
      rcases hc with rfl | rfl
      · show 0 ≤ v + 0
        omega
      · show v ≤ 0 + 60
        omega
    · rw [List.mem_singleton.mp hf]
      refine (hD.1 154 (by decide) _ _ _).mpr ⟨zd_ty hD (by decide) p0, x, i, v, by simp, by omega, by omega, by omega, hother _ True ?_⟩
      rw [show (i + 1 + v).toNat = i.toNat + zb_l v by unfold zb_l; rw [if_neg hv1]; omega]
      exact k3
theorem rU57_ok (hD : zk_d2 D ua) : zr_okU D rU57 := by
  intro ty H Ls hT hp hc
  obtain ⟨l0, Ls', rfl, p0, hp⟩ := zr_cons hp
  obtain ⟨l1, Ls', rfl, p1, hp⟩ := zr_cons hp
  cases zr_nil hp
  obtain ⟨x, k, n, rfl, k0, n0, n1, h0⟩ := zd_op hD (by decide) p0
  obtain ⟨p, q, z, rfl, h26⟩ := zd_26 hD p1
  obtain ⟨qc0, hc⟩ := zc1 hc
  have qc0 : p ≤ k + 0 := qc0
  obtain ⟨qc1, hc⟩ := zc1 hc
  have qc1 : k ≤ p + 0 := qc1
  obtain ⟨qc2, hc⟩ := zc1 hc
  have qc2 : q ≤ n + 1 := qc2
  obtain ⟨qc3, hc⟩ := zc1 hc
  have qc3 : n ≤ q + -1 := qc3
  obtain ⟨qc4, hc⟩ := zc1 hc
  have qc4 : p ≤ (0 : Int) + 100000 := qc4
  obtain ⟨qc5, hc⟩ := zc1 hc
  have qc5 : (0 : Int) ≤ p + 0 := qc5
  obtain ⟨qc6, hc⟩ := zc1 hc
  have qc6 : z ≤ (0 : Int) + 2147483647 := qc6
  obtain ⟨qc7, hc⟩ := zc1 hc
  have qc7 : (0 : Int) ≤ z + 2147483648 := qc7
  refine ⟨_, List.mem_singleton.mpr rfl, fun c hc => (by cases hc), fun f hf => ?_⟩
  rw [List.mem_singleton.mp hf]
  have e := zd_sum h26 (by omega) (by omega) (by omega) (by omega)
  have e : z = k + 1 + n := by omega
  subst e
  exact (hD.1 153 (by decide) _ _ _).mpr ⟨zd_ty hD (by decide) p0, x, _, by simp, by omega, h0⟩
theorem rU60_ok (hD : zk_d2 D ua) : zr_okU D rU60 := by
  intro ty H Ls hT hp hc
  obtain ⟨l0, Ls', rfl, p0, hp⟩ := zr_cons hp
  cases zr_nil hp
  obtain ⟨rfl, h0⟩ := zd_op hD (by decide) p0
  refine ⟨_, List.mem_singleton.mpr rfl, fun c hc => (by cases hc), fun f hf => ?_⟩
  rw [List.mem_singleton.mp hf]
  exact (hD.1 110 (by decide) _ _ _).mpr ⟨zd_ty hD (by decide) p0, by simp, by omega, fun c hc => by omega⟩
theorem rU61_ok (hD : zk_d2 D ua) : zr_okU D rU61 := by
  intro ty H Ls hT hp hc
  obtain ⟨l0, Ls', rfl, p0, hp⟩ := zr_cons hp
  obtain ⟨l1, Ls', rfl, p1, hp⟩ := zr_cons hp
  cases zr_nil hp
  obtain ⟨rfl, a0⟩ := zd_op hD (by decide) p0
  obtain ⟨s, rfl⟩ := zd_loc p1
  refine ⟨_, List.mem_singleton.mpr rfl, fun c hc => (by cases hc), fun f hf => ?_⟩
  rw [List.mem_singleton.mp hf]
  exact (hD.1 112 (by decide) _ _ _).mpr ⟨zd_ty hD (by decide) p0, s, 0, by simp, fun i hi => by omega⟩
theorem rU62_ok (hD : zk_d2 D ua) : zr_okU D rU62 := by
  intro ty H Ls hT hp hc
  obtain ⟨l0, Ls', rfl, p0, hp⟩ := zr_cons hp
  obtain ⟨l1, Ls', rfl, p1, hp⟩ := zr_cons hp
  obtain ⟨l2, Ls', rfl, p2, hp⟩ := zr_cons hp
  obtain ⟨l3, Ls', rfl, p3, hp⟩ := zr_cons hp
  obtain ⟨l4, Ls', rfl, p4, hp⟩ := zr_cons hp
  cases zr_nil hp
  obtain ⟨s, k, rfl, h0⟩ := zd_op hD (by decide) p0
  obtain ⟨s1, rfl⟩ := zd_loc p1
  obtain ⟨d, rfl⟩ := zd_loc p2
  obtain ⟨m_o, m, rfl, hm⟩ := zd_fm hD hT p3
  obtain ⟨v_o, j, v, rfl, hj, hv⟩ := zd_em hD hT (by decide) p4
  obtain ⟨qc0, hc⟩ := zc1 hc
  have qc0 : s ≤ s1 + 0 := qc0
  obtain ⟨qc1, hc⟩ := zc1 hc
  have qc1 : s1 ≤ s + 0 := qc1
  obtain ⟨qc2, hc⟩ := zc1 hc
  have qc2 : j ≤ s + 0 := qc2
  obtain ⟨qc3, hc⟩ := zc1 hc
  have qc3 : s ≤ j + 0 := qc3
  obtain ⟨qc4, hc⟩ := zc1 hc
  have qc4 : m ≤ v + 0 := qc4
  obtain ⟨qc5, hc⟩ := zc1 hc
  have qc5 : v ≤ m + 0 := qc5
  obtain ⟨qc6, hc⟩ := zc1 hc
  have qc6 : m ≤ k + 0 := qc6
  obtain ⟨qc7, hc⟩ := zc1 hc
  have qc7 : (0 : Int) ≤ s + 0 := qc7
  obtain ⟨qc8, hc⟩ := zc1 hc
  have qc8 : s ≤ (0 : Int) + 1 := qc8
  obtain ⟨qc9, hc⟩ := zc1 hc
  have qc9 : (0 : Int) ≤ m + 0 := qc9
  refine ⟨_, List.mem_singleton.mpr rfl, fun c hc => (by cases hc), fun f hf => ?_⟩
  rw [List.mem_singleton.mp hf]
  refine (hD.1 111 (by decide) _ _ _).mpr ⟨zd_ty hD (by decide) p0, s, d, 0, by simp, by omega, by omega, by omega, fun x => ?_⟩
  rw [show j.toNat = s.toNat by omega] at hv
  show _ = zc_n _ x _ + 0
  rw [hm, hv, show m = v by omega, Int.add_zero]
  exact zc_n_eq (fun j' hj' => h0 j' (by omega))
theorem rU63_ok (hD : zk_d2 D ua) : zr_okU D rU63 := by
  intro ty H Ls hT hp hc
  obtain ⟨l0, Ls', rfl, p0, hp⟩ := zr_cons hp
  obtain ⟨l1, Ls', rfl, p1, hp⟩ := zr_cons hp
  cases zr_nil hp
  obtain ⟨s, d, c, rfl, g0, s0, m0, h0⟩ := zd_op hD (by decide) p0
  obtain ⟨v_o, j, v, rfl, hj, hv⟩ := zd_em hD hT (by decide) p1
  obtain ⟨qc0, hc⟩ := zc1 hc
  have qc0 : j ≤ c + 0 := qc0
  obtain ⟨qc1, hc⟩ := zc1 hc
  have qc1 : c ≤ j + 0 := qc1
  obtain ⟨qc2, hc⟩ := zc1 hc
  have qc2 : v ≤ s + -1 := qc2
  refine ⟨_, List.mem_singleton.mpr rfl, fun c hc => (by cases hc), fun f hf => ?_⟩
  rw [List.mem_singleton.mp hf]
  rw [show j.toNat = c.toNat by omega] at hv
  refine (hD.1 111 (by decide) _ _ _).mpr ⟨zd_ty hD (by decide) p0, s, d, c + 1, by simp, by omega, s0, m0, fun x => ?_⟩
  rw [show (c + 1).toNat = c.toNat + 1 by omega, zc_t_succ, if_neg (fun z => ?_), Int.add_zero]
  · exact h0 x
  · have := z.1
    omega
theorem rU64_ok (hD : zk_d2 D ua) : zr_okU D rU64 := by
  intro ty H Ls hT hp hc
  obtain ⟨l0, Ls', rfl, p0, hp⟩ := zr_cons hp
  obtain ⟨l1, Ls', rfl, p1, hp⟩ := zr_cons hp
  cases zr_nil hp
  obtain ⟨s, d, c, rfl, g0, s0, m0, h0⟩ := zd_op hD (by decide) p0
  obtain ⟨v_o, j, v, rfl, hj, hv⟩ := zd_em hD hT (by decide) p1
  obtain ⟨qc0, hc⟩ := zc1 hc
  have qc0 : j ≤ c + 0 := qc0
  obtain ⟨qc1, hc⟩ := zc1 hc
  have qc1 : c ≤ j + 0 := qc1
  obtain ⟨qc2, hc⟩ := zc1 hc
  have qc2 : s ≤ v + -1 := qc2
  refine ⟨_, List.mem_singleton.mpr rfl, fun c hc => (by cases hc), fun f hf => ?_⟩
  rw [List.mem_singleton.mp hf]
  rw [show j.toNat = c.toNat by omega] at hv
  refine (hD.1 111 (by decide) _ _ _).mpr ⟨zd_ty hD (by decide) p0, s, d, c + 1, by simp, by omega, s0, m0, fun x => ?_⟩
  rw [show (c + 1).toNat = c.toNat + 1 by omega, zc_t_succ, if_neg (fun z => ?_), Int.add_zero]
  · exact h0 x
  · have := z.1
    omega
theorem rU65_ok (hD : zk_d2 D ua) : zr_okU D rU65 := by
  intro ty H Ls hT hp hc
  obtain ⟨l0, Ls', rfl, p0, hp⟩ := zr_cons hp
  obtain ⟨l1, Ls', rfl, p1, hp⟩ := zr_cons hp
  cases zr_nil hp
  obtain ⟨s, d, c, rfl, g0, s0, m0, h0⟩ := zd_op hD (by decide) p0
  obtain ⟨v_o, j, v, rfl, hj, hv⟩ := zd_em hD hT (by decide) p1
  obtain ⟨qc0, hc⟩ := zc1 hc
  have qc0 : j ≤ c + 0 := qc0
  obtain ⟨qc1, hc⟩ := zc1 hc
  have qc1 : c ≤ j + 0 := qc1
  obtain ⟨qc2, hc⟩ := zc1 hc
  have qc2 : d ≤ v + -1 := qc2
  refine ⟨_, List.mem_singleton.mpr rfl, fun c hc => (by cases hc), fun f hf => ?_⟩
  rw [List.mem_singleton.mp hf]
  rw [show j.toNat = c.toNat by omega] at hv
  refine (hD.1 111 (by decide) _ _ _).mpr ⟨zd_ty hD (by decide) p0, s, d, c + 1, by simp, by omega, s0, m0, fun x => ?_⟩
  rw [show (c + 1).toNat = c.toNat + 1 by omega, zc_t_succ, if_neg (fun z => ?_), Int.add_zero]
  · exact h0 x
  · have := z.2.1
    omega
theorem rU66_ok (hD : zk_d2 D ua) : zr_okU D rU66 := by
  intro ty H Ls hT hp hc
  obtain ⟨l0, Ls', rfl, p0, hp⟩ := zr_cons hp
  obtain ⟨l1, Ls', rfl, p1, hp⟩ := zr_cons hp
  obtain ⟨l2, Ls', rfl, p2, hp⟩ := zr_cons hp
  obtain ⟨l3, Ls', rfl, p3, hp⟩ := zr_cons hp
  obtain ⟨l4, Ls', rfl, p4, hp⟩ := zr_cons hp
  obtain ⟨l5, Ls', rfl, p5, hp⟩ := zr_cons hp
  obtain ⟨l6, Ls', rfl, p6, hp⟩ := zr_cons hp
  obtain ⟨l7, Ls', rfl, p7, hp⟩ := zr_cons hp
  cases zr_nil hp
  obtain ⟨k, rfl, e0⟩ := zd_op hD (by decide) p0
  obtain ⟨s, d, c, rfl, g0, s0, m0, h0⟩ := zd_op hD (by decide) p1
  obtain ⟨rfl, a0⟩ := zd_op hD (by decide) p2
  obtain ⟨n_o, n, rfl, hn⟩ := zd_fm hD hT p3
  obtain ⟨s2_o, i1, s2, rfl, hi1, hs2⟩ := zd_em hD hT (by decide) p4
  obtain ⟨d2_o, i2, d2, rfl, hi2, hd2⟩ := zd_em hD hT (by decide) p5
  obtain ⟨k2_o, i3, k2, rfl, hi3, hk2⟩ := zd_em hD hT (by decide) p6
  obtain ⟨m2_o, i4, m2, rfl, hi4, hm2⟩ := zd_em hD hT (by decide) p7
  obtain ⟨qc0, hc⟩ := zc1 hc
  have qc0 : k ≤ k2 + 0 := qc0
  obtain ⟨qc1, hc⟩ := zc1 hc
  have qc1 : k2 ≤ k + 0 := qc1
  obtain ⟨qc2, hc⟩ := zc1 hc
  have qc2 : i1 ≤ c + 0 := qc2
  obtain ⟨qc3, hc⟩ := zc1 hc
  have qc3 : c ≤ i1 + 0 := qc3
  obtain ⟨qc4, hc⟩ := zc1 hc
  have qc4 : i2 ≤ c + 0 := qc4
  obtain ⟨qc5, hc⟩ := zc1 hc
  have qc5 : c ≤ i2 + 0 := qc5
  obtain ⟨qc6, hc⟩ := zc1 hc
  have qc6 : i3 ≤ c + 0 := qc6
  obtain ⟨qc7, hc⟩ := zc1 hc
  have qc7 : c ≤ i3 + 0 := qc7
  obtain ⟨qc8, hc⟩ := zc1 hc
  have qc8 : i4 ≤ c + 0 := qc8
  obtain ⟨qc9, hc⟩ := zc1 hc
  have qc9 : c ≤ i4 + 0 := qc9
  obtain ⟨qc10, hc⟩ := zc1 hc
  have qc10 : s2 ≤ s + 0 := qc10
  obtain ⟨qc11, hc⟩ := zc1 hc
  have qc11 : s ≤ s2 + 0 := qc11
  obtain ⟨qc12, hc⟩ := zc1 hc
  have qc12 : d2 ≤ d + 0 := qc12
  obtain ⟨qc13, hc⟩ := zc1 hc
  have qc13 : m2 ≤ (0 : Int) + 0 := qc13
  obtain ⟨qc14, hc⟩ := zc1 hc
  have qc14 : c ≤ n + -1 := qc14
  exfalso
  rw [show i1.toNat = c.toNat by omega] at hs2
  rw [show i2.toNat = c.toNat by omega] at hd2
  rw [show i3.toNat = c.toNat by omega] at hk2
  rw [show i4.toNat = c.toNat by omega] at hm2
  have z1 := h0 k
  rw [zc_n_zero (fun j hj => e0 j (by omega))] at z1
  obtain ⟨a1, a2, a3, a4⟩ := a0.2 c.toNat (by omega)
  have z2 := a4 (by omega)
  rw [hs2, hk2, show k2 = k by omega, show s2 = s by omega] at z2
  have z3 : zc_t ua (zi H) s (zi H (ua 115) c.toNat) c.toNat k = zc_t ua (zi H) s d c.toNat k := by
    unfold zc_t
    rw [zc_r_day (d' := d) (fun j hj => ⟨a2 j hj, by have := a2 j hj; omega⟩)]
  omega
theorem rU67_ok (hD : zk_d2 D ua) : zr_okU D rU67 := by
  intro ty H Ls hT hp hc
  obtain ⟨l0, Ls', rfl, p0, hp⟩ := zr_cons hp
  obtain ⟨l1, Ls', rfl, p1, hp⟩ := zr_cons hp
  cases zr_nil hp
  obtain ⟨s, d, c, rfl, g0, s0, m0, h0⟩ := zd_op hD (by decide) p0
  obtain ⟨n_o, n, rfl, hn⟩ := zd_fm hD hT p1
  obtain ⟨qc0, hc⟩ := zc1 hc
  have qc0 : c ≤ n + 0 := qc0
  obtain ⟨qc1, hc⟩ := zc1 hc
  have qc1 : n ≤ c + 0 := qc1
  refine ⟨_, List.mem_singleton.mpr rfl, fun c hc => (by cases hc), fun f hf => ?_⟩
  rw [List.mem_singleton.mp hf]
  refine (hD.1 119 (by decide) _ _ _).mpr ⟨zd_ty hD (by decide) p0, s, d, by simp, s0, m0, by omega, fun x => ?_⟩
  rw [hn, show n.toNat = c.toNat by omega]
  exact h0 x
theorem rU68_ok (hD : zk_d2 D ua) : zr_okU D rU68 := by
  intro ty H Ls hT hp hc
  obtain ⟨l0, Ls', rfl, p0, hp⟩ := zr_cons hp
  obtain ⟨l1, Ls', rfl, p1, hp⟩ := zr_cons hp
  cases zr_nil hp
  obtain ⟨s, d, rfl, s0, m0, n0, h0⟩ := zd_op hD (by decide) p0
  obtain ⟨k, p, rfl, b0, b1, b2⟩ := zd_op hD (by decide) p1
  refine ⟨_, List.mem_singleton.mpr rfl, fun c hc => (by cases hc), fun f hf => ?_⟩
  rw [List.mem_singleton.mp hf]
  refine (hD.1 115 (by decide) _ _ _).mpr ⟨zd_ty hD (by decide) p0, s, d, k, by simp, s0, n0, ?_⟩
  rw [← h0 k]
  exact zc_n_ge (by omega) b2
theorem rU70_ok (hD : zk_d2 D ua) : zr_okU D rU70 := by
  intro ty H Ls hT hp hc
  obtain ⟨l0, Ls', rfl, p0, hp⟩ := zr_cons hp
  obtain ⟨l1, Ls', rfl, p1, hp⟩ := zr_cons hp
  cases zr_nil hp
  obtain ⟨rfl, a0⟩ := zd_op hD (by decide) p0
  obtain ⟨k, rfl⟩ := zd_loc p1
  refine ⟨_, List.mem_singleton.mpr rfl, fun c hc => (by cases hc), fun f hf => ?_⟩
  rw [List.mem_singleton.mp hf]
  exact (hD.1 113 (by decide) _ _ _).mpr ⟨zd_ty hD (by decide) p0, k, 0, by simp, fun i hi => by omega⟩
theorem rU71_ok (hD : zk_d2 D ua) : zr_okU D rU71 := by
  intro ty H Ls hT hp hc
  obtain ⟨l0, Ls', rfl, p0, hp⟩ := zr_cons hp
  obtain ⟨l1, Ls', rfl, p1, hp⟩ := zr_cons hp
  obtain ⟨l2, Ls', rfl, p2, hp⟩ := zr_cons hp
  cases zr_nil hp
  obtain ⟨k, p, rfl, h0⟩ := zd_op hD (by decide) p0
  obtain ⟨m_o, m, rfl, hm⟩ := zd_fm hD hT p1
  obtain ⟨v_o, j, v, rfl, hj, hv⟩ := zd_em hD hT (by decide) p2
  obtain ⟨qc0, hc⟩ := zc1 hc
  have qc0 : j ≤ p + 0 := qc0
  obtain ⟨qc1, hc⟩ := zc1 hc
  have qc1 : p ≤ j + 0 := qc1
  obtain ⟨qc2, hc⟩ := zc1 hc
  have qc2 : p ≤ m + -1 := qc2
  obtain ⟨qc3, hc⟩ := zc1 hc
  have qc3 : (0 : Int) ≤ p + 0 := qc3
  rw [show j.toNat = p.toNat by omega] at hv
  rcases Int.lt_trichotomy v k with ht | ht | ht
  · refine ⟨_, List.mem_cons_self, fun c hc => ?_, fun f hf => ?_⟩
    · rw [List.mem_singleton.mp hc]
      show v ≤ k + -1
      omega
    · rw [List.mem_singleton.mp hf]
      refine (hD.1 113 (by decide) _ _ _).mpr ⟨zd_ty hD (by decide) p0, k, p + 1, by simp, fun i hi => ?_⟩
      by_cases e : (i : Int) < p
      · exact h0 i e
      · rw [show i = p.toNat by omega]
        omega
  · refine ⟨_, List.mem_cons_of_mem _ (List.mem_cons_of_mem _ List.mem_cons_self), fun c hc => ?_, fun f hf => ?_⟩
    · simp only [List.mem_cons, List.not_mem_nil, or_false] at hc
      rcases hc with rfl | rfl
      · show v ≤ k + 0
        omega
      · show k ≤ v + 0
        omega
    · rw [List.mem_singleton.mp hf]
      exact (hD.1 118 (by decide) _ _ _).mpr ⟨zd_ty hD (by decide) p0, k, p, by simp, by omega, by omega, by omega⟩
  · refine ⟨_, List.mem_cons_of_mem _ List.mem_cons_self, fun c hc => ?_, fun f hf => ?_⟩
    · rw [List.mem_singleton.mp hc]
      show k ≤ v + -1
      omega
    · rw [List.mem_singleton.mp hf]
      refine (hD.1 113 (by decide) _ _ _).mpr ⟨zd_ty hD (by decide) p0, k, p + 1, by simp, fun i hi => ?_⟩
      by_cases e : (i : Int) < p
      · exact h0 i e
      · rw [show i = p.toNat by omega]
        omega
theorem rU72_ok (hD : zk_d2 D ua) : zr_okU D rU72 := by
  intro ty H Ls hT hp hc
  obtain ⟨l0, Ls', rfl, p0, hp⟩ := zr_cons hp
  obtain ⟨l1, Ls', rfl, p1, hp⟩ := zr_cons hp
  cases zr_nil hp
  obtain ⟨k, p, rfl, h0⟩ := zd_op hD (by decide) p0
  obtain ⟨m_o, m, rfl, hm⟩ := zd_fm hD hT p1
  obtain ⟨qc0, hc⟩ := zc1 hc
  have qc0 : m ≤ p + 0 := qc0
  refine ⟨_, List.mem_singleton.mpr rfl, fun c hc => (by cases hc), fun f hf => ?_⟩
  rw [List.mem_singleton.mp hf]
  exact (hD.1 117 (by decide) _ _ _).mpr ⟨zd_ty hD (by decide) p0, k, by simp, fun i hi => h0 i (by omega)⟩
theorem rU80_ok (hD : zk_d2 D ua) : zr_okU D rU80 := by
  intro ty H Ls hT hp hc
  obtain ⟨l0, Ls', rfl, p0, hp⟩ := zr_cons hp
  obtain ⟨l1, Ls', rfl, p1, hp⟩ := zr_cons hp
  cases zr_nil hp
  obtain ⟨rfl, -⟩ := zd_op hD (by decide) p0
  obtain ⟨n, rfl⟩ := zd_loc p1
  refine ⟨_, List.mem_singleton.mpr rfl, fun c hc => (by cases hc), fun f hf => ?_⟩
  rw [List.mem_singleton.mp hf]
  exact (hD.1 162 (by decide) _ _ _).mpr ⟨zd_ty hD (by decide) p0, n, 2, by simp, fun e h1 h2 => by omega⟩
theorem rU81_ok (hD : zk_d2 D ua) : zr_okU D rU81 := by
  intro ty H Ls hT hp hc
  obtain ⟨l0, Ls', rfl, p0, hp⟩ := zr_cons hp
  obtain ⟨l1, Ls', rfl, p1, hp⟩ := zr_cons hp
  cases zr_nil hp
  obtain ⟨n, d, rfl, h0⟩ := zd_op hD (by decide) p0
  obtain ⟨a, b, z, rfl, hz⟩ := zd_rec hD (by decide) p1
  obtain ⟨qc0, hc⟩ := zc1 hc
  have qc0 : a ≤ d + 0 := qc0
  obtain ⟨qc1, hc⟩ := zc1 hc
  have qc1 : d ≤ a + 0 := qc1
  obtain ⟨qc2, hc⟩ := zc1 hc
  have qc2 : b ≤ d + 0 := qc2
  obtain ⟨qc3, hc⟩ := zc1 hc
  have qc3 : d ≤ b + 0 := qc3
  obtain ⟨qc4, hc⟩ := zc1 hc
  have qc4 : n ≤ z + -1 := qc4
  obtain ⟨qc5, hc⟩ := zc1 hc
  have qc5 : (0 : Int) ≤ d + -2 := qc5
  obtain ⟨qc6, hc⟩ := zc1 hc
  have qc6 : d ≤ (0 : Int) + 100000 := qc6
  obtain ⟨qc7, hc⟩ := zc1 hc
  have qc7 : (0 : Int) ≤ n + -2 := qc7
  obtain ⟨qc8, hc⟩ := zc1 hc
  have qc8 : n ≤ (0 : Int) + 2147483647 := qc8
  obtain ⟨qc9, hc⟩ := zc1 hc
  have qc9 : z ≤ (0 : Int) + 9223372036854775807 := qc9
  obtain ⟨qc10, hc⟩ := zc1 hc
  have qc10 : (0 : Int) ≤ z + 9223372036854775808 := qc10
  refine ⟨_, List.mem_singleton.mpr rfl, fun c hc => (by cases hc), fun f hf => ?_⟩
  rw [List.mem_singleton.mp hf]
  have ea : a = d := by omega
  have eb : b = d := by omega
  rw [ea, eb] at hz
  have hdd := zn_dd (d := d) (by omega) (by omega)
  have ez := zm_22 hz (by omega) (by omega) (by omega) (by omega)
  exact (hD.1 160 (by decide) _ _ _).mpr ⟨zd_ty hD (by decide) p0, n, by simp, zn_yes h0 (by omega) (by omega) (by omega)⟩
theorem rU82_ok (hD : zk_d2 D ua) : zr_okU D rU82 := by
  intro ty H Ls hT hp hc
  obtain ⟨l0, Ls', rfl, p0, hp⟩ := zr_cons hp
  obtain ⟨l1, Ls', rfl, p1, hp⟩ := zr_cons hp
  obtain ⟨l2, Ls', rfl, p2, hp⟩ := zr_cons hp
  cases zr_nil hp
  obtain ⟨n, d, rfl, h0⟩ := zd_op hD (by decide) p0
  obtain ⟨a, b, z, rfl, hz⟩ := zd_rec hD (by decide) p1
  obtain ⟨x, y, r, rfl, hr⟩ := zd_rec hD (by decide) p2
  obtain ⟨qc0, hc⟩ := zc1 hc
  have qc0 : a ≤ d + 0 := qc0
  obtain ⟨qc1, hc⟩ := zc1 hc
  have qc1 : d ≤ a + 0 := qc1
  obtain ⟨qc2, hc⟩ := zc1 hc
  have qc2 : b ≤ d + 0 := qc2
  obtain ⟨qc3, hc⟩ := zc1 hc
  have qc3 : d ≤ b + 0 := qc3
  obtain ⟨qc4, hc⟩ := zc1 hc
  have qc4 : x ≤ n + 0 := qc4
  obtain ⟨qc5, hc⟩ := zc1 hc
  have qc5 : n ≤ x + 0 := qc5
  obtain ⟨qc6, hc⟩ := zc1 hc
  have qc6 : y ≤ d + 0 := qc6
  obtain ⟨qc7, hc⟩ := zc1 hc
  have qc7 : d ≤ y + 0 := qc7
  obtain ⟨qc8, hc⟩ := zc1 hc
  have qc8 : r ≤ (0 : Int) + 0 := qc8
  obtain ⟨qc9, hc⟩ := zc1 hc
  have qc9 : (0 : Int) ≤ r + 0 := qc9
  obtain ⟨qc10, hc⟩ := zc1 hc
  have qc10 : z ≤ n + 0 := qc10
  obtain ⟨qc11, hc⟩ := zc1 hc
  have qc11 : (0 : Int) ≤ d + -2 := qc11
  obtain ⟨qc12, hc⟩ := zc1 hc
  have qc12 : d ≤ (0 : Int) + 100000 := qc12
  obtain ⟨qc13, hc⟩ := zc1 hc
  have qc13 : (0 : Int) ≤ n + -2 := qc13
  obtain ⟨qc14, hc⟩ := zc1 hc
  have qc14 : n ≤ (0 : Int) + 2147483647 := qc14
  obtain ⟨qc15, hc⟩ := zc1 hc
  have qc15 : z ≤ (0 : Int) + 9223372036854775807 := qc15
  obtain ⟨qc16, hc⟩ := zc1 hc
  have qc16 : (0 : Int) ≤ z + 9223372036854775808 := qc16
  refine ⟨_, List.mem_singleton.mpr rfl, fun c hc => (by cases hc), fun f hf => ?_⟩
  rw [List.mem_singleton.mp hf]
  have ea : a = d := by omega
  have eb : b = d := by omega
  rw [ea, eb] at hz
  have hdd := zn_dd (d := d) (by omega) (by omega)
  have ez := zm_22 hz (by omega) (by omega) (by omega) (by omega)
  rw [show x = n by omega, show y = d by omega] at hr
  have er := zm_24 hr (by omega) (by omega) (by omega) (by omega) (by omega) (by omega)
  exact (hD.1 161 (by decide) _ _ _).mpr ⟨zd_ty hD (by decide) p0, n, by simp, zn_not (d := d) (by omega) (by omega) (by omega)⟩
theorem rU83_ok (hD : zk_d2 D ua) : zr_okU D rU83 := by
  intro ty H Ls hT hp hc
  obtain ⟨l0, Ls', rfl, p0, hp⟩ := zr_cons hp
  obtain ⟨l1, Ls', rfl, p1, hp⟩ := zr_cons hp
  cases zr_nil hp
  obtain ⟨n, d, rfl, h0⟩ := zd_op hD (by decide) p0
  obtain ⟨x, y, r, rfl, hr⟩ := zd_rec hD (by decide) p1
  obtain ⟨qc0, hc⟩ := zc1 hc
  have qc0 : x ≤ n + 0 := qc0
  obtain ⟨qc1, hc⟩ := zc1 hc
  have qc1 : n ≤ x + 0 := qc1
  obtain ⟨qc2, hc⟩ := zc1 hc
  have qc2 : y ≤ d + 0 := qc2
  obtain ⟨qc3, hc⟩ := zc1 hc
  have qc3 : d ≤ y + 0 := qc3
  obtain ⟨qc4, hc⟩ := zc1 hc
  have qc4 : (0 : Int) ≤ r + -1 := qc4
  obtain ⟨qc5, hc⟩ := zc1 hc
  have qc5 : (0 : Int) ≤ d + -2 := qc5
  obtain ⟨qc6, hc⟩ := zc1 hc
  have qc6 : d ≤ (0 : Int) + 100000 := qc6
  obtain ⟨qc7, hc⟩ := zc1 hc
  have qc7 : (0 : Int) ≤ n + -2 := qc7
  obtain ⟨qc8, hc⟩ := zc1 hc
  have qc8 : n ≤ (0 : Int) + 2147483647 := qc8
  obtain ⟨qc9, hc⟩ := zc1 hc
  have qc9 : r ≤ (0 : Int) + 9223372036854775807 := qc9
  obtain ⟨qc10, hc⟩ := zc1 hc
  have qc10 : (0 : Int) ≤ r + 9223372036854775808 := qc10
  refine ⟨_, List.mem_singleton.mpr rfl, fun c hc => (by cases hc), fun f hf => ?_⟩
  rw [List.mem_singleton.mp hf]
  rw [show x = n by omega, show y = d by omega] at hr
  have er := zm_24 hr (by omega) (by omega) (by omega) (by omega) (by omega) (by omega)
  refine (hD.1 162 (by decide) _ _ _).mpr ⟨zd_ty hD (by decide) p0, n, d + 1, by simp, fun e h1 h2 => ?_⟩
  by_cases e1 : e < d
  · exact h0 e h1 e1
  · rw [show e = d by omega]
    omega
theorem rU84_ok (hD : zk_d2 D ua) : zr_okU D rU84 := by
  intro ty H Ls hT hp hc
  obtain ⟨l0, Ls', rfl, p0, hp⟩ := zr_cons hp
  obtain ⟨l1, Ls', rfl, p1, hp⟩ := zr_cons hp
  cases zr_nil hp
  obtain ⟨rfl, -⟩ := zd_op hD (by decide) p0
  obtain ⟨n, b, r, rfl, hr⟩ := zd_rec hD (by decide) p1
  obtain ⟨qc0, hc⟩ := zc1 hc
  have qc0 : b ≤ (0 : Int) + 2 := qc0
  obtain ⟨qc1, hc⟩ := zc1 hc
  have qc1 : (0 : Int) ≤ b + -2 := qc1
  obtain ⟨qc2, hc⟩ := zc1 hc
  have qc2 : r ≤ (0 : Int) + 0 := qc2
  obtain ⟨qc3, hc⟩ := zc1 hc
  have qc3 : (0 : Int) ≤ r + 0 := qc3
  obtain ⟨qc4, hc⟩ := zc1 hc
  have qc4 : (0 : Int) ≤ n + -4 := qc4
  obtain ⟨qc5, hc⟩ := zc1 hc
  have qc5 : n ≤ (0 : Int) + 2147483647 := qc5
  refine ⟨_, List.mem_singleton.mpr rfl, fun c hc => (by cases hc), fun f hf => ?_⟩
  rw [List.mem_singleton.mp hf]
  rw [show b = 2 by omega] at hr
  have er := zm_28 hr (by omega) (by omega) (by omega) (by omega) (by omega) (by omega)
  exact (hD.1 161 (by decide) _ _ _).mpr ⟨zd_ty hD (by decide) p0, n, by simp, zn_not (d := 2) (by omega) (by omega) (by omega)⟩
theorem rU85_ok (hD : zk_d2 D ua) : zr_okU D rU85 := by
  intro ty H Ls hT hp hc
  obtain ⟨l0, Ls', rfl, p0, hp⟩ := zr_cons hp
  obtain ⟨l1, Ls', rfl, p1, hp⟩ := zr_cons hp
  cases zr_nil hp
  obtain ⟨rfl, -⟩ := zd_op hD (by decide) p0
  obtain ⟨n, b, r, rfl, hr⟩ := zd_rec hD (by decide) p1
  obtain ⟨qc0, hc⟩ := zc1 hc
  have qc0 : b ≤ (0 : Int) + 2 := qc0
  obtain ⟨qc1, hc⟩ := zc1 hc
  have qc1 : (0 : Int) ≤ b + -2 := qc1
  obtain ⟨qc2, hc⟩ := zc1 hc
  have qc2 : (0 : Int) ≤ r + -1 := qc2
  obtain ⟨qc3, hc⟩ := zc1 hc
  have qc3 : (0 : Int) ≤ n + 0 := qc3
  obtain ⟨qc4, hc⟩ := zc1 hc
  have qc4 : n ≤ (0 : Int) + 2147483647 := qc4
  obtain ⟨qc5, hc⟩ := zc1 hc
  have qc5 : r ≤ (0 : Int) + 2147483647 := qc5
  obtain ⟨qc6, hc⟩ := zc1 hc
  have qc6 : (0 : Int) ≤ r + 2147483648 := qc6
  refine ⟨_, List.mem_singleton.mpr rfl, fun c hc => (by cases hc), fun f hf => ?_⟩
  rw [List.mem_singleton.mp hf]
  rw [show b = 2 by omega] at hr
  have er := zm_28 hr (by omega) (by omega) (by omega) (by omega) (by omega) (by omega)
  refine (hD.1 164 (by decide) _ _ _).mpr ⟨zd_ty hD (by decide) p0, n, 3, by simp, fun e h1 h2 => ?_, by omega, by omega⟩
  rw [show e = 2 by omega]
  omega
theorem rU86_ok (hD : zk_d2 D ua) : zr_okU D rU86 := by
  intro ty H Ls hT hp hc
  obtain ⟨l0, Ls', rfl, p0, hp⟩ := zr_cons hp
  obtain ⟨l1, Ls', rfl, p1, hp⟩ := zr_cons hp
  cases zr_nil hp
  obtain ⟨n, d, rfl, h0, h1, h2⟩ := zd_op hD (by decide) p0
  obtain ⟨x, y, r, rfl, hr⟩ := zd_rec hD (by decide) p1
  obtain ⟨qc0, hc⟩ := zc1 hc
  have qc0 : x ≤ n + 0 := qc0
  obtain ⟨qc1, hc⟩ := zc1 hc
  have qc1 : n ≤ x + 0 := qc1
  obtain ⟨qc2, hc⟩ := zc1 hc
  have qc2 : y ≤ d + 0 := qc2
  obtain ⟨qc3, hc⟩ := zc1 hc
  have qc3 : d ≤ y + 0 := qc3
  obtain ⟨qc4, hc⟩ := zc1 hc
  have qc4 : (0 : Int) ≤ r + -1 := qc4
  obtain ⟨qc5, hc⟩ := zc1 hc
  have qc5 : (0 : Int) ≤ d + -2 := qc5
  obtain ⟨qc6, hc⟩ := zc1 hc
  have qc6 : d ≤ (0 : Int) + 100000 := qc6
  obtain ⟨qc7, hc⟩ := zc1 hc
  have qc7 : (0 : Int) ≤ n + -2 := qc7
  obtain ⟨qc8, hc⟩ := zc1 hc
  have qc8 : n ≤ (0 : Int) + 2147483647 := qc8
  obtain ⟨qc9, hc⟩ := zc1 hc
  have qc9 : r ≤ (0 : Int) + 2147483647 := qc9
  obtain ⟨qc10, hc⟩ := zc1 hc
  have qc10 : (0 : Int) ≤ r + 2147483648 := qc10
  refine ⟨_, List.mem_singleton.mpr rfl, fun c hc => (by cases hc), fun f hf => ?_⟩
  rw [List.mem_singleton.mp hf]
  rw [show x = n by omega, show y = d by omega] at hr
  have er := zm_28 hr (by omega) (by omega) (by omega) (by omega) (by omega) (by omega)
  refine (hD.1 164 (by decide) _ _ _).mpr ⟨zd_ty hD (by decide) p0, n, d + 2, by simp, fun e g1 g2 => ?_, h1, by omega⟩
  by_cases e1 : e < d
  · exact h0 e g1 e1
  · by_cases e2 : e = d
    · rw [e2]
      omega
    · exact zn_odd h1 (by omega)
theorem rU87_ok (hD : zk_d2 D ua) : zr_okU D rU87 := by
  intro ty H Ls hT hp hc
  obtain ⟨l0, Ls', rfl, p0, hp⟩ := zr_cons hp
  cases zr_nil hp
  obtain ⟨n, d, rfl, h0, h1, h2⟩ := zd_op hD (by decide) p0
  obtain ⟨qc0, hc⟩ := zc1 hc
  have qc0 : (0 : Int) ≤ d + -46341 := qc0
  obtain ⟨qc1, hc⟩ := zc1 hc
  have qc1 : n ≤ (0 : Int) + 2147483647 := qc1
  obtain ⟨qc2, hc⟩ := zc1 hc
  have qc2 : (0 : Int) ≤ n + -2 := qc2
  refine ⟨_, List.mem_singleton.mpr rfl, fun c hc => (by cases hc), fun f hf => ?_⟩
  rw [List.mem_singleton.mp hf]
  have hq := Int.mul_le_mul (show (46341 : Int) ≤ d by omega) (show (46341 : Int) ≤ d by omega) (by omega) (by omega)
  exact (hD.1 160 (by decide) _ _ _).mpr ⟨zd_ty hD (by decide) p0, n, by simp, zn_yes h0 (by omega) (by omega) (by omega)⟩
theorem rU88_ok (hD : zk_d2 D ua) : zr_okU D rU88 := by
  intro ty H Ls hT hp hc
  obtain ⟨l0, Ls', rfl, p0, hp⟩ := zr_cons hp
  obtain ⟨l1, Ls', rfl, p1, hp⟩ := zr_cons hp
  cases zr_nil hp
  obtain ⟨n, d, rfl, h0, h1, h2⟩ := zd_op hD (by decide) p0
  obtain ⟨a, b, z, rfl, hz⟩ := zd_rec hD (by decide) p1
  obtain ⟨qc0, hc⟩ := zc1 hc
  have qc0 : a ≤ d + 0 := qc0
  obtain ⟨qc1, hc⟩ := zc1 hc
  have qc1 : d ≤ a + 0 := qc1
  obtain ⟨qc2, hc⟩ := zc1 hc
  have qc2 : b ≤ d + 0 := qc2
  obtain ⟨qc3, hc⟩ := zc1 hc
  have qc3 : d ≤ b + 0 := qc3
  obtain ⟨qc4, hc⟩ := zc1 hc
  have qc4 : n ≤ z + -1 := qc4
  obtain ⟨qc5, hc⟩ := zc1 hc
  have qc5 : (0 : Int) ≤ d + -2 := qc5
  obtain ⟨qc6, hc⟩ := zc1 hc
  have qc6 : d ≤ (0 : Int) + 46340 := qc6
  obtain ⟨qc7, hc⟩ := zc1 hc
  have qc7 : (0 : Int) ≤ n + -2 := qc7
  obtain ⟨qc8, hc⟩ := zc1 hc
  have qc8 : z ≤ (0 : Int) + 2147483647 := qc8
  obtain ⟨qc9, hc⟩ := zc1 hc
  have qc9 : (0 : Int) ≤ z + 2147483648 := qc9
  refine ⟨_, List.mem_singleton.mpr rfl, fun c hc => (by cases hc), fun f hf => ?_⟩
  rw [List.mem_singleton.mp hf]
  rw [show a = d by omega, show b = d by omega] at hz
  have hdd : 0 ≤ d * d ∧ d * d ≤ 2147395600 := by
    refine ⟨Int.mul_nonneg (by omega) (by omega), ?_⟩
    have := Int.mul_le_mul (show d ≤ 46340 by omega) (show d ≤ 46340 by omega) (show 0 ≤ d by omega) (by omega)
    omega
  have ez := zm_27 hz (by omega) (by omega) (by omega) (by omega)
  exact (hD.1 160 (by decide) _ _ _).mpr ⟨zd_ty hD (by decide) p0, n, by simp, zn_yes h0 (by omega) (by omega) (by omega)⟩
theorem rU89_ok (hD : zk_d2 D ua) : zr_okU D rU89 := by
  intro ty H Ls hT hp hc
  obtain ⟨l0, Ls', rfl, p0, hp⟩ := zr_cons hp
  obtain ⟨l1, Ls', rfl, p1, hp⟩ := zr_cons hp
  obtain ⟨l2, Ls', rfl, p2, hp⟩ := zr_cons hp
  cases zr_nil hp
  obtain ⟨n, d, rfl, h0, h1, h2⟩ := zd_op hD (by decide) p0
  obtain ⟨a, b, z, rfl, hz⟩ := zd_rec hD (by decide) p1
  obtain ⟨x, y, r, rfl, hr⟩ := zd_rec hD (by decide) p2
  obtain ⟨qc0, hc⟩ := zc1 hc
  have qc0 : a ≤ d + 0 := qc0
  obtain ⟨qc1, hc⟩ := zc1 hc
  have qc1 : d ≤ a + 0 := qc1
  obtain ⟨qc2, hc⟩ := zc1 hc
  have qc2 : b ≤ d + 0 := qc2
  obtain ⟨qc3, hc⟩ := zc1 hc
  have qc3 : d ≤ b + 0 := qc3
  obtain ⟨qc4, hc⟩ := zc1 hc
  have qc4 : x ≤ n + 0 := qc4
  obtain ⟨qc5, hc⟩ := zc1 hc
  have qc5 : n ≤ x + 0 := qc5
  obtain ⟨qc6, hc⟩ := zc1 hc
  have qc6 : y ≤ d + 0 := qc6
  obtain ⟨qc7, hc⟩ := zc1 hc
  have qc7 : d ≤ y + 0 := qc7
  obtain ⟨qc8, hc⟩ := zc1 hc
  have qc8 : r ≤ (0 : Int) + 0 := qc8
  obtain ⟨qc9, hc⟩ := zc1 hc
  have qc9 : (0 : Int) ≤ r + 0 := qc9
  obtain ⟨qc10, hc⟩ := zc1 hc
  have qc10 : z ≤ n + 0 := qc10
  obtain ⟨qc11, hc⟩ := zc1 hc
  have qc11 : (0 : Int) ≤ d + -2 := qc11
  obtain ⟨qc12, hc⟩ := zc1 hc
  have qc12 : d ≤ (0 : Int) + 46340 := qc12
  obtain ⟨qc13, hc⟩ := zc1 hc
  have qc13 : (0 : Int) ≤ n + -2 := qc13
  obtain ⟨qc14, hc⟩ := zc1 hc
  have qc14 : n ≤ (0 : Int) + 2147483647 := qc14
  obtain ⟨qc15, hc⟩ := zc1 hc
  have qc15 : z ≤ (0 : Int) + 2147483647 := qc15
  obtain ⟨qc16, hc⟩ := zc1 hc
  have qc16 : (0 : Int) ≤ z + 2147483648 := qc16
  refine ⟨_, List.mem_singleton.mpr rfl, fun c hc => (by cases hc), fun f hf => ?_⟩
  rw [List.mem_singleton.mp hf]
  rw [show a = d by omega, show b = d by omega] at hz
  have hdd : 0 ≤ d * d ∧ d * d ≤ 2147395600 := by
    refine ⟨Int.mul_nonneg (by omega) (by omega), ?_⟩
    have := Int.mul_le_mul (show d ≤ 46340 by omega) (show d ≤ 46340 by omega) (show 0 ≤ d by omega) (by omega)
    omega
  have ez := zm_27 hz (by omega) (by omega) (by omega) (by omega)
  rw [show x = n by omega, show y = d by omega] at hr
  have er := zm_28 hr (by omega) (by omega) (by omega) (by omega) (by omega) (by omega)
  exact (hD.1 161 (by decide) _ _ _).mpr ⟨zd_ty hD (by decide) p0, n, by simp, zn_not (d := d) (by omega) (by omega) (by omega)⟩
theorem rU90_ok (hD : zk_d2 D ua) : zr_okU D rU90 := by
  intro ty H Ls hT hp hc
  obtain ⟨l0, Ls', rfl, p0, hp⟩ := zr_cons hp
  obtain ⟨l1, Ls', rfl, p1, hp⟩ := zr_cons hp
  cases zr_nil hp
  obtain ⟨n, rfl, h0⟩ := zd_op hD (by decide) p0
  obtain ⟨k, rfl, h1⟩ := zd_op hD (by decide) p1
  obtain ⟨qc0, hc⟩ := zc1 hc
  have qc0 : n ≤ k + 0 := qc0
  obtain ⟨qc1, hc⟩ := zc1 hc
  have qc1 : k ≤ n + 0 := qc1
  exfalso
  rw [show n = k by omega] at h0
  exact h1 h0
end

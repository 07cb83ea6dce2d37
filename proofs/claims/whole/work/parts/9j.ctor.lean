/-! THE CONSTRUCTORS: their rows, and a machine of their own: places are counted as the cells come -/
abbrev kRow : Type := Nat × Instr × Nat × Nat × Nat × Int32
set_option maxRecDepth 20000 in
def kR0 : List kRow := [(0, .aload_n 0, 1, 0, 0, 0), (1, .invokespecial 3, 3, 100, 223, 0), (4, .aload_n 0, 1, 0, 0, 0), (5, .bipush 12, 2, 0, 0, 12), (7, .newarray .int, 2, 0, 0, 0), (9, .putfield 9, 3, 0, 241, 0), (12, .aload_n 0, 1, 0, 0, 0), (13, .bipush 12, 2, 0, 0, 12), (15, .newarray .boolean, 2, 0, 0, 0), (17, .putfield 15, 3, 1, 242, 0), (20, .aload_n 0, 1, 0, 0, 0), (21, .bipush 12, 2, 0, 0, 12), (23, .newarray .int, 2, 0, 0, 0), (25, .putfield 19, 3, 2, 243, 0), (28, .aload_n 0, 1, 0, 0, 0), (29, .bipush 12, 2, 0, 0, 12), (31, .newarray .int, 2, 0, 0, 0), (33, .putfield 22, 3, 3, 244, 0), (36, .aload_n 0, 1, 0, 0, 0), (37, .bipush 12, 2, 0, 0, 12), (39, .newarray .int, 2, 0, 0, 0), (41, .putfield 25, 3, 4, 245, 0), (44, .aload_n 0, 1, 0, 0, 0), (45, .bipush 12, 2, 0, 0, 12), (47, .newarray .int, 2, 0, 0, 0), (49, .putfield 28, 3, 5, 246, 0), (52, .aload_n 0, 1, 0, 0, 0), (53, .bipush 12, 2, 0, 0, 12), (55, .newarray .int, 2, 0, 0, 0), (57, .putfield 31, 3, 6, 247, 0), (60, .aload_n 0, 1, 0, 0, 0), (61, .new 34, 3, 9, 224, 0), (64, .dup, 1, 0, 0, 0), (65, .invokespecial 36, 3, 9, 226, 0), (68, .putfield 37, 3, 7, 248, 0), (71, .aload_n 0, 1, 0, 0, 0), (72, .new 34, 3, 9, 224, 0), (75, .dup, 1, 0, 0, 0), (76, .invokespecial 36, 3, 9, 226, 0), (79, .putfield 41, 3, 8, 249, 0), (82, .aload_n 0, 1, 0, 0, 0), (83, .bipush 10, 2, 0, 0, 10), (85, .newarray .int, 2, 0, 0, 0), (87, .putfield 44, 3, 9, 250, 0), (90, .aload_n 0, 1, 0, 0, 0), (91, .bipush 10, 2, 0, 0, 10), (93, .newarray .int, 2, 0, 0, 0), (95, .putfield 47, 3, 10, 251, 0), (98, .aload_n 0, 1, 0, 0, 0), (99, .bipush 10, 2, 0, 0, 10), (101, .newarray .int, 2, 0, 0, 0), (103, .putfield 50, 3, 11, 252, 0), (106, .aload_n 0, 1, 0, 0, 0), (107, .bipush 10, 2, 0, 0, 10), (109, .newarray .int, 2, 0, 0, 0), (111, .putfield 53, 3, 12, 253, 0), (114, .aload_n 0, 1, 0, 0, 0), (115, .iconst 0, 1, 0, 0, 0), (116, .putfield 56, 3, 13, 254, 0), (119, .aload_n 0, 1, 0, 0, 0), (120, .iconst 0, 1, 0, 0, 0), (121, .putfield 60, 3, 14, 256, 0), (124, .return_, 1, 0, 0, 0)]
set_option maxRecDepth 20000 in
def kR1 : List kRow := [(0, .aload_n 0, 1, 0, 0, 0), (1, .invokespecial 3, 3, 100, 313, 0), (4, .aload_n 0, 1, 0, 0, 0), (5, .new 9, 3, 2, 314, 0), (8, .dup, 1, 0, 0, 0), (9, .invokespecial 11, 3, 2, 315, 0), (12, .putfield 12, 3, 0, 316, 0), (15, .aload_n 0, 1, 0, 0, 0), (16, .iconst 0, 1, 0, 0, 0), (17, .putfield 18, 3, 1, 318, 0), (20, .aload_n 0, 1, 0, 0, 0), (21, .iconst 0, 1, 0, 0, 0), (22, .putfield 22, 3, 2, 320, 0), (25, .return_, 1, 0, 0, 0)]
set_option maxRecDepth 20000 in
def kR2 : List kRow := [(0, .aload_n 0, 1, 0, 0, 0), (1, .invokespecial 3, 3, 100, 60, 0), (4, .aload_n 0, 1, 0, 0, 0), (5, .bipush 60, 2, 0, 0, 60), (7, .newarray .int, 2, 0, 0, 0), (9, .putfield 9, 3, 0, 61, 0), (12, .aload_n 0, 1, 0, 0, 0), (13, .bipush 60, 2, 0, 0, 60), (15, .newarray .int, 2, 0, 0, 0), (17, .putfield 15, 3, 1, 62, 0), (20, .aload_n 0, 1, 0, 0, 0), (21, .bipush 60, 2, 0, 0, 60), (23, .newarray .int, 2, 0, 0, 0), (25, .putfield 18, 3, 2, 63, 0), (28, .aload_n 0, 1, 0, 0, 0), (29, .bipush 60, 2, 0, 0, 60), (31, .newarray .int, 2, 0, 0, 0), (33, .putfield 21, 3, 3, 64, 0), (36, .aload_n 0, 1, 0, 0, 0), (37, .bipush 60, 2, 0, 0, 60), (39, .newarray .int, 2, 0, 0, 0), (41, .putfield 24, 3, 4, 65, 0), (44, .aload_n 0, 1, 0, 0, 0), (45, .bipush 60, 2, 0, 0, 60), (47, .newarray .int, 2, 0, 0, 0), (49, .putfield 27, 3, 5, 66, 0), (52, .aload_n 0, 1, 0, 0, 0), (53, .bipush 60, 2, 0, 0, 60), (55, .newarray .int, 2, 0, 0, 0), (57, .putfield 30, 3, 6, 67, 0), (60, .aload_n 0, 1, 0, 0, 0), (61, .bipush 60, 2, 0, 0, 60), (63, .newarray .int, 2, 0, 0, 0), (65, .putfield 33, 3, 7, 68, 0), (68, .aload_n 0, 1, 0, 0, 0), (69, .bipush 60, 2, 0, 0, 60), (71, .newarray .int, 2, 0, 0, 0), (73, .putfield 36, 3, 8, 69, 0), (76, .aload_n 0, 1, 0, 0, 0), (77, .bipush 8, 2, 0, 0, 8), (79, .newarray .int, 2, 0, 0, 0), (81, .putfield 39, 3, 9, 70, 0), (84, .aload_n 0, 1, 0, 0, 0), (85, .lconst 0, 1, 0, 0, 0), (86, .putfield 42, 3, 10, 71, 0), (89, .return_, 1, 0, 0, 0)]
set_option maxRecDepth 20000 in
def kR3 : List kRow := [(0, .aload_n 0, 1, 0, 0, 0), (1, .invokespecial 3, 3, 100, 127, 0), (4, .aload_n 0, 1, 0, 0, 0), (5, .bipush 24, 2, 0, 0, 24), (7, .newarray .int, 2, 0, 0, 0), (9, .putfield 9, 3, 0, 128, 0), (12, .aload_n 0, 1, 0, 0, 0), (13, .bipush 24, 2, 0, 0, 24), (15, .newarray .int, 2, 0, 0, 0), (17, .putfield 15, 3, 1, 129, 0), (20, .aload_n 0, 1, 0, 0, 0), (21, .bipush 24, 2, 0, 0, 24), (23, .newarray .int, 2, 0, 0, 0), (25, .putfield 18, 3, 2, 130, 0), (28, .aload_n 0, 1, 0, 0, 0), (29, .bipush 24, 2, 0, 0, 24), (31, .newarray .int, 2, 0, 0, 0), (33, .putfield 21, 3, 3, 131, 0), (36, .aload_n 0, 1, 0, 0, 0), (37, .sipush 800, 3, 0, 0, 800), (40, .newarray .int, 2, 0, 0, 0), (42, .putfield 24, 3, 4, 132, 0), (45, .aload_n 0, 1, 0, 0, 0), (46, .bipush 40, 2, 0, 0, 40), (48, .newarray .int, 2, 0, 0, 0), (50, .putfield 27, 3, 5, 133, 0), (53, .aload_n 0, 1, 0, 0, 0), (54, .iconst 0, 1, 0, 0, 0), (55, .putfield 30, 3, 6, 134, 0), (58, .aload_n 0, 1, 0, 0, 0), (59, .iconst 0, 1, 0, 0, 0), (60, .putfield 34, 3, 7, 137, 0), (63, .return_, 1, 0, 0, 0)]
set_option maxRecDepth 20000 in
def kR4 : List kRow := [(0, .aload_n 0, 1, 0, 0, 0), (1, .invokespecial 3, 3, 100, 161, 0), (4, .aload_n 0, 1, 0, 0, 0), (5, .new 9, 3, 3, 162, 0), (8, .dup, 1, 0, 0, 0), (9, .invokespecial 11, 3, 3, 163, 0), (12, .putfield 12, 3, 1, 165, 0), (15, .aload_n 0, 1, 0, 0, 0), (16, .iconst 0, 1, 0, 0, 0), (17, .putfield 18, 3, 2, 167, 0), (20, .aload_n 0, 1, 0, 0, 0), (21, .iconst 1, 1, 0, 0, 1), (22, .putfield 22, 3, 3, 168, 0), (25, .aload_n 0, 1, 0, 0, 0), (26, .iconst 0, 1, 0, 0, 0), (27, .putfield 25, 3, 4, 169, 0), (30, .aload_n 0, 1, 0, 0, 0), (31, .iconst (-1), 1, 0, 0, (-1)), (32, .putfield 28, 3, 5, 171, 0), (35, .aload_n 0, 1, 0, 0, 0), (36, .aload_n 1, 1, 0, 0, 0), (37, .putfield 31, 3, 0, 164, 0), (40, .return_, 1, 0, 0, 0)]
set_option maxRecDepth 20000 in
def kR5 : List kRow := [(0, .aload_n 0, 1, 0, 0, 0), (1, .invokespecial 3, 3, 100, 294, 0), (4, .aload_n 0, 1, 0, 0, 0), (5, .bipush 60, 2, 0, 0, 60), (7, .newarray .int, 2, 0, 0, 0), (9, .putfield 9, 3, 0, 295, 0), (12, .aload_n 0, 1, 0, 0, 0), (13, .bipush 60, 2, 0, 0, 60), (15, .newarray .int, 2, 0, 0, 0), (17, .putfield 15, 3, 1, 296, 0), (20, .aload_n 0, 1, 0, 0, 0), (21, .bipush 60, 2, 0, 0, 60), (23, .newarray .int, 2, 0, 0, 0), (25, .putfield 18, 3, 2, 297, 0), (28, .aload_n 0, 1, 0, 0, 0), (29, .bipush 60, 2, 0, 0, 60), (31, .newarray .boolean, 2, 0, 0, 0), (33, .putfield 21, 3, 3, 298, 0), (36, .return_, 1, 0, 0, 0)]
set_option maxRecDepth 20000 in
def kR6 : List kRow := [(0, .aload_n 0, 1, 0, 0, 0), (1, .invokespecial 3, 3, 100, 32, 0), (4, .aload_n 0, 1, 0, 0, 0), (5, .sipush 360, 3, 0, 0, 360), (8, .newarray .int, 2, 0, 0, 0), (10, .putfield 9, 3, 0, 33, 0), (13, .aload_n 0, 1, 0, 0, 0), (14, .sipush 360, 3, 0, 0, 360), (17, .newarray .int, 2, 0, 0, 0), (19, .putfield 15, 3, 1, 35, 0), (22, .aload_n 0, 1, 0, 0, 0), (23, .sipush 360, 3, 0, 0, 360), (26, .newarray .int, 2, 0, 0, 0), (28, .putfield 18, 3, 2, 37, 0), (31, .aload_n 0, 1, 0, 0, 0), (32, .bipush 6, 2, 0, 0, 6), (34, .putfield 21, 3, 3, 39, 0), (37, .aload_n 0, 1, 0, 0, 0), (38, .bipush 10, 2, 0, 0, 10), (40, .putfield 25, 3, 4, 41, 0), (43, .return_, 1, 0, 0, 0)]
set_option maxRecDepth 20000 in
def kR7 : List kRow := [(0, .aload_n 0, 1, 0, 0, 0), (1, .invokespecial 3, 3, 100, 101, 0), (4, .aload_n 0, 1, 0, 0, 0), (5, .sipush 800, 3, 0, 0, 800), (8, .newarray .int, 2, 0, 0, 0), (10, .putfield 9, 3, 0, 102, 0), (13, .aload_n 0, 1, 0, 0, 0), (14, .sipush 801, 3, 0, 0, 801), (17, .newarray .int, 2, 0, 0, 0), (19, .putfield 15, 3, 1, 103, 0), (22, .aload_n 0, 1, 0, 0, 0), (23, .sipush 801, 3, 0, 0, 801), (26, .newarray .int, 2, 0, 0, 0), (28, .putfield 18, 3, 2, 105, 0), (31, .aload_n 0, 1, 0, 0, 0), (32, .sipush 801, 3, 0, 0, 801), (35, .newarray .int, 2, 0, 0, 0), (37, .putfield 21, 3, 3, 107, 0), (40, .aload_n 0, 1, 0, 0, 0), (41, .iconst 0, 1, 0, 0, 0), (42, .putfield 24, 3, 4, 109, 0), (45, .return_, 1, 0, 0, 0)]
set_option maxRecDepth 20000 in
def kR8 : List kRow := [(0, .aload_n 0, 1, 0, 0, 0), (1, .invokespecial 3, 3, 100, 191, 0), (4, .aload_n 0, 1, 0, 0, 0), (5, .sipush 400, 3, 0, 0, 400), (8, .newarray .int, 2, 0, 0, 0), (10, .putfield 9, 3, 0, 192, 0), (13, .aload_n 0, 1, 0, 0, 0), (14, .sipush 400, 3, 0, 0, 400), (17, .newarray .int, 2, 0, 0, 0), (19, .putfield 15, 3, 1, 193, 0), (22, .aload_n 0, 1, 0, 0, 0), (23, .sipush 400, 3, 0, 0, 400), (26, .newarray .int, 2, 0, 0, 0), (28, .putfield 18, 3, 2, 194, 0), (31, .aload_n 0, 1, 0, 0, 0), (32, .sipush 400, 3, 0, 0, 400), (35, .newarray .int, 2, 0, 0, 0), (37, .putfield 21, 3, 3, 195, 0), (40, .aload_n 0, 1, 0, 0, 0), (41, .sipush 400, 3, 0, 0, 400), (44, .newarray .int, 2, 0, 0, 0), (46, .putfield 24, 3, 4, 196, 0), (49, .aload_n 0, 1, 0, 0, 0), (50, .sipush 400, 3, 0, 0, 400), (53, .newarray .int, 2, 0, 0, 0), (55, .putfield 27, 3, 5, 197, 0), (58, .aload_n 0, 1, 0, 0, 0), (59, .iconst 0, 1, 0, 0, 0), (60, .putfield 30, 3, 6, 198, 0), (63, .aload_n 0, 1, 0, 0, 0), (64, .iconst 0, 1, 0, 0, 0), (65, .putfield 34, 3, 7, 200, 0), (68, .return_, 1, 0, 0, 0)]
set_option maxRecDepth 20000 in
def kR9 : List kRow := [(0, .aload_n 0, 1, 0, 0, 0), (1, .invokespecial 3, 3, 100, 229, 0), (4, .aload_n 0, 1, 0, 0, 0), (5, .bipush 60, 2, 0, 0, 60), (7, .newarray .int, 2, 0, 0, 0), (9, .putfield 9, 3, 0, 230, 0), (12, .aload_n 0, 1, 0, 0, 0), (13, .bipush 10, 2, 0, 0, 10), (15, .newarray .int, 2, 0, 0, 0), (17, .putfield 15, 3, 1, 231, 0), (20, .aload_n 0, 1, 0, 0, 0), (21, .bipush 10, 2, 0, 0, 10), (23, .newarray .int, 2, 0, 0, 0), (25, .putfield 18, 3, 2, 232, 0), (28, .return_, 1, 0, 0, 0)]
set_option maxRecDepth 20000 in
def kR10 : List kRow := [(0, .aload_n 0, 1, 0, 0, 0), (1, .invokespecial 3, 3, 100, 24, 0), (4, .aload_n 0, 1, 0, 0, 0), (5, .new 9, 3, 6, 27, 0), (8, .dup, 1, 0, 0, 0), (9, .invokespecial 11, 3, 6, 29, 0), (12, .putfield 12, 3, 0, 329, 0), (15, .aload_n 0, 1, 0, 0, 0), (16, .new 16, 3, 2, 55, 0), (19, .dup, 1, 0, 0, 0), (20, .invokespecial 18, 3, 2, 57, 0), (23, .putfield 19, 3, 1, 330, 0), (26, .aload_n 0, 1, 0, 0, 0), (27, .new 23, 3, 7, 96, 0), (30, .dup, 1, 0, 0, 0), (31, .invokespecial 25, 3, 7, 98, 0), (34, .putfield 26, 3, 2, 331, 0), (37, .aload_n 0, 1, 0, 0, 0), (38, .new 30, 3, 3, 122, 0), (41, .dup, 1, 0, 0, 0), (42, .invokespecial 32, 3, 3, 124, 0), (45, .putfield 33, 3, 3, 332, 0), (48, .aload_n 0, 1, 0, 0, 0), (49, .new 37, 3, 4, 156, 0), (52, .dup, 1, 0, 0, 0), (53, .aload_n 0, 1, 0, 0, 0), (54, .getfield 26, 3, 2, 331, 0), (57, .invokespecial 39, 3, 4, 158, 0), (60, .putfield 42, 3, 4, 333, 0), (63, .aload_n 0, 1, 0, 0, 0), (64, .new 46, 3, 8, 186, 0), (67, .dup, 1, 0, 0, 0), (68, .invokespecial 48, 3, 8, 188, 0), (71, .putfield 49, 3, 5, 334, 0), (74, .aload_n 0, 1, 0, 0, 0), (75, .new 53, 3, 0, 218, 0), (78, .dup, 1, 0, 0, 0), (79, .invokespecial 55, 3, 0, 220, 0), (82, .putfield 56, 3, 6, 335, 0), (85, .aload_n 0, 1, 0, 0, 0), (86, .new 60, 3, 5, 289, 0), (89, .dup, 1, 0, 0, 0), (90, .invokespecial 62, 3, 5, 291, 0), (93, .putfield 63, 3, 7, 336, 0), (96, .aload_n 0, 1, 0, 0, 0), (97, .new 67, 3, 1, 308, 0), (100, .dup, 1, 0, 0, 0), (101, .invokespecial 69, 3, 1, 310, 0), (104, .putfield 70, 3, 8, 337, 0), (107, .aload_n 0, 1, 0, 0, 0), (108, .sipush 360, 3, 0, 0, 360), (111, .newarray .int, 2, 0, 0, 0), (113, .putfield 74, 3, 9, 338, 0), (116, .aload_n 0, 1, 0, 0, 0), (117, .sipush 360, 3, 0, 0, 360), (120, .newarray .int, 2, 0, 0, 0), (122, .putfield 78, 3, 10, 339, 0), (125, .aload_n 0, 1, 0, 0, 0), (126, .iconst 0, 1, 0, 0, 0), (127, .putfield 81, 3, 11, 340, 0), (130, .aload_n 0, 1, 0, 0, 0), (131, .lconst 0, 1, 0, 0, 0), (132, .putfield 85, 3, 12, 341, 0), (135, .aload_n 0, 1, 0, 0, 0), (136, .lconst 0, 1, 0, 0, 0), (137, .putfield 89, 3, 13, 342, 0), (140, .return_, 1, 0, 0, 0)]
set_option maxRecDepth 20000 in
def kR11 : List kRow := [(0, .aload_n 0, 1, 0, 0, 0), (1, .invokespecial 1, 3, 100, 996, 0), (4, .aload_n 0, 1, 0, 0, 0), (5, .bipush 60, 2, 0, 0, 60), (7, .newarray .int, 2, 0, 0, 0), (9, .putfield 7, 3, 1, 998, 0), (12, .aload_n 0, 1, 0, 0, 0), (13, .bipush 60, 2, 0, 0, 60), (15, .newarray .int, 2, 0, 0, 0), (17, .putfield 13, 3, 2, 999, 0), (20, .aload_n 0, 1, 0, 0, 0), (21, .bipush 60, 2, 0, 0, 60), (23, .newarray .int, 2, 0, 0, 0), (25, .putfield 16, 3, 3, 1000, 0), (28, .aload_n 0, 1, 0, 0, 0), (29, .bipush 120, 2, 0, 0, 120), (31, .newarray .int, 2, 0, 0, 0), (33, .putfield 19, 3, 4, 1001, 0), (36, .aload_n 0, 1, 0, 0, 0), (37, .bipush 120, 2, 0, 0, 120), (39, .newarray .int, 2, 0, 0, 0), (41, .putfield 22, 3, 5, 1002, 0), (44, .aload_n 0, 1, 0, 0, 0), (45, .bipush 120, 2, 0, 0, 120), (47, .newarray .int, 2, 0, 0, 0), (49, .putfield 25, 3, 6, 1003, 0), (52, .aload_n 0, 1, 0, 0, 0), (53, .bipush 120, 2, 0, 0, 120), (55, .newarray .int, 2, 0, 0, 0), (57, .putfield 28, 3, 7, 1004, 0), (60, .aload_n 0, 1, 0, 0, 0), (61, .bipush 120, 2, 0, 0, 120), (63, .newarray .int, 2, 0, 0, 0), (65, .putfield 31, 3, 8, 1005, 0), (68, .aload_n 0, 1, 0, 0, 0), (69, .sipush 360, 3, 0, 0, 360), (72, .newarray .int, 2, 0, 0, 0), (74, .putfield 34, 3, 9, 1006, 0), (77, .aload_n 0, 1, 0, 0, 0), (78, .sipush 360, 3, 0, 0, 360), (81, .newarray .int, 2, 0, 0, 0), (83, .putfield 37, 3, 10, 1007, 0), (86, .aload_n 0, 1, 0, 0, 0), (87, .sipush 360, 3, 0, 0, 360), (90, .newarray .int, 2, 0, 0, 0), (92, .putfield 40, 3, 11, 1008, 0), (95, .aload_n 0, 1, 0, 0, 0), (96, .sipush 360, 3, 0, 0, 360), (99, .newarray .int, 2, 0, 0, 0), (101, .putfield 43, 3, 12, 1009, 0), (104, .aload_n 0, 1, 0, 0, 0), (105, .bipush 6, 2, 0, 0, 6), (107, .putfield 46, 3, 13, 1010, 0), (110, .aload_n 0, 1, 0, 0, 0), (111, .bipush 10, 2, 0, 0, 10), (113, .putfield 50, 3, 14, 1011, 0), (116, .aload_n 0, 1, 0, 0, 0), (117, .sipush 800, 3, 0, 0, 800), (120, .newarray .int, 2, 0, 0, 0), (122, .putfield 53, 3, 19, 1016, 0), (125, .aload_n 0, 1, 0, 0, 0), (126, .bipush 78, 2, 0, 0, 78), (128, .newarray .int, 2, 0, 0, 0), (130, .dup, 1, 0, 0, 0), (131, .iconst 0, 1, 0, 0, 0), (132, .bipush 32, 2, 0, 0, 32), (134, .iastore, 1, 0, 0, 0), (135, .dup, 1, 0, 0, 0), (136, .iconst 1, 1, 0, 0, 1), (137, .bipush 102, 2, 0, 0, 102), (139, .iastore, 1, 0, 0, 0), (140, .dup, 1, 0, 0, 0), (141, .iconst 2, 1, 0, 0, 2), (142, .bipush 97, 2, 0, 0, 97), (144, .iastore, 1, 0, 0, 0), (145, .dup, 1, 0, 0, 0), (146, .iconst 3, 1, 0, 0, 3), (147, .bipush 108, 2, 0, 0, 108), (149, .iastore, 1, 0, 0, 0), (150, .dup, 1, 0, 0, 0), (151, .iconst 4, 1, 0, 0, 4), (152, .bipush 108, 2, 0, 0, 108), (154, .iastore, 1, 0, 0, 0), (155, .dup, 1, 0, 0, 0), (156, .iconst 5, 1, 0, 0, 5), (157, .bipush 32, 2, 0, 0, 32), (159, .iastore, 1, 0, 0, 0), (160, .dup, 1, 0, 0, 0), (161, .bipush 6, 2, 0, 0, 6), (163, .bipush 115, 2, 0, 0, 115), (165, .iastore, 1, 0, 0, 0), (166, .dup, 1, 0, 0, 0), (167, .bipush 7, 2, 0, 0, 7), (169, .bipush 110, 2, 0, 0, 110), (171, .iastore, 1, 0, 0, 0), (172, .dup, 1, 0, 0, 0), (173, .bipush 8, 2, 0, 0, 8), (175, .bipush 111, 2, 0, 0, 111), (177, .iastore, 1, 0, 0, 0), (178, .dup, 1, 0, 0, 0), (179, .bipush 9, 2, 0, 0, 9), (181, .bipush 119, 2, 0, 0, 119), (183, .iastore, 1, 0, 0, 0), (184, .dup, 1, 0, 0, 0), (185, .bipush 10, 2, 0, 0, 10), (187, .bipush 32, 2, 0, 0, 32), (189, .iastore, 1, 0, 0, 0), (190, .dup, 1, 0, 0, 0), (191, .bipush 11, 2, 0, 0, 11), (193, .bipush 105, 2, 0, 0, 105), (195, .iastore, 1, 0, 0, 0), (196, .dup, 1, 0, 0, 0), (197, .bipush 12, 2, 0, 0, 12), (199, .bipush 99, 2, 0, 0, 99), (201, .iastore, 1, 0, 0, 0), (202, .dup, 1, 0, 0, 0), (203, .bipush 13, 2, 0, 0, 13), (205, .bipush 101, 2, 0, 0, 101), (207, .iastore, 1, 0, 0, 0), (208, .dup, 1, 0, 0, 0), (209, .bipush 14, 2, 0, 0, 14), (211, .bipush 32, 2, 0, 0, 32), (213, .iastore, 1, 0, 0, 0), (214, .dup, 1, 0, 0, 0), (215, .bipush 15, 2, 0, 0, 15), (217, .bipush 119, 2, 0, 0, 119), (219, .iastore, 1, 0, 0, 0), (220, .dup, 1, 0, 0, 0), (221, .bipush 16, 2, 0, 0, 16), (223, .bipush 104, 2, 0, 0, 104), (225, .iastore, 1, 0, 0, 0), (226, .dup, 1, 0, 0, 0), (227, .bipush 17, 2, 0, 0, 17), (229, .bipush 101, 2, 0, 0, 101), (231, .iastore, 1, 0, 0, 0), (232, .dup, 1, 0, 0, 0), (233, .bipush 18, 2, 0, 0, 18), (235, .bipush 110, 2, 0, 0, 110), (237, .iastore, 1, 0, 0, 0), (238, .dup, 1, 0, 0, 0), (239, .bipush 19, 2, 0, 0, 19), (241, .bipush 32, 2, 0, 0, 32), (243, .iastore, 1, 0, 0, 0), (244, .dup, 1, 0, 0, 0), (245, .bipush 20, 2, 0, 0, 20), (247, .bipush 111, 2, 0, 0, 111), (249, .iastore, 1, 0, 0, 0), (250, .dup, 1, 0, 0, 0), (251, .bipush 21, 2, 0, 0, 21), (253, .bipush 114, 2, 0, 0, 114), (255, .iastore, 1, 0, 0, 0), (256, .dup, 1, 0, 0, 0), (257, .bipush 22, 2, 0, 0, 22), (259, .bipush 32, 2, 0, 0, 32), (261, .iastore, 1, 0, 0, 0), (262, .dup, 1, 0, 0, 0), (263, .bipush 23, 2, 0, 0, 23), (265, .bipush 97, 2, 0, 0, 97), (267, .iastore, 1, 0, 0, 0), (268, .dup, 1, 0, 0, 0), (269, .bipush 24, 2, 0, 0, 24), (271, .bipush 110, 2, 0, 0, 110), (273, .iastore, 1, 0, 0, 0), (274, .dup, 1, 0, 0, 0), (275, .bipush 25, 2, 0, 0, 25), (277, .bipush 100, 2, 0, 0, 100), (279, .iastore, 1, 0, 0, 0), (280, .dup, 1, 0, 0, 0), (281, .bipush 26, 2, 0, 0, 26), (283, .bipush 32, 2, 0, 0, 32), (285, .iastore, 1, 0, 0, 0), (286, .dup, 1, 0, 0, 0), (287, .bipush 27, 2, 0, 0, 27), (289, .bipush 110, 2, 0, 0, 110), (291, .iastore, 1, 0, 0, 0), (292, .dup, 1, 0, 0, 0), (293, .bipush 28, 2, 0, 0, 28), (295, .bipush 111, 2, 0, 0, 111), (297, .iastore, 1, 0, 0, 0), (298, .dup, 1, 0, 0, 0), (299, .bipush 29, 2, 0, 0, 29), (301, .bipush 116, 2, 0, 0, 116), (303, .iastore, 1, 0, 0, 0), (304, .dup, 1, 0, 0, 0), (305, .bipush 30, 2, 0, 0, 30), (307, .bipush 32, 2, 0, 0, 32), (309, .iastore, 1, 0, 0, 0), (310, .dup, 1, 0, 0, 0), (311, .bipush 31, 2, 0, 0, 31), (313, .bipush 119, 2, 0, 0, 119), (315, .iastore, 1, 0, 0, 0), (316, .dup, 1, 0, 0, 0), (317, .bipush 32, 2, 0, 0, 32), (319, .bipush 97, 2, 0, 0, 97), (321, .iastore, 1, 0, 0, 0), (322, .dup, 1, 0, 0, 0), (323, .bipush 33, 2, 0, 0, 33), (325, .bipush 114, 2, 0, 0, 114), (327, .iastore, 1, 0, 0, 0), (328, .dup, 1, 0, 0, 0), (329, .bipush 34, 2, 0, 0, 34), (331, .bipush 109, 2, 0, 0, 109), (333, .iastore, 1, 0, 0, 0), (334, .dup, 1, 0, 0, 0), (335, .bipush 35, 2, 0, 0, 35), (337, .bipush 32, 2, 0, 0, 32), (339, .iastore, 1, 0, 0, 0), (340, .dup, 1, 0, 0, 0), (341, .bipush 36, 2, 0, 0, 36), (343, .bipush 114, 2, 0, 0, 114), (345, .iastore, 1, 0, 0, 0), (346, .dup, 1, 0, 0, 0), (347, .bipush 37, 2, 0, 0, 37), (349, .bipush 97, 2, 0, 0, 97), (351, .iastore, 1, 0, 0, 0), (352, .dup, 1, 0, 0, 0), (353, .bipush 38, 2, 0, 0, 38), (355, .bipush 105, 2, 0, 0, 105), (357, .iastore, 1, 0, 0, 0), (358, .dup, 1, 0, 0, 0), (359, .bipush 39, 2, 0, 0, 39), (361, .bipush 110, 2, 0, 0, 110), (363, .iastore, 1, 0, 0, 0), (364, .dup, 1, 0, 0, 0), (365, .bipush 40, 2, 0, 0, 40), (367, .bipush 32, 2, 0, 0, 32), (369, .iastore, 1, 0, 0, 0), (370, .dup, 1, 0, 0, 0), (371, .bipush 41, 2, 0, 0, 41), (373, .bipush 100, 2, 0, 0, 100), (375, .iastore, 1, 0, 0, 0), (376, .dup, 1, 0, 0, 0), (377, .bipush 42, 2, 0, 0, 42), (379, .bipush 117, 2, 0, 0, 117), (381, .iastore, 1, 0, 0, 0), (382, .dup, 1, 0, 0, 0), (383, .bipush 43, 2, 0, 0, 43), (385, .bipush 115, 2, 0, 0, 115), (387, .iastore, 1, 0, 0, 0), (388, .dup, 1, 0, 0, 0), (389, .bipush 44, 2, 0, 0, 44), (391, .bipush 116, 2, 0, 0, 116), (393, .iastore, 1, 0, 0, 0), (394, .dup, 1, 0, 0, 0), (395, .bipush 45, 2, 0, 0, 45), (397, .bipush 32, 2, 0, 0, 32), (399, .iastore, 1, 0, 0, 0), (400, .dup, 1, 0, 0, 0), (401, .bipush 46, 2, 0, 0, 46), (403, .bipush 104, 2, 0, 0, 104), (405, .iastore, 1, 0, 0, 0), (406, .dup, 1, 0, 0, 0), (407, .bipush 47, 2, 0, 0, 47), (409, .bipush 101, 2, 0, 0, 101), (411, .iastore, 1, 0, 0, 0), (412, .dup, 1, 0, 0, 0), (413, .bipush 48, 2, 0, 0, 48), (415, .bipush 105, 2, 0, 0, 105), (417, .iastore, 1, 0, 0, 0), (418, .dup, 1, 0, 0, 0), (419, .bipush 49, 2, 0, 0, 49), (421, .bipush 103, 2, 0, 0, 103), (423, .iastore, 1, 0, 0, 0), (424, .dup, 1, 0, 0, 0), (425, .bipush 50, 2, 0, 0, 50), (427, .bipush 104, 2, 0, 0, 104), (429, .iastore, 1, 0, 0, 0), (430, .dup, 1, 0, 0, 0), (431, .bipush 51, 2, 0, 0, 51), (433, .bipush 116, 2, 0, 0, 116), (435, .iastore, 1, 0, 0, 0), (436, .dup, 1, 0, 0, 0), (437, .bipush 52, 2, 0, 0, 52), (439, .bipush 32, 2, 0, 0, 32), (441, .iastore, 1, 0, 0, 0), (442, .dup, 1, 0, 0, 0), (443, .bipush 53, 2, 0, 0, 53), (445, .bipush 115, 2, 0, 0, 115), (447, .iastore, 1, 0, 0, 0), (448, .dup, 1, 0, 0, 0), (449, .bipush 54, 2, 0, 0, 54), (451, .bipush 104, 2, 0, 0, 104), (453, .iastore, 1, 0, 0, 0), (454, .dup, 1, 0, 0, 0), (455, .bipush 55, 2, 0, 0, 55), (457, .bipush 97, 2, 0, 0, 97), (459, .iastore, 1, 0, 0, 0), (460, .dup, 1, 0, 0, 0), (461, .bipush 56, 2, 0, 0, 56), (463, .bipush 100, 2, 0, 0, 100), (465, .iastore, 1, 0, 0, 0), (466, .dup, 1, 0, 0, 0), (467, .bipush 57, 2, 0, 0, 57), (469, .bipush 101, 2, 0, 0, 101), (471, .iastore, 1, 0, 0, 0), (472, .dup, 1, 0, 0, 0), (473, .bipush 58, 2, 0, 0, 58), (475, .bipush 32, 2, 0, 0, 32), (477, .iastore, 1, 0, 0, 0), (478, .dup, 1, 0, 0, 0), (479, .bipush 59, 2, 0, 0, 59), (481, .bipush 100, 2, 0, 0, 100), (483, .iastore, 1, 0, 0, 0), (484, .dup, 1, 0, 0, 0), (485, .bipush 60, 2, 0, 0, 60), (487, .bipush 101, 2, 0, 0, 101), (489, .iastore, 1, 0, 0, 0), (490, .dup, 1, 0, 0, 0), (491, .bipush 61, 2, 0, 0, 61), (493, .bipush 98, 2, 0, 0, 98), (495, .iastore, 1, 0, 0, 0), (496, .dup, 1, 0, 0, 0), (497, .bipush 62, 2, 0, 0, 62), (499, .bipush 114, 2, 0, 0, 114), (501, .iastore, 1, 0, 0, 0), (502, .dup, 1, 0, 0, 0), (503, .bipush 63, 2, 0, 0, 63), (505, .bipush 105, 2, 0, 0, 105), (507, .iastore, 1, 0, 0, 0), (508, .dup, 1, 0, 0, 0), (509, .bipush 64, 2, 0, 0, 64), (511, .bipush 115, 2, 0, 0, 115), (513, .iastore, 1, 0, 0, 0), (514, .dup, 1, 0, 0, 0), (515, .bipush 65, 2, 0, 0, 65), (517, .bipush 32, 2, 0, 0, 32), (519, .iastore, 1, 0, 0, 0), (520, .dup, 1, 0, 0, 0), (521, .bipush 66, 2, 0, 0, 66), (523, .bipush 109, 2, 0, 0, 109), (525, .iastore, 1, 0, 0, 0), (526, .dup, 1, 0, 0, 0), (527, .bipush 67, 2, 0, 0, 67), (529, .bipush 111, 2, 0, 0, 111), (531, .iastore, 1, 0, 0, 0), (532, .dup, 1, 0, 0, 0), (533, .bipush 68, 2, 0, 0, 68), (535, .bipush 110, 2, 0, 0, 110), (537, .iastore, 1, 0, 0, 0), (538, .dup, 1, 0, 0, 0), (539, .bipush 69, 2, 0, 0, 69), (541, .bipush 116, 2, 0, 0, 116), (543, .iastore, 1, 0, 0, 0), (544, .dup, 1, 0, 0, 0), (545, .bipush 70, 2, 0, 0, 70), (547, .bipush 104, 2, 0, 0, 104), (549, .iastore, 1, 0, 0, 0), (550, .dup, 1, 0, 0, 0), (551, .bipush 71, 2, 0, 0, 71), (553, .bipush 32, 2, 0, 0, 32), (555, .iastore, 1, 0, 0, 0), (556, .dup, 1, 0, 0, 0), (557, .bipush 72, 2, 0, 0, 72), (559, .bipush 108, 2, 0, 0, 108), (561, .iastore, 1, 0, 0, 0), (562, .dup, 1, 0, 0, 0), (563, .bipush 73, 2, 0, 0, 73), (565, .bipush 121, 2, 0, 0, 121), (567, .iastore, 1, 0, 0, 0), (568, .dup, 1, 0, 0, 0), (569, .bipush 74, 2, 0, 0, 74), (571, .bipush 105, 2, 0, 0, 105), (573, .iastore, 1, 0, 0, 0), (574, .dup, 1, 0, 0, 0), (575, .bipush 75, 2, 0, 0, 75), (577, .bipush 110, 2, 0, 0, 110), (579, .iastore, 1, 0, 0, 0), (580, .dup, 1, 0, 0, 0), (581, .bipush 76, 2, 0, 0, 76), (583, .bipush 103, 2, 0, 0, 103), (585, .iastore, 1, 0, 0, 0), (586, .dup, 1, 0, 0, 0), (587, .bipush 77, 2, 0, 0, 77), (589, .bipush 32, 2, 0, 0, 32), (591, .iastore, 1, 0, 0, 0), (592, .putfield 56, 3, 25, 1022, 0), (595, .aload_n 0, 1, 0, 0, 0), (596, .bipush 24, 2, 0, 0, 24), (598, .newarray .int, 2, 0, 0, 0), (600, .putfield 59, 3, 26, 1023, 0), (603, .aload_n 0, 1, 0, 0, 0), (604, .bipush 24, 2, 0, 0, 24), (606, .newarray .int, 2, 0, 0, 0), (608, .putfield 62, 3, 27, 1024, 0), (611, .aload_n 0, 1, 0, 0, 0), (612, .bipush 24, 2, 0, 0, 24), (614, .newarray .int, 2, 0, 0, 0), (616, .putfield 65, 3, 28, 1025, 0), (619, .aload_n 0, 1, 0, 0, 0), (620, .bipush 24, 2, 0, 0, 24), (622, .newarray .int, 2, 0, 0, 0), (624, .putfield 68, 3, 29, 1026, 0), (627, .aload_n 0, 1, 0, 0, 0), (628, .sipush 1000, 3, 0, 0, 1000), (631, .newarray .int, 2, 0, 0, 0), (633, .putfield 71, 3, 30, 1027, 0), (636, .aload_n 0, 1, 0, 0, 0), (637, .sipush 1000, 3, 0, 0, 1000), (640, .newarray .int, 2, 0, 0, 0), (642, .putfield 74, 3, 31, 1028, 0), (645, .aload_n 0, 1, 0, 0, 0), (646, .bipush 24, 2, 0, 0, 24), (648, .newarray .int, 2, 0, 0, 0), (650, .putfield 77, 3, 33, 1030, 0), (653, .aload_n 0, 1, 0, 0, 0), (654, .bipush 24, 2, 0, 0, 24), (656, .newarray .int, 2, 0, 0, 0), (658, .putfield 80, 3, 34, 1031, 0), (661, .aload_n 0, 1, 0, 0, 0), (662, .bipush 24, 2, 0, 0, 24), (664, .newarray .int, 2, 0, 0, 0), (666, .putfield 83, 3, 35, 1032, 0), (669, .aload_n 0, 1, 0, 0, 0), (670, .bipush 24, 2, 0, 0, 24), (672, .newarray .int, 2, 0, 0, 0), (674, .putfield 86, 3, 36, 1033, 0), (677, .aload_n 0, 1, 0, 0, 0), (678, .sipush 1000, 3, 0, 0, 1000), (681, .newarray .int, 2, 0, 0, 0), (683, .putfield 89, 3, 37, 1034, 0), (686, .aload_n 0, 1, 0, 0, 0), (687, .sipush 1000, 3, 0, 0, 1000), (690, .newarray .int, 2, 0, 0, 0), (692, .putfield 92, 3, 38, 1035, 0), (695, .aload_n 0, 1, 0, 0, 0), (696, .bipush 40, 2, 0, 0, 40), (698, .newarray .int, 2, 0, 0, 0), (700, .putfield 95, 3, 42, 1039, 0), (703, .aload_n 0, 1, 0, 0, 0), (704, .iconst (-1), 1, 0, 0, (-1)), (705, .putfield 98, 3, 47, 1044, 0), (708, .aload_n 0, 1, 0, 0, 0), (709, .bipush 120, 2, 0, 0, 120), (711, .newarray .int, 2, 0, 0, 0), (713, .putfield 101, 3, 48, 1045, 0), (716, .aload_n 0, 1, 0, 0, 0), (717, .bipush 8, 2, 0, 0, 8), (719, .newarray .int, 2, 0, 0, 0), (721, .putfield 104, 3, 49, 1046, 0), (724, .aload_n 0, 1, 0, 0, 0), (725, .bipush 60, 2, 0, 0, 60), (727, .newarray .int, 2, 0, 0, 0), (729, .putfield 107, 3, 51, 1048, 0), (732, .aload_n 0, 1, 0, 0, 0), (733, .bipush 12, 2, 0, 0, 12), (735, .newarray .int, 2, 0, 0, 0), (737, .putfield 110, 3, 53, 1050, 0), (740, .aload_n 0, 1, 0, 0, 0), (741, .sipush 400, 3, 0, 0, 400), (744, .newarray .int, 2, 0, 0, 0), (746, .putfield 113, 3, 55, 1052, 0), (749, .aload_n 0, 1, 0, 0, 0), (750, .sipush 400, 3, 0, 0, 400), (753, .newarray .int, 2, 0, 0, 0), (755, .putfield 116, 3, 56, 1053, 0), (758, .aload_n 0, 1, 0, 0, 0), (759, .sipush 400, 3, 0, 0, 400), (762, .newarray .int, 2, 0, 0, 0), (764, .putfield 119, 3, 57, 1054, 0), (767, .aload_n 0, 1, 0, 0, 0), (768, .sipush 400, 3, 0, 0, 400), (771, .newarray .int, 2, 0, 0, 0), (773, .putfield 122, 3, 58, 1055, 0), (776, .aload_n 0, 1, 0, 0, 0), (777, .sipush 400, 3, 0, 0, 400), (780, .newarray .int, 2, 0, 0, 0), (782, .putfield 125, 3, 59, 1056, 0), (785, .aload_n 0, 1, 0, 0, 0), (786, .sipush 400, 3, 0, 0, 400), (789, .newarray .int, 2, 0, 0, 0), (791, .putfield 128, 3, 60, 1057, 0), (794, .aload_n 0, 1, 0, 0, 0), (795, .bipush 10, 2, 0, 0, 10), (797, .newarray .int, 2, 0, 0, 0), (799, .putfield 131, 3, 65, 1062, 0), (802, .aload_n 0, 1, 0, 0, 0), (803, .bipush 10, 2, 0, 0, 10), (805, .newarray .int, 2, 0, 0, 0), (807, .putfield 134, 3, 66, 1063, 0), (810, .aload_n 0, 1, 0, 0, 0), (811, .bipush 10, 2, 0, 0, 10), (813, .newarray .int, 2, 0, 0, 0), (815, .putfield 137, 3, 67, 1064, 0), (818, .aload_n 0, 1, 0, 0, 0), (819, .bipush 10, 2, 0, 0, 10), (821, .newarray .int, 2, 0, 0, 0), (823, .putfield 140, 3, 68, 1065, 0), (826, .aload_n 0, 1, 0, 0, 0), (827, .bipush 60, 2, 0, 0, 60), (829, .newarray .int, 2, 0, 0, 0), (831, .putfield 143, 3, 70, 1067, 0), (834, .return_, 1, 0, 0, 0)]
def kR (c : Nat) : List kRow := match c with
  | 0 => kR0
  | 1 => kR1
  | 2 => kR2
  | 3 => kR3
  | 4 => kR4
  | 5 => kR5
  | 6 => kR6
  | 7 => kR7
  | 8 => kR8
  | 9 => kR9
  | 10 => kR10
  | _ => kR11
def kB (c : Nat) : ByteArray := match c with
  | 0 => prog_2_method_1_code
  | 1 => prog_3_method_1_code
  | 2 => prog_4_method_1_code
  | 3 => prog_5_method_1_code
  | 4 => prog_6_method_1_code
  | 5 => prog_7_method_1_code
  | 6 => prog_8_method_1_code
  | 7 => prog_9_method_1_code
  | 8 => prog_10_method_1_code
  | 9 => prog_11_method_1_code
  | 10 => prog_1_method_1_code
  | _ => prog_13_method_1_code
def kML (c : Nat) : Nat := match c with
  | 0 => 1
  | 1 => 1
  | 2 => 1
  | 3 => 1
  | 4 => 2
  | 5 => 1
  | 6 => 1
  | 7 => 1
  | 8 => 1
  | 9 => 1
  | 10 => 1
  | _ => 1
def kN (c : Nat) : MethodName := ⟨amOwn c, "<init>", if c = 4 then "(LIceHouse$Tape;)V" else "()V"⟩
def kCp : List (Nat × Nat × Nat × Nat) := [(222, 8, 221, 219), (312, 11, 311, 309), (59, 3, 58, 56), (126, 5, 125, 123), (160, 6, 159, 157), (293, 10, 292, 290), (31, 2, 30, 28), (100, 4, 99, 97), (190, 7, 189, 187), (228, 9, 227, 225), (23, 1, 22, 20), (995, 12, 994, 992)]
def kNl : List (Nat × Nat × Nat) := [(0, 36, 9), (0, 36, 9), (1, 11, 2), (4, 11, 3), (10, 11, 6), (10, 18, 2), (10, 25, 7), (10, 32, 3), (10, 39, 4), (10, 48, 8), (10, 55, 0), (10, 62, 5), (10, 69, 1)]
def kNA : List Cond := kNl.map (fun q => .methodLinkNest (amOwn q.1) q.2.1 (kN q.2.2) "IceHouse")
/-- the word that a row links by -/
def kLw (c : Nat) (r : kRow) : Option Cond := match r.2.1 with
  | .putfield i => some (.fieldLink (amOwn c) i (amOwn c) (amT c r.2.2.2.1).2.1 (amT c r.2.2.2.1).2.2.1)
  | .getfield i => some (.fieldLink (amOwn c) i (amOwn c) (amT c r.2.2.2.1).2.1 (amT c r.2.2.2.1).2.2.1)
  | .new i => some (.classLink (amOwn c) i (amOwn r.2.2.2.1))
  | .invokespecial i => if r.2.2.2.1 = 100 then some (.methodLink (amOwn c) i Lib.objectInit) else none
  | _ => none
def kIm (r : kRow) : Bool := match r.2.1 with
  | .iconst n => decide (Int32.ofInt n = r.2.2.2.2.2) && decide (r.2.2.1 = 1)
  | .bipush n => decide ((Int8.ofInt n).toInt32 = r.2.2.2.2.2) && decide (r.2.2.1 = 2)
  | .sipush n => decide ((Int16.ofInt n).toInt32 = r.2.2.2.2.2) && decide (r.2.2.1 = 3)
  | .aload_n _ | .lconst _ | .dup | .iastore | .return_ => decide (r.2.2.1 = 1)
  | .newarray _ => decide (r.2.2.1 = 2)
  | .putfield _ | .getfield _ | .invokespecial _ => decide (r.2.2.1 = 3)
  | .new _ => decide (r.2.2.1 = 3) && decide (r.2.2.2.1 < 12)
  | _ => false
def kCh (c : Nat) (r : kRow) : Bool := decide (decode (kB c) r.1 = .ok (r.2.1, r.2.2.1)) && kIm r && (match kLw c r with
  | some w => decide (tables_1[r.2.2.2.2.1]? = some w) && goodWord w
  | none => true) && (match r.2.1 with
  | .invokespecial i => decide (r.2.2.2.1 = 100) || decide ((c, i, r.2.2.2.1) ∈ kNl)
  | _ => true)
set_option maxRecDepth 100000 in
theorem kCh0_0 : ((kR0.drop (30 * 0)).take 30).all (kCh 0) = true := by decide +kernel
set_option maxRecDepth 100000 in
theorem kCh0_1 : ((kR0.drop (30 * 1)).take 30).all (kCh 0) = true := by decide +kernel
set_option maxRecDepth 100000 in
theorem kCh0_2 : ((kR0.drop (30 * 2)).take 30).all (kCh 0) = true := by decide +kernel
theorem kCh0_a : ∀ i, i < 3 → ((kR0.drop (30 * i)).take 30).all (kCh 0) = true
  | 0, _ => kCh0_0
  | 1, _ => kCh0_1
  | 2, _ => kCh0_2
  | i + 3, h => absurd h (by omega)
theorem kCh0 : kR0.all (kCh 0) = true := chunk_all (kCh 0) 30 3 kR0 kCh0_a (by decide +kernel)
set_option maxRecDepth 100000 in
theorem kCh1 : kR1.all (kCh 1) = true := by decide +kernel
set_option maxRecDepth 100000 in
theorem kCh2 : kR2.all (kCh 2) = true := by decide +kernel
set_option maxRecDepth 100000 in
theorem kCh3 : kR3.all (kCh 3) = true := by decide +kernel
set_option maxRecDepth 100000 in
theorem kCh4 : kR4.all (kCh 4) = true := by decide +kernel
set_option maxRecDepth 100000 in
theorem kCh5 : kR5.all (kCh 5) = true := by decide +kernel
set_option maxRecDepth 100000 in
theorem kCh6 : kR6.all (kCh 6) = true := by decide +kernel
set_option maxRecDepth 100000 in
theorem kCh7 : kR7.all (kCh 7) = true := by decide +kernel
set_option maxRecDepth 100000 in
theorem kCh8 : kR8.all (kCh 8) = true := by decide +kernel
set_option maxRecDepth 100000 in
theorem kCh9 : kR9.all (kCh 9) = true := by decide +kernel
set_option maxRecDepth 100000 in
theorem kCh10_0 : ((kR10.drop (30 * 0)).take 30).all (kCh 10) = true := by decide +kernel
set_option maxRecDepth 100000 in
theorem kCh10_1 : ((kR10.drop (30 * 1)).take 30).all (kCh 10) = true := by decide +kernel
set_option maxRecDepth 100000 in
theorem kCh10_2 : ((kR10.drop (30 * 2)).take 30).all (kCh 10) = true := by decide +kernel
theorem kCh10_a : ∀ i, i < 3 → ((kR10.drop (30 * i)).take 30).all (kCh 10) = true
  | 0, _ => kCh10_0
  | 1, _ => kCh10_1
  | 2, _ => kCh10_2
  | i + 3, h => absurd h (by omega)
theorem kCh10 : kR10.all (kCh 10) = true := chunk_all (kCh 10) 30 3 kR10 kCh10_a (by decide +kernel)
set_option maxRecDepth 100000 in
theorem kCh11_0 : ((kR11.drop (30 * 0)).take 30).all (kCh 11) = true := by decide +kernel
set_option maxRecDepth 100000 in
theorem kCh11_1 : ((kR11.drop (30 * 1)).take 30).all (kCh 11) = true := by decide +kernel
set_option maxRecDepth 100000 in
theorem kCh11_2 : ((kR11.drop (30 * 2)).take 30).all (kCh 11) = true := by decide +kernel
set_option maxRecDepth 100000 in
theorem kCh11_3 : ((kR11.drop (30 * 3)).take 30).all (kCh 11) = true := by decide +kernel
set_option maxRecDepth 100000 in
theorem kCh11_4 : ((kR11.drop (30 * 4)).take 30).all (kCh 11) = true := by decide +kernel
set_option maxRecDepth 100000 in
theorem kCh11_5 : ((kR11.drop (30 * 5)).take 30).all (kCh 11) = true := by decide +kernel
set_option maxRecDepth 100000 in
theorem kCh11_6 : ((kR11.drop (30 * 6)).take 30).all (kCh 11) = true := by decide +kernel
set_option maxRecDepth 100000 in
theorem kCh11_7 : ((kR11.drop (30 * 7)).take 30).all (kCh 11) = true := by decide +kernel
set_option maxRecDepth 100000 in
theorem kCh11_8 : ((kR11.drop (30 * 8)).take 30).all (kCh 11) = true := by decide +kernel
set_option maxRecDepth 100000 in
theorem kCh11_9 : ((kR11.drop (30 * 9)).take 30).all (kCh 11) = true := by decide +kernel
set_option maxRecDepth 100000 in
theorem kCh11_10 : ((kR11.drop (30 * 10)).take 30).all (kCh 11) = true := by decide +kernel
set_option maxRecDepth 100000 in
theorem kCh11_11 : ((kR11.drop (30 * 11)).take 30).all (kCh 11) = true := by decide +kernel
set_option maxRecDepth 100000 in
theorem kCh11_12 : ((kR11.drop (30 * 12)).take 30).all (kCh 11) = true := by decide +kernel
set_option maxRecDepth 100000 in
theorem kCh11_13 : ((kR11.drop (30 * 13)).take 30).all (kCh 11) = true := by decide +kernel
set_option maxRecDepth 100000 in
theorem kCh11_14 : ((kR11.drop (30 * 14)).take 30).all (kCh 11) = true := by decide +kernel
set_option maxRecDepth 100000 in
theorem kCh11_15 : ((kR11.drop (30 * 15)).take 30).all (kCh 11) = true := by decide +kernel
set_option maxRecDepth 100000 in
theorem kCh11_16 : ((kR11.drop (30 * 16)).take 30).all (kCh 11) = true := by decide +kernel
theorem kCh11_a : ∀ i, i < 17 → ((kR11.drop (30 * i)).take 30).all (kCh 11) = true
  | 0, _ => kCh11_0
  | 1, _ => kCh11_1
  | 2, _ => kCh11_2
  | 3, _ => kCh11_3
  | 4, _ => kCh11_4
  | 5, _ => kCh11_5
  | 6, _ => kCh11_6
  | 7, _ => kCh11_7
  | 8, _ => kCh11_8
  | 9, _ => kCh11_9
  | 10, _ => kCh11_10
  | 11, _ => kCh11_11
  | 12, _ => kCh11_12
  | 13, _ => kCh11_13
  | 14, _ => kCh11_14
  | 15, _ => kCh11_15
  | 16, _ => kCh11_16
  | i + 17, h => absurd h (by omega)
theorem kCh11 : kR11.all (kCh 11) = true := chunk_all (kCh 11) 30 17 kR11 kCh11_a (by decide +kernel)
theorem kCh_all : ∀ c, c < 12 → (kR c).all (kCh c) = true
  | 0, _ => kCh0
  | 1, _ => kCh1
  | 2, _ => kCh2
  | 3, _ => kCh3
  | 4, _ => kCh4
  | 5, _ => kCh5
  | 6, _ => kCh6
  | 7, _ => kCh7
  | 8, _ => kCh8
  | 9, _ => kCh9
  | 10, _ => kCh10
  | 11, _ => kCh11
  | c + 12, h => absurd h (by omega)

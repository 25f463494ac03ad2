/-! THE TABLE (X5, X6, X7, X9): blocks of the methods as the class file has them, written by wip/p31/gentab.py. -/
def pX5 : xPool := [(0, 9, [5, 3, 2, 2]), (0, 15, [5, 4, 2, 2]), (0, 18, [5, 0, 0, 0]), (0, 22, [5, 1, 0, 0]), (0, 25, [5, 2, 0, 0]), (0, 9, [5, 3, 2, 0]), (0, 15, [5, 4, 2, 0]), (2, 34, [1, 67, 2, 0, 0, 0, 6]), (2, 38, [1, 68, 2, 0, 0, 0, 6]), (2, 41, [1, 69, 3, 9, 0, 0, 6]), (2, 45, [0, 71, 3, 0, 0, 0, 0])]
def bX5_init : xBl := [
  (0, [0], [(0, .aload_n 0, []), (1, .invokespecial 3, [0]), (4, .aload_n 0, []), (5, .bipush 8, []), (7, .newarray .int, [0]), (9, .putfield 9, [5, 3, 2, 2]), (12, .aload_n 0, []), (13, .bipush 8, []), (15, .newarray .int, [0]), (17, .putfield 15, [5, 4, 2, 2]), (20, .return_, [])], 21)]
def rX5_init : xRow := ((yX5_init, cX5_init, 1, none, 2, 16), bX5_init, pX5)
def bX5_reset : xBl := [
  (0, [0, 1], [(0, .aload_n 0, []), (1, .iload_n 1, []), (2, .putfield 18, [5, 0, 0, 0]), (5, .aload_n 0, []), (6, .iconst 0, []), (7, .putfield 22, [5, 1, 0, 0]), (10, .aload_n 0, []), (11, .iconst 0, []), (12, .putfield 25, [5, 2, 0, 0]), (15, .iconst 0, []), (16, .istore_n 2, [])], 17),
  (17, [0, 2], [(17, .iload_n 2, []), (18, .aload_n 0, []), (19, .getfield 9, [5, 3, 2, 0]), (22, .arraylength, []), (23, .if_icmp .ge 23, [46]), (26, .aload_n 0, []), (27, .getfield 9, [5, 3, 2, 0]), (30, .iload_n 2, []), (31, .iload_n 2, []), (32, .iastore, []), (33, .aload_n 0, []), (34, .getfield 15, [5, 4, 2, 0]), (37, .iload_n 2, []), (38, .iconst 0, []), (39, .iastore, []), (40, .iinc 2 1, []), (43, .goto (-26), [17])], 46),
  (46, [], [(46, .return_, [])], 47)]
def rX5_reset : xRow := ((yX5_reset, cX5_reset, 3, none, 0, 0), bX5_reset, pX5)
def bX5_copyFrom : xBl := [
  (0, [0, 1], [(0, .aload_n 0, []), (1, .aload_n 1, []), (2, .getfield 18, [5, 0, 0, 0]), (5, .putfield 18, [5, 0, 0, 0]), (8, .aload_n 0, []), (9, .aload_n 1, []), (10, .getfield 22, [5, 1, 0, 0]), (13, .putfield 22, [5, 1, 0, 0]), (16, .aload_n 0, []), (17, .aload_n 1, []), (18, .getfield 25, [5, 2, 0, 0]), (21, .putfield 25, [5, 2, 0, 0]), (24, .aload_n 1, []), (25, .getfield 9, [5, 3, 2, 0]), (28, .iconst 0, []), (29, .aload_n 0, []), (30, .getfield 9, [5, 3, 2, 0]), (33, .iconst 0, []), (34, .bipush 8, []), (36, .invokestatic 28, [0, 6]), (39, .aload_n 1, []), (40, .getfield 15, [5, 4, 2, 0]), (43, .iconst 0, []), (44, .aload_n 0, []), (45, .getfield 15, [5, 4, 2, 0]), (48, .iconst 0, []), (49, .bipush 8, []), (51, .invokestatic 28, [0, 6]), (54, .return_, [])], 55)]
def rX5_copyFrom : xRow := ((yX5_copyFrom, cX5_copyFrom, 2, none, 0, 0), bX5_copyFrom, pX5)
def bX5_hasPlace : xBl := [
  (0, [0, 1], [(0, .iload_n 1, []), (1, .ifCond .lt 15, [16]), (4, .iload_n 1, []), (5, .aload_n 0, []), (6, .getfield 18, [5, 0, 0, 0]), (9, .if_icmp .ge 7, [16]), (12, .iconst 1, []), (13, .goto 4, [17])], 16),
  (16, [], [(16, .iconst 0, [])], 17),
  (17, [], [(17, .ireturn, [5])], 18)]
def rX5_hasPlace : xRow := ((yX5_hasPlace, cX5_hasPlace, 2, (some .boolean), 0, 0), bX5_hasPlace, pX5)
def bX5_isScratched : xBl := [
  (0, [0, 1], [(0, .aload_n 0, []), (1, .iload_n 1, []), (2, .invokevirtual 34, [1, 67, 2, 0, 0, 0, 6]), (5, .ifCond .eq 19, [24]), (8, .aload_n 0, []), (9, .getfield 25, [5, 2, 0, 0]), (12, .iload_n 1, []), (13, .ishr, []), (14, .iconst 1, []), (15, .iand, []), (16, .iconst 1, []), (17, .if_icmp .ne 7, [24]), (20, .iconst 1, []), (21, .goto 4, [25])], 24),
  (24, [], [(24, .iconst 0, [])], 25),
  (25, [], [(25, .ireturn, [5])], 26)]
def rX5_isScratched : xRow := ((yX5_isScratched, cX5_isScratched, 2, (some .boolean), 0, 0), bX5_isScratched, pX5)
def bX5_setScratched : xBl := [
  (0, [0, 1, 2], [(0, .aload_n 0, []), (1, .iload_n 1, []), (2, .invokevirtual 34, [1, 67, 2, 0, 0, 0, 6]), (5, .ifCond .eq 32, [37]), (8, .aload_n 0, []), (9, .iload_n 2, []), (10, .ifCond .eq 14, [24]), (13, .aload_n 0, []), (14, .getfield 25, [5, 2, 0, 0]), (17, .iconst 1, []), (18, .iload_n 1, []), (19, .ishl, []), (20, .ior, []), (21, .goto 13, [34])], 24),
  (24, [0, 1], [(24, .aload_n 0, []), (25, .getfield 25, [5, 2, 0, 0]), (28, .iconst 1, []), (29, .iload_n 1, []), (30, .ishl, []), (31, .iconst (-1), []), (32, .ixor, []), (33, .iand, [])], 34),
  (34, [], [(34, .putfield 25, [5, 2, 0, 0])], 37),
  (37, [], [(37, .return_, [])], 38)]
def rX5_setScratched : xRow := ((yX5_setScratched, cX5_setScratched, 3, none, 0, 0), bX5_setScratched, pX5)
def bX5_exchange : xBl := [
  (0, [0, 1, 2], [(0, .aload_n 0, []), (1, .getfield 9, [5, 3, 2, 0]), (4, .iload_n 1, []), (5, .iaload, []), (6, .istore_n 3, []), (7, .aload_n 0, []), (8, .getfield 9, [5, 3, 2, 0]), (11, .iload_n 1, []), (12, .aload_n 0, []), (13, .getfield 9, [5, 3, 2, 0]), (16, .iload_n 2, []), (17, .iaload, []), (18, .iastore, []), (19, .aload_n 0, []), (20, .getfield 9, [5, 3, 2, 0]), (23, .iload_n 2, []), (24, .iload_n 3, []), (25, .iastore, []), (26, .aload_n 0, []), (27, .getfield 15, [5, 4, 2, 0]), (30, .iload_n 1, []), (31, .iaload, []), (32, .istore 4, []), (34, .aload_n 0, []), (35, .getfield 15, [5, 4, 2, 0]), (38, .iload_n 1, []), (39, .aload_n 0, []), (40, .getfield 15, [5, 4, 2, 0]), (43, .iload_n 2, []), (44, .iaload, []), (45, .iconst 1, []), (46, .iadd, []), (47, .iastore, []), (48, .aload_n 0, []), (49, .getfield 15, [5, 4, 2, 0]), (52, .iload_n 2, []), (53, .iload 4, []), (55, .iconst 1, []), (56, .iadd, []), (57, .iastore, []), (58, .aload_n 0, []), (59, .iload_n 1, []), (60, .invokevirtual 38, [1, 68, 2, 0, 0, 0, 6]), (63, .istore 5, []), (65, .aload_n 0, []), (66, .iload_n 1, []), (67, .aload_n 0, []), (68, .iload_n 2, []), (69, .invokevirtual 38, [1, 68, 2, 0, 0, 0, 6]), (72, .invokevirtual 41, [1, 69, 3, 9, 0, 0, 6]), (75, .aload_n 0, []), (76, .iload_n 2, []), (77, .iload 5, []), (79, .invokevirtual 41, [1, 69, 3, 9, 0, 0, 6]), (82, .aload_n 0, []), (83, .aload_n 0, []), (84, .getfield 22, [5, 1, 0, 0]), (87, .iload_n 1, []), (88, .iload_n 2, []), (89, .invokestatic 45, [0, 71, 3, 0, 0, 0, 0]), (92, .putfield 22, [5, 1, 0, 0]), (95, .return_, [])], 96)]
def rX5_exchange : xRow := ((yX5_exchange, cX5_exchange, 6, none, 0, 0), bX5_exchange, pX5)
def bX5_placeBehind : xBl := [
  (0, [0, 1, 2], [(0, .iload_n 0, []), (1, .iload_n 1, []), (2, .if_icmp .ne 5, [7]), (5, .iload_n 2, []), (6, .ireturn, [0])], 7),
  (7, [0, 1, 2], [(7, .iload_n 0, []), (8, .iload_n 2, []), (9, .if_icmp .ne 7, [16]), (12, .iload_n 1, []), (13, .goto 4, [17])], 16),
  (16, [0], [(16, .iload_n 0, [])], 17),
  (17, [], [(17, .ireturn, [0])], 18)]
def rX5_placeBehind : xRow := ((yX5_placeBehind, cX5_placeBehind, 3, (some .int), 0, 0), bX5_placeBehind, pX5)
def pX6 : xPool := [(4, 11, [4]), (0, 13, [6, 0, 2, 2]), (0, 17, [6, 1, 2, 2]), (0, 21, [6, 2, 2, 2]), (0, 24, [6, 3, 2, 2])]
def bX6_init : xBl := [
  (0, [0], [(0, .aload_n 0, []), (1, .invokespecial 3, [0]), (4, .aload_n 0, []), (5, .bipush 60, []), (7, .anewarray 11, [4]), (10, .putfield 13, [6, 0, 2, 2]), (13, .aload_n 0, []), (14, .bipush 60, []), (16, .newarray .int, [0]), (18, .putfield 17, [6, 1, 2, 2]), (21, .aload_n 0, []), (22, .bipush 60, []), (24, .newarray .int, [0]), (26, .putfield 21, [6, 2, 2, 2]), (29, .aload_n 0, []), (30, .bipush 60, []), (32, .newarray .int, [0]), (34, .putfield 24, [6, 3, 2, 2]), (37, .return_, [])], 38)]
def rX6_init : xRow := ((yX6_init, cX6_init, 1, none, 4, 240), bX6_init, pX6)
def pX7 : xPool := [(1, 9, [0, 10]), (2, 15, [1, 42, 2, 0, 0, 0, 4]), (2, 21, [1, 43, 3, 0, 0, 0, 4]), (1, 25, [0, 3]), (2, 28, [1, 18, 2, 9, 0, 0, 3]), (1, 34, [0, 0]), (2, 37, [1, 40, 2, 0, 0, 0, 4]), (2, 40, [1, 38, 1, 2, 0, 0, 4]), (2, 44, [0, 74, 1, 0, 0, 0, 0]), (2, 50, [1, 44, 2, 0, 0, 0, 4]), (2, 54, [0, 75, 2, 0, 0, 0, 0]), (1, 58, [0, 14]), (1, 61, [0, 16]), (1, 64, [0, 17]), (1, 67, [0, 18]), (1, 70, [0, 19]), (1, 73, [0, 21]), (1, 76, [0, 15]), (0, 79, [2, 0, 2, 1]), (2, 83, [0, 76, 2, 0, 0, 0, 0]), (1, 87, [0, 20]), (0, 90, [2, 2, 2, 1]), (2, 94, [0, 78, 2, 0, 0, 0, 0]), (2, 98, [1, 41, 1, 9, 0, 0, 4]), (0, 101, [2, 3, 2, 1]), (2, 105, [1, 9, 1, 9, 0, 0, 2]), (2, 110, [3, 13, 3, 0, 0, 0, 2]), (2, 114, [0, 79, 2, 0, 0, 0, 0]), (2, 117, [0, 77, 2, 0, 0, 0, 0]), (1, 120, [0, 1]), (2, 123, [1, 39, 1, 0, 0, 0, 4]), (2, 127, [1, 68, 2, 0, 0, 0, 6]), (0, 132, [5, 0, 0, 1]), (2, 136, [1, 69, 3, 9, 0, 0, 6]), (2, 140, [1, 5, 1, 0, 0, 0, 1]), (2, 146, [1, 6, 3, 9, 0, 0, 1]), (2, 150, [0, 80, 2, 0, 0, 0, 0]), (2, 154, [0, 81, 3, 9, 0, 0, 0]), (0, 158, [5, 1, 0, 1]), (0, 161, [2, 1, 2, 1]), (2, 165, [1, 48, 2, 9, 0, 0, 5]), (0, 170, [4, 2, 0, 1]), (0, 173, [4, 3, 0, 1]), (0, 176, [4, 4, 0, 1]), (0, 179, [2, 6, 0, 1])]
def bX7_read : xBl := [
  (0, [0, 1], [(0, .aload_n 0, []), (1, .getstatic 9, [0, 10]), (4, .invokevirtual 15, [1, 42, 2, 0, 0, 0, 4]), (7, .ifCond .ne 5, [12]), (10, .iconst 0, []), (11, .ireturn, [5])], 12),
  (12, [0, 1], [(12, .aload_n 0, []), (13, .iconst 2, []), (14, .bipush 8, []), (16, .invokevirtual 21, [1, 43, 3, 0, 0, 0, 4]), (19, .istore_n 2, []), (20, .iload_n 2, []), (21, .ifCond .lt 13, [34]), (24, .aload_n 0, []), (25, .getstatic 25, [0, 3]), (28, .invokevirtual 15, [1, 42, 2, 0, 0, 0, 4]), (31, .ifCond .ne 5, [36])], 34),
  (34, [], [(34, .iconst 0, []), (35, .ireturn, [5])], 36),
  (36, [0, 1, 2], [(36, .aload_n 1, []), (37, .iload_n 2, []), (38, .invokevirtual 28, [1, 18, 2, 9, 0, 0, 3]), (41, .iconst 0, []), (42, .istore_n 3, []), (43, .iconst 0, []), (44, .istore 4, [])], 46),
  (46, [0, 1, 3, 4], [(46, .iload 4, []), (48, .sipush 500, []), (51, .if_icmp .ge 67, [118]), (54, .aload_n 0, []), (55, .getstatic 34, [0, 0]), (58, .invokevirtual 37, [1, 40, 2, 0, 0, 0, 4]), (61, .ifCond .ne 57, [118]), (64, .aload_n 0, []), (65, .invokevirtual 40, [1, 38, 1, 2, 0, 0, 4]), (68, .invokestatic 44, [0, 74, 1, 0, 0, 0, 0]), (71, .istore 5, []), (73, .iload_n 3, []), (74, .iload 5, []), (76, .iand, []), (77, .ifCond .eq 10, [87]), (80, .aload_n 0, []), (81, .bipush (-2), []), (83, .invokevirtual 50, [1, 44, 2, 0, 0, 0, 4]), (86, .ireturn, [5])], 87),
  (87, [0, 1, 3, 4, 5], [(87, .iload_n 3, []), (88, .iload 5, []), (90, .ior, []), (91, .istore_n 3, []), (92, .aload_n 0, []), (93, .aload_n 1, []), (94, .invokestatic 54, [0, 75, 2, 0, 0, 0, 0]), (97, .ifCond .eq 13, [110]), (100, .aload_n 0, []), (101, .getstatic 25, [0, 3]), (104, .invokevirtual 15, [1, 42, 2, 0, 0, 0, 4]), (107, .ifCond .ne 5, [112])], 110),
  (110, [], [(110, .iconst 0, []), (111, .ireturn, [5])], 112),
  (112, [0, 1, 3, 4], [(112, .iinc 4 1, []), (115, .goto (-69), [46])], 118),
  (118, [], [(118, .iconst 1, []), (119, .ireturn, [5])], 120)]
def rX7_read : xRow := ((yX7_read, cX7_read, 6, (some .boolean), 0, 0), bX7_read, pX7)
def bX7_bitOfSingle : xBl := [
  (0, [0], [(0, .aload_n 0, []), (1, .getstatic 58, [0, 14]), (4, .if_acmp .ne 5, [9]), (7, .iconst 1, []), (8, .ireturn, [0])], 9),
  (9, [0], [(9, .aload_n 0, []), (10, .getstatic 61, [0, 16]), (13, .if_acmp .ne 5, [18]), (16, .iconst 2, []), (17, .ireturn, [0])], 18),
  (18, [0], [(18, .aload_n 0, []), (19, .getstatic 64, [0, 17]), (22, .if_acmp .ne 5, [27]), (25, .iconst 4, []), (26, .ireturn, [0])], 27),
  (27, [0], [(27, .aload_n 0, []), (28, .getstatic 67, [0, 18]), (31, .if_acmp .ne 6, [37]), (34, .bipush 8, []), (36, .ireturn, [0])], 37),
  (37, [0], [(37, .aload_n 0, []), (38, .getstatic 70, [0, 19]), (41, .if_acmp .ne 6, [47]), (44, .bipush 16, []), (46, .ireturn, [0])], 47),
  (47, [0], [(47, .aload_n 0, []), (48, .getstatic 73, [0, 21]), (51, .if_acmp .ne 8, [59]), (54, .bipush 32, []), (56, .goto 4, [60])], 59),
  (59, [], [(59, .iconst 0, [])], 60),
  (60, [], [(60, .ireturn, [0])], 61)]
def rX7_bitOfSingle : xRow := ((yX7_bitOfSingle, cX7_bitOfSingle, 1, (some .int), 0, 0), bX7_bitOfSingle, pX7)
def bX7_readStatement : xBl := [
  (0, [0, 1], [(0, .aload_n 0, []), (1, .getstatic 76, [0, 15]), (4, .invokevirtual 37, [1, 40, 2, 0, 0, 0, 4]), (7, .ifCond .eq 12, [19]), (10, .aload_n 0, []), (11, .aload_n 1, []), (12, .getfield 79, [2, 0, 2, 1]), (15, .invokestatic 83, [0, 76, 2, 0, 0, 0, 0]), (18, .ireturn, [5])], 19),
  (19, [0, 1], [(19, .aload_n 0, []), (20, .getstatic 87, [0, 20]), (23, .invokevirtual 37, [1, 40, 2, 0, 0, 0, 4]), (26, .ifCond .eq 12, [38]), (29, .aload_n 0, []), (30, .aload_n 1, []), (31, .getfield 90, [2, 2, 2, 1]), (34, .invokestatic 94, [0, 78, 2, 0, 0, 0, 0]), (37, .ireturn, [5])], 38),
  (38, [0, 1], [(38, .aload_n 0, []), (39, .getstatic 73, [0, 21]), (42, .invokevirtual 37, [1, 40, 2, 0, 0, 0, 4]), (45, .ifCond .eq 24, [69]), (48, .aload_n 0, []), (49, .invokevirtual 98, [1, 41, 1, 9, 0, 0, 4]), (52, .aload_n 1, []), (53, .getfield 101, [2, 3, 2, 1]), (56, .invokevirtual 105, [1, 9, 1, 9, 0, 0, 2]), (59, .aload_n 1, []), (60, .getfield 101, [2, 3, 2, 1]), (63, .aload_n 0, []), (64, .iconst 0, []), (65, .invokevirtual 110, [3, 13, 3, 0, 0, 0, 2]), (68, .ireturn, [5])], 69),
  (69, [0, 1], [(69, .aload_n 0, []), (70, .aload_n 1, []), (71, .invokestatic 114, [0, 79, 2, 0, 0, 0, 0]), (74, .ireturn, [5])], 75)]
def rX7_readStatement : xRow := ((yX7_readStatement, cX7_readStatement, 2, (some .boolean), 0, 0), bX7_readStatement, pX7)
def bX7_readScratches : xBl := [
  (0, [0, 1], [(0, .aload_n 0, []), (1, .invokevirtual 98, [1, 41, 1, 9, 0, 0, 4]), (4, .aload_n 0, []), (5, .aload_n 1, []), (6, .invokestatic 117, [0, 77, 2, 0, 0, 0, 0]), (9, .ifCond .ne 5, [14]), (12, .iconst 0, []), (13, .ireturn, [5])], 14),
  (14, [0, 1], [(14, .iconst 0, []), (15, .istore_n 2, [])], 16),
  (16, [0, 1, 2], [(16, .iload_n 2, []), (17, .sipush 500, []), (20, .if_icmp .ge 29, [49]), (23, .aload_n 0, []), (24, .getstatic 120, [0, 1]), (27, .invokevirtual 37, [1, 40, 2, 0, 0, 0, 4]), (30, .ifCond .eq 19, [49]), (33, .aload_n 0, []), (34, .aload_n 1, []), (35, .invokestatic 117, [0, 77, 2, 0, 0, 0, 0]), (38, .ifCond .ne 5, [43]), (41, .iconst 0, []), (42, .ireturn, [5])], 43),
  (43, [0, 1, 2], [(43, .iinc 2 1, []), (46, .goto (-30), [16])], 49),
  (49, [], [(49, .iconst 1, []), (50, .ireturn, [5])], 51)]
def rX7_readScratches : xRow := ((yX7_readScratches, cX7_readScratches, 3, (some .boolean), 0, 0), bX7_readScratches, pX7)
def bX7_readScratch : xBl := [
  (0, [0, 1], [(0, .aload_n 0, []), (1, .getstatic 120, [0, 1]), (4, .invokevirtual 37, [1, 40, 2, 0, 0, 0, 4]), (7, .ifCond .eq 21, [28]), (10, .aload_n 1, []), (11, .aload_n 0, []), (12, .invokevirtual 123, [1, 39, 1, 0, 0, 0, 4]), (15, .invokevirtual 127, [1, 68, 2, 0, 0, 0, 6]), (18, .ifCond .eq 10, [28]), (21, .aload_n 0, []), (22, .bipush (-4), []), (24, .invokevirtual 50, [1, 44, 2, 0, 0, 0, 4]), (27, .ireturn, [5])], 28),
  (28, [0, 1], [(28, .aload_n 0, []), (29, .iconst 0, []), (30, .aload_n 1, []), (31, .getfield 132, [5, 0, 0, 1]), (34, .iconst 1, []), (35, .isub, []), (36, .invokevirtual 21, [1, 43, 3, 0, 0, 0, 4]), (39, .istore_n 2, []), (40, .iload_n 2, []), (41, .ifCond .ge 5, [46]), (44, .iconst 0, []), (45, .ireturn, [5])], 46),
  (46, [1, 2], [(46, .aload_n 1, []), (47, .iload_n 2, []), (48, .iconst 1, []), (49, .invokevirtual 136, [1, 69, 3, 9, 0, 0, 6]), (52, .iconst 1, []), (53, .ireturn, [5])], 54)]
def rX7_readScratch : xRow := ((yX7_readScratch, cX7_readScratch, 3, (some .boolean), 0, 0), bX7_readScratch, pX7)
def bX7_readBlink : xBl := [
  (0, [0, 1], [(0, .aload_n 1, []), (1, .invokevirtual 140, [1, 5, 1, 0, 0, 0, 1]), (4, .ifCond .eq 10, [14]), (7, .aload_n 0, []), (8, .bipush (-5), []), (10, .invokevirtual 50, [1, 44, 2, 0, 0, 0, 4]), (13, .ireturn, [5])], 14),
  (14, [0, 1], [(14, .aload_n 0, []), (15, .invokevirtual 98, [1, 41, 1, 9, 0, 0, 4]), (18, .aload_n 0, []), (19, .iconst 0, []), (20, .sipush 9999, []), (23, .invokevirtual 21, [1, 43, 3, 0, 0, 0, 4]), (26, .istore_n 2, []), (27, .iload_n 2, []), (28, .ifCond .ge 5, [33]), (31, .iconst 0, []), (32, .ireturn, [5])], 33),
  (33, [0, 1, 2], [(33, .aload_n 0, []), (34, .iload_n 2, []), (35, .sipush 9999, []), (38, .invokevirtual 21, [1, 43, 3, 0, 0, 0, 4]), (41, .istore_n 3, []), (42, .iload_n 3, []), (43, .ifCond .ge 5, [48]), (46, .iconst 0, []), (47, .ireturn, [5])], 48),
  (48, [1, 2, 3], [(48, .aload_n 1, []), (49, .iload_n 2, []), (50, .iload_n 3, []), (51, .invokevirtual 146, [1, 6, 3, 9, 0, 0, 1]), (54, .iconst 1, []), (55, .ireturn, [5])], 56)]
def rX7_readBlink : xRow := ((yX7_readBlink, cX7_readBlink, 4, (some .boolean), 0, 0), bX7_readBlink, pX7)
def bX7_readSetting : xBl := [
  (0, [0, 1], [(0, .aload_n 0, []), (1, .invokevirtual 40, [1, 38, 1, 2, 0, 0, 4]), (4, .astore_n 2, []), (5, .aload_n 2, []), (6, .aload_n 1, []), (7, .invokestatic 150, [0, 80, 2, 0, 0, 0, 0]), (10, .istore_n 3, []), (11, .iload_n 3, []), (12, .ifCond .ge 10, [22]), (15, .aload_n 0, []), (16, .bipush (-2), []), (18, .invokevirtual 50, [1, 44, 2, 0, 0, 0, 4]), (21, .ireturn, [5])], 22),
  (22, [0, 1, 2, 3], [(22, .aload_n 0, []), (23, .invokevirtual 98, [1, 41, 1, 9, 0, 0, 4]), (26, .aload_n 2, []), (27, .getstatic 61, [0, 16]), (30, .if_acmp .eq 10, [40]), (33, .aload_n 2, []), (34, .getstatic 64, [0, 17]), (37, .if_acmp .ne 7, [44])], 40),
  (40, [0, 1, 2, 3], [(40, .iconst 1, []), (41, .goto 4, [45])], 44),
  (44, [0, 1, 2, 3], [(44, .iconst 0, [])], 45),
  (45, [0, 1, 2, 3], [(45, .istore 4, []), (47, .aload_n 0, []), (48, .iload 4, []), (50, .iload_n 3, []), (51, .invokevirtual 21, [1, 43, 3, 0, 0, 0, 4]), (54, .istore 5, []), (56, .iload 5, []), (58, .ifCond .ge 5, [63]), (61, .iconst 0, []), (62, .ireturn, [5])], 63),
  (63, [1, 2, 5], [(63, .aload_n 1, []), (64, .aload_n 2, []), (65, .iload 5, []), (67, .invokestatic 154, [0, 81, 3, 9, 0, 0, 0]), (70, .iconst 1, []), (71, .ireturn, [5])], 72)]
def rX7_readSetting : xRow := ((yX7_readSetting, cX7_readSetting, 6, (some .boolean), 0, 0), bX7_readSetting, pX7)
def bX7_greatestOf : xBl := [
  (0, [0, 1], [(0, .aload_n 0, []), (1, .getstatic 58, [0, 14]), (4, .if_acmp .ne 13, [17]), (7, .aload_n 1, []), (8, .getfield 79, [2, 0, 2, 1]), (11, .getfield 132, [5, 0, 0, 1]), (14, .iconst 1, []), (15, .isub, []), (16, .ireturn, [0])], 17),
  (17, [0], [(17, .aload_n 0, []), (18, .getstatic 61, [0, 16]), (21, .if_acmp .ne 6, [27]), (24, .bipush 99, []), (26, .ireturn, [0])], 27),
  (27, [0], [(27, .aload_n 0, []), (28, .getstatic 64, [0, 17]), (31, .if_acmp .ne 6, [37]), (34, .bipush 9, []), (36, .ireturn, [0])], 37),
  (37, [0], [(37, .aload_n 0, []), (38, .getstatic 67, [0, 18]), (41, .if_acmp .ne 6, [47]), (44, .bipush 9, []), (46, .ireturn, [0])], 47),
  (47, [0], [(47, .aload_n 0, []), (48, .getstatic 70, [0, 19]), (51, .if_acmp .ne 9, [60]), (54, .sipush 9999, []), (57, .goto 4, [61])], 60),
  (60, [], [(60, .iconst (-1), [])], 61),
  (61, [], [(61, .ireturn, [0])], 62)]
def rX7_greatestOf : xRow := ((yX7_greatestOf, cX7_greatestOf, 2, (some .int), 0, 0), bX7_greatestOf, pX7)
def bX7_set : xBl := [
  (0, [0, 1, 2], [(0, .aload_n 1, []), (1, .getstatic 58, [0, 14]), (4, .if_acmp .ne 22, [26]), (7, .aload_n 0, []), (8, .getfield 79, [2, 0, 2, 1]), (11, .iload_n 2, []), (12, .putfield 158, [5, 1, 0, 1]), (15, .aload_n 0, []), (16, .getfield 161, [2, 1, 2, 1]), (19, .iload_n 2, []), (20, .invokevirtual 165, [1, 48, 2, 9, 0, 0, 5]), (23, .goto 69, [92])], 26),
  (26, [0, 1, 2], [(26, .aload_n 1, []), (27, .getstatic 61, [0, 16]), (30, .if_acmp .ne 14, [44]), (33, .aload_n 0, []), (34, .getfield 161, [2, 1, 2, 1]), (37, .iload_n 2, []), (38, .putfield 170, [4, 2, 0, 1]), (41, .goto 51, [92])], 44),
  (44, [0, 1, 2], [(44, .aload_n 1, []), (45, .getstatic 64, [0, 17]), (48, .if_acmp .ne 14, [62]), (51, .aload_n 0, []), (52, .getfield 161, [2, 1, 2, 1]), (55, .iload_n 2, []), (56, .putfield 173, [4, 3, 0, 1]), (59, .goto 33, [92])], 62),
  (62, [0, 1, 2], [(62, .aload_n 1, []), (63, .getstatic 67, [0, 18]), (66, .if_acmp .ne 14, [80]), (69, .aload_n 0, []), (70, .getfield 161, [2, 1, 2, 1]), (73, .iload_n 2, []), (74, .putfield 176, [4, 4, 0, 1]), (77, .goto 15, [92])], 80),
  (80, [0, 1, 2], [(80, .aload_n 1, []), (81, .getstatic 70, [0, 19]), (84, .if_acmp .ne 8, [92]), (87, .aload_n 0, []), (88, .iload_n 2, []), (89, .putfield 179, [2, 6, 0, 1])], 92),
  (92, [], [(92, .return_, [])], 93)]
def rX7_set : xRow := ((yX7_set, cX7_set, 3, none, 0, 0), bX7_set, pX7)
def pX9 : xPool := [(3, 7, [0, 4, 5]), (2, 9, [4, 45, 1, 9, 1, 9, 5]), (0, 10, [7, 0, 2, 2])]
def bX9_init : xBl := [
  (0, [0], [(0, .aload_n 0, []), (1, .invokespecial 1, [0]), (4, .aload_n 0, []), (5, .new 7, [0, 4, 5]), (8, .dup, []), (9, .invokespecial 9, [4, 45, 1, 9, 1, 9, 5]), (12, .putfield 10, [7, 0, 2, 2]), (15, .return_, [])], 16)]
def rX9_init : xRow := ((yX9_init, cX9_init, 1, none, 2, 14), bX9_init, pX9)

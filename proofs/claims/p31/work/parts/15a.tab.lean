/-! THE TABLE (X0, X1, X2, X3, X4): blocks of the methods as the class file has them, written by wip/p31/gentab.py. -/
abbrev xRow : Type := xMth × xBl × List (Nat × Nat × List Nat)
def pX0 : xPool := [(0, 9, [0, 0, 2, 2]), (0, 13, [0, 1, 2, 2]), (0, 16, [0, 2, 0, 0]), (0, 9, [0, 0, 2, 0]), (0, 13, [0, 1, 2, 0])]
def bX0_init : xBl := [
  (0, [0], [(0, .aload_n 0, []), (1, .invokespecial 1, [0]), (4, .aload_n 0, []), (5, .bipush 8, []), (7, .newarray .int, [0]), (9, .putfield 9, [0, 0, 2, 2]), (12, .aload_n 0, []), (13, .bipush 8, []), (15, .newarray .int, [0]), (17, .putfield 13, [0, 1, 2, 2]), (20, .return_, [])], 21)]
def rX0_init : xRow := ((yX0_init, cX0_init, 1, none, 2, 16), bX0_init, pX0)
def bX0_clear : xBl := [
  (0, [0], [(0, .aload_n 0, []), (1, .iconst 0, []), (2, .putfield 16, [0, 2, 0, 0]), (5, .return_, [])], 6)]
def rX0_clear : xRow := ((yX0_clear, cX0_clear, 1, none, 0, 0), bX0_clear, pX0)
def bX0_copyFrom : xBl := [
  (0, [0, 1], [(0, .aload_n 0, []), (1, .aload_n 1, []), (2, .getfield 16, [0, 2, 0, 0]), (5, .putfield 16, [0, 2, 0, 0]), (8, .aload_n 1, []), (9, .getfield 9, [0, 0, 2, 0]), (12, .iconst 0, []), (13, .aload_n 0, []), (14, .getfield 9, [0, 0, 2, 0]), (17, .iconst 0, []), (18, .aload_n 0, []), (19, .getfield 16, [0, 2, 0, 0]), (22, .invokestatic 20, [0, 6]), (25, .aload_n 1, []), (26, .getfield 13, [0, 1, 2, 0]), (29, .iconst 0, []), (30, .aload_n 0, []), (31, .getfield 13, [0, 1, 2, 0]), (34, .iconst 0, []), (35, .aload_n 0, []), (36, .getfield 16, [0, 2, 0, 0]), (39, .invokestatic 20, [0, 6]), (42, .return_, [])], 43)]
def rX0_copyFrom : xRow := ((yX0_copyFrom, cX0_copyFrom, 2, none, 0, 0), bX0_copyFrom, pX0)
def bX0_isFull : xBl := [
  (0, [0], [(0, .aload_n 0, []), (1, .getfield 16, [0, 2, 0, 0]), (4, .bipush 8, []), (6, .if_icmp .lt 7, [13]), (9, .iconst 1, []), (10, .goto 4, [14])], 13),
  (13, [], [(13, .iconst 0, [])], 14),
  (14, [], [(14, .ireturn, [5])], 15)]
def rX0_isFull : xRow := ((yX0_isFull, cX0_isFull, 1, (some .boolean), 0, 0), bX0_isFull, pX0)
def bX0_tell : xBl := [
  (0, [0, 1, 2], [(0, .aload_n 0, []), (1, .getfield 16, [0, 2, 0, 0]), (4, .aload_n 0, []), (5, .getfield 9, [0, 0, 2, 0]), (8, .arraylength, []), (9, .if_icmp .ge 33, [42]), (12, .aload_n 0, []), (13, .getfield 9, [0, 0, 2, 0]), (16, .aload_n 0, []), (17, .getfield 16, [0, 2, 0, 0]), (20, .iload_n 1, []), (21, .iastore, []), (22, .aload_n 0, []), (23, .getfield 13, [0, 1, 2, 0]), (26, .aload_n 0, []), (27, .getfield 16, [0, 2, 0, 0]), (30, .iload_n 2, []), (31, .iastore, []), (32, .aload_n 0, []), (33, .dup, []), (34, .getfield 16, [0, 2, 0, 0]), (37, .iconst 1, []), (38, .iadd, []), (39, .putfield 16, [0, 2, 0, 0])], 42),
  (42, [], [(42, .return_, [])], 43)]
def rX0_tell : xRow := ((yX0_tell, cX0_tell, 3, none, 0, 0), bX0_tell, pX0)
def bX0_has : xBl := [
  (0, [0, 1], [(0, .iconst 0, []), (1, .istore_n 2, [])], 2),
  (2, [0, 1, 2], [(2, .iload_n 2, []), (3, .aload_n 0, []), (4, .getfield 16, [0, 2, 0, 0]), (7, .if_icmp .ge 31, [38]), (10, .iload_n 1, []), (11, .aload_n 0, []), (12, .getfield 9, [0, 0, 2, 0]), (15, .iload_n 2, []), (16, .iaload, []), (17, .if_icmp .lt 15, [32]), (20, .iload_n 1, []), (21, .aload_n 0, []), (22, .getfield 13, [0, 1, 2, 0]), (25, .iload_n 2, []), (26, .iaload, []), (27, .if_icmp .gt 5, [32]), (30, .iconst 1, []), (31, .ireturn, [5])], 32),
  (32, [0, 1, 2], [(32, .iinc 2 1, []), (35, .goto (-33), [2])], 38),
  (38, [], [(38, .iconst 0, []), (39, .ireturn, [5])], 40)]
def rX0_has : xRow := ((yX0_has, cX0_has, 3, (some .boolean), 0, 0), bX0_has, pX0)
def pX1 : xPool := [(0, 11, [1, 0, 2, 2]), (0, 15, [1, 2, 2, 2]), (0, 18, [1, 1, 0, 0]), (2, 22, [1, 9, 1, 9, 0, 0, 2]), (2, 25, [1, 12, 2, 9, 0, 0, 2]), (0, 11, [1, 0, 2, 0]), (2, 35, [1, 14, 3, 0, 0, 0, 2]), (1, 39, [0, 4]), (2, 45, [1, 40, 2, 0, 0, 0, 4]), (1, 51, [0, 5]), (2, 54, [1, 41, 1, 9, 0, 0, 4]), (2, 57, [1, 15, 3, 0, 0, 0, 2]), (1, 60, [0, 6]), (1, 63, [0, 7]), (1, 66, [0, 8]), (2, 69, [1, 44, 2, 0, 0, 0, 4]), (2, 73, [1, 13, 3, 0, 0, 0, 2]), (1, 76, [0, 9]), (2, 79, [1, 42, 2, 0, 0, 0, 4]), (2, 82, [1, 38, 1, 2, 0, 0, 4]), (2, 86, [0, 16, 1, 0, 0, 0, 0]), (2, 90, [1, 43, 3, 0, 0, 0, 4]), (1, 94, [0, 10]), (1, 97, [0, 11]), (1, 100, [0, 12]), (1, 103, [0, 13])]
def bX1_init : xBl := [
  (0, [0], [(0, .aload_n 0, []), (1, .invokespecial 5, [0]), (4, .aload_n 0, []), (5, .sipush 500, []), (8, .newarray .int, [0]), (10, .putfield 11, [1, 0, 2, 2]), (13, .aload_n 0, []), (14, .bipush 11, []), (16, .newarray .int, [0]), (18, .putfield 15, [1, 2, 2, 2]), (21, .return_, [])], 22)]
def rX1_init : xRow := ((yX1_init, cX1_init, 1, none, 2, 511), bX1_init, pX1)
def bX1_clear : xBl := [
  (0, [0], [(0, .aload_n 0, []), (1, .iconst 0, []), (2, .putfield 18, [1, 1, 0, 0]), (5, .return_, [])], 6)]
def rX1_clear : xRow := ((yX1_clear, cX1_clear, 1, none, 0, 0), bX1_clear, pX1)
def bX1_reset : xBl := [
  (0, [0], [(0, .aload_n 0, []), (1, .invokevirtual 22, [1, 9, 1, 9, 0, 0, 2]), (4, .aload_n 0, []), (5, .bipush (-5), []), (7, .invokevirtual 25, [1, 12, 2, 9, 0, 0, 2]), (10, .aload_n 0, []), (11, .iconst 1, []), (12, .invokevirtual 25, [1, 12, 2, 9, 0, 0, 2]), (15, .aload_n 0, []), (16, .bipush (-2), []), (18, .invokevirtual 25, [1, 12, 2, 9, 0, 0, 2]), (21, .return_, [])], 22)]
def rX1_reset : xRow := ((yX1_reset, cX1_reset, 1, none, 0, 0), bX1_reset, pX1)
def bX1_copyFrom : xBl := [
  (0, [0, 1], [(0, .aload_n 0, []), (1, .aload_n 1, []), (2, .getfield 18, [1, 1, 0, 0]), (5, .putfield 18, [1, 1, 0, 0]), (8, .aload_n 1, []), (9, .getfield 11, [1, 0, 2, 0]), (12, .iconst 0, []), (13, .aload_n 0, []), (14, .getfield 11, [1, 0, 2, 0]), (17, .iconst 0, []), (18, .aload_n 0, []), (19, .getfield 18, [1, 1, 0, 0]), (22, .invokestatic 29, [0, 6]), (25, .return_, [])], 26)]
def rX1_copyFrom : xRow := ((yX1_copyFrom, cX1_copyFrom, 2, none, 0, 0), bX1_copyFrom, pX1)
def bX1_put : xBl := [
  (0, [0, 1], [(0, .aload_n 0, []), (1, .getfield 18, [1, 1, 0, 0]), (4, .aload_n 0, []), (5, .getfield 11, [1, 0, 2, 0]), (8, .arraylength, []), (9, .if_icmp .ge 23, [32]), (12, .aload_n 0, []), (13, .getfield 11, [1, 0, 2, 0]), (16, .aload_n 0, []), (17, .getfield 18, [1, 1, 0, 0]), (20, .iload_n 1, []), (21, .iastore, []), (22, .aload_n 0, []), (23, .dup, []), (24, .getfield 18, [1, 1, 0, 0]), (27, .iconst 1, []), (28, .iadd, []), (29, .putfield 18, [1, 1, 0, 0])], 32),
  (32, [], [(32, .return_, [])], 33)]
def rX1_put : xRow := ((yX1_put, cX1_put, 2, none, 0, 0), bX1_put, pX1)
def bX1_readSum : xBl := [
  (0, [0, 1, 2], [(0, .aload_n 0, []), (1, .aload_n 1, []), (2, .iload_n 2, []), (3, .invokevirtual 35, [1, 14, 3, 0, 0, 0, 2]), (6, .ifCond .ne 5, [11]), (9, .iconst 0, []), (10, .ireturn, [5])], 11),
  (11, [0, 1, 2], [(11, .iconst 0, []), (12, .istore_n 3, [])], 13),
  (13, [0, 1, 2, 3], [(13, .iload_n 3, []), (14, .sipush 500, []), (17, .if_icmp .ge 68, [85]), (20, .aload_n 1, []), (21, .getstatic 39, [0, 4]), (24, .invokevirtual 45, [1, 40, 2, 0, 0, 0, 4]), (27, .ifCond .ne 13, [40]), (30, .aload_n 1, []), (31, .getstatic 51, [0, 5]), (34, .invokevirtual 45, [1, 40, 2, 0, 0, 0, 4]), (37, .ifCond .eq 48, [85])], 40),
  (40, [0, 1, 2, 3], [(40, .aload_n 1, []), (41, .getstatic 39, [0, 4]), (44, .invokevirtual 45, [1, 40, 2, 0, 0, 0, 4]), (47, .ifCond .eq 7, [54]), (50, .iconst (-1), []), (51, .goto 5, [56])], 54),
  (54, [0, 1, 2, 3], [(54, .bipush (-2), [])], 56),
  (56, [0, 1, 2, 3], [(56, .istore 4, []), (58, .aload_n 1, []), (59, .invokevirtual 54, [1, 41, 1, 9, 0, 0, 4]), (62, .aload_n 0, []), (63, .aload_n 1, []), (64, .iload_n 2, []), (65, .invokevirtual 35, [1, 14, 3, 0, 0, 0, 2]), (68, .ifCond .ne 5, [73]), (71, .iconst 0, []), (72, .ireturn, [5])], 73),
  (73, [0, 1, 2, 3, 4], [(73, .aload_n 0, []), (74, .iload 4, []), (76, .invokevirtual 25, [1, 12, 2, 9, 0, 0, 2]), (79, .iinc 3 1, []), (82, .goto (-69), [13])], 85),
  (85, [], [(85, .iconst 1, []), (86, .ireturn, [5])], 87)]
def rX1_readSum : xRow := ((yX1_readSum, cX1_readSum, 5, (some .boolean), 0, 0), bX1_readSum, pX1)
def bX1_readTerm : xBl := [
  (0, [0, 1, 2], [(0, .aload_n 0, []), (1, .aload_n 1, []), (2, .iload_n 2, []), (3, .invokevirtual 57, [1, 15, 3, 0, 0, 0, 2]), (6, .ifCond .ne 5, [11]), (9, .iconst 0, []), (10, .ireturn, [5])], 11),
  (11, [0, 1, 2], [(11, .iconst 0, []), (12, .istore_n 3, [])], 13),
  (13, [0, 1, 2, 3], [(13, .iload_n 3, []), (14, .sipush 500, []), (17, .if_icmp .ge 69, [86]), (20, .aload_n 1, []), (21, .getstatic 60, [0, 6]), (24, .invokevirtual 45, [1, 40, 2, 0, 0, 0, 4]), (27, .ifCond .ne 13, [40]), (30, .aload_n 1, []), (31, .getstatic 63, [0, 7]), (34, .invokevirtual 45, [1, 40, 2, 0, 0, 0, 4]), (37, .ifCond .eq 49, [86])], 40),
  (40, [0, 1, 2, 3], [(40, .aload_n 1, []), (41, .getstatic 60, [0, 6]), (44, .invokevirtual 45, [1, 40, 2, 0, 0, 0, 4]), (47, .ifCond .eq 8, [55]), (50, .bipush (-3), []), (52, .goto 5, [57])], 55),
  (55, [0, 1, 2, 3], [(55, .bipush (-4), [])], 57),
  (57, [0, 1, 2, 3], [(57, .istore 4, []), (59, .aload_n 1, []), (60, .invokevirtual 54, [1, 41, 1, 9, 0, 0, 4]), (63, .aload_n 0, []), (64, .aload_n 1, []), (65, .iload_n 2, []), (66, .invokevirtual 57, [1, 15, 3, 0, 0, 0, 2]), (69, .ifCond .ne 5, [74]), (72, .iconst 0, []), (73, .ireturn, [5])], 74),
  (74, [0, 1, 2, 3, 4], [(74, .aload_n 0, []), (75, .iload 4, []), (77, .invokevirtual 25, [1, 12, 2, 9, 0, 0, 2]), (80, .iinc 3 1, []), (83, .goto (-70), [13])], 86),
  (86, [], [(86, .iconst 1, []), (87, .ireturn, [5])], 88)]
def rX1_readTerm : xRow := ((yX1_readTerm, cX1_readTerm, 5, (some .boolean), 0, 0), bX1_readTerm, pX1)
def bX1_readFactor : xBl := [
  (0, [0, 1, 2], [(0, .aload_n 1, []), (1, .getstatic 66, [0, 8]), (4, .invokevirtual 45, [1, 40, 2, 0, 0, 0, 4]), (7, .ifCond .eq 46, [53]), (10, .iload_n 2, []), (11, .iconst 4, []), (12, .if_icmp .lt 10, [22]), (15, .aload_n 1, []), (16, .bipush (-6), []), (18, .invokevirtual 69, [1, 44, 2, 0, 0, 0, 4]), (21, .ireturn, [5])], 22),
  (22, [0, 1, 2], [(22, .aload_n 1, []), (23, .invokevirtual 54, [1, 41, 1, 9, 0, 0, 4]), (26, .aload_n 0, []), (27, .aload_n 1, []), (28, .iload_n 2, []), (29, .iconst 1, []), (30, .iadd, []), (31, .invokevirtual 73, [1, 13, 3, 0, 0, 0, 2]), (34, .ifCond .eq 17, [51]), (37, .aload_n 1, []), (38, .getstatic 76, [0, 9]), (41, .invokevirtual 79, [1, 42, 2, 0, 0, 0, 4]), (44, .ifCond .eq 7, [51]), (47, .iconst 1, []), (48, .goto 4, [52])], 51),
  (51, [], [(51, .iconst 0, [])], 52),
  (52, [], [(52, .ireturn, [5])], 53),
  (53, [0, 1], [(53, .aload_n 1, []), (54, .invokevirtual 82, [1, 38, 1, 2, 0, 0, 4]), (57, .invokestatic 86, [0, 16, 1, 0, 0, 0, 0]), (60, .istore_n 3, []), (61, .iload_n 3, []), (62, .ifCond .ne 18, [80]), (65, .aload_n 1, []), (66, .iconst 0, []), (67, .sipush 9999, []), (70, .invokevirtual 90, [1, 43, 3, 0, 0, 0, 4]), (73, .istore_n 3, []), (74, .iload_n 3, []), (75, .ifCond .ge 9, [84]), (78, .iconst 0, []), (79, .ireturn, [5])], 80),
  (80, [0, 1, 3], [(80, .aload_n 1, []), (81, .invokevirtual 54, [1, 41, 1, 9, 0, 0, 4])], 84),
  (84, [0, 3], [(84, .aload_n 0, []), (85, .iload_n 3, []), (86, .invokevirtual 25, [1, 12, 2, 9, 0, 0, 2]), (89, .iconst 1, []), (90, .ireturn, [5])], 91)]
def rX1_readFactor : xRow := ((yX1_readFactor, cX1_readFactor, 4, (some .boolean), 0, 0), bX1_readFactor, pX1)
def bX1_variableOf : xBl := [
  (0, [0], [(0, .aload_n 0, []), (1, .getstatic 94, [0, 10]), (4, .if_acmp .ne 6, [10]), (7, .bipush (-5), []), (9, .ireturn, [0])], 10),
  (10, [0], [(10, .aload_n 0, []), (11, .getstatic 97, [0, 11]), (14, .if_acmp .ne 6, [20]), (17, .bipush (-6), []), (19, .ireturn, [0])], 20),
  (20, [0], [(20, .aload_n 0, []), (21, .getstatic 100, [0, 12]), (24, .if_acmp .ne 6, [30]), (27, .bipush (-7), []), (29, .ireturn, [0])], 30),
  (30, [0], [(30, .aload_n 0, []), (31, .getstatic 103, [0, 13]), (34, .if_acmp .ne 8, [42]), (37, .bipush (-8), []), (39, .goto 4, [43])], 42),
  (42, [], [(42, .iconst 0, [])], 43),
  (43, [], [(43, .ireturn, [0])], 44)]
def rX1_variableOf : xRow := ((yX1_variableOf, cX1_variableOf, 1, (some .int), 0, 0), bX1_variableOf, pX1)
def pX2 : xPool := [(3, 9, [0, 5, 5]), (2, 11, [4, 64, 1, 9, 2, 16, 6]), (0, 12, [2, 0, 2, 2]), (3, 18, [0, 4, 5]), (2, 20, [4, 45, 1, 9, 1, 9, 5]), (0, 21, [2, 1, 2, 2]), (3, 25, [0, 0, 3]), (2, 27, [4, 2, 1, 9, 2, 16, 1]), (0, 28, [2, 2, 2, 2]), (3, 32, [0, 1, 3]), (2, 34, [4, 8, 1, 9, 2, 511, 2]), (0, 35, [2, 3, 2, 2]), (2, 39, [1, 18, 2, 9, 0, 0, 3]), (0, 12, [2, 0, 2, 0]), (2, 43, [1, 65, 2, 9, 0, 0, 6]), (0, 21, [2, 1, 2, 0]), (2, 44, [1, 46, 2, 9, 0, 0, 5]), (0, 28, [2, 2, 2, 0]), (2, 45, [1, 3, 1, 9, 0, 0, 1]), (0, 35, [2, 3, 2, 0]), (2, 48, [1, 10, 1, 9, 0, 0, 2]), (0, 50, [2, 4, 0, 0]), (0, 54, [2, 5, 0, 0]), (0, 57, [2, 6, 0, 0]), (0, 60, [2, 7, 0, 0]), (0, 63, [2, 8, 0, 0]), (2, 66, [1, 66, 2, 9, 0, 0, 6]), (2, 70, [1, 47, 2, 9, 0, 0, 5]), (2, 73, [1, 4, 2, 9, 0, 0, 1]), (2, 76, [1, 11, 2, 9, 0, 0, 2]), (0, 79, [5, 0, 0, 1]), (0, 82, [5, 1, 0, 1]), (0, 85, [4, 2, 0, 1]), (0, 88, [4, 3, 0, 1]), (0, 91, [4, 4, 0, 1]), (2, 94, [1, 50, 1, 0, 0, 0, 5]), (2, 98, [1, 52, 1, 0, 0, 0, 5]), (0, 101, [0, 2, 0, 1]), (2, 104, [1, 7, 2, 0, 0, 0, 1]), (2, 108, [1, 21, 1, 0, 0, 0, 3]), (2, 112, [1, 54, 6, 9, 0, 0, 5]), (2, 116, [1, 70, 3, 9, 0, 0, 6]), (2, 120, [1, 26, 2, 9, 0, 0, 3]), (2, 124, [1, 55, 3, 9, 0, 0, 5]), (2, 128, [1, 48, 2, 9, 0, 0, 5]), (2, 131, [1, 49, 2, 9, 0, 0, 5])]
def bX2_init : xBl := [
  (0, [0], [(0, .aload_n 0, []), (1, .invokespecial 3, [0]), (4, .aload_n 0, []), (5, .new 9, [0, 5, 5]), (8, .dup, []), (9, .invokespecial 11, [4, 64, 1, 9, 2, 16, 6]), (12, .putfield 12, [2, 0, 2, 2]), (15, .aload_n 0, []), (16, .new 18, [0, 4, 5]), (19, .dup, []), (20, .invokespecial 20, [4, 45, 1, 9, 1, 9, 5]), (23, .putfield 21, [2, 1, 2, 2]), (26, .aload_n 0, []), (27, .new 25, [0, 0, 3]), (30, .dup, []), (31, .invokespecial 27, [4, 2, 1, 9, 2, 16, 1]), (34, .putfield 28, [2, 2, 2, 2]), (37, .aload_n 0, []), (38, .new 32, [0, 1, 3]), (41, .dup, []), (42, .invokespecial 34, [4, 8, 1, 9, 2, 511, 2]), (45, .putfield 35, [2, 3, 2, 2]), (48, .aload_n 0, []), (49, .iconst 3, []), (50, .invokevirtual 39, [1, 18, 2, 9, 0, 0, 3]), (53, .return_, [])], 54)]
def rX2_init : xRow := ((yX2_init, cX2_init, 1, none, 11, 568), bX2_init, pX2)
def bX2_reset : xBl := [
  (0, [0, 1], [(0, .aload_n 0, []), (1, .getfield 12, [2, 0, 2, 0]), (4, .iload_n 1, []), (5, .invokevirtual 43, [1, 65, 2, 9, 0, 0, 6]), (8, .aload_n 0, []), (9, .getfield 21, [2, 1, 2, 0]), (12, .iload_n 1, []), (13, .invokevirtual 44, [1, 46, 2, 9, 0, 0, 5]), (16, .aload_n 0, []), (17, .getfield 28, [2, 2, 2, 0]), (20, .invokevirtual 45, [1, 3, 1, 9, 0, 0, 1]), (23, .aload_n 0, []), (24, .getfield 35, [2, 3, 2, 0]), (27, .invokevirtual 48, [1, 10, 1, 9, 0, 0, 2]), (30, .aload_n 0, []), (31, .iconst 0, []), (32, .putfield 50, [2, 4, 0, 0]), (35, .aload_n 0, []), (36, .iconst 0, []), (37, .putfield 54, [2, 5, 0, 0]), (40, .aload_n 0, []), (41, .bipush 100, []), (43, .putfield 57, [2, 6, 0, 0]), (46, .aload_n 0, []), (47, .iconst 0, []), (48, .putfield 60, [2, 7, 0, 0]), (51, .aload_n 0, []), (52, .iconst 0, []), (53, .putfield 63, [2, 8, 0, 0]), (56, .return_, [])], 57)]
def rX2_reset : xRow := ((yX2_reset, cX2_reset, 2, none, 0, 0), bX2_reset, pX2)
def bX2_copyFrom : xBl := [
  (0, [0, 1], [(0, .aload_n 0, []), (1, .getfield 12, [2, 0, 2, 0]), (4, .aload_n 1, []), (5, .getfield 12, [2, 0, 2, 0]), (8, .invokevirtual 66, [1, 66, 2, 9, 0, 0, 6]), (11, .aload_n 0, []), (12, .getfield 21, [2, 1, 2, 0]), (15, .aload_n 1, []), (16, .getfield 21, [2, 1, 2, 0]), (19, .invokevirtual 70, [1, 47, 2, 9, 0, 0, 5]), (22, .aload_n 0, []), (23, .getfield 28, [2, 2, 2, 0]), (26, .aload_n 1, []), (27, .getfield 28, [2, 2, 2, 0]), (30, .invokevirtual 73, [1, 4, 2, 9, 0, 0, 1]), (33, .aload_n 0, []), (34, .getfield 35, [2, 3, 2, 0]), (37, .aload_n 1, []), (38, .getfield 35, [2, 3, 2, 0]), (41, .invokevirtual 76, [1, 11, 2, 9, 0, 0, 2]), (44, .aload_n 0, []), (45, .aload_n 1, []), (46, .getfield 50, [2, 4, 0, 0]), (49, .putfield 50, [2, 4, 0, 0]), (52, .aload_n 0, []), (53, .aload_n 1, []), (54, .getfield 54, [2, 5, 0, 0]), (57, .putfield 54, [2, 5, 0, 0]), (60, .aload_n 0, []), (61, .aload_n 1, []), (62, .getfield 57, [2, 6, 0, 0]), (65, .putfield 57, [2, 6, 0, 0]), (68, .aload_n 0, []), (69, .aload_n 1, []), (70, .getfield 60, [2, 7, 0, 0]), (73, .putfield 60, [2, 7, 0, 0]), (76, .aload_n 0, []), (77, .aload_n 1, []), (78, .getfield 63, [2, 8, 0, 0]), (81, .putfield 63, [2, 8, 0, 0]), (84, .return_, [])], 85)]
def rX2_copyFrom : xRow := ((yX2_copyFrom, cX2_copyFrom, 2, none, 0, 0), bX2_copyFrom, pX2)
def bX2_number : xBl := [
  (0, [0, 1], [(0, .iload_n 1, []), (1, .tableswitch 144 0 11 #[63, 71, 76, 84, 89, 97, 105, 113, 118, 123, 128, 136], [145, 0, 64, 72, 77, 85, 90, 98, 106, 114, 119, 124, 129, 137])], 64),
  (64, [0], [(64, .aload_n 0, []), (65, .getfield 12, [2, 0, 2, 0]), (68, .getfield 79, [5, 0, 0, 1]), (71, .ireturn, [0])], 72),
  (72, [0], [(72, .aload_n 0, []), (73, .getfield 50, [2, 4, 0, 0]), (76, .ireturn, [0])], 77),
  (77, [0], [(77, .aload_n 0, []), (78, .getfield 12, [2, 0, 2, 0]), (81, .getfield 82, [5, 1, 0, 1]), (84, .ireturn, [0])], 85),
  (85, [0], [(85, .aload_n 0, []), (86, .getfield 54, [2, 5, 0, 0]), (89, .ireturn, [0])], 90),
  (90, [0], [(90, .aload_n 0, []), (91, .getfield 21, [2, 1, 2, 0]), (94, .getfield 85, [4, 2, 0, 1]), (97, .ireturn, [0])], 98),
  (98, [0], [(98, .aload_n 0, []), (99, .getfield 21, [2, 1, 2, 0]), (102, .getfield 88, [4, 3, 0, 1]), (105, .ireturn, [0])], 106),
  (106, [0], [(106, .aload_n 0, []), (107, .getfield 21, [2, 1, 2, 0]), (110, .getfield 91, [4, 4, 0, 1]), (113, .ireturn, [0])], 114),
  (114, [0], [(114, .aload_n 0, []), (115, .getfield 57, [2, 6, 0, 0]), (118, .ireturn, [0])], 119),
  (119, [0], [(119, .aload_n 0, []), (120, .getfield 60, [2, 7, 0, 0]), (123, .ireturn, [0])], 124),
  (124, [0], [(124, .aload_n 0, []), (125, .getfield 63, [2, 8, 0, 0]), (128, .ireturn, [0])], 129),
  (129, [0], [(129, .aload_n 0, []), (130, .getfield 21, [2, 1, 2, 0]), (133, .invokevirtual 94, [1, 50, 1, 0, 0, 0, 5]), (136, .ireturn, [0])], 137),
  (137, [0], [(137, .aload_n 0, []), (138, .getfield 21, [2, 1, 2, 0]), (141, .invokevirtual 98, [1, 52, 1, 0, 0, 0, 5]), (144, .ireturn, [0])], 145),
  (145, [0], [(145, .aload_n 0, []), (146, .getfield 28, [2, 2, 2, 0]), (149, .getfield 101, [0, 2, 0, 1]), (152, .ireturn, [0])], 153)]
def rX2_number : xRow := ((yX2_number, cX2_number, 2, (some .int), 0, 0), bX2_number, pX2)
def bX2_isBlinkNext : xBl := [
  (0, [0], [(0, .aload_n 0, []), (1, .getfield 28, [2, 2, 2, 0]), (4, .aload_n 0, []), (5, .getfield 50, [2, 4, 0, 0]), (8, .invokevirtual 104, [1, 7, 2, 0, 0, 0, 1]), (11, .ireturn, [5])], 12)]
def rX2_isBlinkNext : xRow := ((yX2_isBlinkNext, cX2_isBlinkNext, 1, (some .boolean), 0, 0), bX2_isBlinkNext, pX2)
def bX2_canSteal : xBl := [
  (0, [0, 1], [(0, .aload_n 0, []), (1, .invokevirtual 108, [1, 21, 1, 0, 0, 0, 3]), (4, .ifCond .eq 28, [32]), (7, .aload_n 0, []), (8, .getfield 21, [2, 1, 2, 0]), (11, .getfield 91, [4, 4, 0, 1]), (14, .ifCond .le 18, [32]), (17, .aload_n 0, []), (18, .getfield 12, [2, 0, 2, 0]), (21, .getfield 82, [5, 1, 0, 1]), (24, .iload_n 1, []), (25, .if_icmp .ne 7, [32]), (28, .iconst 1, []), (29, .goto 4, [33])], 32),
  (32, [], [(32, .iconst 0, [])], 33),
  (33, [], [(33, .ireturn, [5])], 34)]
def rX2_canSteal : xRow := ((yX2_canSteal, cX2_canSteal, 2, (some .boolean), 0, 0), bX2_canSteal, pX2)
def bX2_canPlant : xBl := [
  (0, [0], [(0, .aload_n 0, []), (1, .invokevirtual 108, [1, 21, 1, 0, 0, 0, 3]), (4, .ifCond .eq 34, [38]), (7, .aload_n 0, []), (8, .getfield 21, [2, 1, 2, 0]), (11, .getfield 91, [4, 4, 0, 1]), (14, .ifCond .le 24, [38]), (17, .aload_n 0, []), (18, .getfield 12, [2, 0, 2, 0]), (21, .getfield 82, [5, 1, 0, 1]), (24, .aload_n 0, []), (25, .getfield 12, [2, 0, 2, 0]), (28, .getfield 79, [5, 0, 0, 1]), (31, .if_icmp .ne 7, [38]), (34, .iconst 1, []), (35, .goto 4, [39])], 38),
  (38, [], [(38, .iconst 0, [])], 39),
  (39, [], [(39, .ireturn, [5])], 40)]
def rX2_canPlant : xRow := ((yX2_canPlant, cX2_canPlant, 1, (some .boolean), 0, 0), bX2_canPlant, pX2)
def bX2_makeMove : xBl := [
  (0, [0, 1, 2, 3], [(0, .aload_n 0, []), (1, .invokevirtual 108, [1, 21, 1, 0, 0, 0, 3]), (4, .istore 4, []), (6, .aload_n 0, []), (7, .getfield 21, [2, 1, 2, 0]), (10, .aload_n 0, []), (11, .getfield 12, [2, 0, 2, 0]), (14, .iload_n 1, []), (15, .iload_n 2, []), (16, .iload_n 3, []), (17, .iload 4, []), (19, .invokevirtual 112, [1, 54, 6, 9, 0, 0, 5]), (22, .iload_n 1, []), (23, .ifCond .eq 12, [35]), (26, .aload_n 0, []), (27, .getfield 12, [2, 0, 2, 0]), (30, .iload_n 2, []), (31, .iload_n 3, []), (32, .invokevirtual 116, [1, 70, 3, 9, 0, 0, 6])], 35),
  (35, [0, 4], [(35, .aload_n 0, []), (36, .iload 4, []), (38, .invokevirtual 120, [1, 26, 2, 9, 0, 0, 3]), (41, .iload 4, []), (43, .ireturn, [5])], 44)]
def rX2_makeMove : xRow := ((yX2_makeMove, cX2_makeMove, 5, (some .boolean), 0, 0), bX2_makeMove, pX2)
def bX2_makeStill : xBl := [
  (0, [0, 1], [(0, .aload_n 0, []), (1, .invokevirtual 108, [1, 21, 1, 0, 0, 0, 3]), (4, .istore_n 2, []), (5, .aload_n 0, []), (6, .getfield 21, [2, 1, 2, 0]), (9, .aload_n 0, []), (10, .getfield 12, [2, 0, 2, 0]), (13, .iload_n 2, []), (14, .invokevirtual 124, [1, 55, 3, 9, 0, 0, 5]), (17, .aload_n 0, []), (18, .getfield 12, [2, 0, 2, 0]), (21, .iload_n 1, []), (22, .putfield 82, [5, 1, 0, 1]), (25, .aload_n 0, []), (26, .iload_n 2, []), (27, .invokevirtual 120, [1, 26, 2, 9, 0, 0, 3]), (30, .iload_n 2, []), (31, .ireturn, [5])], 32)]
def rX2_makeStill : xRow := ((yX2_makeStill, cX2_makeStill, 3, (some .boolean), 0, 0), bX2_makeStill, pX2)
def bX2_countStep : xBl := [
  (0, [0, 1], [(0, .aload_n 0, []), (1, .dup, []), (2, .getfield 50, [2, 4, 0, 0]), (5, .iconst 1, []), (6, .iadd, []), (7, .putfield 50, [2, 4, 0, 0]), (10, .iload_n 1, []), (11, .ifCond .eq 13, [24]), (14, .aload_n 0, []), (15, .dup, []), (16, .getfield 54, [2, 5, 0, 0]), (19, .iconst 1, []), (20, .iadd, []), (21, .putfield 54, [2, 5, 0, 0])], 24),
  (24, [], [(24, .return_, [])], 25)]
def rX2_countStep : xRow := ((yX2_countStep, cX2_countStep, 2, none, 0, 0), bX2_countStep, pX2)
def bX2_lookUnder : xBl := [
  (0, [0, 1], [(0, .aload_n 0, []), (1, .getfield 12, [2, 0, 2, 0]), (4, .getfield 82, [5, 1, 0, 1]), (7, .iload_n 1, []), (8, .if_icmp .ne 7, [15]), (11, .iconst 1, []), (12, .goto 4, [16])], 15),
  (15, [0, 1], [(15, .iconst 0, [])], 16),
  (16, [0, 1], [(16, .istore_n 2, []), (17, .iload_n 2, []), (18, .ifCond .eq 14, [32]), (21, .aload_n 0, []), (22, .getfield 21, [2, 1, 2, 0]), (25, .iload_n 1, []), (26, .invokevirtual 128, [1, 48, 2, 9, 0, 0, 5]), (29, .goto 11, [40])], 32),
  (32, [0, 1, 2], [(32, .aload_n 0, []), (33, .getfield 21, [2, 1, 2, 0]), (36, .iload_n 1, []), (37, .invokevirtual 131, [1, 49, 2, 9, 0, 0, 5])], 40),
  (40, [2], [(40, .iload_n 2, []), (41, .ireturn, [5])], 42)]
def rX2_lookUnder : xRow := ((yX2_lookUnder, cX2_lookUnder, 3, (some .boolean), 0, 0), bX2_lookUnder, pX2)
def pX3 : xPool := [(0, 9, [3, 0, 2, 2]), (4, 15, [4]), (0, 17, [3, 3, 2, 2]), (0, 21, [3, 4, 2, 2]), (0, 25, [3, 5, 2, 2]), (0, 28, [3, 9, 0, 0]), (0, 32, [3, 1, 0, 0]), (0, 9, [3, 0, 2, 0]), (0, 44, [3, 2, 0, 0]), (0, 47, [3, 6, 0, 0]), (0, 50, [3, 7, 0, 0]), (0, 53, [3, 8, 0, 0]), (2, 56, [1, 32, 2, 0, 0, 0, 4]), (2, 60, [1, 33, 3, 9, 0, 0, 4]), (1, 64, [0, 0]), (2, 68, [1, 37, 4, 9, 0, 0, 4]), (1, 72, [0, 1]), (2, 75, [1, 34, 3, 0, 0, 0, 4]), (2, 78, [1, 35, 3, 2, 0, 0, 4]), (1, 82, [1]), (6, 85, [77]), (2, 89, [1, 36, 4, 0, 0, 0, 4]), (1, 93, [0, 2]), (2, 96, [1, 118, 1, 0, 0, 0, 100]), (2, 101, [1, 119, 2, 0, 0, 0, 100]), (0, 17, [3, 3, 2, 0]), (0, 21, [3, 4, 2, 0]), (0, 25, [3, 5, 2, 0]), (2, 105, [1, 44, 2, 0, 0, 0, 4]), (2, 109, [1, 41, 1, 9, 0, 0, 4])]
def bX3_init : xBl := [
  (0, [0], [(0, .aload_n 0, []), (1, .invokespecial 3, [0]), (4, .aload_n 0, []), (5, .sipush 500, []), (8, .newarray .byte, [1]), (10, .putfield 9, [3, 0, 2, 2]), (13, .aload_n 0, []), (14, .sipush 501, []), (17, .anewarray 15, [4]), (20, .putfield 17, [3, 3, 2, 2]), (23, .aload_n 0, []), (24, .sipush 501, []), (27, .newarray .int, [0]), (29, .putfield 21, [3, 4, 2, 2]), (32, .aload_n 0, []), (33, .sipush 501, []), (36, .newarray .int, [0]), (38, .putfield 25, [3, 5, 2, 2]), (41, .aload_n 0, []), (42, .iconst (-1), []), (43, .putfield 28, [3, 9, 0, 0]), (46, .return_, [])], 47)]
def rX3_init : xRow := ((yX3_init, cX3_init, 1, none, 4, 2003), bX3_init, pX3)
def bX3_hasRoom : xBl := [
  (0, [0, 1], [(0, .aload_n 0, []), (1, .getfield 32, [3, 1, 0, 0]), (4, .iload_n 1, []), (5, .iadd, []), (6, .aload_n 0, []), (7, .getfield 9, [3, 0, 2, 0]), (10, .arraylength, []), (11, .if_icmp .gt 7, [18]), (14, .iconst 1, []), (15, .goto 4, [19])], 18),
  (18, [], [(18, .iconst 0, [])], 19),
  (19, [], [(19, .ireturn, [5])], 20)]
def rX3_hasRoom : xRow := ((yX3_hasRoom, cX3_hasRoom, 2, (some .boolean), 0, 0), bX3_hasRoom, pX3)
def bX3_putWord : xBl := [
  (0, [0, 1], [(0, .bipush 24, []), (2, .istore_n 2, [])], 3),
  (3, [0, 1, 2], [(3, .iload_n 2, []), (4, .ifCond .lt 44, [48]), (7, .aload_n 0, []), (8, .getfield 32, [3, 1, 0, 0]), (11, .aload_n 0, []), (12, .getfield 9, [3, 0, 2, 0]), (15, .arraylength, []), (16, .if_icmp .ge 26, [42]), (19, .aload_n 0, []), (20, .getfield 9, [3, 0, 2, 0]), (23, .aload_n 0, []), (24, .getfield 32, [3, 1, 0, 0]), (27, .iload_n 1, []), (28, .iload_n 2, []), (29, .ishr, []), (30, .i2b, []), (31, .bastore, []), (32, .aload_n 0, []), (33, .dup, []), (34, .getfield 32, [3, 1, 0, 0]), (37, .iconst 1, []), (38, .iadd, []), (39, .putfield 32, [3, 1, 0, 0])], 42),
  (42, [0, 1, 2], [(42, .iinc 2 (-8), []), (45, .goto (-42), [3])], 48),
  (48, [], [(48, .return_, [])], 49)]
def rX3_putWord : xRow := ((yX3_putWord, cX3_putWord, 3, none, 0, 0), bX3_putWord, pX3)
def bX3_begin : xBl := [
  (0, [0, 1], [(0, .aload_n 0, []), (1, .iconst 0, []), (2, .iload_n 1, []), (3, .aload_n 0, []), (4, .getfield 32, [3, 1, 0, 0]), (7, .invokestatic 35, [0, 1]), (10, .invokestatic 41, [0, 0]), (13, .putfield 44, [3, 2, 0, 0]), (16, .aload_n 0, []), (17, .iconst 0, []), (18, .putfield 47, [3, 6, 0, 0]), (21, .aload_n 0, []), (22, .iconst 0, []), (23, .putfield 50, [3, 7, 0, 0]), (26, .aload_n 0, []), (27, .iconst 0, []), (28, .putfield 53, [3, 8, 0, 0]), (31, .aload_n 0, []), (32, .iconst (-1), []), (33, .putfield 28, [3, 9, 0, 0]), (36, .iconst 0, []), (37, .istore_n 2, []), (38, .iconst 0, []), (39, .istore_n 3, [])], 40),
  (40, [0, 2, 3], [(40, .iload_n 3, []), (41, .aload_n 0, []), (42, .getfield 44, [3, 2, 0, 0]), (45, .if_icmp .ge 43, [88]), (48, .aload_n 0, []), (49, .iload_n 3, []), (50, .invokevirtual 56, [1, 32, 2, 0, 0, 0, 4]), (53, .istore 4, []), (55, .iload 4, []), (57, .iconst 3, []), (58, .if_icmp .eq 14, [72]), (61, .iload 4, []), (63, .ifCond .eq 16, [79]), (66, .iload 4, []), (68, .iload_n 2, []), (69, .if_icmp .eq 10, [79])], 72),
  (72, [0, 3, 4], [(72, .aload_n 0, []), (73, .iload_n 3, []), (74, .iload 4, []), (76, .invokevirtual 60, [1, 33, 3, 9, 0, 0, 4])], 79),
  (79, [0, 3, 4], [(79, .iload 4, []), (81, .istore_n 2, []), (82, .iinc 3 1, []), (85, .goto (-45), [40])], 88),
  (88, [0], [(88, .aload_n 0, []), (89, .getstatic 64, [0, 0]), (92, .aload_n 0, []), (93, .getfield 44, [3, 2, 0, 0]), (96, .iconst 0, []), (97, .invokevirtual 68, [1, 37, 4, 9, 0, 0, 4]), (100, .aload_n 0, []), (101, .iconst 0, []), (102, .putfield 32, [3, 1, 0, 0]), (105, .return_, [])], 106)]
def rX3_begin : xRow := ((yX3_begin, cX3_begin, 5, none, 0, 0), bX3_begin, pX3)
def bX3_kindAt : xBl := [
  (0, [0, 1], [(0, .aload_n 0, []), (1, .getfield 9, [3, 0, 2, 0]), (4, .iload_n 1, []), (5, .baload, []), (6, .istore_n 2, []), (7, .iload_n 2, []), (8, .bipush 32, []), (10, .if_icmp .ne 5, [15]), (13, .iconst 0, []), (14, .ireturn, [0])], 15),
  (15, [2], [(15, .iload_n 2, []), (16, .bipush 48, []), (18, .if_icmp .lt 11, [29]), (21, .iload_n 2, []), (22, .bipush 57, []), (24, .if_icmp .gt 5, [29]), (27, .iconst 1, []), (28, .ireturn, [0])], 29),
  (29, [2], [(29, .iload_n 2, []), (30, .bipush 97, []), (32, .if_icmp .lt 13, [45]), (35, .iload_n 2, []), (36, .bipush 122, []), (38, .if_icmp .gt 7, [45]), (41, .iconst 2, []), (42, .goto 4, [46])], 45),
  (45, [], [(45, .iconst 3, [])], 46),
  (46, [], [(46, .ireturn, [0])], 47)]
def rX3_kindAt : xRow := ((yX3_kindAt, cX3_kindAt, 3, (some .int), 0, 0), bX3_kindAt, pX3)
def bX3_addToken : xBl := [
  (0, [0, 1, 2], [(0, .iload_n 1, []), (1, .iconst 1, []), (2, .iadd, []), (3, .istore_n 3, [])], 4),
  (4, [0, 1, 2, 3], [(4, .iload_n 2, []), (5, .iconst 3, []), (6, .if_icmp .eq 26, [32]), (9, .iload_n 3, []), (10, .aload_n 0, []), (11, .getfield 44, [3, 2, 0, 0]), (14, .if_icmp .ge 18, [32]), (17, .aload_n 0, []), (18, .iload_n 3, []), (19, .invokevirtual 56, [1, 32, 2, 0, 0, 0, 4]), (22, .iload_n 2, []), (23, .if_icmp .ne 9, [32]), (26, .iinc 3 1, []), (29, .goto (-25), [4])], 32),
  (32, [0, 1, 2, 3], [(32, .iload_n 2, []), (33, .iconst 1, []), (34, .if_icmp .ne 20, [54]), (37, .aload_n 0, []), (38, .getstatic 72, [0, 1]), (41, .iload_n 1, []), (42, .aload_n 0, []), (43, .iload_n 1, []), (44, .iload_n 3, []), (45, .invokevirtual 75, [1, 34, 3, 0, 0, 0, 4]), (48, .invokevirtual 68, [1, 37, 4, 9, 0, 0, 4]), (51, .goto 15, [66])], 54),
  (54, [0, 1, 3], [(54, .aload_n 0, []), (55, .aload_n 0, []), (56, .iload_n 1, []), (57, .iload_n 3, []), (58, .invokevirtual 78, [1, 35, 3, 2, 0, 0, 4]), (61, .iload_n 1, []), (62, .iconst 0, []), (63, .invokevirtual 68, [1, 37, 4, 9, 0, 0, 4])], 66),
  (66, [], [(66, .return_, [])], 67)]
def rX3_addToken : xRow := ((yX3_addToken, cX3_addToken, 4, none, 0, 0), bX3_addToken, pX3)
def bX3_numberIn : xBl := [
  (0, [0, 1, 2], [(0, .iconst 0, []), (1, .istore_n 3, []), (2, .iload_n 1, []), (3, .istore 4, [])], 5),
  (5, [0, 2, 3, 4], [(5, .iload 4, []), (7, .iload_n 2, []), (8, .if_icmp .ge 31, [39]), (11, .iload_n 3, []), (12, .bipush 10, []), (14, .imul, []), (15, .aload_n 0, []), (16, .getfield 9, [3, 0, 2, 0]), (19, .iload 4, []), (21, .baload, []), (22, .bipush 48, []), (24, .isub, []), (25, .iadd, []), (26, .sipush 10000, []), (29, .invokestatic 35, [0, 1]), (32, .istore_n 3, []), (33, .iinc 4 1, []), (36, .goto (-31), [5])], 39),
  (39, [3], [(39, .iload_n 3, []), (40, .ireturn, [0])], 41)]
def rX3_numberIn : xRow := ((yX3_numberIn, cX3_numberIn, 5, (some .int), 0, 0), bX3_numberIn, pX3)
def bX3_tokenIn : xBl := [
  (0, [0, 1, 2], [(0, .getstatic 82, [1]), (3, .astore_n 3, []), (4, .aload_n 3, []), (5, .arraylength, []), (6, .istore 4, []), (8, .iconst 0, []), (9, .istore 5, [])], 11),
  (11, [0, 1, 2, 3, 4, 5], [(11, .iload 5, []), (13, .iload 4, []), (15, .if_icmp .ge 32, [47]), (18, .aload_n 3, []), (19, .iload 5, []), (21, .aaload, []), (22, .astore 6, []), (24, .aload_n 0, []), (25, .aload 6, []), (27, .getfield 85, [77]), (30, .iload_n 1, []), (31, .iload_n 2, []), (32, .invokevirtual 89, [1, 36, 4, 0, 0, 0, 4]), (35, .ifCond .eq 6, [41]), (38, .aload 6, []), (40, .areturn, [])], 41),
  (41, [0, 1, 2, 3, 4, 5], [(41, .iinc 5 1, []), (44, .goto (-33), [11])], 47),
  (47, [], [(47, .getstatic 93, [0, 2]), (50, .areturn, [])], 51)]
def rX3_tokenIn : xRow := ((yX3_tokenIn, cX3_tokenIn, 7, (some (.object "ShellWatch$Token")), 0, 0), bX3_tokenIn, pX3)
def bX3_isSpelled : xBl := [
  (0, [0, 1, 2, 3], [(0, .aload_n 1, []), (1, .invokevirtual 96, [1, 118, 1, 0, 0, 0, 100]), (4, .iload_n 3, []), (5, .iload_n 2, []), (6, .isub, []), (7, .if_icmp .eq 5, [12]), (10, .iconst 0, []), (11, .ireturn, [5])], 12),
  (12, [0, 1, 2], [(12, .iconst 0, []), (13, .istore 4, [])], 15),
  (15, [0, 1, 2, 4], [(15, .iload 4, []), (17, .aload_n 1, []), (18, .invokevirtual 96, [1, 118, 1, 0, 0, 0, 100]), (21, .if_icmp .ge 29, [50]), (24, .aload_n 0, []), (25, .getfield 9, [3, 0, 2, 0]), (28, .iload_n 2, []), (29, .iload 4, []), (31, .iadd, []), (32, .baload, []), (33, .aload_n 1, []), (34, .iload 4, []), (36, .invokevirtual 101, [1, 119, 2, 0, 0, 0, 100]), (39, .if_icmp .eq 5, [44]), (42, .iconst 0, []), (43, .ireturn, [5])], 44),
  (44, [0, 1, 2, 4], [(44, .iinc 4 1, []), (47, .goto (-32), [15])], 50),
  (50, [], [(50, .iconst 1, []), (51, .ireturn, [5])], 52)]
def rX3_isSpelled : xRow := ((yX3_isSpelled, cX3_isSpelled, 5, (some .boolean), 0, 0), bX3_isSpelled, pX3)
def bX3_put : xBl := [
  (0, [0, 1, 2, 3], [(0, .aload_n 0, []), (1, .getfield 47, [3, 6, 0, 0]), (4, .aload_n 0, []), (5, .getfield 17, [3, 3, 2, 0]), (8, .arraylength, []), (9, .if_icmp .ge 43, [52]), (12, .aload_n 0, []), (13, .getfield 17, [3, 3, 2, 0]), (16, .aload_n 0, []), (17, .getfield 47, [3, 6, 0, 0]), (20, .aload_n 1, []), (21, .aastore, []), (22, .aload_n 0, []), (23, .getfield 21, [3, 4, 2, 0]), (26, .aload_n 0, []), (27, .getfield 47, [3, 6, 0, 0]), (30, .iload_n 2, []), (31, .iastore, []), (32, .aload_n 0, []), (33, .getfield 25, [3, 5, 2, 0]), (36, .aload_n 0, []), (37, .getfield 47, [3, 6, 0, 0]), (40, .iload_n 3, []), (41, .iastore, []), (42, .aload_n 0, []), (43, .dup, []), (44, .getfield 47, [3, 6, 0, 0]), (47, .iconst 1, []), (48, .iadd, []), (49, .putfield 47, [3, 6, 0, 0])], 52),
  (52, [], [(52, .return_, [])], 53)]
def rX3_put : xRow := ((yX3_put, cX3_put, 4, none, 0, 0), bX3_put, pX3)
def bX3_token : xBl := [
  (0, [0], [(0, .aload_n 0, []), (1, .getfield 17, [3, 3, 2, 0]), (4, .aload_n 0, []), (5, .getfield 50, [3, 7, 0, 0]), (8, .aaload, []), (9, .areturn, [])], 10)]
def rX3_token : xRow := ((yX3_token, cX3_token, 1, (some (.object "ShellWatch$Token")), 0, 0), bX3_token, pX3)
def bX3_number : xBl := [
  (0, [0], [(0, .aload_n 0, []), (1, .getfield 25, [3, 5, 2, 0]), (4, .aload_n 0, []), (5, .getfield 50, [3, 7, 0, 0]), (8, .iaload, []), (9, .ireturn, [0])], 10)]
def rX3_number : xRow := ((yX3_number, cX3_number, 1, (some .int), 0, 0), bX3_number, pX3)
def bX3_is : xBl := [
  (0, [0, 1], [(0, .aload_n 0, []), (1, .getfield 17, [3, 3, 2, 0]), (4, .aload_n 0, []), (5, .getfield 50, [3, 7, 0, 0]), (8, .aaload, []), (9, .aload_n 1, []), (10, .if_acmp .ne 7, [17]), (13, .iconst 1, []), (14, .goto 4, [18])], 17),
  (17, [], [(17, .iconst 0, [])], 18),
  (18, [], [(18, .ireturn, [5])], 19)]
def rX3_is : xRow := ((yX3_is, cX3_is, 2, (some .boolean), 0, 0), bX3_is, pX3)
def bX3_advance : xBl := [
  (0, [0], [(0, .aload_n 0, []), (1, .getfield 50, [3, 7, 0, 0]), (4, .iconst 1, []), (5, .iadd, []), (6, .aload_n 0, []), (7, .getfield 47, [3, 6, 0, 0]), (10, .if_icmp .ge 13, [23]), (13, .aload_n 0, []), (14, .dup, []), (15, .getfield 50, [3, 7, 0, 0]), (18, .iconst 1, []), (19, .iadd, []), (20, .putfield 50, [3, 7, 0, 0])], 23),
  (23, [], [(23, .return_, [])], 24)]
def rX3_advance : xRow := ((yX3_advance, cX3_advance, 1, none, 0, 0), bX3_advance, pX3)
def bX3_take : xBl := [
  (0, [0, 1], [(0, .aload_n 0, []), (1, .getfield 17, [3, 3, 2, 0]), (4, .aload_n 0, []), (5, .getfield 50, [3, 7, 0, 0]), (8, .aaload, []), (9, .aload_n 1, []), (10, .if_acmp .eq 10, [20]), (13, .aload_n 0, []), (14, .bipush (-2), []), (16, .invokevirtual 105, [1, 44, 2, 0, 0, 0, 4]), (19, .ireturn, [5])], 20),
  (20, [0], [(20, .aload_n 0, []), (21, .invokevirtual 109, [1, 41, 1, 9, 0, 0, 4]), (24, .iconst 1, []), (25, .ireturn, [5])], 26)]
def rX3_take : xRow := ((yX3_take, cX3_take, 2, (some .boolean), 0, 0), bX3_take, pX3)
def bX3_takeNumber : xBl := [
  (0, [0, 1, 2], [(0, .aload_n 0, []), (1, .getfield 25, [3, 5, 2, 0]), (4, .aload_n 0, []), (5, .getfield 50, [3, 7, 0, 0]), (8, .iaload, []), (9, .istore_n 3, []), (10, .aload_n 0, []), (11, .getfield 17, [3, 3, 2, 0]), (14, .aload_n 0, []), (15, .getfield 50, [3, 7, 0, 0]), (18, .aaload, []), (19, .getstatic 72, [0, 1]), (22, .if_acmp .eq 12, [34]), (25, .aload_n 0, []), (26, .bipush (-2), []), (28, .invokevirtual 105, [1, 44, 2, 0, 0, 0, 4]), (31, .pop, []), (32, .iconst (-1), []), (33, .ireturn, [0])], 34),
  (34, [0, 1, 2, 3], [(34, .iload_n 3, []), (35, .iload_n 1, []), (36, .if_icmp .lt 8, [44]), (39, .iload_n 3, []), (40, .iload_n 2, []), (41, .if_icmp .le 12, [53])], 44),
  (44, [0], [(44, .aload_n 0, []), (45, .bipush (-3), []), (47, .invokevirtual 105, [1, 44, 2, 0, 0, 0, 4]), (50, .pop, []), (51, .iconst (-1), []), (52, .ireturn, [0])], 53),
  (53, [0, 3], [(53, .aload_n 0, []), (54, .invokevirtual 109, [1, 41, 1, 9, 0, 0, 4]), (57, .iload_n 3, []), (58, .ireturn, [0])], 59)]
def rX3_takeNumber : xRow := ((yX3_takeNumber, cX3_takeNumber, 4, (some .int), 0, 0), bX3_takeNumber, pX3)
def bX3_fail : xBl := [
  (0, [0, 1], [(0, .aload_n 0, []), (1, .iload_n 1, []), (2, .putfield 53, [3, 8, 0, 0]), (5, .aload_n 0, []), (6, .aload_n 0, []), (7, .getfield 21, [3, 4, 2, 0]), (10, .aload_n 0, []), (11, .getfield 50, [3, 7, 0, 0]), (14, .iaload, []), (15, .putfield 28, [3, 9, 0, 0]), (18, .iconst 0, []), (19, .ireturn, [5])], 20)]
def rX3_fail : xRow := ((yX3_fail, cX3_fail, 2, (some .boolean), 0, 0), bX3_fail, pX3)
def pX4 : xPool := [(0, 9, [4, 0, 2, 2]), (0, 15, [4, 1, 0, 0]), (0, 19, [4, 2, 0, 0]), (0, 22, [4, 3, 0, 0]), (0, 25, [4, 4, 0, 0]), (2, 28, [1, 48, 2, 9, 0, 0, 5]), (0, 9, [4, 0, 2, 0]), (2, 38, [0, 117, 2, 9, 0, 0, 0]), (2, 44, [1, 62, 1, 9, 0, 0, 5]), (2, 57, [1, 68, 2, 0, 0, 0, 6]), (2, 63, [1, 56, 3, 9, 0, 0, 5]), (2, 67, [1, 58, 2, 9, 0, 0, 5]), (2, 71, [1, 57, 3, 9, 0, 0, 5]), (2, 74, [1, 60, 1, 9, 0, 0, 5]), (2, 77, [0, 59, 1, 0, 0, 0, 0]), (2, 80, [1, 51, 1, 0, 0, 0, 5]), (2, 85, [1, 61, 1, 9, 0, 0, 5]), (2, 88, [0, 63, 2, 0, 0, 0, 0])]
def bX4_init : xBl := [
  (0, [0], [(0, .aload_n 0, []), (1, .invokespecial 3, [0]), (4, .aload_n 0, []), (5, .bipush 9, []), (7, .newarray .int, [0]), (9, .putfield 9, [4, 0, 2, 2]), (12, .return_, [])], 13)]
def rX4_init : xRow := ((yX4_init, cX4_init, 1, none, 1, 9), bX4_init, pX4)
def bX4_reset : xBl := [
  (0, [0, 1], [(0, .aload_n 0, []), (1, .iload_n 1, []), (2, .iconst 1, []), (3, .iadd, []), (4, .putfield 15, [4, 1, 0, 0]), (7, .aload_n 0, []), (8, .bipush 80, []), (10, .putfield 19, [4, 2, 0, 0]), (13, .aload_n 0, []), (14, .iconst 1, []), (15, .putfield 22, [4, 3, 0, 0]), (18, .aload_n 0, []), (19, .iconst 0, []), (20, .putfield 25, [4, 4, 0, 0]), (23, .aload_n 0, []), (24, .iconst 0, []), (25, .invokevirtual 28, [1, 48, 2, 9, 0, 0, 5]), (28, .return_, [])], 29)]
def rX4_reset : xRow := ((yX4_reset, cX4_reset, 2, none, 0, 0), bX4_reset, pX4)
def bX4_copyFrom : xBl := [
  (0, [0, 1], [(0, .aload_n 1, []), (1, .getfield 9, [4, 0, 2, 0]), (4, .iconst 0, []), (5, .aload_n 0, []), (6, .getfield 9, [4, 0, 2, 0]), (9, .iconst 0, []), (10, .aload_n 0, []), (11, .getfield 9, [4, 0, 2, 0]), (14, .arraylength, []), (15, .invokestatic 32, [0, 6]), (18, .aload_n 0, []), (19, .aload_n 1, []), (20, .getfield 15, [4, 1, 0, 0]), (23, .putfield 15, [4, 1, 0, 0]), (26, .aload_n 0, []), (27, .aload_n 1, []), (28, .getfield 19, [4, 2, 0, 0]), (31, .putfield 19, [4, 2, 0, 0]), (34, .aload_n 0, []), (35, .aload_n 1, []), (36, .getfield 22, [4, 3, 0, 0]), (39, .putfield 22, [4, 3, 0, 0]), (42, .aload_n 0, []), (43, .aload_n 1, []), (44, .getfield 25, [4, 4, 0, 0]), (47, .putfield 25, [4, 4, 0, 0]), (50, .return_, [])], 51)]
def rX4_copyFrom : xRow := ((yX4_copyFrom, cX4_copyFrom, 2, none, 0, 0), bX4_copyFrom, pX4)
def bX4_know : xBl := [
  (0, [0, 1], [(0, .aload_n 0, []), (1, .getfield 9, [4, 0, 2, 0]), (4, .iconst 0, []), (5, .invokestatic 38, [0, 117, 2, 9, 0, 0, 0]), (8, .aload_n 0, []), (9, .getfield 9, [4, 0, 2, 0]), (12, .iload_n 1, []), (13, .iconst 1, []), (14, .iastore, []), (15, .return_, [])], 16)]
def rX4_know : xRow := ((yX4_know, cX4_know, 2, none, 0, 0), bX4_know, pX4)
def bX4_ruleOut : xBl := [
  (0, [0, 1], [(0, .aload_n 0, []), (1, .getfield 9, [4, 0, 2, 0]), (4, .iload_n 1, []), (5, .iconst 0, []), (6, .iastore, []), (7, .aload_n 0, []), (8, .invokevirtual 44, [1, 62, 1, 9, 0, 0, 5]), (11, .return_, [])], 12)]
def rX4_ruleOut : xRow := ((yX4_ruleOut, cX4_ruleOut, 2, none, 0, 0), bX4_ruleOut, pX4)
def bX4_sum : xBl := [
  (0, [0], [(0, .iconst 0, []), (1, .istore_n 1, []), (2, .iconst 0, []), (3, .istore_n 2, [])], 4),
  (4, [0, 1, 2], [(4, .iload_n 2, []), (5, .aload_n 0, []), (6, .getfield 15, [4, 1, 0, 0]), (9, .if_icmp .ge 18, [27]), (12, .iload_n 1, []), (13, .aload_n 0, []), (14, .getfield 9, [4, 0, 2, 0]), (17, .iload_n 2, []), (18, .iaload, []), (19, .iadd, []), (20, .istore_n 1, []), (21, .iinc 2 1, []), (24, .goto (-20), [4])], 27),
  (27, [1], [(27, .iload_n 1, []), (28, .ireturn, [0])], 29)]
def rX4_sum : xRow := ((yX4_sum, cX4_sum, 3, (some .int), 0, 0), bX4_sum, pX4)
def bX4_greatest : xBl := [
  (0, [0], [(0, .iconst 0, []), (1, .istore_n 1, []), (2, .iconst 0, []), (3, .istore_n 2, [])], 4),
  (4, [0, 1, 2], [(4, .iload_n 2, []), (5, .aload_n 0, []), (6, .getfield 15, [4, 1, 0, 0]), (9, .if_icmp .ge 20, [29]), (12, .iload_n 1, []), (13, .aload_n 0, []), (14, .getfield 9, [4, 0, 2, 0]), (17, .iload_n 2, []), (18, .iaload, []), (19, .invokestatic 47, [0, 0]), (22, .istore_n 1, []), (23, .iinc 2 1, []), (26, .goto (-22), [4])], 29),
  (29, [1], [(29, .iload_n 1, []), (30, .ireturn, [0])], 31)]
def rX4_greatest : xRow := ((yX4_greatest, cX4_greatest, 3, (some .int), 0, 0), bX4_greatest, pX4)
def bX4_countBelieved : xBl := [
  (0, [0], [(0, .iconst 0, []), (1, .istore_n 1, []), (2, .iconst 0, []), (3, .istore_n 2, [])], 4),
  (4, [0, 1, 2], [(4, .iload_n 2, []), (5, .aload_n 0, []), (6, .getfield 15, [4, 1, 0, 0]), (9, .if_icmp .ge 21, [30]), (12, .aload_n 0, []), (13, .getfield 9, [4, 0, 2, 0]), (16, .iload_n 2, []), (17, .iaload, []), (18, .ifCond .le 6, [24]), (21, .iinc 1 1, [])], 24),
  (24, [0, 1, 2], [(24, .iinc 2 1, []), (27, .goto (-23), [4])], 30),
  (30, [1], [(30, .iload_n 1, []), (31, .ireturn, [0])], 32)]
def rX4_countBelieved : xRow := ((yX4_countBelieved, cX4_countBelieved, 3, (some .int), 0, 0), bX4_countBelieved, pX4)
def bX4_likeliestShell : xBl := [
  (0, [0], [(0, .iconst 0, []), (1, .istore_n 1, []), (2, .iconst 1, []), (3, .istore_n 2, [])], 4),
  (4, [0, 1, 2], [(4, .iload_n 2, []), (5, .aload_n 0, []), (6, .getfield 15, [4, 1, 0, 0]), (9, .iconst 1, []), (10, .isub, []), (11, .if_icmp .ge 26, [37]), (14, .aload_n 0, []), (15, .getfield 9, [4, 0, 2, 0]), (18, .iload_n 2, []), (19, .iaload, []), (20, .aload_n 0, []), (21, .getfield 9, [4, 0, 2, 0]), (24, .iload_n 1, []), (25, .iaload, []), (26, .if_icmp .le 5, [31]), (29, .iload_n 2, []), (30, .istore_n 1, [])], 31),
  (31, [0, 1, 2], [(31, .iinc 2 1, []), (34, .goto (-30), [4])], 37),
  (37, [1], [(37, .iload_n 1, []), (38, .ireturn, [0])], 39)]
def rX4_likeliestShell : xRow := ((yX4_likeliestShell, cX4_likeliestShell, 3, (some .int), 0, 0), bX4_likeliestShell, pX4)
def bX4_followMove : xBl := [
  (0, [0, 1, 2, 3, 4, 5], [(0, .aload_n 1, []), (1, .iload_n 3, []), (2, .invokevirtual 57, [1, 68, 2, 0, 0, 0, 6]), (5, .aload_n 1, []), (6, .iload 4, []), (8, .invokevirtual 57, [1, 68, 2, 0, 0, 0, 6]), (11, .if_icmp .eq 7, [18]), (14, .iconst 1, []), (15, .goto 4, [19])], 18),
  (18, [0, 1, 2, 3, 4, 5], [(18, .iconst 0, [])], 19),
  (19, [0, 1, 2, 3, 4, 5], [(19, .istore 6, []), (21, .iload 6, []), (23, .ifCond .eq 17, [40]), (26, .iload_n 2, []), (27, .ifCond .eq 13, [40]), (30, .aload_n 0, []), (31, .iload_n 3, []), (32, .iload 4, []), (34, .invokevirtual 63, [1, 56, 3, 9, 0, 0, 5]), (37, .goto 28, [65])], 40),
  (40, [0, 1, 3, 4, 5, 6], [(40, .iload 5, []), (42, .ifCond .eq 11, [53]), (45, .aload_n 0, []), (46, .aload_n 1, []), (47, .invokevirtual 67, [1, 58, 2, 9, 0, 0, 5]), (50, .goto 15, [65])], 53),
  (53, [0, 3, 4, 6], [(53, .iload 6, []), (55, .ifCond .ne 10, [65]), (58, .aload_n 0, []), (59, .iload_n 3, []), (60, .iload 4, []), (62, .invokevirtual 71, [1, 57, 3, 9, 0, 0, 5])], 65),
  (65, [0], [(65, .aload_n 0, []), (66, .invokevirtual 74, [1, 60, 1, 9, 0, 0, 5]), (69, .return_, [])], 70)]
def rX4_followMove : xRow := ((yX4_followMove, cX4_followMove, 7, none, 0, 0), bX4_followMove, pX4)
def bX4_followStill : xBl := [
  (0, [0, 1, 2], [(0, .iload_n 2, []), (1, .ifCond .eq 8, [9]), (4, .aload_n 0, []), (5, .aload_n 1, []), (6, .invokevirtual 67, [1, 58, 2, 9, 0, 0, 5])], 9),
  (9, [0], [(9, .aload_n 0, []), (10, .invokevirtual 74, [1, 60, 1, 9, 0, 0, 5]), (13, .return_, [])], 14)]
def rX4_followStill : xRow := ((yX4_followStill, cX4_followStill, 3, none, 0, 0), bX4_followStill, pX4)
def bX4_exchange : xBl := [
  (0, [0, 1, 2], [(0, .aload_n 0, []), (1, .getfield 9, [4, 0, 2, 0]), (4, .iload_n 1, []), (5, .iaload, []), (6, .istore_n 3, []), (7, .aload_n 0, []), (8, .getfield 9, [4, 0, 2, 0]), (11, .iload_n 1, []), (12, .aload_n 0, []), (13, .getfield 9, [4, 0, 2, 0]), (16, .iload_n 2, []), (17, .iaload, []), (18, .iastore, []), (19, .aload_n 0, []), (20, .getfield 9, [4, 0, 2, 0]), (23, .iload_n 2, []), (24, .iload_n 3, []), (25, .iastore, []), (26, .return_, [])], 27)]
def rX4_exchange : xRow := ((yX4_exchange, cX4_exchange, 4, none, 0, 0), bX4_exchange, pX4)
def bX4_mix : xBl := [
  (0, [0, 1, 2], [(0, .aload_n 0, []), (1, .getfield 9, [4, 0, 2, 0]), (4, .iload_n 1, []), (5, .iaload, []), (6, .istore_n 3, []), (7, .aload_n 0, []), (8, .getfield 9, [4, 0, 2, 0]), (11, .iload_n 2, []), (12, .iaload, []), (13, .istore 4, []), (15, .iconst 0, []), (16, .istore 5, [])], 18),
  (18, [0, 1, 2, 3, 4, 5], [(18, .iload 5, []), (20, .aload_n 0, []), (21, .getfield 15, [4, 1, 0, 0]), (24, .if_icmp .ge 21, [45]), (27, .aload_n 0, []), (28, .getfield 9, [4, 0, 2, 0]), (31, .iload 5, []), (33, .dup2, []), (34, .iaload, []), (35, .bipush 100, []), (37, .imul, []), (38, .iastore, []), (39, .iinc 5 1, []), (42, .goto (-24), [18])], 45),
  (45, [0, 1, 2, 3, 4], [(45, .aload_n 0, []), (46, .getfield 9, [4, 0, 2, 0]), (49, .iload_n 1, []), (50, .iload_n 3, []), (51, .bipush 100, []), (53, .aload_n 0, []), (54, .getfield 19, [4, 2, 0, 0]), (57, .isub, []), (58, .imul, []), (59, .iload 4, []), (61, .aload_n 0, []), (62, .getfield 19, [4, 2, 0, 0]), (65, .imul, []), (66, .iadd, []), (67, .iastore, []), (68, .aload_n 0, []), (69, .getfield 9, [4, 0, 2, 0]), (72, .iload_n 2, []), (73, .iload 4, []), (75, .bipush 100, []), (77, .aload_n 0, []), (78, .getfield 19, [4, 2, 0, 0]), (81, .isub, []), (82, .imul, []), (83, .iload_n 3, []), (84, .aload_n 0, []), (85, .getfield 19, [4, 2, 0, 0]), (88, .imul, []), (89, .iadd, []), (90, .iastore, []), (91, .return_, [])], 92)]
def rX4_mix : xRow := ((yX4_mix, cX4_mix, 6, none, 0, 0), bX4_mix, pX4)
def bX4_wonder : xBl := [
  (0, [0, 1], [(0, .aload_n 0, []), (1, .getfield 15, [4, 1, 0, 0]), (4, .iconst 1, []), (5, .isub, []), (6, .istore_n 2, []), (7, .iconst 0, []), (8, .istore_n 3, []), (9, .iconst 0, []), (10, .istore 4, []), (12, .iconst 0, []), (13, .istore 5, []), (15, .iconst 0, []), (16, .istore 6, [])], 18),
  (18, [0, 1, 2, 3, 4, 5, 6], [(18, .iload 6, []), (20, .iload_n 2, []), (21, .if_icmp .ge 45, [66]), (24, .iload 5, []), (26, .aload_n 0, []), (27, .getfield 9, [4, 0, 2, 0]), (30, .iload 6, []), (32, .iaload, []), (33, .iadd, []), (34, .istore 5, []), (36, .aload_n 1, []), (37, .iload 6, []), (39, .invokevirtual 57, [1, 68, 2, 0, 0, 0, 6]), (42, .ifCond .eq 18, [60]), (45, .iinc 3 1, []), (48, .iload 4, []), (50, .aload_n 0, []), (51, .getfield 9, [4, 0, 2, 0]), (54, .iload 6, []), (56, .iaload, []), (57, .iadd, []), (58, .istore 4, [])], 60),
  (60, [0, 1, 2, 3, 4, 5, 6], [(60, .iinc 6 1, []), (63, .goto (-45), [18])], 66),
  (66, [0, 1, 2, 3, 4, 5], [(66, .iload_n 2, []), (67, .iload_n 3, []), (68, .isub, []), (69, .istore 6, []), (71, .iload_n 3, []), (72, .invokestatic 77, [0, 59, 1, 0, 0, 0, 0]), (75, .iload 6, []), (77, .invokestatic 77, [0, 59, 1, 0, 0, 0, 0]), (80, .iadd, []), (81, .istore 7, []), (83, .aload_n 0, []), (84, .getfield 9, [4, 0, 2, 0]), (87, .iload_n 2, []), (88, .iaload, []), (89, .istore 8, []), (91, .iconst 0, []), (92, .istore 9, [])], 94),
  (94, [0, 1, 2, 3, 4, 5, 6, 7, 8, 9], [(94, .iload 9, []), (96, .iload_n 2, []), (97, .if_icmp .ge 113, [210]), (100, .aload_n 1, []), (101, .iload 9, []), (103, .invokevirtual 57, [1, 68, 2, 0, 0, 0, 6]), (106, .istore 10, []), (108, .iload 10, []), (110, .ifCond .eq 7, [117]), (113, .iload_n 3, []), (114, .goto 5, [119])], 117),
  (117, [0, 1, 2, 3, 4, 5, 6, 7, 8, 9, 10], [(117, .iload 6, [])], 119),
  (119, [0, 1, 2, 3, 4, 5, 6, 7, 8, 9, 10], [(119, .iconst 1, []), (120, .isub, []), (121, .istore 11, []), (123, .iload 10, []), (125, .ifCond .eq 8, [133]), (128, .iload 4, []), (130, .goto 8, [138])], 133),
  (133, [0, 1, 2, 3, 4, 5, 6, 7, 8, 9, 11], [(133, .iload 5, []), (135, .iload 4, []), (137, .isub, [])], 138),
  (138, [0, 1, 2, 3, 4, 5, 6, 7, 8, 9, 11], [(138, .aload_n 0, []), (139, .getfield 9, [4, 0, 2, 0]), (142, .iload 9, []), (144, .iaload, []), (145, .isub, []), (146, .istore 12, []), (148, .iload 7, []), (150, .iload 11, []), (152, .isub, []), (153, .aload_n 0, []), (154, .getfield 22, [4, 3, 0, 0]), (157, .iadd, []), (158, .aload_n 0, []), (159, .getfield 25, [4, 4, 0, 0]), (162, .iload_n 2, []), (163, .iconst 1, []), (164, .isub, []), (165, .imul, []), (166, .iadd, []), (167, .aload_n 0, []), (168, .getfield 25, [4, 4, 0, 0]), (171, .iload_n 2, []), (172, .imul, []), (173, .iadd, []), (174, .istore 13, []), (176, .aload_n 0, []), (177, .getfield 9, [4, 0, 2, 0]), (180, .iload 9, []), (182, .aload_n 0, []), (183, .getfield 9, [4, 0, 2, 0]), (186, .iload 9, []), (188, .iaload, []), (189, .iload 13, []), (191, .imul, []), (192, .iload 12, []), (194, .iadd, []), (195, .iload 8, []), (197, .aload_n 0, []), (198, .getfield 25, [4, 4, 0, 0]), (201, .imul, []), (202, .iadd, []), (203, .iastore, []), (204, .iinc 9 1, []), (207, .goto (-113), [94])], 210),
  (210, [0, 2, 5, 7, 8], [(210, .aload_n 0, []), (211, .getfield 9, [4, 0, 2, 0]), (214, .iload_n 2, []), (215, .iload 8, []), (217, .iload 7, []), (219, .aload_n 0, []), (220, .getfield 22, [4, 3, 0, 0]), (223, .iadd, []), (224, .aload_n 0, []), (225, .getfield 25, [4, 4, 0, 0]), (228, .iload_n 2, []), (229, .imul, []), (230, .iadd, []), (231, .imul, []), (232, .iload 5, []), (234, .aload_n 0, []), (235, .getfield 25, [4, 4, 0, 0]), (238, .imul, []), (239, .iadd, []), (240, .iastore, []), (241, .return_, [])], 242)]
def rX4_wonder : xRow := ((yX4_wonder, cX4_wonder, 14, none, 0, 0), bX4_wonder, pX4)
def bX4_pairsOf : xBl := [
  (0, [0], [(0, .iload_n 0, []), (1, .iload_n 0, []), (2, .iconst 1, []), (3, .isub, []), (4, .imul, []), (5, .iconst 2, []), (6, .idiv, []), (7, .ireturn, [0])], 8)]
def rX4_pairsOf : xRow := ((yX4_pairsOf, cX4_pairsOf, 1, (some .int), 0, 0), bX4_pairsOf, pX4)
def bX4_settle : xBl := [
  (0, [0], [(0, .aload_n 0, []), (1, .invokevirtual 44, [1, 62, 1, 9, 0, 0, 5]), (4, .iconst 0, []), (5, .istore_n 1, [])], 6),
  (6, [0, 1], [(6, .iload_n 1, []), (7, .bipush 32, []), (9, .if_icmp .ge 22, [31]), (12, .aload_n 0, []), (13, .invokevirtual 80, [1, 51, 1, 0, 0, 0, 5]), (16, .ldc 84, [0, 1000000]), (18, .if_icmp .le 13, [31]), (21, .aload_n 0, []), (22, .invokevirtual 85, [1, 61, 1, 9, 0, 0, 5]), (25, .iinc 1 1, []), (28, .goto (-22), [6])], 31),
  (31, [], [(31, .return_, [])], 32)]
def rX4_settle : xRow := ((yX4_settle, cX4_settle, 2, none, 0, 0), bX4_settle, pX4)
def bX4_halve : xBl := [
  (0, [0], [(0, .iconst 0, []), (1, .istore_n 1, [])], 2),
  (2, [0, 1], [(2, .iload_n 1, []), (3, .aload_n 0, []), (4, .getfield 15, [4, 1, 0, 0]), (7, .if_icmp .ge 25, [32]), (10, .aload_n 0, []), (11, .getfield 9, [4, 0, 2, 0]), (14, .iload_n 1, []), (15, .aload_n 0, []), (16, .getfield 9, [4, 0, 2, 0]), (19, .iload_n 1, []), (20, .iaload, []), (21, .iconst 1, []), (22, .iadd, []), (23, .iconst 2, []), (24, .idiv, []), (25, .iastore, []), (26, .iinc 1 1, []), (29, .goto (-27), [2])], 32),
  (32, [], [(32, .return_, [])], 33)]
def rX4_halve : xRow := ((yX4_halve, cX4_halve, 2, none, 0, 0), bX4_halve, pX4)
def bX4_divideByCommonDivisor : xBl := [
  (0, [0], [(0, .iconst 0, []), (1, .istore_n 1, []), (2, .iconst 0, []), (3, .istore_n 2, [])], 4),
  (4, [0, 1, 2], [(4, .iload_n 2, []), (5, .aload_n 0, []), (6, .getfield 15, [4, 1, 0, 0]), (9, .if_icmp .ge 20, [29]), (12, .aload_n 0, []), (13, .getfield 9, [4, 0, 2, 0]), (16, .iload_n 2, []), (17, .iaload, []), (18, .iload_n 1, []), (19, .invokestatic 88, [0, 63, 2, 0, 0, 0, 0]), (22, .istore_n 1, []), (23, .iinc 2 1, []), (26, .goto (-22), [4])], 29),
  (29, [0, 1], [(29, .iconst 0, []), (30, .istore_n 2, [])], 31),
  (31, [0, 1, 2], [(31, .iload_n 2, []), (32, .aload_n 0, []), (33, .getfield 15, [4, 1, 0, 0]), (36, .if_icmp .ge 24, [60]), (39, .iload_n 1, []), (40, .iconst 1, []), (41, .if_icmp .le 19, [60]), (44, .aload_n 0, []), (45, .getfield 9, [4, 0, 2, 0]), (48, .iload_n 2, []), (49, .dup2, []), (50, .iaload, []), (51, .iload_n 1, []), (52, .idiv, []), (53, .iastore, []), (54, .iinc 2 1, []), (57, .goto (-26), [31])], 60),
  (60, [], [(60, .return_, [])], 61)]
def rX4_divideByCommonDivisor : xRow := ((yX4_divideByCommonDivisor, cX4_divideByCommonDivisor, 3, none, 0, 0), bX4_divideByCommonDivisor, pX4)
def bX4_commonDivisor : xBl := [
  (0, [0, 1], [(0, .iload_n 0, []), (1, .istore_n 2, []), (2, .iload_n 1, []), (3, .istore_n 3, []), (4, .iconst 0, []), (5, .istore 4, [])], 7),
  (7, [2, 3, 4], [(7, .iload 4, []), (9, .bipush 64, []), (11, .if_icmp .ge 23, [34]), (14, .iload_n 3, []), (15, .ifCond .eq 19, [34]), (18, .iload_n 2, []), (19, .iload_n 3, []), (20, .irem, []), (21, .istore 5, []), (23, .iload_n 3, []), (24, .istore_n 2, []), (25, .iload 5, []), (27, .istore_n 3, []), (28, .iinc 4 1, []), (31, .goto (-24), [7])], 34),
  (34, [2], [(34, .iload_n 2, []), (35, .ireturn, [0])], 36)]
def rX4_commonDivisor : xRow := ((yX4_commonDivisor, cX4_commonDivisor, 6, (some .int), 0, 0), bX4_commonDivisor, pX4)

/-! THE TABLE (X10): blocks of the methods as the class file has them, written by wip/whole/gentab.py. -/
def pX10 : xPool := [(3, 9, [0, 3, 10]), (2, 11, [4, 30, 1, 9, 4, 2003, 4]), (0, 12, [8, 0, 2, 2]), (3, 16, [0, 6, 6]), (2, 18, [4, 79, 1, 9, 4, 240, 7]), (0, 19, [8, 1, 2, 2]), (3, 23, [0, 7, 6]), (2, 25, [4, 99, 1, 9, 2, 14, 8]), (0, 26, [8, 2, 2, 2]), (3, 30, [0, 2, 9]), (2, 32, [2, 18, 1, 9, 11, 568, 3]), (0, 33, [8, 3, 2, 2]), (4, 30, [5]), (0, 37, [8, 4, 2, 2]), (0, 37, [8, 4, 2, 0]), (0, 12, [8, 0, 2, 0]), (2, 41, [1, 31, 2, 0, 0, 0, 4]), (2, 45, [1, 32, 2, 9, 0, 0, 4]), (0, 49, [3, 1, 0, 1]), (2, 53, [5, 136, 2, 9, 1, 6, 9]), (2, 56, [1, 33, 2, 9, 0, 0, 4]), (0, 33, [8, 3, 2, 0]), (2, 59, [0, 90, 2, 0, 0, 0, 0]), (0, 65, [3, 8, 0, 1]), (2, 68, [1, 134, 1, 2, 0, 0, 9]), (2, 72, [1, 20, 2, 9, 0, 0, 3]), (0, 76, [2, 0, 2, 1]), (0, 80, [5, 0, 0, 1]), (0, 19, [8, 1, 2, 0]), (2, 85, [1, 80, 1, 9, 0, 0, 7]), (2, 88, [3, 81, 3, 0, 0, 0, 7]), (1, 92, [0, 0]), (2, 98, [1, 44, 2, 0, 0, 0, 4]), (0, 102, [6, 4, 0, 1]), (2, 105, [3, 86, 5, 0, 0, 0, 7]), (0, 109, [6, 5, 0, 1]), (0, 112, [3, 9, 0, 1]), (2, 115, [5, 140, 3, 9, 1, 6, 9]), (2, 119, [1, 133, 1, 2, 0, 0, 9]), (2, 122, [1, 21, 2, 0, 0, 0, 3]), (2, 126, [5, 137, 2, 9, 1, 6, 9]), (2, 129, [1, 75, 3, 0, 0, 0, 6]), (2, 132, [5, 139, 2, 9, 1, 6, 9]), (0, 135, [2, 1, 2, 1]), (0, 139, [4, 0, 2, 1]), (2, 145, [1, 52, 1, 0, 0, 0, 5]), (2, 149, [1, 53, 1, 0, 0, 0, 5]), (2, 152, [1, 55, 1, 0, 0, 0, 5]), (0, 162, [2, 2, 2, 1]), (2, 166, [1, 5, 2, 0, 0, 0, 1]), (0, 171, [2, 3, 2, 1]), (2, 175, [1, 15, 3, 0, 0, 0, 2]), (2, 181, [1, 78, 1, 0, 0, 0, 6]), (2, 186, [0, 141, 2, 0, 1, 7, 0]), (0, 26, [8, 2, 2, 0]), (2, 189, [1, 100, 2, 9, 0, 0, 8]), (2, 192, [1, 103, 2, 0, 0, 0, 8]), (0, 195, [7, 1, 5, 1]), (0, 199, [7, 2, 0, 1]), (0, 202, [7, 3, 0, 1]), (2, 205, [1, 25, 4, 0, 0, 0, 3]), (0, 209, [5, 1, 0, 1]), (2, 212, [5, 138, 3, 9, 3, 18, 9]), (2, 215, [1, 26, 2, 0, 0, 0, 3]), (2, 218, [1, 23, 2, 0, 0, 0, 3]), (2, 226, [1, 135, 2, 0, 0, 0, 9]), (2, 229, [1, 24, 1, 0, 0, 0, 3]), (2, 235, [1, 28, 2, 0, 0, 0, 3]), (0, 240, [2, 6, 0, 1]), (2, 245, [1, 29, 3, 0, 0, 0, 3]), (2, 248, [1, 73, 2, 0, 0, 0, 6]), (2, 251, [1, 74, 3, 9, 0, 0, 6]), (2, 257, [1, 3, 1, 0, 0, 0, 1]), (2, 262, [1, 4, 3, 9, 0, 0, 1]), (0, 265, [0, 2, 0, 1]), (2, 268, [1, 56, 2, 0, 0, 0, 5]), (0, 276, [8, 6, 0, 0]), (0, 279, [8, 5, 0, 0]), (2, 291, [1, 71, 2, 0, 0, 0, 6])]
def bX10_init : xBl := [
  (0, [0], [(0, .aload_n 0, []), (1, .invokespecial 3, [0]), (4, .aload_n 0, []), (5, .new 9, [0, 3, 10]), (8, .dup, []), (9, .invokespecial 11, [4, 30, 1, 9, 4, 2003, 4]), (12, .putfield 12, [8, 0, 2, 2]), (15, .aload_n 0, []), (16, .new 16, [0, 6, 6]), (19, .dup, []), (20, .invokespecial 18, [4, 79, 1, 9, 4, 240, 7]), (23, .putfield 19, [8, 1, 2, 2]), (26, .aload_n 0, []), (27, .new 23, [0, 7, 6]), (30, .dup, []), (31, .invokespecial 25, [4, 99, 1, 9, 2, 14, 8]), (34, .putfield 26, [8, 2, 2, 2]), (37, .aload_n 0, []), (38, .new 30, [0, 2, 9]), (41, .dup, []), (42, .invokespecial 32, [2, 18, 1, 9, 11, 568, 3]), (45, .putfield 33, [8, 3, 2, 2]), (48, .aload_n 0, []), (49, .bipush 9, []), (51, .anewarray 30, [5]), (54, .putfield 37, [8, 4, 2, 2]), (57, .iconst 0, []), (58, .istore_n 1, [])], 59),
  (59, [0, 1], [(59, .iload_n 1, []), (60, .aload_n 0, []), (61, .getfield 37, [8, 4, 2, 0]), (64, .arraylength, []), (65, .if_icmp .ge 22, [87]), (68, .aload_n 0, []), (69, .getfield 37, [8, 4, 2, 0]), (72, .iload_n 1, []), (73, .new 30, [0, 2, 9]), (76, .dup, []), (77, .invokespecial 32, [2, 18, 1, 9, 11, 568, 3]), (80, .aastore, []), (81, .iinc 1 1, []), (84, .goto (-25), [59])], 87),
  (87, [], [(87, .return_, [])], 88)]
def rX10_init : xRow := ((yX10_init, cX10_init, 2, none, 134, 8058), bX10_init, pX10)
def bX10_append : xBl := [
  (0, [0, 1, 2, 3, 4, 5], [(0, .aload_n 0, []), (1, .getfield 12, [8, 0, 2, 0]), (4, .bipush 20, []), (6, .invokevirtual 41, [1, 31, 2, 0, 0, 0, 4]), (9, .ifCond .ne 5, [14]), (12, .iconst (-1), []), (13, .ireturn, [0])], 14),
  (14, [0, 1, 2, 3, 4, 5], [(14, .aload_n 0, []), (15, .getfield 12, [8, 0, 2, 0]), (18, .iload_n 1, []), (19, .invokevirtual 45, [1, 32, 2, 9, 0, 0, 4]), (22, .aload_n 0, []), (23, .getfield 12, [8, 0, 2, 0]), (26, .iload_n 2, []), (27, .invokevirtual 45, [1, 32, 2, 9, 0, 0, 4]), (30, .aload_n 0, []), (31, .getfield 12, [8, 0, 2, 0]), (34, .iload_n 3, []), (35, .invokevirtual 45, [1, 32, 2, 9, 0, 0, 4]), (38, .aload_n 0, []), (39, .getfield 12, [8, 0, 2, 0]), (42, .iload 4, []), (44, .invokevirtual 45, [1, 32, 2, 9, 0, 0, 4]), (47, .aload_n 0, []), (48, .getfield 12, [8, 0, 2, 0]), (51, .iload 5, []), (53, .invokevirtual 45, [1, 32, 2, 9, 0, 0, 4]), (56, .aload_n 0, []), (57, .getfield 12, [8, 0, 2, 0]), (60, .getfield 49, [3, 1, 0, 1]), (63, .ireturn, [0])], 64)]
def rX10_append : xRow := ((yX10_append, cX10_append, 6, (some .int), 0, 0), bX10_append, pX10)
def bX10_load : xBl := [
  (0, [0, 1], [(0, .aload_n 0, []), (1, .iload_n 1, []), (2, .invokevirtual 53, [5, 136, 2, 9, 1, 6, 9]), (5, .aload_n 0, []), (6, .getfield 12, [8, 0, 2, 0]), (9, .iload_n 1, []), (10, .invokevirtual 56, [1, 33, 2, 9, 0, 0, 4]), (13, .aload_n 0, []), (14, .getfield 12, [8, 0, 2, 0]), (17, .aload_n 0, []), (18, .getfield 33, [8, 3, 2, 0]), (21, .invokestatic 59, [0, 90, 2, 0, 0, 0, 0]), (24, .ifCond .ne 11, [35]), (27, .aload_n 0, []), (28, .getfield 12, [8, 0, 2, 0]), (31, .getfield 65, [3, 8, 0, 1]), (34, .ireturn, [0])], 35),
  (35, [0], [(35, .aload_n 0, []), (36, .invokevirtual 68, [1, 134, 1, 2, 0, 0, 9]), (39, .aload_n 0, []), (40, .getfield 33, [8, 3, 2, 0]), (43, .invokevirtual 72, [1, 20, 2, 9, 0, 0, 3]), (46, .aload_n 0, []), (47, .getfield 33, [8, 3, 2, 0]), (50, .getfield 76, [2, 0, 2, 1]), (53, .getfield 80, [5, 0, 0, 1]), (56, .ireturn, [0])], 57)]
def rX10_load : xRow := ((yX10_load, cX10_load, 2, (some .int), 1, 6), bX10_load, pX10)
def bX10_run : xBl := [
  (0, [0, 1], [(0, .aload_n 0, []), (1, .iload_n 1, []), (2, .invokevirtual 53, [5, 136, 2, 9, 1, 6, 9]), (5, .aload_n 0, []), (6, .getfield 12, [8, 0, 2, 0]), (9, .iload_n 1, []), (10, .invokevirtual 56, [1, 33, 2, 9, 0, 0, 4]), (13, .aload_n 0, []), (14, .getfield 19, [8, 1, 2, 0]), (17, .invokevirtual 85, [1, 80, 1, 9, 0, 0, 7]), (20, .aload_n 0, []), (21, .getfield 19, [8, 1, 2, 0]), (24, .aload_n 0, []), (25, .getfield 12, [8, 0, 2, 0]), (28, .iconst 0, []), (29, .invokevirtual 88, [3, 81, 3, 0, 0, 0, 7]), (32, .ifCond .eq 16, [48]), (35, .aload_n 0, []), (36, .getfield 12, [8, 0, 2, 0]), (39, .getstatic 92, [0, 0]), (42, .invokevirtual 98, [1, 44, 2, 0, 0, 0, 4]), (45, .ifCond .ne 11, [56])], 48),
  (48, [0], [(48, .aload_n 0, []), (49, .getfield 12, [8, 0, 2, 0]), (52, .getfield 65, [3, 8, 0, 1]), (55, .ireturn, [0])], 56),
  (56, [0], [(56, .aload_n 0, []), (57, .getfield 19, [8, 1, 2, 0]), (60, .aload_n 0, []), (61, .invokevirtual 68, [1, 134, 1, 2, 0, 0, 9]), (64, .iconst 0, []), (65, .aload_n 0, []), (66, .getfield 19, [8, 1, 2, 0]), (69, .getfield 102, [6, 4, 0, 1]), (72, .iconst 0, []), (73, .invokevirtual 105, [3, 86, 5, 0, 0, 0, 7]), (76, .pop, []), (77, .aload_n 0, []), (78, .getfield 19, [8, 1, 2, 0]), (81, .getfield 109, [6, 5, 0, 1]), (84, .ireturn, [0])], 85)]
def rX10_run : xRow := ((yX10_run, cX10_run, 2, (some .int), 1, 6), bX10_run, pX10)
def bX10_errorOffset : xBl := [
  (0, [0], [(0, .aload_n 0, []), (1, .getfield 12, [8, 0, 2, 0]), (4, .getfield 112, [3, 9, 0, 1]), (7, .ireturn, [0])], 8)]
def rX10_errorOffset : xRow := ((yX10_errorOffset, cX10_errorOffset, 1, (some .int), 0, 0), bX10_errorOffset, pX10)
def bX10_state : xBl := [
  (0, [0, 1], [(0, .aload_n 0, []), (1, .iload_n 1, []), (2, .bipush 12, []), (4, .invokevirtual 115, [5, 140, 3, 9, 1, 6, 9]), (7, .aload_n 0, []), (8, .invokevirtual 119, [1, 133, 1, 2, 0, 0, 9]), (11, .iload_n 1, []), (12, .invokevirtual 122, [1, 21, 2, 0, 0, 0, 3]), (15, .ireturn, [0])], 16)]
def rX10_state : xRow := ((yX10_state, cX10_state, 2, (some .int), 1, 6), bX10_state, pX10)
def bX10_shell : xBl := [
  (0, [0, 1, 2], [(0, .aload_n 0, []), (1, .iload_n 1, []), (2, .invokevirtual 126, [5, 137, 2, 9, 1, 6, 9]), (5, .aload_n 0, []), (6, .iload_n 2, []), (7, .iconst 3, []), (8, .invokevirtual 115, [5, 140, 3, 9, 1, 6, 9]), (11, .aload_n 0, []), (12, .invokevirtual 119, [1, 133, 1, 2, 0, 0, 9]), (15, .getfield 76, [2, 0, 2, 1]), (18, .iload_n 1, []), (19, .iload_n 2, []), (20, .invokevirtual 129, [1, 75, 3, 0, 0, 0, 6]), (23, .ireturn, [0])], 24)]
def rX10_shell : xRow := ((yX10_shell, cX10_shell, 3, (some .int), 2, 12), bX10_shell, pX10)
def bX10_belief : xBl := [
  (0, [0, 1], [(0, .aload_n 0, []), (1, .iload_n 1, []), (2, .invokevirtual 132, [5, 139, 2, 9, 1, 6, 9]), (5, .aload_n 0, []), (6, .invokevirtual 119, [1, 133, 1, 2, 0, 0, 9]), (9, .getfield 135, [2, 1, 2, 1]), (12, .getfield 139, [4, 0, 2, 1]), (15, .iload_n 1, []), (16, .iaload, []), (17, .ireturn, [0])], 18)]
def rX10_belief : xRow := ((yX10_belief, cX10_belief, 2, (some .int), 1, 6), bX10_belief, pX10)
def bX10_chance : xBl := [
  (0, [0, 1], [(0, .aload_n 0, []), (1, .iload_n 1, []), (2, .invokevirtual 132, [5, 139, 2, 9, 1, 6, 9]), (5, .aload_n 0, []), (6, .invokevirtual 119, [1, 133, 1, 2, 0, 0, 9]), (9, .getfield 135, [2, 1, 2, 1]), (12, .astore_n 2, []), (13, .aload_n 2, []), (14, .invokevirtual 145, [1, 52, 1, 0, 0, 0, 5]), (17, .istore_n 3, []), (18, .iload_n 3, []), (19, .ifCond .le 16, [35]), (22, .aload_n 2, []), (23, .getfield 139, [4, 0, 2, 1]), (26, .iload_n 1, []), (27, .iaload, []), (28, .i2d, []), (29, .iload_n 3, []), (30, .i2d, []), (31, .ddiv, []), (32, .goto 4, [36])], 35),
  (35, [], [(35, .dconst 0, [0])], 36),
  (36, [], [(36, .dreturn, [])], 37)]
def rX10_chance : xRow := ((yX10_chance, cX10_chance, 4, (some .double), 1, 6), bX10_chance, pX10)
def bX10_doubt : xBl := [
  (0, [0], [(0, .aload_n 0, []), (1, .invokevirtual 119, [1, 133, 1, 2, 0, 0, 9]), (4, .getfield 135, [2, 1, 2, 1]), (7, .astore_n 1, []), (8, .aload_n 1, []), (9, .invokevirtual 145, [1, 52, 1, 0, 0, 0, 5]), (12, .istore_n 2, []), (13, .iload_n 2, []), (14, .ifCond .le 16, [30]), (17, .fconst 1, [1]), (18, .aload_n 1, []), (19, .invokevirtual 149, [1, 53, 1, 0, 0, 0, 5]), (22, .i2f, []), (23, .iload_n 2, []), (24, .i2f, []), (25, .fdiv, []), (26, .fsub, []), (27, .goto 4, [31])], 30),
  (30, [], [(30, .fconst 0, [0])], 31),
  (31, [], [(31, .freturn, [])], 32)]
def rX10_doubt : xRow := ((yX10_doubt, cX10_doubt, 3, (some .float), 0, 0), bX10_doubt, pX10)
def bX10_guess : xBl := [
  (0, [0], [(0, .aload_n 0, []), (1, .invokevirtual 119, [1, 133, 1, 2, 0, 0, 9]), (4, .getfield 135, [2, 1, 2, 1]), (7, .invokevirtual 152, [1, 55, 1, 0, 0, 0, 5]), (10, .ireturn, [0])], 11)]
def rX10_guess : xRow := ((yX10_guess, cX10_guess, 1, (some .int), 0, 0), bX10_guess, pX10)
def bX10_blinks : xBl := [
  (0, [0, 1], [(0, .iload_n 1, []), (1, .ifCond .lt 10, [11]), (4, .iload_n 1, []), (5, .sipush 20000, []), (8, .if_icmp .le 13, [21])], 11),
  (11, [], [(11, .new 155, [1, 0, 157, 159])], 14),
  (21, [0, 1], [(21, .aload_n 0, []), (22, .invokevirtual 119, [1, 133, 1, 2, 0, 0, 9]), (25, .getfield 162, [2, 2, 2, 1]), (28, .iload_n 1, []), (29, .invokevirtual 166, [1, 5, 2, 0, 0, 0, 1]), (32, .ireturn, [5])], 33)]
def rX10_blinks : xRow := ((yX10_blinks, cX10_blinks, 2, (some .boolean), 1, 6), bX10_blinks, pX10)
def bX10_odds : xBl := [
  (0, [0, 1], [(0, .aload_n 0, []), (1, .iload_n 1, []), (2, .invokevirtual 126, [5, 137, 2, 9, 1, 6, 9]), (5, .aload_n 0, []), (6, .invokevirtual 119, [1, 133, 1, 2, 0, 0, 9]), (9, .astore_n 2, []), (10, .aload_n 2, []), (11, .getfield 171, [2, 3, 2, 1]), (14, .aload_n 2, []), (15, .iload_n 1, []), (16, .invokevirtual 175, [1, 15, 3, 0, 0, 0, 2]), (19, .ireturn, [0])], 20)]
def rX10_odds : xRow := ((yX10_odds, cX10_odds, 3, (some .int), 1, 6), bX10_odds, pX10)
def bX10_fewest : xBl := [
  (0, [0], [(0, .aload_n 0, []), (1, .invokevirtual 119, [1, 133, 1, 2, 0, 0, 9]), (4, .getfield 76, [2, 0, 2, 1]), (7, .invokevirtual 181, [1, 78, 1, 0, 0, 0, 6]), (10, .ireturn, [0])], 11)]
def rX10_fewest : xRow := ((yX10_fewest, cX10_fewest, 1, (some .int), 0, 0), bX10_fewest, pX10)
def bX10_rows : xBl := [
  (0, [0, 1], [(0, .iload_n 1, []), (1, .ifCond .lt 9, [10]), (4, .iload_n 1, []), (5, .bipush 6, []), (7, .if_icmp .le 13, [20])], 10),
  (10, [], [(10, .new 155, [1, 0, 184, 159])], 13),
  (20, [0, 1], [(20, .aload_n 0, []), (21, .invokevirtual 119, [1, 133, 1, 2, 0, 0, 9]), (24, .getfield 76, [2, 0, 2, 1]), (27, .getfield 80, [5, 0, 0, 1]), (30, .istore_n 2, []), (31, .iload_n 2, []), (32, .bipush 6, []), (34, .if_icmp .le 8, [42]), (37, .bipush (-2), []), (39, .goto 8, [47])], 42),
  (42, [1, 2], [(42, .iload_n 2, []), (43, .iload_n 1, []), (44, .invokestatic 186, [0, 141, 2, 0, 1, 7, 0])], 47),
  (47, [], [(47, .ireturn, [0])], 48)]
def rX10_rows : xRow := ((yX10_rows, cX10_rows, 3, (some .int), 1, 7), bX10_rows, pX10)
def bX10_fool : xBl := [
  (0, [0, 1], [(0, .aload_n 0, []), (1, .iload_n 1, []), (2, .iconst 4, []), (3, .invokevirtual 115, [5, 140, 3, 9, 1, 6, 9]), (6, .aload_n 0, []), (7, .getfield 26, [8, 2, 2, 0]), (10, .aload_n 0, []), (11, .invokevirtual 119, [1, 133, 1, 2, 0, 0, 9]), (14, .invokevirtual 189, [1, 100, 2, 9, 0, 0, 8]), (17, .aload_n 0, []), (18, .getfield 26, [8, 2, 2, 0]), (21, .iload_n 1, []), (22, .invokevirtual 192, [1, 103, 2, 0, 0, 0, 8]), (25, .ireturn, [0])], 26)]
def rX10_fool : xRow := ((yX10_fool, cX10_fool, 2, (some .int), 1, 6), bX10_fool, pX10)
def bX10_caught : xBl := [
  (0, [0, 1], [(0, .iload_n 1, []), (1, .iconst 1, []), (2, .if_icmp .lt 9, [11]), (5, .iload_n 1, []), (6, .bipush 20, []), (8, .if_icmp .le 13, [21])], 11),
  (11, [], [(11, .new 155, [1, 0, 193, 159])], 14),
  (21, [0, 1], [(21, .aload_n 0, []), (22, .getfield 33, [8, 3, 2, 0]), (25, .aload_n 0, []), (26, .invokevirtual 119, [1, 133, 1, 2, 0, 0, 9]), (29, .invokevirtual 72, [1, 20, 2, 9, 0, 0, 3]), (32, .iconst 0, []), (33, .istore_n 2, []), (34, .iconst 0, []), (35, .istore_n 3, [])], 36),
  (36, [0, 1, 2, 3], [(36, .iload_n 3, []), (37, .iload_n 1, []), (38, .if_icmp .ge 75, [113]), (41, .aload_n 0, []), (42, .getfield 26, [8, 2, 2, 0]), (45, .aload_n 0, []), (46, .getfield 33, [8, 3, 2, 0]), (49, .invokevirtual 189, [1, 100, 2, 9, 0, 0, 8]), (52, .aload_n 0, []), (53, .getfield 33, [8, 3, 2, 0]), (56, .aload_n 0, []), (57, .getfield 26, [8, 2, 2, 0]), (60, .getfield 195, [7, 1, 5, 1]), (63, .aload_n 0, []), (64, .getfield 26, [8, 2, 2, 0]), (67, .getfield 199, [7, 2, 0, 1]), (70, .aload_n 0, []), (71, .getfield 26, [8, 2, 2, 0]), (74, .getfield 202, [7, 3, 0, 1]), (77, .invokevirtual 205, [1, 25, 4, 0, 0, 0, 3]), (80, .pop, []), (81, .aload_n 0, []), (82, .getfield 33, [8, 3, 2, 0]), (85, .getfield 76, [2, 0, 2, 1]), (88, .getfield 209, [5, 1, 0, 1]), (91, .aload_n 0, []), (92, .getfield 33, [8, 3, 2, 0]), (95, .getfield 135, [2, 1, 2, 1]), (98, .invokevirtual 152, [1, 55, 1, 0, 0, 0, 5]), (101, .if_icmp .ne 6, [107]), (104, .iinc 2 1, [])], 107),
  (107, [0, 1, 2, 3], [(107, .iinc 3 1, []), (110, .goto (-74), [36])], 113),
  (113, [2], [(113, .iload_n 2, []), (114, .ireturn, [0])], 115)]
def rX10_caught : xRow := ((yX10_caught, cX10_caught, 4, (some .int), 1, 6), bX10_caught, pX10)
def bX10_swap : xBl := [
  (0, [0, 1, 2], [(0, .aload_n 0, []), (1, .iload_n 1, []), (2, .iload_n 2, []), (3, .invokevirtual 212, [5, 138, 3, 9, 3, 18, 9]), (6, .aload_n 0, []), (7, .invokevirtual 68, [1, 134, 1, 2, 0, 0, 9]), (10, .iconst 1, []), (11, .iload_n 1, []), (12, .iload_n 2, []), (13, .invokevirtual 205, [1, 25, 4, 0, 0, 0, 3]), (16, .ireturn, [5])], 17)]
def rX10_swap : xRow := ((yX10_swap, cX10_swap, 3, (some .boolean), 3, 18), bX10_swap, pX10)
def bX10_feint : xBl := [
  (0, [0, 1, 2], [(0, .aload_n 0, []), (1, .iload_n 1, []), (2, .iload_n 2, []), (3, .invokevirtual 212, [5, 138, 3, 9, 3, 18, 9]), (6, .aload_n 0, []), (7, .invokevirtual 68, [1, 134, 1, 2, 0, 0, 9]), (10, .iconst 0, []), (11, .iload_n 1, []), (12, .iload_n 2, []), (13, .invokevirtual 205, [1, 25, 4, 0, 0, 0, 3]), (16, .ireturn, [5])], 17)]
def rX10_feint : xRow := ((yX10_feint, cX10_feint, 3, (some .boolean), 3, 18), bX10_feint, pX10)
def bX10_rest : xBl := [
  (0, [0], [(0, .aload_n 0, []), (1, .invokevirtual 68, [1, 134, 1, 2, 0, 0, 9]), (4, .aload_n 0, []), (5, .invokevirtual 119, [1, 133, 1, 2, 0, 0, 9]), (8, .getfield 76, [2, 0, 2, 1]), (11, .getfield 209, [5, 1, 0, 1]), (14, .invokevirtual 215, [1, 26, 2, 0, 0, 0, 3]), (17, .ireturn, [5])], 18)]
def rX10_rest : xRow := ((yX10_rest, cX10_rest, 1, (some .boolean), 0, 0), bX10_rest, pX10)
def bX10_steal : xBl := [
  (0, [0, 1], [(0, .aload_n 0, []), (1, .iload_n 1, []), (2, .invokevirtual 126, [5, 137, 2, 9, 1, 6, 9]), (5, .aload_n 0, []), (6, .invokevirtual 119, [1, 133, 1, 2, 0, 0, 9]), (9, .iload_n 1, []), (10, .invokevirtual 218, [1, 23, 2, 0, 0, 0, 3]), (13, .ifCond .ne 13, [26]), (16, .new 221, [1, 2, 223, 225])], 19),
  (26, [0], [(26, .aload_n 0, []), (27, .aload_n 0, []), (28, .invokevirtual 119, [1, 133, 1, 2, 0, 0, 9]), (31, .getfield 76, [2, 0, 2, 1]), (34, .getfield 80, [5, 0, 0, 1]), (37, .invokevirtual 226, [1, 135, 2, 0, 0, 0, 9]), (40, .ireturn, [0])], 41)]
def rX10_steal : xRow := ((yX10_steal, cX10_steal, 2, (some .int), 2, 12), bX10_steal, pX10)
def bX10_plant : xBl := [
  (0, [0, 1], [(0, .aload_n 0, []), (1, .iload_n 1, []), (2, .invokevirtual 126, [5, 137, 2, 9, 1, 6, 9]), (5, .aload_n 0, []), (6, .invokevirtual 119, [1, 133, 1, 2, 0, 0, 9]), (9, .invokevirtual 229, [1, 24, 1, 0, 0, 0, 3]), (12, .ifCond .ne 13, [25]), (15, .new 221, [1, 2, 233, 225])], 18),
  (25, [0, 1], [(25, .aload_n 0, []), (26, .iload_n 1, []), (27, .invokevirtual 226, [1, 135, 2, 0, 0, 0, 9]), (30, .ireturn, [0])], 31)]
def rX10_plant : xRow := ((yX10_plant, cX10_plant, 2, (some .int), 2, 12), bX10_plant, pX10)
def bX10_peek : xBl := [
  (0, [0, 1], [(0, .aload_n 0, []), (1, .iload_n 1, []), (2, .invokevirtual 126, [5, 137, 2, 9, 1, 6, 9]), (5, .aload_n 0, []), (6, .invokevirtual 68, [1, 134, 1, 2, 0, 0, 9]), (9, .iload_n 1, []), (10, .invokevirtual 235, [1, 28, 2, 0, 0, 0, 3]), (13, .ireturn, [5])], 14)]
def rX10_peek : xRow := ((yX10_peek, cX10_peek, 2, (some .boolean), 1, 6), bX10_peek, pX10)
def bX10_bet : xBl := [
  (0, [0, 1, 2], [(0, .aload_n 0, []), (1, .iload_n 1, []), (2, .invokevirtual 126, [5, 137, 2, 9, 1, 6, 9]), (5, .iload_n 2, []), (6, .iconst 1, []), (7, .if_icmp .lt 10, [17]), (10, .iload_n 2, []), (11, .sipush 999, []), (14, .if_icmp .le 13, [27])], 17),
  (17, [], [(17, .new 155, [1, 0, 238, 159])], 20),
  (27, [0, 1, 2], [(27, .aload_n 0, []), (28, .invokevirtual 119, [1, 133, 1, 2, 0, 0, 9]), (31, .getfield 240, [2, 6, 0, 1]), (34, .iload_n 2, []), (35, .if_icmp .ge 13, [48]), (38, .new 221, [1, 2, 243, 225])], 41),
  (48, [0, 1, 2], [(48, .aload_n 0, []), (49, .invokevirtual 68, [1, 134, 1, 2, 0, 0, 9]), (52, .iload_n 1, []), (53, .iload_n 2, []), (54, .invokevirtual 245, [1, 29, 3, 0, 0, 0, 3]), (57, .ireturn, [0])], 58)]
def rX10_bet : xRow := ((yX10_bet, cX10_bet, 3, (some .int), 2, 12), bX10_bet, pX10)
def bX10_scratch : xBl := [
  (0, [0, 1, 2], [(0, .aload_n 0, []), (1, .iload_n 1, []), (2, .invokevirtual 126, [5, 137, 2, 9, 1, 6, 9]), (5, .aload_n 0, []), (6, .invokevirtual 68, [1, 134, 1, 2, 0, 0, 9]), (9, .getfield 76, [2, 0, 2, 1]), (12, .astore_n 3, []), (13, .aload_n 3, []), (14, .iload_n 1, []), (15, .invokevirtual 248, [1, 73, 2, 0, 0, 0, 6]), (18, .istore 4, []), (20, .aload_n 3, []), (21, .iload_n 1, []), (22, .iload_n 2, []), (23, .invokevirtual 251, [1, 74, 3, 9, 0, 0, 6]), (26, .iload 4, []), (28, .ireturn, [5])], 29)]
def rX10_scratch : xRow := ((yX10_scratch, cX10_scratch, 5, (some .boolean), 1, 6), bX10_scratch, pX10)
def bX10_blink : xBl := [
  (0, [0, 1, 2], [(0, .iload_n 1, []), (1, .ifCond .lt 22, [23]), (4, .iload_n 1, []), (5, .sipush 9999, []), (8, .if_icmp .gt 15, [23]), (11, .iload_n 2, []), (12, .iload_n 1, []), (13, .if_icmp .lt 10, [23]), (16, .iload_n 2, []), (17, .sipush 9999, []), (20, .if_icmp .le 13, [33])], 23),
  (23, [], [(23, .new 155, [1, 0, 255, 159])], 26),
  (33, [0, 1, 2], [(33, .aload_n 0, []), (34, .invokevirtual 119, [1, 133, 1, 2, 0, 0, 9]), (37, .getfield 162, [2, 2, 2, 1]), (40, .invokevirtual 257, [1, 3, 1, 0, 0, 0, 1]), (43, .ifCond .eq 14, [57]), (46, .new 221, [1, 2, 260, 225])], 49),
  (57, [0, 1, 2], [(57, .aload_n 0, []), (58, .invokevirtual 68, [1, 134, 1, 2, 0, 0, 9]), (61, .getfield 162, [2, 2, 2, 1]), (64, .astore_n 3, []), (65, .aload_n 3, []), (66, .iload_n 1, []), (67, .iload_n 2, []), (68, .invokevirtual 262, [1, 4, 3, 9, 0, 0, 1]), (71, .aload_n 3, []), (72, .getfield 265, [0, 2, 0, 1]), (75, .ireturn, [0])], 76)]
def rX10_blink : xRow := ((yX10_blink, cX10_blink, 4, (some .int), 1, 6), bX10_blink, pX10)
def bX10_suspect : xBl := [
  (0, [0, 1], [(0, .aload_n 0, []), (1, .invokevirtual 119, [1, 133, 1, 2, 0, 0, 9]), (4, .getfield 135, [2, 1, 2, 1]), (7, .iload_n 1, []), (8, .invokevirtual 268, [1, 56, 2, 0, 0, 0, 5]), (11, .istore_n 2, []), (12, .iload_n 2, []), (13, .ifCond .ge 14, [27]), (16, .new 271, [1, 3, 273, 275])], 19),
  (27, [2], [(27, .iload_n 2, []), (28, .ireturn, [0])], 29)]
def rX10_suspect : xRow := ((yX10_suspect, cX10_suspect, 3, (some .int), 1, 6), bX10_suspect, pX10)
def bX10_undo : xBl := [
  (0, [0], [(0, .aload_n 0, []), (1, .getfield 276, [8, 6, 0, 0]), (4, .ifCond .ne 5, [9]), (7, .iconst (-1), []), (8, .ireturn, [0])], 9),
  (9, [0], [(9, .aload_n 0, []), (10, .aload_n 0, []), (11, .getfield 279, [8, 5, 0, 0]), (14, .ifCond .le 12, [26]), (17, .aload_n 0, []), (18, .getfield 279, [8, 5, 0, 0]), (21, .iconst 1, []), (22, .isub, []), (23, .goto 5, [28])], 26),
  (26, [0], [(26, .bipush 8, [])], 28),
  (28, [0], [(28, .putfield 279, [8, 5, 0, 0]), (31, .aload_n 0, []), (32, .dup, []), (33, .getfield 276, [8, 6, 0, 0]), (36, .iconst 1, []), (37, .isub, []), (38, .putfield 276, [8, 6, 0, 0]), (41, .aload_n 0, []), (42, .getfield 276, [8, 6, 0, 0]), (45, .ireturn, [0])], 46)]
def rX10_undo : xRow := ((yX10_undo, cX10_undo, 1, (some .int), 0, 0), bX10_undo, pX10)
def bX10_checksum : xBl := [
  (0, [0], [(0, .aload_n 0, []), (1, .invokevirtual 119, [1, 133, 1, 2, 0, 0, 9]), (4, .astore_n 1, []), (5, .lconst 0, []), (6, .lstore_n 2, []), (7, .iconst 0, []), (8, .istore 4, [])], 10),
  (10, [1, 2, 4], [(10, .iload 4, []), (12, .bipush 12, []), (14, .if_icmp .gt 23, [37]), (17, .ldc2_w 282, [0, 31]), (20, .lload_n 2, []), (21, .lmul, []), (22, .aload_n 1, []), (23, .iload 4, []), (25, .invokevirtual 122, [1, 21, 2, 0, 0, 0, 3]), (28, .i2l, []), (29, .ladd, []), (30, .lstore_n 2, []), (31, .iinc 4 1, []), (34, .goto (-24), [10])], 37),
  (37, [1, 2], [(37, .aload_n 1, []), (38, .getfield 76, [2, 0, 2, 1]), (41, .getfield 80, [5, 0, 0, 1]), (44, .istore 4, []), (46, .iconst 0, []), (47, .istore 5, [])], 49),
  (49, [1, 2, 4, 5], [(49, .iload 5, []), (51, .iload 4, []), (53, .if_icmp .ge 61, [114]), (56, .iconst 0, []), (57, .istore 6, [])], 59),
  (59, [1, 2, 4, 5, 6], [(59, .iload 6, []), (61, .iconst 3, []), (62, .if_icmp .gt 28, [90]), (65, .ldc2_w 282, [0, 31]), (68, .lload_n 2, []), (69, .lmul, []), (70, .aload_n 1, []), (71, .getfield 76, [2, 0, 2, 1]), (74, .iload 5, []), (76, .iload 6, []), (78, .invokevirtual 129, [1, 75, 3, 0, 0, 0, 6]), (81, .i2l, []), (82, .ladd, []), (83, .lstore_n 2, []), (84, .iinc 6 1, []), (87, .goto (-28), [59])], 90),
  (90, [1, 2, 4, 5], [(90, .ldc2_w 282, [0, 31]), (93, .lload_n 2, []), (94, .lmul, []), (95, .aload_n 1, []), (96, .getfield 135, [2, 1, 2, 1]), (99, .getfield 139, [4, 0, 2, 1]), (102, .iload 5, []), (104, .iaload, []), (105, .i2l, []), (106, .ladd, []), (107, .lstore_n 2, []), (108, .iinc 5 1, []), (111, .goto (-62), [49])], 114),
  (114, [1, 2, 4], [(114, .ldc2_w 282, [0, 31]), (117, .lload_n 2, []), (118, .lmul, []), (119, .aload_n 1, []), (120, .getfield 135, [2, 1, 2, 1]), (123, .getfield 139, [4, 0, 2, 1]), (126, .iload 4, []), (128, .iaload, []), (129, .i2l, []), (130, .ladd, []), (131, .lreturn, [])], 132)]
def rX10_checksum : xRow := ((yX10_checksum, cX10_checksum, 7, (some .long), 0, 0), bX10_checksum, pX10)
def bX10_game : xBl := [
  (0, [0], [(0, .aload_n 0, []), (1, .getfield 37, [8, 4, 2, 0]), (4, .aload_n 0, []), (5, .getfield 279, [8, 5, 0, 0]), (8, .aaload, []), (9, .areturn, [])], 10)]
def rX10_game : xRow := ((yX10_game, cX10_game, 1, (some (.object "ShellWatch$Game")), 0, 0), bX10_game, pX10)
def bX10_change : xBl := [
  (0, [0], [(0, .aload_n 0, []), (1, .getfield 37, [8, 4, 2, 0]), (4, .aload_n 0, []), (5, .getfield 279, [8, 5, 0, 0]), (8, .aaload, []), (9, .astore_n 1, []), (10, .aload_n 0, []), (11, .aload_n 0, []), (12, .getfield 279, [8, 5, 0, 0]), (15, .iconst 1, []), (16, .iadd, []), (17, .bipush 9, []), (19, .if_icmp .ge 12, [31]), (22, .aload_n 0, []), (23, .getfield 279, [8, 5, 0, 0]), (26, .iconst 1, []), (27, .iadd, []), (28, .goto 4, [32])], 31),
  (31, [0, 1], [(31, .iconst 0, [])], 32),
  (32, [0, 1], [(32, .putfield 279, [8, 5, 0, 0]), (35, .aload_n 0, []), (36, .aload_n 0, []), (37, .getfield 276, [8, 6, 0, 0]), (40, .iconst 1, []), (41, .iadd, []), (42, .bipush 8, []), (44, .invokestatic 284, [0, 1]), (47, .putfield 276, [8, 6, 0, 0]), (50, .aload_n 0, []), (51, .getfield 37, [8, 4, 2, 0]), (54, .aload_n 0, []), (55, .getfield 279, [8, 5, 0, 0]), (58, .aaload, []), (59, .aload_n 1, []), (60, .invokevirtual 72, [1, 20, 2, 9, 0, 0, 3]), (63, .aload_n 0, []), (64, .getfield 37, [8, 4, 2, 0]), (67, .aload_n 0, []), (68, .getfield 279, [8, 5, 0, 0]), (71, .aaload, []), (72, .areturn, [])], 73)]
def rX10_change : xRow := ((yX10_change, cX10_change, 2, (some (.object "ShellWatch$Game")), 0, 0), bX10_change, pX10)
def bX10_moveBall : xBl := [
  (0, [0, 1], [(0, .aload_n 0, []), (1, .invokevirtual 68, [1, 134, 1, 2, 0, 0, 9]), (4, .astore_n 2, []), (5, .aload_n 2, []), (6, .iload_n 1, []), (7, .invokevirtual 215, [1, 26, 2, 0, 0, 0, 3]), (10, .pop, []), (11, .aload_n 2, []), (12, .getfield 135, [2, 1, 2, 1]), (15, .invokevirtual 145, [1, 52, 1, 0, 0, 0, 5]), (18, .ireturn, [0])], 19)]
def rX10_moveBall : xRow := ((yX10_moveBall, cX10_moveBall, 3, (some .int), 0, 0), bX10_moveBall, pX10)
def bX10_requireLength : xBl := [
  (0, [0, 1], [(0, .iload_n 1, []), (1, .ifCond .lt 14, [15]), (4, .iload_n 1, []), (5, .aload_n 0, []), (6, .getfield 12, [8, 0, 2, 0]), (9, .getfield 49, [3, 1, 0, 1]), (12, .if_icmp .le 14, [26])], 15),
  (15, [], [(15, .new 155, [1, 0, 289, 159])], 18),
  (26, [], [(26, .return_, [])], 27)]
def rX10_requireLength : xRow := ((yX10_requireLength, cX10_requireLength, 2, none, 1, 6), bX10_requireLength, pX10)
def bX10_requirePlace : xBl := [
  (0, [0, 1], [(0, .aload_n 0, []), (1, .invokevirtual 119, [1, 133, 1, 2, 0, 0, 9]), (4, .getfield 76, [2, 0, 2, 1]), (7, .iload_n 1, []), (8, .invokevirtual 291, [1, 71, 2, 0, 0, 0, 6]), (11, .ifCond .ne 14, [25]), (14, .new 294, [1, 1, 296, 298])], 17),
  (25, [], [(25, .return_, [])], 26)]
def rX10_requirePlace : xRow := ((yX10_requirePlace, cX10_requirePlace, 2, none, 1, 6), bX10_requirePlace, pX10)
def bX10_requireTwoPlaces : xBl := [
  (0, [0, 1, 2], [(0, .aload_n 0, []), (1, .iload_n 1, []), (2, .invokevirtual 126, [5, 137, 2, 9, 1, 6, 9]), (5, .aload_n 0, []), (6, .iload_n 2, []), (7, .invokevirtual 126, [5, 137, 2, 9, 1, 6, 9]), (10, .iload_n 1, []), (11, .iload_n 2, []), (12, .if_icmp .ne 14, [26]), (15, .new 155, [1, 0, 299, 159])], 18),
  (26, [], [(26, .return_, [])], 27)]
def rX10_requireTwoPlaces : xRow := ((yX10_requireTwoPlaces, cX10_requireTwoPlaces, 3, none, 3, 18), bX10_requireTwoPlaces, pX10)
def bX10_requirePlaceOrHand : xBl := [
  (0, [0, 1], [(0, .iload_n 1, []), (1, .ifCond .lt 17, [18]), (4, .iload_n 1, []), (5, .aload_n 0, []), (6, .invokevirtual 119, [1, 133, 1, 2, 0, 0, 9]), (9, .getfield 76, [2, 0, 2, 1]), (12, .getfield 80, [5, 0, 0, 1]), (15, .if_icmp .le 14, [29])], 18),
  (18, [], [(18, .new 155, [1, 0, 301, 159])], 21),
  (29, [], [(29, .return_, [])], 30)]
def rX10_requirePlaceOrHand : xRow := ((yX10_requirePlaceOrHand, cX10_requirePlaceOrHand, 2, none, 1, 6), bX10_requirePlaceOrHand, pX10)
def bX10_requireWhat : xBl := [
  (0, [1, 2], [(0, .iload_n 1, []), (1, .ifCond .lt 8, [9]), (4, .iload_n 1, []), (5, .iload_n 2, []), (6, .if_icmp .le 14, [20])], 9),
  (9, [], [(9, .new 155, [1, 0, 303, 159])], 12),
  (20, [], [(20, .return_, [])], 21)]
def rX10_requireWhat : xRow := ((yX10_requireWhat, cX10_requireWhat, 3, none, 1, 6), bX10_requireWhat, pX10)
def bX10_countRows : xBl := [
  (0, [0, 1], [(0, .bipush 7, []), (2, .newarray .int, [0]), (4, .astore_n 2, []), (5, .aload_n 2, []), (6, .iconst 0, []), (7, .iconst 1, []), (8, .iastore, []), (9, .iconst 1, []), (10, .istore_n 3, [])], 11),
  (11, [0, 1, 2, 3], [(11, .iload_n 3, []), (12, .iload_n 0, []), (13, .if_icmp .ge 39, [52]), (16, .bipush 6, []), (18, .istore 4, [])], 20),
  (20, [0, 1, 2, 3, 4], [(20, .iload 4, []), (22, .ifCond .le 24, [46]), (25, .aload_n 2, []), (26, .iload 4, []), (28, .dup2, []), (29, .iaload, []), (30, .iload_n 3, []), (31, .aload_n 2, []), (32, .iload 4, []), (34, .iconst 1, []), (35, .isub, []), (36, .iaload, []), (37, .imul, []), (38, .iadd, []), (39, .iastore, []), (40, .iinc 4 (-1), []), (43, .goto (-23), [20])], 46),
  (46, [0, 1, 2, 3], [(46, .iinc 3 1, []), (49, .goto (-38), [11])], 52),
  (52, [1, 2], [(52, .iconst 0, []), (53, .istore_n 3, []), (54, .iload_n 1, []), (55, .istore 4, [])], 57),
  (57, [2, 3, 4], [(57, .iload 4, []), (59, .ifCond .lt 16, [75]), (62, .iload_n 3, []), (63, .aload_n 2, []), (64, .iload 4, []), (66, .iaload, []), (67, .iadd, []), (68, .istore_n 3, []), (69, .iinc 4 (-2), []), (72, .goto (-15), [57])], 75),
  (75, [3], [(75, .iload_n 3, []), (76, .ireturn, [0])], 77)]
def rX10_countRows : xRow := ((yX10_countRows, cX10_countRows, 5, (some .int), 1, 7), bX10_countRows, pX10)

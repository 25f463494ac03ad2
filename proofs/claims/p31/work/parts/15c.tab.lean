/-! THE TABLE (X10): blocks of the methods as the class file has them, written by wip/p31/gentab.py. -/
def pX10 : xPool := [(3, 9, [0, 3, 10]), (2, 11, [4, 28, 1, 9, 4, 2003, 4]), (0, 12, [8, 0, 2, 2]), (3, 16, [0, 6, 6]), (2, 18, [4, 72, 1, 9, 4, 240, 7]), (0, 19, [8, 1, 2, 2]), (3, 23, [0, 7, 6]), (2, 25, [4, 82, 1, 9, 2, 14, 8]), (0, 26, [8, 2, 2, 2]), (3, 30, [0, 2, 9]), (2, 32, [2, 17, 1, 9, 11, 568, 3]), (0, 33, [8, 3, 2, 2]), (4, 30, [5]), (0, 37, [8, 4, 2, 2]), (0, 37, [8, 4, 2, 0]), (0, 12, [8, 0, 2, 0]), (2, 41, [1, 29, 2, 0, 0, 0, 4]), (2, 45, [1, 30, 2, 9, 0, 0, 4]), (0, 49, [3, 1, 0, 1]), (2, 53, [5, 99, 2, 9, 1, 6, 9]), (2, 56, [1, 31, 2, 9, 0, 0, 4]), (0, 33, [8, 3, 2, 0]), (2, 59, [0, 73, 2, 0, 0, 0, 0]), (0, 65, [3, 8, 0, 1]), (2, 68, [1, 97, 1, 2, 0, 0, 9]), (2, 72, [1, 19, 2, 9, 0, 0, 3]), (0, 76, [2, 0, 2, 1]), (0, 80, [5, 0, 0, 1]), (2, 115, [5, 103, 3, 9, 1, 6, 9]), (2, 119, [1, 96, 1, 2, 0, 0, 9]), (2, 122, [1, 20, 2, 0, 0, 0, 3]), (2, 132, [5, 102, 2, 9, 1, 6, 9]), (0, 135, [2, 1, 2, 1]), (0, 139, [4, 0, 2, 1]), (2, 152, [1, 53, 1, 0, 0, 0, 5]), (0, 162, [2, 2, 2, 1]), (2, 166, [1, 7, 2, 0, 0, 0, 1]), (2, 212, [5, 101, 3, 9, 3, 18, 9]), (2, 205, [1, 24, 4, 0, 0, 0, 3]), (0, 209, [5, 1, 0, 1]), (2, 215, [1, 25, 2, 0, 0, 0, 3]), (2, 126, [5, 100, 2, 9, 1, 6, 9]), (2, 218, [1, 22, 2, 0, 0, 0, 3]), (2, 226, [1, 98, 2, 0, 0, 0, 9]), (2, 229, [1, 23, 1, 0, 0, 0, 3]), (2, 235, [1, 27, 2, 0, 0, 0, 3]), (0, 279, [8, 5, 0, 0]), (0, 276, [8, 6, 0, 0]), (2, 145, [1, 50, 1, 0, 0, 0, 5]), (2, 291, [1, 67, 2, 0, 0, 0, 6])]
def bX10_init : xBl := [
  (0, [0], [(0, .aload_n 0, []), (1, .invokespecial 3, [0]), (4, .aload_n 0, []), (5, .new 9, [0, 3, 10]), (8, .dup, []), (9, .invokespecial 11, [4, 28, 1, 9, 4, 2003, 4]), (12, .putfield 12, [8, 0, 2, 2]), (15, .aload_n 0, []), (16, .new 16, [0, 6, 6]), (19, .dup, []), (20, .invokespecial 18, [4, 72, 1, 9, 4, 240, 7]), (23, .putfield 19, [8, 1, 2, 2]), (26, .aload_n 0, []), (27, .new 23, [0, 7, 6]), (30, .dup, []), (31, .invokespecial 25, [4, 82, 1, 9, 2, 14, 8]), (34, .putfield 26, [8, 2, 2, 2]), (37, .aload_n 0, []), (38, .new 30, [0, 2, 9]), (41, .dup, []), (42, .invokespecial 32, [2, 17, 1, 9, 11, 568, 3]), (45, .putfield 33, [8, 3, 2, 2]), (48, .aload_n 0, []), (49, .bipush 9, []), (51, .anewarray 30, [5]), (54, .putfield 37, [8, 4, 2, 2]), (57, .iconst 0, []), (58, .istore_n 1, [])], 59),
  (59, [0, 1], [(59, .iload_n 1, []), (60, .aload_n 0, []), (61, .getfield 37, [8, 4, 2, 0]), (64, .arraylength, []), (65, .if_icmp .ge 22, [87]), (68, .aload_n 0, []), (69, .getfield 37, [8, 4, 2, 0]), (72, .iload_n 1, []), (73, .new 30, [0, 2, 9]), (76, .dup, []), (77, .invokespecial 32, [2, 17, 1, 9, 11, 568, 3]), (80, .aastore, []), (81, .iinc 1 1, []), (84, .goto (-25), [59])], 87),
  (87, [], [(87, .return_, [])], 88)]
def rX10_init : xRow := ((yX10_init, cX10_init, 2, none, 134, 8058), bX10_init, pX10)
def bX10_append : xBl := [
  (0, [0, 1, 2, 3, 4, 5], [(0, .aload_n 0, []), (1, .getfield 12, [8, 0, 2, 0]), (4, .bipush 20, []), (6, .invokevirtual 41, [1, 29, 2, 0, 0, 0, 4]), (9, .ifCond .ne 5, [14]), (12, .iconst (-1), []), (13, .ireturn, [0])], 14),
  (14, [0, 1, 2, 3, 4, 5], [(14, .aload_n 0, []), (15, .getfield 12, [8, 0, 2, 0]), (18, .iload_n 1, []), (19, .invokevirtual 45, [1, 30, 2, 9, 0, 0, 4]), (22, .aload_n 0, []), (23, .getfield 12, [8, 0, 2, 0]), (26, .iload_n 2, []), (27, .invokevirtual 45, [1, 30, 2, 9, 0, 0, 4]), (30, .aload_n 0, []), (31, .getfield 12, [8, 0, 2, 0]), (34, .iload_n 3, []), (35, .invokevirtual 45, [1, 30, 2, 9, 0, 0, 4]), (38, .aload_n 0, []), (39, .getfield 12, [8, 0, 2, 0]), (42, .iload 4, []), (44, .invokevirtual 45, [1, 30, 2, 9, 0, 0, 4]), (47, .aload_n 0, []), (48, .getfield 12, [8, 0, 2, 0]), (51, .iload 5, []), (53, .invokevirtual 45, [1, 30, 2, 9, 0, 0, 4]), (56, .aload_n 0, []), (57, .getfield 12, [8, 0, 2, 0]), (60, .getfield 49, [3, 1, 0, 1]), (63, .ireturn, [0])], 64)]
def rX10_append : xRow := ((yX10_append, cX10_append, 6, (some .int), 0, 0), bX10_append, pX10)
def bX10_load : xBl := [
  (0, [0, 1], [(0, .aload_n 0, []), (1, .iload_n 1, []), (2, .invokevirtual 53, [5, 99, 2, 9, 1, 6, 9]), (5, .aload_n 0, []), (6, .getfield 12, [8, 0, 2, 0]), (9, .iload_n 1, []), (10, .invokevirtual 56, [1, 31, 2, 9, 0, 0, 4]), (13, .aload_n 0, []), (14, .getfield 12, [8, 0, 2, 0]), (17, .aload_n 0, []), (18, .getfield 33, [8, 3, 2, 0]), (21, .invokestatic 59, [0, 73, 2, 0, 0, 0, 0]), (24, .ifCond .ne 11, [35]), (27, .aload_n 0, []), (28, .getfield 12, [8, 0, 2, 0]), (31, .getfield 65, [3, 8, 0, 1]), (34, .ireturn, [0])], 35),
  (35, [0], [(35, .aload_n 0, []), (36, .invokevirtual 68, [1, 97, 1, 2, 0, 0, 9]), (39, .aload_n 0, []), (40, .getfield 33, [8, 3, 2, 0]), (43, .invokevirtual 72, [1, 19, 2, 9, 0, 0, 3]), (46, .aload_n 0, []), (47, .getfield 33, [8, 3, 2, 0]), (50, .getfield 76, [2, 0, 2, 1]), (53, .getfield 80, [5, 0, 0, 1]), (56, .ireturn, [0])], 57)]
def rX10_load : xRow := ((yX10_load, cX10_load, 2, (some .int), 1, 6), bX10_load, pX10)
def bX10_state : xBl := [
  (0, [0, 1], [(0, .aload_n 0, []), (1, .iload_n 1, []), (2, .bipush 12, []), (4, .invokevirtual 115, [5, 103, 3, 9, 1, 6, 9]), (7, .aload_n 0, []), (8, .invokevirtual 119, [1, 96, 1, 2, 0, 0, 9]), (11, .iload_n 1, []), (12, .invokevirtual 122, [1, 20, 2, 0, 0, 0, 3]), (15, .ireturn, [0])], 16)]
def rX10_state : xRow := ((yX10_state, cX10_state, 2, (some .int), 1, 6), bX10_state, pX10)
def bX10_belief : xBl := [
  (0, [0, 1], [(0, .aload_n 0, []), (1, .iload_n 1, []), (2, .invokevirtual 132, [5, 102, 2, 9, 1, 6, 9]), (5, .aload_n 0, []), (6, .invokevirtual 119, [1, 96, 1, 2, 0, 0, 9]), (9, .getfield 135, [2, 1, 2, 1]), (12, .getfield 139, [4, 0, 2, 1]), (15, .iload_n 1, []), (16, .iaload, []), (17, .ireturn, [0])], 18)]
def rX10_belief : xRow := ((yX10_belief, cX10_belief, 2, (some .int), 1, 6), bX10_belief, pX10)
def bX10_guess : xBl := [
  (0, [0], [(0, .aload_n 0, []), (1, .invokevirtual 119, [1, 96, 1, 2, 0, 0, 9]), (4, .getfield 135, [2, 1, 2, 1]), (7, .invokevirtual 152, [1, 53, 1, 0, 0, 0, 5]), (10, .ireturn, [0])], 11)]
def rX10_guess : xRow := ((yX10_guess, cX10_guess, 1, (some .int), 0, 0), bX10_guess, pX10)
def bX10_blinks : xBl := [
  (0, [0, 1], [(0, .iload_n 1, []), (1, .ifCond .lt 10, [11]), (4, .iload_n 1, []), (5, .sipush 20000, []), (8, .if_icmp .le 13, [21])], 11),
  (11, [], [(11, .new 155, [1, 0, 157, 159])], 14),
  (21, [0, 1], [(21, .aload_n 0, []), (22, .invokevirtual 119, [1, 96, 1, 2, 0, 0, 9]), (25, .getfield 162, [2, 2, 2, 1]), (28, .iload_n 1, []), (29, .invokevirtual 166, [1, 7, 2, 0, 0, 0, 1]), (32, .ireturn, [5])], 33)]
def rX10_blinks : xRow := ((yX10_blinks, cX10_blinks, 2, (some .boolean), 1, 6), bX10_blinks, pX10)
def bX10_swap : xBl := [
  (0, [0, 1, 2], [(0, .aload_n 0, []), (1, .iload_n 1, []), (2, .iload_n 2, []), (3, .invokevirtual 212, [5, 101, 3, 9, 3, 18, 9]), (6, .aload_n 0, []), (7, .invokevirtual 68, [1, 97, 1, 2, 0, 0, 9]), (10, .iconst 1, []), (11, .iload_n 1, []), (12, .iload_n 2, []), (13, .invokevirtual 205, [1, 24, 4, 0, 0, 0, 3]), (16, .ireturn, [5])], 17)]
def rX10_swap : xRow := ((yX10_swap, cX10_swap, 3, (some .boolean), 3, 18), bX10_swap, pX10)
def bX10_feint : xBl := [
  (0, [0, 1, 2], [(0, .aload_n 0, []), (1, .iload_n 1, []), (2, .iload_n 2, []), (3, .invokevirtual 212, [5, 101, 3, 9, 3, 18, 9]), (6, .aload_n 0, []), (7, .invokevirtual 68, [1, 97, 1, 2, 0, 0, 9]), (10, .iconst 0, []), (11, .iload_n 1, []), (12, .iload_n 2, []), (13, .invokevirtual 205, [1, 24, 4, 0, 0, 0, 3]), (16, .ireturn, [5])], 17)]
def rX10_feint : xRow := ((yX10_feint, cX10_feint, 3, (some .boolean), 3, 18), bX10_feint, pX10)
def bX10_rest : xBl := [
  (0, [0], [(0, .aload_n 0, []), (1, .invokevirtual 68, [1, 97, 1, 2, 0, 0, 9]), (4, .aload_n 0, []), (5, .invokevirtual 119, [1, 96, 1, 2, 0, 0, 9]), (8, .getfield 76, [2, 0, 2, 1]), (11, .getfield 209, [5, 1, 0, 1]), (14, .invokevirtual 215, [1, 25, 2, 0, 0, 0, 3]), (17, .ireturn, [5])], 18)]
def rX10_rest : xRow := ((yX10_rest, cX10_rest, 1, (some .boolean), 0, 0), bX10_rest, pX10)
def bX10_steal : xBl := [
  (0, [0, 1], [(0, .aload_n 0, []), (1, .iload_n 1, []), (2, .invokevirtual 126, [5, 100, 2, 9, 1, 6, 9]), (5, .aload_n 0, []), (6, .invokevirtual 119, [1, 96, 1, 2, 0, 0, 9]), (9, .iload_n 1, []), (10, .invokevirtual 218, [1, 22, 2, 0, 0, 0, 3]), (13, .ifCond .ne 13, [26]), (16, .new 221, [1, 2, 223, 225])], 19),
  (26, [0], [(26, .aload_n 0, []), (27, .aload_n 0, []), (28, .invokevirtual 119, [1, 96, 1, 2, 0, 0, 9]), (31, .getfield 76, [2, 0, 2, 1]), (34, .getfield 80, [5, 0, 0, 1]), (37, .invokevirtual 226, [1, 98, 2, 0, 0, 0, 9]), (40, .ireturn, [0])], 41)]
def rX10_steal : xRow := ((yX10_steal, cX10_steal, 2, (some .int), 2, 12), bX10_steal, pX10)
def bX10_plant : xBl := [
  (0, [0, 1], [(0, .aload_n 0, []), (1, .iload_n 1, []), (2, .invokevirtual 126, [5, 100, 2, 9, 1, 6, 9]), (5, .aload_n 0, []), (6, .invokevirtual 119, [1, 96, 1, 2, 0, 0, 9]), (9, .invokevirtual 229, [1, 23, 1, 0, 0, 0, 3]), (12, .ifCond .ne 13, [25]), (15, .new 221, [1, 2, 233, 225])], 18),
  (25, [0, 1], [(25, .aload_n 0, []), (26, .iload_n 1, []), (27, .invokevirtual 226, [1, 98, 2, 0, 0, 0, 9]), (30, .ireturn, [0])], 31)]
def rX10_plant : xRow := ((yX10_plant, cX10_plant, 2, (some .int), 2, 12), bX10_plant, pX10)
def bX10_peek : xBl := [
  (0, [0, 1], [(0, .aload_n 0, []), (1, .iload_n 1, []), (2, .invokevirtual 126, [5, 100, 2, 9, 1, 6, 9]), (5, .aload_n 0, []), (6, .invokevirtual 68, [1, 97, 1, 2, 0, 0, 9]), (9, .iload_n 1, []), (10, .invokevirtual 235, [1, 27, 2, 0, 0, 0, 3]), (13, .ireturn, [5])], 14)]
def rX10_peek : xRow := ((yX10_peek, cX10_peek, 2, (some .boolean), 1, 6), bX10_peek, pX10)
def bX10_game : xBl := [
  (0, [0], [(0, .aload_n 0, []), (1, .getfield 37, [8, 4, 2, 0]), (4, .aload_n 0, []), (5, .getfield 279, [8, 5, 0, 0]), (8, .aaload, []), (9, .areturn, [])], 10)]
def rX10_game : xRow := ((yX10_game, cX10_game, 1, (some (.object "ShellWatch$Game")), 0, 0), bX10_game, pX10)
def bX10_change : xBl := [
  (0, [0], [(0, .aload_n 0, []), (1, .getfield 37, [8, 4, 2, 0]), (4, .aload_n 0, []), (5, .getfield 279, [8, 5, 0, 0]), (8, .aaload, []), (9, .astore_n 1, []), (10, .aload_n 0, []), (11, .aload_n 0, []), (12, .getfield 279, [8, 5, 0, 0]), (15, .iconst 1, []), (16, .iadd, []), (17, .bipush 9, []), (19, .if_icmp .ge 12, [31]), (22, .aload_n 0, []), (23, .getfield 279, [8, 5, 0, 0]), (26, .iconst 1, []), (27, .iadd, []), (28, .goto 4, [32])], 31),
  (31, [0, 1], [(31, .iconst 0, [])], 32),
  (32, [0, 1], [(32, .putfield 279, [8, 5, 0, 0]), (35, .aload_n 0, []), (36, .aload_n 0, []), (37, .getfield 276, [8, 6, 0, 0]), (40, .iconst 1, []), (41, .iadd, []), (42, .bipush 8, []), (44, .invokestatic 284, [0, 1]), (47, .putfield 276, [8, 6, 0, 0]), (50, .aload_n 0, []), (51, .getfield 37, [8, 4, 2, 0]), (54, .aload_n 0, []), (55, .getfield 279, [8, 5, 0, 0]), (58, .aaload, []), (59, .aload_n 1, []), (60, .invokevirtual 72, [1, 19, 2, 9, 0, 0, 3]), (63, .aload_n 0, []), (64, .getfield 37, [8, 4, 2, 0]), (67, .aload_n 0, []), (68, .getfield 279, [8, 5, 0, 0]), (71, .aaload, []), (72, .areturn, [])], 73)]
def rX10_change : xRow := ((yX10_change, cX10_change, 2, (some (.object "ShellWatch$Game")), 0, 0), bX10_change, pX10)
def bX10_moveBall : xBl := [
  (0, [0, 1], [(0, .aload_n 0, []), (1, .invokevirtual 68, [1, 97, 1, 2, 0, 0, 9]), (4, .astore_n 2, []), (5, .aload_n 2, []), (6, .iload_n 1, []), (7, .invokevirtual 215, [1, 25, 2, 0, 0, 0, 3]), (10, .pop, []), (11, .aload_n 2, []), (12, .getfield 135, [2, 1, 2, 1]), (15, .invokevirtual 145, [1, 50, 1, 0, 0, 0, 5]), (18, .ireturn, [0])], 19)]
def rX10_moveBall : xRow := ((yX10_moveBall, cX10_moveBall, 3, (some .int), 0, 0), bX10_moveBall, pX10)
def bX10_requireLength : xBl := [
  (0, [0, 1], [(0, .iload_n 1, []), (1, .ifCond .lt 14, [15]), (4, .iload_n 1, []), (5, .aload_n 0, []), (6, .getfield 12, [8, 0, 2, 0]), (9, .getfield 49, [3, 1, 0, 1]), (12, .if_icmp .le 14, [26])], 15),
  (15, [], [(15, .new 155, [1, 0, 289, 159])], 18),
  (26, [], [(26, .return_, [])], 27)]
def rX10_requireLength : xRow := ((yX10_requireLength, cX10_requireLength, 2, none, 1, 6), bX10_requireLength, pX10)
def bX10_requirePlace : xBl := [
  (0, [0, 1], [(0, .aload_n 0, []), (1, .invokevirtual 119, [1, 96, 1, 2, 0, 0, 9]), (4, .getfield 76, [2, 0, 2, 1]), (7, .iload_n 1, []), (8, .invokevirtual 291, [1, 67, 2, 0, 0, 0, 6]), (11, .ifCond .ne 14, [25]), (14, .new 294, [1, 1, 296, 298])], 17),
  (25, [], [(25, .return_, [])], 26)]
def rX10_requirePlace : xRow := ((yX10_requirePlace, cX10_requirePlace, 2, none, 1, 6), bX10_requirePlace, pX10)
def bX10_requireTwoPlaces : xBl := [
  (0, [0, 1, 2], [(0, .aload_n 0, []), (1, .iload_n 1, []), (2, .invokevirtual 126, [5, 100, 2, 9, 1, 6, 9]), (5, .aload_n 0, []), (6, .iload_n 2, []), (7, .invokevirtual 126, [5, 100, 2, 9, 1, 6, 9]), (10, .iload_n 1, []), (11, .iload_n 2, []), (12, .if_icmp .ne 14, [26]), (15, .new 155, [1, 0, 299, 159])], 18),
  (26, [], [(26, .return_, [])], 27)]
def rX10_requireTwoPlaces : xRow := ((yX10_requireTwoPlaces, cX10_requireTwoPlaces, 3, none, 3, 18), bX10_requireTwoPlaces, pX10)
def bX10_requirePlaceOrHand : xBl := [
  (0, [0, 1], [(0, .iload_n 1, []), (1, .ifCond .lt 17, [18]), (4, .iload_n 1, []), (5, .aload_n 0, []), (6, .invokevirtual 119, [1, 96, 1, 2, 0, 0, 9]), (9, .getfield 76, [2, 0, 2, 1]), (12, .getfield 80, [5, 0, 0, 1]), (15, .if_icmp .le 14, [29])], 18),
  (18, [], [(18, .new 155, [1, 0, 301, 159])], 21),
  (29, [], [(29, .return_, [])], 30)]
def rX10_requirePlaceOrHand : xRow := ((yX10_requirePlaceOrHand, cX10_requirePlaceOrHand, 2, none, 1, 6), bX10_requirePlaceOrHand, pX10)
def bX10_requireWhat : xBl := [
  (0, [1, 2], [(0, .iload_n 1, []), (1, .ifCond .lt 8, [9]), (4, .iload_n 1, []), (5, .iload_n 2, []), (6, .if_icmp .le 14, [20])], 9),
  (9, [], [(9, .new 155, [1, 0, 303, 159])], 12),
  (20, [], [(20, .return_, [])], 21)]
def rX10_requireWhat : xRow := ((yX10_requireWhat, cX10_requireWhat, 3, none, 1, 6), bX10_requireWhat, pX10)

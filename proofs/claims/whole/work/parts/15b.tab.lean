/-! THE TABLE (X5, X6, X7, X9): blocks of the methods as the class file has them, written by wip/whole/gentab.py. -/
def pX5 : xPool := [(0, 9, [5, 3, 2, 2]), (0, 15, [5, 4, 2, 2]), (0, 18, [5, 0, 0, 0]), (0, 22, [5, 1, 0, 0]), (0, 25, [5, 2, 0, 0]), (0, 9, [5, 3, 2, 0]), (0, 15, [5, 4, 2, 0]), (2, 34, [1, 71, 2, 0, 0, 0, 6]), (2, 38, [1, 73, 2, 0, 0, 0, 6]), (2, 41, [1, 74, 3, 9, 0, 0, 6]), (2, 45, [0, 77, 3, 0, 0, 0, 0])]
def bX5_init : xBl := [
  (0, [0], [(0, .aload_n 0, []), (1, .invokespecial 3, [0]), (4, .aload_n 0, []), (5, .bipush 8, []), (7, .newarray .int, [0]), (9, .putfield 9, [5, 3, 2, 2]), (12, .aload_n 0, []), (13, .bipush 8, []), (15, .newarray .int, [0]), (17, .putfield 15, [5, 4, 2, 2]), (20, .return_, [])], 21)]
def rX5_init : xRow := ((yX5_init, cX5_init, 1, none, 2, 16), bX5_init, pX5)
def bX5_reset : xBl := [
  (0, [0, 1], [(0, .aload_n 0, []), (1, .iload_n 1, []), (2, .putfield 18, [5, 0, 0, 0]), (5, .aload_n 0, []), (6, .iconst 0, []), (7, .putfield 22, [5, 1, 0, 0]), (10, .aload_n 0, []), (11, .iconst 0, []), (12, .putfield 25, [5, 2, 0, 0]), (15, .iconst 0, []), (16, .istore_n 2, [])], 17),
  (17, [0, 2], [(17, .iload_n 2, []), (18, .aload_n 0, []), (19, .getfield 9, [5, 3, 2, 0]), (22, .arraylength, []), (23, .if_icmp .ge 23, [46]), (26, .aload_n 0, []), (27, .getfield 9, [5, 3, 2, 0]), (30, .iload_n 2, []), (31, .iload_n 2, []), (32, .iastore, []), (33, .aload_n 0, []), (34, .getfield 15, [5, 4, 2, 0]), (37, .iload_n 2, []), (38, .iconst 0, []), (39, .iastore, []), (40, .iinc 2 1, []), (43, .goto (-26), [17])], 46),
  (46, [], [(46, .return_, [])], 47)]
def rX5_reset : xRow := ((yX5_reset, cX5_reset, 3, none, 0, 0), bX5_reset, pX5)
def bX5_copyFrom : xBl := [
  (0, [0, 1], [(0, .aload_n 0, []), (1, .aload_n 1, []), (2, .getfield 18, [5, 0, 0, 0]), (5, .putfield 18, [5, 0, 0, 0]), (8, .aload_n 0, []), (9, .aload_n 1, []), (10, .getfield 22, [5, 1, 0, 0]), (13, .putfield 22, [5, 1, 0, 0]), (16, .aload_n 0, []), (17, .aload_n 1, []), (18, .getfield 25, [5, 2, 0, 0]), (21, .putfield 25, [5, 2, 0, 0]), (24, .aload_n 1, []), (25, .getfield 9, [5, 3, 2, 0]), (28, .iconst 0, []), (29, .aload_n 0, []), (30, .getfield 9, [5, 3, 2, 0]), (33, .iconst 0, []), (34, .bipush 8, []), (36, .invokestatic 28, [0, 6]), (39, .aload_n 1, []), (40, .getfield 15, [5, 4, 2, 0]), (43, .iconst 0, []), (44, .aload_n 0, []), (45, .getfield 15, [5, 4, 2, 0]), (48, .iconst 0, []), (49, .bipush 8, []), (51, .invokestatic 28, [0, 6]), (54, .return_, [])], 55)]
def rX5_copyFrom : xRow := ((yX5_copyFrom, cX5_copyFrom, 2, none, 0, 0), bX5_copyFrom, pX5)
def bX5_hasPlace : xBl := [
  (0, [0, 1], [(0, .iload_n 1, []), (1, .ifCond .lt 15, [16]), (4, .iload_n 1, []), (5, .aload_n 0, []), (6, .getfield 18, [5, 0, 0, 0]), (9, .if_icmp .ge 7, [16]), (12, .iconst 1, []), (13, .goto 4, [17])], 16),
  (16, [], [(16, .iconst 0, [])], 17),
  (17, [], [(17, .ireturn, [5])], 18)]
def rX5_hasPlace : xRow := ((yX5_hasPlace, cX5_hasPlace, 2, (some .boolean), 0, 0), bX5_hasPlace, pX5)
def bX5_hasTwoPlaces : xBl := [
  (0, [0, 1, 2], [(0, .iload_n 1, []), (1, .iload_n 2, []), (2, .if_icmp .eq 23, [25]), (5, .aload_n 0, []), (6, .iload_n 1, []), (7, .invokevirtual 34, [1, 71, 2, 0, 0, 0, 6]), (10, .ifCond .eq 15, [25]), (13, .aload_n 0, []), (14, .iload_n 2, []), (15, .invokevirtual 34, [1, 71, 2, 0, 0, 0, 6]), (18, .ifCond .eq 7, [25]), (21, .iconst 1, []), (22, .goto 4, [26])], 25),
  (25, [], [(25, .iconst 0, [])], 26),
  (26, [], [(26, .ireturn, [5])], 27)]
def rX5_hasTwoPlaces : xRow := ((yX5_hasTwoPlaces, cX5_hasTwoPlaces, 3, (some .boolean), 0, 0), bX5_hasTwoPlaces, pX5)
def bX5_isScratched : xBl := [
  (0, [0, 1], [(0, .aload_n 0, []), (1, .iload_n 1, []), (2, .invokevirtual 34, [1, 71, 2, 0, 0, 0, 6]), (5, .ifCond .eq 19, [24]), (8, .aload_n 0, []), (9, .getfield 25, [5, 2, 0, 0]), (12, .iload_n 1, []), (13, .ishr, []), (14, .iconst 1, []), (15, .iand, []), (16, .iconst 1, []), (17, .if_icmp .ne 7, [24]), (20, .iconst 1, []), (21, .goto 4, [25])], 24),
  (24, [], [(24, .iconst 0, [])], 25),
  (25, [], [(25, .ireturn, [5])], 26)]
def rX5_isScratched : xRow := ((yX5_isScratched, cX5_isScratched, 2, (some .boolean), 0, 0), bX5_isScratched, pX5)
def bX5_setScratched : xBl := [
  (0, [0, 1, 2], [(0, .aload_n 0, []), (1, .iload_n 1, []), (2, .invokevirtual 34, [1, 71, 2, 0, 0, 0, 6]), (5, .ifCond .eq 32, [37]), (8, .aload_n 0, []), (9, .iload_n 2, []), (10, .ifCond .eq 14, [24]), (13, .aload_n 0, []), (14, .getfield 25, [5, 2, 0, 0]), (17, .iconst 1, []), (18, .iload_n 1, []), (19, .ishl, []), (20, .ior, []), (21, .goto 13, [34])], 24),
  (24, [0, 1], [(24, .aload_n 0, []), (25, .getfield 25, [5, 2, 0, 0]), (28, .iconst 1, []), (29, .iload_n 1, []), (30, .ishl, []), (31, .iconst (-1), []), (32, .ixor, []), (33, .iand, [])], 34),
  (34, [], [(34, .putfield 25, [5, 2, 0, 0])], 37),
  (37, [], [(37, .return_, [])], 38)]
def rX5_setScratched : xRow := ((yX5_setScratched, cX5_setScratched, 3, none, 0, 0), bX5_setScratched, pX5)
def bX5_number : xBl := [
  (0, [0, 1, 2], [(0, .iload_n 2, []), (1, .tableswitch 55 0 2 #[27, 34, 48], [56, 0, 28, 35, 49])], 28),
  (28, [0, 1], [(28, .aload_n 0, []), (29, .getfield 9, [5, 3, 2, 0]), (32, .iload_n 1, []), (33, .iaload, []), (34, .ireturn, [0])], 35),
  (35, [0, 1], [(35, .aload_n 0, []), (36, .iload_n 1, []), (37, .invokevirtual 38, [1, 73, 2, 0, 0, 0, 6]), (40, .ifCond .eq 7, [47]), (43, .iconst 1, []), (44, .goto 4, [48])], 47),
  (47, [], [(47, .iconst 0, [])], 48),
  (48, [], [(48, .ireturn, [0])], 49),
  (49, [0, 1], [(49, .aload_n 0, []), (50, .getfield 15, [5, 4, 2, 0]), (53, .iload_n 1, []), (54, .iaload, []), (55, .ireturn, [0])], 56),
  (56, [0, 1], [(56, .aload_n 0, []), (57, .getfield 22, [5, 1, 0, 0]), (60, .iload_n 1, []), (61, .if_icmp .ne 7, [68]), (64, .iconst 1, []), (65, .goto 4, [69])], 68),
  (68, [], [(68, .iconst 0, [])], 69),
  (69, [], [(69, .ireturn, [0])], 70)]
def rX5_number : xRow := ((yX5_number, cX5_number, 3, (some .int), 0, 0), bX5_number, pX5)
def bX5_exchange : xBl := [
  (0, [0, 1, 2], [(0, .aload_n 0, []), (1, .getfield 9, [5, 3, 2, 0]), (4, .iload_n 1, []), (5, .iaload, []), (6, .istore_n 3, []), (7, .aload_n 0, []), (8, .getfield 9, [5, 3, 2, 0]), (11, .iload_n 1, []), (12, .aload_n 0, []), (13, .getfield 9, [5, 3, 2, 0]), (16, .iload_n 2, []), (17, .iaload, []), (18, .iastore, []), (19, .aload_n 0, []), (20, .getfield 9, [5, 3, 2, 0]), (23, .iload_n 2, []), (24, .iload_n 3, []), (25, .iastore, []), (26, .aload_n 0, []), (27, .getfield 15, [5, 4, 2, 0]), (30, .iload_n 1, []), (31, .iaload, []), (32, .istore 4, []), (34, .aload_n 0, []), (35, .getfield 15, [5, 4, 2, 0]), (38, .iload_n 1, []), (39, .aload_n 0, []), (40, .getfield 15, [5, 4, 2, 0]), (43, .iload_n 2, []), (44, .iaload, []), (45, .iconst 1, []), (46, .iadd, []), (47, .iastore, []), (48, .aload_n 0, []), (49, .getfield 15, [5, 4, 2, 0]), (52, .iload_n 2, []), (53, .iload 4, []), (55, .iconst 1, []), (56, .iadd, []), (57, .iastore, []), (58, .aload_n 0, []), (59, .iload_n 1, []), (60, .invokevirtual 38, [1, 73, 2, 0, 0, 0, 6]), (63, .istore 5, []), (65, .aload_n 0, []), (66, .iload_n 1, []), (67, .aload_n 0, []), (68, .iload_n 2, []), (69, .invokevirtual 38, [1, 73, 2, 0, 0, 0, 6]), (72, .invokevirtual 41, [1, 74, 3, 9, 0, 0, 6]), (75, .aload_n 0, []), (76, .iload_n 2, []), (77, .iload 5, []), (79, .invokevirtual 41, [1, 74, 3, 9, 0, 0, 6]), (82, .aload_n 0, []), (83, .aload_n 0, []), (84, .getfield 22, [5, 1, 0, 0]), (87, .iload_n 1, []), (88, .iload_n 2, []), (89, .invokestatic 45, [0, 77, 3, 0, 0, 0, 0]), (92, .putfield 22, [5, 1, 0, 0]), (95, .return_, [])], 96)]
def rX5_exchange : xRow := ((yX5_exchange, cX5_exchange, 6, none, 0, 0), bX5_exchange, pX5)
def bX5_placeBehind : xBl := [
  (0, [0, 1, 2], [(0, .iload_n 0, []), (1, .iload_n 1, []), (2, .if_icmp .ne 5, [7]), (5, .iload_n 2, []), (6, .ireturn, [0])], 7),
  (7, [0, 1, 2], [(7, .iload_n 0, []), (8, .iload_n 2, []), (9, .if_icmp .ne 7, [16]), (12, .iload_n 1, []), (13, .goto 4, [17])], 16),
  (16, [0], [(16, .iload_n 0, [])], 17),
  (17, [], [(17, .ireturn, [0])], 18)]
def rX5_placeBehind : xRow := ((yX5_placeBehind, cX5_placeBehind, 3, (some .int), 0, 0), bX5_placeBehind, pX5)
def bX5_swapsToFirst : xBl := [
  (0, [0], [(0, .iconst 0, []), (1, .istore_n 1, []), (2, .iconst 0, []), (3, .istore_n 2, []), (4, .iconst 0, []), (5, .istore_n 3, [])], 6),
  (6, [0, 1, 2, 3], [(6, .iload_n 3, []), (7, .aload_n 0, []), (8, .getfield 18, [5, 0, 0, 0]), (11, .if_icmp .ge 66, [77]), (14, .iload_n 1, []), (15, .iload_n 3, []), (16, .ishr, []), (17, .iconst 1, []), (18, .iand, []), (19, .ifCond .ne 6, [25]), (22, .iinc 2 1, [])], 25),
  (25, [0, 1, 2, 3], [(25, .iload_n 3, []), (26, .istore 4, []), (28, .iconst 0, []), (29, .istore 5, [])], 31),
  (31, [0, 1, 2, 3, 4, 5], [(31, .iload 5, []), (33, .aload_n 0, []), (34, .getfield 18, [5, 0, 0, 0]), (37, .if_icmp .ge 34, [71]), (40, .iload_n 1, []), (41, .iload 4, []), (43, .ishr, []), (44, .iconst 1, []), (45, .iand, []), (46, .ifCond .ne 25, [71]), (49, .iload_n 1, []), (50, .iconst 1, []), (51, .iload 4, []), (53, .ishl, []), (54, .ior, []), (55, .istore_n 1, []), (56, .aload_n 0, []), (57, .getfield 9, [5, 3, 2, 0]), (60, .iload 4, []), (62, .iaload, []), (63, .istore 4, []), (65, .iinc 5 1, []), (68, .goto (-37), [31])], 71),
  (71, [0, 1, 2, 3], [(71, .iinc 3 1, []), (74, .goto (-68), [6])], 77),
  (77, [0, 2], [(77, .aload_n 0, []), (78, .getfield 18, [5, 0, 0, 0]), (81, .iload_n 2, []), (82, .isub, []), (83, .ireturn, [0])], 84)]
def rX5_swapsToFirst : xRow := ((yX5_swapsToFirst, cX5_swapsToFirst, 6, (some .int), 0, 0), bX5_swapsToFirst, pX5)
def pX6 : xPool := [(4, 11, [4]), (0, 13, [6, 0, 2, 2]), (0, 17, [6, 1, 2, 2]), (0, 21, [6, 2, 2, 2]), (0, 24, [6, 3, 2, 2]), (0, 27, [6, 4, 0, 0]), (0, 31, [6, 5, 0, 0]), (2, 34, [1, 40, 1, 2, 0, 0, 4]), (2, 40, [0, 82, 1, 0, 0, 0, 0]), (2, 44, [1, 46, 2, 0, 0, 0, 4]), (1, 48, [0, 28]), (2, 52, [1, 42, 2, 0, 0, 0, 4]), (2, 56, [1, 84, 3, 0, 0, 0, 7]), (2, 60, [1, 83, 2, 0, 0, 0, 7]), (1, 64, [0, 3]), (2, 67, [1, 44, 2, 0, 0, 0, 4]), (1, 70, [0, 22]), (1, 73, [0, 23]), (1, 76, [0, 25]), (1, 79, [0, 26]), (1, 82, [0, 27]), (1, 85, [0, 24]), (2, 88, [1, 43, 1, 9, 0, 0, 4]), (2, 91, [1, 45, 3, 0, 0, 0, 4]), (2, 95, [1, 85, 4, 9, 0, 0, 7]), (1, 99, [0, 8]), (2, 102, [1, 81, 3, 0, 0, 0, 7]), (1, 105, [0, 9]), (0, 24, [6, 3, 2, 0]), (0, 13, [6, 0, 2, 0]), (0, 17, [6, 1, 2, 0]), (0, 21, [6, 2, 2, 0]), (2, 108, [1, 87, 4, 0, 0, 0, 7]), (2, 112, [1, 88, 3, 0, 0, 0, 7]), (2, 116, [1, 86, 5, 0, 0, 0, 7]), (2, 120, [0, 89, 4, 0, 0, 0, 0]), (2, 124, [1, 25, 4, 0, 0, 0, 3]), (0, 130, [2, 0, 2, 1]), (0, 134, [5, 1, 0, 1]), (2, 139, [1, 26, 2, 0, 0, 0, 3]), (0, 142, [5, 0, 0, 1]), (2, 145, [1, 28, 2, 0, 0, 0, 3]), (2, 148, [1, 72, 3, 0, 0, 0, 6]), (2, 152, [1, 71, 2, 0, 0, 0, 6]), (2, 155, [1, 23, 2, 0, 0, 0, 3]), (2, 158, [1, 24, 1, 0, 0, 0, 3])]
def bX6_init : xBl := [
  (0, [0], [(0, .aload_n 0, []), (1, .invokespecial 3, [0]), (4, .aload_n 0, []), (5, .bipush 60, []), (7, .anewarray 11, [4]), (10, .putfield 13, [6, 0, 2, 2]), (13, .aload_n 0, []), (14, .bipush 60, []), (16, .newarray .int, [0]), (18, .putfield 17, [6, 1, 2, 2]), (21, .aload_n 0, []), (22, .bipush 60, []), (24, .newarray .int, [0]), (26, .putfield 21, [6, 2, 2, 2]), (29, .aload_n 0, []), (30, .bipush 60, []), (32, .newarray .int, [0]), (34, .putfield 24, [6, 3, 2, 2]), (37, .return_, [])], 38)]
def rX6_init : xRow := ((yX6_init, cX6_init, 1, none, 4, 240), bX6_init, pX6)
def bX6_clear : xBl := [
  (0, [0], [(0, .aload_n 0, []), (1, .iconst 0, []), (2, .putfield 27, [6, 4, 0, 0]), (5, .aload_n 0, []), (6, .iconst 0, []), (7, .putfield 31, [6, 5, 0, 0]), (10, .return_, [])], 11)]
def rX6_clear : xRow := ((yX6_clear, cX6_clear, 1, none, 0, 0), bX6_clear, pX6)
def bX6_readCommands : xBl := [
  (0, [0, 1, 2], [(0, .iconst 0, []), (1, .istore_n 3, [])], 2),
  (2, [0, 1, 2, 3], [(2, .iload_n 3, []), (3, .sipush 500, []), (6, .if_icmp .ge 78, [84]), (9, .aload_n 1, []), (10, .invokevirtual 34, [1, 40, 1, 2, 0, 0, 4]), (13, .invokestatic 40, [0, 82, 1, 0, 0, 0, 0]), (16, .ifCond .lt 68, [84]), (19, .aload_n 0, []), (20, .getfield 27, [6, 4, 0, 0]), (23, .bipush 60, []), (25, .if_icmp .lt 10, [35]), (28, .aload_n 1, []), (29, .bipush (-5), []), (31, .invokevirtual 44, [1, 46, 2, 0, 0, 0, 4]), (34, .ireturn, [5])], 35),
  (35, [0, 1, 2, 3], [(35, .aload_n 1, []), (36, .getstatic 48, [0, 28]), (39, .invokevirtual 52, [1, 42, 2, 0, 0, 0, 4]), (42, .ifCond .eq 12, [54]), (45, .aload_n 0, []), (46, .aload_n 1, []), (47, .iload_n 2, []), (48, .invokevirtual 56, [1, 84, 3, 0, 0, 0, 7]), (51, .goto 8, [59])], 54),
  (54, [0, 1, 2, 3], [(54, .aload_n 0, []), (55, .aload_n 1, []), (56, .invokevirtual 60, [1, 83, 2, 0, 0, 0, 7])], 59),
  (59, [0, 1, 2, 3], [(59, .istore 4, []), (61, .iload 4, []), (63, .ifCond .eq 13, [76]), (66, .aload_n 1, []), (67, .getstatic 64, [0, 3]), (70, .invokevirtual 67, [1, 44, 2, 0, 0, 0, 4]), (73, .ifCond .ne 5, [78])], 76),
  (76, [], [(76, .iconst 0, []), (77, .ireturn, [5])], 78),
  (78, [0, 1, 2, 3], [(78, .iinc 3 1, []), (81, .goto (-79), [2])], 84),
  (84, [], [(84, .iconst 1, []), (85, .ireturn, [5])], 86)]
def rX6_readCommands : xRow := ((yX6_readCommands, cX6_readCommands, 5, (some .boolean), 0, 0), bX6_readCommands, pX6)
def bX6_numbersOf : xBl := [
  (0, [0], [(0, .aload_n 0, []), (1, .getstatic 70, [0, 22]), (4, .if_acmp .eq 10, [14]), (7, .aload_n 0, []), (8, .getstatic 73, [0, 23]), (11, .if_acmp .ne 5, [16])], 14),
  (14, [], [(14, .iconst 2, []), (15, .ireturn, [0])], 16),
  (16, [0], [(16, .aload_n 0, []), (17, .getstatic 76, [0, 25]), (20, .if_acmp .eq 24, [44]), (23, .aload_n 0, []), (24, .getstatic 79, [0, 26]), (27, .if_acmp .eq 17, [44]), (30, .aload_n 0, []), (31, .getstatic 82, [0, 27]), (34, .if_acmp .eq 10, [44]), (37, .aload_n 0, []), (38, .getstatic 48, [0, 28]), (41, .if_acmp .ne 5, [46])], 44),
  (44, [], [(44, .iconst 1, []), (45, .ireturn, [0])], 46),
  (46, [0], [(46, .aload_n 0, []), (47, .getstatic 85, [0, 24]), (50, .if_acmp .ne 7, [57]), (53, .iconst 0, []), (54, .goto 4, [58])], 57),
  (57, [], [(57, .iconst (-1), [])], 58),
  (58, [], [(58, .ireturn, [0])], 59)]
def rX6_numbersOf : xRow := ((yX6_numbersOf, cX6_numbersOf, 1, (some .int), 0, 0), bX6_numbersOf, pX6)
def bX6_readCommand : xBl := [
  (0, [0, 1], [(0, .aload_n 1, []), (1, .invokevirtual 34, [1, 40, 1, 2, 0, 0, 4]), (4, .astore_n 2, []), (5, .aload_n 2, []), (6, .invokestatic 40, [0, 82, 1, 0, 0, 0, 0]), (9, .istore_n 3, []), (10, .aload_n 1, []), (11, .invokevirtual 88, [1, 43, 1, 9, 0, 0, 4]), (14, .iload_n 3, []), (15, .ifCond .le 14, [29]), (18, .aload_n 1, []), (19, .iconst 0, []), (20, .sipush 9999, []), (23, .invokevirtual 91, [1, 45, 3, 0, 0, 0, 4]), (26, .goto 4, [30])], 29),
  (29, [0, 1, 2, 3], [(29, .iconst 0, [])], 30),
  (30, [0, 1, 2, 3], [(30, .istore 4, []), (32, .iload 4, []), (34, .ifCond .ge 5, [39]), (37, .iconst 0, []), (38, .ireturn, [5])], 39),
  (39, [0, 1, 2, 3, 4], [(39, .iload_n 3, []), (40, .iconst 1, []), (41, .if_icmp .le 14, [55]), (44, .aload_n 1, []), (45, .iconst 0, []), (46, .sipush 9999, []), (49, .invokevirtual 91, [1, 45, 3, 0, 0, 0, 4]), (52, .goto 4, [56])], 55),
  (55, [0, 2, 4], [(55, .iconst 0, [])], 56),
  (56, [0, 2, 4], [(56, .istore 5, []), (58, .iload 5, []), (60, .ifCond .ge 5, [65]), (63, .iconst 0, []), (64, .ireturn, [5])], 65),
  (65, [0, 2, 4, 5], [(65, .aload_n 0, []), (66, .aload_n 2, []), (67, .iload 4, []), (69, .iload 5, []), (71, .invokevirtual 95, [1, 85, 4, 9, 0, 0, 7]), (74, .iconst 1, []), (75, .ireturn, [5])], 76)]
def rX6_readCommand : xRow := ((yX6_readCommand, cX6_readCommand, 6, (some .boolean), 0, 0), bX6_readCommand, pX6)
def bX6_readRepeat : xBl := [
  (0, [0, 1, 2], [(0, .iload_n 2, []), (1, .iconst 3, []), (2, .if_icmp .lt 10, [12]), (5, .aload_n 1, []), (6, .bipush (-6), []), (8, .invokevirtual 44, [1, 46, 2, 0, 0, 0, 4]), (11, .ireturn, [5])], 12),
  (12, [0, 1, 2], [(12, .aload_n 1, []), (13, .invokevirtual 88, [1, 43, 1, 9, 0, 0, 4]), (16, .aload_n 1, []), (17, .iconst 1, []), (18, .bipush 20, []), (20, .invokevirtual 91, [1, 45, 3, 0, 0, 0, 4]), (23, .istore_n 3, []), (24, .iload_n 3, []), (25, .ifCond .ge 5, [30]), (28, .iconst 0, []), (29, .ireturn, [5])], 30),
  (30, [0, 1, 2, 3], [(30, .aload_n 0, []), (31, .getfield 27, [6, 4, 0, 0]), (34, .istore 4, []), (36, .aload_n 0, []), (37, .getstatic 48, [0, 28]), (40, .iload_n 3, []), (41, .iconst 0, []), (42, .invokevirtual 95, [1, 85, 4, 9, 0, 0, 7]), (45, .aload_n 1, []), (46, .getstatic 99, [0, 8]), (49, .invokevirtual 67, [1, 44, 2, 0, 0, 0, 4]), (52, .ifCond .eq 24, [76]), (55, .aload_n 0, []), (56, .aload_n 1, []), (57, .iload_n 2, []), (58, .iconst 1, []), (59, .iadd, []), (60, .invokevirtual 102, [1, 81, 3, 0, 0, 0, 7]), (63, .ifCond .eq 13, [76]), (66, .aload_n 1, []), (67, .getstatic 105, [0, 9]), (70, .invokevirtual 67, [1, 44, 2, 0, 0, 0, 4]), (73, .ifCond .ne 5, [78])], 76),
  (76, [], [(76, .iconst 0, []), (77, .ireturn, [5])], 78),
  (78, [0, 4], [(78, .aload_n 0, []), (79, .getfield 24, [6, 3, 2, 0]), (82, .iload 4, []), (84, .aload_n 0, []), (85, .getfield 27, [6, 4, 0, 0]), (88, .iastore, []), (89, .iconst 1, []), (90, .ireturn, [5])], 91)]
def rX6_readRepeat : xRow := ((yX6_readRepeat, cX6_readRepeat, 5, (some .boolean), 0, 0), bX6_readRepeat, pX6)
def bX6_put : xBl := [
  (0, [0, 1, 2, 3], [(0, .aload_n 0, []), (1, .getfield 27, [6, 4, 0, 0]), (4, .aload_n 0, []), (5, .getfield 13, [6, 0, 2, 0]), (8, .arraylength, []), (9, .if_icmp .ge 43, [52]), (12, .aload_n 0, []), (13, .getfield 13, [6, 0, 2, 0]), (16, .aload_n 0, []), (17, .getfield 27, [6, 4, 0, 0]), (20, .aload_n 1, []), (21, .aastore, []), (22, .aload_n 0, []), (23, .getfield 17, [6, 1, 2, 0]), (26, .aload_n 0, []), (27, .getfield 27, [6, 4, 0, 0]), (30, .iload_n 2, []), (31, .iastore, []), (32, .aload_n 0, []), (33, .getfield 21, [6, 2, 2, 0]), (36, .aload_n 0, []), (37, .getfield 27, [6, 4, 0, 0]), (40, .iload_n 3, []), (41, .iastore, []), (42, .aload_n 0, []), (43, .dup, []), (44, .getfield 27, [6, 4, 0, 0]), (47, .iconst 1, []), (48, .iadd, []), (49, .putfield 27, [6, 4, 0, 0])], 52),
  (52, [], [(52, .return_, [])], 53)]
def rX6_put : xRow := ((yX6_put, cX6_put, 4, none, 0, 0), bX6_put, pX6)
def bX6_performRange : xBl := [
  (0, [0, 1, 2, 3, 4], [(0, .iload_n 2, []), (1, .istore 5, []), (3, .iconst 0, []), (4, .istore 6, [])], 6),
  (6, [0, 1, 3, 4, 5, 6], [(6, .iload 6, []), (8, .bipush 60, []), (10, .if_icmp .ge 89, [99]), (13, .iload 5, []), (15, .iload_n 3, []), (16, .if_icmp .ge 83, [99]), (19, .aload_n 0, []), (20, .getfield 13, [6, 0, 2, 0]), (23, .iload 5, []), (25, .aaload, []), (26, .getstatic 48, [0, 28]), (29, .if_acmp .ne 7, [36]), (32, .iconst 1, []), (33, .goto 4, [37])], 36),
  (36, [0, 1, 3, 4, 5, 6], [(36, .iconst 0, [])], 37),
  (37, [0, 1, 3, 4, 5, 6], [(37, .istore 7, []), (39, .iload 7, []), (41, .ifCond .eq 15, [56]), (44, .aload_n 0, []), (45, .aload_n 1, []), (46, .iload 5, []), (48, .iload 4, []), (50, .invokevirtual 108, [1, 87, 4, 0, 0, 0, 7]), (53, .goto 10, [63])], 56),
  (56, [0, 1, 3, 4, 5, 6, 7], [(56, .aload_n 0, []), (57, .aload_n 1, []), (58, .iload 5, []), (60, .invokevirtual 112, [1, 88, 3, 0, 0, 0, 7])], 63),
  (63, [0, 1, 3, 4, 5, 6, 7], [(63, .istore 8, []), (65, .iload 8, []), (67, .ifCond .ne 5, [72]), (70, .iconst 0, []), (71, .ireturn, [5])], 72),
  (72, [0, 1, 3, 4, 5, 6, 7], [(72, .iload 7, []), (74, .ifCond .eq 13, [87]), (77, .aload_n 0, []), (78, .getfield 24, [6, 3, 2, 0]), (81, .iload 5, []), (83, .iaload, []), (84, .goto 7, [91])], 87),
  (87, [0, 1, 3, 4, 5, 6], [(87, .iload 5, []), (89, .iconst 1, []), (90, .iadd, [])], 91),
  (91, [0, 1, 3, 4, 6], [(91, .istore 5, []), (93, .iinc 6 1, []), (96, .goto (-90), [6])], 99),
  (99, [], [(99, .iconst 1, []), (100, .ireturn, [5])], 101)]
def rX6_performRange : xRow := ((yX6_performRange, cX6_performRange, 9, (some .boolean), 0, 0), bX6_performRange, pX6)
def bX6_performRepeat : xBl := [
  (0, [0, 1, 2, 3], [(0, .iload_n 3, []), (1, .iconst 3, []), (2, .if_icmp .lt 5, [7]), (5, .iconst 0, []), (6, .ireturn, [5])], 7),
  (7, [0, 1, 2, 3], [(7, .iconst 0, []), (8, .istore 4, [])], 10),
  (10, [0, 1, 2, 3, 4], [(10, .iload 4, []), (12, .aload_n 0, []), (13, .getfield 17, [6, 1, 2, 0]), (16, .iload_n 2, []), (17, .iaload, []), (18, .if_icmp .ge 48, [66]), (21, .aload_n 0, []), (22, .getfield 31, [6, 5, 0, 0]), (25, .istore 5, []), (27, .aload_n 0, []), (28, .aload_n 1, []), (29, .iload_n 2, []), (30, .iconst 1, []), (31, .iadd, []), (32, .aload_n 0, []), (33, .getfield 24, [6, 3, 2, 0]), (36, .iload_n 2, []), (37, .iaload, []), (38, .iload_n 3, []), (39, .iconst 1, []), (40, .iadd, []), (41, .invokevirtual 116, [1, 86, 5, 0, 0, 0, 7]), (44, .ifCond .ne 5, [49]), (47, .iconst 0, []), (48, .ireturn, [5])], 49),
  (49, [0, 1, 2, 3, 4, 5], [(49, .aload_n 0, []), (50, .getfield 31, [6, 5, 0, 0]), (53, .iload 5, []), (55, .if_icmp .ne 5, [60]), (58, .iconst 1, []), (59, .ireturn, [5])], 60),
  (60, [0, 1, 2, 3, 4], [(60, .iinc 4 1, []), (63, .goto (-53), [10])], 66),
  (66, [], [(66, .iconst 1, []), (67, .ireturn, [5])], 68)]
def rX6_performRepeat : xRow := ((yX6_performRepeat, cX6_performRepeat, 6, (some .boolean), 0, 0), bX6_performRepeat, pX6)
def bX6_performOne : xBl := [
  (0, [0, 1, 2], [(0, .aload_n 0, []), (1, .getfield 13, [6, 0, 2, 0]), (4, .iload_n 2, []), (5, .aaload, []), (6, .astore_n 3, []), (7, .aload_n 0, []), (8, .getfield 17, [6, 1, 2, 0]), (11, .iload_n 2, []), (12, .iaload, []), (13, .istore 4, []), (15, .aload_n 0, []), (16, .getfield 21, [6, 2, 2, 0]), (19, .iload_n 2, []), (20, .iaload, []), (21, .istore 5, []), (23, .aload_n 0, []), (24, .getfield 31, [6, 5, 0, 0]), (27, .sipush 200, []), (30, .if_icmp .ge 15, [45]), (33, .aload_n 1, []), (34, .aload_n 3, []), (35, .iload 4, []), (37, .iload 5, []), (39, .invokestatic 120, [0, 89, 4, 0, 0, 0, 0]), (42, .ifCond .ne 5, [47])], 45),
  (45, [], [(45, .iconst 0, []), (46, .ireturn, [5])], 47),
  (47, [0, 1, 3, 4, 5], [(47, .aload_n 0, []), (48, .dup, []), (49, .getfield 31, [6, 5, 0, 0]), (52, .iconst 1, []), (53, .iadd, []), (54, .putfield 31, [6, 5, 0, 0]), (57, .aload_n 3, []), (58, .getstatic 70, [0, 22]), (61, .if_acmp .eq 10, [71]), (64, .aload_n 3, []), (65, .getstatic 73, [0, 23]), (68, .if_acmp .ne 27, [95])], 71),
  (71, [1, 3, 4, 5], [(71, .aload_n 1, []), (72, .aload_n 3, []), (73, .getstatic 70, [0, 22]), (76, .if_acmp .ne 7, [83]), (79, .iconst 1, []), (80, .goto 4, [84])], 83),
  (83, [4, 5], [(83, .iconst 0, [])], 84),
  (84, [4, 5], [(84, .iload 4, []), (86, .iload 5, []), (88, .invokevirtual 124, [1, 25, 4, 0, 0, 0, 3]), (91, .pop, []), (92, .goto 71, [163])], 95),
  (95, [1, 3, 4], [(95, .aload_n 3, []), (96, .getstatic 85, [0, 24]), (99, .if_acmp .ne 18, [117]), (102, .aload_n 1, []), (103, .aload_n 1, []), (104, .getfield 130, [2, 0, 2, 1]), (107, .getfield 134, [5, 1, 0, 1]), (110, .invokevirtual 139, [1, 26, 2, 0, 0, 0, 3]), (113, .pop, []), (114, .goto 49, [163])], 117),
  (117, [1, 3, 4], [(117, .aload_n 3, []), (118, .getstatic 76, [0, 25]), (121, .if_acmp .ne 18, [139]), (124, .aload_n 1, []), (125, .aload_n 1, []), (126, .getfield 130, [2, 0, 2, 1]), (129, .getfield 142, [5, 0, 0, 1]), (132, .invokevirtual 139, [1, 26, 2, 0, 0, 0, 3]), (135, .pop, []), (136, .goto 27, [163])], 139),
  (139, [1, 3, 4], [(139, .aload_n 3, []), (140, .getstatic 79, [0, 26]), (143, .if_acmp .ne 13, [156]), (146, .aload_n 1, []), (147, .iload 4, []), (149, .invokevirtual 139, [1, 26, 2, 0, 0, 0, 3]), (152, .pop, []), (153, .goto 10, [163])], 156),
  (156, [1, 4], [(156, .aload_n 1, []), (157, .iload 4, []), (159, .invokevirtual 145, [1, 28, 2, 0, 0, 0, 3]), (162, .pop, [])], 163),
  (163, [], [(163, .iconst 1, []), (164, .ireturn, [5])], 165)]
def rX6_performOne : xRow := ((yX6_performOne, cX6_performOne, 6, (some .boolean), 0, 0), bX6_performOne, pX6)
def bX6_isAllowed : xBl := [
  (0, [0, 1, 2, 3], [(0, .aload_n 1, []), (1, .getstatic 70, [0, 22]), (4, .if_acmp .eq 10, [14]), (7, .aload_n 1, []), (8, .getstatic 73, [0, 23]), (11, .if_acmp .ne 13, [24])], 14),
  (14, [0, 2, 3], [(14, .aload_n 0, []), (15, .getfield 130, [2, 0, 2, 1]), (18, .iload_n 2, []), (19, .iload_n 3, []), (20, .invokevirtual 148, [1, 72, 3, 0, 0, 0, 6]), (23, .ireturn, [5])], 24),
  (24, [0, 1, 2], [(24, .aload_n 1, []), (25, .getstatic 85, [0, 24]), (28, .if_acmp .ne 5, [33]), (31, .iconst 1, []), (32, .ireturn, [5])], 33),
  (33, [0, 1, 2], [(33, .aload_n 0, []), (34, .getfield 130, [2, 0, 2, 1]), (37, .iload_n 2, []), (38, .invokevirtual 152, [1, 71, 2, 0, 0, 0, 6]), (41, .ifCond .ne 5, [46]), (44, .iconst 0, []), (45, .ireturn, [5])], 46),
  (46, [0, 1, 2], [(46, .aload_n 1, []), (47, .getstatic 76, [0, 25]), (50, .if_acmp .ne 9, [59]), (53, .aload_n 0, []), (54, .iload_n 2, []), (55, .invokevirtual 155, [1, 23, 2, 0, 0, 0, 3]), (58, .ireturn, [5])], 59),
  (59, [0, 1], [(59, .aload_n 1, []), (60, .getstatic 82, [0, 27]), (63, .if_acmp .eq 10, [73]), (66, .aload_n 0, []), (67, .invokevirtual 158, [1, 24, 1, 0, 0, 0, 3]), (70, .ifCond .eq 7, [77])], 73),
  (73, [], [(73, .iconst 1, []), (74, .goto 4, [78])], 77),
  (77, [], [(77, .iconst 0, [])], 78),
  (78, [], [(78, .ireturn, [5])], 79)]
def rX6_isAllowed : xRow := ((yX6_isAllowed, cX6_isAllowed, 4, (some .boolean), 0, 0), bX6_isAllowed, pX6)
def pX7 : xPool := [(1, 9, [0, 10]), (2, 15, [1, 44, 2, 0, 0, 0, 4]), (2, 21, [1, 45, 3, 0, 0, 0, 4]), (1, 25, [0, 3]), (2, 28, [1, 19, 2, 9, 0, 0, 3]), (1, 34, [0, 0]), (2, 37, [1, 42, 2, 0, 0, 0, 4]), (2, 40, [1, 40, 1, 2, 0, 0, 4]), (2, 44, [0, 91, 1, 0, 0, 0, 0]), (2, 50, [1, 46, 2, 0, 0, 0, 4]), (2, 54, [0, 92, 2, 0, 0, 0, 0]), (1, 58, [0, 14]), (1, 61, [0, 16]), (1, 64, [0, 17]), (1, 67, [0, 18]), (1, 70, [0, 19]), (1, 73, [0, 21]), (1, 76, [0, 15]), (0, 79, [2, 0, 2, 1]), (2, 83, [0, 93, 2, 0, 0, 0, 0]), (1, 87, [0, 20]), (0, 90, [2, 2, 2, 1]), (2, 94, [0, 95, 2, 0, 0, 0, 0]), (2, 98, [1, 43, 1, 9, 0, 0, 4]), (0, 101, [2, 3, 2, 1]), (2, 105, [1, 7, 1, 9, 0, 0, 2]), (2, 110, [3, 11, 3, 0, 0, 0, 2]), (2, 114, [0, 96, 2, 0, 0, 0, 0]), (2, 117, [0, 94, 2, 0, 0, 0, 0]), (1, 120, [0, 1]), (2, 123, [1, 41, 1, 0, 0, 0, 4]), (2, 127, [1, 73, 2, 0, 0, 0, 6]), (0, 132, [5, 0, 0, 1]), (2, 136, [1, 74, 3, 9, 0, 0, 6]), (2, 140, [1, 3, 1, 0, 0, 0, 1]), (2, 146, [1, 4, 3, 9, 0, 0, 1]), (2, 150, [0, 97, 2, 0, 0, 0, 0]), (2, 154, [0, 98, 3, 9, 0, 0, 0]), (0, 158, [5, 1, 0, 1]), (0, 161, [2, 1, 2, 1]), (2, 165, [1, 50, 2, 9, 0, 0, 5]), (0, 170, [4, 2, 0, 1]), (0, 173, [4, 3, 0, 1]), (0, 176, [4, 4, 0, 1]), (0, 179, [2, 6, 0, 1])]
def bX7_read : xBl := [
  (0, [0, 1], [(0, .aload_n 0, []), (1, .getstatic 9, [0, 10]), (4, .invokevirtual 15, [1, 44, 2, 0, 0, 0, 4]), (7, .ifCond .ne 5, [12]), (10, .iconst 0, []), (11, .ireturn, [5])], 12),
  (12, [0, 1], [(12, .aload_n 0, []), (13, .iconst 2, []), (14, .bipush 8, []), (16, .invokevirtual 21, [1, 45, 3, 0, 0, 0, 4]), (19, .istore_n 2, []), (20, .iload_n 2, []), (21, .ifCond .lt 13, [34]), (24, .aload_n 0, []), (25, .getstatic 25, [0, 3]), (28, .invokevirtual 15, [1, 44, 2, 0, 0, 0, 4]), (31, .ifCond .ne 5, [36])], 34),
  (34, [], [(34, .iconst 0, []), (35, .ireturn, [5])], 36),
  (36, [0, 1, 2], [(36, .aload_n 1, []), (37, .iload_n 2, []), (38, .invokevirtual 28, [1, 19, 2, 9, 0, 0, 3]), (41, .iconst 0, []), (42, .istore_n 3, []), (43, .iconst 0, []), (44, .istore 4, [])], 46),
  (46, [0, 1, 3, 4], [(46, .iload 4, []), (48, .sipush 500, []), (51, .if_icmp .ge 67, [118]), (54, .aload_n 0, []), (55, .getstatic 34, [0, 0]), (58, .invokevirtual 37, [1, 42, 2, 0, 0, 0, 4]), (61, .ifCond .ne 57, [118]), (64, .aload_n 0, []), (65, .invokevirtual 40, [1, 40, 1, 2, 0, 0, 4]), (68, .invokestatic 44, [0, 91, 1, 0, 0, 0, 0]), (71, .istore 5, []), (73, .iload_n 3, []), (74, .iload 5, []), (76, .iand, []), (77, .ifCond .eq 10, [87]), (80, .aload_n 0, []), (81, .bipush (-2), []), (83, .invokevirtual 50, [1, 46, 2, 0, 0, 0, 4]), (86, .ireturn, [5])], 87),
  (87, [0, 1, 3, 4, 5], [(87, .iload_n 3, []), (88, .iload 5, []), (90, .ior, []), (91, .istore_n 3, []), (92, .aload_n 0, []), (93, .aload_n 1, []), (94, .invokestatic 54, [0, 92, 2, 0, 0, 0, 0]), (97, .ifCond .eq 13, [110]), (100, .aload_n 0, []), (101, .getstatic 25, [0, 3]), (104, .invokevirtual 15, [1, 44, 2, 0, 0, 0, 4]), (107, .ifCond .ne 5, [112])], 110),
  (110, [], [(110, .iconst 0, []), (111, .ireturn, [5])], 112),
  (112, [0, 1, 3, 4], [(112, .iinc 4 1, []), (115, .goto (-69), [46])], 118),
  (118, [], [(118, .iconst 1, []), (119, .ireturn, [5])], 120)]
def rX7_read : xRow := ((yX7_read, cX7_read, 6, (some .boolean), 0, 0), bX7_read, pX7)
def bX7_bitOfSingle : xBl := [
  (0, [0], [(0, .aload_n 0, []), (1, .getstatic 58, [0, 14]), (4, .if_acmp .ne 5, [9]), (7, .iconst 1, []), (8, .ireturn, [0])], 9),
  (9, [0], [(9, .aload_n 0, []), (10, .getstatic 61, [0, 16]), (13, .if_acmp .ne 5, [18]), (16, .iconst 2, []), (17, .ireturn, [0])], 18),
  (18, [0], [(18, .aload_n 0, []), (19, .getstatic 64, [0, 17]), (22, .if_acmp .ne 5, [27]), (25, .iconst 4, []), (26, .ireturn, [0])], 27),
  (27, [0], [(27, .aload_n 0, []), (28, .getstatic 67, [0, 18]), (31, .if_acmp .ne 6, [37]), (34, .bipush 8, []), (36, .ireturn, [0])], 37),
  (37, [0], [(37, .aload_n 0, []), (38, .getstatic 70, [0, 19]), (41, .if_acmp .ne 6, [47]), (44, .bipush 16, []), (46, .ireturn, [0])], 47),
  (47, [0], [(47, .aload_n 0, []), (48, .getstatic 73, [0, 21]), (51, .if_acmp .ne 8, [59]), (54, .bipush 32, []), (56, .goto 4, [60])], 59),
  (59, [], [(59, .iconst 0, [])], 60),
  (60, [], [(60, .ireturn, [0])], 61)]
def rX7_bitOfSingle : xRow := ((yX7_bitOfSingle, cX7_bitOfSingle, 1, (some .int), 0, 0), bX7_bitOfSingle, pX7)
def bX7_readStatement : xBl := [
  (0, [0, 1], [(0, .aload_n 0, []), (1, .getstatic 76, [0, 15]), (4, .invokevirtual 37, [1, 42, 2, 0, 0, 0, 4]), (7, .ifCond .eq 12, [19]), (10, .aload_n 0, []), (11, .aload_n 1, []), (12, .getfield 79, [2, 0, 2, 1]), (15, .invokestatic 83, [0, 93, 2, 0, 0, 0, 0]), (18, .ireturn, [5])], 19),
  (19, [0, 1], [(19, .aload_n 0, []), (20, .getstatic 87, [0, 20]), (23, .invokevirtual 37, [1, 42, 2, 0, 0, 0, 4]), (26, .ifCond .eq 12, [38]), (29, .aload_n 0, []), (30, .aload_n 1, []), (31, .getfield 90, [2, 2, 2, 1]), (34, .invokestatic 94, [0, 95, 2, 0, 0, 0, 0]), (37, .ireturn, [5])], 38),
  (38, [0, 1], [(38, .aload_n 0, []), (39, .getstatic 73, [0, 21]), (42, .invokevirtual 37, [1, 42, 2, 0, 0, 0, 4]), (45, .ifCond .eq 24, [69]), (48, .aload_n 0, []), (49, .invokevirtual 98, [1, 43, 1, 9, 0, 0, 4]), (52, .aload_n 1, []), (53, .getfield 101, [2, 3, 2, 1]), (56, .invokevirtual 105, [1, 7, 1, 9, 0, 0, 2]), (59, .aload_n 1, []), (60, .getfield 101, [2, 3, 2, 1]), (63, .aload_n 0, []), (64, .iconst 0, []), (65, .invokevirtual 110, [3, 11, 3, 0, 0, 0, 2]), (68, .ireturn, [5])], 69),
  (69, [0, 1], [(69, .aload_n 0, []), (70, .aload_n 1, []), (71, .invokestatic 114, [0, 96, 2, 0, 0, 0, 0]), (74, .ireturn, [5])], 75)]
def rX7_readStatement : xRow := ((yX7_readStatement, cX7_readStatement, 2, (some .boolean), 0, 0), bX7_readStatement, pX7)
def bX7_readScratches : xBl := [
  (0, [0, 1], [(0, .aload_n 0, []), (1, .invokevirtual 98, [1, 43, 1, 9, 0, 0, 4]), (4, .aload_n 0, []), (5, .aload_n 1, []), (6, .invokestatic 117, [0, 94, 2, 0, 0, 0, 0]), (9, .ifCond .ne 5, [14]), (12, .iconst 0, []), (13, .ireturn, [5])], 14),
  (14, [0, 1], [(14, .iconst 0, []), (15, .istore_n 2, [])], 16),
  (16, [0, 1, 2], [(16, .iload_n 2, []), (17, .sipush 500, []), (20, .if_icmp .ge 29, [49]), (23, .aload_n 0, []), (24, .getstatic 120, [0, 1]), (27, .invokevirtual 37, [1, 42, 2, 0, 0, 0, 4]), (30, .ifCond .eq 19, [49]), (33, .aload_n 0, []), (34, .aload_n 1, []), (35, .invokestatic 117, [0, 94, 2, 0, 0, 0, 0]), (38, .ifCond .ne 5, [43]), (41, .iconst 0, []), (42, .ireturn, [5])], 43),
  (43, [0, 1, 2], [(43, .iinc 2 1, []), (46, .goto (-30), [16])], 49),
  (49, [], [(49, .iconst 1, []), (50, .ireturn, [5])], 51)]
def rX7_readScratches : xRow := ((yX7_readScratches, cX7_readScratches, 3, (some .boolean), 0, 0), bX7_readScratches, pX7)
def bX7_readScratch : xBl := [
  (0, [0, 1], [(0, .aload_n 0, []), (1, .getstatic 120, [0, 1]), (4, .invokevirtual 37, [1, 42, 2, 0, 0, 0, 4]), (7, .ifCond .eq 21, [28]), (10, .aload_n 1, []), (11, .aload_n 0, []), (12, .invokevirtual 123, [1, 41, 1, 0, 0, 0, 4]), (15, .invokevirtual 127, [1, 73, 2, 0, 0, 0, 6]), (18, .ifCond .eq 10, [28]), (21, .aload_n 0, []), (22, .bipush (-4), []), (24, .invokevirtual 50, [1, 46, 2, 0, 0, 0, 4]), (27, .ireturn, [5])], 28),
  (28, [0, 1], [(28, .aload_n 0, []), (29, .iconst 0, []), (30, .aload_n 1, []), (31, .getfield 132, [5, 0, 0, 1]), (34, .iconst 1, []), (35, .isub, []), (36, .invokevirtual 21, [1, 45, 3, 0, 0, 0, 4]), (39, .istore_n 2, []), (40, .iload_n 2, []), (41, .ifCond .ge 5, [46]), (44, .iconst 0, []), (45, .ireturn, [5])], 46),
  (46, [1, 2], [(46, .aload_n 1, []), (47, .iload_n 2, []), (48, .iconst 1, []), (49, .invokevirtual 136, [1, 74, 3, 9, 0, 0, 6]), (52, .iconst 1, []), (53, .ireturn, [5])], 54)]
def rX7_readScratch : xRow := ((yX7_readScratch, cX7_readScratch, 3, (some .boolean), 0, 0), bX7_readScratch, pX7)
def bX7_readBlink : xBl := [
  (0, [0, 1], [(0, .aload_n 1, []), (1, .invokevirtual 140, [1, 3, 1, 0, 0, 0, 1]), (4, .ifCond .eq 10, [14]), (7, .aload_n 0, []), (8, .bipush (-5), []), (10, .invokevirtual 50, [1, 46, 2, 0, 0, 0, 4]), (13, .ireturn, [5])], 14),
  (14, [0, 1], [(14, .aload_n 0, []), (15, .invokevirtual 98, [1, 43, 1, 9, 0, 0, 4]), (18, .aload_n 0, []), (19, .iconst 0, []), (20, .sipush 9999, []), (23, .invokevirtual 21, [1, 45, 3, 0, 0, 0, 4]), (26, .istore_n 2, []), (27, .iload_n 2, []), (28, .ifCond .ge 5, [33]), (31, .iconst 0, []), (32, .ireturn, [5])], 33),
  (33, [0, 1, 2], [(33, .aload_n 0, []), (34, .iload_n 2, []), (35, .sipush 9999, []), (38, .invokevirtual 21, [1, 45, 3, 0, 0, 0, 4]), (41, .istore_n 3, []), (42, .iload_n 3, []), (43, .ifCond .ge 5, [48]), (46, .iconst 0, []), (47, .ireturn, [5])], 48),
  (48, [1, 2, 3], [(48, .aload_n 1, []), (49, .iload_n 2, []), (50, .iload_n 3, []), (51, .invokevirtual 146, [1, 4, 3, 9, 0, 0, 1]), (54, .iconst 1, []), (55, .ireturn, [5])], 56)]
def rX7_readBlink : xRow := ((yX7_readBlink, cX7_readBlink, 4, (some .boolean), 0, 0), bX7_readBlink, pX7)
def bX7_readSetting : xBl := [
  (0, [0, 1], [(0, .aload_n 0, []), (1, .invokevirtual 40, [1, 40, 1, 2, 0, 0, 4]), (4, .astore_n 2, []), (5, .aload_n 2, []), (6, .aload_n 1, []), (7, .invokestatic 150, [0, 97, 2, 0, 0, 0, 0]), (10, .istore_n 3, []), (11, .iload_n 3, []), (12, .ifCond .ge 10, [22]), (15, .aload_n 0, []), (16, .bipush (-2), []), (18, .invokevirtual 50, [1, 46, 2, 0, 0, 0, 4]), (21, .ireturn, [5])], 22),
  (22, [0, 1, 2, 3], [(22, .aload_n 0, []), (23, .invokevirtual 98, [1, 43, 1, 9, 0, 0, 4]), (26, .aload_n 2, []), (27, .getstatic 61, [0, 16]), (30, .if_acmp .eq 10, [40]), (33, .aload_n 2, []), (34, .getstatic 64, [0, 17]), (37, .if_acmp .ne 7, [44])], 40),
  (40, [0, 1, 2, 3], [(40, .iconst 1, []), (41, .goto 4, [45])], 44),
  (44, [0, 1, 2, 3], [(44, .iconst 0, [])], 45),
  (45, [0, 1, 2, 3], [(45, .istore 4, []), (47, .aload_n 0, []), (48, .iload 4, []), (50, .iload_n 3, []), (51, .invokevirtual 21, [1, 45, 3, 0, 0, 0, 4]), (54, .istore 5, []), (56, .iload 5, []), (58, .ifCond .ge 5, [63]), (61, .iconst 0, []), (62, .ireturn, [5])], 63),
  (63, [1, 2, 5], [(63, .aload_n 1, []), (64, .aload_n 2, []), (65, .iload 5, []), (67, .invokestatic 154, [0, 98, 3, 9, 0, 0, 0]), (70, .iconst 1, []), (71, .ireturn, [5])], 72)]
def rX7_readSetting : xRow := ((yX7_readSetting, cX7_readSetting, 6, (some .boolean), 0, 0), bX7_readSetting, pX7)
def bX7_greatestOf : xBl := [
  (0, [0, 1], [(0, .aload_n 0, []), (1, .getstatic 58, [0, 14]), (4, .if_acmp .ne 13, [17]), (7, .aload_n 1, []), (8, .getfield 79, [2, 0, 2, 1]), (11, .getfield 132, [5, 0, 0, 1]), (14, .iconst 1, []), (15, .isub, []), (16, .ireturn, [0])], 17),
  (17, [0], [(17, .aload_n 0, []), (18, .getstatic 61, [0, 16]), (21, .if_acmp .ne 6, [27]), (24, .bipush 99, []), (26, .ireturn, [0])], 27),
  (27, [0], [(27, .aload_n 0, []), (28, .getstatic 64, [0, 17]), (31, .if_acmp .ne 6, [37]), (34, .bipush 9, []), (36, .ireturn, [0])], 37),
  (37, [0], [(37, .aload_n 0, []), (38, .getstatic 67, [0, 18]), (41, .if_acmp .ne 6, [47]), (44, .bipush 9, []), (46, .ireturn, [0])], 47),
  (47, [0], [(47, .aload_n 0, []), (48, .getstatic 70, [0, 19]), (51, .if_acmp .ne 9, [60]), (54, .sipush 9999, []), (57, .goto 4, [61])], 60),
  (60, [], [(60, .iconst (-1), [])], 61),
  (61, [], [(61, .ireturn, [0])], 62)]
def rX7_greatestOf : xRow := ((yX7_greatestOf, cX7_greatestOf, 2, (some .int), 0, 0), bX7_greatestOf, pX7)
def bX7_set : xBl := [
  (0, [0, 1, 2], [(0, .aload_n 1, []), (1, .getstatic 58, [0, 14]), (4, .if_acmp .ne 22, [26]), (7, .aload_n 0, []), (8, .getfield 79, [2, 0, 2, 1]), (11, .iload_n 2, []), (12, .putfield 158, [5, 1, 0, 1]), (15, .aload_n 0, []), (16, .getfield 161, [2, 1, 2, 1]), (19, .iload_n 2, []), (20, .invokevirtual 165, [1, 50, 2, 9, 0, 0, 5]), (23, .goto 69, [92])], 26),
  (26, [0, 1, 2], [(26, .aload_n 1, []), (27, .getstatic 61, [0, 16]), (30, .if_acmp .ne 14, [44]), (33, .aload_n 0, []), (34, .getfield 161, [2, 1, 2, 1]), (37, .iload_n 2, []), (38, .putfield 170, [4, 2, 0, 1]), (41, .goto 51, [92])], 44),
  (44, [0, 1, 2], [(44, .aload_n 1, []), (45, .getstatic 64, [0, 17]), (48, .if_acmp .ne 14, [62]), (51, .aload_n 0, []), (52, .getfield 161, [2, 1, 2, 1]), (55, .iload_n 2, []), (56, .putfield 173, [4, 3, 0, 1]), (59, .goto 33, [92])], 62),
  (62, [0, 1, 2], [(62, .aload_n 1, []), (63, .getstatic 67, [0, 18]), (66, .if_acmp .ne 14, [80]), (69, .aload_n 0, []), (70, .getfield 161, [2, 1, 2, 1]), (73, .iload_n 2, []), (74, .putfield 176, [4, 4, 0, 1]), (77, .goto 15, [92])], 80),
  (80, [0, 1, 2], [(80, .aload_n 1, []), (81, .getstatic 70, [0, 19]), (84, .if_acmp .ne 8, [92]), (87, .aload_n 0, []), (88, .iload_n 2, []), (89, .putfield 179, [2, 6, 0, 1])], 92),
  (92, [], [(92, .return_, [])], 93)]
def rX7_set : xRow := ((yX7_set, cX7_set, 3, none, 0, 0), bX7_set, pX7)
def pX9 : xPool := [(3, 7, [0, 4, 5]), (2, 9, [4, 47, 1, 9, 1, 9, 5]), (0, 10, [7, 0, 2, 2]), (0, 16, [7, 4, 0, 0]), (0, 20, [7, 5, 0, 0]), (2, 23, [1, 22, 1, 0, 0, 0, 3]), (2, 29, [1, 101, 4, 9, 0, 0, 8]), (0, 33, [2, 0, 2, 1]), (0, 37, [5, 0, 0, 1]), (0, 10, [7, 0, 2, 0]), (0, 42, [2, 1, 2, 1]), (2, 45, [1, 49, 2, 9, 0, 0, 5]), (2, 49, [1, 58, 6, 9, 0, 0, 5]), (0, 53, [5, 1, 0, 1]), (2, 56, [0, 77, 3, 0, 0, 0, 0]), (0, 60, [4, 0, 2, 1]), (2, 63, [1, 102, 5, 9, 0, 0, 8]), (2, 67, [1, 52, 1, 0, 0, 0, 5]), (0, 70, [7, 1, 5, 0]), (0, 74, [7, 2, 0, 0]), (0, 77, [7, 3, 0, 0])]
def bX9_init : xBl := [
  (0, [0], [(0, .aload_n 0, []), (1, .invokespecial 1, [0]), (4, .aload_n 0, []), (5, .new 7, [0, 4, 5]), (8, .dup, []), (9, .invokespecial 9, [4, 47, 1, 9, 1, 9, 5]), (12, .putfield 10, [7, 0, 2, 2]), (15, .return_, [])], 16)]
def rX9_init : xRow := ((yX9_init, cX9_init, 1, none, 2, 14), bX9_init, pX9)
def bX9_find : xBl := [
  (0, [0, 1], [(0, .aload_n 0, []), (1, .iconst 1, []), (2, .putfield 16, [7, 4, 0, 0]), (5, .aload_n 0, []), (6, .iconst 0, []), (7, .putfield 20, [7, 5, 0, 0]), (10, .aload_n 1, []), (11, .invokevirtual 23, [1, 22, 1, 0, 0, 0, 3]), (14, .istore_n 2, []), (15, .aload_n 0, []), (16, .aload_n 1, []), (17, .iconst 1, []), (18, .iload_n 2, []), (19, .invokevirtual 29, [1, 101, 4, 9, 0, 0, 8]), (22, .aload_n 0, []), (23, .aload_n 1, []), (24, .iconst 0, []), (25, .iload_n 2, []), (26, .invokevirtual 29, [1, 101, 4, 9, 0, 0, 8]), (29, .return_, [])], 30)]
def rX9_find : xRow := ((yX9_find, cX9_find, 3, none, 0, 0), bX9_find, pX9)
def bX9_tryAll : xBl := [
  (0, [0, 1, 2, 3], [(0, .aload_n 1, []), (1, .getfield 33, [2, 0, 2, 1]), (4, .getfield 37, [5, 0, 0, 1]), (7, .istore 4, []), (9, .iconst 0, []), (10, .istore 5, [])], 12),
  (12, [0, 1, 2, 3, 4, 5], [(12, .iload 5, []), (14, .iload 4, []), (16, .if_icmp .ge 105, [121]), (19, .iload 5, []), (21, .iconst 1, []), (22, .iadd, []), (23, .istore 6, [])], 25),
  (25, [0, 1, 2, 3, 4, 5, 6], [(25, .iload 6, []), (27, .iload 4, []), (29, .if_icmp .ge 86, [115]), (32, .aload_n 0, []), (33, .getfield 10, [7, 0, 2, 0]), (36, .aload_n 1, []), (37, .getfield 42, [2, 1, 2, 1]), (40, .invokevirtual 45, [1, 49, 2, 9, 0, 0, 5]), (43, .aload_n 0, []), (44, .getfield 10, [7, 0, 2, 0]), (47, .aload_n 1, []), (48, .getfield 33, [2, 0, 2, 1]), (51, .iload_n 2, []), (52, .iload 5, []), (54, .iload 6, []), (56, .iload_n 3, []), (57, .invokevirtual 49, [1, 58, 6, 9, 0, 0, 5]), (60, .iload_n 2, []), (61, .ifCond .eq 20, [81]), (64, .aload_n 1, []), (65, .getfield 33, [2, 0, 2, 1]), (68, .getfield 53, [5, 1, 0, 1]), (71, .iload 5, []), (73, .iload 6, []), (75, .invokestatic 56, [0, 77, 3, 0, 0, 0, 0]), (78, .goto 10, [88])], 81),
  (81, [0, 1, 2, 3, 4, 5, 6], [(81, .aload_n 1, []), (82, .getfield 33, [2, 0, 2, 1]), (85, .getfield 53, [5, 1, 0, 1])], 88),
  (88, [0, 1, 2, 3, 4, 5, 6], [(88, .istore 7, []), (90, .aload_n 0, []), (91, .iload_n 2, []), (92, .iload 5, []), (94, .iload 6, []), (96, .aload_n 0, []), (97, .getfield 10, [7, 0, 2, 0]), (100, .getfield 60, [4, 0, 2, 1]), (103, .iload 7, []), (105, .iaload, []), (106, .invokevirtual 63, [1, 102, 5, 9, 0, 0, 8]), (109, .iinc 6 1, []), (112, .goto (-87), [25])], 115),
  (115, [0, 1, 2, 3, 4, 5], [(115, .iinc 5 1, []), (118, .goto (-106), [12])], 121),
  (121, [], [(121, .return_, [])], 122)]
def rX9_tryAll : xRow := ((yX9_tryAll, cX9_tryAll, 8, none, 0, 0), bX9_tryAll, pX9)
def bX9_takeIfLess : xBl := [
  (0, [0, 1, 2, 3, 4], [(0, .aload_n 0, []), (1, .getfield 10, [7, 0, 2, 0]), (4, .invokevirtual 67, [1, 52, 1, 0, 0, 0, 5]), (7, .istore 5, []), (9, .iload 4, []), (11, .i2l, []), (12, .aload_n 0, []), (13, .getfield 20, [7, 5, 0, 0]), (16, .i2l, []), (17, .lmul, []), (18, .aload_n 0, []), (19, .getfield 16, [7, 4, 0, 0]), (22, .i2l, []), (23, .iload 5, []), (25, .i2l, []), (26, .lmul, []), (27, .lcmp, []), (28, .ifCond .ge 30, [58]), (31, .aload_n 0, []), (32, .iload_n 1, []), (33, .putfield 70, [7, 1, 5, 0]), (36, .aload_n 0, []), (37, .iload_n 2, []), (38, .putfield 74, [7, 2, 0, 0]), (41, .aload_n 0, []), (42, .iload_n 3, []), (43, .putfield 77, [7, 3, 0, 0]), (46, .aload_n 0, []), (47, .iload 4, []), (49, .putfield 16, [7, 4, 0, 0]), (52, .aload_n 0, []), (53, .iload 5, []), (55, .putfield 20, [7, 5, 0, 0])], 58),
  (58, [], [(58, .return_, [])], 59)]
def rX9_takeIfLess : xRow := ((yX9_takeIfLess, cX9_takeIfLess, 6, none, 0, 0), bX9_takeIfLess, pX9)
def bX9_number : xBl := [
  (0, [0, 1], [(0, .iload_n 1, []), (1, .tableswitch 59 0 3 #[31, 44, 49, 54], [60, 0, 32, 45, 50, 55])], 32),
  (32, [0], [(32, .aload_n 0, []), (33, .getfield 70, [7, 1, 5, 0]), (36, .ifCond .eq 7, [43]), (39, .iconst 0, []), (40, .goto 4, [44])], 43),
  (43, [], [(43, .iconst 1, [])], 44),
  (44, [], [(44, .ireturn, [0])], 45),
  (45, [0], [(45, .aload_n 0, []), (46, .getfield 74, [7, 2, 0, 0]), (49, .ireturn, [0])], 50),
  (50, [0], [(50, .aload_n 0, []), (51, .getfield 77, [7, 3, 0, 0]), (54, .ireturn, [0])], 55),
  (55, [0], [(55, .aload_n 0, []), (56, .getfield 16, [7, 4, 0, 0]), (59, .ireturn, [0])], 60),
  (60, [0], [(60, .aload_n 0, []), (61, .getfield 20, [7, 5, 0, 0]), (64, .ireturn, [0])], 65)]
def rX9_number : xRow := ((yX9_number, cX9_number, 2, (some .int), 0, 0), bX9_number, pX9)

/-! THE TABLE (J0, J1, J3, J4, J5, J6, J7, J8, J15, Jx4a65c, Jxc12de, Jxa1e45): blocks of the methods as the class file has them, written by wip/p31/gentab.py. -/
def pJ0 : xPool := [(6, 9, [78]), (2, 335, [1, 120, 1, 0, 0, 0, 100]), (2, 492, [1, 121, 1, 0, 0, 0, 100]), (2, 495, [0, 123, 2, 0, 0, 0, 0]), (1, 38, [2]), (6, 15, [79]), (1, 1053, [3]), (2, 1059, [0, 124, 3, 0, 0, 0, 0]), (2, 489, [2, 143, 3, 9, 1, 120, 12]), (2, 552, [6, 135, 1, 2, 0, 0, 13]), (2, 549, [9, 152, 1, 0, 0, 0, 13]), (2, 1047, [6, 132, 1, 0, 0, 0, 13]), (0, 15, [11, 1, 6, 2]), (2, 54, [0, 139, 3, 2, 1, 120, 0]), (0, 9, [11, 0, 2, 2])]
def bJ0_length_8abf5 : xBl := [
  (0, [0], [(0, .aload_n 0, []), (1, .getfield 9, [78]), (4, .arraylength, []), (5, .aload_n 0, []), (6, .invokevirtual 335, [1, 120, 1, 0, 0, 0, 100]), (9, .ishr, []), (10, .ireturn, [0])], 11)]
def rJ0_length_8abf5 : xRow := ((yJ0_length_8abf5, cJ0_length_8abf5, 1, (some .int), 0, 0), bJ0_length_8abf5, pJ0)
def bJ0_charAt_5068e : xBl := [
  (0, [0, 1], [(0, .aload_n 0, []), (1, .invokevirtual 492, [1, 121, 1, 0, 0, 0, 100]), (4, .ifCond .eq 12, [16]), (7, .aload_n 0, []), (8, .getfield 9, [78]), (11, .iload_n 1, []), (12, .invokestatic 495, [0, 123, 2, 0, 0, 0, 0]), (15, .ireturn, [7])], 16)]
def rJ0_charAt_5068e : xRow := ((yJ0_charAt_5068e, cJ0_charAt_5068e, 2, (some .char), 0, 0), bJ0_charAt_5068e, pJ0)
def bJ0_coder_7d493 : xBl := [
  (0, [0], [(0, .getstatic 38, [2]), (3, .ifCond .eq 10, [13]), (6, .aload_n 0, []), (7, .getfield 15, [79]), (10, .goto 4, [14])], 13),
  (14, [], [(14, .ireturn, [6])], 15)]
def rJ0_coder_7d493 : xRow := ((yJ0_coder_7d493, cJ0_coder_7d493, 1, (some .byte), 0, 0), bJ0_coder_7d493, pJ0)
def bJ0_isLatin1_aae02 : xBl := [
  (0, [0], [(0, .getstatic 38, [2]), (3, .ifCond .eq 14, [17]), (6, .aload_n 0, []), (7, .getfield 15, [79]), (10, .ifCond .ne 7, [17]), (13, .iconst 1, []), (14, .goto 4, [18])], 17),
  (18, [], [(18, .ireturn, [5])], 19)]
def rJ0_isLatin1_aae02 : xRow := ((yJ0_isLatin1_aae02, cJ0_isLatin1_aae02, 1, (some .boolean), 0, 0), bJ0_isLatin1_aae02, pJ0)
def bJ0_checkIndex_df160 : xBl := [
  (0, [0, 1], [(0, .iload_n 0, []), (1, .iload_n 1, []), (2, .getstatic 1053, [3]), (5, .invokestatic 1059, [0, 124, 3, 0, 0, 0, 0]), (8, .pop, []), (9, .return_, [])], 10)]
def rJ0_checkIndex_df160 : xRow := ((yJ0_checkIndex_df160, cJ0_checkIndex_df160, 2, none, 0, 0), bJ0_checkIndex_df160, pJ0)
def bJ0_init_81219 : xBl := [
  (0, [0, 1], [(0, .aload_n 0, []), (1, .aload_n 1, []), (2, .aconst_null, []), (3, .invokespecial 489, [2, 143, 3, 9, 1, 120, 12]), (6, .return_, [])], 7)]
def rJ0_init_81219 : xRow := ((yJ0_init_81219, cJ0_init_81219, 2, none, 1, 120), bJ0_init_81219, pJ0)
def bJ0_init_db425 : xBl := [
  (0, [0, 1], [(0, .aload_n 0, []), (1, .invokespecial 1, [0]), (4, .aload_n 1, []), (5, .invokevirtual 552, [6, 135, 1, 2, 0, 0, 13]), (8, .astore_n 3, []), (9, .aload_n 1, []), (10, .invokevirtual 549, [9, 152, 1, 0, 0, 0, 13]), (13, .istore 4, []), (15, .aload_n 1, []), (16, .invokevirtual 1047, [6, 132, 1, 0, 0, 0, 13]), (19, .ifCond .eq 22, [41]), (22, .aload_n 0, []), (23, .iconst 0, []), (24, .putfield 15, [11, 1, 6, 2]), (27, .aload_n 0, []), (28, .aload_n 3, []), (29, .iconst 0, []), (30, .iload 4, []), (32, .invokestatic 54, [0, 139, 3, 2, 1, 120, 0]), (35, .putfield 9, [11, 0, 2, 2]), (38, .goto 59, [97])], 41),
  (97, [], [(97, .return_, [])], 98)]
def rJ0_init_db425 : xRow := ((yJ0_init_db425, cJ0_init_db425, 5, none, 1, 120), bJ0_init_db425, pJ0)
def bJ0_getBytes_840e7 : xBl := [
  (0, [0, 1, 2, 3], [(0, .aload_n 0, []), (1, .invokevirtual 335, [1, 120, 1, 0, 0, 0, 100]), (4, .iload_n 3, []), (5, .if_icmp .ne 23, [28]), (8, .aload_n 0, []), (9, .getfield 9, [78]), (12, .iconst 0, []), (13, .aload_n 1, []), (14, .iload_n 2, []), (15, .iload_n 3, []), (16, .ishl, []), (17, .aload_n 0, []), (18, .getfield 9, [78]), (21, .arraylength, []), (22, .invokestatic 212, [0, 6]), (25, .goto 18, [43])], 28),
  (43, [], [(43, .return_, [])], 44)]
def rJ0_getBytes_840e7 : xRow := ((yJ0_getBytes_840e7, cJ0_getBytes_840e7, 4, none, 0, 0), bJ0_getBytes_840e7, pJ0)
def pJ1 : xPool := [(2, 9, [0, 122, 2, 9, 0, 0, 0])]
def bJ1_charAt_3b067 : xBl := [
  (0, [0, 1], [(0, .iload_n 1, []), (1, .aload_n 0, []), (2, .arraylength, []), (3, .invokestatic 9, [0, 122, 2, 9, 0, 0, 0]), (6, .aload_n 0, []), (7, .iload_n 1, []), (8, .baload, []), (9, .sipush 255, []), (12, .iand, []), (13, .i2c, []), (14, .ireturn, [7])], 15)]
def rJ1_charAt_3b067 : xRow := ((yJ1_charAt_3b067, cJ1_charAt_3b067, 2, (some .char), 0, 0), bJ1_charAt_3b067, pJ1)
def bJ1_canEncode_fc78d : xBl := [
  (0, [0], [(0, .iload_n 0, []), (1, .sipush 255, []), (4, .if_icmp .gt 7, [11]), (7, .iconst 1, []), (8, .goto 4, [12])], 11),
  (12, [], [(12, .ireturn, [5])], 13)]
def rJ1_canEncode_fc78d : xRow := ((yJ1_canEncode_fc78d, cJ1_canEncode_fc78d, 1, (some .boolean), 0, 0), bJ1_canEncode_fc78d, pJ1)
def pJ3 : xPool := []
def bJ3_checkIndex_8e157 : xBl := [
  (0, [0, 1], [(0, .iload_n 0, []), (1, .ifCond .lt 8, [9]), (4, .iload_n 0, []), (5, .iload_n 1, []), (6, .if_icmp .lt 10, [16])], 9),
  (16, [0], [(16, .iload_n 0, []), (17, .ireturn, [0])], 18)]
def rJ3_checkIndex_8e157 : xRow := ((yJ3_checkIndex_8e157, cJ3_checkIndex_8e157, 3, (some .int), 0, 0), bJ3_checkIndex_8e157, pJ3)
def pJ4 : xPool := [(2, 1, [2, 125, 2, 9, 1, 16, 13]), (2, 7, [2, 126, 2, 9, 2, 310, 13]), (2, 29, [7, 127, 2, 2, 1, 250, 13]), (2, 50, [7, 128, 2, 2, 1, 250, 13]), (2, 53, [7, 129, 2, 2, 1, 250, 13]), (3, 18, [0, 11, 4]), (2, 137, [2, 142, 2, 9, 1, 120, 12]), (2, 23, [1, 147, 2, 2, 1, 250, 13]), (2, 343, [7, 136, 1, 0, 0, 0, 13])]
def bJ4_init_da8c8 : xBl := [
  (0, [0], [(0, .aload_n 0, []), (1, .bipush 16, []), (3, .invokespecial 1, [2, 125, 2, 9, 1, 16, 13]), (6, .return_, [])], 7)]
def rJ4_init_da8c8 : xRow := ((yJ4_init_da8c8, cJ4_init_da8c8, 1, none, 1, 16), bJ4_init_da8c8, pJ4)
def bJ4_init_a7421 : xBl := [
  (0, [0, 1], [(0, .aload_n 0, []), (1, .aload_n 1, []), (2, .invokespecial 7, [2, 126, 2, 9, 2, 310, 13]), (5, .return_, [])], 6)]
def rJ4_init_a7421 : xRow := ((yJ4_init_a7421, cJ4_init_a7421, 2, none, 2, 310), bJ4_init_a7421, pJ4)
def bJ4_append_15ec4 : xBl := [
  (0, [0, 1], [(0, .aload_n 0, []), (1, .aload_n 1, []), (2, .invokespecial 29, [7, 127, 2, 2, 1, 250, 13]), (5, .pop, []), (6, .aload_n 0, []), (7, .areturn, [])], 8)]
def rJ4_append_15ec4 : xRow := ((yJ4_append_15ec4, cJ4_append_15ec4, 2, (some (.object "java/lang/StringBuilder")), 1, 250), bJ4_append_15ec4, pJ4)
def bJ4_append_cf468 : xBl := [
  (0, [0, 1], [(0, .aload_n 0, []), (1, .iload_n 1, []), (2, .invokespecial 50, [7, 128, 2, 2, 1, 250, 13]), (5, .pop, []), (6, .aload_n 0, []), (7, .areturn, [])], 8)]
def rJ4_append_cf468 : xRow := ((yJ4_append_cf468, cJ4_append_cf468, 2, (some (.object "java/lang/StringBuilder")), 1, 250), bJ4_append_cf468, pJ4)
def bJ4_append_bf812 : xBl := [
  (0, [0, 1], [(0, .aload_n 0, []), (1, .iload_n 1, []), (2, .invokespecial 53, [7, 129, 2, 2, 1, 250, 13]), (5, .pop, []), (6, .aload_n 0, []), (7, .areturn, [])], 8)]
def rJ4_append_bf812 : xRow := ((yJ4_append_bf812, cJ4_append_bf812, 2, (some (.object "java/lang/StringBuilder")), 1, 250), bJ4_append_bf812, pJ4)
def bJ4_toString_0e30d : xBl := [
  (0, [0], [(0, .new 18, [0, 11, 4]), (3, .dup, []), (4, .aload_n 0, []), (5, .invokespecial 137, [2, 142, 2, 9, 1, 120, 12]), (8, .areturn, [])], 9)]
def rJ4_toString_0e30d : xRow := ((yJ4_toString_0e30d, cJ4_toString_0e30d, 1, (some (.object "java/lang/String")), 2, 124), bJ4_toString_0e30d, pJ4)
def bJ4_append_cf1ce : xBl := [
  (0, [0, 1], [(0, .aload_n 0, []), (1, .aload_n 1, []), (2, .invokevirtual 23, [1, 147, 2, 2, 1, 250, 13]), (5, .areturn, [])], 6)]
def rJ4_append_cf1ce : xRow := ((yJ4_append_cf1ce, cJ4_append_cf1ce, 2, (some (.object "java/lang/AbstractStringBuilder")), 1, 250), bJ4_append_cf1ce, pJ4)
def bJ4_length_8abf5 : xBl := [
  (0, [0], [(0, .aload_n 0, []), (1, .invokespecial 343, [7, 136, 1, 0, 0, 0, 13]), (4, .ireturn, [0])], 5)]
def rJ4_length_8abf5 : xRow := ((yJ4_length_8abf5, cJ4_length_8abf5, 1, (some .int), 0, 0), bJ4_length_8abf5, pJ4)
def pJ5 : xPool := [(1, 18, [2]), (0, 15, [12, 0, 2, 0]), (0, 22, [12, 1, 6, 0]), (2, 32, [1, 118, 1, 0, 0, 0, 100]), (2, 40, [1, 120, 1, 0, 0, 0, 100]), (2, 43, [9, 151, 2, 2, 1, 250, 13]), (0, 79, [12, 3, 0, 0]), (2, 100, [6, 130, 2, 9, 1, 250, 13]), (2, 208, [6, 134, 3, 9, 0, 0, 13]), (2, 83, [6, 132, 1, 0, 0, 0, 13]), (2, 191, [0, 153, 1, 0, 0, 0, 0]), (2, 245, [0, 154, 1, 0, 0, 0, 0]), (2, 248, [0, 155, 3, 0, 0, 0, 0]), (2, 104, [6, 131, 2, 0, 0, 0, 13]), (2, 108, [0, 138, 2, 2, 1, 250, 0]), (2, 114, [0, 137, 3, 0, 0, 0, 0]), (2, 397, [6, 133, 2, 9, 0, 0, 13]), (2, 399, [1, 144, 4, 9, 0, 0, 100])]
def bJ5_init_d00df : xBl := [
  (0, [0, 1], [(0, .aload_n 0, []), (1, .invokespecial 3, [0]), (4, .getstatic 18, [2]), (7, .ifCond .eq 18, [25]), (10, .aload_n 0, []), (11, .iload_n 1, []), (12, .newarray .byte, [1]), (14, .putfield 15, [12, 0, 2, 0]), (17, .aload_n 0, []), (18, .iconst 0, []), (19, .putfield 22, [12, 1, 6, 0]), (22, .goto 16, [38])], 25),
  (38, [], [(38, .return_, [])], 39)]
def rJ5_init_d00df : xRow := ((yJ5_init_d00df, cJ5_init_d00df, 2, none, 1, 16), bJ5_init_d00df, pJ5)
def bJ5_init_a7421 : xBl := [
  (0, [0, 1], [(0, .aload_n 0, []), (1, .invokespecial 3, [0]), (4, .aload_n 1, []), (5, .invokevirtual 32, [1, 118, 1, 0, 0, 0, 100]), (8, .istore_n 2, []), (9, .iload_n 2, []), (10, .ldc 38, [0, 2147483631]), (12, .if_icmp .ge 10, [22]), (15, .iload_n 2, []), (16, .bipush 16, []), (18, .iadd, []), (19, .goto 5, [24])], 22),
  (24, [0, 1], [(24, .istore_n 3, []), (25, .aload_n 1, []), (26, .invokevirtual 40, [1, 120, 1, 0, 0, 0, 100]), (29, .istore 4, []), (31, .aload_n 0, []), (32, .iload 4, []), (34, .putfield 22, [12, 1, 6, 0]), (37, .aload_n 0, []), (38, .iload 4, []), (40, .ifCond .ne 9, [49]), (43, .iload_n 3, []), (44, .newarray .byte, [1]), (46, .goto 7, [53])], 49),
  (53, [0, 1], [(53, .putfield 15, [12, 0, 2, 0]), (56, .aload_n 0, []), (57, .aload_n 1, []), (58, .invokevirtual 43, [9, 151, 2, 2, 1, 250, 13]), (61, .pop, []), (62, .return_, [])], 63)]
def rJ5_init_a7421 : xRow := ((yJ5_init_a7421, cJ5_init_a7421, 5, none, 2, 310), bJ5_init_a7421, pJ5)
def bJ5_append_cf1ce : xBl := [
  (0, [0, 1], [(0, .aload_n 1, []), (1, .ifnonnull 8, [9])], 4),
  (9, [0, 1], [(9, .aload_n 1, []), (10, .invokevirtual 32, [1, 118, 1, 0, 0, 0, 100]), (13, .istore_n 2, []), (14, .aload_n 0, []), (15, .aload_n 0, []), (16, .getfield 79, [12, 3, 0, 0]), (19, .iload_n 2, []), (20, .iadd, []), (21, .invokevirtual 100, [6, 130, 2, 9, 1, 250, 13]), (24, .aload_n 0, []), (25, .aload_n 0, []), (26, .getfield 79, [12, 3, 0, 0]), (29, .aload_n 1, []), (30, .invokevirtual 208, [6, 134, 3, 9, 0, 0, 13]), (33, .aload_n 0, []), (34, .dup, []), (35, .getfield 79, [12, 3, 0, 0]), (38, .iload_n 2, []), (39, .iadd, []), (40, .putfield 79, [12, 3, 0, 0]), (43, .aload_n 0, []), (44, .areturn, [])], 45)]
def rJ5_append_cf1ce : xRow := ((yJ5_append_cf1ce, cJ5_append_cf1ce, 3, (some (.object "java/lang/AbstractStringBuilder")), 1, 250), bJ5_append_cf1ce, pJ5)
def bJ5_append_3fe6f : xBl := [
  (0, [0, 1], [(0, .aload_n 0, []), (1, .aload_n 0, []), (2, .getfield 79, [12, 3, 0, 0]), (5, .iconst 1, []), (6, .iadd, []), (7, .invokevirtual 100, [6, 130, 2, 9, 1, 250, 13]), (10, .aload_n 0, []), (11, .invokevirtual 83, [6, 132, 1, 0, 0, 0, 13]), (14, .ifCond .eq 31, [45]), (17, .iload_n 1, []), (18, .invokestatic 191, [0, 153, 1, 0, 0, 0, 0]), (21, .ifCond .eq 24, [45]), (24, .aload_n 0, []), (25, .getfield 15, [12, 0, 2, 0]), (28, .aload_n 0, []), (29, .dup, []), (30, .getfield 79, [12, 3, 0, 0]), (33, .dup_x1, []), (34, .iconst 1, []), (35, .iadd, []), (36, .putfield 79, [12, 3, 0, 0]), (39, .iload_n 1, []), (40, .i2b, []), (41, .bastore, []), (42, .goto 33, [75])], 45),
  (75, [0], [(75, .aload_n 0, []), (76, .areturn, [])], 77)]
def rJ5_append_3fe6f : xRow := ((yJ5_append_3fe6f, cJ5_append_3fe6f, 2, (some (.object "java/lang/AbstractStringBuilder")), 1, 250), bJ5_append_3fe6f, pJ5)
def bJ5_append_c97b9 : xBl := [
  (0, [0, 1], [(0, .aload_n 0, []), (1, .getfield 79, [12, 3, 0, 0]), (4, .istore_n 2, []), (5, .iload_n 2, []), (6, .iload_n 1, []), (7, .invokestatic 245, [0, 154, 1, 0, 0, 0, 0]), (10, .iadd, []), (11, .istore_n 3, []), (12, .aload_n 0, []), (13, .iload_n 3, []), (14, .invokevirtual 100, [6, 130, 2, 9, 1, 250, 13]), (17, .aload_n 0, []), (18, .invokevirtual 83, [6, 132, 1, 0, 0, 0, 13]), (21, .ifCond .eq 16, [37]), (24, .iload_n 1, []), (25, .iload_n 3, []), (26, .aload_n 0, []), (27, .getfield 15, [12, 0, 2, 0]), (30, .invokestatic 248, [0, 155, 3, 0, 0, 0, 0]), (33, .pop, []), (34, .goto 14, [48])], 37),
  (48, [0, 3], [(48, .aload_n 0, []), (49, .iload_n 3, []), (50, .putfield 79, [12, 3, 0, 0]), (53, .aload_n 0, []), (54, .areturn, [])], 55)]
def rJ5_append_c97b9 : xRow := ((yJ5_append_c97b9, cJ5_append_c97b9, 4, (some (.object "java/lang/AbstractStringBuilder")), 1, 250), bJ5_append_c97b9, pJ5)
def bJ5_ensureCapacityInternal_d00df : xBl := [
  (0, [0, 1], [(0, .aload_n 0, []), (1, .getfield 15, [12, 0, 2, 0]), (4, .arraylength, []), (5, .aload_n 0, []), (6, .getfield 22, [12, 1, 6, 0]), (9, .ishr, []), (10, .istore_n 2, []), (11, .iload_n 1, []), (12, .iload_n 2, []), (13, .isub, []), (14, .ifCond .le 24, [38]), (17, .aload_n 0, []), (18, .aload_n 0, []), (19, .getfield 15, [12, 0, 2, 0]), (22, .aload_n 0, []), (23, .iload_n 1, []), (24, .invokevirtual 104, [6, 131, 2, 0, 0, 0, 13]), (27, .aload_n 0, []), (28, .getfield 22, [12, 1, 6, 0]), (31, .ishl, []), (32, .invokestatic 108, [0, 138, 2, 2, 1, 250, 0]), (35, .putfield 15, [12, 0, 2, 0])], 38),
  (38, [], [(38, .return_, [])], 39)]
def rJ5_ensureCapacityInternal_d00df : xRow := ((yJ5_ensureCapacityInternal_d00df, cJ5_ensureCapacityInternal_d00df, 3, none, 1, 250), bJ5_ensureCapacityInternal_d00df, pJ5)
def bJ5_newCapacity_0f7a4 : xBl := [
  (0, [0, 1], [(0, .aload_n 0, []), (1, .getfield 15, [12, 0, 2, 0]), (4, .arraylength, []), (5, .istore_n 2, []), (6, .iload_n 1, []), (7, .aload_n 0, []), (8, .getfield 22, [12, 1, 6, 0]), (11, .ishl, []), (12, .istore_n 3, []), (13, .iload_n 3, []), (14, .iload_n 2, []), (15, .isub, []), (16, .istore 4, []), (18, .iload_n 2, []), (19, .iload 4, []), (21, .iload_n 2, []), (22, .iconst 2, []), (23, .aload_n 0, []), (24, .getfield 22, [12, 1, 6, 0]), (27, .ishl, []), (28, .iadd, []), (29, .invokestatic 114, [0, 137, 3, 0, 0, 0, 0]), (32, .istore 5, []), (34, .iload 5, []), (36, .ldc 39, [0, 2147483647]), (38, .if_icmp .ne 13, [51])], 41),
  (51, [0, 5], [(51, .iload 5, []), (53, .aload_n 0, []), (54, .getfield 22, [12, 1, 6, 0]), (57, .ishr, []), (58, .ireturn, [0])], 59)]
def rJ5_newCapacity_0f7a4 : xRow := ((yJ5_newCapacity_0f7a4, cJ5_newCapacity_0f7a4, 6, (some .int), 0, 0), bJ5_newCapacity_0f7a4, pJ5)
def bJ5_isLatin1_aae02 : xBl := [
  (0, [0], [(0, .getstatic 18, [2]), (3, .ifCond .eq 14, [17]), (6, .aload_n 0, []), (7, .getfield 22, [12, 1, 6, 0]), (10, .ifCond .ne 7, [17]), (13, .iconst 1, []), (14, .goto 4, [18])], 17),
  (18, [], [(18, .ireturn, [5])], 19)]
def rJ5_isLatin1_aae02 : xRow := ((yJ5_isLatin1_aae02, cJ5_isLatin1_aae02, 1, (some .boolean), 0, 0), bJ5_isLatin1_aae02, pJ5)
def bJ5_inflateIfNeededFor_a7421 : xBl := [
  (0, [0, 1], [(0, .getstatic 18, [2]), (3, .ifCond .eq 18, [21]), (6, .aload_n 0, []), (7, .getfield 22, [12, 1, 6, 0]), (10, .aload_n 1, []), (11, .invokevirtual 40, [1, 120, 1, 0, 0, 0, 100]), (14, .if_icmp .eq 7, [21])], 17),
  (21, [], [(21, .return_, [])], 22)]
def rJ5_inflateIfNeededFor_a7421 : xRow := ((yJ5_inflateIfNeededFor_a7421, cJ5_inflateIfNeededFor_a7421, 2, none, 0, 0), bJ5_inflateIfNeededFor_a7421, pJ5)
def bJ5_putStringAt_47b60 : xBl := [
  (0, [0, 1, 2], [(0, .aload_n 0, []), (1, .aload_n 2, []), (2, .invokevirtual 397, [6, 133, 2, 9, 0, 0, 13]), (5, .aload_n 2, []), (6, .aload_n 0, []), (7, .getfield 15, [12, 0, 2, 0]), (10, .iload_n 1, []), (11, .aload_n 0, []), (12, .getfield 22, [12, 1, 6, 0]), (15, .invokevirtual 399, [1, 144, 4, 9, 0, 0, 100]), (18, .return_, [])], 19)]
def rJ5_putStringAt_47b60 : xRow := ((yJ5_putStringAt_47b60, cJ5_putStringAt_47b60, 3, none, 0, 0), bJ5_putStringAt_47b60, pJ5)
def bJ5_getValue_6d5f1 : xBl := [
  (0, [0], [(0, .aload_n 0, []), (1, .getfield 15, [12, 0, 2, 0]), (4, .areturn, [])], 5)]
def rJ5_getValue_6d5f1 : xRow := ((yJ5_getValue_6d5f1, cJ5_getValue_6d5f1, 1, (some (.array .byte)), 0, 0), bJ5_getValue_6d5f1, pJ5)
def bJ5_length_8abf5 : xBl := [
  (0, [0], [(0, .aload_n 0, []), (1, .getfield 79, [12, 3, 0, 0]), (4, .ireturn, [0])], 5)]
def rJ5_length_8abf5 : xRow := ((yJ5_length_8abf5, cJ5_length_8abf5, 1, (some .int), 0, 0), bJ5_length_8abf5, pJ5)
def pJ6 : xPool := [(1, 83, [4]), (1, 87, [5])]
def bJ6_stringSize_0f7a4 : xBl := [
  (0, [0], [(0, .iconst 1, []), (1, .istore_n 1, []), (2, .iload_n 0, []), (3, .ifCond .lt 8, [11]), (6, .iconst 0, []), (7, .istore_n 1, []), (8, .iload_n 0, []), (9, .ineg, []), (10, .istore_n 0, [])], 11),
  (11, [0, 1], [(11, .bipush (-10), []), (13, .istore_n 2, []), (14, .iconst 1, []), (15, .istore_n 3, [])], 16),
  (16, [0, 1, 2, 3], [(16, .iload_n 3, []), (17, .bipush 10, []), (19, .if_icmp .ge 23, [42]), (22, .iload_n 0, []), (23, .iload_n 2, []), (24, .if_icmp .le 7, [31]), (27, .iload_n 3, []), (28, .iload_n 1, []), (29, .iadd, []), (30, .ireturn, [0])], 31),
  (31, [0, 1, 2, 3], [(31, .bipush 10, []), (33, .iload_n 2, []), (34, .imul, []), (35, .istore_n 2, []), (36, .iinc 3 1, []), (39, .goto (-23), [16])], 42)]
def rJ6_stringSize_0f7a4 : xRow := ((yJ6_stringSize_0f7a4, cJ6_stringSize_0f7a4, 4, (some .int), 0, 0), bJ6_stringSize_0f7a4, pJ6)
def bJ6_getChars_ba4f3 : xBl := [
  (0, [0, 1, 2], [(0, .iload_n 1, []), (1, .istore 5, []), (3, .iload_n 0, []), (4, .ifCond .ge 7, [11]), (7, .iconst 1, []), (8, .goto 4, [12])], 11),
  (11, [0, 2, 5], [(11, .iconst 0, [])], 12),
  (12, [0, 2, 5], [(12, .istore 6, []), (14, .iload 6, []), (16, .ifCond .ne 6, [22]), (19, .iload_n 0, []), (20, .ineg, []), (21, .istore_n 0, [])], 22),
  (22, [0, 2, 5, 6], [(22, .iload_n 0, []), (23, .bipush (-100), []), (25, .if_icmp .gt 47, [72])], 28),
  (72, [0, 2, 5, 6], [(72, .aload_n 2, []), (73, .iinc 5 (-1), []), (76, .iload 5, []), (78, .getstatic 83, [4]), (81, .iload_n 0, []), (82, .ineg, []), (83, .baload, []), (84, .bastore, []), (85, .iload_n 0, []), (86, .bipush (-9), []), (88, .if_icmp .ge 16, [104]), (91, .aload_n 2, []), (92, .iinc 5 (-1), []), (95, .iload 5, []), (97, .getstatic 87, [5]), (100, .iload_n 0, []), (101, .ineg, []), (102, .baload, []), (103, .bastore, [])], 104),
  (104, [5, 6], [(104, .iload 6, []), (106, .ifCond .eq 12, [118])], 109),
  (118, [5], [(118, .iload 5, []), (120, .ireturn, [0])], 121)]
def rJ6_getChars_ba4f3 : xRow := ((yJ6_getChars_ba4f3, cJ6_getChars_ba4f3, 7, (some .int), 0, 0), bJ6_getChars_ba4f3, pJ6)
def pJ7 : xPool := [(2, 339, [0, 140, 3, 2, 1, 120, 0]), (2, 343, [0, 141, 2, 9, 0, 0, 0])]
def bJ7_fill_53178 : xBl := [
  (0, [0, 1], [(0, .iconst 0, []), (1, .istore_n 2, []), (2, .aload_n 0, []), (3, .arraylength, []), (4, .istore_n 3, [])], 5),
  (5, [0, 1, 2, 3], [(5, .iload_n 2, []), (6, .iload_n 3, []), (7, .if_icmp .ge 13, [20]), (10, .aload_n 0, []), (11, .iload_n 2, []), (12, .iload_n 1, []), (13, .iastore, []), (14, .iinc 2 1, []), (17, .goto (-12), [5])], 20),
  (20, [], [(20, .return_, [])], 21)]
def rJ7_fill_53178 : xRow := ((yJ7_fill_53178, cJ7_fill_53178, 4, none, 0, 0), bJ7_fill_53178, pJ7)
def bJ7_copyOf_9075b : xBl := [
  (0, [0, 1], [(0, .iload_n 1, []), (1, .aload_n 0, []), (2, .arraylength, []), (3, .if_icmp .ne 11, [14])], 6),
  (14, [0, 1], [(14, .iload_n 1, []), (15, .newarray .byte, [1]), (17, .astore_n 2, []), (18, .aload_n 0, []), (19, .iconst 0, []), (20, .aload_n 2, []), (21, .iconst 0, []), (22, .aload_n 0, []), (23, .arraylength, []), (24, .iload_n 1, []), (25, .invokestatic 304, [0, 1]), (28, .invokestatic 150, [0, 6]), (31, .aload_n 2, []), (32, .areturn, [])], 33)]
def rJ7_copyOf_9075b : xRow := ((yJ7_copyOf_9075b, cJ7_copyOf_9075b, 3, (some (.array .byte)), 1, 250), bJ7_copyOf_9075b, pJ7)
def bJ7_copyOfRange_39247 : xBl := [
  (0, [0, 1, 2], [(0, .iload_n 1, []), (1, .ifCond .ne 9, [10]), (4, .iload_n 2, []), (5, .aload_n 0, []), (6, .arraylength, []), (7, .if_icmp .eq 10, [17])], 10),
  (10, [0, 1, 2], [(10, .aload_n 0, []), (11, .iload_n 1, []), (12, .iload_n 2, []), (13, .invokestatic 339, [0, 140, 3, 2, 1, 120, 0]), (16, .areturn, [])], 17)]
def rJ7_copyOfRange_39247 : xRow := ((yJ7_copyOfRange_39247, cJ7_copyOfRange_39247, 3, (some (.array .byte)), 1, 120), bJ7_copyOfRange_39247, pJ7)
def bJ7_copyOfRangeByte_39247 : xBl := [
  (0, [0, 1, 2], [(0, .iload_n 1, []), (1, .iload_n 2, []), (2, .invokestatic 343, [0, 141, 2, 9, 0, 0, 0]), (5, .iload_n 2, []), (6, .iload_n 1, []), (7, .isub, []), (8, .istore_n 3, []), (9, .iload_n 3, []), (10, .newarray .byte, [1]), (12, .astore 4, []), (14, .aload_n 0, []), (15, .iload_n 1, []), (16, .aload 4, []), (18, .iconst 0, []), (19, .aload_n 0, []), (20, .arraylength, []), (21, .iload_n 1, []), (22, .isub, []), (23, .iload_n 3, []), (24, .invokestatic 304, [0, 1]), (27, .invokestatic 150, [0, 6]), (30, .aload 4, []), (32, .areturn, [])], 33)]
def rJ7_copyOfRangeByte_39247 : xRow := ((yJ7_copyOfRangeByte_39247, cJ7_copyOfRangeByte_39247, 5, (some (.array .byte)), 1, 120), bJ7_copyOfRangeByte_39247, pJ7)
def bJ7_checkLength_df160 : xBl := [
  (0, [0, 1], [(0, .iload_n 1, []), (1, .iload_n 0, []), (2, .if_icmp .ge 35, [37])], 5),
  (37, [], [(37, .return_, [])], 38)]
def rJ7_checkLength_df160 : xRow := ((yJ7_checkLength_df160, cJ7_checkLength_df160, 2, none, 0, 0), bJ7_checkLength_df160, pJ7)
def pJ8 : xPool := []
def bJ8_newLength_cabcc : xBl := [
  (0, [0, 1, 2], [(0, .iload_n 0, []), (1, .iload_n 1, []), (2, .iload_n 2, []), (3, .invokestatic 194, [0, 0]), (6, .iadd, []), (7, .istore_n 3, []), (8, .iconst 0, []), (9, .iload_n 3, []), (10, .if_icmp .ge 11, [21]), (13, .iload_n 3, []), (14, .ldc 200, [0, 2147483639]), (16, .if_icmp .gt 5, [21]), (19, .iload_n 3, []), (20, .ireturn, [0])], 21)]
def rJ8_newLength_cabcc : xRow := ((yJ8_newLength_cabcc, cJ8_newLength_cabcc, 4, (some .int), 0, 0), bJ8_newLength_cabcc, pJ8)
def pJ15 : xPool := [(2, 105, [0, 124, 3, 0, 0, 0, 0])]
def bJ15_checkIndex_7cf53 : xBl := [
  (0, [0, 1], [(0, .iload_n 0, []), (1, .iload_n 1, []), (2, .aconst_null, []), (3, .invokestatic 105, [0, 124, 3, 0, 0, 0, 0]), (6, .ireturn, [0])], 7)]
def rJ15_checkIndex_7cf53 : xRow := ((yJ15_checkIndex_7cf53, cJ15_checkIndex_7cf53, 2, (some .int), 0, 0), bJ15_checkIndex_7cf53, pJ15)
def pJx4a65c : xPool := [(2, 1, [2, 157, 1, 9, 0, 0, 14]), (1, 39, [6]), (0, 9, [13, 1, 2, 0]), (0, 63, [13, 0, 0, 4]), (0, 48, [13, 2, 0, 0]), (2, 131, [1, 160, 4, 9, 1, 10, 14]), (2, 129, [1, 161, 1, 2, 1, 10, 14]), (2, 69, [1, 162, 2, 2, 1, 10, 14]), (4, 7, [6]), (2, 118, [0, 166, 2, 0, 0, 0, 0]), (2, 123, [1, 164, 2, 2, 0, 0, 14])]
def bJx4a65c_init_da8c8 : xBl := [
  (0, [0], [(0, .aload_n 0, []), (1, .invokespecial 1, [2, 157, 1, 9, 0, 0, 14]), (4, .aload_n 0, []), (5, .getstatic 39, [6]), (8, .putfield 9, [13, 1, 2, 0]), (11, .return_, [])], 12)]
def rJx4a65c_init_da8c8 : xRow := ((yJx4a65c_init_da8c8, cJx4a65c_init_da8c8, 1, none, 0, 0), bJx4a65c_init_da8c8, pJx4a65c)
def bJx4a65c_add_9ea2d : xBl := [
  (0, [0, 1], [(0, .aload_n 0, []), (1, .dup, []), (2, .getfield 63, [13, 0, 0, 4]), (5, .iconst 1, []), (6, .iadd, []), (7, .putfield 63, [13, 0, 0, 4]), (10, .aload_n 0, []), (11, .aload_n 1, []), (12, .aload_n 0, []), (13, .getfield 9, [13, 1, 2, 0]), (16, .aload_n 0, []), (17, .getfield 48, [13, 2, 0, 0]), (20, .invokevirtual 131, [1, 160, 4, 9, 1, 10, 14]), (23, .iconst 1, []), (24, .ireturn, [5])], 25)]
def rJx4a65c_add_9ea2d : xRow := ((yJx4a65c_add_9ea2d, cJx4a65c_add_9ea2d, 2, (some .boolean), 1, 10), bJx4a65c_add_9ea2d, pJx4a65c)
def bJx4a65c_add_72be8 : xBl := [
  (0, [0, 1, 2, 3], [(0, .iload_n 3, []), (1, .aload_n 2, []), (2, .arraylength, []), (3, .if_icmp .ne 8, [11]), (6, .aload_n 0, []), (7, .invokevirtual 129, [1, 161, 1, 2, 1, 10, 14]), (10, .astore_n 2, [])], 11),
  (11, [0, 1, 2, 3], [(11, .aload_n 2, []), (12, .iload_n 3, []), (13, .aload_n 1, []), (14, .aastore, []), (15, .aload_n 0, []), (16, .iload_n 3, []), (17, .iconst 1, []), (18, .iadd, []), (19, .putfield 48, [13, 2, 0, 0]), (22, .return_, [])], 23)]
def rJx4a65c_add_72be8 : xRow := ((yJx4a65c_add_72be8, cJx4a65c_add_72be8, 4, none, 1, 10), bJx4a65c_add_72be8, pJx4a65c)
def bJx4a65c_grow_d5877 : xBl := [
  (0, [0], [(0, .aload_n 0, []), (1, .aload_n 0, []), (2, .getfield 48, [13, 2, 0, 0]), (5, .iconst 1, []), (6, .iadd, []), (7, .invokevirtual 69, [1, 162, 2, 2, 1, 10, 14]), (10, .areturn, [])], 11)]
def rJx4a65c_grow_d5877 : xRow := ((yJx4a65c_grow_d5877, cJx4a65c_grow_d5877, 1, (some (.array (.object "java/lang/Object"))), 1, 10), bJx4a65c_grow_d5877, pJx4a65c)
def bJx4a65c_grow_92f84 : xBl := [
  (0, [0, 1], [(0, .aload_n 0, []), (1, .getfield 9, [13, 1, 2, 0]), (4, .arraylength, []), (5, .istore_n 2, []), (6, .iload_n 2, []), (7, .ifCond .gt 13, [20]), (10, .aload_n 0, []), (11, .getfield 9, [13, 1, 2, 0]), (14, .getstatic 39, [6]), (17, .if_acmp .eq 28, [45])], 20),
  (45, [0, 1], [(45, .aload_n 0, []), (46, .bipush 10, []), (48, .iload_n 1, []), (49, .invokestatic 79, [0, 0]), (52, .anewarray 7, [6]), (55, .dup_x1, []), (56, .putfield 9, [13, 1, 2, 0]), (59, .areturn, [])], 60)]
def rJx4a65c_grow_92f84 : xRow := ((yJx4a65c_grow_92f84, cJx4a65c_grow_92f84, 4, (some (.array (.object "java/lang/Object"))), 1, 10), bJx4a65c_grow_92f84, pJx4a65c)
def bJx4a65c_get_915e3 : xBl := [
  (0, [0, 1], [(0, .iload_n 1, []), (1, .aload_n 0, []), (2, .getfield 48, [13, 2, 0, 0]), (5, .invokestatic 118, [0, 166, 2, 0, 0, 0, 0]), (8, .pop, []), (9, .aload_n 0, []), (10, .iload_n 1, []), (11, .invokevirtual 123, [1, 164, 2, 2, 0, 0, 14]), (14, .areturn, [])], 15)]
def rJx4a65c_get_915e3 : xRow := ((yJx4a65c_get_915e3, cJx4a65c_get_915e3, 2, (some (.object "java/lang/Object")), 0, 0), bJx4a65c_get_915e3, pJx4a65c)
def bJx4a65c_elementData_915e3 : xBl := [
  (0, [0, 1], [(0, .aload_n 0, []), (1, .getfield 9, [13, 1, 2, 0]), (4, .iload_n 1, []), (5, .aaload, []), (6, .areturn, [])], 7)]
def rJx4a65c_elementData_915e3 : xRow := ((yJx4a65c_elementData_915e3, cJx4a65c_elementData_915e3, 2, (some (.object "java/lang/Object")), 0, 0), bJx4a65c_elementData_915e3, pJx4a65c)
def bJx4a65c_size_8abf5 : xBl := [
  (0, [0], [(0, .aload_n 0, []), (1, .getfield 48, [13, 2, 0, 0]), (4, .ireturn, [0])], 5)]
def rJx4a65c_size_8abf5 : xRow := ((yJx4a65c_size_8abf5, cJx4a65c_size_8abf5, 1, (some .int), 0, 0), bJx4a65c_size_8abf5, pJx4a65c)
def pJxc12de : xPool := [(2, 1, [2, 158, 1, 9, 0, 0, 14]), (0, 7, [13, 0, 0, 0])]
def bJxc12de_init_da8c8 : xBl := [
  (0, [0], [(0, .aload_n 0, []), (1, .invokespecial 1, [2, 158, 1, 9, 0, 0, 14]), (4, .aload_n 0, []), (5, .iconst 0, []), (6, .putfield 7, [13, 0, 0, 0]), (9, .return_, [])], 10)]
def rJxc12de_init_da8c8 : xRow := ((yJxc12de_init_da8c8, cJxc12de_init_da8c8, 1, none, 0, 0), bJxc12de_init_da8c8, pJxc12de)
def pJxa1e45 : xPool := []
def bJxa1e45_init_da8c8 : xBl := [
  (0, [0], [(0, .aload_n 0, []), (1, .invokespecial 1, [0]), (4, .return_, [])], 5)]
def rJxa1e45_init_da8c8 : xRow := ((yJxa1e45_init_da8c8, cJxa1e45_init_da8c8, 1, none, 0, 0), bJxa1e45_init_da8c8, pJxa1e45)
def xlds : xLds := [(RL, 53, "shells ", 27), (RL, 61, ";ball ", 28), (RL, 63, ";trust ", 29), (RL, 65, ";calm ", 30), (RL, 67, ";sly ", 31), (RL, 69, ";", 1), (RL, 78, "scratch ", 32), (RL, 83, "blink ", 33)]
def xexs : List (String × Nat × String) := [(RX10, 157, "step is out of range"), (RX10, 223, "the ball cannot be stolen there now"), (RX10, 233, "the ball cannot be planted now"), (RX10, 289, "length is out of range"), (RX10, 296, "there is no such place"), (RX10, 299, "the places are equal"), (RX10, 301, "at is out of range"), (RX10, 303, "what is out of range")]
def xrows : List xRow := [rL_steals, rL_plants, rX0_init, rX0_clear, rX0_copyFrom, rX0_isFull, rX0_tell, rX0_has, rX1_init, rX1_clear, rX1_reset, rX1_copyFrom, rX1_put, rX1_readSum, rX1_readTerm, rX1_readFactor, rX1_variableOf, rX2_init, rX2_reset, rX2_copyFrom, rX2_number, rX2_isBlinkNext, rX2_canSteal, rX2_canPlant, rX2_makeMove, rX2_makeStill, rX2_countStep, rX2_lookUnder, rX3_init, rX3_hasRoom, rX3_putWord, rX3_begin, rX3_kindAt, rX3_addToken, rX3_numberIn, rX3_tokenIn, rX3_isSpelled, rX3_put, rX3_token, rX3_number, rX3_is, rX3_advance, rX3_take, rX3_takeNumber, rX3_fail, rX4_init, rX4_reset, rX4_copyFrom, rX4_know, rX4_ruleOut, rX4_sum, rX4_greatest, rX4_countBelieved, rX4_likeliestShell, rX4_followMove, rX4_followStill, rX4_exchange, rX4_mix, rX4_wonder, rX4_pairsOf, rX4_settle, rX4_halve, rX4_divideByCommonDivisor, rX4_commonDivisor, rX5_init, rX5_reset, rX5_copyFrom, rX5_hasPlace, rX5_isScratched, rX5_setScratched, rX5_exchange, rX5_placeBehind, rX6_init, rX7_read, rX7_bitOfSingle, rX7_readStatement, rX7_readScratches, rX7_readScratch, rX7_readBlink, rX7_readSetting, rX7_greatestOf, rX7_set, rX9_init, rX10_init, rX10_append, rX10_load, rX10_state, rX10_belief, rX10_guess, rX10_blinks, rX10_swap, rX10_feint, rX10_rest, rX10_steal, rX10_plant, rX10_peek, rX10_game, rX10_change, rX10_moveBall, rX10_requireLength, rX10_requirePlace, rX10_requireTwoPlaces, rX10_requirePlaceOrHand, rX10_requireWhat, rX11_init, rX12_init, rX12_by, rX12_moved, rX12_weight, rX12_open, rX12_blind, rX12_isLike, rL_cell, rL_bound, rL_feeds, rL_read, rL_law, rJ7_fill_53178, rJ0_length_8abf5, rJ0_charAt_5068e, rJ0_coder_7d493, rJ0_isLatin1_aae02, rJ0_checkIndex_df160, rJ1_charAt_3b067, rJ3_checkIndex_8e157, rJ5_init_d00df, rJ5_init_a7421, rJ5_append_cf1ce, rJ5_append_3fe6f, rJ5_append_c97b9, rJ5_ensureCapacityInternal_d00df, rJ5_newCapacity_0f7a4, rJ5_isLatin1_aae02, rJ5_inflateIfNeededFor_a7421, rJ5_putStringAt_47b60, rJ5_getValue_6d5f1, rJ5_length_8abf5, rJ8_newLength_cabcc, rJ7_copyOf_9075b, rJ7_copyOfRange_39247, rJ7_copyOfRangeByte_39247, rJ7_checkLength_df160, rJ0_init_81219, rJ0_init_db425, rJ0_getBytes_840e7, rJ4_init_da8c8, rJ4_init_a7421, rJ4_append_15ec4, rJ4_append_cf468, rJ4_append_bf812, rJ4_toString_0e30d, rJ4_append_cf1ce, rJ4_length_8abf5, rJ1_canEncode_fc78d, rJ6_stringSize_0f7a4, rJ6_getChars_ba4f3, rJx4a65c_init_da8c8, rJxc12de_init_da8c8, rJxa1e45_init_da8c8, rJx4a65c_add_9ea2d, rJx4a65c_add_72be8, rJx4a65c_grow_d5877, rJx4a65c_grow_92f84, rJx4a65c_get_915e3, rJx4a65c_elementData_915e3, rJx4a65c_size_8abf5, rJ15_checkIndex_7cf53]
def xT : xTab := fun k => xrows[k]?
abbrev kL_steals : Nat := 0
abbrev kL_plants : Nat := 1
abbrev kX0_init : Nat := 2
abbrev kX0_clear : Nat := 3
abbrev kX0_copyFrom : Nat := 4
abbrev kX0_isFull : Nat := 5
abbrev kX0_tell : Nat := 6
abbrev kX0_has : Nat := 7
abbrev kX1_init : Nat := 8
abbrev kX1_clear : Nat := 9
abbrev kX1_reset : Nat := 10
abbrev kX1_copyFrom : Nat := 11
abbrev kX1_put : Nat := 12
abbrev kX1_readSum : Nat := 13
abbrev kX1_readTerm : Nat := 14
abbrev kX1_readFactor : Nat := 15
abbrev kX1_variableOf : Nat := 16
abbrev kX2_init : Nat := 17
abbrev kX2_reset : Nat := 18
abbrev kX2_copyFrom : Nat := 19
abbrev kX2_number : Nat := 20
abbrev kX2_isBlinkNext : Nat := 21
abbrev kX2_canSteal : Nat := 22
abbrev kX2_canPlant : Nat := 23
abbrev kX2_makeMove : Nat := 24
abbrev kX2_makeStill : Nat := 25
abbrev kX2_countStep : Nat := 26
abbrev kX2_lookUnder : Nat := 27
abbrev kX3_init : Nat := 28
abbrev kX3_hasRoom : Nat := 29
abbrev kX3_putWord : Nat := 30
abbrev kX3_begin : Nat := 31
abbrev kX3_kindAt : Nat := 32
abbrev kX3_addToken : Nat := 33
abbrev kX3_numberIn : Nat := 34
abbrev kX3_tokenIn : Nat := 35
abbrev kX3_isSpelled : Nat := 36
abbrev kX3_put : Nat := 37
abbrev kX3_token : Nat := 38
abbrev kX3_number : Nat := 39
abbrev kX3_is : Nat := 40
abbrev kX3_advance : Nat := 41
abbrev kX3_take : Nat := 42
abbrev kX3_takeNumber : Nat := 43
abbrev kX3_fail : Nat := 44
abbrev kX4_init : Nat := 45
abbrev kX4_reset : Nat := 46
abbrev kX4_copyFrom : Nat := 47
abbrev kX4_know : Nat := 48
abbrev kX4_ruleOut : Nat := 49
abbrev kX4_sum : Nat := 50
abbrev kX4_greatest : Nat := 51
abbrev kX4_countBelieved : Nat := 52
abbrev kX4_likeliestShell : Nat := 53
abbrev kX4_followMove : Nat := 54
abbrev kX4_followStill : Nat := 55
abbrev kX4_exchange : Nat := 56
abbrev kX4_mix : Nat := 57
abbrev kX4_wonder : Nat := 58
abbrev kX4_pairsOf : Nat := 59
abbrev kX4_settle : Nat := 60
abbrev kX4_halve : Nat := 61
abbrev kX4_divideByCommonDivisor : Nat := 62
abbrev kX4_commonDivisor : Nat := 63
abbrev kX5_init : Nat := 64
abbrev kX5_reset : Nat := 65
abbrev kX5_copyFrom : Nat := 66
abbrev kX5_hasPlace : Nat := 67
abbrev kX5_isScratched : Nat := 68
abbrev kX5_setScratched : Nat := 69
abbrev kX5_exchange : Nat := 70
abbrev kX5_placeBehind : Nat := 71
abbrev kX6_init : Nat := 72
abbrev kX7_read : Nat := 73
abbrev kX7_bitOfSingle : Nat := 74
abbrev kX7_readStatement : Nat := 75
abbrev kX7_readScratches : Nat := 76
abbrev kX7_readScratch : Nat := 77
abbrev kX7_readBlink : Nat := 78
abbrev kX7_readSetting : Nat := 79
abbrev kX7_greatestOf : Nat := 80
abbrev kX7_set : Nat := 81
abbrev kX9_init : Nat := 82
abbrev kX10_init : Nat := 83
abbrev kX10_append : Nat := 84
abbrev kX10_load : Nat := 85
abbrev kX10_state : Nat := 86
abbrev kX10_belief : Nat := 87
abbrev kX10_guess : Nat := 88
abbrev kX10_blinks : Nat := 89
abbrev kX10_swap : Nat := 90
abbrev kX10_feint : Nat := 91
abbrev kX10_rest : Nat := 92
abbrev kX10_steal : Nat := 93
abbrev kX10_plant : Nat := 94
abbrev kX10_peek : Nat := 95
abbrev kX10_game : Nat := 96
abbrev kX10_change : Nat := 97
abbrev kX10_moveBall : Nat := 98
abbrev kX10_requireLength : Nat := 99
abbrev kX10_requirePlace : Nat := 100
abbrev kX10_requireTwoPlaces : Nat := 101
abbrev kX10_requirePlaceOrHand : Nat := 102
abbrev kX10_requireWhat : Nat := 103
abbrev kX11_init : Nat := 104
abbrev kX12_init : Nat := 105
abbrev kX12_by : Nat := 106
abbrev kX12_moved : Nat := 107
abbrev kX12_weight : Nat := 108
abbrev kX12_open : Nat := 109
abbrev kX12_blind : Nat := 110
abbrev kX12_isLike : Nat := 111
abbrev kL_cell : Nat := 112
abbrev kL_bound : Nat := 113
abbrev kL_feeds : Nat := 114
abbrev kL_read : Nat := 115
abbrev kL_law : Nat := 116
abbrev kJ7_fill_53178 : Nat := 117
abbrev kJ0_length_8abf5 : Nat := 118
abbrev kJ0_charAt_5068e : Nat := 119
abbrev kJ0_coder_7d493 : Nat := 120
abbrev kJ0_isLatin1_aae02 : Nat := 121
abbrev kJ0_checkIndex_df160 : Nat := 122
abbrev kJ1_charAt_3b067 : Nat := 123
abbrev kJ3_checkIndex_8e157 : Nat := 124
abbrev kJ5_init_d00df : Nat := 125
abbrev kJ5_init_a7421 : Nat := 126
abbrev kJ5_append_cf1ce : Nat := 127
abbrev kJ5_append_3fe6f : Nat := 128
abbrev kJ5_append_c97b9 : Nat := 129
abbrev kJ5_ensureCapacityInternal_d00df : Nat := 130
abbrev kJ5_newCapacity_0f7a4 : Nat := 131
abbrev kJ5_isLatin1_aae02 : Nat := 132
abbrev kJ5_inflateIfNeededFor_a7421 : Nat := 133
abbrev kJ5_putStringAt_47b60 : Nat := 134
abbrev kJ5_getValue_6d5f1 : Nat := 135
abbrev kJ5_length_8abf5 : Nat := 136
abbrev kJ8_newLength_cabcc : Nat := 137
abbrev kJ7_copyOf_9075b : Nat := 138
abbrev kJ7_copyOfRange_39247 : Nat := 139
abbrev kJ7_copyOfRangeByte_39247 : Nat := 140
abbrev kJ7_checkLength_df160 : Nat := 141
abbrev kJ0_init_81219 : Nat := 142
abbrev kJ0_init_db425 : Nat := 143
abbrev kJ0_getBytes_840e7 : Nat := 144
abbrev kJ4_init_da8c8 : Nat := 145
abbrev kJ4_init_a7421 : Nat := 146
abbrev kJ4_append_15ec4 : Nat := 147
abbrev kJ4_append_cf468 : Nat := 148
abbrev kJ4_append_bf812 : Nat := 149
abbrev kJ4_toString_0e30d : Nat := 150
abbrev kJ4_append_cf1ce : Nat := 151
abbrev kJ4_length_8abf5 : Nat := 152
abbrev kJ1_canEncode_fc78d : Nat := 153
abbrev kJ6_stringSize_0f7a4 : Nat := 154
abbrev kJ6_getChars_ba4f3 : Nat := 155
abbrev kJx4a65c_init_da8c8 : Nat := 156
abbrev kJxc12de_init_da8c8 : Nat := 157
abbrev kJxa1e45_init_da8c8 : Nat := 158
abbrev kJx4a65c_add_9ea2d : Nat := 159
abbrev kJx4a65c_add_72be8 : Nat := 160
abbrev kJx4a65c_grow_d5877 : Nat := 161
abbrev kJx4a65c_grow_92f84 : Nat := 162
abbrev kJx4a65c_get_915e3 : Nat := 163
abbrev kJx4a65c_elementData_915e3 : Nat := 164
abbrev kJx4a65c_size_8abf5 : Nat := 165
abbrev kJ15_checkIndex_7cf53 : Nat := 166

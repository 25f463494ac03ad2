/-! THE TABLE HOLDS: rows against the bytes; written by wip/p31/genval.py. -/
set_option maxRecDepth 100000 in
theorem vb_J0_length_8abf5 : (bJ0_length_8abf5.all fun b => xokB yJ0_length_8abf5.cls (decide (yJ0_length_8abf5.name = "<init>")) cJ0_length_8abf5 1 (some .int) pJ0 xlds xexs b.2.2.2 b.1 b.2.2.1) = true := by decide +kernel
theorem vr_J0_length_8abf5 : xokR xT xlds xexs rJ0_length_8abf5 := ⟨by decide +kernel, by decide +kernel, fun b hb => List.all_eq_true.1 vb_J0_length_8abf5 b hb, fun q hq => List.all_eq_true.1 vp_J0 q hq⟩
set_option maxRecDepth 100000 in
theorem vb_J0_charAt_5068e : (bJ0_charAt_5068e.all fun b => xokB yJ0_charAt_5068e.cls (decide (yJ0_charAt_5068e.name = "<init>")) cJ0_charAt_5068e 2 (some .char) pJ0 xlds xexs b.2.2.2 b.1 b.2.2.1) = true := by decide +kernel
theorem vr_J0_charAt_5068e : xokR xT xlds xexs rJ0_charAt_5068e := ⟨by decide +kernel, by decide +kernel, fun b hb => List.all_eq_true.1 vb_J0_charAt_5068e b hb, fun q hq => List.all_eq_true.1 vp_J0 q hq⟩
set_option maxRecDepth 100000 in
theorem vb_J0_coder_7d493 : (bJ0_coder_7d493.all fun b => xokB yJ0_coder_7d493.cls (decide (yJ0_coder_7d493.name = "<init>")) cJ0_coder_7d493 1 (some .byte) pJ0 xlds xexs b.2.2.2 b.1 b.2.2.1) = true := by decide +kernel
theorem vr_J0_coder_7d493 : xokR xT xlds xexs rJ0_coder_7d493 := ⟨by decide +kernel, by decide +kernel, fun b hb => List.all_eq_true.1 vb_J0_coder_7d493 b hb, fun q hq => List.all_eq_true.1 vp_J0 q hq⟩
set_option maxRecDepth 100000 in
theorem vb_J0_isLatin1_aae02 : (bJ0_isLatin1_aae02.all fun b => xokB yJ0_isLatin1_aae02.cls (decide (yJ0_isLatin1_aae02.name = "<init>")) cJ0_isLatin1_aae02 1 (some .boolean) pJ0 xlds xexs b.2.2.2 b.1 b.2.2.1) = true := by decide +kernel
theorem vr_J0_isLatin1_aae02 : xokR xT xlds xexs rJ0_isLatin1_aae02 := ⟨by decide +kernel, by decide +kernel, fun b hb => List.all_eq_true.1 vb_J0_isLatin1_aae02 b hb, fun q hq => List.all_eq_true.1 vp_J0 q hq⟩
set_option maxRecDepth 100000 in
theorem vb_J0_checkIndex_df160 : (bJ0_checkIndex_df160.all fun b => xokB yJ0_checkIndex_df160.cls (decide (yJ0_checkIndex_df160.name = "<init>")) cJ0_checkIndex_df160 2 none pJ0 xlds xexs b.2.2.2 b.1 b.2.2.1) = true := by decide +kernel
theorem vr_J0_checkIndex_df160 : xokR xT xlds xexs rJ0_checkIndex_df160 := ⟨by decide +kernel, by decide +kernel, fun b hb => List.all_eq_true.1 vb_J0_checkIndex_df160 b hb, fun q hq => List.all_eq_true.1 vp_J0 q hq⟩
set_option maxRecDepth 100000 in
theorem vb_J0_init_81219 : (bJ0_init_81219.all fun b => xokB yJ0_init_81219.cls (decide (yJ0_init_81219.name = "<init>")) cJ0_init_81219 2 none pJ0 xlds xexs b.2.2.2 b.1 b.2.2.1) = true := by decide +kernel
theorem vr_J0_init_81219 : xokR xT xlds xexs rJ0_init_81219 := ⟨by decide +kernel, by decide +kernel, fun b hb => List.all_eq_true.1 vb_J0_init_81219 b hb, fun q hq => List.all_eq_true.1 vp_J0 q hq⟩
set_option maxRecDepth 100000 in
theorem vb_J0_init_db425 : (bJ0_init_db425.all fun b => xokB yJ0_init_db425.cls (decide (yJ0_init_db425.name = "<init>")) cJ0_init_db425 5 none pJ0 xlds xexs b.2.2.2 b.1 b.2.2.1) = true := by decide +kernel
theorem vr_J0_init_db425 : xokR xT xlds xexs rJ0_init_db425 := ⟨by decide +kernel, by decide +kernel, fun b hb => List.all_eq_true.1 vb_J0_init_db425 b hb, fun q hq => List.all_eq_true.1 vp_J0 q hq⟩
set_option maxRecDepth 100000 in
theorem vb_J0_getBytes_840e7 : (bJ0_getBytes_840e7.all fun b => xokB yJ0_getBytes_840e7.cls (decide (yJ0_getBytes_840e7.name = "<init>")) cJ0_getBytes_840e7 4 none pJ0 xlds xexs b.2.2.2 b.1 b.2.2.1) = true := by decide +kernel
theorem vr_J0_getBytes_840e7 : xokR xT xlds xexs rJ0_getBytes_840e7 := ⟨by decide +kernel, by decide +kernel, fun b hb => List.all_eq_true.1 vb_J0_getBytes_840e7 b hb, fun q hq => List.all_eq_true.1 vp_J0 q hq⟩
set_option maxRecDepth 100000 in
theorem vb_J1_charAt_3b067 : (bJ1_charAt_3b067.all fun b => xokB yJ1_charAt_3b067.cls (decide (yJ1_charAt_3b067.name = "<init>")) cJ1_charAt_3b067 2 (some .char) pJ1 xlds xexs b.2.2.2 b.1 b.2.2.1) = true := by decide +kernel
theorem vr_J1_charAt_3b067 : xokR xT xlds xexs rJ1_charAt_3b067 := ⟨by decide +kernel, by decide +kernel, fun b hb => List.all_eq_true.1 vb_J1_charAt_3b067 b hb, fun q hq => List.all_eq_true.1 vp_J1 q hq⟩
set_option maxRecDepth 100000 in
theorem vb_J1_canEncode_fc78d : (bJ1_canEncode_fc78d.all fun b => xokB yJ1_canEncode_fc78d.cls (decide (yJ1_canEncode_fc78d.name = "<init>")) cJ1_canEncode_fc78d 1 (some .boolean) pJ1 xlds xexs b.2.2.2 b.1 b.2.2.1) = true := by decide +kernel
theorem vr_J1_canEncode_fc78d : xokR xT xlds xexs rJ1_canEncode_fc78d := ⟨by decide +kernel, by decide +kernel, fun b hb => List.all_eq_true.1 vb_J1_canEncode_fc78d b hb, fun q hq => List.all_eq_true.1 vp_J1 q hq⟩
set_option maxRecDepth 100000 in
theorem vb_J3_checkIndex_8e157 : (bJ3_checkIndex_8e157.all fun b => xokB yJ3_checkIndex_8e157.cls (decide (yJ3_checkIndex_8e157.name = "<init>")) cJ3_checkIndex_8e157 3 (some .int) pJ3 xlds xexs b.2.2.2 b.1 b.2.2.1) = true := by decide +kernel
theorem vr_J3_checkIndex_8e157 : xokR xT xlds xexs rJ3_checkIndex_8e157 := ⟨by decide +kernel, by decide +kernel, fun b hb => List.all_eq_true.1 vb_J3_checkIndex_8e157 b hb, fun q hq => List.all_eq_true.1 vp_J3 q hq⟩
set_option maxRecDepth 100000 in
theorem vb_J4_init_da8c8 : (bJ4_init_da8c8.all fun b => xokB yJ4_init_da8c8.cls (decide (yJ4_init_da8c8.name = "<init>")) cJ4_init_da8c8 1 none pJ4 xlds xexs b.2.2.2 b.1 b.2.2.1) = true := by decide +kernel
theorem vr_J4_init_da8c8 : xokR xT xlds xexs rJ4_init_da8c8 := ⟨by decide +kernel, by decide +kernel, fun b hb => List.all_eq_true.1 vb_J4_init_da8c8 b hb, fun q hq => List.all_eq_true.1 vp_J4 q hq⟩
set_option maxRecDepth 100000 in
theorem vb_J4_init_a7421 : (bJ4_init_a7421.all fun b => xokB yJ4_init_a7421.cls (decide (yJ4_init_a7421.name = "<init>")) cJ4_init_a7421 2 none pJ4 xlds xexs b.2.2.2 b.1 b.2.2.1) = true := by decide +kernel
theorem vr_J4_init_a7421 : xokR xT xlds xexs rJ4_init_a7421 := ⟨by decide +kernel, by decide +kernel, fun b hb => List.all_eq_true.1 vb_J4_init_a7421 b hb, fun q hq => List.all_eq_true.1 vp_J4 q hq⟩
set_option maxRecDepth 100000 in
theorem vb_J4_append_15ec4 : (bJ4_append_15ec4.all fun b => xokB yJ4_append_15ec4.cls (decide (yJ4_append_15ec4.name = "<init>")) cJ4_append_15ec4 2 (some (.object "java/lang/StringBuilder")) pJ4 xlds xexs b.2.2.2 b.1 b.2.2.1) = true := by decide +kernel
theorem vr_J4_append_15ec4 : xokR xT xlds xexs rJ4_append_15ec4 := ⟨by decide +kernel, by decide +kernel, fun b hb => List.all_eq_true.1 vb_J4_append_15ec4 b hb, fun q hq => List.all_eq_true.1 vp_J4 q hq⟩
set_option maxRecDepth 100000 in
theorem vb_J4_append_cf468 : (bJ4_append_cf468.all fun b => xokB yJ4_append_cf468.cls (decide (yJ4_append_cf468.name = "<init>")) cJ4_append_cf468 2 (some (.object "java/lang/StringBuilder")) pJ4 xlds xexs b.2.2.2 b.1 b.2.2.1) = true := by decide +kernel
theorem vr_J4_append_cf468 : xokR xT xlds xexs rJ4_append_cf468 := ⟨by decide +kernel, by decide +kernel, fun b hb => List.all_eq_true.1 vb_J4_append_cf468 b hb, fun q hq => List.all_eq_true.1 vp_J4 q hq⟩
set_option maxRecDepth 100000 in
theorem vb_J4_append_bf812 : (bJ4_append_bf812.all fun b => xokB yJ4_append_bf812.cls (decide (yJ4_append_bf812.name = "<init>")) cJ4_append_bf812 2 (some (.object "java/lang/StringBuilder")) pJ4 xlds xexs b.2.2.2 b.1 b.2.2.1) = true := by decide +kernel
theorem vr_J4_append_bf812 : xokR xT xlds xexs rJ4_append_bf812 := ⟨by decide +kernel, by decide +kernel, fun b hb => List.all_eq_true.1 vb_J4_append_bf812 b hb, fun q hq => List.all_eq_true.1 vp_J4 q hq⟩
set_option maxRecDepth 100000 in
theorem vb_J4_toString_0e30d : (bJ4_toString_0e30d.all fun b => xokB yJ4_toString_0e30d.cls (decide (yJ4_toString_0e30d.name = "<init>")) cJ4_toString_0e30d 1 (some (.object "java/lang/String")) pJ4 xlds xexs b.2.2.2 b.1 b.2.2.1) = true := by decide +kernel
theorem vr_J4_toString_0e30d : xokR xT xlds xexs rJ4_toString_0e30d := ⟨by decide +kernel, by decide +kernel, fun b hb => List.all_eq_true.1 vb_J4_toString_0e30d b hb, fun q hq => List.all_eq_true.1 vp_J4 q hq⟩
set_option maxRecDepth 100000 in
theorem vb_J4_append_cf1ce : (bJ4_append_cf1ce.all fun b => xokB yJ4_append_cf1ce.cls (decide (yJ4_append_cf1ce.name = "<init>")) cJ4_append_cf1ce 2 (some (.object "java/lang/AbstractStringBuilder")) pJ4 xlds xexs b.2.2.2 b.1 b.2.2.1) = true := by decide +kernel
theorem vr_J4_append_cf1ce : xokR xT xlds xexs rJ4_append_cf1ce := ⟨by decide +kernel, by decide +kernel, fun b hb => List.all_eq_true.1 vb_J4_append_cf1ce b hb, fun q hq => List.all_eq_true.1 vp_J4 q hq⟩
set_option maxRecDepth 100000 in
theorem vb_J4_length_8abf5 : (bJ4_length_8abf5.all fun b => xokB yJ4_length_8abf5.cls (decide (yJ4_length_8abf5.name = "<init>")) cJ4_length_8abf5 1 (some .int) pJ4 xlds xexs b.2.2.2 b.1 b.2.2.1) = true := by decide +kernel
theorem vr_J4_length_8abf5 : xokR xT xlds xexs rJ4_length_8abf5 := ⟨by decide +kernel, by decide +kernel, fun b hb => List.all_eq_true.1 vb_J4_length_8abf5 b hb, fun q hq => List.all_eq_true.1 vp_J4 q hq⟩
set_option maxRecDepth 100000 in
theorem vb_J5_init_d00df : (bJ5_init_d00df.all fun b => xokB yJ5_init_d00df.cls (decide (yJ5_init_d00df.name = "<init>")) cJ5_init_d00df 2 none pJ5 xlds xexs b.2.2.2 b.1 b.2.2.1) = true := by decide +kernel
theorem vr_J5_init_d00df : xokR xT xlds xexs rJ5_init_d00df := ⟨by decide +kernel, by decide +kernel, fun b hb => List.all_eq_true.1 vb_J5_init_d00df b hb, fun q hq => List.all_eq_true.1 vp_J5 q hq⟩
set_option maxRecDepth 100000 in
theorem vb_J5_init_a7421 : (bJ5_init_a7421.all fun b => xokB yJ5_init_a7421.cls (decide (yJ5_init_a7421.name = "<init>")) cJ5_init_a7421 5 none pJ5 xlds xexs b.2.2.2 b.1 b.2.2.1) = true := by decide +kernel
theorem vr_J5_init_a7421 : xokR xT xlds xexs rJ5_init_a7421 := ⟨by decide +kernel, by decide +kernel, fun b hb => List.all_eq_true.1 vb_J5_init_a7421 b hb, fun q hq => List.all_eq_true.1 vp_J5 q hq⟩
set_option maxRecDepth 100000 in
theorem vb_J5_append_cf1ce : (bJ5_append_cf1ce.all fun b => xokB yJ5_append_cf1ce.cls (decide (yJ5_append_cf1ce.name = "<init>")) cJ5_append_cf1ce 3 (some (.object "java/lang/AbstractStringBuilder")) pJ5 xlds xexs b.2.2.2 b.1 b.2.2.1) = true := by decide +kernel
theorem vr_J5_append_cf1ce : xokR xT xlds xexs rJ5_append_cf1ce := ⟨by decide +kernel, by decide +kernel, fun b hb => List.all_eq_true.1 vb_J5_append_cf1ce b hb, fun q hq => List.all_eq_true.1 vp_J5 q hq⟩
set_option maxRecDepth 100000 in
theorem vb_J5_append_3fe6f : (bJ5_append_3fe6f.all fun b => xokB yJ5_append_3fe6f.cls (decide (yJ5_append_3fe6f.name = "<init>")) cJ5_append_3fe6f 2 (some (.object "java/lang/AbstractStringBuilder")) pJ5 xlds xexs b.2.2.2 b.1 b.2.2.1) = true := by decide +kernel
theorem vr_J5_append_3fe6f : xokR xT xlds xexs rJ5_append_3fe6f := ⟨by decide +kernel, by decide +kernel, fun b hb => List.all_eq_true.1 vb_J5_append_3fe6f b hb, fun q hq => List.all_eq_true.1 vp_J5 q hq⟩
set_option maxRecDepth 100000 in
theorem vb_J5_append_c97b9 : (bJ5_append_c97b9.all fun b => xokB yJ5_append_c97b9.cls (decide (yJ5_append_c97b9.name = "<init>")) cJ5_append_c97b9 4 (some (.object "java/lang/AbstractStringBuilder")) pJ5 xlds xexs b.2.2.2 b.1 b.2.2.1) = true := by decide +kernel
theorem vr_J5_append_c97b9 : xokR xT xlds xexs rJ5_append_c97b9 := ⟨by decide +kernel, by decide +kernel, fun b hb => List.all_eq_true.1 vb_J5_append_c97b9 b hb, fun q hq => List.all_eq_true.1 vp_J5 q hq⟩
set_option maxRecDepth 100000 in
theorem vb_J5_ensureCapacityInternal_d00df : (bJ5_ensureCapacityInternal_d00df.all fun b => xokB yJ5_ensureCapacityInternal_d00df.cls (decide (yJ5_ensureCapacityInternal_d00df.name = "<init>")) cJ5_ensureCapacityInternal_d00df 3 none pJ5 xlds xexs b.2.2.2 b.1 b.2.2.1) = true := by decide +kernel
theorem vr_J5_ensureCapacityInternal_d00df : xokR xT xlds xexs rJ5_ensureCapacityInternal_d00df := ⟨by decide +kernel, by decide +kernel, fun b hb => List.all_eq_true.1 vb_J5_ensureCapacityInternal_d00df b hb, fun q hq => List.all_eq_true.1 vp_J5 q hq⟩
set_option maxRecDepth 100000 in
theorem vb_J5_newCapacity_0f7a4 : (bJ5_newCapacity_0f7a4.all fun b => xokB yJ5_newCapacity_0f7a4.cls (decide (yJ5_newCapacity_0f7a4.name = "<init>")) cJ5_newCapacity_0f7a4 6 (some .int) pJ5 xlds xexs b.2.2.2 b.1 b.2.2.1) = true := by decide +kernel
theorem vr_J5_newCapacity_0f7a4 : xokR xT xlds xexs rJ5_newCapacity_0f7a4 := ⟨by decide +kernel, by decide +kernel, fun b hb => List.all_eq_true.1 vb_J5_newCapacity_0f7a4 b hb, fun q hq => List.all_eq_true.1 vp_J5 q hq⟩
set_option maxRecDepth 100000 in
theorem vb_J5_isLatin1_aae02 : (bJ5_isLatin1_aae02.all fun b => xokB yJ5_isLatin1_aae02.cls (decide (yJ5_isLatin1_aae02.name = "<init>")) cJ5_isLatin1_aae02 1 (some .boolean) pJ5 xlds xexs b.2.2.2 b.1 b.2.2.1) = true := by decide +kernel
theorem vr_J5_isLatin1_aae02 : xokR xT xlds xexs rJ5_isLatin1_aae02 := ⟨by decide +kernel, by decide +kernel, fun b hb => List.all_eq_true.1 vb_J5_isLatin1_aae02 b hb, fun q hq => List.all_eq_true.1 vp_J5 q hq⟩
set_option maxRecDepth 100000 in
theorem vb_J5_inflateIfNeededFor_a7421 : (bJ5_inflateIfNeededFor_a7421.all fun b => xokB yJ5_inflateIfNeededFor_a7421.cls (decide (yJ5_inflateIfNeededFor_a7421.name = "<init>")) cJ5_inflateIfNeededFor_a7421 2 none pJ5 xlds xexs b.2.2.2 b.1 b.2.2.1) = true := by decide +kernel
theorem vr_J5_inflateIfNeededFor_a7421 : xokR xT xlds xexs rJ5_inflateIfNeededFor_a7421 := ⟨by decide +kernel, by decide +kernel, fun b hb => List.all_eq_true.1 vb_J5_inflateIfNeededFor_a7421 b hb, fun q hq => List.all_eq_true.1 vp_J5 q hq⟩
set_option maxRecDepth 100000 in
theorem vb_J5_putStringAt_47b60 : (bJ5_putStringAt_47b60.all fun b => xokB yJ5_putStringAt_47b60.cls (decide (yJ5_putStringAt_47b60.name = "<init>")) cJ5_putStringAt_47b60 3 none pJ5 xlds xexs b.2.2.2 b.1 b.2.2.1) = true := by decide +kernel
theorem vr_J5_putStringAt_47b60 : xokR xT xlds xexs rJ5_putStringAt_47b60 := ⟨by decide +kernel, by decide +kernel, fun b hb => List.all_eq_true.1 vb_J5_putStringAt_47b60 b hb, fun q hq => List.all_eq_true.1 vp_J5 q hq⟩
set_option maxRecDepth 100000 in
theorem vb_J5_getValue_6d5f1 : (bJ5_getValue_6d5f1.all fun b => xokB yJ5_getValue_6d5f1.cls (decide (yJ5_getValue_6d5f1.name = "<init>")) cJ5_getValue_6d5f1 1 (some (.array .byte)) pJ5 xlds xexs b.2.2.2 b.1 b.2.2.1) = true := by decide +kernel
theorem vr_J5_getValue_6d5f1 : xokR xT xlds xexs rJ5_getValue_6d5f1 := ⟨by decide +kernel, by decide +kernel, fun b hb => List.all_eq_true.1 vb_J5_getValue_6d5f1 b hb, fun q hq => List.all_eq_true.1 vp_J5 q hq⟩
set_option maxRecDepth 100000 in
theorem vb_J5_length_8abf5 : (bJ5_length_8abf5.all fun b => xokB yJ5_length_8abf5.cls (decide (yJ5_length_8abf5.name = "<init>")) cJ5_length_8abf5 1 (some .int) pJ5 xlds xexs b.2.2.2 b.1 b.2.2.1) = true := by decide +kernel
theorem vr_J5_length_8abf5 : xokR xT xlds xexs rJ5_length_8abf5 := ⟨by decide +kernel, by decide +kernel, fun b hb => List.all_eq_true.1 vb_J5_length_8abf5 b hb, fun q hq => List.all_eq_true.1 vp_J5 q hq⟩

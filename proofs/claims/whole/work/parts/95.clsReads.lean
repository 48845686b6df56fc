/-! The class's reader: reads. -/
section
variable {X : ZX} {d c s : Nat} {I L I1 L1 I2 L2 J : ZI} {R R1 R2 : ZR} {call : ZC} {n p b t r lo hi : Nat} {x y : Int} {B : Nat → Int} {vs : List MV} {Q : Option ZV × ZS → Prop}
theorem rd_136 {v2 : ZV} (hQ : Q (some (zi 0), (c, s, I, L, R))) : V X call mX3_reads 136 [zr (some 3), zi 0, v2] [] (c, s, I, L, R) Q := by
  rw [e_X3_reads_136]
  simp (disch := omega) only [e_X3_reads_0, e_X3_reads_0x, e_X3_reads_1, e_X3_reads_4, e_X3_reads_7, e_X3_reads_7x, e_X3_reads_8, e_X3_reads_11, e_X3_reads_14, e_X3_reads_14x, e_X3_reads_15, e_X3_reads_18, e_X3_reads_19, e_X3_reads_20, e_X3_reads_22, e_X3_reads_25, e_X3_reads_26, e_X3_reads_27, e_X3_reads_30, e_X3_reads_30x, e_X3_reads_31, e_X3_reads_34, e_X3_reads_36, e_X3_reads_39, e_X3_reads_42, e_X3_reads_43, e_X3_reads_44, e_X3_reads_47, e_X3_reads_47x, e_X3_reads_48, e_X3_reads_51, e_X3_reads_54, e_X3_reads_54x, e_X3_reads_55, e_X3_reads_56, e_X3_reads_59, e_X3_reads_60, e_X3_reads_63, e_X3_reads_66, e_X3_reads_67, e_X3_reads_69, e_X3_reads_72, e_X3_reads_73, e_X3_reads_75, e_X3_reads_78, e_X3_reads_78x, e_X3_reads_79, e_X3_reads_82, e_X3_reads_84, e_X3_reads_87, e_X3_reads_90, e_X3_reads_91, e_X3_reads_93, e_X3_reads_96, e_X3_reads_96x, e_X3_reads_97, e_X3_reads_97x, e_X3_reads_98, e_X3_reads_101, e_X3_reads_104, e_X3_reads_105, e_X3_reads_106, e_X3_reads_109, e_X3_reads_112, e_X3_reads_112x, e_X3_reads_113, e_X3_reads_114, e_X3_reads_117, e_X3_reads_118, e_X3_reads_118x, e_X3_reads_119, e_X3_reads_122, e_X3_reads_123, e_X3_reads_124, e_X3_reads_125, e_X3_reads_128, e_X3_reads_131, e_X3_reads_134, e_X3_reads_135, e_X3_reads_137, e_X3_reads_140, e_X3_reads_141, e_X3_reads_142, e_X3_reads_145, e_X3_reads_145x, e_X3_reads_146, e_X3_reads_149, e_X3_reads_151, e_X3_reads_154, e_X3_reads_157, e_X3_reads_158, e_X3_reads_159, e_X3_reads_162, e_X3_reads_162x, e_X3_reads_163, e_X3_reads_163x, e_X3_reads_164, e_X3_reads_167, e_X3_reads_170, e_X3_reads_171, e_X3_reads_172, e_X3_reads_175, e_X3_reads_178, e_X3_reads_178x, e_X3_reads_179, e_X3_reads_180, e_X3_reads_183, e_X3_reads_184, e_X3_reads_184x, e_X3_reads_185, e_X3_reads_188, e_X3_reads_189, e_X3_reads_190, e_X3_reads_191, e_X3_reads_194, e_X3_reads_197, e_X3_reads_200, e_X3_reads_201, e_X3_reads_204, e_X3_reads_204x, e_X3_reads_205, e_X3_reads_208, e_X3_reads_211, e_X3_reads_212, e_X3_reads_215, e_X3_reads_216, zcll_s, zpush_s, zpush_n, zinv_i, zinv_l, zinv_r, zinv_x, zcats_nil, zcats_i, zcats_l, zcats_r, zcats_x, Nat.le_refl, and_self, true_and, and_true, zok_1, zok_20, zok_21, eq_self, Nat.reduceAdd, Nat.reduceLeDiff, Nat.zero_le, if_true, if_false, zw3_id, if_pos, if_neg, zand_t]
  exact hQ
theorem rd_68 {v2 : ZV} (hQ : Q (some (zi 0), (c, s, I, L, R))) : V X call mX3_reads 68 [zr (some 3), zi 0, v2] [] (c, s, I, L, R) Q := by
  rw [e_X3_reads_68]
  simp (disch := omega) only [e_X3_reads_0, e_X3_reads_0x, e_X3_reads_1, e_X3_reads_4, e_X3_reads_7, e_X3_reads_7x, e_X3_reads_8, e_X3_reads_11, e_X3_reads_14, e_X3_reads_14x, e_X3_reads_15, e_X3_reads_18, e_X3_reads_19, e_X3_reads_20, e_X3_reads_22, e_X3_reads_25, e_X3_reads_26, e_X3_reads_27, e_X3_reads_30, e_X3_reads_30x, e_X3_reads_31, e_X3_reads_34, e_X3_reads_36, e_X3_reads_39, e_X3_reads_42, e_X3_reads_43, e_X3_reads_44, e_X3_reads_47, e_X3_reads_47x, e_X3_reads_48, e_X3_reads_51, e_X3_reads_54, e_X3_reads_54x, e_X3_reads_55, e_X3_reads_56, e_X3_reads_59, e_X3_reads_60, e_X3_reads_63, e_X3_reads_66, e_X3_reads_67, e_X3_reads_69, e_X3_reads_72, e_X3_reads_73, e_X3_reads_75, e_X3_reads_78, e_X3_reads_78x, e_X3_reads_79, e_X3_reads_82, e_X3_reads_84, e_X3_reads_87, e_X3_reads_90, e_X3_reads_91, e_X3_reads_93, e_X3_reads_96, e_X3_reads_96x, e_X3_reads_97, e_X3_reads_97x, e_X3_reads_98, e_X3_reads_101, e_X3_reads_104, e_X3_reads_105, e_X3_reads_106, e_X3_reads_109, e_X3_reads_112, e_X3_reads_112x, e_X3_reads_113, e_X3_reads_114, e_X3_reads_117, e_X3_reads_118, e_X3_reads_118x, e_X3_reads_119, e_X3_reads_122, e_X3_reads_123, e_X3_reads_124, e_X3_reads_125, e_X3_reads_128, e_X3_reads_131, e_X3_reads_134, e_X3_reads_135, e_X3_reads_137, e_X3_reads_140, e_X3_reads_141, e_X3_reads_142, e_X3_reads_145, e_X3_reads_145x, e_X3_reads_146, e_X3_reads_149, e_X3_reads_151, e_X3_reads_154, e_X3_reads_157, e_X3_reads_158, e_X3_reads_159, e_X3_reads_162, e_X3_reads_162x, e_X3_reads_163, e_X3_reads_163x, e_X3_reads_164, e_X3_reads_167, e_X3_reads_170, e_X3_reads_171, e_X3_reads_172, e_X3_reads_175, e_X3_reads_178, e_X3_reads_178x, e_X3_reads_179, e_X3_reads_180, e_X3_reads_183, e_X3_reads_184, e_X3_reads_184x, e_X3_reads_185, e_X3_reads_188, e_X3_reads_189, e_X3_reads_190, e_X3_reads_191, e_X3_reads_194, e_X3_reads_197, e_X3_reads_200, e_X3_reads_201, e_X3_reads_204, e_X3_reads_204x, e_X3_reads_205, e_X3_reads_208, e_X3_reads_211, e_X3_reads_212, e_X3_reads_215, e_X3_reads_216, zcll_s, zpush_s, zpush_n, zinv_i, zinv_l, zinv_r, zinv_x, zcats_nil, zcats_i, zcats_l, zcats_r, zcats_x, Nat.le_refl, and_self, true_and, and_true, zok_1, zok_20, zok_21, eq_self, Nat.reduceAdd, Nat.reduceLeDiff, Nat.zero_le, if_true, if_false, zw3_id, if_pos, if_neg, zand_t]
  exact rd_136 hQ
theorem rd_21 {v2 : ZV} (hQ : Q (some (zi 0), (c, s, I, L, R))) : V X call mX3_reads 21 [zr (some 3), zi 0, v2] [] (c, s, I, L, R) Q := by
  rw [e_X3_reads_21]
  simp (disch := omega) only [e_X3_reads_0, e_X3_reads_0x, e_X3_reads_1, e_X3_reads_4, e_X3_reads_7, e_X3_reads_7x, e_X3_reads_8, e_X3_reads_11, e_X3_reads_14, e_X3_reads_14x, e_X3_reads_15, e_X3_reads_18, e_X3_reads_19, e_X3_reads_20, e_X3_reads_22, e_X3_reads_25, e_X3_reads_26, e_X3_reads_27, e_X3_reads_30, e_X3_reads_30x, e_X3_reads_31, e_X3_reads_34, e_X3_reads_36, e_X3_reads_39, e_X3_reads_42, e_X3_reads_43, e_X3_reads_44, e_X3_reads_47, e_X3_reads_47x, e_X3_reads_48, e_X3_reads_51, e_X3_reads_54, e_X3_reads_54x, e_X3_reads_55, e_X3_reads_56, e_X3_reads_59, e_X3_reads_60, e_X3_reads_63, e_X3_reads_66, e_X3_reads_67, e_X3_reads_69, e_X3_reads_72, e_X3_reads_73, e_X3_reads_75, e_X3_reads_78, e_X3_reads_78x, e_X3_reads_79, e_X3_reads_82, e_X3_reads_84, e_X3_reads_87, e_X3_reads_90, e_X3_reads_91, e_X3_reads_93, e_X3_reads_96, e_X3_reads_96x, e_X3_reads_97, e_X3_reads_97x, e_X3_reads_98, e_X3_reads_101, e_X3_reads_104, e_X3_reads_105, e_X3_reads_106, e_X3_reads_109, e_X3_reads_112, e_X3_reads_112x, e_X3_reads_113, e_X3_reads_114, e_X3_reads_117, e_X3_reads_118, e_X3_reads_118x, e_X3_reads_119, e_X3_reads_122, e_X3_reads_123, e_X3_reads_124, e_X3_reads_125, e_X3_reads_128, e_X3_reads_131, e_X3_reads_134, e_X3_reads_135, e_X3_reads_137, e_X3_reads_140, e_X3_reads_141, e_X3_reads_142, e_X3_reads_145, e_X3_reads_145x, e_X3_reads_146, e_X3_reads_149, e_X3_reads_151, e_X3_reads_154, e_X3_reads_157, e_X3_reads_158, e_X3_reads_159, e_X3_reads_162, e_X3_reads_162x, e_X3_reads_163, e_X3_reads_163x, e_X3_reads_164, e_X3_reads_167, e_X3_reads_170, e_X3_reads_171, e_X3_reads_172, e_X3_reads_175, e_X3_reads_178, e_X3_reads_178x, e_X3_reads_179, e_X3_reads_180, e_X3_reads_183, e_X3_reads_184, e_X3_reads_184x, e_X3_reads_185, e_X3_reads_188, e_X3_reads_189, e_X3_reads_190, e_X3_reads_191, e_X3_reads_194, e_X3_reads_197, e_X3_reads_200, e_X3_reads_201, e_X3_reads_204, e_X3_reads_204x, e_X3_reads_205, e_X3_reads_208, e_X3_reads_211, e_X3_reads_212, e_X3_reads_215, e_X3_reads_216, zcll_s, zpush_s, zpush_n, zinv_i, zinv_l, zinv_r, zinv_x, zcats_nil, zcats_i, zcats_l, zcats_r, zcats_x, Nat.le_refl, and_self, true_and, and_true, zok_1, zok_20, zok_21, eq_self, Nat.reduceAdd, Nat.reduceLeDiff, Nat.zero_le, if_true, if_false, zw3_id, if_pos, if_neg, zand_t]
  exact rd_68 hQ
theorem lv_0 (hR : Rok R) {i : Int} (hi : i ≤ 4) (q1 : call 72 [zr (some 1), zx 4] (c, s, I, L, R) = some (some (zi 0), (c, s, I, L, R))) (hQ : V X call mX3_reads 68 [zr (some 3), zi 1, zi 0] [] (c, s, I, L, R) Q) : V X call mX3_reads 21 [zr (some 3), zi 1, zi i] [] (c, s, I, L, R) Q := by
  rw [e_X3_reads_21]
  simp (disch := omega) only [e_X3_reads_0, e_X3_reads_0x, e_X3_reads_1, e_X3_reads_4, e_X3_reads_7, e_X3_reads_7x, e_X3_reads_8, e_X3_reads_11, e_X3_reads_14, e_X3_reads_14x, e_X3_reads_15, e_X3_reads_18, e_X3_reads_19, e_X3_reads_20, e_X3_reads_22, e_X3_reads_25, e_X3_reads_26, e_X3_reads_27, e_X3_reads_30, e_X3_reads_30x, e_X3_reads_31, e_X3_reads_34, e_X3_reads_36, e_X3_reads_39, e_X3_reads_42, e_X3_reads_43, e_X3_reads_44, e_X3_reads_47, e_X3_reads_47x, e_X3_reads_48, e_X3_reads_51, e_X3_reads_54, e_X3_reads_54x, e_X3_reads_55, e_X3_reads_56, e_X3_reads_59, e_X3_reads_60, e_X3_reads_63, e_X3_reads_66, e_X3_reads_67, e_X3_reads_69, e_X3_reads_72, e_X3_reads_73, e_X3_reads_75, e_X3_reads_78, e_X3_reads_78x, e_X3_reads_79, e_X3_reads_82, e_X3_reads_84, e_X3_reads_87, e_X3_reads_90, e_X3_reads_91, e_X3_reads_93, e_X3_reads_96, e_X3_reads_96x, e_X3_reads_97, e_X3_reads_97x, e_X3_reads_98, e_X3_reads_101, e_X3_reads_104, e_X3_reads_105, e_X3_reads_106, e_X3_reads_109, e_X3_reads_112, e_X3_reads_112x, e_X3_reads_113, e_X3_reads_114, e_X3_reads_117, e_X3_reads_118, e_X3_reads_118x, e_X3_reads_119, e_X3_reads_122, e_X3_reads_123, e_X3_reads_124, e_X3_reads_125, e_X3_reads_128, e_X3_reads_131, e_X3_reads_134, e_X3_reads_135, e_X3_reads_137, e_X3_reads_140, e_X3_reads_141, e_X3_reads_142, e_X3_reads_145, e_X3_reads_145x, e_X3_reads_146, e_X3_reads_149, e_X3_reads_151, e_X3_reads_154, e_X3_reads_157, e_X3_reads_158, e_X3_reads_159, e_X3_reads_162, e_X3_reads_162x, e_X3_reads_163, e_X3_reads_163x, e_X3_reads_164, e_X3_reads_167, e_X3_reads_170, e_X3_reads_171, e_X3_reads_172, e_X3_reads_175, e_X3_reads_178, e_X3_reads_178x, e_X3_reads_179, e_X3_reads_180, e_X3_reads_183, e_X3_reads_184, e_X3_reads_184x, e_X3_reads_185, e_X3_reads_188, e_X3_reads_189, e_X3_reads_190, e_X3_reads_191, e_X3_reads_194, e_X3_reads_197, e_X3_reads_200, e_X3_reads_201, e_X3_reads_204, e_X3_reads_204x, e_X3_reads_205, e_X3_reads_208, e_X3_reads_211, e_X3_reads_212, e_X3_reads_215, e_X3_reads_216, zcll_s, zpush_s, zpush_n, zinv_i, zinv_l, zinv_r, zinv_x, zcats_nil, zcats_i, zcats_l, zcats_r, zcats_x, Nat.le_refl, and_self, true_and, and_true, zok_1, zok_20, zok_21, eq_self, Nat.reduceAdd, Nat.reduceLeDiff, Nat.zero_le, if_true, if_false, zw3_id, if_pos, if_neg, zand_t, tg_1, tg_3, rr_3_0 hR, q1]
  exact hQ
theorem lv_1 (hR : Rok R) {i : Int} (h0 : 0 ≤ i) (hi : i < 4) (q1 : call 72 [zr (some 1), zx 4] (c, s, I, L, R) = some (some (zi 1), (c, s, I, L, R))) (q2 : call 29 [zr (some 3)] (c, s, I, L, R) = some (some (zi y), (c, s, J, L, R))) (hQ : V X call mX3_reads 21 [zr (some 3), zi y, zi (i + 1)] [] (c, s, J, L, R) Q) : V X call mX3_reads 21 [zr (some 3), zi 1, zi i] [] (c, s, I, L, R) Q := by
  rw [e_X3_reads_21]
  simp (disch := omega) only [e_X3_reads_0, e_X3_reads_0x, e_X3_reads_1, e_X3_reads_4, e_X3_reads_7, e_X3_reads_7x, e_X3_reads_8, e_X3_reads_11, e_X3_reads_14, e_X3_reads_14x, e_X3_reads_15, e_X3_reads_18, e_X3_reads_19, e_X3_reads_20, e_X3_reads_22, e_X3_reads_25, e_X3_reads_26, e_X3_reads_27, e_X3_reads_30, e_X3_reads_30x, e_X3_reads_31, e_X3_reads_34, e_X3_reads_36, e_X3_reads_39, e_X3_reads_42, e_X3_reads_43, e_X3_reads_44, e_X3_reads_47, e_X3_reads_47x, e_X3_reads_48, e_X3_reads_51, e_X3_reads_54, e_X3_reads_54x, e_X3_reads_55, e_X3_reads_56, e_X3_reads_59, e_X3_reads_60, e_X3_reads_63, e_X3_reads_66, e_X3_reads_67, e_X3_reads_69, e_X3_reads_72, e_X3_reads_73, e_X3_reads_75, e_X3_reads_78, e_X3_reads_78x, e_X3_reads_79, e_X3_reads_82, e_X3_reads_84, e_X3_reads_87, e_X3_reads_90, e_X3_reads_91, e_X3_reads_93, e_X3_reads_96, e_X3_reads_96x, e_X3_reads_97, e_X3_reads_97x, e_X3_reads_98, e_X3_reads_101, e_X3_reads_104, e_X3_reads_105, e_X3_reads_106, e_X3_reads_109, e_X3_reads_112, e_X3_reads_112x, e_X3_reads_113, e_X3_reads_114, e_X3_reads_117, e_X3_reads_118, e_X3_reads_118x, e_X3_reads_119, e_X3_reads_122, e_X3_reads_123, e_X3_reads_124, e_X3_reads_125, e_X3_reads_128, e_X3_reads_131, e_X3_reads_134, e_X3_reads_135, e_X3_reads_137, e_X3_reads_140, e_X3_reads_141, e_X3_reads_142, e_X3_reads_145, e_X3_reads_145x, e_X3_reads_146, e_X3_reads_149, e_X3_reads_151, e_X3_reads_154, e_X3_reads_157, e_X3_reads_158, e_X3_reads_159, e_X3_reads_162, e_X3_reads_162x, e_X3_reads_163, e_X3_reads_163x, e_X3_reads_164, e_X3_reads_167, e_X3_reads_170, e_X3_reads_171, e_X3_reads_172, e_X3_reads_175, e_X3_reads_178, e_X3_reads_178x, e_X3_reads_179, e_X3_reads_180, e_X3_reads_183, e_X3_reads_184, e_X3_reads_184x, e_X3_reads_185, e_X3_reads_188, e_X3_reads_189, e_X3_reads_190, e_X3_reads_191, e_X3_reads_194, e_X3_reads_197, e_X3_reads_200, e_X3_reads_201, e_X3_reads_204, e_X3_reads_204x, e_X3_reads_205, e_X3_reads_208, e_X3_reads_211, e_X3_reads_212, e_X3_reads_215, e_X3_reads_216, zcll_s, zpush_s, zpush_n, zinv_i, zinv_l, zinv_r, zinv_x, zcats_nil, zcats_i, zcats_l, zcats_r, zcats_x, Nat.le_refl, and_self, true_and, and_true, zok_1, zok_20, zok_21, eq_self, Nat.reduceAdd, Nat.reduceLeDiff, Nat.zero_le, if_true, if_false, zw3_id, if_pos, if_neg, zand_t, tg_1, tg_3, rr_3_0 hR, q1, q2]
  exact hQ
theorem lv_2 (hR : Rok R) {i : Int} (hi : i = 4) (q1 : call 72 [zr (some 1), zx 4] (c, s, I, L, R) = some (some (zi 1), (c, s, I, L, R))) (q2 : call 27 [zr (some 3), zi 4] (c, s, I, L, R) = some (some (zi 0), (c, s, J, L, R))) (hQ : Q (some (zi 0), (c, s, J, L, R))) : V X call mX3_reads 21 [zr (some 3), zi 1, zi i] [] (c, s, I, L, R) Q := by
  rw [e_X3_reads_21]
  simp (disch := omega) only [e_X3_reads_0, e_X3_reads_0x, e_X3_reads_1, e_X3_reads_4, e_X3_reads_7, e_X3_reads_7x, e_X3_reads_8, e_X3_reads_11, e_X3_reads_14, e_X3_reads_14x, e_X3_reads_15, e_X3_reads_18, e_X3_reads_19, e_X3_reads_20, e_X3_reads_22, e_X3_reads_25, e_X3_reads_26, e_X3_reads_27, e_X3_reads_30, e_X3_reads_30x, e_X3_reads_31, e_X3_reads_34, e_X3_reads_36, e_X3_reads_39, e_X3_reads_42, e_X3_reads_43, e_X3_reads_44, e_X3_reads_47, e_X3_reads_47x, e_X3_reads_48, e_X3_reads_51, e_X3_reads_54, e_X3_reads_54x, e_X3_reads_55, e_X3_reads_56, e_X3_reads_59, e_X3_reads_60, e_X3_reads_63, e_X3_reads_66, e_X3_reads_67, e_X3_reads_69, e_X3_reads_72, e_X3_reads_73, e_X3_reads_75, e_X3_reads_78, e_X3_reads_78x, e_X3_reads_79, e_X3_reads_82, e_X3_reads_84, e_X3_reads_87, e_X3_reads_90, e_X3_reads_91, e_X3_reads_93, e_X3_reads_96, e_X3_reads_96x, e_X3_reads_97, e_X3_reads_97x, e_X3_reads_98, e_X3_reads_101, e_X3_reads_104, e_X3_reads_105, e_X3_reads_106, e_X3_reads_109, e_X3_reads_112, e_X3_reads_112x, e_X3_reads_113, e_X3_reads_114, e_X3_reads_117, e_X3_reads_118, e_X3_reads_118x, e_X3_reads_119, e_X3_reads_122, e_X3_reads_123, e_X3_reads_124, e_X3_reads_125, e_X3_reads_128, e_X3_reads_131, e_X3_reads_134, e_X3_reads_135, e_X3_reads_137, e_X3_reads_140, e_X3_reads_141, e_X3_reads_142, e_X3_reads_145, e_X3_reads_145x, e_X3_reads_146, e_X3_reads_149, e_X3_reads_151, e_X3_reads_154, e_X3_reads_157, e_X3_reads_158, e_X3_reads_159, e_X3_reads_162, e_X3_reads_162x, e_X3_reads_163, e_X3_reads_163x, e_X3_reads_164, e_X3_reads_167, e_X3_reads_170, e_X3_reads_171, e_X3_reads_172, e_X3_reads_175, e_X3_reads_178, e_X3_reads_178x, e_X3_reads_179, e_X3_reads_180, e_X3_reads_183, e_X3_reads_184, e_X3_reads_184x, e_X3_reads_185, e_X3_reads_188, e_X3_reads_189, e_X3_reads_190, e_X3_reads_191, e_X3_reads_194, e_X3_reads_197, e_X3_reads_200, e_X3_reads_201, e_X3_reads_204, e_X3_reads_204x, e_X3_reads_205, e_X3_reads_208, e_X3_reads_211, e_X3_reads_212, e_X3_reads_215, e_X3_reads_216, zcll_s, zpush_s, zpush_n, zinv_i, zinv_l, zinv_r, zinv_x, zcats_nil, zcats_i, zcats_l, zcats_r, zcats_x, Nat.le_refl, and_self, true_and, and_true, zok_1, zok_20, zok_21, eq_self, Nat.reduceAdd, Nat.reduceLeDiff, Nat.zero_le, if_true, if_false, zw3_id, if_pos, if_neg, zand_t, tg_1, tg_3, rr_3_0 hR, q1, q2]
  exact rd_21 hQ
theorem lr_0 (hR : Rok R) {i : Int} (hi : i ≤ 12) (q1 : call 72 [zr (some 1), zx 5] (c, s, I, L, R) = some (some (zi 0), (c, s, I, L, R))) (hQ : V X call mX3_reads 136 [zr (some 3), zi 1, zi 0] [] (c, s, I, L, R) Q) : V X call mX3_reads 68 [zr (some 3), zi 1, zi i] [] (c, s, I, L, R) Q := by
  rw [e_X3_reads_68]
  simp (disch := omega) only [e_X3_reads_0, e_X3_reads_0x, e_X3_reads_1, e_X3_reads_4, e_X3_reads_7, e_X3_reads_7x, e_X3_reads_8, e_X3_reads_11, e_X3_reads_14, e_X3_reads_14x, e_X3_reads_15, e_X3_reads_18, e_X3_reads_19, e_X3_reads_20, e_X3_reads_22, e_X3_reads_25, e_X3_reads_26, e_X3_reads_27, e_X3_reads_30, e_X3_reads_30x, e_X3_reads_31, e_X3_reads_34, e_X3_reads_36, e_X3_reads_39, e_X3_reads_42, e_X3_reads_43, e_X3_reads_44, e_X3_reads_47, e_X3_reads_47x, e_X3_reads_48, e_X3_reads_51, e_X3_reads_54, e_X3_reads_54x, e_X3_reads_55, e_X3_reads_56, e_X3_reads_59, e_X3_reads_60, e_X3_reads_63, e_X3_reads_66, e_X3_reads_67, e_X3_reads_69, e_X3_reads_72, e_X3_reads_73, e_X3_reads_75, e_X3_reads_78, e_X3_reads_78x, e_X3_reads_79, e_X3_reads_82, e_X3_reads_84, e_X3_reads_87, e_X3_reads_90, e_X3_reads_91, e_X3_reads_93, e_X3_reads_96, e_X3_reads_96x, e_X3_reads_97, e_X3_reads_97x, e_X3_reads_98, e_X3_reads_101, e_X3_reads_104, e_X3_reads_105, e_X3_reads_106, e_X3_reads_109, e_X3_reads_112, e_X3_reads_112x, e_X3_reads_113, e_X3_reads_114, e_X3_reads_117, e_X3_reads_118, e_X3_reads_118x, e_X3_reads_119, e_X3_reads_122, e_X3_reads_123, e_X3_reads_124, e_X3_reads_125, e_X3_reads_128, e_X3_reads_131, e_X3_reads_134, e_X3_reads_135, e_X3_reads_137, e_X3_reads_140, e_X3_reads_141, e_X3_reads_142, e_X3_reads_145, e_X3_reads_145x, e_X3_reads_146, e_X3_reads_149, e_X3_reads_151, e_X3_reads_154, e_X3_reads_157, e_X3_reads_158, e_X3_reads_159, e_X3_reads_162, e_X3_reads_162x, e_X3_reads_163, e_X3_reads_163x, e_X3_reads_164, e_X3_reads_167, e_X3_reads_170, e_X3_reads_171, e_X3_reads_172, e_X3_reads_175, e_X3_reads_178, e_X3_reads_178x, e_X3_reads_179, e_X3_reads_180, e_X3_reads_183, e_X3_reads_184, e_X3_reads_184x, e_X3_reads_185, e_X3_reads_188, e_X3_reads_189, e_X3_reads_190, e_X3_reads_191, e_X3_reads_194, e_X3_reads_197, e_X3_reads_200, e_X3_reads_201, e_X3_reads_204, e_X3_reads_204x, e_X3_reads_205, e_X3_reads_208, e_X3_reads_211, e_X3_reads_212, e_X3_reads_215, e_X3_reads_216, zcll_s, zpush_s, zpush_n, zinv_i, zinv_l, zinv_r, zinv_x, zcats_nil, zcats_i, zcats_l, zcats_r, zcats_x, Nat.le_refl, and_self, true_and, and_true, zok_1, zok_20, zok_21, eq_self, Nat.reduceAdd, Nat.reduceLeDiff, Nat.zero_le, if_true, if_false, zw3_id, if_pos, if_neg, zand_t, tg_1, tg_3, rr_3_0 hR, q1]
  exact hQ
theorem lr_1 (hR : Rok R) (h31 : R 3 1 = some b) (tb : (zT b).1 = 11) (hb7 : R b 7 = some (b + 3)) (t3 : zT (b + 3) = (5, 12)) {i : Nat} (hr : R (b + 3) i = some r) (hi : i < 12) (q1 : call 72 [zr (some 1), zx 5] (c, s, I, L, R) = some (some (zi 1), (c, s, I, L, R))) (q2 : call 30 [zr (some 3), zr (some r)] (c, s, I, L, R) = some (some (zi y), (c, s, J, L, R))) (hQ : V X call mX3_reads 68 [zr (some 3), zi y, zi ((i : Int) + 1)] [] (c, s, zu J b 2 ((i : Int) + 1), L, R) Q) : V X call mX3_reads 68 [zr (some 3), zi 1, zi (i : Int)] [] (c, s, I, L, R) Q := by
  rw [e_X3_reads_68]
  simp (disch := omega) only [e_X3_reads_0, e_X3_reads_0x, e_X3_reads_1, e_X3_reads_4, e_X3_reads_7, e_X3_reads_7x, e_X3_reads_8, e_X3_reads_11, e_X3_reads_14, e_X3_reads_14x, e_X3_reads_15, e_X3_reads_18, e_X3_reads_19, e_X3_reads_20, e_X3_reads_22, e_X3_reads_25, e_X3_reads_26, e_X3_reads_27, e_X3_reads_30, e_X3_reads_30x, e_X3_reads_31, e_X3_reads_34, e_X3_reads_36, e_X3_reads_39, e_X3_reads_42, e_X3_reads_43, e_X3_reads_44, e_X3_reads_47, e_X3_reads_47x, e_X3_reads_48, e_X3_reads_51, e_X3_reads_54, e_X3_reads_54x, e_X3_reads_55, e_X3_reads_56, e_X3_reads_59, e_X3_reads_60, e_X3_reads_63, e_X3_reads_66, e_X3_reads_67, e_X3_reads_69, e_X3_reads_72, e_X3_reads_73, e_X3_reads_75, e_X3_reads_78, e_X3_reads_78x, e_X3_reads_79, e_X3_reads_82, e_X3_reads_84, e_X3_reads_87, e_X3_reads_90, e_X3_reads_91, e_X3_reads_93, e_X3_reads_96, e_X3_reads_96x, e_X3_reads_97, e_X3_reads_97x, e_X3_reads_98, e_X3_reads_101, e_X3_reads_104, e_X3_reads_105, e_X3_reads_106, e_X3_reads_109, e_X3_reads_112, e_X3_reads_112x, e_X3_reads_113, e_X3_reads_114, e_X3_reads_117, e_X3_reads_118, e_X3_reads_118x, e_X3_reads_119, e_X3_reads_122, e_X3_reads_123, e_X3_reads_124, e_X3_reads_125, e_X3_reads_128, e_X3_reads_131, e_X3_reads_134, e_X3_reads_135, e_X3_reads_137, e_X3_reads_140, e_X3_reads_141, e_X3_reads_142, e_X3_reads_145, e_X3_reads_145x, e_X3_reads_146, e_X3_reads_149, e_X3_reads_151, e_X3_reads_154, e_X3_reads_157, e_X3_reads_158, e_X3_reads_159, e_X3_reads_162, e_X3_reads_162x, e_X3_reads_163, e_X3_reads_163x, e_X3_reads_164, e_X3_reads_167, e_X3_reads_170, e_X3_reads_171, e_X3_reads_172, e_X3_reads_175, e_X3_reads_178, e_X3_reads_178x, e_X3_reads_179, e_X3_reads_180, e_X3_reads_183, e_X3_reads_184, e_X3_reads_184x, e_X3_reads_185, e_X3_reads_188, e_X3_reads_189, e_X3_reads_190, e_X3_reads_191, e_X3_reads_194, e_X3_reads_197, e_X3_reads_200, e_X3_reads_201, e_X3_reads_204, e_X3_reads_204x, e_X3_reads_205, e_X3_reads_208, e_X3_reads_211, e_X3_reads_212, e_X3_reads_215, e_X3_reads_216, zcll_s, zpush_s, zpush_n, zinv_i, zinv_l, zinv_r, zinv_x, zcats_nil, zcats_i, zcats_l, zcats_r, zcats_x, Nat.le_refl, and_self, true_and, and_true, zok_1, zok_20, zok_21, eq_self, Nat.reduceAdd, Nat.reduceLeDiff, Nat.zero_le, if_true, if_false, zw3_id, if_pos, if_neg, zand_t, tg_1, tg_3, rr_3_0 hR, h31, tb, hb7, t3, Int.toNat_natCast, hr, q1, q2]
  exact hQ
theorem lr_2 (hR : Rok R) (h31 : R 3 1 = some b) (tb : (zT b).1 = 11) {i : Int} (hi : i = 12) (q1 : call 72 [zr (some 1), zx 5] (c, s, I, L, R) = some (some (zi 1), (c, s, I, L, R))) (q2 : call 27 [zr (some 3), zi 4] (c, s, I, L, R) = some (some (zi 0), (c, s, J, L, R))) (hQ : Q (some (zi 0), (c, s, zu J b 2 (i + 1), L, R))) : V X call mX3_reads 68 [zr (some 3), zi 1, zi i] [] (c, s, I, L, R) Q := by
  rw [e_X3_reads_68]
  simp (disch := omega) only [e_X3_reads_0, e_X3_reads_0x, e_X3_reads_1, e_X3_reads_4, e_X3_reads_7, e_X3_reads_7x, e_X3_reads_8, e_X3_reads_11, e_X3_reads_14, e_X3_reads_14x, e_X3_reads_15, e_X3_reads_18, e_X3_reads_19, e_X3_reads_20, e_X3_reads_22, e_X3_reads_25, e_X3_reads_26, e_X3_reads_27, e_X3_reads_30, e_X3_reads_30x, e_X3_reads_31, e_X3_reads_34, e_X3_reads_36, e_X3_reads_39, e_X3_reads_42, e_X3_reads_43, e_X3_reads_44, e_X3_reads_47, e_X3_reads_47x, e_X3_reads_48, e_X3_reads_51, e_X3_reads_54, e_X3_reads_54x, e_X3_reads_55, e_X3_reads_56, e_X3_reads_59, e_X3_reads_60, e_X3_reads_63, e_X3_reads_66, e_X3_reads_67, e_X3_reads_69, e_X3_reads_72, e_X3_reads_73, e_X3_reads_75, e_X3_reads_78, e_X3_reads_78x, e_X3_reads_79, e_X3_reads_82, e_X3_reads_84, e_X3_reads_87, e_X3_reads_90, e_X3_reads_91, e_X3_reads_93, e_X3_reads_96, e_X3_reads_96x, e_X3_reads_97, e_X3_reads_97x, e_X3_reads_98, e_X3_reads_101, e_X3_reads_104, e_X3_reads_105, e_X3_reads_106, e_X3_reads_109, e_X3_reads_112, e_X3_reads_112x, e_X3_reads_113, e_X3_reads_114, e_X3_reads_117, e_X3_reads_118, e_X3_reads_118x, e_X3_reads_119, e_X3_reads_122, e_X3_reads_123, e_X3_reads_124, e_X3_reads_125, e_X3_reads_128, e_X3_reads_131, e_X3_reads_134, e_X3_reads_135, e_X3_reads_137, e_X3_reads_140, e_X3_reads_141, e_X3_reads_142, e_X3_reads_145, e_X3_reads_145x, e_X3_reads_146, e_X3_reads_149, e_X3_reads_151, e_X3_reads_154, e_X3_reads_157, e_X3_reads_158, e_X3_reads_159, e_X3_reads_162, e_X3_reads_162x, e_X3_reads_163, e_X3_reads_163x, e_X3_reads_164, e_X3_reads_167, e_X3_reads_170, e_X3_reads_171, e_X3_reads_172, e_X3_reads_175, e_X3_reads_178, e_X3_reads_178x, e_X3_reads_179, e_X3_reads_180, e_X3_reads_183, e_X3_reads_184, e_X3_reads_184x, e_X3_reads_185, e_X3_reads_188, e_X3_reads_189, e_X3_reads_190, e_X3_reads_191, e_X3_reads_194, e_X3_reads_197, e_X3_reads_200, e_X3_reads_201, e_X3_reads_204, e_X3_reads_204x, e_X3_reads_205, e_X3_reads_208, e_X3_reads_211, e_X3_reads_212, e_X3_reads_215, e_X3_reads_216, zcll_s, zpush_s, zpush_n, zinv_i, zinv_l, zinv_r, zinv_x, zcats_nil, zcats_i, zcats_l, zcats_r, zcats_x, Nat.le_refl, and_self, true_and, and_true, zok_1, zok_20, zok_21, eq_self, Nat.reduceAdd, Nat.reduceLeDiff, Nat.zero_le, if_true, if_false, zw3_id, if_pos, if_neg, zand_t, tg_1, tg_3, rr_3_0 hR, h31, tb, q1, q2]
  exact rd_68 hQ
theorem lg_0 (hR : Rok R) {i : Int} (hi : i ≤ 4) (q1 : call 72 [zr (some 1), zx 8] (c, s, I, L, R) = some (some (zi 0), (c, s, I, L, R))) (q2 : call 32 [zr (some 3)] (c, s, I, L, R) = some (some (zi y), (c, s, J, L, R))) (hy : y = 0 ∨ y = 1) (hQ : Q (some (zi y), (c, s, J, L, R))) : V X call mX3_reads 136 [zr (some 3), zi 1, zi i] [] (c, s, I, L, R) Q := by
  rw [e_X3_reads_136]
  rcases hy with rfl | rfl
  · simp (disch := omega) only [e_X3_reads_0, e_X3_reads_0x, e_X3_reads_1, e_X3_reads_4, e_X3_reads_7, e_X3_reads_7x, e_X3_reads_8, e_X3_reads_11, e_X3_reads_14, e_X3_reads_14x, e_X3_reads_15, e_X3_reads_18, e_X3_reads_19, e_X3_reads_20, e_X3_reads_22, e_X3_reads_25, e_X3_reads_26, e_X3_reads_27, e_X3_reads_30, e_X3_reads_30x, e_X3_reads_31, e_X3_reads_34, e_X3_reads_36, e_X3_reads_39, e_X3_reads_42, e_X3_reads_43, e_X3_reads_44, e_X3_reads_47, e_X3_reads_47x, e_X3_reads_48, e_X3_reads_51, e_X3_reads_54, e_X3_reads_54x, e_X3_reads_55, e_X3_reads_56, e_X3_reads_59, e_X3_reads_60, e_X3_reads_63, e_X3_reads_66, e_X3_reads_67, e_X3_reads_69, e_X3_reads_72, e_X3_reads_73, e_X3_reads_75, e_X3_reads_78, e_X3_reads_78x, e_X3_reads_79, e_X3_reads_82, e_X3_reads_84, e_X3_reads_87, e_X3_reads_90, e_X3_reads_91, e_X3_reads_93, e_X3_reads_96, e_X3_reads_96x, e_X3_reads_97, e_X3_reads_97x, e_X3_reads_98, e_X3_reads_101, e_X3_reads_104, e_X3_reads_105, e_X3_reads_106, e_X3_reads_109, e_X3_reads_112, e_X3_reads_112x, e_X3_reads_113, e_X3_reads_114, e_X3_reads_117, e_X3_reads_118, e_X3_reads_118x, e_X3_reads_119, e_X3_reads_122, e_X3_reads_123, e_X3_reads_124, e_X3_reads_125, e_X3_reads_128, e_X3_reads_131, e_X3_reads_134, e_X3_reads_135, e_X3_reads_137, e_X3_reads_140, e_X3_reads_141, e_X3_reads_142, e_X3_reads_145, e_X3_reads_145x, e_X3_reads_146, e_X3_reads_149, e_X3_reads_151, e_X3_reads_154, e_X3_reads_157, e_X3_reads_158, e_X3_reads_159, e_X3_reads_162, e_X3_reads_162x, e_X3_reads_163, e_X3_reads_163x, e_X3_reads_164, e_X3_reads_167, e_X3_reads_170, e_X3_reads_171, e_X3_reads_172, e_X3_reads_175, e_X3_reads_178, e_X3_reads_178x, e_X3_reads_179, e_X3_reads_180, e_X3_reads_183, e_X3_reads_184, e_X3_reads_184x, e_X3_reads_185, e_X3_reads_188, e_X3_reads_189, e_X3_reads_190, e_X3_reads_191, e_X3_reads_194, e_X3_reads_197, e_X3_reads_200, e_X3_reads_201, e_X3_reads_204, e_X3_reads_204x, e_X3_reads_205, e_X3_reads_208, e_X3_reads_211, e_X3_reads_212, e_X3_reads_215, e_X3_reads_216, zcll_s, zpush_s, zpush_n, zinv_i, zinv_l, zinv_r, zinv_x, zcats_nil, zcats_i, zcats_l, zcats_r, zcats_x, Nat.le_refl, and_self, true_and, and_true, zok_1, zok_20, zok_21, eq_self, Nat.reduceAdd, Nat.reduceLeDiff, Nat.zero_le, if_true, if_false, zw3_id, if_pos, if_neg, zand_t, tg_1, tg_3, rr_3_0 hR, q1, q2]
    exact hQ
  · simp (disch := omega) only [e_X3_reads_0, e_X3_reads_0x, e_X3_reads_1, e_X3_reads_4, e_X3_reads_7, e_X3_reads_7x, e_X3_reads_8, e_X3_reads_11, e_X3_reads_14, e_X3_reads_14x, e_X3_reads_15, e_X3_reads_18, e_X3_reads_19, e_X3_reads_20, e_X3_reads_22, e_X3_reads_25, e_X3_reads_26, e_X3_reads_27, e_X3_reads_30, e_X3_reads_30x, e_X3_reads_31, e_X3_reads_34, e_X3_reads_36, e_X3_reads_39, e_X3_reads_42, e_X3_reads_43, e_X3_reads_44, e_X3_reads_47, e_X3_reads_47x, e_X3_reads_48, e_X3_reads_51, e_X3_reads_54, e_X3_reads_54x, e_X3_reads_55, e_X3_reads_56, e_X3_reads_59, e_X3_reads_60, e_X3_reads_63, e_X3_reads_66, e_X3_reads_67, e_X3_reads_69, e_X3_reads_72, e_X3_reads_73, e_X3_reads_75, e_X3_reads_78, e_X3_reads_78x, e_X3_reads_79, e_X3_reads_82, e_X3_reads_84, e_X3_reads_87, e_X3_reads_90, e_X3_reads_91, e_X3_reads_93, e_X3_reads_96, e_X3_reads_96x, e_X3_reads_97, e_X3_reads_97x, e_X3_reads_98, e_X3_reads_101, e_X3_reads_104, e_X3_reads_105, e_X3_reads_106, e_X3_reads_109, e_X3_reads_112, e_X3_reads_112x, e_X3_reads_113, e_X3_reads_114, e_X3_reads_117, e_X3_reads_118, e_X3_reads_118x, e_X3_reads_119, e_X3_reads_122, e_X3_reads_123, e_X3_reads_124, e_X3_reads_125, e_X3_reads_128, e_X3_reads_131, e_X3_reads_134, e_X3_reads_135, e_X3_reads_137, e_X3_reads_140, e_X3_reads_141, e_X3_reads_142, e_X3_reads_145, e_X3_reads_145x, e_X3_reads_146, e_X3_reads_149, e_X3_reads_151, e_X3_reads_154, e_X3_reads_157, e_X3_reads_158, e_X3_reads_159, e_X3_reads_162, e_X3_reads_162x, e_X3_reads_163, e_X3_reads_163x, e_X3_reads_164, e_X3_reads_167, e_X3_reads_170, e_X3_reads_171, e_X3_reads_172, e_X3_reads_175, e_X3_reads_178, e_X3_reads_178x, e_X3_reads_179, e_X3_reads_180, e_X3_reads_183, e_X3_reads_184, e_X3_reads_184x, e_X3_reads_185, e_X3_reads_188, e_X3_reads_189, e_X3_reads_190, e_X3_reads_191, e_X3_reads_194, e_X3_reads_197, e_X3_reads_200, e_X3_reads_201, e_X3_reads_204, e_X3_reads_204x, e_X3_reads_205, e_X3_reads_208, e_X3_reads_211, e_X3_reads_212, e_X3_reads_215, e_X3_reads_216, zcll_s, zpush_s, zpush_n, zinv_i, zinv_l, zinv_r, zinv_x, zcats_nil, zcats_i, zcats_l, zcats_r, zcats_x, Nat.le_refl, and_self, true_and, and_true, zok_1, zok_20, zok_21, eq_self, Nat.reduceAdd, Nat.reduceLeDiff, Nat.zero_le, if_true, if_false, zw3_id, if_pos, if_neg, zand_t, tg_1, tg_3, rr_3_0 hR, q1, q2]
    exact hQ
theorem lg_1 (hR : Rok R) (h31 : R 3 1 = some b) (tb : (zT b).1 = 11) (hb7 : R b 8 = some (b + 4)) (t3 : zT (b + 4) = (6, 4)) {i : Nat} (hr : R (b + 4) i = some r) (hi : i < 4) (q1 : call 72 [zr (some 1), zx 8] (c, s, I, L, R) = some (some (zi 1), (c, s, I, L, R))) (q2 : call 31 [zr (some 3), zr (some r)] (c, s, I, L, R) = some (some (zi y), (c, s, J, L, R))) (hQ : V X call mX3_reads 136 [zr (some 3), zi y, zi ((i : Int) + 1)] [] (c, s, zu J b 3 ((i : Int) + 1), L, R) Q) : V X call mX3_reads 136 [zr (some 3), zi 1, zi (i : Int)] [] (c, s, I, L, R) Q := by
  rw [e_X3_reads_136]
  simp (disch := omega) only [e_X3_reads_0, e_X3_reads_0x, e_X3_reads_1, e_X3_reads_4, e_X3_reads_7, e_X3_reads_7x, e_X3_reads_8, e_X3_reads_11, e_X3_reads_14, e_X3_reads_14x, e_X3_reads_15, e_X3_reads_18, e_X3_reads_19, e_X3_reads_20, e_X3_reads_22, e_X3_reads_25, e_X3_reads_26, e_X3_reads_27, e_X3_reads_30, e_X3_reads_30x, e_X3_reads_31, e_X3_reads_34, e_X3_reads_36, e_X3_reads_39, e_X3_reads_42, e_X3_reads_43, e_X3_reads_44, e_X3_reads_47, e_X3_reads_47x, e_X3_reads_48, e_X3_reads_51, e_X3_reads_54, e_X3_reads_54x, e_X3_reads_55, e_X3_reads_56, e_X3_reads_59, e_X3_reads_60, e_X3_reads_63, e_X3_reads_66, e_X3_reads_67, e_X3_reads_69, e_X3_reads_72, e_X3_reads_73, e_X3_reads_75, e_X3_reads_78, e_X3_reads_78x, e_X3_reads_79, e_X3_reads_82, e_X3_reads_84, e_X3_reads_87, e_X3_reads_90, e_X3_reads_91, e_X3_reads_93, e_X3_reads_96, e_X3_reads_96x, e_X3_reads_97, e_X3_reads_97x, e_X3_reads_98, e_X3_reads_101, e_X3_reads_104, e_X3_reads_105, e_X3_reads_106, e_X3_reads_109, e_X3_reads_112, e_X3_reads_112x, e_X3_reads_113, e_X3_reads_114, e_X3_reads_117, e_X3_reads_118, e_X3_reads_118x, e_X3_reads_119, e_X3_reads_122, e_X3_reads_123, e_X3_reads_124, e_X3_reads_125, e_X3_reads_128, e_X3_reads_131, e_X3_reads_134, e_X3_reads_135, e_X3_reads_137, e_X3_reads_140, e_X3_reads_141, e_X3_reads_142, e_X3_reads_145, e_X3_reads_145x, e_X3_reads_146, e_X3_reads_149, e_X3_reads_151, e_X3_reads_154, e_X3_reads_157, e_X3_reads_158, e_X3_reads_159, e_X3_reads_162, e_X3_reads_162x, e_X3_reads_163, e_X3_reads_163x, e_X3_reads_164, e_X3_reads_167, e_X3_reads_170, e_X3_reads_171, e_X3_reads_172, e_X3_reads_175, e_X3_reads_178, e_X3_reads_178x, e_X3_reads_179, e_X3_reads_180, e_X3_reads_183, e_X3_reads_184, e_X3_reads_184x, e_X3_reads_185, e_X3_reads_188, e_X3_reads_189, e_X3_reads_190, e_X3_reads_191, e_X3_reads_194, e_X3_reads_197, e_X3_reads_200, e_X3_reads_201, e_X3_reads_204, e_X3_reads_204x, e_X3_reads_205, e_X3_reads_208, e_X3_reads_211, e_X3_reads_212, e_X3_reads_215, e_X3_reads_216, zcll_s, zpush_s, zpush_n, zinv_i, zinv_l, zinv_r, zinv_x, zcats_nil, zcats_i, zcats_l, zcats_r, zcats_x, Nat.le_refl, and_self, true_and, and_true, zok_1, zok_20, zok_21, eq_self, Nat.reduceAdd, Nat.reduceLeDiff, Nat.zero_le, if_true, if_false, zw3_id, if_pos, if_neg, zand_t, tg_1, tg_3, rr_3_0 hR, h31, tb, hb7, t3, Int.toNat_natCast, hr, q1, q2]
  exact hQ
theorem lg_2 (hR : Rok R) (h31 : R 3 1 = some b) (tb : (zT b).1 = 11) {i : Int} (hi : i = 4) (q1 : call 72 [zr (some 1), zx 8] (c, s, I, L, R) = some (some (zi 1), (c, s, I, L, R))) (q2 : call 27 [zr (some 3), zi 4] (c, s, I, L, R) = some (some (zi 0), (c, s, J, L, R))) (hQ : Q (some (zi 0), (c, s, zu J b 3 (i + 1), L, R))) : V X call mX3_reads 136 [zr (some 3), zi 1, zi i] [] (c, s, I, L, R) Q := by
  rw [e_X3_reads_136]
  simp (disch := omega) only [e_X3_reads_0, e_X3_reads_0x, e_X3_reads_1, e_X3_reads_4, e_X3_reads_7, e_X3_reads_7x, e_X3_reads_8, e_X3_reads_11, e_X3_reads_14, e_X3_reads_14x, e_X3_reads_15, e_X3_reads_18, e_X3_reads_19, e_X3_reads_20, e_X3_reads_22, e_X3_reads_25, e_X3_reads_26, e_X3_reads_27, e_X3_reads_30, e_X3_reads_30x, e_X3_reads_31, e_X3_reads_34, e_X3_reads_36, e_X3_reads_39, e_X3_reads_42, e_X3_reads_43, e_X3_reads_44, e_X3_reads_47, e_X3_reads_47x, e_X3_reads_48, e_X3_reads_51, e_X3_reads_54, e_X3_reads_54x, e_X3_reads_55, e_X3_reads_56, e_X3_reads_59, e_X3_reads_60, e_X3_reads_63, e_X3_reads_66, e_X3_reads_67, e_X3_reads_69, e_X3_reads_72, e_X3_reads_73, e_X3_reads_75, e_X3_reads_78, e_X3_reads_78x, e_X3_reads_79, e_X3_reads_82, e_X3_reads_84, e_X3_reads_87, e_X3_reads_90, e_X3_reads_91, e_X3_reads_93, e_X3_reads_96, e_X3_reads_96x, e_X3_reads_97, e_X3_reads_97x, e_X3_reads_98, e_X3_reads_101, e_X3_reads_104, e_X3_reads_105, e_X3_reads_106, e_X3_reads_109, e_X3_reads_112, e_X3_reads_112x, e_X3_reads_113, e_X3_reads_114, e_X3_reads_117, e_X3_reads_118, e_X3_reads_118x, e_X3_reads_119, e_X3_reads_122, e_X3_reads_123, e_X3_reads_124, e_X3_reads_125, e_X3_reads_128, e_X3_reads_131, e_X3_reads_134, e_X3_reads_135, e_X3_reads_137, e_X3_reads_140, e_X3_reads_141, e_X3_reads_142, e_X3_reads_145, e_X3_reads_145x, e_X3_reads_146, e_X3_reads_149, e_X3_reads_151, e_X3_reads_154, e_X3_reads_157, e_X3_reads_158, e_X3_reads_159, e_X3_reads_162, e_X3_reads_162x, e_X3_reads_163, e_X3_reads_163x, e_X3_reads_164, e_X3_reads_167, e_X3_reads_170, e_X3_reads_171, e_X3_reads_172, e_X3_reads_175, e_X3_reads_178, e_X3_reads_178x, e_X3_reads_179, e_X3_reads_180, e_X3_reads_183, e_X3_reads_184, e_X3_reads_184x, e_X3_reads_185, e_X3_reads_188, e_X3_reads_189, e_X3_reads_190, e_X3_reads_191, e_X3_reads_194, e_X3_reads_197, e_X3_reads_200, e_X3_reads_201, e_X3_reads_204, e_X3_reads_204x, e_X3_reads_205, e_X3_reads_208, e_X3_reads_211, e_X3_reads_212, e_X3_reads_215, e_X3_reads_216, zcll_s, zpush_s, zpush_n, zinv_i, zinv_l, zinv_r, zinv_x, zcats_nil, zcats_i, zcats_l, zcats_r, zcats_x, Nat.le_refl, and_self, true_and, and_true, zok_1, zok_20, zok_21, eq_self, Nat.reduceAdd, Nat.reduceLeDiff, Nat.zero_le, if_true, if_false, zw3_id, if_pos, if_neg, zand_t, tg_1, tg_3, rr_3_0 hR, h31, tb, q1, q2]
  exact rd_136 hQ
/-- isWord, as the loops ask -/
theorem k_isW (hR : Rok R) (h : TpC I B n p) {e : Nat} (he : 1 ≤ e ∧ e < 8) {wd : List Int} (hw : (zstr (e - 1)).reverse = wd) : (isW B n wd p → zrun X (d + 5) 72 [zr (some 1), zx (e + 1)] (c, s, I, L, R) = some (some (zi 1), (c, s, I, L, R))) ∧ (¬ isW B n wd p → zrun X (d + 5) 72 [zr (some 1), zx (e + 1)] (c, s, I, L, R) = some (some (zi 0), (c, s, I, L, R))) := by
  have q := k_isWord (X := X) (d := d) (c := c) (s := s) (L := L) hR h he
  rw [hw] at q
  exact ⟨fun z => by rw [if_pos z] at q; exact q, fun z => by rw [if_neg z] at q; exact q⟩
def CRs (I : ZI) (b : Nat) (rs : List MR) : Prop := ∀ r x, rs[r]? = some x → I (b + 6 + 9 * r) 0 = x.1 ∧ CTm I (b + 6 + 9 * r + 1) x.2.1 ∧ CTm I (b + 6 + 9 * r + 5) x.2.2
def CGs (I : ZI) (b : Nat) (gs : List (List TT)) : Prop := ∀ g x, gs[g]? = some x → CTm I (b + 114 + 4 * g) x
theorem CRs_c {rs : List MR} (h : CRs I b rs) (hc : ∀ a, b + 6 ≤ a → a < b + 6 + 9 * rs.length → I1 a = I a) : CRs I1 b rs := by
  intro r x hx
  have hr : r < rs.length := (List.getElem?_eq_some_iff.mp hx).1
  obtain ⟨h1, h2, h3⟩ := h r x hx
  exact ⟨by rw [hc _ (by omega) (by omega)]; exact h1, CTm_c (fun a q1 q2 => hc a (by omega) (by omega)) h2, CTm_c (fun a q1 q2 => hc a (by omega) (by omega)) h3⟩
theorem CGs_c {gs : List (List TT)} (h : CGs I b gs) (hc : ∀ a, b + 114 ≤ a → a < b + 114 + 4 * gs.length → I1 a = I a) : CGs I1 b gs := by
  intro r x hx
  have hr : r < gs.length := (List.getElem?_eq_some_iff.mp hx).1
  exact CTm_c (fun a q1 q2 => hc a (by omega) (by omega)) (h r x hx)
theorem CRs_a {rs : List MR} {y : MR} (h : CRs I b rs) (h1 : I (b + 6 + 9 * rs.length) 0 = y.1) (h2 : CTm I (b + 6 + 9 * rs.length + 1) y.2.1) (h3 : CTm I (b + 6 + 9 * rs.length + 5) y.2.2) : CRs I b (rs ++ [y]) := by
  intro r x hx
  by_cases q : r < rs.length
  · rw [List.getElem?_append_left q] at hx
    exact h r x hx
  · have hj : r < (rs ++ [y]).length := (List.getElem?_eq_some_iff.mp hx).1
    rw [List.length_append] at hj
    have hj : r < rs.length + 1 := hj
    have e : r = rs.length := by omega
    subst e
    rw [List.getElem?_append_right (by omega), Nat.sub_self] at hx
    injection hx with hx
    subst hx
    exact ⟨h1, h2, h3⟩
theorem CGs_a {gs : List (List TT)} {y : List TT} (h : CGs I b gs) (h1 : CTm I (b + 114 + 4 * gs.length) y) : CGs I b (gs ++ [y]) := by
  intro r x hx
  by_cases q : r < gs.length
  · rw [List.getElem?_append_left q] at hx
    exact h r x hx
  · have hj : r < (gs ++ [y]).length := (List.getElem?_eq_some_iff.mp hx).1
    rw [List.length_append] at hj
    have hj : r < gs.length + 1 := hj
    have e : r = gs.length := by omega
    subst e
    rw [List.getElem?_append_right (by omega), Nat.sub_self] at hx
    injection hx with hx
    subst hx
    exact h1
theorem ErC_b {e : PE} {k : Nat} {y : Int} (h : ErC I e) (hb : 4 ≤ b) : ErC (zu I b k y) e := by
  unfold ErC
  rw [zu_n (show 3 ≠ b by omega)]
  exact h
def MbC (I : ZI) (b : Nat) (lt : Int) (nr ng : Nat) : Prop := I b 0 = lt ∧ I b 2 = (nr : Int) ∧ I b 3 = (ng : Int)
theorem q_vars {lt : Int} (I0 : ZI) : ∀ (j : Nat) (vs : List MV) (p : Nat) (I : ZI), vs.length + j = 5 → CpC I R B n p b vs → MbC I b lt 0 0 → FrC b (b + 130) I0 I → (∀ e I1, pVars B n j vs p = .inl e → ErC I1 e → FrC b (b + 130) I0 I1 → Q (some (zi 0), (c, s, I1, L, R))) → (∀ z I1, pVars B n j vs p = .inr z → CpC I1 R B n z.2 b z.1 → MbC I1 b lt 0 0 → FrC b (b + 130) I0 I1 → V X (zrun X (d + 8)) mX3_reads 68 [zr (some 3), zi 1, zi 0] [] (c, s, I1, L, R) Q) → V X (zrun X (d + 8)) mX3_reads 21 [zr (some 3), zi 1, zi (vs.length : Int)] [] (c, s, I, L, R) Q := by
  intro j
  induction j with
  | zero => intro vs p I h1 h2 h3 h4 hE hQ; have := h2.2.2.2.2.2.2.2.1; omega
  | succ j ih =>
    intro vs p I h1 h2 h3 h4 hE hQ
    have hT := h2.1
    have hR := h2.2.1
    have hb := h2.2.2.2.1
    have qw := k_isW (X := X) (d := d + 3) (c := c) (s := s) (L := L) hR hT (e := 3) (by omega) (wd := wVar) (by decide +kernel)
    unfold pVars at hE hQ
    by_cases q : isW B n wVar p
    · rw [if_pos q] at hE hQ
      by_cases q4 : vs.length = 4
      · have hpv : pVar B n vs p = .inl (4, (tF B n p : Int)) := by unfold pVar; rw [if_pos q4]
        rw [pb_l hpv] at hE
        have qf := k_fails (X := X) (d := d + 7) (c := c) (s := s) (L := L) hR (y := 4) hT.2.2.1
        exact lv_2 hR (by omega) (qw.1 q) qf (hE _ _ rfl ErC_e (FrC_t h4 FrC_e))
      · obtain ⟨y, J, g1, g2, g3, g4⟩ := k_readVar (X := X) (d := d + 1) (c := c) (s := s) (L := L) h2 (by omega)
        have F : FrC b (b + 130) I0 J := FrC_t h4 (FrC_w g2 (by omega) (by omega))
        refine lv_1 hR (by omega) (by omega) (qw.1 q) g1 ?_
        cases hp : pVar B n vs p with
        | inl e =>
          rw [pb_l hp] at hE
          obtain ⟨w1, w2⟩ := g3 e hp
          rw [w1]
          exact rd_21 (hE _ _ rfl w2 F)
        | inr z =>
          rw [pb_r hp] at hE hQ
          obtain ⟨w1, w2, w3⟩ := g4 z hp
          rw [w1]
          have nx := ih (vs ++ [z.1]) z.2 J (by rw [List.length_append]; show vs.length + 1 + j = 5; omega) w2 ⟨by rw [w3 0 (by omega) (by omega)]; exact h3.1, by rw [w3 2 (by omega) (by omega)]; exact h3.2.1, by rw [w3 3 (by omega) (by omega)]; exact h3.2.2⟩ F hE hQ
          rw [show (((vs ++ [z.1]).length : Nat) : Int) = (vs.length : Int) + 1 by rw [List.length_append]; show ((vs.length + 1 : Nat) : Int) = _; omega] at nx
          exact nx
    · rw [if_neg q] at hE hQ
      exact lv_0 hR (by omega) (qw.2 q) (hQ _ _ rfl h2 h3 h4)
theorem q_rules {lt : Int} (I0 : ZI) : ∀ (j : Nat) (rs : List MR) (p : Nat) (I : ZI), rs.length + j = 13 → rs.length ≤ 12 → CpC I R B n p b vs → MbC I b lt rs.length 0 → CRs I b rs → FrC b (b + 130) I0 I → (∀ e I1, pRules B n lt vs j rs p = .inl e → ErC I1 e → FrC b (b + 130) I0 I1 → Q (some (zi 0), (c, s, I1, L, R))) → (∀ z I1, pRules B n lt vs j rs p = .inr z → CpC I1 R B n z.2 b vs → MbC I1 b lt z.1.length 0 → CRs I1 b z.1 → z.1.length ≤ 12 → FrC b (b + 130) I0 I1 → V X (zrun X (d + 8)) mX3_reads 136 [zr (some 3), zi 1, zi 0] [] (c, s, I1, L, R) Q) → V X (zrun X (d + 8)) mX3_reads 68 [zr (some 3), zi 1, zi (rs.length : Int)] [] (c, s, I, L, R) Q := by
  intro j
  induction j with
  | zero => intro rs p I h1 h1' h2 h3 h3' h4 hE hQ; omega
  | succ j ih =>
    intro rs p I h1 h1' h2 h3 h3' h4 hE hQ
    have hT := h2.1
    have hR := h2.2.1
    have h31 := h2.2.2.1
    have hb := h2.2.2.2.1
    have tt := tt_model hb
    have qw := k_isW (X := X) (d := d + 3) (c := c) (s := s) (L := L) hR hT (e := 4) (by omega) (wd := wRule) (by decide +kernel)
    unfold pRules at hE hQ
    by_cases q : isW B n wRule p
    · rw [if_pos q] at hE hQ
      by_cases q4 : rs.length = 12
      · have hpv : pRule B n lt vs rs.length p = .inl (4, (tF B n p : Int)) := by unfold pRule; rw [if_pos q4]
        rw [pb_l hpv] at hE
        have qf := k_fails (X := X) (d := d + 7) (c := c) (s := s) (L := L) hR (y := 4) hT.2.2.1
        exact lr_2 hR h31 tt.1 (by omega) (qw.1 q) qf (hE _ _ rfl (ErC_b ErC_e (by omega)) (FrC_t h4 (FrC_t FrC_e (FrC_u (by omega) (by omega) (by omega)))))
      · obtain ⟨y, J, g1, g2, g3, g4⟩ := k_readRule (X := X) (d := d) (c := c) (s := s) (L := L) h2 h3.1 (i := rs.length) (by omega)
        have F : FrC b (b + 130) I0 (zu J b 2 ((rs.length : Int) + 1)) := FrC_t h4 (FrC_t (FrC_w g2 (by omega) (by omega)) (FrC_u (by omega) (by omega) (by omega)))
        refine lr_1 hR h31 tt.1 (rr_model hR hb).2.2.1 tt.2.2.2.1 (rr_rule hR hb (by omega)) (by omega) (qw.1 q) g1 ?_
        cases hp : pRule B n lt vs rs.length p with
        | inl e =>
          rw [pb_l hp] at hE
          obtain ⟨w1, w2⟩ := g3 e hp
          rw [w1]
          exact rd_68 (hE _ _ rfl (ErC_b w2 (by omega)) F)
        | inr z =>
          rw [pb_r hp] at hE hQ
          obtain ⟨w1, w2, w3, w4, w5⟩ := g4 z hp
          rw [w1]
          have eb : ∀ k, b ≤ k → k < b + 6 + 9 * rs.length → J k = I k := fun k a1 a2 => FrC_b g2 (by omega) (by omega)
          have eJ : ∀ k, b < k → zu J b 2 ((rs.length : Int) + 1) k = J k := fun k a1 => zu_n (by omega)
          have el : (((rs ++ [z.1]).length : Nat) : Int) = (rs.length : Int) + 1 := by rw [List.length_append]; show ((rs.length + 1 : Nat) : Int) = _; omega
          have nx := ih (rs ++ [z.1]) z.2 (zu J b 2 ((rs.length : Int) + 1)) (by rw [List.length_append]; show rs.length + 1 + j = 13; omega) (by rw [List.length_append]; show rs.length + 1 ≤ 12; omega) (CpC_g h2 (TpC_u w2 (by omega)) (by rw [zu_k (by omega), eb b (by omega) (by omega)]) (by rw [zu_k (by omega), eb b (by omega) (by omega)]) (by rw [eJ _ (by omega), eb _ (by omega) (by omega)]) (by rw [eJ _ (by omega), eb _ (by omega) (by omega)]) (by rw [eJ _ (by omega), eb _ (by omega) (by omega)])) ⟨by rw [zu_k (by omega), eb b (by omega) (by omega)]; exact h3.1, by rw [zu_s]; exact el.symm, by rw [zu_k (by omega), eb b (by omega) (by omega)]; exact h3.2.2⟩ (CRs_c (CRs_a (CRs_c h3' (fun a a1 a2 => eb a (by omega) (by omega))) w3 w4 w5) (fun a a1 a2 => eJ a (by omega))) F hE hQ
          rw [el] at nx
          exact nx
    · rw [if_neg q] at hE hQ
      exact lr_0 hR (by omega) (qw.2 q) (hQ _ _ rfl h2 h3 h3' h1' h4)
theorem q_goals {lt : Int} (I0 : ZI) {rs : List MR} (hrs : rs.length ≤ 12) {o : PE ⊕ MD} : ∀ (j : Nat) (gs : List (List TT)) (p : Nat) (I : ZI), gs.length + j = 5 → gs.length ≤ 4 → CpC I R B n p b vs → MbC I b lt rs.length gs.length → CRs I b rs → CGs I b gs → FrC b (b + 130) I0 I → (o = pB (pGoals B n vs j gs p) fun g => pEnd B n (lt, vs, rs, g.1) g.2) → (∀ e I1, o = .inl e → ErC I1 e → FrC b (b + 130) I0 I1 → Q (some (zi 0), (c, s, I1, L, R))) → (∀ M I1, o = .inr M → ClM I1 b M → FrC b (b + 130) I0 I1 → Q (some (zi 1), (c, s, I1, L, R))) → V X (zrun X (d + 8)) mX3_reads 136 [zr (some 3), zi 1, zi (gs.length : Int)] [] (c, s, I, L, R) Q := by
  intro j
  induction j with
  | zero => intro gs p I h1 h1' h2 h3 h3' h3'' h4 ho hE hQ; omega
  | succ j ih =>
    intro gs p I h1 h1' h2 h3 h3' h3'' h4 ho hE hQ
    have hT := h2.1
    have hR := h2.2.1
    have h31 := h2.2.2.1
    have hb := h2.2.2.2.1
    have tt := tt_model hb
    have qw := k_isW (X := X) (d := d + 3) (c := c) (s := s) (L := L) hR hT (e := 7) (by omega) (wd := wGoal) (by decide +kernel)
    unfold pGoals at ho
    by_cases q : isW B n wGoal p
    · rw [if_pos q] at ho
      by_cases q4 : gs.length = 4
      · have hpv : pGoal B n vs gs.length p = .inl (4, (tF B n p : Int)) := by unfold pGoal; rw [if_pos q4]
        rw [pb_l (pb_l hpv)] at ho
        have qf := k_fails (X := X) (d := d + 7) (c := c) (s := s) (L := L) hR (y := 4) hT.2.2.1
        exact lg_2 hR h31 tt.1 (by omega) (qw.1 q) qf (hE _ _ ho (ErC_b ErC_e (by omega)) (FrC_t h4 (FrC_t FrC_e (FrC_u (by omega) (by omega) (by omega)))))
      · obtain ⟨y, J, g1, g2, g3, g4⟩ := k_readGoal (X := X) (d := d) (c := c) (s := s) (L := L) h2 (i := gs.length) (by omega)
        have F : FrC b (b + 130) I0 (zu J b 3 ((gs.length : Int) + 1)) := FrC_t h4 (FrC_t (FrC_w g2 (by omega) (by omega)) (FrC_u (by omega) (by omega) (by omega)))
        refine lg_1 hR h31 tt.1 (rr_model hR hb).2.2.2.1 tt.2.2.2.2.1 (rr_goal hR hb (by omega)) (by omega) (qw.1 q) g1 ?_
        cases hp : pGoal B n vs gs.length p with
        | inl e =>
          rw [pb_l (pb_l hp)] at ho
          obtain ⟨w1, w2⟩ := g3 e hp
          rw [w1]
          exact rd_136 (hE _ _ ho (ErC_b w2 (by omega)) F)
        | inr z =>
          rw [pb_r hp] at ho
          obtain ⟨w1, w2, w3⟩ := g4 z hp
          rw [w1]
          have eb : ∀ k, b ≤ k → k < b + 114 + 4 * gs.length → J k = I k := fun k a1 a2 => FrC_b g2 (by omega) (by omega)
          have eJ : ∀ k, b < k → zu J b 3 ((gs.length : Int) + 1) k = J k := fun k a1 => zu_n (by omega)
          have el : (((gs ++ [z.1]).length : Nat) : Int) = (gs.length : Int) + 1 := by rw [List.length_append]; show ((gs.length + 1 : Nat) : Int) = _; omega
          have nx := ih (gs ++ [z.1]) z.2 (zu J b 3 ((gs.length : Int) + 1)) (by rw [List.length_append]; show gs.length + 1 + j = 5; omega) (by rw [List.length_append]; show gs.length + 1 ≤ 4; omega) (CpC_g h2 (TpC_u w2 (by omega)) (by rw [zu_k (by omega), eb b (by omega) (by omega)]) (by rw [zu_k (by omega), eb b (by omega) (by omega)]) (by rw [eJ _ (by omega), eb _ (by omega) (by omega)]) (by rw [eJ _ (by omega), eb _ (by omega) (by omega)]) (by rw [eJ _ (by omega), eb _ (by omega) (by omega)])) ⟨by rw [zu_k (by omega), eb b (by omega) (by omega)]; exact h3.1, by rw [zu_k (by omega), eb b (by omega) (by omega)]; exact h3.2.1, by rw [zu_s]; exact el.symm⟩ (CRs_c (CRs_c h3' (fun a a1 a2 => eb a (by omega) (by omega))) (fun a a1 a2 => eJ a (by omega))) (CGs_c (CGs_a (CGs_c h3'' (fun a a1 a2 => eb a (by omega) (by omega))) w3) (fun a a1 a2 => eJ a (by omega))) F ho hE hQ
          rw [el] at nx
          exact nx
    · rw [if_neg q] at ho
      have ho : o = pEnd B n (lt, vs, rs, gs) p := ho
      obtain ⟨y, J, g1, g2, g3⟩ := k_isAtEnd (X := X) (d := d + 6) (c := c) (s := s) (L := L) h2 (M := (lt, vs, rs, gs)) h3.2.2
      refine lg_0 hR (by omega) (qw.2 q) g1 (pS_01 (o := pEnd B n (lt, vs, rs, gs) p) g2 g3) ?_
      cases hp : pEnd B n (lt, vs, rs, gs) p with
      | inl e =>
        obtain ⟨w1, w2, w3⟩ := g2 e hp
        rw [w1]
        exact hE e J (ho.trans hp) w2 (by rw [w3]; exact FrC_t h4 FrC_e)
      | inr z =>
        obtain ⟨w1, w2, w3⟩ := g3 z hp
        rw [w1, w2]
        refine hQ z I (ho.trans hp) ?_ h4
        rw [w3]
        have hv := h2.2.2.2.2.1
        exact ⟨h3.1, hv.1, h3.2.1, h3.2.2, hv.2.1, fun v x hx => ⟨(hv.2.2 v x hx).1, (hv.2.2 v x hx).2.1⟩, h3', h3''⟩
theorem k_reads (hR : Rok R) (h31 : R 3 1 = some b) (hb : b = 4 ∨ b = 135) (hT : TxC I B n) : ∃ y I1, zrun X (d + 9) 25 [zr (some 3)] (c, s, I, L, R) = some (some (zi y), (c, s, I1, L, R)) ∧ FrC b (b + 130) I I1 ∧ (∀ e, pAll B n = .inl e → y = 0 ∧ ErC I1 e) ∧ ∀ M, pAll B n = .inr M → y = 1 ∧ ClM I1 b M := by
  have pr := sx_X3_reads (X := X) (d := d + 8) (u0 := some 3) (σ := (c, s, I, L, R)) (P := fun q => ∃ y I1, q = (some (zi y), (c, s, I1, L, R)) ∧ FrC b (b + 130) I I1 ∧ (∀ e, pAll B n = .inl e → y = 0 ∧ ErC I1 e) ∧ ∀ M, pAll B n = .inr M → y = 1 ∧ ClM I1 b M) ?_
  · obtain ⟨r, q1, y, I1, q2, q3⟩ := pr
    exact ⟨y, I1, by rw [q1, q2], q3⟩
  · have q1 := k_clearM (X := X) (d := d + 7) (c := c) (s := s) (I := I) (L := L) (R := R) hb
    have F1 : FrC b (b + 130) I (zu (zu (zu (zu (zu I b 0 0) b 1 0) b 2 0) b 3 0) b 4 1) := FrC_t (FrC_t (FrC_t (FrC_t (FrC_u (by omega) (by omega) (by omega)) (FrC_u (by omega) (by omega) (by omega))) (FrC_u (by omega) (by omega) (by omega))) (FrC_u (by omega) (by omega) (by omega))) (FrC_u (by omega) (by omega) (by omega))
    have z1 : zu (zu (zu (zu (zu I b 0 0) b 1 0) b 2 0) b 3 0) b 4 1 b 1 = 0 := by rw [zu_k (by omega), zu_k (by omega), zu_k (by omega), zu_s]
    have z2 : zu (zu (zu (zu (zu I b 0 0) b 1 0) b 2 0) b 3 0) b 4 1 b 2 = 0 := by rw [zu_k (by omega), zu_k (by omega), zu_s]
    have z3 : zu (zu (zu (zu (zu I b 0 0) b 1 0) b 2 0) b 3 0) b 4 1 b 3 = 0 := by rw [zu_k (by omega), zu_s]
    have z4 : zu (zu (zu (zu (zu I b 0 0) b 1 0) b 2 0) b 3 0) b 4 1 b 4 = 1 := by rw [zu_s]
    generalize zu (zu (zu (zu (zu I b 0 0) b 1 0) b 2 0) b 3 0) b 4 1 = I1 at q1 F1 z1 z2 z3 z4
    have hT1 : TxC I1 B n := ⟨F1.2.trans hT.1, hT.2.1, fun k hk => by rw [F1.1 2 (by omega) (by omega) (by omega)]; exact hT.2.2.1 k hk, hT.2.2.2⟩
    obtain ⟨I2, n1, n2, n3⟩ := k_rewind (X := X) (d := d + 2) (c := c) (s := s) (L := L) hR hT1
    obtain ⟨y, I3, m1, m2, m3, m4⟩ := k_readLots (X := X) (d := d + 1) (c := c) (s := s) (L := L) hR h31 hb n2
    have F3 : FrC b (b + 130) I I3 := FrC_t F1 (FrC_t (FrC_x n3) (FrC_w m2 (by omega) (by omega)))
    have tt := (tt_model hb).1
    have go : V X (zrun X (d + 8)) mX3_reads 21 [zr (some 3), zi y, zi 0] [] (c, s, I3, L, R) (fun q => ∃ y I1, q = (some (zi y), (c, s, I1, L, R)) ∧ FrC b (b + 130) I I1 ∧ (∀ e, pAll B n = .inl e → y = 0 ∧ ErC I1 e) ∧ ∀ M, pAll B n = .inr M → y = 1 ∧ ClM I1 b M) := by
      have bad : ∀ e I1, pAll B n = .inl e → ErC I1 e → FrC b (b + 130) I I1 → ∃ y I2, ((some (zi 0), (c, s, I1, L, R)) : Option ZV × ZS) = (some (zi y), (c, s, I2, L, R)) ∧ FrC b (b + 130) I I2 ∧ (∀ e, pAll B n = .inl e → y = 0 ∧ ErC I2 e) ∧ ∀ M, pAll B n = .inr M → y = 1 ∧ ClM I2 b M := by
        intro e I1 w1 w2 w3
        refine ⟨0, I1, rfl, w3, fun e' he => ⟨rfl, ?_⟩, fun M hM => ?_⟩
        · rw [w1] at he; rw [← Sum.inl.inj he]; exact w2
        · rw [w1] at hM; cases hM
      have hpa : pAll B n = pB (pLots B n) fun a => pB (pVars B n 5 [] a.2) fun v => pB (pRules B n a.1 v.1 13 [] v.2) fun r => pB (pGoals B n v.1 5 [] r.2) fun g => pEnd B n (a.1, v.1, r.1, g.1) g.2 := rfl
      cases hl : pLots B n with
      | inl e =>
        rw [pb_l hl] at hpa
        obtain ⟨w1, w2⟩ := m3 e hl
        rw [w1]
        exact rd_21 (bad e I3 hpa w2 F3)
      | inr a =>
        rw [pb_r hl] at hpa
        obtain ⟨w1, w2, w3, w4⟩ := m4 a hl
        rw [w1]
        have e2 : ∀ k, I2 b k = I1 b k := fun k => by rw [n3.1 b (by omega)]
        have hP : CpC I3 R B n a.2 b [] := ⟨w2, hR, h31, hb, ⟨by rw [w4 1 (by omega), e2]; exact z1, by rw [w4 4 (by omega), e2]; exact z4, fun v x hx => by cases hx⟩, VsO_0⟩
        refine q_vars (X := X) (d := d) (c := c) (s := s) (L := L) (lt := a.1) I 5 [] a.2 I3 rfl hP ⟨w3, by rw [w4 2 (by omega), e2]; exact z2, by rw [w4 3 (by omega), e2]; exact z3⟩ F3 ?_ ?_
        · intro e I4 u1 u2 u3
          rw [pb_l u1] at hpa
          exact bad e I4 hpa u2 u3
        · intro v I4 u1 u2 u3 u4
          rw [pb_r u1] at hpa
          refine q_rules (X := X) (d := d) (c := c) (s := s) (L := L) (lt := a.1) I 13 [] v.2 I4 rfl (by show 0 ≤ 12; omega) u2 u3 (fun r x hx => by cases hx) u4 ?_ ?_
          · intro e I5 x1 x2 x3
            rw [pb_l x1] at hpa
            exact bad e I5 hpa x2 x3
          · intro r I5 x1 x2 x3 x4 x5 x6
            rw [pb_r x1] at hpa
            refine q_goals (X := X) (d := d) (c := c) (s := s) (L := L) (lt := a.1) I x5 5 [] r.2 I5 rfl (by show 0 ≤ 4; omega) x2 x3 x4 (fun g x hx => by cases hx) x6 hpa ?_ ?_
            · intro e I6 o1 o2 o3
              exact bad e I6 o1 o2 o3
            · intro M I6 o1 o2 o3
              refine ⟨1, I6, rfl, o3, fun e he => ?_, fun M' hM => ⟨rfl, ?_⟩⟩
              · rw [o1] at he; cases he
              · rw [o1] at hM; rw [← Sum.inr.inj hM]; exact o2
    clear m3 m4 n2 m2 F3
    simp (disch := omega) only [e_X3_reads_0, e_X3_reads_0x, e_X3_reads_1, e_X3_reads_4, e_X3_reads_7, e_X3_reads_7x, e_X3_reads_8, e_X3_reads_11, e_X3_reads_14, e_X3_reads_14x, e_X3_reads_15, e_X3_reads_18, e_X3_reads_19, e_X3_reads_20, e_X3_reads_22, e_X3_reads_25, e_X3_reads_26, e_X3_reads_27, e_X3_reads_30, e_X3_reads_30x, e_X3_reads_31, e_X3_reads_34, e_X3_reads_36, e_X3_reads_39, e_X3_reads_42, e_X3_reads_43, e_X3_reads_44, e_X3_reads_47, e_X3_reads_47x, e_X3_reads_48, e_X3_reads_51, e_X3_reads_54, e_X3_reads_54x, e_X3_reads_55, e_X3_reads_56, e_X3_reads_59, e_X3_reads_60, e_X3_reads_63, e_X3_reads_66, e_X3_reads_67, e_X3_reads_69, e_X3_reads_72, e_X3_reads_73, e_X3_reads_75, e_X3_reads_78, e_X3_reads_78x, e_X3_reads_79, e_X3_reads_82, e_X3_reads_84, e_X3_reads_87, e_X3_reads_90, e_X3_reads_91, e_X3_reads_93, e_X3_reads_96, e_X3_reads_96x, e_X3_reads_97, e_X3_reads_97x, e_X3_reads_98, e_X3_reads_101, e_X3_reads_104, e_X3_reads_105, e_X3_reads_106, e_X3_reads_109, e_X3_reads_112, e_X3_reads_112x, e_X3_reads_113, e_X3_reads_114, e_X3_reads_117, e_X3_reads_118, e_X3_reads_118x, e_X3_reads_119, e_X3_reads_122, e_X3_reads_123, e_X3_reads_124, e_X3_reads_125, e_X3_reads_128, e_X3_reads_131, e_X3_reads_134, e_X3_reads_135, e_X3_reads_137, e_X3_reads_140, e_X3_reads_141, e_X3_reads_142, e_X3_reads_145, e_X3_reads_145x, e_X3_reads_146, e_X3_reads_149, e_X3_reads_151, e_X3_reads_154, e_X3_reads_157, e_X3_reads_158, e_X3_reads_159, e_X3_reads_162, e_X3_reads_162x, e_X3_reads_163, e_X3_reads_163x, e_X3_reads_164, e_X3_reads_167, e_X3_reads_170, e_X3_reads_171, e_X3_reads_172, e_X3_reads_175, e_X3_reads_178, e_X3_reads_178x, e_X3_reads_179, e_X3_reads_180, e_X3_reads_183, e_X3_reads_184, e_X3_reads_184x, e_X3_reads_185, e_X3_reads_188, e_X3_reads_189, e_X3_reads_190, e_X3_reads_191, e_X3_reads_194, e_X3_reads_197, e_X3_reads_200, e_X3_reads_201, e_X3_reads_204, e_X3_reads_204x, e_X3_reads_205, e_X3_reads_208, e_X3_reads_211, e_X3_reads_212, e_X3_reads_215, e_X3_reads_216, zcll_s, zpush_s, zpush_n, zinv_i, zinv_l, zinv_r, zinv_x, zcats_nil, zcats_i, zcats_l, zcats_r, zcats_x, Nat.le_refl, and_self, true_and, and_true, zok_1, zok_20, zok_21, eq_self, Nat.reduceAdd, Nat.reduceLeDiff, Nat.zero_le, if_true, if_false, zw3_id, if_pos, if_neg, zand_t, tg_1, tg_3, rr_3_0 hR, h31, tt, q1, n1, m1]
    exact go
end

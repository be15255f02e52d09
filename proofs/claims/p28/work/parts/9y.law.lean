/-! the law, round by round -/
section LAW
variable {S : ip_S} {R : ip_R} {L : ip_S} {Q : Option Value → Nat → ip_S → ip_R → ip_S → Prop} {i : Int}
def l_go (S : ip_S) (R : ip_R) (L : ip_S) (st : Nat) (i : Int) (Q : Option Value → Nat → ip_S → ip_R → ip_S → Prop) : Prop := ∃ S2 R2 L2, S2 900 = S 900 ∧ x_rel S2 S2 ∧ x_RX R2 ∧ x_RM R2 ∧ ip_wp 100 233 st [some (.ref 900), some (.ref 0), some (.ref 62), some (vi i)] [] 79 S R L Q = ip_wp 100 233 921 [some (.ref 900), some (.ref 0), some (.ref 62), some (vi i)] [] 79 S2 R2 L2 Q
theorem l_0 {a : Int} (hi : 0 ≤ i) (hi2 : i + 6 ≤ S 900 (-1)) (hb : S 900 (-1) ≤ 4000) (H : r_two 44 127 [vi (S 900 (i + 1)), vi (S 900 (i + 2)), vi (S 900 (i + 3))] S R L (vi a) (vi a)) : l_go S R L 22 i Q := by
  obtain ⟨S1, S2, R2, L2, e1, e2, hrel, h3, h4, hx, hm⟩ := H
  refine ⟨S2, R2, L2, e2, hrel, h3, h4, ?_⟩
  simp (disch := omega) only [s233_22, s233_23, s233_24, s233_25, s233_26, s233_27, s233_28, s233_29, s233_30, s233_31, s233_32, s233_33, s233_34, s233_35, s233_36, s233_37, s233_38, s233_39, s233_40, s233_41, s233_42, s233_43, s233_44, s233_45, s233_46, s233_47, s233_48, s233_49, s233_50, s233_51, s233_52, s233_53, s233_54, s233_55, s233_56, s233_57, s233_58, ↓reduceIte, Bool.true_eq_false, Bool.false_eq_true, ip_rfS, true_or, or_true, true_and, and_true, Option.toList_some, Option.toList_none, List.cons_append, List.nil_append, ip_fxn, ip_fxi, ip_fxr, ip_fxl, ip_wid, ip_n998, ip_lt900, ip_n9, show 0 ≤ i + 1 by omega, show i + 1 < S 900 (-1) by omega, show 0 ≤ i + 2 by omega, show i + 2 < S 900 (-1) by omega, show 0 ≤ i + 3 by omega, show i + 3 < S 900 (-1) by omega, iO0, iO62, hx, hm, e1]
theorem l_1 {a : Int} (hi : 0 ≤ i) (hi2 : i + 6 ≤ S 900 (-1)) (hb : S 900 (-1) ≤ 4000) (H : r_two 48 186 [vi (S 900 (i + 1)), vi (S 900 (i + 2)), vi (S 900 (i + 3))] S R L (vi a) (vi a)) : l_go S R L 59 i Q := by
  obtain ⟨S1, S2, R2, L2, e1, e2, hrel, h3, h4, hx, hm⟩ := H
  refine ⟨S2, R2, L2, e2, hrel, h3, h4, ?_⟩
  simp (disch := omega) only [s233_59, s233_60, s233_61, s233_62, s233_63, s233_64, s233_65, s233_66, s233_67, s233_68, s233_69, s233_70, s233_71, s233_72, s233_73, s233_74, s233_75, s233_76, s233_77, s233_78, s233_79, s233_80, s233_81, s233_82, s233_83, s233_84, s233_85, s233_86, s233_87, s233_88, s233_89, s233_90, s233_91, s233_92, s233_93, s233_94, s233_95, ↓reduceIte, Bool.true_eq_false, Bool.false_eq_true, ip_rfS, true_or, or_true, true_and, and_true, Option.toList_some, Option.toList_none, List.cons_append, List.nil_append, ip_fxn, ip_fxi, ip_fxr, ip_fxl, ip_wid, ip_n998, ip_lt900, ip_n9, show 0 ≤ i + 1 by omega, show i + 1 < S 900 (-1) by omega, show 0 ≤ i + 2 by omega, show i + 2 < S 900 (-1) by omega, show 0 ≤ i + 3 by omega, show i + 3 < S 900 (-1) by omega, iO0, iO62, hx, hm, e1]
theorem l_2 {a : Int} (hi : 0 ≤ i) (hi2 : i + 6 ≤ S 900 (-1)) (hb : S 900 (-1) ≤ 4000) (H : r_two 51 189 [vi (S 900 (i + 1)), vi (S 900 (i + 2)), vi (S 900 (i + 3))] S R L (vi a) (vi a)) : l_go S R L 96 i Q := by
  obtain ⟨S1, S2, R2, L2, e1, e2, hrel, h3, h4, hx, hm⟩ := H
  refine ⟨S2, R2, L2, e2, hrel, h3, h4, ?_⟩
  simp (disch := omega) only [s233_96, s233_97, s233_98, s233_99, s233_100, s233_101, s233_102, s233_103, s233_104, s233_105, s233_106, s233_107, s233_108, s233_109, s233_110, s233_111, s233_112, s233_113, s233_114, s233_115, s233_116, s233_117, s233_118, s233_119, s233_120, s233_121, s233_122, s233_123, s233_124, s233_125, s233_126, s233_127, s233_128, s233_129, s233_130, s233_131, s233_132, ↓reduceIte, Bool.true_eq_false, Bool.false_eq_true, ip_rfS, true_or, or_true, true_and, and_true, Option.toList_some, Option.toList_none, List.cons_append, List.nil_append, ip_fxn, ip_fxi, ip_fxr, ip_fxl, ip_wid, ip_n998, ip_lt900, ip_n9, show 0 ≤ i + 1 by omega, show i + 1 < S 900 (-1) by omega, show 0 ≤ i + 2 by omega, show i + 2 < S 900 (-1) by omega, show 0 ≤ i + 3 by omega, show i + 3 < S 900 (-1) by omega, iO0, iO62, hx, hm, e1]
theorem l_3 {a a' : Int} (hi : 0 ≤ i) (hi2 : i + 6 ≤ S 900 (-1)) (hb : S 900 (-1) ≤ 4000) (H : r_two 53 131 [vi (S 900 (i + 1)), vi (S 900 (i + 2))] S R L (vi a) (vi a')) : l_go S R L 133 i Q := by
  obtain ⟨S1, S2, R2, L2, e1, e2, hrel, h3, h4, hx, hm⟩ := H
  refine ⟨S2, R2, L2, e2, hrel, h3, h4, ?_⟩
  simp (disch := omega) only [s233_133, s233_134, s233_135, s233_136, s233_137, s233_138, s233_139, s233_140, s233_141, s233_142, s233_143, s233_144, s233_145, s233_146, s233_147, s233_148, s233_149, s233_150, s233_151, s233_152, s233_153, s233_154, s233_155, s233_156, s233_157, s233_158, s233_159, ↓reduceIte, Bool.true_eq_false, Bool.false_eq_true, ip_rfS, true_or, or_true, true_and, and_true, Option.toList_some, Option.toList_none, List.cons_append, List.nil_append, ip_fxn, ip_fxi, ip_fxr, ip_fxl, ip_wid, ip_n998, ip_lt900, ip_n9, show 0 ≤ i + 1 by omega, show i + 1 < S 900 (-1) by omega, show 0 ≤ i + 2 by omega, show i + 2 < S 900 (-1) by omega, iO0, iO62, hx, hm, e1]
theorem l_4 {a : Int} (hi : 0 ≤ i) (hi2 : i + 6 ≤ S 900 (-1)) (hb : S 900 (-1) ≤ 4000) (H : r_two 67 193 [vi (S 900 (i + 1)), vi (S 900 (i + 2)), vi (S 900 (i + 3)), vi (S 900 (i + 4)), vi (S 900 (i + 5))] S R L (vi a) (vi a)) : l_go S R L 160 i Q := by
  obtain ⟨S1, S2, R2, L2, e1, e2, hrel, h3, h4, hx, hm⟩ := H
  refine ⟨S2, R2, L2, e2, hrel, h3, h4, ?_⟩
  simp (disch := omega) only [s233_160, s233_161, s233_162, s233_163, s233_164, s233_165, s233_166, s233_167, s233_168, s233_169, s233_170, s233_171, s233_172, s233_173, s233_174, s233_175, s233_176, s233_177, s233_178, s233_179, s233_180, s233_181, s233_182, s233_183, s233_184, s233_185, s233_186, s233_187, s233_188, s233_189, s233_190, s233_191, s233_192, s233_193, s233_194, s233_195, s233_196, s233_197, s233_198, s233_199, s233_200, s233_201, s233_202, s233_203, s233_204, s233_205, s233_206, s233_207, s233_208, s233_209, s233_210, s233_211, s233_212, s233_213, s233_214, s233_215, s233_216, ↓reduceIte, Bool.true_eq_false, Bool.false_eq_true, ip_rfS, true_or, or_true, true_and, and_true, Option.toList_some, Option.toList_none, List.cons_append, List.nil_append, ip_fxn, ip_fxi, ip_fxr, ip_fxl, ip_wid, ip_n998, ip_lt900, ip_n9, show 0 ≤ i + 1 by omega, show i + 1 < S 900 (-1) by omega, show 0 ≤ i + 2 by omega, show i + 2 < S 900 (-1) by omega, show 0 ≤ i + 3 by omega, show i + 3 < S 900 (-1) by omega, show 0 ≤ i + 4 by omega, show i + 4 < S 900 (-1) by omega, show 0 ≤ i + 5 by omega, show i + 5 < S 900 (-1) by omega, iO0, iO62, hx, hm, e1]
theorem l_5 {a : Int} (hi : 0 ≤ i) (hi2 : i + 6 ≤ S 900 (-1)) (hb : S 900 (-1) ≤ 4000) (H : r_two 71 190 [vi (S 900 (i + 1))] S R L (vi a) (vi a)) : l_go S R L 217 i Q := by
  obtain ⟨S1, S2, R2, L2, e1, e2, hrel, h3, h4, hx, hm⟩ := H
  refine ⟨S2, R2, L2, e2, hrel, h3, h4, ?_⟩
  simp (disch := omega) only [s233_217, s233_218, s233_219, s233_220, s233_221, s233_222, s233_223, s233_224, s233_225, s233_226, s233_227, s233_228, s233_229, s233_230, s233_231, s233_232, s233_233, ↓reduceIte, Bool.true_eq_false, Bool.false_eq_true, ip_rfS, true_or, or_true, true_and, and_true, Option.toList_some, Option.toList_none, List.cons_append, List.nil_append, ip_fxn, ip_fxi, ip_fxr, ip_fxl, ip_wid, ip_n998, ip_lt900, ip_n9, show 0 ≤ i + 1 by omega, show i + 1 < S 900 (-1) by omega, iO0, iO62, hx, hm, e1]
theorem l_6 {a : Int} (hi : 0 ≤ i) (hi2 : i + 6 ≤ S 900 (-1)) (hb : S 900 (-1) ≤ 4000) (H : r_two 72 191 [] S R L (vi a) (vi a)) : l_go S R L 234 i Q := by
  obtain ⟨S1, S2, R2, L2, e1, e2, hrel, h3, h4, hx, hm⟩ := H
  refine ⟨S2, R2, L2, e2, hrel, h3, h4, ?_⟩
  simp (disch := omega) only [s233_234, s233_235, s233_236, s233_237, s233_238, s233_239, s233_240, ↓reduceIte, Bool.true_eq_false, Bool.false_eq_true, ip_rfS, true_or, or_true, true_and, and_true, Option.toList_some, Option.toList_none, List.cons_append, List.nil_append, ip_fxn, ip_fxi, ip_fxr, ip_fxl, ip_wid, ip_n998, ip_lt900, ip_n9, true_and, iO0, iO62, hx, hm, e1]
theorem l_7 {a : Int} (hi : 0 ≤ i) (hi2 : i + 6 ≤ S 900 (-1)) (hb : S 900 (-1) ≤ 4000) (H : r_two 73 192 [vi (S 900 (i + 1))] S R L (vi a) (vi a)) : l_go S R L 241 i Q := by
  obtain ⟨S1, S2, R2, L2, e1, e2, hrel, h3, h4, hx, hm⟩ := H
  refine ⟨S2, R2, L2, e2, hrel, h3, h4, ?_⟩
  simp (disch := omega) only [s233_241, s233_242, s233_243, s233_244, s233_245, s233_246, s233_247, s233_248, s233_249, s233_250, s233_251, s233_252, s233_253, s233_254, s233_255, s233_256, s233_257, ↓reduceIte, Bool.true_eq_false, Bool.false_eq_true, ip_rfS, true_or, or_true, true_and, and_true, Option.toList_some, Option.toList_none, List.cons_append, List.nil_append, ip_fxn, ip_fxi, ip_fxr, ip_fxl, ip_wid, ip_n998, ip_lt900, ip_n9, show 0 ≤ i + 1 by omega, show i + 1 < S 900 (-1) by omega, iO0, iO62, hx, hm, e1]
theorem l_8 {a : Int} (hi : 0 ≤ i) (hi2 : i + 6 ≤ S 900 (-1)) (hb : S 900 (-1) ≤ 4000) (H : r_two 74 197 [vi (S 900 (i + 1)), vi (S 900 (i + 2)), vi (S 900 (i + 3)), vi (S 900 (i + 4))] S R L (vi a) (vi a)) : l_go S R L 258 i Q := by
  obtain ⟨S1, S2, R2, L2, e1, e2, hrel, h3, h4, hx, hm⟩ := H
  refine ⟨S2, R2, L2, e2, hrel, h3, h4, ?_⟩
  simp (disch := omega) only [s233_258, s233_259, s233_260, s233_261, s233_262, s233_263, s233_264, s233_265, s233_266, s233_267, s233_268, s233_269, s233_270, s233_271, s233_272, s233_273, s233_274, s233_275, s233_276, s233_277, s233_278, s233_279, s233_280, s233_281, s233_282, s233_283, s233_284, s233_285, s233_286, s233_287, s233_288, s233_289, s233_290, s233_291, s233_292, s233_293, s233_294, s233_295, s233_296, s233_297, s233_298, s233_299, s233_300, s233_301, s233_302, s233_303, s233_304, ↓reduceIte, Bool.true_eq_false, Bool.false_eq_true, ip_rfS, true_or, or_true, true_and, and_true, Option.toList_some, Option.toList_none, List.cons_append, List.nil_append, ip_fxn, ip_fxi, ip_fxr, ip_fxl, ip_wid, ip_n998, ip_lt900, ip_n9, show 0 ≤ i + 1 by omega, show i + 1 < S 900 (-1) by omega, show 0 ≤ i + 2 by omega, show i + 2 < S 900 (-1) by omega, show 0 ≤ i + 3 by omega, show i + 3 < S 900 (-1) by omega, show 0 ≤ i + 4 by omega, show i + 4 < S 900 (-1) by omega, iO0, iO62, hx, hm, e1]
theorem l_9 {a : Int} (hi : 0 ≤ i) (hi2 : i + 6 ≤ S 900 (-1)) (hb : S 900 (-1) ≤ 4000) (H : r_two 81 203 [vi (S 900 (i + 1)), vi (S 900 (i + 2)), vi (S 900 (i + 3))] S R L (vi a) (vi a)) : l_go S R L 305 i Q := by
  obtain ⟨S1, S2, R2, L2, e1, e2, hrel, h3, h4, hx, hm⟩ := H
  refine ⟨S2, R2, L2, e2, hrel, h3, h4, ?_⟩
  simp (disch := omega) only [s233_305, s233_306, s233_307, s233_308, s233_309, s233_310, s233_311, s233_312, s233_313, s233_314, s233_315, s233_316, s233_317, s233_318, s233_319, s233_320, s233_321, s233_322, s233_323, s233_324, s233_325, s233_326, s233_327, s233_328, s233_329, s233_330, s233_331, s233_332, s233_333, s233_334, s233_335, s233_336, s233_337, s233_338, s233_339, s233_340, s233_341, ↓reduceIte, Bool.true_eq_false, Bool.false_eq_true, ip_rfS, true_or, or_true, true_and, and_true, Option.toList_some, Option.toList_none, List.cons_append, List.nil_append, ip_fxn, ip_fxi, ip_fxr, ip_fxl, ip_wid, ip_n998, ip_lt900, ip_n9, show 0 ≤ i + 1 by omega, show i + 1 < S 900 (-1) by omega, show 0 ≤ i + 2 by omega, show i + 2 < S 900 (-1) by omega, show 0 ≤ i + 3 by omega, show i + 3 < S 900 (-1) by omega, iO0, iO62, hx, hm, e1]
theorem l_10 {a : Int} (hi : 0 ≤ i) (hi2 : i + 6 ≤ S 900 (-1)) (hb : S 900 (-1) ≤ 4000) (H : r_two 84 205 [vi (S 900 (i + 1)), vi (S 900 (i + 2))] S R L (vi a) (vi a)) : l_go S R L 342 i Q := by
  obtain ⟨S1, S2, R2, L2, e1, e2, hrel, h3, h4, hx, hm⟩ := H
  refine ⟨S2, R2, L2, e2, hrel, h3, h4, ?_⟩
  simp (disch := omega) only [s233_342, s233_343, s233_344, s233_345, s233_346, s233_347, s233_348, s233_349, s233_350, s233_351, s233_352, s233_353, s233_354, s233_355, s233_356, s233_357, s233_358, s233_359, s233_360, s233_361, s233_362, s233_363, s233_364, s233_365, s233_366, s233_367, s233_368, ↓reduceIte, Bool.true_eq_false, Bool.false_eq_true, ip_rfS, true_or, or_true, true_and, and_true, Option.toList_some, Option.toList_none, List.cons_append, List.nil_append, ip_fxn, ip_fxi, ip_fxr, ip_fxl, ip_wid, ip_n998, ip_lt900, ip_n9, show 0 ≤ i + 1 by omega, show i + 1 < S 900 (-1) by omega, show 0 ≤ i + 2 by omega, show i + 2 < S 900 (-1) by omega, iO0, iO62, hx, hm, e1]
theorem l_11 {a : Int} (hi : 0 ≤ i) (hi2 : i + 6 ≤ S 900 (-1)) (hb : S 900 (-1) ≤ 4000) (H : r_two 85 206 [vi (S 900 (i + 1)), vi (S 900 (i + 2)), vi (S 900 (i + 3))] S R L (vi a) (vi a)) : l_go S R L 369 i Q := by
  obtain ⟨S1, S2, R2, L2, e1, e2, hrel, h3, h4, hx, hm⟩ := H
  refine ⟨S2, R2, L2, e2, hrel, h3, h4, ?_⟩
  simp (disch := omega) only [s233_369, s233_370, s233_371, s233_372, s233_373, s233_374, s233_375, s233_376, s233_377, s233_378, s233_379, s233_380, s233_381, s233_382, s233_383, s233_384, s233_385, s233_386, s233_387, s233_388, s233_389, s233_390, s233_391, s233_392, s233_393, s233_394, s233_395, s233_396, s233_397, s233_398, s233_399, s233_400, s233_401, s233_402, s233_403, s233_404, s233_405, ↓reduceIte, Bool.true_eq_false, Bool.false_eq_true, ip_rfS, true_or, or_true, true_and, and_true, Option.toList_some, Option.toList_none, List.cons_append, List.nil_append, ip_fxn, ip_fxi, ip_fxr, ip_fxl, ip_wid, ip_n998, ip_lt900, ip_n9, show 0 ≤ i + 1 by omega, show i + 1 < S 900 (-1) by omega, show 0 ≤ i + 2 by omega, show i + 2 < S 900 (-1) by omega, show 0 ≤ i + 3 by omega, show i + 3 < S 900 (-1) by omega, iO0, iO62, hx, hm, e1]
theorem l_12 {a : Int} (hi : 0 ≤ i) (hi2 : i + 6 ≤ S 900 (-1)) (hb : S 900 (-1) ≤ 4000) (H : r_two 88 208 [vi (S 900 (i + 1)), vi (S 900 (i + 2))] S R L (vi a) (vi a)) : l_go S R L 406 i Q := by
  obtain ⟨S1, S2, R2, L2, e1, e2, hrel, h3, h4, hx, hm⟩ := H
  refine ⟨S2, R2, L2, e2, hrel, h3, h4, ?_⟩
  simp (disch := omega) only [s233_406, s233_407, s233_408, s233_409, s233_410, s233_411, s233_412, s233_413, s233_414, s233_415, s233_416, s233_417, s233_418, s233_419, s233_420, s233_421, s233_422, s233_423, s233_424, s233_425, s233_426, s233_427, s233_428, s233_429, s233_430, s233_431, s233_432, ↓reduceIte, Bool.true_eq_false, Bool.false_eq_true, ip_rfS, true_or, or_true, true_and, and_true, Option.toList_some, Option.toList_none, List.cons_append, List.nil_append, ip_fxn, ip_fxi, ip_fxr, ip_fxl, ip_wid, ip_n998, ip_lt900, ip_n9, show 0 ≤ i + 1 by omega, show i + 1 < S 900 (-1) by omega, show 0 ≤ i + 2 by omega, show i + 2 < S 900 (-1) by omega, iO0, iO62, hx, hm, e1]
theorem l_13 {a : Int} (hi : 0 ≤ i) (hi2 : i + 6 ≤ S 900 (-1)) (hb : S 900 (-1) ≤ 4000) (H : r_two 89 209 [vi (S 900 (i + 1)), vi (S 900 (i + 2))] S R L (vi a) (vi a)) : l_go S R L 433 i Q := by
  obtain ⟨S1, S2, R2, L2, e1, e2, hrel, h3, h4, hx, hm⟩ := H
  refine ⟨S2, R2, L2, e2, hrel, h3, h4, ?_⟩
  simp (disch := omega) only [s233_433, s233_434, s233_435, s233_436, s233_437, s233_438, s233_439, s233_440, s233_441, s233_442, s233_443, s233_444, s233_445, s233_446, s233_447, s233_448, s233_449, s233_450, s233_451, s233_452, s233_453, s233_454, s233_455, s233_456, s233_457, s233_458, s233_459, ↓reduceIte, Bool.true_eq_false, Bool.false_eq_true, ip_rfS, true_or, or_true, true_and, and_true, Option.toList_some, Option.toList_none, List.cons_append, List.nil_append, ip_fxn, ip_fxi, ip_fxr, ip_fxl, ip_wid, ip_n998, ip_lt900, ip_n9, show 0 ≤ i + 1 by omega, show i + 1 < S 900 (-1) by omega, show 0 ≤ i + 2 by omega, show i + 2 < S 900 (-1) by omega, iO0, iO62, hx, hm, e1]
theorem l_14 {a : Int} (hi : 0 ≤ i) (hi2 : i + 6 ≤ S 900 (-1)) (hb : S 900 (-1) ≤ 4000) (H : r_two 94 213 [vi (S 900 (i + 1)), vi (S 900 (i + 2)), vi (S 900 (i + 3)), vi (S 900 (i + 4))] S R L (vi a) (vi a)) : l_go S R L 460 i Q := by
  obtain ⟨S1, S2, R2, L2, e1, e2, hrel, h3, h4, hx, hm⟩ := H
  refine ⟨S2, R2, L2, e2, hrel, h3, h4, ?_⟩
  simp (disch := omega) only [s233_460, s233_461, s233_462, s233_463, s233_464, s233_465, s233_466, s233_467, s233_468, s233_469, s233_470, s233_471, s233_472, s233_473, s233_474, s233_475, s233_476, s233_477, s233_478, s233_479, s233_480, s233_481, s233_482, s233_483, s233_484, s233_485, s233_486, s233_487, s233_488, s233_489, s233_490, s233_491, s233_492, s233_493, s233_494, s233_495, s233_496, s233_497, s233_498, s233_499, s233_500, s233_501, s233_502, s233_503, s233_504, s233_505, s233_506, ↓reduceIte, Bool.true_eq_false, Bool.false_eq_true, ip_rfS, true_or, or_true, true_and, and_true, Option.toList_some, Option.toList_none, List.cons_append, List.nil_append, ip_fxn, ip_fxi, ip_fxr, ip_fxl, ip_wid, ip_n998, ip_lt900, ip_n9, show 0 ≤ i + 1 by omega, show i + 1 < S 900 (-1) by omega, show 0 ≤ i + 2 by omega, show i + 2 < S 900 (-1) by omega, show 0 ≤ i + 3 by omega, show i + 3 < S 900 (-1) by omega, show 0 ≤ i + 4 by omega, show i + 4 < S 900 (-1) by omega, iO0, iO62, hx, hm, e1]
theorem l_15 {a : Int} (hi : 0 ≤ i) (hi2 : i + 6 ≤ S 900 (-1)) (hb : S 900 (-1) ≤ 4000) (H : r_two 96 214 [vi (S 900 (i + 1)), vi (S 900 (i + 2)), vi (S 900 (i + 3)), vi (S 900 (i + 4))] S R L (vi a) (vi a)) : l_go S R L 507 i Q := by
  obtain ⟨S1, S2, R2, L2, e1, e2, hrel, h3, h4, hx, hm⟩ := H
  refine ⟨S2, R2, L2, e2, hrel, h3, h4, ?_⟩
  simp (disch := omega) only [s233_507, s233_508, s233_509, s233_510, s233_511, s233_512, s233_513, s233_514, s233_515, s233_516, s233_517, s233_518, s233_519, s233_520, s233_521, s233_522, s233_523, s233_524, s233_525, s233_526, s233_527, s233_528, s233_529, s233_530, s233_531, s233_532, s233_533, s233_534, s233_535, s233_536, s233_537, s233_538, s233_539, s233_540, s233_541, s233_542, s233_543, s233_544, s233_545, s233_546, s233_547, s233_548, s233_549, s233_550, s233_551, s233_552, s233_553, ↓reduceIte, Bool.true_eq_false, Bool.false_eq_true, ip_rfS, true_or, or_true, true_and, and_true, Option.toList_some, Option.toList_none, List.cons_append, List.nil_append, ip_fxn, ip_fxi, ip_fxr, ip_fxl, ip_wid, ip_n998, ip_lt900, ip_n9, show 0 ≤ i + 1 by omega, show i + 1 < S 900 (-1) by omega, show 0 ≤ i + 2 by omega, show i + 2 < S 900 (-1) by omega, show 0 ≤ i + 3 by omega, show i + 3 < S 900 (-1) by omega, show 0 ≤ i + 4 by omega, show i + 4 < S 900 (-1) by omega, iO0, iO62, hx, hm, e1]
theorem l_16 {a : Int} (hi : 0 ≤ i) (hi2 : i + 6 ≤ S 900 (-1)) (hb : S 900 (-1) ≤ 4000) (H : r_two 102 219 [vi (S 900 (i + 1)), vi (S 900 (i + 2)), vi (S 900 (i + 3)), vi (S 900 (i + 4))] S R L (vi a) (vi a)) : l_go S R L 554 i Q := by
  obtain ⟨S1, S2, R2, L2, e1, e2, hrel, h3, h4, hx, hm⟩ := H
  refine ⟨S2, R2, L2, e2, hrel, h3, h4, ?_⟩
  simp (disch := omega) only [s233_554, s233_555, s233_556, s233_557, s233_558, s233_559, s233_560, s233_561, s233_562, s233_563, s233_564, s233_565, s233_566, s233_567, s233_568, s233_569, s233_570, s233_571, s233_572, s233_573, s233_574, s233_575, s233_576, s233_577, s233_578, s233_579, s233_580, s233_581, s233_582, s233_583, s233_584, s233_585, s233_586, s233_587, s233_588, s233_589, s233_590, s233_591, s233_592, s233_593, s233_594, s233_595, s233_596, s233_597, s233_598, s233_599, s233_600, ↓reduceIte, Bool.true_eq_false, Bool.false_eq_true, ip_rfS, true_or, or_true, true_and, and_true, Option.toList_some, Option.toList_none, List.cons_append, List.nil_append, ip_fxn, ip_fxi, ip_fxr, ip_fxl, ip_wid, ip_n998, ip_lt900, ip_n9, show 0 ≤ i + 1 by omega, show i + 1 < S 900 (-1) by omega, show 0 ≤ i + 2 by omega, show i + 2 < S 900 (-1) by omega, show 0 ≤ i + 3 by omega, show i + 3 < S 900 (-1) by omega, show 0 ≤ i + 4 by omega, show i + 4 < S 900 (-1) by omega, iO0, iO62, hx, hm, e1]
theorem l_17 {a : Int} (hi : 0 ≤ i) (hi2 : i + 6 ≤ S 900 (-1)) (hb : S 900 (-1) ≤ 4000) (H : r_two 105 221 [vi (S 900 (i + 1)), vi (S 900 (i + 2)), vi (S 900 (i + 3))] S R L (vi a) (vi a)) : l_go S R L 601 i Q := by
  obtain ⟨S1, S2, R2, L2, e1, e2, hrel, h3, h4, hx, hm⟩ := H
  refine ⟨S2, R2, L2, e2, hrel, h3, h4, ?_⟩
  simp (disch := omega) only [s233_601, s233_602, s233_603, s233_604, s233_605, s233_606, s233_607, s233_608, s233_609, s233_610, s233_611, s233_612, s233_613, s233_614, s233_615, s233_616, s233_617, s233_618, s233_619, s233_620, s233_621, s233_622, s233_623, s233_624, s233_625, s233_626, s233_627, s233_628, s233_629, s233_630, s233_631, s233_632, s233_633, s233_634, s233_635, s233_636, s233_637, ↓reduceIte, Bool.true_eq_false, Bool.false_eq_true, ip_rfS, true_or, or_true, true_and, and_true, Option.toList_some, Option.toList_none, List.cons_append, List.nil_append, ip_fxn, ip_fxi, ip_fxr, ip_fxl, ip_wid, ip_n998, ip_lt900, ip_n9, show 0 ≤ i + 1 by omega, show i + 1 < S 900 (-1) by omega, show 0 ≤ i + 2 by omega, show i + 2 < S 900 (-1) by omega, show 0 ≤ i + 3 by omega, show i + 3 < S 900 (-1) by omega, iO0, iO62, hx, hm, e1]
theorem l_18 {a : Int} (hi : 0 ≤ i) (hi2 : i + 6 ≤ S 900 (-1)) (hb : S 900 (-1) ≤ 4000) (H : r_two 109 224 [vi (S 900 (i + 1)), vi (S 900 (i + 2)), vi (S 900 (i + 3)), vi (S 900 (i + 4))] S R L (vl a) (vl a)) : l_go S R L 638 i Q := by
  obtain ⟨S1, S2, R2, L2, e1, e2, hrel, h3, h4, hx, hm⟩ := H
  refine ⟨S2, R2, L2, e2, hrel, h3, h4, ?_⟩
  simp (disch := omega) only [s233_638, s233_639, s233_640, s233_641, s233_642, s233_643, s233_644, s233_645, s233_646, s233_647, s233_648, s233_649, s233_650, s233_651, s233_652, s233_653, s233_654, s233_655, s233_656, s233_657, s233_658, s233_659, s233_660, s233_661, s233_662, s233_663, s233_664, s233_665, s233_666, s233_667, s233_668, s233_669, s233_670, s233_671, s233_672, s233_673, s233_674, s233_675, s233_676, s233_677, s233_678, s233_679, s233_680, s233_681, s233_682, s233_683, s233_684, ↓reduceIte, Bool.true_eq_false, Bool.false_eq_true, ip_rfS, true_or, or_true, true_and, and_true, Option.toList_some, Option.toList_none, List.cons_append, List.nil_append, ip_fxn, ip_fxi, ip_fxr, ip_fxl, ip_wid, ip_n998, ip_lt900, ip_n9, show 0 ≤ i + 1 by omega, show i + 1 < S 900 (-1) by omega, show 0 ≤ i + 2 by omega, show i + 2 < S 900 (-1) by omega, show 0 ≤ i + 3 by omega, show i + 3 < S 900 (-1) by omega, show 0 ≤ i + 4 by omega, show i + 4 < S 900 (-1) by omega, iO0, iO62, hx, hm, e1]
theorem l_19 {a : Int} (hi : 0 ≤ i) (hi2 : i + 6 ≤ S 900 (-1)) (hb : S 900 (-1) ≤ 4000) (H : r_two 111 225 [] S R L (vi a) (vi a)) : l_go S R L 685 i Q := by
  obtain ⟨S1, S2, R2, L2, e1, e2, hrel, h3, h4, hx, hm⟩ := H
  refine ⟨S2, R2, L2, e2, hrel, h3, h4, ?_⟩
  simp (disch := omega) only [s233_685, s233_686, s233_687, s233_688, s233_689, s233_690, s233_691, ↓reduceIte, Bool.true_eq_false, Bool.false_eq_true, ip_rfS, true_or, or_true, true_and, and_true, Option.toList_some, Option.toList_none, List.cons_append, List.nil_append, ip_fxn, ip_fxi, ip_fxr, ip_fxl, ip_wid, ip_n998, ip_lt900, ip_n9, true_and, iO0, iO62, hx, hm, e1]
theorem l_20 {a : Int} (hi : 0 ≤ i) (hi2 : i + 6 ≤ S 900 (-1)) (hb : S 900 (-1) ≤ 4000) (H : r_two 113 226 [] S R L (vi a) (vi a)) : l_go S R L 692 i Q := by
  obtain ⟨S1, S2, R2, L2, e1, e2, hrel, h3, h4, hx, hm⟩ := H
  refine ⟨S2, R2, L2, e2, hrel, h3, h4, ?_⟩
  simp (disch := omega) only [s233_692, s233_693, s233_694, s233_695, s233_696, s233_697, s233_698, ↓reduceIte, Bool.true_eq_false, Bool.false_eq_true, ip_rfS, true_or, or_true, true_and, and_true, Option.toList_some, Option.toList_none, List.cons_append, List.nil_append, ip_fxn, ip_fxi, ip_fxr, ip_fxl, ip_wid, ip_n998, ip_lt900, ip_n9, true_and, iO0, iO62, hx, hm, e1]
theorem l_21 {a a' : Int} (hi : 0 ≤ i) (hi2 : i + 6 ≤ S 900 (-1)) (hb : S 900 (-1) ≤ 4000) (H : r_two 114 227 [vi (S 900 (i + 1))] S R L (vi a) (vi a')) : l_go S R L 699 i Q := by
  obtain ⟨S1, S2, R2, L2, e1, e2, hrel, h3, h4, hx, hm⟩ := H
  refine ⟨S2, R2, L2, e2, hrel, h3, h4, ?_⟩
  simp (disch := omega) only [s233_699, s233_700, s233_701, s233_702, s233_703, s233_704, s233_705, s233_706, s233_707, s233_708, s233_709, s233_710, s233_711, s233_712, s233_713, s233_714, s233_715, ↓reduceIte, Bool.true_eq_false, Bool.false_eq_true, ip_rfS, true_or, or_true, true_and, and_true, Option.toList_some, Option.toList_none, List.cons_append, List.nil_append, ip_fxn, ip_fxi, ip_fxr, ip_fxl, ip_wid, ip_n998, ip_lt900, ip_n9, show 0 ≤ i + 1 by omega, show i + 1 < S 900 (-1) by omega, iO0, iO62, hx, hm, e1]
theorem l_22 {a : Int} (hi : 0 ≤ i) (hi2 : i + 6 ≤ S 900 (-1)) (hb : S 900 (-1) ≤ 4000) (H : r_two 117 220 [vi (S 900 (i + 1)), vi (S 900 (i + 2)), vi (S 900 (i + 3))] S R L (vi a) (vi a)) : l_go S R L 716 i Q := by
  obtain ⟨S1, S2, R2, L2, e1, e2, hrel, h3, h4, hx, hm⟩ := H
  refine ⟨S2, R2, L2, e2, hrel, h3, h4, ?_⟩
  simp (disch := omega) only [s233_716, s233_717, s233_718, s233_719, s233_720, s233_721, s233_722, s233_723, s233_724, s233_725, s233_726, s233_727, s233_728, s233_729, s233_730, s233_731, s233_732, s233_733, s233_734, s233_735, s233_736, s233_737, s233_738, s233_739, s233_740, s233_741, s233_742, s233_743, s233_744, s233_745, s233_746, s233_747, s233_748, s233_749, s233_750, s233_751, s233_752, ↓reduceIte, Bool.true_eq_false, Bool.false_eq_true, ip_rfS, true_or, or_true, true_and, and_true, Option.toList_some, Option.toList_none, List.cons_append, List.nil_append, ip_fxn, ip_fxi, ip_fxr, ip_fxl, ip_wid, ip_n998, ip_lt900, ip_n9, show 0 ≤ i + 1 by omega, show i + 1 < S 900 (-1) by omega, show 0 ≤ i + 2 by omega, show i + 2 < S 900 (-1) by omega, show 0 ≤ i + 3 by omega, show i + 3 < S 900 (-1) by omega, iO0, iO62, hx, hm, e1]
theorem l_23 {a : Int} (hi : 0 ≤ i) (hi2 : i + 6 ≤ S 900 (-1)) (hb : S 900 (-1) ≤ 4000) (H : r_two 118 228 [vi (S 900 (i + 1)), vi (S 900 (i + 2)), vi (S 900 (i + 3))] S R L (vi a) (vi a)) : l_go S R L 753 i Q := by
  obtain ⟨S1, S2, R2, L2, e1, e2, hrel, h3, h4, hx, hm⟩ := H
  refine ⟨S2, R2, L2, e2, hrel, h3, h4, ?_⟩
  simp (disch := omega) only [s233_753, s233_754, s233_755, s233_756, s233_757, s233_758, s233_759, s233_760, s233_761, s233_762, s233_763, s233_764, s233_765, s233_766, s233_767, s233_768, s233_769, s233_770, s233_771, s233_772, s233_773, s233_774, s233_775, s233_776, s233_777, s233_778, s233_779, s233_780, s233_781, s233_782, s233_783, s233_784, s233_785, s233_786, s233_787, s233_788, s233_789, ↓reduceIte, Bool.true_eq_false, Bool.false_eq_true, ip_rfS, true_or, or_true, true_and, and_true, Option.toList_some, Option.toList_none, List.cons_append, List.nil_append, ip_fxn, ip_fxi, ip_fxr, ip_fxl, ip_wid, ip_n998, ip_lt900, ip_n9, show 0 ≤ i + 1 by omega, show i + 1 < S 900 (-1) by omega, show 0 ≤ i + 2 by omega, show i + 2 < S 900 (-1) by omega, show 0 ≤ i + 3 by omega, show i + 3 < S 900 (-1) by omega, iO0, iO62, hx, hm, e1]
theorem l_24 {a : Int} (hi : 0 ≤ i) (hi2 : i + 6 ≤ S 900 (-1)) (hb : S 900 (-1) ≤ 4000) (H : r_two 119 229 [vi (S 900 (i + 1)), vi (S 900 (i + 2)), vi (S 900 (i + 3)), vi (S 900 (i + 4)), vi (S 900 (i + 5))] S R L (vi a) (vi a)) : l_go S R L 790 i Q := by
  obtain ⟨S1, S2, R2, L2, e1, e2, hrel, h3, h4, hx, hm⟩ := H
  refine ⟨S2, R2, L2, e2, hrel, h3, h4, ?_⟩
  simp (disch := omega) only [s233_790, s233_791, s233_792, s233_793, s233_794, s233_795, s233_796, s233_797, s233_798, s233_799, s233_800, s233_801, s233_802, s233_803, s233_804, s233_805, s233_806, s233_807, s233_808, s233_809, s233_810, s233_811, s233_812, s233_813, s233_814, s233_815, s233_816, s233_817, s233_818, s233_819, s233_820, s233_821, s233_822, s233_823, s233_824, s233_825, s233_826, s233_827, s233_828, s233_829, s233_830, s233_831, s233_832, s233_833, s233_834, s233_835, s233_836, s233_837, s233_838, s233_839, s233_840, s233_841, s233_842, s233_843, s233_844, s233_845, s233_846, ↓reduceIte, Bool.true_eq_false, Bool.false_eq_true, ip_rfS, true_or, or_true, true_and, and_true, Option.toList_some, Option.toList_none, List.cons_append, List.nil_append, ip_fxn, ip_fxi, ip_fxr, ip_fxl, ip_wid, ip_n998, ip_lt900, ip_n9, show 0 ≤ i + 1 by omega, show i + 1 < S 900 (-1) by omega, show 0 ≤ i + 2 by omega, show i + 2 < S 900 (-1) by omega, show 0 ≤ i + 3 by omega, show i + 3 < S 900 (-1) by omega, show 0 ≤ i + 4 by omega, show i + 4 < S 900 (-1) by omega, show 0 ≤ i + 5 by omega, show i + 5 < S 900 (-1) by omega, iO0, iO62, hx, hm, e1]
theorem l_25 {a : Int} (hi : 0 ≤ i) (hi2 : i + 6 ≤ S 900 (-1)) (hb : S 900 (-1) ≤ 4000) (H : r_two 121 230 [vi (S 900 (i + 1)), vi (S 900 (i + 2)), vi (S 900 (i + 3)), vi (S 900 (i + 4))] S R L (vi a) (vi a)) : l_go S R L 847 i Q := by
  obtain ⟨S1, S2, R2, L2, e1, e2, hrel, h3, h4, hx, hm⟩ := H
  refine ⟨S2, R2, L2, e2, hrel, h3, h4, ?_⟩
  simp (disch := omega) only [s233_847, s233_848, s233_849, s233_850, s233_851, s233_852, s233_853, s233_854, s233_855, s233_856, s233_857, s233_858, s233_859, s233_860, s233_861, s233_862, s233_863, s233_864, s233_865, s233_866, s233_867, s233_868, s233_869, s233_870, s233_871, s233_872, s233_873, s233_874, s233_875, s233_876, s233_877, s233_878, s233_879, s233_880, s233_881, s233_882, s233_883, s233_884, s233_885, s233_886, s233_887, s233_888, s233_889, s233_890, s233_891, s233_892, s233_893, ↓reduceIte, Bool.true_eq_false, Bool.false_eq_true, ip_rfS, true_or, or_true, true_and, and_true, Option.toList_some, Option.toList_none, List.cons_append, List.nil_append, ip_fxn, ip_fxi, ip_fxr, ip_fxl, ip_wid, ip_n998, ip_lt900, ip_n9, show 0 ≤ i + 1 by omega, show i + 1 < S 900 (-1) by omega, show 0 ≤ i + 2 by omega, show i + 2 < S 900 (-1) by omega, show 0 ≤ i + 3 by omega, show i + 3 < S 900 (-1) by omega, show 0 ≤ i + 4 by omega, show i + 4 < S 900 (-1) by omega, iO0, iO62, hx, hm, e1]
theorem l_26 {a : Int} (hi : 0 ≤ i) (hi2 : i + 6 ≤ S 900 (-1)) (hb : S 900 (-1) ≤ 4000) (H : r_two 122 231 [vi (S 900 (i + 1)), vi (S 900 (i + 2))] S R L (vi a) (vi a)) : l_go S R L 894 i Q := by
  obtain ⟨S1, S2, R2, L2, e1, e2, hrel, h3, h4, hx, hm⟩ := H
  refine ⟨S2, R2, L2, e2, hrel, h3, h4, ?_⟩
  simp (disch := omega) only [s233_894, s233_895, s233_896, s233_897, s233_898, s233_899, s233_900, s233_901, s233_902, s233_903, s233_904, s233_905, s233_906, s233_907, s233_908, s233_909, s233_910, s233_911, s233_912, s233_913, s233_914, s233_915, s233_916, s233_917, s233_918, s233_919, s233_920, ↓reduceIte, Bool.true_eq_false, Bool.false_eq_true, ip_rfS, true_or, or_true, true_and, and_true, Option.toList_some, Option.toList_none, List.cons_append, List.nil_append, ip_fxn, ip_fxi, ip_fxr, ip_fxl, ip_wid, ip_n998, ip_lt900, ip_n9, show 0 ≤ i + 1 by omega, show i + 1 < S 900 (-1) by omega, show 0 ≤ i + 2 by omega, show i + 2 < S 900 (-1) by omega, iO0, iO62, hx, hm, e1]
theorem l_loop : ∀ (n : Nat) (i : Int) (S : ip_S) (R : ip_R) (L : ip_S), S 900 (-1) - i ≤ n → 0 ≤ i → i ≤ 4010 → S 900 (-1) ≤ 4000 → (0 ≤ S 900 (-1)) → (∀ k : Int, 0 ≤ k → -2147483648 ≤ S 900 k ∧ S 900 k < 2147483648) → x_rel S S → x_RX R → x_RM R →
    ip_wp 100 233 10 [some (.ref 900), some (.ref 0), some (.ref 62), some (vi i)] [] 79 S R L (fun r _ _ _ _ => r = some (.int 1))
  | n, i, S, R, L, h, hi, hi4, hb, hb0, hv, hr, hX, hM => by
    by_cases c : S 900 (-1) - 6 < i
    · simp (disch := omega) only [s233_10, s233_11, s233_12, s233_13, s233_14, s233_15, s233_923, s233_924, ↓reduceIte, Bool.true_eq_false, Bool.false_eq_true, ip_rfS, true_or, or_true, true_and, and_true, Option.toList_some, Option.toList_none, List.cons_append, List.nil_append, ip_fxn, ip_fxi, ip_fxr, ip_fxl, ip_wid, ip_n998, ip_lt900, ip_n9, c, ip_r1]
      rfl
    · match n, h with
      | 0, h => omega
      | n + 1, h =>
        have hd : ∀ (S2 : ip_S) (R2 : ip_R) (L2 : ip_S), S2 900 = S 900 → x_rel S2 S2 → x_RX R2 → x_RM R2 → ip_wp 100 233 921 [some (.ref 900), some (.ref 0), some (.ref 62), some (vi i)] [] 79 S2 R2 L2 (fun r _ _ _ _ => r = some (.int 1)) := fun S2 R2 L2 e h1 h2 h3 => by
          have ih := l_loop n (i + 6) S2 R2 L2 (by rw [e]; omega) (by omega) (by omega) (by rw [e]; exact hb) (by rw [e]; exact hb0) (by rw [e]; exact hv) h1 h2 h3
          simp (disch := omega) only [s233_921, s233_922, ↓reduceIte, Bool.true_eq_false, Bool.false_eq_true, ip_rfS, true_or, or_true, true_and, and_true, Option.toList_some, Option.toList_none, List.cons_append, List.nil_append, ip_fxn, ip_fxi, ip_fxr, ip_fxl, ip_wid, ip_n998, ip_lt900, ih]
        have hc : i + 6 ≤ S 900 (-1) := by omega
        have h0 := hv i hi
        have h1 := hv (i + 1) (by omega)
        have h2 := hv (i + 2) (by omega)
        have h3 := hv (i + 3) (by omega)
        have h4 := hv (i + 4) (by omega)
        have h5 := hv (i + 5) (by omega)
        simp (disch := omega) only [s233_10, s233_11, s233_12, s233_13, s233_14, s233_15, s233_16, s233_17, s233_18, s233_19, s233_20, ↓reduceIte, Bool.true_eq_false, Bool.false_eq_true, ip_rfS, true_or, or_true, true_and, and_true, Option.toList_some, Option.toList_none, List.cons_append, List.nil_append, ip_fxn, ip_fxi, ip_fxr, ip_fxl, ip_wid, ip_n998, ip_lt900, ip_n9, c, hi, show i < S 900 (-1) by omega, and_self, true_and]
        rw [s233_21]
        generalize ip_w (ip_and (S 900 i) 31) = v
        by_cases q0 : v = 0
        · obtain ⟨a, H⟩ := r_set (L := L) hr hX hM h1 h2 h3
          obtain ⟨S2, R2, L2, e, g1, g2, g3, g4⟩ := l_0 (Q := fun r _ _ _ _ => r = some (.int 1)) (L := L) hi hc hb H
          simp only [q0, Int.reduceEq, if_true, if_false, g4]
          exact hd S2 R2 L2 e g1 g2 g3
        by_cases q1 : v = 1
        · obtain ⟨a, H⟩ := r_road (L := L) hr hX hM h1 h2 h3
          obtain ⟨S2, R2, L2, e, g1, g2, g3, g4⟩ := l_1 (Q := fun r _ _ _ _ => r = some (.int 1)) (L := L) hi hc hb H
          simp only [q1, Int.reduceEq, if_true, if_false, g4]
          exact hd S2 R2 L2 e g1 g2 g3
        by_cases q2 : v = 2
        · obtain ⟨a, H⟩ := r_person (L := L) hr hX hM h1 h2 h3
          obtain ⟨S2, R2, L2, e, g1, g2, g3, g4⟩ := l_2 (Q := fun r _ _ _ _ => r = some (.int 1)) (L := L) hi hc hb H
          simp only [q2, Int.reduceEq, if_true, if_false, g4]
          exact hd S2 R2 L2 e g1 g2 g3
        by_cases q3 : v = 3
        · obtain ⟨a, a', H, -⟩ := r_told (L := L) hr hX hM h1 h2
          obtain ⟨S2, R2, L2, e, g1, g2, g3, g4⟩ := l_3 (Q := fun r _ _ _ _ => r = some (.int 1)) (L := L) hi hc hb H
          simp only [q3, Int.reduceEq, if_true, if_false, g4]
          exact hd S2 R2 L2 e g1 g2 g3
        by_cases q4 : v = 4
        · have H := r_asks (L := L) hr hX hM h1 h2 h3 h4 h5
          obtain ⟨S2, R2, L2, e, g1, g2, g3, g4⟩ := l_4 (Q := fun r _ _ _ _ => r = some (.int 1)) (L := L) hi hc hb H
          simp only [q4, Int.reduceEq, if_true, if_false, g4]
          exact hd S2 R2 L2 e g1 g2 g3
        by_cases q5 : v = 5
        · obtain ⟨a, H⟩ := r_feed (L := L) hr hX hM h1
          obtain ⟨S2, R2, L2, e, g1, g2, g3, g4⟩ := l_5 (Q := fun r _ _ _ _ => r = some (.int 1)) (L := L) hi hc hb H
          simp only [q5, Int.reduceEq, if_true, if_false, g4]
          exact hd S2 R2 L2 e g1 g2 g3
        by_cases q6 : v = 6
        · obtain ⟨a, H⟩ := r_text (L := L) hr hX hM
          obtain ⟨S2, R2, L2, e, g1, g2, g3, g4⟩ := l_6 (Q := fun r _ _ _ _ => r = some (.int 1)) (L := L) hi hc hb H
          simp only [q6, Int.reduceEq, if_true, if_false, g4]
          exact hd S2 R2 L2 e g1 g2 g3
        by_cases q7 : v = 7
        · obtain ⟨a, H⟩ := r_force (L := L) hr hX hM h1
          obtain ⟨S2, R2, L2, e, g1, g2, g3, g4⟩ := l_7 (Q := fun r _ _ _ _ => r = some (.int 1)) (L := L) hi hc hb H
          simp only [q7, Int.reduceEq, if_true, if_false, g4]
          exact hd S2 R2 L2 e g1 g2 g3
        by_cases q8 : v = 8
        · have H := r_ride (L := L) hr hX hM h1 h2 h3 h4
          obtain ⟨S2, R2, L2, e, g1, g2, g3, g4⟩ := l_8 (Q := fun r _ _ _ _ => r = some (.int 1)) (L := L) hi hc hb H
          simp only [q8, Int.reduceEq, if_true, if_false, g4]
          exact hd S2 R2 L2 e g1 g2 g3
        by_cases q9 : v = 9
        · have H := r_goes (L := L) hr hX hM h1 h2 h3
          obtain ⟨S2, R2, L2, e, g1, g2, g3, g4⟩ := l_9 (Q := fun r _ _ _ _ => r = some (.int 1)) (L := L) hi hc hb H
          simp only [q9, Int.reduceEq, if_true, if_false, g4]
          exact hd S2 R2 L2 e g1 g2 g3
        by_cases q10 : v = 10
        · obtain ⟨a, H⟩ := r_far (L := L) hr hX hM h1 h2
          obtain ⟨S2, R2, L2, e, g1, g2, g3, g4⟩ := l_10 (Q := fun r _ _ _ _ => r = some (.int 1)) (L := L) hi hc hb H
          simp only [q10, Int.reduceEq, if_true, if_false, g4]
          exact hd S2 R2 L2 e g1 g2 g3
        by_cases q11 : v = 11
        · have H := r_best (L := L) hr hX hM h1 h2 h3
          obtain ⟨S2, R2, L2, e, g1, g2, g3, g4⟩ := l_11 (Q := fun r _ _ _ _ => r = some (.int 1)) (L := L) hi hc hb H
          simp only [q11, Int.reduceEq, if_true, if_false, g4]
          exact hd S2 R2 L2 e g1 g2 g3
        by_cases q12 : v = 12
        · have H := r_from (L := L) hr hX hM h1 h2
          obtain ⟨S2, R2, L2, e, g1, g2, g3, g4⟩ := l_12 (Q := fun r _ _ _ _ => r = some (.int 1)) (L := L) hi hc hb H
          simp only [q12, Int.reduceEq, if_true, if_false, g4]
          exact hd S2 R2 L2 e g1 g2 g3
        by_cases q13 : v = 13
        · have H := r_together (L := L) hr hX hM h1 h2
          obtain ⟨S2, R2, L2, e, g1, g2, g3, g4⟩ := l_13 (Q := fun r _ _ _ _ => r = some (.int 1)) (L := L) hi hc hb H
          simp only [q13, Int.reduceEq, if_true, if_false, g4]
          exact hd S2 R2 L2 e g1 g2 g3
        by_cases q14 : v = 14
        · have H := r_shut (L := L) hr hX hM h1 h2 h3 h4
          obtain ⟨S2, R2, L2, e, g1, g2, g3, g4⟩ := l_14 (Q := fun r _ _ _ _ => r = some (.int 1)) (L := L) hi hc hb H
          simp only [q14, Int.reduceEq, if_true, if_false, g4]
          exact hd S2 R2 L2 e g1 g2 g3
        by_cases q15 : v = 15
        · obtain ⟨a, H⟩ := r_tells (L := L) hr hX hM h1 h2 h3 h4
          obtain ⟨S2, R2, L2, e, g1, g2, g3, g4⟩ := l_15 (Q := fun r _ _ _ _ => r = some (.int 1)) (L := L) hi hc hb H
          simp only [q15, Int.reduceEq, if_true, if_false, g4]
          exact hd S2 R2 L2 e g1 g2 g3
        by_cases q16 : v = 16
        · obtain ⟨a, H⟩ := r_film (L := L) hr hX hM h1 h2 h3 h4
          obtain ⟨S2, R2, L2, e, g1, g2, g3, g4⟩ := l_16 (Q := fun r _ _ _ _ => r = some (.int 1)) (L := L) hi hc hb H
          simp only [q16, Int.reduceEq, if_true, if_false, g4]
          exact hd S2 R2 L2 e g1 g2 g3
        by_cases q17 : v = 17
        · have H := r_drawn (L := L) hr hX hM h1 h2 h3
          obtain ⟨S2, R2, L2, e, g1, g2, g3, g4⟩ := l_17 (Q := fun r _ _ _ _ => r = some (.int 1)) (L := L) hi hc hb H
          simp only [q17, Int.reduceEq, if_true, if_false, g4]
          exact hd S2 R2 L2 e g1 g2 g3
        by_cases q18 : v = 18
        · have H := r_chance (L := L) hr hX hM h1 h2 h3 h4
          obtain ⟨S2, R2, L2, e, g1, g2, g3, g4⟩ := l_18 (Q := fun r _ _ _ _ => r = some (.int 1)) (L := L) hi hc hb H
          simp only [q18, Int.reduceEq, if_true, if_false, g4]
          exact hd S2 R2 L2 e g1 g2 g3
        by_cases q19 : v = 19
        · obtain ⟨a, H⟩ := r_image (L := L) hr hX hM
          obtain ⟨S2, R2, L2, e, g1, g2, g3, g4⟩ := l_19 (Q := fun r _ _ _ _ => r = some (.int 1)) (L := L) hi hc hb H
          simp only [q19, Int.reduceEq, if_true, if_false, g4]
          exact hd S2 R2 L2 e g1 g2 g3
        by_cases q20 : v = 20
        · obtain ⟨a, H⟩ := r_back (L := L) hr hX hM
          obtain ⟨S2, R2, L2, e, g1, g2, g3, g4⟩ := l_20 (Q := fun r _ _ _ _ => r = some (.int 1)) (L := L) hi hc hb H
          simp only [q20, Int.reduceEq, if_true, if_false, g4]
          exact hd S2 R2 L2 e g1 g2 g3
        by_cases q21 : v = 21
        · obtain ⟨a, a', H, -⟩ := r_count (L := L) hr hX hM h1
          obtain ⟨S2, R2, L2, e, g1, g2, g3, g4⟩ := l_21 (Q := fun r _ _ _ _ => r = some (.int 1)) (L := L) hi hc hb H
          simp only [q21, Int.reduceEq, if_true, if_false, g4]
          exact hd S2 R2 L2 e g1 g2 g3
        by_cases q22 : v = 22
        · obtain ⟨a, H⟩ := r_sheet (L := L) hr hX hM h1 h2 h3
          obtain ⟨S2, R2, L2, e, g1, g2, g3, g4⟩ := l_22 (Q := fun r _ _ _ _ => r = some (.int 1)) (L := L) hi hc hb H
          simp only [q22, Int.reduceEq, if_true, if_false, g4]
          exact hd S2 R2 L2 e g1 g2 g3
        by_cases q23 : v = 23
        · obtain ⟨a, H⟩ := r_cell (L := L) hr hX hM h1 h2 h3
          obtain ⟨S2, R2, L2, e, g1, g2, g3, g4⟩ := l_23 (Q := fun r _ _ _ _ => r = some (.int 1)) (L := L) hi hc hb H
          simp only [q23, Int.reduceEq, if_true, if_false, g4]
          exact hd S2 R2 L2 e g1 g2 g3
        by_cases q24 : v = 24
        · obtain ⟨a, H⟩ := r_copy (L := L) hr hX hM h1 h2 h3 h4 h5
          obtain ⟨S2, R2, L2, e, g1, g2, g3, g4⟩ := l_24 (Q := fun r _ _ _ _ => r = some (.int 1)) (L := L) hi hc hb H
          simp only [q24, Int.reduceEq, if_true, if_false, g4]
          exact hd S2 R2 L2 e g1 g2 g3
        by_cases q25 : v = 25
        · obtain ⟨a, H⟩ := r_people (L := L) hr hX hM h1 h2 h3 h4
          obtain ⟨S2, R2, L2, e, g1, g2, g3, g4⟩ := l_25 (Q := fun r _ _ _ _ => r = some (.int 1)) (L := L) hi hc hb H
          simp only [q25, Int.reduceEq, if_true, if_false, g4]
          exact hd S2 R2 L2 e g1 g2 g3
        by_cases q26 : v = 26
        · obtain ⟨a, H⟩ := r_taken (L := L) hr hX hM h1 h2
          obtain ⟨S2, R2, L2, e, g1, g2, g3, g4⟩ := l_26 (Q := fun r _ _ _ _ => r = some (.int 1)) (L := L) hi hc hb H
          simp only [q26, Int.reduceEq, if_true, if_false, g4]
          exact hd S2 R2 L2 e g1 g2 g3
        simp only [q0, q1, q2, q3, q4, q5, q6, q7, q8, q9, q10, q11, q12, q13, q14, q15, q16, q17, q18, q19, q20, q21, q22, q23, q24, q25, q26, if_false]
        exact hd S R L rfl hr hX hM
end LAW
theorem m_law {L : Nat} {xs : Nat → Int32} (hL : L ≤ 3072) : ip_wp 100 233 0 [some (.ref 900), none, none, none] [] 0 (ip_S0 (ip_fsc L xs)) (fun _ _ => none) (fun _ _ => 0) (fun r _ _ _ _ => r = some (.int 1)) := by
  have hZ : ∀ a : Nat, a < 79 → ip_S0 (ip_fsc L xs) a = fun _ => 0 := fun a h => by funext k; exact if_neg (by omega)
  have h900 : ∀ k, ip_S0 (ip_fsc L xs) 900 k = ip_fsc L xs k := fun k => if_pos rfl
  generalize hS : ip_S0 (ip_fsc L xs) = S at *
  have hr := x_rel0 hZ
  have g0 := fun Q' => p0 (d := 47) (S := S) (R := fun _ _ => none) (L := fun _ _ => 0) (Q := Q') hZ
  have g1 := fun Q' => p124 (d := 98) (S := m_S0 S) (R := m_R0 (fun _ _ => none)) (L := fun _ _ => 0) (Q := Q')
  have e900 : m_Sn (m_S0 S) 900 = S 900 := m_0f (by omega)
  have hX := x_RX0
  have hM := x_RM0
  generalize m_Sn (m_S0 S) = S0 at *
  generalize m_RM0 (m_R0 (fun _ _ => none)) = R0 at *
  have hlen : S0 900 (-1) = (L : Int) := by rw [e900, h900]; rfl
  have key := l_loop L 0 S0 R0 (fun _ _ => 0) (by rw [hlen]; omega) (by omega) (by omega) (by rw [hlen]; omega) (by rw [hlen]; omega) (fun k hk => by
    rw [e900, h900]
    unfold ip_fsc
    rw [if_neg (by omega)]
    exact ⟨Int32.le_toInt _, Int32.toInt_lt _⟩) hr hX hM
  simp (disch := omega) only [s233_0, s233_1, s233_2, s233_3, s233_4, s233_5, s233_6, s233_7, s233_8, s233_9, ↓reduceIte, Bool.true_eq_false, Bool.false_eq_true, ip_rfS, true_or, or_true, true_and, and_true, Option.toList_some, Option.toList_none, List.cons_append, List.nil_append, ip_fxn, ip_fxi, ip_fxr, ip_fxl, ip_wid, ip_n998, ip_lt900, kN0, kN62, ip_n9, Nat.zero_add, Nat.reduceAdd, g0, g1, key]

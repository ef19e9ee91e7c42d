/-! the calls -/
set_option maxRecDepth 20000 in
theorem tMs_len : tMs.length = 344 := by decide +kernel
set_option maxRecDepth 100000 in
theorem gN : ∀ e ∈ tMs, mGM e := List.forall_mem_cons.mpr ⟨gN_0, List.forall_mem_cons.mpr ⟨gN_1, List.forall_mem_cons.mpr ⟨gN_2, List.forall_mem_cons.mpr ⟨gN_3, List.forall_mem_cons.mpr ⟨gN_4, List.forall_mem_cons.mpr ⟨gN_5, List.forall_mem_cons.mpr ⟨gN_6, List.forall_mem_cons.mpr ⟨gN_7, List.forall_mem_cons.mpr ⟨gN_8, List.forall_mem_cons.mpr ⟨gN_9, List.forall_mem_cons.mpr ⟨gN_10, List.forall_mem_cons.mpr ⟨gN_11, List.forall_mem_cons.mpr ⟨gN_12, List.forall_mem_cons.mpr ⟨gN_13, List.forall_mem_cons.mpr ⟨gN_14, List.forall_mem_cons.mpr ⟨gN_15, List.forall_mem_cons.mpr ⟨gN_16, List.forall_mem_cons.mpr ⟨gN_17, List.forall_mem_cons.mpr ⟨gN_18, List.forall_mem_cons.mpr ⟨gN_19, List.forall_mem_cons.mpr ⟨gN_20, List.forall_mem_cons.mpr ⟨gN_21, List.forall_mem_cons.mpr ⟨gN_22, List.forall_mem_cons.mpr ⟨gN_23, List.forall_mem_cons.mpr ⟨gN_24, List.forall_mem_cons.mpr ⟨gN_25, List.forall_mem_cons.mpr ⟨gN_26, List.forall_mem_cons.mpr ⟨gN_27, List.forall_mem_cons.mpr ⟨gN_28, List.forall_mem_cons.mpr ⟨gN_29, List.forall_mem_cons.mpr ⟨gN_30, List.forall_mem_cons.mpr ⟨gN_31, List.forall_mem_cons.mpr ⟨gN_32, List.forall_mem_cons.mpr ⟨gN_33, List.forall_mem_cons.mpr ⟨gN_34, List.forall_mem_cons.mpr ⟨gN_35, List.forall_mem_cons.mpr ⟨gN_36, List.forall_mem_cons.mpr ⟨gN_37, List.forall_mem_cons.mpr ⟨gN_38, List.forall_mem_cons.mpr ⟨gN_39, List.forall_mem_cons.mpr ⟨gN_40, List.forall_mem_cons.mpr ⟨gN_41, List.forall_mem_cons.mpr ⟨gN_42, List.forall_mem_cons.mpr ⟨gN_43, List.forall_mem_cons.mpr ⟨gN_44, List.forall_mem_cons.mpr ⟨gN_45, List.forall_mem_cons.mpr ⟨gN_46, List.forall_mem_cons.mpr ⟨gN_47, List.forall_mem_cons.mpr ⟨gN_48, List.forall_mem_cons.mpr ⟨gN_49, List.forall_mem_cons.mpr ⟨gN_50, List.forall_mem_cons.mpr ⟨gN_51, List.forall_mem_cons.mpr ⟨gN_52, List.forall_mem_cons.mpr ⟨gN_53, List.forall_mem_cons.mpr ⟨gN_54, List.forall_mem_cons.mpr ⟨gN_55, List.forall_mem_cons.mpr ⟨gN_56, List.forall_mem_cons.mpr ⟨gN_57, List.forall_mem_cons.mpr ⟨gN_58, List.forall_mem_cons.mpr ⟨gN_59, List.forall_mem_cons.mpr ⟨gN_60, List.forall_mem_cons.mpr ⟨gN_61, List.forall_mem_cons.mpr ⟨gN_62, List.forall_mem_cons.mpr ⟨gN_63, List.forall_mem_cons.mpr ⟨gN_64, List.forall_mem_cons.mpr ⟨gN_65, List.forall_mem_cons.mpr ⟨gN_66, List.forall_mem_cons.mpr ⟨gN_67, List.forall_mem_cons.mpr ⟨gN_68, List.forall_mem_cons.mpr ⟨gN_69, List.forall_mem_cons.mpr ⟨gN_70, List.forall_mem_cons.mpr ⟨gN_71, List.forall_mem_cons.mpr ⟨gN_72, List.forall_mem_cons.mpr ⟨gN_73, List.forall_mem_cons.mpr ⟨gN_74, List.forall_mem_cons.mpr ⟨gN_75, List.forall_mem_cons.mpr ⟨gN_76, List.forall_mem_cons.mpr ⟨gN_77, List.forall_mem_cons.mpr ⟨gN_78, List.forall_mem_cons.mpr ⟨gN_79, List.forall_mem_cons.mpr ⟨gN_80, List.forall_mem_cons.mpr ⟨gN_81, List.forall_mem_cons.mpr ⟨gN_82, List.forall_mem_cons.mpr ⟨gN_83, List.forall_mem_cons.mpr ⟨gN_84, List.forall_mem_cons.mpr ⟨gN_85, List.forall_mem_cons.mpr ⟨gN_86, List.forall_mem_cons.mpr ⟨gN_87, List.forall_mem_cons.mpr ⟨gN_88, List.forall_mem_cons.mpr ⟨gN_89, List.forall_mem_cons.mpr ⟨gN_90, List.forall_mem_cons.mpr ⟨gN_91, List.forall_mem_cons.mpr ⟨gN_92, List.forall_mem_cons.mpr ⟨gN_93, List.forall_mem_cons.mpr ⟨gN_94, List.forall_mem_cons.mpr ⟨gN_95, List.forall_mem_cons.mpr ⟨gN_96, List.forall_mem_cons.mpr ⟨gN_97, List.forall_mem_cons.mpr ⟨gN_98, List.forall_mem_cons.mpr ⟨gN_99, List.forall_mem_cons.mpr ⟨gN_100, List.forall_mem_cons.mpr ⟨gN_101, List.forall_mem_cons.mpr ⟨gN_102, List.forall_mem_cons.mpr ⟨gN_103, List.forall_mem_cons.mpr ⟨gN_104, List.forall_mem_cons.mpr ⟨gN_105, List.forall_mem_cons.mpr ⟨gN_106, List.forall_mem_cons.mpr ⟨gN_107, List.forall_mem_cons.mpr ⟨gN_108, List.forall_mem_cons.mpr ⟨gN_109, List.forall_mem_cons.mpr ⟨gN_110, List.forall_mem_cons.mpr ⟨gN_111, List.forall_mem_cons.mpr ⟨gN_112, List.forall_mem_cons.mpr ⟨gN_113, List.forall_mem_cons.mpr ⟨gN_114, List.forall_mem_cons.mpr ⟨gN_115, List.forall_mem_cons.mpr ⟨gN_116, List.forall_mem_cons.mpr ⟨gN_117, List.forall_mem_cons.mpr ⟨gN_118, List.forall_mem_cons.mpr ⟨gN_119, List.forall_mem_cons.mpr ⟨gN_120, List.forall_mem_cons.mpr ⟨gN_121, List.forall_mem_cons.mpr ⟨gN_122, List.forall_mem_cons.mpr ⟨gN_123, List.forall_mem_cons.mpr ⟨gN_124, List.forall_mem_cons.mpr ⟨gN_125, List.forall_mem_cons.mpr ⟨gN_126, List.forall_mem_cons.mpr ⟨gN_127, List.forall_mem_cons.mpr ⟨gN_128, List.forall_mem_cons.mpr ⟨gN_129, List.forall_mem_cons.mpr ⟨gN_130, List.forall_mem_cons.mpr ⟨gN_131, List.forall_mem_cons.mpr ⟨gN_132, List.forall_mem_cons.mpr ⟨gN_133, List.forall_mem_cons.mpr ⟨gN_134, List.forall_mem_cons.mpr ⟨gN_135, List.forall_mem_cons.mpr ⟨gN_136, List.forall_mem_cons.mpr ⟨gN_137, List.forall_mem_cons.mpr ⟨gN_138, List.forall_mem_cons.mpr ⟨gN_139, List.forall_mem_cons.mpr ⟨gN_140, List.forall_mem_cons.mpr ⟨gN_141, List.forall_mem_cons.mpr ⟨gN_142, List.forall_mem_cons.mpr ⟨gN_143, List.forall_mem_cons.mpr ⟨gN_144, List.forall_mem_cons.mpr ⟨gN_145, List.forall_mem_cons.mpr ⟨gN_146, List.forall_mem_cons.mpr ⟨gN_147, List.forall_mem_cons.mpr ⟨gN_148, List.forall_mem_cons.mpr ⟨gN_149, List.forall_mem_cons.mpr ⟨gN_150, List.forall_mem_cons.mpr ⟨gN_151, List.forall_mem_cons.mpr ⟨gN_152, List.forall_mem_cons.mpr ⟨gN_153, List.forall_mem_cons.mpr ⟨gN_154, List.forall_mem_cons.mpr ⟨gN_155, List.forall_mem_cons.mpr ⟨gN_156, List.forall_mem_cons.mpr ⟨gN_157, List.forall_mem_cons.mpr ⟨gN_158, List.forall_mem_cons.mpr ⟨gN_159, List.forall_mem_cons.mpr ⟨gN_160, List.forall_mem_cons.mpr ⟨gN_161, List.forall_mem_cons.mpr ⟨gN_162, List.forall_mem_cons.mpr ⟨gN_163, List.forall_mem_cons.mpr ⟨gN_164, List.forall_mem_cons.mpr ⟨gN_165, List.forall_mem_cons.mpr ⟨gN_166, List.forall_mem_cons.mpr ⟨gN_167, List.forall_mem_cons.mpr ⟨gN_168, List.forall_mem_cons.mpr ⟨gN_169, List.forall_mem_cons.mpr ⟨gN_170, List.forall_mem_cons.mpr ⟨gN_171, List.forall_mem_cons.mpr ⟨gN_172, List.forall_mem_cons.mpr ⟨gN_173, List.forall_mem_cons.mpr ⟨gN_174, List.forall_mem_cons.mpr ⟨gN_175, List.forall_mem_cons.mpr ⟨gN_176, List.forall_mem_cons.mpr ⟨gN_177, List.forall_mem_cons.mpr ⟨gN_178, List.forall_mem_cons.mpr ⟨gN_179, List.forall_mem_cons.mpr ⟨gN_180, List.forall_mem_cons.mpr ⟨gN_181, List.forall_mem_cons.mpr ⟨gN_182, List.forall_mem_cons.mpr ⟨gN_183, List.forall_mem_cons.mpr ⟨gN_184, List.forall_mem_cons.mpr ⟨gN_185, List.forall_mem_cons.mpr ⟨gN_186, List.forall_mem_cons.mpr ⟨gN_187, List.forall_mem_cons.mpr ⟨gN_188, List.forall_mem_cons.mpr ⟨gN_189, List.forall_mem_cons.mpr ⟨gN_190, List.forall_mem_cons.mpr ⟨gN_191, List.forall_mem_cons.mpr ⟨gN_192, List.forall_mem_cons.mpr ⟨gN_193, List.forall_mem_cons.mpr ⟨gN_194, List.forall_mem_cons.mpr ⟨gN_195, List.forall_mem_cons.mpr ⟨gN_196, List.forall_mem_cons.mpr ⟨gN_197, List.forall_mem_cons.mpr ⟨gN_198, List.forall_mem_cons.mpr ⟨gN_199, List.forall_mem_cons.mpr ⟨gN_200, List.forall_mem_cons.mpr ⟨gN_201, List.forall_mem_cons.mpr ⟨gN_202, List.forall_mem_cons.mpr ⟨gN_203, List.forall_mem_cons.mpr ⟨gN_204, List.forall_mem_cons.mpr ⟨gN_205, List.forall_mem_cons.mpr ⟨gN_206, List.forall_mem_cons.mpr ⟨gN_207, List.forall_mem_cons.mpr ⟨gN_208, List.forall_mem_cons.mpr ⟨gN_209, List.forall_mem_cons.mpr ⟨gN_210, List.forall_mem_cons.mpr ⟨gN_211, List.forall_mem_cons.mpr ⟨gN_212, List.forall_mem_cons.mpr ⟨gN_213, List.forall_mem_cons.mpr ⟨gN_214, List.forall_mem_cons.mpr ⟨gN_215, List.forall_mem_cons.mpr ⟨gN_216, List.forall_mem_cons.mpr ⟨gN_217, List.forall_mem_cons.mpr ⟨gN_218, List.forall_mem_cons.mpr ⟨gN_219, List.forall_mem_cons.mpr ⟨gN_220, List.forall_mem_cons.mpr ⟨gN_221, List.forall_mem_cons.mpr ⟨gN_222, List.forall_mem_cons.mpr ⟨gN_223, List.forall_mem_cons.mpr ⟨gN_224, List.forall_mem_cons.mpr ⟨gN_225, List.forall_mem_cons.mpr ⟨gN_226, List.forall_mem_cons.mpr ⟨gN_227, List.forall_mem_cons.mpr ⟨gN_228, List.forall_mem_cons.mpr ⟨gN_229, List.forall_mem_cons.mpr ⟨gN_230, List.forall_mem_cons.mpr ⟨gN_231, List.forall_mem_cons.mpr ⟨gN_232, List.forall_mem_cons.mpr ⟨gN_233, List.forall_mem_cons.mpr ⟨gN_234, List.forall_mem_cons.mpr ⟨gN_235, List.forall_mem_cons.mpr ⟨gN_236, List.forall_mem_cons.mpr ⟨gN_237, List.forall_mem_cons.mpr ⟨gN_238, List.forall_mem_cons.mpr ⟨gN_239, List.forall_mem_cons.mpr ⟨gN_240, List.forall_mem_cons.mpr ⟨gN_241, List.forall_mem_cons.mpr ⟨gN_242, List.forall_mem_cons.mpr ⟨gN_243, List.forall_mem_cons.mpr ⟨gN_244, List.forall_mem_cons.mpr ⟨gN_245, List.forall_mem_cons.mpr ⟨gN_246, List.forall_mem_cons.mpr ⟨gN_247, List.forall_mem_cons.mpr ⟨gN_248, List.forall_mem_cons.mpr ⟨gN_249, List.forall_mem_cons.mpr ⟨gN_250, List.forall_mem_cons.mpr ⟨gN_251, List.forall_mem_cons.mpr ⟨gN_252, List.forall_mem_cons.mpr ⟨gN_253, List.forall_mem_cons.mpr ⟨gN_254, List.forall_mem_cons.mpr ⟨gN_255, List.forall_mem_cons.mpr ⟨gN_256, List.forall_mem_cons.mpr ⟨gN_257, List.forall_mem_cons.mpr ⟨gN_258, List.forall_mem_cons.mpr ⟨gN_259, List.forall_mem_cons.mpr ⟨gN_260, List.forall_mem_cons.mpr ⟨gN_261, List.forall_mem_cons.mpr ⟨gN_262, List.forall_mem_cons.mpr ⟨gN_263, List.forall_mem_cons.mpr ⟨gN_264, List.forall_mem_cons.mpr ⟨gN_265, List.forall_mem_cons.mpr ⟨gN_266, List.forall_mem_cons.mpr ⟨gN_267, List.forall_mem_cons.mpr ⟨gN_268, List.forall_mem_cons.mpr ⟨gN_269, List.forall_mem_cons.mpr ⟨gN_270, List.forall_mem_cons.mpr ⟨gN_271, List.forall_mem_cons.mpr ⟨gN_272, List.forall_mem_cons.mpr ⟨gN_273, List.forall_mem_cons.mpr ⟨gN_274, List.forall_mem_cons.mpr ⟨gN_275, List.forall_mem_cons.mpr ⟨gN_276, List.forall_mem_cons.mpr ⟨gN_277, List.forall_mem_cons.mpr ⟨gN_278, List.forall_mem_cons.mpr ⟨gN_279, List.forall_mem_cons.mpr ⟨gN_280, List.forall_mem_cons.mpr ⟨gN_281, List.forall_mem_cons.mpr ⟨gN_282, List.forall_mem_cons.mpr ⟨gN_283, List.forall_mem_cons.mpr ⟨gN_284, List.forall_mem_cons.mpr ⟨gN_285, List.forall_mem_cons.mpr ⟨gN_286, List.forall_mem_cons.mpr ⟨gN_287, List.forall_mem_cons.mpr ⟨gN_288, List.forall_mem_cons.mpr ⟨gN_289, List.forall_mem_cons.mpr ⟨gN_290, List.forall_mem_cons.mpr ⟨gN_291, List.forall_mem_cons.mpr ⟨gN_292, List.forall_mem_cons.mpr ⟨gN_293, List.forall_mem_cons.mpr ⟨gN_294, List.forall_mem_cons.mpr ⟨gN_295, List.forall_mem_cons.mpr ⟨gN_296, List.forall_mem_cons.mpr ⟨gN_297, List.forall_mem_cons.mpr ⟨gN_298, List.forall_mem_cons.mpr ⟨gN_299, List.forall_mem_cons.mpr ⟨gN_300, List.forall_mem_cons.mpr ⟨gN_301, List.forall_mem_cons.mpr ⟨gN_302, List.forall_mem_cons.mpr ⟨gN_303, List.forall_mem_cons.mpr ⟨gN_304, List.forall_mem_cons.mpr ⟨gN_305, List.forall_mem_cons.mpr ⟨gN_306, List.forall_mem_cons.mpr ⟨gN_307, List.forall_mem_cons.mpr ⟨gN_308, List.forall_mem_cons.mpr ⟨gN_309, List.forall_mem_cons.mpr ⟨gN_310, List.forall_mem_cons.mpr ⟨gN_311, List.forall_mem_cons.mpr ⟨gN_312, List.forall_mem_cons.mpr ⟨gN_313, List.forall_mem_cons.mpr ⟨gN_314, List.forall_mem_cons.mpr ⟨gN_315, List.forall_mem_cons.mpr ⟨gN_316, List.forall_mem_cons.mpr ⟨gN_317, List.forall_mem_cons.mpr ⟨gN_318, List.forall_mem_cons.mpr ⟨gN_319, List.forall_mem_cons.mpr ⟨gN_320, List.forall_mem_cons.mpr ⟨gN_321, List.forall_mem_cons.mpr ⟨gN_322, List.forall_mem_cons.mpr ⟨gN_323, List.forall_mem_cons.mpr ⟨gN_324, List.forall_mem_cons.mpr ⟨gN_325, List.forall_mem_cons.mpr ⟨gN_326, List.forall_mem_cons.mpr ⟨gN_327, List.forall_mem_cons.mpr ⟨gN_328, List.forall_mem_cons.mpr ⟨gN_329, List.forall_mem_cons.mpr ⟨gN_330, List.forall_mem_cons.mpr ⟨gN_331, List.forall_mem_cons.mpr ⟨gN_332, List.forall_mem_cons.mpr ⟨gN_333, List.forall_mem_cons.mpr ⟨gN_334, List.forall_mem_cons.mpr ⟨gN_335, List.forall_mem_cons.mpr ⟨gN_336, List.forall_mem_cons.mpr ⟨gN_337, List.forall_mem_cons.mpr ⟨gN_338, List.forall_mem_cons.mpr ⟨gN_339, List.forall_mem_cons.mpr ⟨gN_340, List.forall_mem_cons.mpr ⟨gN_341, List.forall_mem_cons.mpr ⟨gN_342, List.forall_mem_cons.mpr ⟨gN_343, fun _ h => absurd h List.not_mem_nil⟩⟩⟩⟩⟩⟩⟩⟩⟩⟩⟩⟩⟩⟩⟩⟩⟩⟩⟩⟩⟩⟩⟩⟩⟩⟩⟩⟩⟩⟩⟩⟩⟩⟩⟩⟩⟩⟩⟩⟩⟩⟩⟩⟩⟩⟩⟩⟩⟩⟩⟩⟩⟩⟩⟩⟩⟩⟩⟩⟩⟩⟩⟩⟩⟩⟩⟩⟩⟩⟩⟩⟩⟩⟩⟩⟩⟩⟩⟩⟩⟩⟩⟩⟩⟩⟩⟩⟩⟩⟩⟩⟩⟩⟩⟩⟩⟩⟩⟩⟩⟩⟩⟩⟩⟩⟩⟩⟩⟩⟩⟩⟩⟩⟩⟩⟩⟩⟩⟩⟩⟩⟩⟩⟩⟩⟩⟩⟩⟩⟩⟩⟩⟩⟩⟩⟩⟩⟩⟩⟩⟩⟩⟩⟩⟩⟩⟩⟩⟩⟩⟩⟩⟩⟩⟩⟩⟩⟩⟩⟩⟩⟩⟩⟩⟩⟩⟩⟩⟩⟩⟩⟩⟩⟩⟩⟩⟩⟩⟩⟩⟩⟩⟩⟩⟩⟩⟩⟩⟩⟩⟩⟩⟩⟩⟩⟩⟩⟩⟩⟩⟩⟩⟩⟩⟩⟩⟩⟩⟩⟩⟩⟩⟩⟩⟩⟩⟩⟩⟩⟩⟩⟩⟩⟩⟩⟩⟩⟩⟩⟩⟩⟩⟩⟩⟩⟩⟩⟩⟩⟩⟩⟩⟩⟩⟩⟩⟩⟩⟩⟩⟩⟩⟩⟩⟩⟩⟩⟩⟩⟩⟩⟩⟩⟩⟩⟩⟩⟩⟩⟩⟩⟩⟩⟩⟩⟩⟩⟩⟩⟩⟩⟩⟩⟩⟩⟩⟩⟩⟩⟩⟩⟩⟩⟩⟩⟩⟩⟩⟩⟩⟩⟩⟩⟩⟩⟩⟩⟩⟩⟩⟩⟩⟩⟩⟩⟩⟩⟩⟩⟩⟩⟩⟩⟩⟩⟩⟩⟩⟩⟩⟩⟩⟩⟩⟩⟩⟩⟩⟩⟩⟩⟩⟩⟩
set_option maxRecDepth 20000 in
theorem gM_0_0 : PM 0 (3, (4, 9999)) := (in1 53 rfl rfl)
set_option maxRecDepth 20000 in
theorem gM_0_1 : PM 0 (31, (1, 2)) := ⟨Nat.le_of_ble_eq_true rfl, (in1 54 rfl rfl), (in1 55 rfl rfl)⟩
set_option maxRecDepth 20000 in
theorem gM_0_2 : PM 0 (37, (0, 6)) := ⟨Nat.le_of_ble_eq_true rfl, (in4 22 rfl rfl), (in4 23 rfl rfl), (in4 24 rfl rfl)⟩
set_option maxRecDepth 20000 in
theorem gM_0_3 : PM 0 (41, (10, 9999)) := (in4 139 rfl rfl)
set_option maxRecDepth 20000 in
theorem gM_0_4 : PM 0 (47, (5, 9999)) := (in3 225 rfl rfl)
theorem gM_0 : ∀ e ∈ tbM_0, PM 0 e := List.forall_mem_cons.mpr ⟨gM_0_0, List.forall_mem_cons.mpr ⟨gM_0_1, List.forall_mem_cons.mpr ⟨gM_0_2, List.forall_mem_cons.mpr ⟨gM_0_3, List.forall_mem_cons.mpr ⟨gM_0_4, fun _ h => absurd h List.not_mem_nil⟩⟩⟩⟩⟩
set_option maxRecDepth 20000 in
theorem gM_1_0 : PM 1 (3, (4, 9999)) := (in1 167 rfl rfl)
set_option maxRecDepth 20000 in
theorem gM_1_1 : PM 1 (37, (0, 195)) := ⟨Nat.le_of_ble_eq_true rfl, (in5 196 rfl rfl), (in5 198 rfl rfl), (in0 63 rfl rfl)⟩
set_option maxRecDepth 20000 in
theorem gM_1_2 : PM 1 (41, (1, 198)) := ⟨Nat.le_of_ble_eq_true rfl, (in5 200 rfl rfl), (in5 201 rfl rfl)⟩
set_option maxRecDepth 20000 in
theorem gM_1_3 : PM 1 (45, (0, 6)) := ⟨Nat.le_of_ble_eq_true rfl, (in5 203 rfl rfl), (in4 23 rfl rfl), (in4 24 rfl rfl)⟩
set_option maxRecDepth 20000 in
theorem gM_1_4 : PM 1 (52, (12, 9999)) := (in5 204 rfl rfl)
set_option maxRecDepth 20000 in
theorem gM_1_5 : PM 1 (64, (1, 197)) := ⟨Nat.le_of_ble_eq_true rfl, (in5 217 rfl rfl), (in5 218 rfl rfl)⟩
set_option maxRecDepth 20000 in
theorem gM_1_6 : PM 1 (68, (1, 192)) := ⟨Nat.le_of_ble_eq_true rfl, (in5 220 rfl rfl), (in5 221 rfl rfl)⟩
set_option maxRecDepth 20000 in
theorem gM_1_7 : PM 1 (72, (10, 9999)) := (in5 223 rfl rfl)
set_option maxRecDepth 20000 in
theorem gM_1_8 : PM 1 (76, (5, 9999)) := (in3 236 rfl rfl)
theorem gM_1 : ∀ e ∈ tbM_1, PM 1 e := List.forall_mem_cons.mpr ⟨gM_1_0, List.forall_mem_cons.mpr ⟨gM_1_1, List.forall_mem_cons.mpr ⟨gM_1_2, List.forall_mem_cons.mpr ⟨gM_1_3, List.forall_mem_cons.mpr ⟨gM_1_4, List.forall_mem_cons.mpr ⟨gM_1_5, List.forall_mem_cons.mpr ⟨gM_1_6, List.forall_mem_cons.mpr ⟨gM_1_7, List.forall_mem_cons.mpr ⟨gM_1_8, fun _ h => absurd h List.not_mem_nil⟩⟩⟩⟩⟩⟩⟩⟩⟩
set_option maxRecDepth 20000 in
theorem gM_2_0 : PM 2 (3, (4, 9999)) := (in1 47 rfl rfl)
set_option maxRecDepth 20000 in
theorem gM_2_1 : PM 2 (11, (2, 7)) := ⟨Nat.le_of_ble_eq_true rfl, rfl, rfl, (in1 50 rfl rfl), (in1 51 rfl rfl)⟩
set_option maxRecDepth 20000 in
theorem gM_2_2 : PM 2 (35, (0, 4)) := ⟨Nat.le_of_ble_eq_true rfl, (in3 30 rfl rfl), (in3 31 rfl rfl), (in3 32 rfl rfl)⟩
set_option maxRecDepth 20000 in
theorem gM_2_3 : PM 2 (38, (1, 215)) := ⟨Nat.le_of_ble_eq_true rfl, (in3 165 rfl rfl), (in3 166 rfl rfl)⟩
set_option maxRecDepth 20000 in
theorem gM_2_4 : PM 2 (45, (0, 6)) := ⟨Nat.le_of_ble_eq_true rfl, (in4 46 rfl rfl), (in4 23 rfl rfl), (in4 24 rfl rfl)⟩
set_option maxRecDepth 20000 in
theorem gM_2_5 : PM 2 (49, (0, 213)) := ⟨Nat.le_of_ble_eq_true rfl, (in4 47 rfl rfl), (in4 48 rfl rfl), (in4 49 rfl rfl)⟩
set_option maxRecDepth 20000 in
theorem gM_2_6 : PM 2 (56, (12, 9999)) := (in4 51 rfl rfl)
set_option maxRecDepth 20000 in
theorem gM_2_7 : PM 2 (62, (10, 9999)) := (in4 54 rfl rfl)
set_option maxRecDepth 20000 in
theorem gM_2_8 : PM 2 (71, (0, 209)) := ⟨Nat.le_of_ble_eq_true rfl, (in4 42 rfl rfl), (in4 43 rfl rfl), (in4 44 rfl rfl)⟩
set_option maxRecDepth 20000 in
theorem gM_2_9 : PM 2 (77, (0, 223)) := ⟨Nat.le_of_ble_eq_true rfl, (in5 83 rfl rfl), (in4 100 rfl rfl), (in4 101 rfl rfl)⟩
set_option maxRecDepth 20000 in
theorem gM_2_10 : PM 2 (80, (0, 210)) := ⟨Nat.le_of_ble_eq_true rfl, (in4 30 rfl rfl), (in4 31 rfl rfl), (in4 32 rfl rfl)⟩
set_option maxRecDepth 20000 in
theorem gM_2_11 : PM 2 (83, (0, 218)) := ⟨Nat.le_of_ble_eq_true rfl, (in5 84 rfl rfl), (in4 39 rfl rfl), (in4 40 rfl rfl)⟩
set_option maxRecDepth 20000 in
theorem gM_2_12 : PM 2 (90, (0, 219)) := ⟨Nat.le_of_ble_eq_true rfl, (in6 62 rfl rfl), (in6 64 rfl rfl), (in0 66 rfl rfl)⟩
set_option maxRecDepth 20000 in
theorem gM_2_13 : PM 2 (93, (0, 222)) := ⟨Nat.le_of_ble_eq_true rfl, (in4 14 rfl rfl), (in4 16 rfl rfl), (in0 20 rfl rfl)⟩
set_option maxRecDepth 20000 in
theorem gM_2_14 : PM 2 (96, (0, 9)) := ⟨Nat.le_of_ble_eq_true rfl, (in4 18 rfl rfl), (in4 19 rfl rfl), (in4 20 rfl rfl)⟩
set_option maxRecDepth 20000 in
theorem gM_2_15 : PM 2 (99, (0, 221)) := ⟨Nat.le_of_ble_eq_true rfl, (in4 26 rfl rfl), (in4 28 rfl rfl), (in0 21 rfl rfl)⟩
set_option maxRecDepth 20000 in
theorem gM_2_16 : PM 2 (102, (0, 5)) := ⟨Nat.le_of_ble_eq_true rfl, (in3 221 rfl rfl), (in3 222 rfl rfl), (in3 223 rfl rfl)⟩
set_option maxRecDepth 20000 in
theorem gM_2_17 : PM 2 (106, (5, 9999)) := (in3 226 rfl rfl)
theorem gM_2 : ∀ e ∈ tbM_2, PM 2 e := List.forall_mem_cons.mpr ⟨gM_2_0, List.forall_mem_cons.mpr ⟨gM_2_1, List.forall_mem_cons.mpr ⟨gM_2_2, List.forall_mem_cons.mpr ⟨gM_2_3, List.forall_mem_cons.mpr ⟨gM_2_4, List.forall_mem_cons.mpr ⟨gM_2_5, List.forall_mem_cons.mpr ⟨gM_2_6, List.forall_mem_cons.mpr ⟨gM_2_7, List.forall_mem_cons.mpr ⟨gM_2_8, List.forall_mem_cons.mpr ⟨gM_2_9, List.forall_mem_cons.mpr ⟨gM_2_10, List.forall_mem_cons.mpr ⟨gM_2_11, List.forall_mem_cons.mpr ⟨gM_2_12, List.forall_mem_cons.mpr ⟨gM_2_13, List.forall_mem_cons.mpr ⟨gM_2_14, List.forall_mem_cons.mpr ⟨gM_2_15, List.forall_mem_cons.mpr ⟨gM_2_16, List.forall_mem_cons.mpr ⟨gM_2_17, fun _ h => absurd h List.not_mem_nil⟩⟩⟩⟩⟩⟩⟩⟩⟩⟩⟩⟩⟩⟩⟩⟩⟩⟩
set_option maxRecDepth 20000 in
theorem gM_3_0 : PM 3 (3, (4, 9999)) := (in2 175 rfl rfl)
set_option maxRecDepth 20000 in
theorem gM_3_1 : PM 3 (39, (1, 2)) := ⟨Nat.le_of_ble_eq_true rfl, (in5 112 rfl rfl), (in1 55 rfl rfl)⟩
set_option maxRecDepth 20000 in
theorem gM_3_2 : PM 3 (45, (11, 9999)) := (in5 113 rfl rfl)
set_option maxRecDepth 20000 in
theorem gM_3_3 : PM 3 (51, (10, 9999)) := (in5 114 rfl rfl)
set_option maxRecDepth 20000 in
theorem gM_3_4 : PM 3 (54, (0, 228)) := ⟨Nat.le_of_ble_eq_true rfl, (in5 119 rfl rfl), (in5 120 rfl rfl), (in5 121 rfl rfl)⟩
set_option maxRecDepth 20000 in
theorem gM_3_5 : PM 3 (59, (14, 9999)) := (in5 134 rfl rfl)
set_option maxRecDepth 20000 in
theorem gM_3_6 : PM 3 (62, (0, 225)) := ⟨Nat.le_of_ble_eq_true rfl, (in5 152 rfl rfl), (in5 154 rfl rfl), (in0 60 rfl rfl)⟩
set_option maxRecDepth 20000 in
theorem gM_3_7 : PM 3 (65, (0, 232)) := ⟨Nat.le_of_ble_eq_true rfl, (in5 156 rfl rfl), (in5 158 rfl rfl), (in0 61 rfl rfl)⟩
set_option maxRecDepth 20000 in
theorem gM_3_8 : PM 3 (68, (0, 227)) := ⟨Nat.le_of_ble_eq_true rfl, (in5 164 rfl rfl), (in5 166 rfl rfl), (in0 62 rfl rfl)⟩
theorem gM_3 : ∀ e ∈ tbM_3, PM 3 e := List.forall_mem_cons.mpr ⟨gM_3_0, List.forall_mem_cons.mpr ⟨gM_3_1, List.forall_mem_cons.mpr ⟨gM_3_2, List.forall_mem_cons.mpr ⟨gM_3_3, List.forall_mem_cons.mpr ⟨gM_3_4, List.forall_mem_cons.mpr ⟨gM_3_5, List.forall_mem_cons.mpr ⟨gM_3_6, List.forall_mem_cons.mpr ⟨gM_3_7, List.forall_mem_cons.mpr ⟨gM_3_8, fun _ h => absurd h List.not_mem_nil⟩⟩⟩⟩⟩⟩⟩⟩⟩
set_option maxRecDepth 20000 in
theorem gM_4_0 : PM 4 (3, (4, 9999)) := (in2 119 rfl rfl)
set_option maxRecDepth 20000 in
theorem gM_4_1 : PM 4 (28, (1, 2)) := ⟨Nat.le_of_ble_eq_true rfl, (in5 49 rfl rfl), (in1 55 rfl rfl)⟩
set_option maxRecDepth 20000 in
theorem gM_4_2 : PM 4 (45, (0, 223)) := ⟨Nat.le_of_ble_eq_true rfl, (in5 50 rfl rfl), (in4 100 rfl rfl), (in4 101 rfl rfl)⟩
set_option maxRecDepth 20000 in
theorem gM_4_3 : PM 4 (49, (0, 240)) := ⟨Nat.le_of_ble_eq_true rfl, (in5 51 rfl rfl), (in5 53 rfl rfl), (in0 54 rfl rfl)⟩
set_option maxRecDepth 20000 in
theorem gM_4_4 : PM 4 (53, (1, 245)) := ⟨Nat.le_of_ble_eq_true rfl, (in5 55 rfl rfl), (in5 56 rfl rfl)⟩
set_option maxRecDepth 20000 in
theorem gM_4_5 : PM 4 (57, (0, 208)) := ⟨Nat.le_of_ble_eq_true rfl, (in5 58 rfl rfl), (in5 59 rfl rfl), (in5 60 rfl rfl)⟩
set_option maxRecDepth 20000 in
theorem gM_4_6 : PM 4 (61, (1, 246)) := ⟨Nat.le_of_ble_eq_true rfl, (in6 88 rfl rfl), (in6 89 rfl rfl)⟩
set_option maxRecDepth 20000 in
theorem gM_4_7 : PM 4 (64, (0, 209)) := ⟨Nat.le_of_ble_eq_true rfl, (in6 91 rfl rfl), (in4 43 rfl rfl), (in4 44 rfl rfl)⟩
set_option maxRecDepth 20000 in
theorem gM_4_8 : PM 4 (68, (0, 244)) := ⟨Nat.le_of_ble_eq_true rfl, (in6 125 rfl rfl), (in6 127 rfl rfl), (in0 68 rfl rfl)⟩
set_option maxRecDepth 20000 in
theorem gM_4_9 : PM 4 (72, (0, 238)) := ⟨Nat.le_of_ble_eq_true rfl, (in6 129 rfl rfl), (in6 131 rfl rfl), (in0 69 rfl rfl)⟩
set_option maxRecDepth 20000 in
theorem gM_4_10 : PM 4 (76, (0, 237)) := ⟨Nat.le_of_ble_eq_true rfl, (in6 133 rfl rfl), (in6 135 rfl rfl), (in0 70 rfl rfl)⟩
theorem gM_4 : ∀ e ∈ tbM_4, PM 4 e := List.forall_mem_cons.mpr ⟨gM_4_0, List.forall_mem_cons.mpr ⟨gM_4_1, List.forall_mem_cons.mpr ⟨gM_4_2, List.forall_mem_cons.mpr ⟨gM_4_3, List.forall_mem_cons.mpr ⟨gM_4_4, List.forall_mem_cons.mpr ⟨gM_4_5, List.forall_mem_cons.mpr ⟨gM_4_6, List.forall_mem_cons.mpr ⟨gM_4_7, List.forall_mem_cons.mpr ⟨gM_4_8, List.forall_mem_cons.mpr ⟨gM_4_9, List.forall_mem_cons.mpr ⟨gM_4_10, fun _ h => absurd h List.not_mem_nil⟩⟩⟩⟩⟩⟩⟩⟩⟩⟩⟩
set_option maxRecDepth 20000 in
theorem gM_5_0 : PM 5 (3, (4, 9999)) := (in2 77 rfl rfl)
set_option maxRecDepth 20000 in
theorem gM_5_1 : PM 5 (11, (3, 211)) := ⟨Nat.le_of_ble_eq_true rfl, rfl, rfl, by decide +kernel, (in1 45 rfl rfl)⟩
set_option maxRecDepth 20000 in
theorem gM_5_2 : PM 5 (49, (0, 206)) := ⟨Nat.le_of_ble_eq_true rfl, (in4 165 rfl rfl), (in3 218 rfl rfl), (in3 219 rfl rfl)⟩
set_option maxRecDepth 20000 in
theorem gM_5_3 : PM 5 (63, (0, 223)) := ⟨Nat.le_of_ble_eq_true rfl, (in4 166 rfl rfl), (in4 100 rfl rfl), (in4 101 rfl rfl)⟩
set_option maxRecDepth 20000 in
theorem gM_5_4 : PM 5 (70, (0, 209)) := ⟨Nat.le_of_ble_eq_true rfl, (in4 167 rfl rfl), (in4 43 rfl rfl), (in4 44 rfl rfl)⟩
set_option maxRecDepth 20000 in
theorem gM_5_5 : PM 5 (74, (1, 2)) := ⟨Nat.le_of_ble_eq_true rfl, (in4 168 rfl rfl), (in1 55 rfl rfl)⟩
set_option maxRecDepth 20000 in
theorem gM_5_6 : PM 5 (80, (0, 280)) := ⟨Nat.le_of_ble_eq_true rfl, (in4 169 rfl rfl), (in4 171 rfl rfl), (in0 35 rfl rfl)⟩
set_option maxRecDepth 20000 in
theorem gM_5_7 : PM 5 (83, (0, 255)) := ⟨Nat.le_of_ble_eq_true rfl, (in4 173 rfl rfl), (in4 175 rfl rfl), (in0 36 rfl rfl)⟩
set_option maxRecDepth 20000 in
theorem gM_5_8 : PM 5 (86, (0, 250)) := ⟨Nat.le_of_ble_eq_true rfl, (in4 161 rfl rfl), (in4 163 rfl rfl), (in0 34 rfl rfl)⟩
set_option maxRecDepth 20000 in
theorem gM_5_9 : PM 5 (89, (0, 274)) := ⟨Nat.le_of_ble_eq_true rfl, (in4 177 rfl rfl), (in4 179 rfl rfl), (in0 37 rfl rfl)⟩
set_option maxRecDepth 20000 in
theorem gM_5_10 : PM 5 (92, (0, 247)) := ⟨Nat.le_of_ble_eq_true rfl, (in4 185 rfl rfl), (in4 187 rfl rfl), (in0 39 rfl rfl)⟩
set_option maxRecDepth 20000 in
theorem gM_5_11 : PM 5 (96, (0, 268)) := ⟨Nat.le_of_ble_eq_true rfl, (in4 196 rfl rfl), (in4 198 rfl rfl), (in0 41 rfl rfl)⟩
set_option maxRecDepth 20000 in
theorem gM_5_12 : PM 5 (99, (0, 252)) := ⟨Nat.le_of_ble_eq_true rfl, (in4 181 rfl rfl), (in4 183 rfl rfl), (in0 38 rfl rfl)⟩
set_option maxRecDepth 20000 in
theorem gM_5_13 : PM 5 (103, (0, 261)) := ⟨Nat.le_of_ble_eq_true rfl, (in4 189 rfl rfl), (in4 191 rfl rfl), (in0 40 rfl rfl)⟩
set_option maxRecDepth 20000 in
theorem gM_5_14 : PM 5 (107, (1, 265)) := ⟨Nat.le_of_ble_eq_true rfl, (in4 193 rfl rfl), (in4 194 rfl rfl)⟩
set_option maxRecDepth 20000 in
theorem gM_5_15 : PM 5 (111, (0, 249)) := ⟨Nat.le_of_ble_eq_true rfl, (in4 200 rfl rfl), (in4 202 rfl rfl), (in0 42 rfl rfl)⟩
set_option maxRecDepth 20000 in
theorem gM_5_16 : PM 5 (114, (0, 275)) := ⟨Nat.le_of_ble_eq_true rfl, (in4 204 rfl rfl), (in4 206 rfl rfl), (in0 43 rfl rfl)⟩
set_option maxRecDepth 20000 in
theorem gM_5_17 : PM 5 (117, (0, 267)) := ⟨Nat.le_of_ble_eq_true rfl, (in4 208 rfl rfl), (in4 210 rfl rfl), (in0 44 rfl rfl)⟩
set_option maxRecDepth 20000 in
theorem gM_5_18 : PM 5 (120, (0, 271)) := ⟨Nat.le_of_ble_eq_true rfl, (in4 224 rfl rfl), (in4 226 rfl rfl), (in0 48 rfl rfl)⟩
set_option maxRecDepth 20000 in
theorem gM_5_19 : PM 5 (124, (5, 9999)) := (in4 236 rfl rfl)
set_option maxRecDepth 20000 in
theorem gM_5_20 : PM 5 (130, (0, 262)) := ⟨Nat.le_of_ble_eq_true rfl, (in4 237 rfl rfl), (in4 239 rfl rfl), (in0 51 rfl rfl)⟩
set_option maxRecDepth 20000 in
theorem gM_5_21 : PM 5 (133, (0, 251)) := ⟨Nat.le_of_ble_eq_true rfl, (in4 212 rfl rfl), (in4 214 rfl rfl), (in0 45 rfl rfl)⟩
set_option maxRecDepth 20000 in
theorem gM_5_22 : PM 5 (137, (0, 272)) := ⟨Nat.le_of_ble_eq_true rfl, (in4 216 rfl rfl), (in4 218 rfl rfl), (in0 46 rfl rfl)⟩
set_option maxRecDepth 20000 in
theorem gM_5_23 : PM 5 (140, (0, 259)) := ⟨Nat.le_of_ble_eq_true rfl, (in4 220 rfl rfl), (in4 222 rfl rfl), (in0 47 rfl rfl)⟩
set_option maxRecDepth 20000 in
theorem gM_5_24 : PM 5 (143, (10, 9999)) := (in5 1 rfl rfl)
set_option maxRecDepth 20000 in
theorem gM_5_25 : PM 5 (148, (11, 9999)) := (in5 2 rfl rfl)
set_option maxRecDepth 20000 in
theorem gM_5_26 : PM 5 (151, (0, 278)) := ⟨Nat.le_of_ble_eq_true rfl, (in5 3 rfl rfl), (in5 5 rfl rfl), (in0 52 rfl rfl)⟩
set_option maxRecDepth 20000 in
theorem gM_5_27 : PM 5 (154, (0, 256)) := ⟨Nat.le_of_ble_eq_true rfl, (in5 7 rfl rfl), (in5 9 rfl rfl), (in0 53 rfl rfl)⟩
set_option maxRecDepth 20000 in
theorem gM_5_28 : PM 5 (157, (0, 281)) := ⟨Nat.le_of_ble_eq_true rfl, (in4 232 rfl rfl), (in4 234 rfl rfl), (in0 50 rfl rfl)⟩
set_option maxRecDepth 20000 in
theorem gM_5_29 : PM 5 (161, (0, 257)) := ⟨Nat.le_of_ble_eq_true rfl, (in4 228 rfl rfl), (in4 230 rfl rfl), (in0 49 rfl rfl)⟩
set_option maxRecDepth 20000 in
theorem gM_5_30 : PM 5 (164, (0, 264)) := ⟨Nat.le_of_ble_eq_true rfl, (in6 100 rfl rfl), (in4 158 rfl rfl), (in4 159 rfl rfl)⟩
set_option maxRecDepth 20000 in
theorem gM_5_31 : PM 5 (168, (0, 266)) := ⟨Nat.le_of_ble_eq_true rfl, (in6 101 rfl rfl), (in6 103 rfl rfl), (in0 67 rfl rfl)⟩
set_option maxRecDepth 20000 in
theorem gM_5_32 : PM 5 (171, (0, 248)) := ⟨Nat.le_of_ble_eq_true rfl, (in6 145 rfl rfl), (in6 147 rfl rfl), (in0 71 rfl rfl)⟩
set_option maxRecDepth 20000 in
theorem gM_5_33 : PM 5 (174, (0, 273)) := ⟨Nat.le_of_ble_eq_true rfl, (in6 152 rfl rfl), (in6 154 rfl rfl), (in0 72 rfl rfl)⟩
set_option maxRecDepth 20000 in
theorem gM_5_34 : PM 5 (177, (0, 205)) := ⟨Nat.le_of_ble_eq_true rfl, (in6 149 rfl rfl), (in3 27 rfl rfl), (in3 28 rfl rfl)⟩
set_option maxRecDepth 20000 in
theorem gM_5_35 : PM 5 (180, (0, 6)) := ⟨Nat.le_of_ble_eq_true rfl, (in6 150 rfl rfl), (in4 23 rfl rfl), (in4 24 rfl rfl)⟩
set_option maxRecDepth 20000 in
theorem gM_5_36 : PM 5 (193, (0, 3)) := ⟨Nat.le_of_ble_eq_true rfl, (in6 151 rfl rfl), (in3 135 rfl rfl), (in3 136 rfl rfl)⟩
theorem gM_5 : ∀ e ∈ tbM_5, PM 5 e := List.forall_mem_cons.mpr ⟨gM_5_0, List.forall_mem_cons.mpr ⟨gM_5_1, List.forall_mem_cons.mpr ⟨gM_5_2, List.forall_mem_cons.mpr ⟨gM_5_3, List.forall_mem_cons.mpr ⟨gM_5_4, List.forall_mem_cons.mpr ⟨gM_5_5, List.forall_mem_cons.mpr ⟨gM_5_6, List.forall_mem_cons.mpr ⟨gM_5_7, List.forall_mem_cons.mpr ⟨gM_5_8, List.forall_mem_cons.mpr ⟨gM_5_9, List.forall_mem_cons.mpr ⟨gM_5_10, List.forall_mem_cons.mpr ⟨gM_5_11, List.forall_mem_cons.mpr ⟨gM_5_12, List.forall_mem_cons.mpr ⟨gM_5_13, List.forall_mem_cons.mpr ⟨gM_5_14, List.forall_mem_cons.mpr ⟨gM_5_15, List.forall_mem_cons.mpr ⟨gM_5_16, List.forall_mem_cons.mpr ⟨gM_5_17, List.forall_mem_cons.mpr ⟨gM_5_18, List.forall_mem_cons.mpr ⟨gM_5_19, List.forall_mem_cons.mpr ⟨gM_5_20, List.forall_mem_cons.mpr ⟨gM_5_21, List.forall_mem_cons.mpr ⟨gM_5_22, List.forall_mem_cons.mpr ⟨gM_5_23, List.forall_mem_cons.mpr ⟨gM_5_24, List.forall_mem_cons.mpr ⟨gM_5_25, List.forall_mem_cons.mpr ⟨gM_5_26, List.forall_mem_cons.mpr ⟨gM_5_27, List.forall_mem_cons.mpr ⟨gM_5_28, List.forall_mem_cons.mpr ⟨gM_5_29, List.forall_mem_cons.mpr ⟨gM_5_30, List.forall_mem_cons.mpr ⟨gM_5_31, List.forall_mem_cons.mpr ⟨gM_5_32, List.forall_mem_cons.mpr ⟨gM_5_33, List.forall_mem_cons.mpr ⟨gM_5_34, List.forall_mem_cons.mpr ⟨gM_5_35, List.forall_mem_cons.mpr ⟨gM_5_36, fun _ h => absurd h List.not_mem_nil⟩⟩⟩⟩⟩⟩⟩⟩⟩⟩⟩⟩⟩⟩⟩⟩⟩⟩⟩⟩⟩⟩⟩⟩⟩⟩⟩⟩⟩⟩⟩⟩⟩⟩⟩⟩⟩
set_option maxRecDepth 20000 in
theorem gM_6_0 : PM 6 (3, (4, 9999)) := (in1 218 rfl rfl)
set_option maxRecDepth 20000 in
theorem gM_6_1 : PM 6 (11, (3, 211)) := ⟨Nat.le_of_ble_eq_true rfl, rfl, rfl, by decide +kernel, (in1 45 rfl rfl)⟩
set_option maxRecDepth 20000 in
theorem gM_6_2 : PM 6 (20, (3, 12)) := ⟨Nat.le_of_ble_eq_true rfl, rfl, rfl, by decide +kernel, (in1 141 rfl rfl)⟩
set_option maxRecDepth 20000 in
theorem gM_6_3 : PM 6 (27, (3, 196)) := ⟨Nat.le_of_ble_eq_true rfl, rfl, rfl, by decide +kernel, (in1 165 rfl rfl)⟩
set_option maxRecDepth 20000 in
theorem gM_6_4 : PM 6 (68, (0, 283)) := ⟨Nat.le_of_ble_eq_true rfl, (in3 13 rfl rfl), (in3 15 rfl rfl), (in0 0 rfl rfl)⟩
set_option maxRecDepth 20000 in
theorem gM_6_5 : PM 6 (72, (0, 291)) := ⟨Nat.le_of_ble_eq_true rfl, (in3 52 rfl rfl), (in3 54 rfl rfl), (in0 4 rfl rfl)⟩
set_option maxRecDepth 20000 in
theorem gM_6_6 : PM 6 (76, (0, 289)) := ⟨Nat.le_of_ble_eq_true rfl, (in3 168 rfl rfl), (in3 170 rfl rfl), (in0 14 rfl rfl)⟩
set_option maxRecDepth 20000 in
theorem gM_6_7 : PM 6 (79, (0, 287)) := ⟨Nat.le_of_ble_eq_true rfl, (in3 194 rfl rfl), (in3 196 rfl rfl), (in0 18 rfl rfl)⟩
set_option maxRecDepth 20000 in
theorem gM_6_8 : PM 6 (94, (0, 296)) := ⟨Nat.le_of_ble_eq_true rfl, (in3 117 rfl rfl), (in3 119 rfl rfl), (in0 8 rfl rfl)⟩
set_option maxRecDepth 20000 in
theorem gM_6_9 : PM 6 (98, (11, 9999)) := (in3 17 rfl rfl)
set_option maxRecDepth 20000 in
theorem gM_6_10 : PM 6 (104, (10, 9999)) := (in3 20 rfl rfl)
set_option maxRecDepth 20000 in
theorem gM_6_11 : PM 6 (107, (5, 9999)) := (in3 23 rfl rfl)
set_option maxRecDepth 20000 in
theorem gM_6_12 : PM 6 (113, (0, 205)) := ⟨Nat.le_of_ble_eq_true rfl, (in3 26 rfl rfl), (in3 27 rfl rfl), (in3 28 rfl rfl)⟩
set_option maxRecDepth 20000 in
theorem gM_6_13 : PM 6 (118, (0, 282)) := ⟨Nat.le_of_ble_eq_true rfl, (in3 34 rfl rfl), (in3 36 rfl rfl), (in0 1 rfl rfl)⟩
set_option maxRecDepth 20000 in
theorem gM_6_14 : PM 6 (123, (0, 295)) := ⟨Nat.le_of_ble_eq_true rfl, (in3 57 rfl rfl), (in3 59 rfl rfl), (in0 5 rfl rfl)⟩
set_option maxRecDepth 20000 in
theorem gM_6_15 : PM 6 (127, (0, 285)) := ⟨Nat.le_of_ble_eq_true rfl, (in3 109 rfl rfl), (in3 111 rfl rfl), (in0 6 rfl rfl)⟩
set_option maxRecDepth 20000 in
theorem gM_6_16 : PM 6 (135, (0, 286)) := ⟨Nat.le_of_ble_eq_true rfl, (in3 144 rfl rfl), (in3 146 rfl rfl), (in0 12 rfl rfl)⟩
set_option maxRecDepth 20000 in
theorem gM_6_17 : PM 6 (140, (0, 299)) := ⟨Nat.le_of_ble_eq_true rfl, (in3 157 rfl rfl), (in3 159 rfl rfl), (in0 13 rfl rfl)⟩
set_option maxRecDepth 20000 in
theorem gM_6_18 : PM 6 (143, (0, 298)) := ⟨Nat.le_of_ble_eq_true rfl, (in3 130 rfl rfl), (in3 132 rfl rfl), (in0 10 rfl rfl)⟩
set_option maxRecDepth 20000 in
theorem gM_6_19 : PM 6 (146, (0, 284)) := ⟨Nat.le_of_ble_eq_true rfl, (in3 113 rfl rfl), (in3 115 rfl rfl), (in0 7 rfl rfl)⟩
set_option maxRecDepth 20000 in
theorem gM_6_20 : PM 6 (156, (0, 303)) := ⟨Nat.le_of_ble_eq_true rfl, (in3 126 rfl rfl), (in3 128 rfl rfl), (in0 9 rfl rfl)⟩
set_option maxRecDepth 20000 in
theorem gM_6_21 : PM 6 (160, (0, 3)) := ⟨Nat.le_of_ble_eq_true rfl, (in3 134 rfl rfl), (in3 135 rfl rfl), (in3 136 rfl rfl)⟩
set_option maxRecDepth 20000 in
theorem gM_6_22 : PM 6 (164, (0, 305)) := ⟨Nat.le_of_ble_eq_true rfl, (in3 138 rfl rfl), (in3 140 rfl rfl), (in0 11 rfl rfl)⟩
set_option maxRecDepth 20000 in
theorem gM_6_23 : PM 6 (176, (0, 203)) := ⟨Nat.le_of_ble_eq_true rfl, (in3 152 rfl rfl), (in3 153 rfl rfl), (in3 154 rfl rfl)⟩
set_option maxRecDepth 20000 in
theorem gM_6_24 : PM 6 (180, (0, 212)) := ⟨Nat.le_of_ble_eq_true rfl, (in3 161 rfl rfl), (in3 162 rfl rfl), (in3 163 rfl rfl)⟩
set_option maxRecDepth 20000 in
theorem gM_6_25 : PM 6 (183, (0, 290)) := ⟨Nat.le_of_ble_eq_true rfl, (in3 172 rfl rfl), (in3 174 rfl rfl), (in0 15 rfl rfl)⟩
set_option maxRecDepth 20000 in
theorem gM_6_26 : PM 6 (187, (0, 300)) := ⟨Nat.le_of_ble_eq_true rfl, (in3 182 rfl rfl), (in3 184 rfl rfl), (in0 16 rfl rfl)⟩
set_option maxRecDepth 20000 in
theorem gM_6_27 : PM 6 (191, (0, 10)) := ⟨Nat.le_of_ble_eq_true rfl, (in3 190 rfl rfl), (in3 191 rfl rfl), (in3 192 rfl rfl)⟩
set_option maxRecDepth 20000 in
theorem gM_6_28 : PM 6 (205, (0, 304)) := ⟨Nat.le_of_ble_eq_true rfl, (in3 186 rfl rfl), (in3 188 rfl rfl), (in0 17 rfl rfl)⟩
set_option maxRecDepth 20000 in
theorem gM_6_29 : PM 6 (208, (0, 288)) := ⟨Nat.le_of_ble_eq_true rfl, (in3 198 rfl rfl), (in3 200 rfl rfl), (in0 19 rfl rfl)⟩
set_option maxRecDepth 20000 in
theorem gM_6_30 : PM 6 (216, (0, 191)) := ⟨Nat.le_of_ble_eq_true rfl, (in3 209 rfl rfl), (in3 210 rfl rfl), (in3 211 rfl rfl)⟩
set_option maxRecDepth 20000 in
theorem gM_6_31 : PM 6 (227, (1, 2)) := ⟨Nat.le_of_ble_eq_true rfl, (in3 121 rfl rfl), (in1 55 rfl rfl)⟩
set_option maxRecDepth 20000 in
theorem gM_6_32 : PM 6 (233, (1, 294)) := ⟨Nat.le_of_ble_eq_true rfl, (in3 38 rfl rfl), (in3 39 rfl rfl)⟩
set_option maxRecDepth 20000 in
theorem gM_6_33 : PM 6 (236, (0, 302)) := ⟨Nat.le_of_ble_eq_true rfl, (in3 41 rfl rfl), (in3 43 rfl rfl), (in0 2 rfl rfl)⟩
set_option maxRecDepth 20000 in
theorem gM_6_34 : PM 6 (239, (1, 293)) := ⟨Nat.le_of_ble_eq_true rfl, (in3 45 rfl rfl), (in3 46 rfl rfl)⟩
set_option maxRecDepth 20000 in
theorem gM_6_35 : PM 6 (242, (0, 301)) := ⟨Nat.le_of_ble_eq_true rfl, (in3 48 rfl rfl), (in3 50 rfl rfl), (in0 3 rfl rfl)⟩
set_option maxRecDepth 20000 in
theorem gM_6_36 : PM 6 (245, (6, 9999)) := (in3 61 rfl rfl)
set_option maxRecDepth 20000 in
theorem gM_6_37 : PM 6 (249, (7, 9999)) := (in3 71 rfl rfl)
theorem gM_6 : ∀ e ∈ tbM_6, PM 6 e := List.forall_mem_cons.mpr ⟨gM_6_0, List.forall_mem_cons.mpr ⟨gM_6_1, List.forall_mem_cons.mpr ⟨gM_6_2, List.forall_mem_cons.mpr ⟨gM_6_3, List.forall_mem_cons.mpr ⟨gM_6_4, List.forall_mem_cons.mpr ⟨gM_6_5, List.forall_mem_cons.mpr ⟨gM_6_6, List.forall_mem_cons.mpr ⟨gM_6_7, List.forall_mem_cons.mpr ⟨gM_6_8, List.forall_mem_cons.mpr ⟨gM_6_9, List.forall_mem_cons.mpr ⟨gM_6_10, List.forall_mem_cons.mpr ⟨gM_6_11, List.forall_mem_cons.mpr ⟨gM_6_12, List.forall_mem_cons.mpr ⟨gM_6_13, List.forall_mem_cons.mpr ⟨gM_6_14, List.forall_mem_cons.mpr ⟨gM_6_15, List.forall_mem_cons.mpr ⟨gM_6_16, List.forall_mem_cons.mpr ⟨gM_6_17, List.forall_mem_cons.mpr ⟨gM_6_18, List.forall_mem_cons.mpr ⟨gM_6_19, List.forall_mem_cons.mpr ⟨gM_6_20, List.forall_mem_cons.mpr ⟨gM_6_21, List.forall_mem_cons.mpr ⟨gM_6_22, List.forall_mem_cons.mpr ⟨gM_6_23, List.forall_mem_cons.mpr ⟨gM_6_24, List.forall_mem_cons.mpr ⟨gM_6_25, List.forall_mem_cons.mpr ⟨gM_6_26, List.forall_mem_cons.mpr ⟨gM_6_27, List.forall_mem_cons.mpr ⟨gM_6_28, List.forall_mem_cons.mpr ⟨gM_6_29, List.forall_mem_cons.mpr ⟨gM_6_30, List.forall_mem_cons.mpr ⟨gM_6_31, List.forall_mem_cons.mpr ⟨gM_6_32, List.forall_mem_cons.mpr ⟨gM_6_33, List.forall_mem_cons.mpr ⟨gM_6_34, List.forall_mem_cons.mpr ⟨gM_6_35, List.forall_mem_cons.mpr ⟨gM_6_36, List.forall_mem_cons.mpr ⟨gM_6_37, fun _ h => absurd h List.not_mem_nil⟩⟩⟩⟩⟩⟩⟩⟩⟩⟩⟩⟩⟩⟩⟩⟩⟩⟩⟩⟩⟩⟩⟩⟩⟩⟩⟩⟩⟩⟩⟩⟩⟩⟩⟩⟩⟩⟩
set_option maxRecDepth 20000 in
theorem gM_7_0 : PM 7 (3, (4, 9999)) := (in2 38 rfl rfl)
set_option maxRecDepth 20000 in
theorem gM_7_1 : PM 7 (11, (3, 211)) := ⟨Nat.le_of_ble_eq_true rfl, rfl, rfl, by decide +kernel, (in1 45 rfl rfl)⟩
set_option maxRecDepth 20000 in
theorem gM_7_2 : PM 7 (46, (0, 206)) := ⟨Nat.le_of_ble_eq_true rfl, (in4 80 rfl rfl), (in3 218 rfl rfl), (in3 219 rfl rfl)⟩
set_option maxRecDepth 20000 in
theorem gM_7_3 : PM 7 (50, (0, 307)) := ⟨Nat.le_of_ble_eq_true rfl, (in4 81 rfl rfl), (in4 83 rfl rfl), (in0 23 rfl rfl)⟩
set_option maxRecDepth 20000 in
theorem gM_7_4 : PM 7 (53, (0, 306)) := ⟨Nat.le_of_ble_eq_true rfl, (in4 76 rfl rfl), (in4 78 rfl rfl), (in0 22 rfl rfl)⟩
set_option maxRecDepth 20000 in
theorem gM_7_5 : PM 7 (71, (0, 320)) := ⟨Nat.le_of_ble_eq_true rfl, (in4 85 rfl rfl), (in4 87 rfl rfl), (in0 24 rfl rfl)⟩
set_option maxRecDepth 20000 in
theorem gM_7_6 : PM 7 (82, (0, 309)) := ⟨Nat.le_of_ble_eq_true rfl, (in5 235 rfl rfl), (in5 237 rfl rfl), (in0 64 rfl rfl)⟩
set_option maxRecDepth 20000 in
theorem gM_7_7 : PM 7 (86, (0, 311)) := ⟨Nat.le_of_ble_eq_true rfl, (in6 0 rfl rfl), (in6 2 rfl rfl), (in0 65 rfl rfl)⟩
set_option maxRecDepth 20000 in
theorem gM_7_8 : PM 7 (93, (0, 321)) := ⟨Nat.le_of_ble_eq_true rfl, (in4 89 rfl rfl), (in4 91 rfl rfl), (in0 25 rfl rfl)⟩
set_option maxRecDepth 20000 in
theorem gM_7_9 : PM 7 (97, (0, 314)) := ⟨Nat.le_of_ble_eq_true rfl, (in4 95 rfl rfl), (in4 97 rfl rfl), (in0 26 rfl rfl)⟩
set_option maxRecDepth 20000 in
theorem gM_7_10 : PM 7 (101, (0, 319)) := ⟨Nat.le_of_ble_eq_true rfl, (in4 107 rfl rfl), (in4 109 rfl rfl), (in0 28 rfl rfl)⟩
set_option maxRecDepth 20000 in
theorem gM_7_11 : PM 7 (107, (0, 308)) := ⟨Nat.le_of_ble_eq_true rfl, (in4 115 rfl rfl), (in4 117 rfl rfl), (in0 29 rfl rfl)⟩
set_option maxRecDepth 20000 in
theorem gM_7_12 : PM 7 (110, (0, 313)) := ⟨Nat.le_of_ble_eq_true rfl, (in4 122 rfl rfl), (in4 124 rfl rfl), (in0 30 rfl rfl)⟩
set_option maxRecDepth 20000 in
theorem gM_7_13 : PM 7 (113, (0, 318)) := ⟨Nat.le_of_ble_eq_true rfl, (in4 127 rfl rfl), (in4 129 rfl rfl), (in0 31 rfl rfl)⟩
set_option maxRecDepth 20000 in
theorem gM_7_14 : PM 7 (116, (0, 312)) := ⟨Nat.le_of_ble_eq_true rfl, (in4 131 rfl rfl), (in4 133 rfl rfl), (in0 32 rfl rfl)⟩
set_option maxRecDepth 20000 in
theorem gM_7_15 : PM 7 (121, (0, 6)) := ⟨Nat.le_of_ble_eq_true rfl, (in4 93 rfl rfl), (in4 23 rfl rfl), (in4 24 rfl rfl)⟩
set_option maxRecDepth 20000 in
theorem gM_7_16 : PM 7 (127, (0, 212)) := ⟨Nat.le_of_ble_eq_true rfl, (in4 94 rfl rfl), (in3 162 rfl rfl), (in3 163 rfl rfl)⟩
set_option maxRecDepth 20000 in
theorem gM_7_17 : PM 7 (130, (0, 223)) := ⟨Nat.le_of_ble_eq_true rfl, (in4 99 rfl rfl), (in4 100 rfl rfl), (in4 101 rfl rfl)⟩
set_option maxRecDepth 20000 in
theorem gM_7_18 : PM 7 (133, (0, 316)) := ⟨Nat.le_of_ble_eq_true rfl, (in4 103 rfl rfl), (in4 105 rfl rfl), (in0 27 rfl rfl)⟩
set_option maxRecDepth 20000 in
theorem gM_7_19 : PM 7 (136, (0, 216)) := ⟨Nat.le_of_ble_eq_true rfl, (in4 111 rfl rfl), (in4 112 rfl rfl), (in4 113 rfl rfl)⟩
set_option maxRecDepth 20000 in
theorem gM_7_20 : PM 7 (140, (0, 210)) := ⟨Nat.le_of_ble_eq_true rfl, (in4 119 rfl rfl), (in4 31 rfl rfl), (in4 32 rfl rfl)⟩
set_option maxRecDepth 20000 in
theorem gM_7_21 : PM 7 (143, (0, 218)) := ⟨Nat.le_of_ble_eq_true rfl, (in4 120 rfl rfl), (in4 39 rfl rfl), (in4 40 rfl rfl)⟩
set_option maxRecDepth 20000 in
theorem gM_7_22 : PM 7 (153, (10, 9999)) := (in4 121 rfl rfl)
set_option maxRecDepth 20000 in
theorem gM_7_23 : PM 7 (165, (11, 9999)) := (in4 126 rfl rfl)
set_option maxRecDepth 20000 in
theorem gM_7_24 : PM 7 (168, (0, 8)) := ⟨Nat.le_of_ble_eq_true rfl, (in4 135 rfl rfl), (in4 136 rfl rfl), (in4 137 rfl rfl)⟩
set_option maxRecDepth 20000 in
theorem gM_7_25 : PM 7 (171, (0, 323)) := ⟨Nat.le_of_ble_eq_true rfl, (in4 148 rfl rfl), (in4 150 rfl rfl), (in0 33 rfl rfl)⟩
set_option maxRecDepth 20000 in
theorem gM_7_26 : PM 7 (174, (0, 9)) := ⟨Nat.le_of_ble_eq_true rfl, (in4 152 rfl rfl), (in4 19 rfl rfl), (in4 20 rfl rfl)⟩
theorem gM_7 : ∀ e ∈ tbM_7, PM 7 e := List.forall_mem_cons.mpr ⟨gM_7_0, List.forall_mem_cons.mpr ⟨gM_7_1, List.forall_mem_cons.mpr ⟨gM_7_2, List.forall_mem_cons.mpr ⟨gM_7_3, List.forall_mem_cons.mpr ⟨gM_7_4, List.forall_mem_cons.mpr ⟨gM_7_5, List.forall_mem_cons.mpr ⟨gM_7_6, List.forall_mem_cons.mpr ⟨gM_7_7, List.forall_mem_cons.mpr ⟨gM_7_8, List.forall_mem_cons.mpr ⟨gM_7_9, List.forall_mem_cons.mpr ⟨gM_7_10, List.forall_mem_cons.mpr ⟨gM_7_11, List.forall_mem_cons.mpr ⟨gM_7_12, List.forall_mem_cons.mpr ⟨gM_7_13, List.forall_mem_cons.mpr ⟨gM_7_14, List.forall_mem_cons.mpr ⟨gM_7_15, List.forall_mem_cons.mpr ⟨gM_7_16, List.forall_mem_cons.mpr ⟨gM_7_17, List.forall_mem_cons.mpr ⟨gM_7_18, List.forall_mem_cons.mpr ⟨gM_7_19, List.forall_mem_cons.mpr ⟨gM_7_20, List.forall_mem_cons.mpr ⟨gM_7_21, List.forall_mem_cons.mpr ⟨gM_7_22, List.forall_mem_cons.mpr ⟨gM_7_23, List.forall_mem_cons.mpr ⟨gM_7_24, List.forall_mem_cons.mpr ⟨gM_7_25, List.forall_mem_cons.mpr ⟨gM_7_26, fun _ h => absurd h List.not_mem_nil⟩⟩⟩⟩⟩⟩⟩⟩⟩⟩⟩⟩⟩⟩⟩⟩⟩⟩⟩⟩⟩⟩⟩⟩⟩⟩⟩
set_option maxRecDepth 20000 in
theorem gM_8_0 : PM 8 (3, (4, 9999)) := (in1 36 rfl rfl)
set_option maxRecDepth 20000 in
theorem gM_8_1 : PM 8 (47, (3, 211)) := ⟨Nat.le_of_ble_eq_true rfl, rfl, rfl, by decide +kernel, (in1 45 rfl rfl)⟩
set_option maxRecDepth 20000 in
theorem gM_8_2 : PM 8 (48, (3, 12)) := ⟨Nat.le_of_ble_eq_true rfl, rfl, rfl, by decide +kernel, (in1 141 rfl rfl)⟩
set_option maxRecDepth 20000 in
theorem gM_8_3 : PM 8 (49, (3, 196)) := ⟨Nat.le_of_ble_eq_true rfl, rfl, rfl, by decide +kernel, (in1 165 rfl rfl)⟩
set_option maxRecDepth 20000 in
theorem gM_8_4 : PM 8 (56, (0, 206)) := ⟨Nat.le_of_ble_eq_true rfl, (in3 217 rfl rfl), (in3 218 rfl rfl), (in3 219 rfl rfl)⟩
set_option maxRecDepth 20000 in
theorem gM_8_5 : PM 8 (64, (0, 11)) := ⟨Nat.le_of_ble_eq_true rfl, (in3 227 rfl rfl), (in3 228 rfl rfl), (in3 229 rfl rfl)⟩
set_option maxRecDepth 20000 in
theorem gM_8_6 : PM 8 (70, (0, 194)) := ⟨Nat.le_of_ble_eq_true rfl, (in3 232 rfl rfl), (in3 233 rfl rfl), (in3 234 rfl rfl)⟩
set_option maxRecDepth 20000 in
theorem gM_8_7 : PM 8 (73, (10, 9999)) := (in3 237 rfl rfl)
set_option maxRecDepth 20000 in
theorem gM_8_8 : PM 8 (79, (5, 9999)) := (in6 168 rfl rfl)
theorem gM_8 : ∀ e ∈ tbM_8, PM 8 e := List.forall_mem_cons.mpr ⟨gM_8_0, List.forall_mem_cons.mpr ⟨gM_8_1, List.forall_mem_cons.mpr ⟨gM_8_2, List.forall_mem_cons.mpr ⟨gM_8_3, List.forall_mem_cons.mpr ⟨gM_8_4, List.forall_mem_cons.mpr ⟨gM_8_5, List.forall_mem_cons.mpr ⟨gM_8_6, List.forall_mem_cons.mpr ⟨gM_8_7, List.forall_mem_cons.mpr ⟨gM_8_8, fun _ h => absurd h List.not_mem_nil⟩⟩⟩⟩⟩⟩⟩⟩⟩
set_option maxRecDepth 20000 in
theorem gM_9_0 : PM 9 (3, (4, 9999)) := (in2 144 rfl rfl)
set_option maxRecDepth 20000 in
theorem gM_9_1 : PM 9 (35, (0, 340)) := ⟨Nat.le_of_ble_eq_true rfl, (in5 71 rfl rfl), (in5 73 rfl rfl), (in0 55 rfl rfl)⟩
set_option maxRecDepth 20000 in
theorem gM_9_2 : PM 9 (39, (0, 339)) := ⟨Nat.le_of_ble_eq_true rfl, (in5 75 rfl rfl), (in5 77 rfl rfl), (in0 56 rfl rfl)⟩
set_option maxRecDepth 20000 in
theorem gM_9_3 : PM 9 (43, (0, 343)) := ⟨Nat.le_of_ble_eq_true rfl, (in5 85 rfl rfl), (in5 87 rfl rfl), (in0 57 rfl rfl)⟩
set_option maxRecDepth 20000 in
theorem gM_9_4 : PM 9 (46, (1, 2)) := ⟨Nat.le_of_ble_eq_true rfl, (in5 89 rfl rfl), (in1 55 rfl rfl)⟩
set_option maxRecDepth 20000 in
theorem gM_9_5 : PM 9 (52, (1, 333)) := ⟨Nat.le_of_ble_eq_true rfl, (in5 95 rfl rfl), (in5 96 rfl rfl)⟩
set_option maxRecDepth 20000 in
theorem gM_9_6 : PM 9 (64, (0, 207)) := ⟨Nat.le_of_ble_eq_true rfl, (in5 79 rfl rfl), (in5 80 rfl rfl), (in5 81 rfl rfl)⟩
set_option maxRecDepth 20000 in
theorem gM_9_7 : PM 9 (68, (0, 210)) := ⟨Nat.le_of_ble_eq_true rfl, (in5 90 rfl rfl), (in4 31 rfl rfl), (in4 32 rfl rfl)⟩
set_option maxRecDepth 20000 in
theorem gM_9_8 : PM 9 (72, (0, 332)) := ⟨Nat.le_of_ble_eq_true rfl, (in5 91 rfl rfl), (in5 93 rfl rfl), (in0 58 rfl rfl)⟩
set_option maxRecDepth 20000 in
theorem gM_9_9 : PM 9 (78, (0, 338)) := ⟨Nat.le_of_ble_eq_true rfl, (in5 98 rfl rfl), (in5 100 rfl rfl), (in0 59 rfl rfl)⟩
set_option maxRecDepth 20000 in
theorem gM_9_10 : PM 9 (91, (0, 223)) := ⟨Nat.le_of_ble_eq_true rfl, (in5 103 rfl rfl), (in4 100 rfl rfl), (in4 101 rfl rfl)⟩
set_option maxRecDepth 20000 in
theorem gM_9_11 : PM 9 (95, (5, 9999)) := (in5 102 rfl rfl)
set_option maxRecDepth 20000 in
theorem gM_9_12 : PM 9 (101, (1, 1)) := ⟨Nat.le_of_ble_eq_true rfl, (in6 12 rfl rfl), (in6 13 rfl rfl)⟩
set_option maxRecDepth 20000 in
theorem gM_9_13 : PM 9 (106, (1, 334)) := ⟨Nat.le_of_ble_eq_true rfl, (in6 18 rfl rfl), (in6 19 rfl rfl)⟩
set_option maxRecDepth 20000 in
theorem gM_9_14 : PM 9 (110, (1, 335)) := ⟨Nat.le_of_ble_eq_true rfl, (in6 113 rfl rfl), (in6 114 rfl rfl)⟩
theorem gM_9 : ∀ e ∈ tbM_9, PM 9 e := List.forall_mem_cons.mpr ⟨gM_9_0, List.forall_mem_cons.mpr ⟨gM_9_1, List.forall_mem_cons.mpr ⟨gM_9_2, List.forall_mem_cons.mpr ⟨gM_9_3, List.forall_mem_cons.mpr ⟨gM_9_4, List.forall_mem_cons.mpr ⟨gM_9_5, List.forall_mem_cons.mpr ⟨gM_9_6, List.forall_mem_cons.mpr ⟨gM_9_7, List.forall_mem_cons.mpr ⟨gM_9_8, List.forall_mem_cons.mpr ⟨gM_9_9, List.forall_mem_cons.mpr ⟨gM_9_10, List.forall_mem_cons.mpr ⟨gM_9_11, List.forall_mem_cons.mpr ⟨gM_9_12, List.forall_mem_cons.mpr ⟨gM_9_13, List.forall_mem_cons.mpr ⟨gM_9_14, fun _ h => absurd h List.not_mem_nil⟩⟩⟩⟩⟩⟩⟩⟩⟩⟩⟩⟩⟩⟩⟩
set_option maxRecDepth 20000 in
theorem gM_10_0 : PM 10 (3, (4, 9999)) := (in1 143 rfl rfl)
set_option maxRecDepth 20000 in
theorem gM_10_1 : PM 10 (25, (5, 9999)) := (in3 231 rfl rfl)
theorem gM_10 : ∀ e ∈ tbM_10, PM 10 e := List.forall_mem_cons.mpr ⟨gM_10_0, List.forall_mem_cons.mpr ⟨gM_10_1, fun _ h => absurd h List.not_mem_nil⟩⟩
set_option maxRecDepth 20000 in
theorem gM_11_0 : PM 11 (1, (4, 9999)) := (in1 28 rfl rfl)
set_option maxRecDepth 20000 in
theorem gM_11_1 : PM 11 (9, (2, 328)) := ⟨Nat.le_of_ble_eq_true rfl, rfl, rfl, (in1 33 rfl rfl), (in1 34 rfl rfl)⟩
set_option maxRecDepth 20000 in
theorem gM_11_2 : PM 11 (22, (3, 292)) := ⟨Nat.le_of_ble_eq_true rfl, rfl, rfl, by decide +kernel, (in1 216 rfl rfl)⟩
set_option maxRecDepth 20000 in
theorem gM_11_3 : PM 11 (29, (3, 315)) := ⟨Nat.le_of_ble_eq_true rfl, rfl, rfl, by decide +kernel, (in2 36 rfl rfl)⟩
set_option maxRecDepth 20000 in
theorem gM_11_4 : PM 11 (36, (3, 258)) := ⟨Nat.le_of_ble_eq_true rfl, rfl, rfl, by decide +kernel, (in2 75 rfl rfl)⟩
set_option maxRecDepth 20000 in
theorem gM_11_5 : PM 11 (43, (3, 243)) := ⟨Nat.le_of_ble_eq_true rfl, rfl, rfl, by decide +kernel, (in2 117 rfl rfl)⟩
set_option maxRecDepth 20000 in
theorem gM_11_6 : PM 11 (50, (3, 337)) := ⟨Nat.le_of_ble_eq_true rfl, rfl, rfl, by decide +kernel, (in2 142 rfl rfl)⟩
set_option maxRecDepth 20000 in
theorem gM_11_7 : PM 11 (57, (3, 226)) := ⟨Nat.le_of_ble_eq_true rfl, rfl, rfl, by decide +kernel, (in2 173 rfl rfl)⟩
set_option maxRecDepth 20000 in
theorem gM_11_8 : PM 11 (66, (0, 324)) := ⟨Nat.le_of_ble_eq_true rfl, (in2 233 rfl rfl), (in2 234 rfl rfl), (in2 235 rfl rfl)⟩
set_option maxRecDepth 20000 in
theorem gM_11_9 : PM 11 (76, (0, 330)) := ⟨Nat.le_of_ble_eq_true rfl, (in3 5 rfl rfl), (in3 6 rfl rfl), (in3 7 rfl rfl)⟩
set_option maxRecDepth 20000 in
theorem gM_11_10 : PM 11 (84, (0, 297)) := ⟨Nat.le_of_ble_eq_true rfl, (in3 9 rfl rfl), (in3 10 rfl rfl), (in3 11 rfl rfl)⟩
set_option maxRecDepth 20000 in
theorem gM_11_11 : PM 11 (90, (0, 329)) := ⟨Nat.le_of_ble_eq_true rfl, (in3 213 rfl rfl), (in3 214 rfl rfl), (in3 215 rfl rfl)⟩
set_option maxRecDepth 20000 in
theorem gM_11_12 : PM 11 (94, (0, 327)) := ⟨Nat.le_of_ble_eq_true rfl, (in4 6 rfl rfl), (in4 7 rfl rfl), (in4 8 rfl rfl)⟩
set_option maxRecDepth 20000 in
theorem gM_11_13 : PM 11 (98, (0, 220)) := ⟨Nat.le_of_ble_eq_true rfl, (in4 10 rfl rfl), (in4 11 rfl rfl), (in4 12 rfl rfl)⟩
set_option maxRecDepth 20000 in
theorem gM_11_14 : PM 11 (104, (0, 218)) := ⟨Nat.le_of_ble_eq_true rfl, (in4 38 rfl rfl), (in4 39 rfl rfl), (in4 40 rfl rfl)⟩
set_option maxRecDepth 20000 in
theorem gM_11_15 : PM 11 (108, (0, 209)) := ⟨Nat.le_of_ble_eq_true rfl, (in4 55 rfl rfl), (in4 43 rfl rfl), (in4 44 rfl rfl)⟩
set_option maxRecDepth 20000 in
theorem gM_11_16 : PM 11 (111, (0, 331)) := ⟨Nat.le_of_ble_eq_true rfl, (in4 60 rfl rfl), (in4 61 rfl rfl), (in4 62 rfl rfl)⟩
set_option maxRecDepth 20000 in
theorem gM_11_17 : PM 11 (115, (0, 13)) := ⟨Nat.le_of_ble_eq_true rfl, (in4 64 rfl rfl), (in4 65 rfl rfl), (in4 66 rfl rfl)⟩
set_option maxRecDepth 20000 in
theorem gM_11_18 : PM 11 (122, (0, 317)) := ⟨Nat.le_of_ble_eq_true rfl, (in4 72 rfl rfl), (in4 73 rfl rfl), (in4 74 rfl rfl)⟩
set_option maxRecDepth 20000 in
theorem gM_11_19 : PM 11 (126, (0, 322)) := ⟨Nat.le_of_ble_eq_true rfl, (in4 144 rfl rfl), (in4 145 rfl rfl), (in4 146 rfl rfl)⟩
set_option maxRecDepth 20000 in
theorem gM_11_20 : PM 11 (127, (0, 264)) := ⟨Nat.le_of_ble_eq_true rfl, (in4 157 rfl rfl), (in4 158 rfl rfl), (in4 159 rfl rfl)⟩
set_option maxRecDepth 20000 in
theorem gM_11_21 : PM 11 (131, (0, 260)) := ⟨Nat.le_of_ble_eq_true rfl, (in5 11 rfl rfl), (in5 12 rfl rfl), (in5 13 rfl rfl)⟩
set_option maxRecDepth 20000 in
theorem gM_11_22 : PM 11 (139, (0, 6)) := ⟨Nat.le_of_ble_eq_true rfl, (in5 19 rfl rfl), (in4 23 rfl rfl), (in4 24 rfl rfl)⟩
set_option maxRecDepth 20000 in
theorem gM_11_23 : PM 11 (145, (0, 253)) := ⟨Nat.le_of_ble_eq_true rfl, (in5 20 rfl rfl), (in5 21 rfl rfl), (in5 22 rfl rfl)⟩
set_option maxRecDepth 20000 in
theorem gM_11_24 : PM 11 (148, (0, 279)) := ⟨Nat.le_of_ble_eq_true rfl, (in5 24 rfl rfl), (in5 25 rfl rfl), (in5 26 rfl rfl)⟩
set_option maxRecDepth 20000 in
theorem gM_11_25 : PM 11 (151, (0, 270)) := ⟨Nat.le_of_ble_eq_true rfl, (in5 32 rfl rfl), (in5 33 rfl rfl), (in5 34 rfl rfl)⟩
set_option maxRecDepth 20000 in
theorem gM_11_26 : PM 11 (155, (0, 263)) := ⟨Nat.le_of_ble_eq_true rfl, (in5 36 rfl rfl), (in5 37 rfl rfl), (in5 38 rfl rfl)⟩
set_option maxRecDepth 20000 in
theorem gM_11_27 : PM 11 (159, (0, 223)) := ⟨Nat.le_of_ble_eq_true rfl, (in5 44 rfl rfl), (in4 100 rfl rfl), (in4 101 rfl rfl)⟩
set_option maxRecDepth 20000 in
theorem gM_11_28 : PM 11 (160, (0, 241)) := ⟨Nat.le_of_ble_eq_true rfl, (in5 45 rfl rfl), (in5 46 rfl rfl), (in5 47 rfl rfl)⟩
set_option maxRecDepth 20000 in
theorem gM_11_29 : PM 11 (168, (0, 210)) := ⟨Nat.le_of_ble_eq_true rfl, (in5 66 rfl rfl), (in4 31 rfl rfl), (in4 32 rfl rfl)⟩
set_option maxRecDepth 20000 in
theorem gM_11_30 : PM 11 (171, (0, 341)) := ⟨Nat.le_of_ble_eq_true rfl, (in5 67 rfl rfl), (in5 68 rfl rfl), (in5 69 rfl rfl)⟩
set_option maxRecDepth 20000 in
theorem gM_11_31 : PM 11 (180, (0, 234)) := ⟨Nat.le_of_ble_eq_true rfl, (in5 108 rfl rfl), (in5 109 rfl rfl), (in5 110 rfl rfl)⟩
set_option maxRecDepth 20000 in
theorem gM_11_32 : PM 11 (183, (0, 224)) := ⟨Nat.le_of_ble_eq_true rfl, (in5 115 rfl rfl), (in5 116 rfl rfl), (in5 117 rfl rfl)⟩
set_option maxRecDepth 20000 in
theorem gM_11_33 : PM 11 (186, (0, 228)) := ⟨Nat.le_of_ble_eq_true rfl, (in5 123 rfl rfl), (in5 120 rfl rfl), (in5 121 rfl rfl)⟩
set_option maxRecDepth 20000 in
theorem gM_11_34 : PM 11 (191, (0, 235)) := ⟨Nat.le_of_ble_eq_true rfl, (in5 129 rfl rfl), (in5 130 rfl rfl), (in5 131 rfl rfl)⟩
set_option maxRecDepth 20000 in
theorem gM_11_35 : PM 11 (206, (1, 25)) := ⟨Nat.le_of_ble_eq_true rfl, (in5 137 rfl rfl), (in5 138 rfl rfl)⟩
set_option maxRecDepth 20000 in
theorem gM_11_36 : PM 11 (210, (0, 233)) := ⟨Nat.le_of_ble_eq_true rfl, (in5 148 rfl rfl), (in5 149 rfl rfl), (in5 150 rfl rfl)⟩
set_option maxRecDepth 20000 in
theorem gM_11_37 : PM 11 (214, (0, 231)) := ⟨Nat.le_of_ble_eq_true rfl, (in5 160 rfl rfl), (in5 161 rfl rfl), (in5 162 rfl rfl)⟩
set_option maxRecDepth 20000 in
theorem gM_11_38 : PM 11 (217, (0, 229)) := ⟨Nat.le_of_ble_eq_true rfl, (in5 168 rfl rfl), (in5 169 rfl rfl), (in5 170 rfl rfl)⟩
set_option maxRecDepth 20000 in
theorem gM_11_39 : PM 11 (220, (0, 230)) := ⟨Nat.le_of_ble_eq_true rfl, (in5 172 rfl rfl), (in5 173 rfl rfl), (in5 174 rfl rfl)⟩
set_option maxRecDepth 20000 in
theorem gM_11_40 : PM 11 (223, (0, 325)) := ⟨Nat.le_of_ble_eq_true rfl, (in5 180 rfl rfl), (in5 181 rfl rfl), (in5 182 rfl rfl)⟩
set_option maxRecDepth 20000 in
theorem gM_11_41 : PM 11 (227, (0, 202)) := ⟨Nat.le_of_ble_eq_true rfl, (in5 184 rfl rfl), (in5 185 rfl rfl), (in5 186 rfl rfl)⟩
set_option maxRecDepth 20000 in
theorem gM_11_42 : PM 11 (230, (0, 201)) := ⟨Nat.le_of_ble_eq_true rfl, (in5 192 rfl rfl), (in5 193 rfl rfl), (in5 194 rfl rfl)⟩
set_option maxRecDepth 20000 in
theorem gM_11_43 : PM 11 (234, (1, 0)) := ⟨Nat.le_of_ble_eq_true rfl, (in5 205 rfl rfl), (in5 206 rfl rfl)⟩
set_option maxRecDepth 20000 in
theorem gM_11_44 : PM 11 (240, (1, 199)) := ⟨Nat.le_of_ble_eq_true rfl, (in5 211 rfl rfl), (in5 212 rfl rfl)⟩
set_option maxRecDepth 20000 in
theorem gM_11_45 : PM 11 (244, (1, 193)) := ⟨Nat.le_of_ble_eq_true rfl, (in5 214 rfl rfl), (in5 215 rfl rfl)⟩
set_option maxRecDepth 20000 in
theorem gM_11_46 : PM 11 (248, (1, 200)) := ⟨Nat.le_of_ble_eq_true rfl, (in5 224 rfl rfl), (in5 225 rfl rfl)⟩
set_option maxRecDepth 20000 in
theorem gM_11_47 : PM 11 (252, (0, 310)) := ⟨Nat.le_of_ble_eq_true rfl, (in5 231 rfl rfl), (in5 232 rfl rfl), (in5 233 rfl rfl)⟩
set_option maxRecDepth 20000 in
theorem gM_11_48 : PM 11 (256, (0, 336)) := ⟨Nat.le_of_ble_eq_true rfl, (in6 8 rfl rfl), (in6 9 rfl rfl), (in6 10 rfl rfl)⟩
set_option maxRecDepth 20000 in
theorem gM_11_49 : PM 11 (259, (0, 207)) := ⟨Nat.le_of_ble_eq_true rfl, (in6 25 rfl rfl), (in5 80 rfl rfl), (in5 81 rfl rfl)⟩
set_option maxRecDepth 20000 in
theorem gM_11_50 : PM 11 (263, (0, 277)) := ⟨Nat.le_of_ble_eq_true rfl, (in6 30 rfl rfl), (in6 31 rfl rfl), (in6 32 rfl rfl)⟩
set_option maxRecDepth 20000 in
theorem gM_11_51 : PM 11 (266, (0, 276)) := ⟨Nat.le_of_ble_eq_true rfl, (in6 34 rfl rfl), (in6 35 rfl rfl), (in6 36 rfl rfl)⟩
set_option maxRecDepth 20000 in
theorem gM_11_52 : PM 11 (269, (0, 242)) := ⟨Nat.le_of_ble_eq_true rfl, (in6 42 rfl rfl), (in6 43 rfl rfl), (in6 44 rfl rfl)⟩
set_option maxRecDepth 20000 in
theorem gM_11_53 : PM 11 (275, (0, 204)) := ⟨Nat.le_of_ble_eq_true rfl, (in6 50 rfl rfl), (in6 51 rfl rfl), (in6 52 rfl rfl)⟩
set_option maxRecDepth 20000 in
theorem gM_11_54 : PM 11 (278, (0, 217)) := ⟨Nat.le_of_ble_eq_true rfl, (in6 58 rfl rfl), (in6 59 rfl rfl), (in6 60 rfl rfl)⟩
set_option maxRecDepth 20000 in
theorem gM_11_55 : PM 11 (284, (0, 213)) := ⟨Nat.le_of_ble_eq_true rfl, (in6 70 rfl rfl), (in4 48 rfl rfl), (in4 49 rfl rfl)⟩
set_option maxRecDepth 20000 in
theorem gM_11_56 : PM 11 (289, (12, 9999)) := (in6 71 rfl rfl)
set_option maxRecDepth 20000 in
theorem gM_11_57 : PM 11 (294, (0, 214)) := ⟨Nat.le_of_ble_eq_true rfl, (in6 76 rfl rfl), (in6 77 rfl rfl), (in6 78 rfl rfl)⟩
set_option maxRecDepth 20000 in
theorem gM_11_58 : PM 11 (297, (0, 236)) := ⟨Nat.le_of_ble_eq_true rfl, (in6 84 rfl rfl), (in6 85 rfl rfl), (in6 86 rfl rfl)⟩
set_option maxRecDepth 20000 in
theorem gM_11_59 : PM 11 (301, (0, 269)) := ⟨Nat.le_of_ble_eq_true rfl, (in6 96 rfl rfl), (in6 97 rfl rfl), (in6 98 rfl rfl)⟩
set_option maxRecDepth 20000 in
theorem gM_11_60 : PM 11 (304, (0, 342)) := ⟨Nat.le_of_ble_eq_true rfl, (in6 109 rfl rfl), (in6 110 rfl rfl), (in6 111 rfl rfl)⟩
set_option maxRecDepth 20000 in
theorem gM_11_61 : PM 11 (309, (0, 239)) := ⟨Nat.le_of_ble_eq_true rfl, (in6 121 rfl rfl), (in6 122 rfl rfl), (in6 123 rfl rfl)⟩
set_option maxRecDepth 20000 in
theorem gM_11_62 : PM 11 (315, (0, 254)) := ⟨Nat.le_of_ble_eq_true rfl, (in6 141 rfl rfl), (in6 142 rfl rfl), (in6 143 rfl rfl)⟩
set_option maxRecDepth 20000 in
theorem gM_11_63 : PM 11 (322, (0, 326)) := ⟨Nat.le_of_ble_eq_true rfl, (in6 164 rfl rfl), (in6 165 rfl rfl), (in6 166 rfl rfl)⟩
set_option maxRecDepth 20000 in
theorem gM_11_64 : PM 11 (326, (13, 9999)) := (in5 140 rfl rfl)
set_option maxRecDepth 20000 in
theorem gM_11_65 : PM 11 (329, (14, 9999)) := (in5 143 rfl rfl)
theorem gM_11 : ∀ e ∈ tbM_11, PM 11 e := List.forall_mem_cons.mpr ⟨gM_11_0, List.forall_mem_cons.mpr ⟨gM_11_1, List.forall_mem_cons.mpr ⟨gM_11_2, List.forall_mem_cons.mpr ⟨gM_11_3, List.forall_mem_cons.mpr ⟨gM_11_4, List.forall_mem_cons.mpr ⟨gM_11_5, List.forall_mem_cons.mpr ⟨gM_11_6, List.forall_mem_cons.mpr ⟨gM_11_7, List.forall_mem_cons.mpr ⟨gM_11_8, List.forall_mem_cons.mpr ⟨gM_11_9, List.forall_mem_cons.mpr ⟨gM_11_10, List.forall_mem_cons.mpr ⟨gM_11_11, List.forall_mem_cons.mpr ⟨gM_11_12, List.forall_mem_cons.mpr ⟨gM_11_13, List.forall_mem_cons.mpr ⟨gM_11_14, List.forall_mem_cons.mpr ⟨gM_11_15, List.forall_mem_cons.mpr ⟨gM_11_16, List.forall_mem_cons.mpr ⟨gM_11_17, List.forall_mem_cons.mpr ⟨gM_11_18, List.forall_mem_cons.mpr ⟨gM_11_19, List.forall_mem_cons.mpr ⟨gM_11_20, List.forall_mem_cons.mpr ⟨gM_11_21, List.forall_mem_cons.mpr ⟨gM_11_22, List.forall_mem_cons.mpr ⟨gM_11_23, List.forall_mem_cons.mpr ⟨gM_11_24, List.forall_mem_cons.mpr ⟨gM_11_25, List.forall_mem_cons.mpr ⟨gM_11_26, List.forall_mem_cons.mpr ⟨gM_11_27, List.forall_mem_cons.mpr ⟨gM_11_28, List.forall_mem_cons.mpr ⟨gM_11_29, List.forall_mem_cons.mpr ⟨gM_11_30, List.forall_mem_cons.mpr ⟨gM_11_31, List.forall_mem_cons.mpr ⟨gM_11_32, List.forall_mem_cons.mpr ⟨gM_11_33, List.forall_mem_cons.mpr ⟨gM_11_34, List.forall_mem_cons.mpr ⟨gM_11_35, List.forall_mem_cons.mpr ⟨gM_11_36, List.forall_mem_cons.mpr ⟨gM_11_37, List.forall_mem_cons.mpr ⟨gM_11_38, List.forall_mem_cons.mpr ⟨gM_11_39, List.forall_mem_cons.mpr ⟨gM_11_40, List.forall_mem_cons.mpr ⟨gM_11_41, List.forall_mem_cons.mpr ⟨gM_11_42, List.forall_mem_cons.mpr ⟨gM_11_43, List.forall_mem_cons.mpr ⟨gM_11_44, List.forall_mem_cons.mpr ⟨gM_11_45, List.forall_mem_cons.mpr ⟨gM_11_46, List.forall_mem_cons.mpr ⟨gM_11_47, List.forall_mem_cons.mpr ⟨gM_11_48, List.forall_mem_cons.mpr ⟨gM_11_49, List.forall_mem_cons.mpr ⟨gM_11_50, List.forall_mem_cons.mpr ⟨gM_11_51, List.forall_mem_cons.mpr ⟨gM_11_52, List.forall_mem_cons.mpr ⟨gM_11_53, List.forall_mem_cons.mpr ⟨gM_11_54, List.forall_mem_cons.mpr ⟨gM_11_55, List.forall_mem_cons.mpr ⟨gM_11_56, List.forall_mem_cons.mpr ⟨gM_11_57, List.forall_mem_cons.mpr ⟨gM_11_58, List.forall_mem_cons.mpr ⟨gM_11_59, List.forall_mem_cons.mpr ⟨gM_11_60, List.forall_mem_cons.mpr ⟨gM_11_61, List.forall_mem_cons.mpr ⟨gM_11_62, List.forall_mem_cons.mpr ⟨gM_11_63, List.forall_mem_cons.mpr ⟨gM_11_64, List.forall_mem_cons.mpr ⟨gM_11_65, fun _ h => absurd h List.not_mem_nil⟩⟩⟩⟩⟩⟩⟩⟩⟩⟩⟩⟩⟩⟩⟩⟩⟩⟩⟩⟩⟩⟩⟩⟩⟩⟩⟩⟩⟩⟩⟩⟩⟩⟩⟩⟩⟩⟩⟩⟩⟩⟩⟩⟩⟩⟩⟩⟩⟩⟩⟩⟩⟩⟩⟩⟩⟩⟩⟩⟩⟩⟩⟩⟩⟩⟩
set_option maxRecDepth 20000 in
theorem gM_12_0 : PM 12 (1, (4, 9999)) := (in6 178 rfl rfl)
set_option maxRecDepth 20000 in
theorem gM_12_1 : PM 12 (107, (1, 106)) := ⟨Nat.le_of_ble_eq_true rfl, (in8 79 rfl rfl), (in8 80 rfl rfl)⟩
set_option maxRecDepth 20000 in
theorem gM_12_2 : PM 12 (111, (1, 70)) := ⟨Nat.le_of_ble_eq_true rfl, (in9 198 rfl rfl), (in9 199 rfl rfl)⟩
set_option maxRecDepth 20000 in
theorem gM_12_3 : PM 12 (115, (1, 114)) := ⟨Nat.le_of_ble_eq_true rfl, (in7 136 rfl rfl), (in7 137 rfl rfl)⟩
set_option maxRecDepth 20000 in
theorem gM_12_4 : PM 12 (119, (0, 97)) := ⟨Nat.le_of_ble_eq_true rfl, (in7 128 rfl rfl), (in7 130 rfl rfl), (in0 73 rfl rfl)⟩
set_option maxRecDepth 20000 in
theorem gM_12_5 : PM 12 (129, (0, 163)) := ⟨Nat.le_of_ble_eq_true rfl, (in7 155 rfl rfl), (in7 157 rfl rfl), (in0 77 rfl rfl)⟩
set_option maxRecDepth 20000 in
theorem gM_12_6 : PM 12 (155, (0, 86)) := ⟨Nat.le_of_ble_eq_true rfl, (in7 175 rfl rfl), (in7 177 rfl rfl), (in0 81 rfl rfl)⟩
set_option maxRecDepth 20000 in
theorem gM_12_7 : PM 12 (159, (0, 126)) := ⟨Nat.le_of_ble_eq_true rfl, (in7 183 rfl rfl), (in7 185 rfl rfl), (in0 83 rfl rfl)⟩
set_option maxRecDepth 20000 in
theorem gM_12_8 : PM 12 (167, (0, 181)) := ⟨Nat.le_of_ble_eq_true rfl, (in7 151 rfl rfl), (in7 153 rfl rfl), (in0 76 rfl rfl)⟩
set_option maxRecDepth 20000 in
theorem gM_12_9 : PM 12 (170, (0, 173)) := ⟨Nat.le_of_ble_eq_true rfl, (in7 191 rfl rfl), (in7 193 rfl rfl), (in0 85 rfl rfl)⟩
set_option maxRecDepth 20000 in
theorem gM_12_10 : PM 12 (176, (1, 101)) := ⟨Nat.le_of_ble_eq_true rfl, (in7 195 rfl rfl), (in7 196 rfl rfl)⟩
set_option maxRecDepth 20000 in
theorem gM_12_11 : PM 12 (191, (0, 98)) := ⟨Nat.le_of_ble_eq_true rfl, (in7 179 rfl rfl), (in7 181 rfl rfl), (in0 82 rfl rfl)⟩
set_option maxRecDepth 20000 in
theorem gM_12_12 : PM 12 (195, (0, 159)) := ⟨Nat.le_of_ble_eq_true rfl, (in7 187 rfl rfl), (in7 189 rfl rfl), (in0 84 rfl rfl)⟩
set_option maxRecDepth 20000 in
theorem gM_12_13 : PM 12 (198, (0, 63)) := ⟨Nat.le_of_ble_eq_true rfl, (in7 198 rfl rfl), (in7 200 rfl rfl), (in0 86 rfl rfl)⟩
set_option maxRecDepth 20000 in
theorem gM_12_14 : PM 12 (201, (0, 58)) := ⟨Nat.le_of_ble_eq_true rfl, (in7 202 rfl rfl), (in7 204 rfl rfl), (in0 87 rfl rfl)⟩
set_option maxRecDepth 20000 in
theorem gM_12_15 : PM 12 (217, (1, 78)) := ⟨Nat.le_of_ble_eq_true rfl, (in7 210 rfl rfl), (in7 211 rfl rfl)⟩
set_option maxRecDepth 20000 in
theorem gM_12_16 : PM 12 (221, (0, 174)) := ⟨Nat.le_of_ble_eq_true rfl, (in7 219 rfl rfl), (in7 221 rfl rfl), (in0 89 rfl rfl)⟩
set_option maxRecDepth 20000 in
theorem gM_12_17 : PM 12 (224, (0, 125)) := ⟨Nat.le_of_ble_eq_true rfl, (in7 223 rfl rfl), (in7 225 rfl rfl), (in0 90 rfl rfl)⟩
set_option maxRecDepth 20000 in
theorem gM_12_18 : PM 12 (237, (0, 96)) := ⟨Nat.le_of_ble_eq_true rfl, (in7 167 rfl rfl), (in7 169 rfl rfl), (in0 80 rfl rfl)⟩
set_option maxRecDepth 20000 in
theorem gM_12_19 : PM 12 (241, (0, 190)) := ⟨Nat.le_of_ble_eq_true rfl, (in7 206 rfl rfl), (in7 208 rfl rfl), (in0 88 rfl rfl)⟩
set_option maxRecDepth 20000 in
theorem gM_12_20 : PM 12 (244, (0, 65)) := ⟨Nat.le_of_ble_eq_true rfl, (in7 227 rfl rfl), (in7 229 rfl rfl), (in0 91 rfl rfl)⟩
set_option maxRecDepth 20000 in
theorem gM_12_21 : PM 12 (247, (0, 138)) := ⟨Nat.le_of_ble_eq_true rfl, (in7 163 rfl rfl), (in7 165 rfl rfl), (in0 79 rfl rfl)⟩
set_option maxRecDepth 20000 in
theorem gM_12_22 : PM 12 (251, (0, 139)) := ⟨Nat.le_of_ble_eq_true rfl, (in7 159 rfl rfl), (in7 161 rfl rfl), (in0 78 rfl rfl)⟩
set_option maxRecDepth 20000 in
theorem gM_12_23 : PM 12 (254, (0, 117)) := ⟨Nat.le_of_ble_eq_true rfl, (in7 143 rfl rfl), (in7 145 rfl rfl), (in0 74 rfl rfl)⟩
set_option maxRecDepth 20000 in
theorem gM_12_24 : PM 12 (257, (0, 156)) := ⟨Nat.le_of_ble_eq_true rfl, (in7 147 rfl rfl), (in7 149 rfl rfl), (in0 75 rfl rfl)⟩
set_option maxRecDepth 20000 in
theorem gM_12_25 : PM 12 (260, (0, 169)) := ⟨Nat.le_of_ble_eq_true rfl, (in7 236 rfl rfl), (in7 238 rfl rfl), (in0 92 rfl rfl)⟩
set_option maxRecDepth 20000 in
theorem gM_12_26 : PM 12 (267, (0, 146)) := ⟨Nat.le_of_ble_eq_true rfl, (in8 12 rfl rfl), (in8 14 rfl rfl), (in0 94 rfl rfl)⟩
set_option maxRecDepth 20000 in
theorem gM_12_27 : PM 12 (280, (1, 54)) := ⟨Nat.le_of_ble_eq_true rfl, (in8 36 rfl rfl), (in8 37 rfl rfl)⟩
set_option maxRecDepth 20000 in
theorem gM_12_28 : PM 12 (283, (0, 94)) := ⟨Nat.le_of_ble_eq_true rfl, (in8 32 rfl rfl), (in8 34 rfl rfl), (in0 98 rfl rfl)⟩
set_option maxRecDepth 20000 in
theorem gM_12_29 : PM 12 (286, (0, 121)) := ⟨Nat.le_of_ble_eq_true rfl, (in8 97 rfl rfl), (in8 99 rfl rfl), (in0 110 rfl rfl)⟩
set_option maxRecDepth 20000 in
theorem gM_12_30 : PM 12 (289, (0, 154)) := ⟨Nat.le_of_ble_eq_true rfl, (in8 28 rfl rfl), (in8 30 rfl rfl), (in0 97 rfl rfl)⟩
set_option maxRecDepth 20000 in
theorem gM_12_31 : PM 12 (292, (0, 105)) := ⟨Nat.le_of_ble_eq_true rfl, (in8 8 rfl rfl), (in8 10 rfl rfl), (in0 93 rfl rfl)⟩
set_option maxRecDepth 20000 in
theorem gM_12_32 : PM 12 (295, (0, 119)) := ⟨Nat.le_of_ble_eq_true rfl, (in8 20 rfl rfl), (in8 22 rfl rfl), (in0 95 rfl rfl)⟩
set_option maxRecDepth 20000 in
theorem gM_12_33 : PM 12 (298, (0, 124)) := ⟨Nat.le_of_ble_eq_true rfl, (in8 24 rfl rfl), (in8 26 rfl rfl), (in0 96 rfl rfl)⟩
set_option maxRecDepth 20000 in
theorem gM_12_34 : PM 12 (304, (0, 108)) := ⟨Nat.le_of_ble_eq_true rfl, (in8 43 rfl rfl), (in8 45 rfl rfl), (in0 99 rfl rfl)⟩
set_option maxRecDepth 20000 in
theorem gM_12_35 : PM 12 (307, (0, 80)) := ⟨Nat.le_of_ble_eq_true rfl, (in8 47 rfl rfl), (in8 49 rfl rfl), (in0 100 rfl rfl)⟩
set_option maxRecDepth 20000 in
theorem gM_12_36 : PM 12 (310, (0, 79)) := ⟨Nat.le_of_ble_eq_true rfl, (in8 51 rfl rfl), (in8 53 rfl rfl), (in0 101 rfl rfl)⟩
set_option maxRecDepth 20000 in
theorem gM_12_37 : PM 12 (331, (0, 118)) := ⟨Nat.le_of_ble_eq_true rfl, (in8 113 rfl rfl), (in8 115 rfl rfl), (in0 114 rfl rfl)⟩
set_option maxRecDepth 20000 in
theorem gM_12_38 : PM 12 (334, (0, 73)) := ⟨Nat.le_of_ble_eq_true rfl, (in8 117 rfl rfl), (in8 119 rfl rfl), (in0 115 rfl rfl)⟩
set_option maxRecDepth 20000 in
theorem gM_12_39 : PM 12 (337, (0, 59)) := ⟨Nat.le_of_ble_eq_true rfl, (in8 82 rfl rfl), (in8 84 rfl rfl), (in0 107 rfl rfl)⟩
set_option maxRecDepth 20000 in
theorem gM_12_40 : PM 12 (340, (1, 135)) := ⟨Nat.le_of_ble_eq_true rfl, (in8 90 rfl rfl), (in8 91 rfl rfl)⟩
set_option maxRecDepth 20000 in
theorem gM_12_41 : PM 12 (343, (0, 76)) := ⟨Nat.le_of_ble_eq_true rfl, (in8 75 rfl rfl), (in8 77 rfl rfl), (in0 106 rfl rfl)⟩
set_option maxRecDepth 20000 in
theorem gM_12_42 : PM 12 (346, (0, 103)) := ⟨Nat.le_of_ble_eq_true rfl, (in8 86 rfl rfl), (in8 88 rfl rfl), (in0 108 rfl rfl)⟩
set_option maxRecDepth 20000 in
theorem gM_12_43 : PM 12 (349, (0, 160)) := ⟨Nat.le_of_ble_eq_true rfl, (in8 93 rfl rfl), (in8 95 rfl rfl), (in0 109 rfl rfl)⟩
set_option maxRecDepth 20000 in
theorem gM_12_44 : PM 12 (352, (0, 109)) := ⟨Nat.le_of_ble_eq_true rfl, (in8 101 rfl rfl), (in8 103 rfl rfl), (in0 111 rfl rfl)⟩
set_option maxRecDepth 20000 in
theorem gM_12_45 : PM 12 (355, (0, 151)) := ⟨Nat.le_of_ble_eq_true rfl, (in8 105 rfl rfl), (in8 107 rfl rfl), (in0 112 rfl rfl)⟩
set_option maxRecDepth 20000 in
theorem gM_12_46 : PM 12 (358, (0, 74)) := ⟨Nat.le_of_ble_eq_true rfl, (in8 109 rfl rfl), (in8 111 rfl rfl), (in0 113 rfl rfl)⟩
set_option maxRecDepth 20000 in
theorem gM_12_47 : PM 12 (361, (0, 149)) := ⟨Nat.le_of_ble_eq_true rfl, (in8 121 rfl rfl), (in8 123 rfl rfl), (in0 116 rfl rfl)⟩
set_option maxRecDepth 20000 in
theorem gM_12_48 : PM 12 (364, (0, 57)) := ⟨Nat.le_of_ble_eq_true rfl, (in8 67 rfl rfl), (in8 69 rfl rfl), (in0 104 rfl rfl)⟩
set_option maxRecDepth 20000 in
theorem gM_12_49 : PM 12 (367, (0, 81)) := ⟨Nat.le_of_ble_eq_true rfl, (in8 71 rfl rfl), (in8 73 rfl rfl), (in0 105 rfl rfl)⟩
set_option maxRecDepth 20000 in
theorem gM_12_50 : PM 12 (370, (0, 127)) := ⟨Nat.le_of_ble_eq_true rfl, (in8 59 rfl rfl), (in8 61 rfl rfl), (in0 102 rfl rfl)⟩
set_option maxRecDepth 20000 in
theorem gM_12_51 : PM 12 (373, (0, 152)) := ⟨Nat.le_of_ble_eq_true rfl, (in8 63 rfl rfl), (in8 65 rfl rfl), (in0 103 rfl rfl)⟩
set_option maxRecDepth 20000 in
theorem gM_12_52 : PM 12 (376, (0, 148)) := ⟨Nat.le_of_ble_eq_true rfl, (in8 133 rfl rfl), (in8 135 rfl rfl), (in0 118 rfl rfl)⟩
set_option maxRecDepth 20000 in
theorem gM_12_53 : PM 12 (379, (0, 147)) := ⟨Nat.le_of_ble_eq_true rfl, (in8 129 rfl rfl), (in8 131 rfl rfl), (in0 117 rfl rfl)⟩
set_option maxRecDepth 20000 in
theorem gM_12_54 : PM 12 (382, (0, 136)) := ⟨Nat.le_of_ble_eq_true rfl, (in8 161 rfl rfl), (in8 163 rfl rfl), (in0 124 rfl rfl)⟩
set_option maxRecDepth 20000 in
theorem gM_12_55 : PM 12 (385, (0, 120)) := ⟨Nat.le_of_ble_eq_true rfl, (in8 157 rfl rfl), (in8 159 rfl rfl), (in0 123 rfl rfl)⟩
set_option maxRecDepth 20000 in
theorem gM_12_56 : PM 12 (388, (0, 129)) := ⟨Nat.le_of_ble_eq_true rfl, (in8 187 rfl rfl), (in8 189 rfl rfl), (in0 130 rfl rfl)⟩
set_option maxRecDepth 20000 in
theorem gM_12_57 : PM 12 (391, (0, 189)) := ⟨Nat.le_of_ble_eq_true rfl, (in8 191 rfl rfl), (in8 193 rfl rfl), (in0 131 rfl rfl)⟩
set_option maxRecDepth 20000 in
theorem gM_12_58 : PM 12 (394, (0, 144)) := ⟨Nat.le_of_ble_eq_true rfl, (in8 153 rfl rfl), (in8 155 rfl rfl), (in0 122 rfl rfl)⟩
set_option maxRecDepth 20000 in
theorem gM_12_59 : PM 12 (398, (0, 56)) := ⟨Nat.le_of_ble_eq_true rfl, (in8 165 rfl rfl), (in8 167 rfl rfl), (in0 125 rfl rfl)⟩
set_option maxRecDepth 20000 in
theorem gM_12_60 : PM 12 (403, (0, 134)) := ⟨Nat.le_of_ble_eq_true rfl, (in8 183 rfl rfl), (in8 185 rfl rfl), (in0 129 rfl rfl)⟩
set_option maxRecDepth 20000 in
theorem gM_12_61 : PM 12 (407, (0, 61)) := ⟨Nat.le_of_ble_eq_true rfl, (in8 195 rfl rfl), (in8 197 rfl rfl), (in0 132 rfl rfl)⟩
set_option maxRecDepth 20000 in
theorem gM_12_62 : PM 12 (410, (0, 170)) := ⟨Nat.le_of_ble_eq_true rfl, (in8 199 rfl rfl), (in8 201 rfl rfl), (in0 133 rfl rfl)⟩
set_option maxRecDepth 20000 in
theorem gM_12_63 : PM 12 (413, (0, 115)) := ⟨Nat.le_of_ble_eq_true rfl, (in8 203 rfl rfl), (in8 205 rfl rfl), (in0 134 rfl rfl)⟩
set_option maxRecDepth 20000 in
theorem gM_12_64 : PM 12 (416, (0, 132)) := ⟨Nat.le_of_ble_eq_true rfl, (in8 207 rfl rfl), (in8 209 rfl rfl), (in0 135 rfl rfl)⟩
set_option maxRecDepth 20000 in
theorem gM_12_65 : PM 12 (426, (0, 123)) := ⟨Nat.le_of_ble_eq_true rfl, (in8 175 rfl rfl), (in8 177 rfl rfl), (in0 127 rfl rfl)⟩
set_option maxRecDepth 20000 in
theorem gM_12_66 : PM 12 (429, (0, 188)) := ⟨Nat.le_of_ble_eq_true rfl, (in8 179 rfl rfl), (in8 181 rfl rfl), (in0 128 rfl rfl)⟩
set_option maxRecDepth 20000 in
theorem gM_12_67 : PM 12 (432, (0, 131)) := ⟨Nat.le_of_ble_eq_true rfl, (in8 145 rfl rfl), (in8 147 rfl rfl), (in0 120 rfl rfl)⟩
set_option maxRecDepth 20000 in
theorem gM_12_68 : PM 12 (435, (0, 128)) := ⟨Nat.le_of_ble_eq_true rfl, (in8 149 rfl rfl), (in8 151 rfl rfl), (in0 121 rfl rfl)⟩
set_option maxRecDepth 20000 in
theorem gM_12_69 : PM 12 (439, (0, 89)) := ⟨Nat.le_of_ble_eq_true rfl, (in8 169 rfl rfl), (in8 171 rfl rfl), (in0 126 rfl rfl)⟩
set_option maxRecDepth 20000 in
theorem gM_12_70 : PM 12 (442, (0, 130)) := ⟨Nat.le_of_ble_eq_true rfl, (in8 141 rfl rfl), (in8 143 rfl rfl), (in0 119 rfl rfl)⟩
set_option maxRecDepth 20000 in
theorem gM_12_71 : PM 12 (448, (0, 153)) := ⟨Nat.le_of_ble_eq_true rfl, (in8 232 rfl rfl), (in8 234 rfl rfl), (in0 138 rfl rfl)⟩
set_option maxRecDepth 20000 in
theorem gM_12_72 : PM 12 (454, (0, 100)) := ⟨Nat.le_of_ble_eq_true rfl, (in8 228 rfl rfl), (in8 230 rfl rfl), (in0 137 rfl rfl)⟩
set_option maxRecDepth 20000 in
theorem gM_12_73 : PM 12 (457, (0, 91)) := ⟨Nat.le_of_ble_eq_true rfl, (in8 224 rfl rfl), (in8 226 rfl rfl), (in0 136 rfl rfl)⟩
set_option maxRecDepth 20000 in
theorem gM_12_74 : PM 12 (460, (0, 187)) := ⟨Nat.le_of_ble_eq_true rfl, (in9 4 rfl rfl), (in9 6 rfl rfl), (in0 140 rfl rfl)⟩
set_option maxRecDepth 20000 in
theorem gM_12_75 : PM 12 (463, (0, 60)) := ⟨Nat.le_of_ble_eq_true rfl, (in9 8 rfl rfl), (in9 10 rfl rfl), (in0 141 rfl rfl)⟩
set_option maxRecDepth 20000 in
theorem gM_12_76 : PM 12 (466, (0, 92)) := ⟨Nat.le_of_ble_eq_true rfl, (in9 0 rfl rfl), (in9 2 rfl rfl), (in0 139 rfl rfl)⟩
set_option maxRecDepth 20000 in
theorem gM_12_77 : PM 12 (469, (0, 75)) := ⟨Nat.le_of_ble_eq_true rfl, (in9 16 rfl rfl), (in9 18 rfl rfl), (in0 142 rfl rfl)⟩
set_option maxRecDepth 20000 in
theorem gM_12_78 : PM 12 (472, (0, 104)) := ⟨Nat.le_of_ble_eq_true rfl, (in9 20 rfl rfl), (in9 22 rfl rfl), (in0 143 rfl rfl)⟩
set_option maxRecDepth 20000 in
theorem gM_12_79 : PM 12 (477, (1, 176)) := ⟨Nat.le_of_ble_eq_true rfl, (in9 32 rfl rfl), (in9 33 rfl rfl)⟩
set_option maxRecDepth 20000 in
theorem gM_12_80 : PM 12 (483, (1, 145)) := ⟨Nat.le_of_ble_eq_true rfl, (in9 29 rfl rfl), (in9 30 rfl rfl)⟩
set_option maxRecDepth 20000 in
theorem gM_12_81 : PM 12 (487, (0, 178)) := ⟨Nat.le_of_ble_eq_true rfl, (in9 36 rfl rfl), (in9 38 rfl rfl), (in0 144 rfl rfl)⟩
set_option maxRecDepth 20000 in
theorem gM_12_82 : PM 12 (491, (1, 68)) := ⟨Nat.le_of_ble_eq_true rfl, (in9 40 rfl rfl), (in9 41 rfl rfl)⟩
set_option maxRecDepth 20000 in
theorem gM_12_83 : PM 12 (495, (1, 164)) := ⟨Nat.le_of_ble_eq_true rfl, (in9 50 rfl rfl), (in9 51 rfl rfl)⟩
set_option maxRecDepth 20000 in
theorem gM_12_84 : PM 12 (498, (1, 122)) := ⟨Nat.le_of_ble_eq_true rfl, (in9 47 rfl rfl), (in9 48 rfl rfl)⟩
set_option maxRecDepth 20000 in
theorem gM_12_85 : PM 12 (505, (0, 107)) := ⟨Nat.le_of_ble_eq_true rfl, (in9 57 rfl rfl), (in9 59 rfl rfl), (in0 145 rfl rfl)⟩
set_option maxRecDepth 20000 in
theorem gM_12_86 : PM 12 (508, (0, 66)) := ⟨Nat.le_of_ble_eq_true rfl, (in9 61 rfl rfl), (in9 63 rfl rfl), (in0 146 rfl rfl)⟩
set_option maxRecDepth 20000 in
theorem gM_12_87 : PM 12 (511, (0, 67)) := ⟨Nat.le_of_ble_eq_true rfl, (in9 65 rfl rfl), (in9 67 rfl rfl), (in0 147 rfl rfl)⟩
set_option maxRecDepth 20000 in
theorem gM_12_88 : PM 12 (517, (0, 175)) := ⟨Nat.le_of_ble_eq_true rfl, (in9 77 rfl rfl), (in9 79 rfl rfl), (in0 149 rfl rfl)⟩
set_option maxRecDepth 20000 in
theorem gM_12_89 : PM 12 (521, (0, 53)) := ⟨Nat.le_of_ble_eq_true rfl, (in9 89 rfl rfl), (in9 91 rfl rfl), (in0 152 rfl rfl)⟩
set_option maxRecDepth 20000 in
theorem gM_12_90 : PM 12 (524, (0, 90)) := ⟨Nat.le_of_ble_eq_true rfl, (in9 73 rfl rfl), (in9 75 rfl rfl), (in0 148 rfl rfl)⟩
set_option maxRecDepth 20000 in
theorem gM_12_91 : PM 12 (527, (0, 171)) := ⟨Nat.le_of_ble_eq_true rfl, (in9 81 rfl rfl), (in9 83 rfl rfl), (in0 150 rfl rfl)⟩
set_option maxRecDepth 20000 in
theorem gM_12_92 : PM 12 (531, (0, 143)) := ⟨Nat.le_of_ble_eq_true rfl, (in9 85 rfl rfl), (in9 87 rfl rfl), (in0 151 rfl rfl)⟩
set_option maxRecDepth 20000 in
theorem gM_12_93 : PM 12 (538, (0, 82)) := ⟨Nat.le_of_ble_eq_true rfl, (in9 101 rfl rfl), (in9 103 rfl rfl), (in0 154 rfl rfl)⟩
set_option maxRecDepth 20000 in
theorem gM_12_94 : PM 12 (541, (0, 83)) := ⟨Nat.le_of_ble_eq_true rfl, (in9 97 rfl rfl), (in9 99 rfl rfl), (in0 153 rfl rfl)⟩
set_option maxRecDepth 20000 in
theorem gM_12_95 : PM 12 (544, (0, 55)) := ⟨Nat.le_of_ble_eq_true rfl, (in9 110 rfl rfl), (in9 112 rfl rfl), (in0 155 rfl rfl)⟩
set_option maxRecDepth 20000 in
theorem gM_12_96 : PM 12 (547, (1, 150)) := ⟨Nat.le_of_ble_eq_true rfl, (in9 114 rfl rfl), (in9 115 rfl rfl)⟩
set_option maxRecDepth 20000 in
theorem gM_12_97 : PM 12 (550, (0, 166)) := ⟨Nat.le_of_ble_eq_true rfl, (in9 153 rfl rfl), (in9 155 rfl rfl), (in0 156 rfl rfl)⟩
set_option maxRecDepth 20000 in
theorem gM_12_98 : PM 12 (555, (0, 184)) := ⟨Nat.le_of_ble_eq_true rfl, (in9 166 rfl rfl), (in9 168 rfl rfl), (in0 157 rfl rfl)⟩
set_option maxRecDepth 20000 in
theorem gM_12_99 : PM 12 (558, (0, 111)) := ⟨Nat.le_of_ble_eq_true rfl, (in9 170 rfl rfl), (in9 172 rfl rfl), (in0 158 rfl rfl)⟩
set_option maxRecDepth 20000 in
theorem gM_12_100 : PM 12 (561, (0, 62)) := ⟨Nat.le_of_ble_eq_true rfl, (in9 182 rfl rfl), (in9 184 rfl rfl), (in0 160 rfl rfl)⟩
set_option maxRecDepth 20000 in
theorem gM_12_101 : PM 12 (564, (0, 99)) := ⟨Nat.le_of_ble_eq_true rfl, (in9 178 rfl rfl), (in9 180 rfl rfl), (in0 159 rfl rfl)⟩
set_option maxRecDepth 20000 in
theorem gM_12_102 : PM 12 (567, (0, 69)) := ⟨Nat.le_of_ble_eq_true rfl, (in9 194 rfl rfl), (in9 196 rfl rfl), (in0 161 rfl rfl)⟩
theorem gM_12 : ∀ e ∈ tbM_12, PM 12 e := List.forall_mem_cons.mpr ⟨gM_12_0, List.forall_mem_cons.mpr ⟨gM_12_1, List.forall_mem_cons.mpr ⟨gM_12_2, List.forall_mem_cons.mpr ⟨gM_12_3, List.forall_mem_cons.mpr ⟨gM_12_4, List.forall_mem_cons.mpr ⟨gM_12_5, List.forall_mem_cons.mpr ⟨gM_12_6, List.forall_mem_cons.mpr ⟨gM_12_7, List.forall_mem_cons.mpr ⟨gM_12_8, List.forall_mem_cons.mpr ⟨gM_12_9, List.forall_mem_cons.mpr ⟨gM_12_10, List.forall_mem_cons.mpr ⟨gM_12_11, List.forall_mem_cons.mpr ⟨gM_12_12, List.forall_mem_cons.mpr ⟨gM_12_13, List.forall_mem_cons.mpr ⟨gM_12_14, List.forall_mem_cons.mpr ⟨gM_12_15, List.forall_mem_cons.mpr ⟨gM_12_16, List.forall_mem_cons.mpr ⟨gM_12_17, List.forall_mem_cons.mpr ⟨gM_12_18, List.forall_mem_cons.mpr ⟨gM_12_19, List.forall_mem_cons.mpr ⟨gM_12_20, List.forall_mem_cons.mpr ⟨gM_12_21, List.forall_mem_cons.mpr ⟨gM_12_22, List.forall_mem_cons.mpr ⟨gM_12_23, List.forall_mem_cons.mpr ⟨gM_12_24, List.forall_mem_cons.mpr ⟨gM_12_25, List.forall_mem_cons.mpr ⟨gM_12_26, List.forall_mem_cons.mpr ⟨gM_12_27, List.forall_mem_cons.mpr ⟨gM_12_28, List.forall_mem_cons.mpr ⟨gM_12_29, List.forall_mem_cons.mpr ⟨gM_12_30, List.forall_mem_cons.mpr ⟨gM_12_31, List.forall_mem_cons.mpr ⟨gM_12_32, List.forall_mem_cons.mpr ⟨gM_12_33, List.forall_mem_cons.mpr ⟨gM_12_34, List.forall_mem_cons.mpr ⟨gM_12_35, List.forall_mem_cons.mpr ⟨gM_12_36, List.forall_mem_cons.mpr ⟨gM_12_37, List.forall_mem_cons.mpr ⟨gM_12_38, List.forall_mem_cons.mpr ⟨gM_12_39, List.forall_mem_cons.mpr ⟨gM_12_40, List.forall_mem_cons.mpr ⟨gM_12_41, List.forall_mem_cons.mpr ⟨gM_12_42, List.forall_mem_cons.mpr ⟨gM_12_43, List.forall_mem_cons.mpr ⟨gM_12_44, List.forall_mem_cons.mpr ⟨gM_12_45, List.forall_mem_cons.mpr ⟨gM_12_46, List.forall_mem_cons.mpr ⟨gM_12_47, List.forall_mem_cons.mpr ⟨gM_12_48, List.forall_mem_cons.mpr ⟨gM_12_49, List.forall_mem_cons.mpr ⟨gM_12_50, List.forall_mem_cons.mpr ⟨gM_12_51, List.forall_mem_cons.mpr ⟨gM_12_52, List.forall_mem_cons.mpr ⟨gM_12_53, List.forall_mem_cons.mpr ⟨gM_12_54, List.forall_mem_cons.mpr ⟨gM_12_55, List.forall_mem_cons.mpr ⟨gM_12_56, List.forall_mem_cons.mpr ⟨gM_12_57, List.forall_mem_cons.mpr ⟨gM_12_58, List.forall_mem_cons.mpr ⟨gM_12_59, List.forall_mem_cons.mpr ⟨gM_12_60, List.forall_mem_cons.mpr ⟨gM_12_61, List.forall_mem_cons.mpr ⟨gM_12_62, List.forall_mem_cons.mpr ⟨gM_12_63, List.forall_mem_cons.mpr ⟨gM_12_64, List.forall_mem_cons.mpr ⟨gM_12_65, List.forall_mem_cons.mpr ⟨gM_12_66, List.forall_mem_cons.mpr ⟨gM_12_67, List.forall_mem_cons.mpr ⟨gM_12_68, List.forall_mem_cons.mpr ⟨gM_12_69, List.forall_mem_cons.mpr ⟨gM_12_70, List.forall_mem_cons.mpr ⟨gM_12_71, List.forall_mem_cons.mpr ⟨gM_12_72, List.forall_mem_cons.mpr ⟨gM_12_73, List.forall_mem_cons.mpr ⟨gM_12_74, List.forall_mem_cons.mpr ⟨gM_12_75, List.forall_mem_cons.mpr ⟨gM_12_76, List.forall_mem_cons.mpr ⟨gM_12_77, List.forall_mem_cons.mpr ⟨gM_12_78, List.forall_mem_cons.mpr ⟨gM_12_79, List.forall_mem_cons.mpr ⟨gM_12_80, List.forall_mem_cons.mpr ⟨gM_12_81, List.forall_mem_cons.mpr ⟨gM_12_82, List.forall_mem_cons.mpr ⟨gM_12_83, List.forall_mem_cons.mpr ⟨gM_12_84, List.forall_mem_cons.mpr ⟨gM_12_85, List.forall_mem_cons.mpr ⟨gM_12_86, List.forall_mem_cons.mpr ⟨gM_12_87, List.forall_mem_cons.mpr ⟨gM_12_88, List.forall_mem_cons.mpr ⟨gM_12_89, List.forall_mem_cons.mpr ⟨gM_12_90, List.forall_mem_cons.mpr ⟨gM_12_91, List.forall_mem_cons.mpr ⟨gM_12_92, List.forall_mem_cons.mpr ⟨gM_12_93, List.forall_mem_cons.mpr ⟨gM_12_94, List.forall_mem_cons.mpr ⟨gM_12_95, List.forall_mem_cons.mpr ⟨gM_12_96, List.forall_mem_cons.mpr ⟨gM_12_97, List.forall_mem_cons.mpr ⟨gM_12_98, List.forall_mem_cons.mpr ⟨gM_12_99, List.forall_mem_cons.mpr ⟨gM_12_100, List.forall_mem_cons.mpr ⟨gM_12_101, List.forall_mem_cons.mpr ⟨gM_12_102, fun _ h => absurd h List.not_mem_nil⟩⟩⟩⟩⟩⟩⟩⟩⟩⟩⟩⟩⟩⟩⟩⟩⟩⟩⟩⟩⟩⟩⟩⟩⟩⟩⟩⟩⟩⟩⟩⟩⟩⟩⟩⟩⟩⟩⟩⟩⟩⟩⟩⟩⟩⟩⟩⟩⟩⟩⟩⟩⟩⟩⟩⟩⟩⟩⟩⟩⟩⟩⟩⟩⟩⟩⟩⟩⟩⟩⟩⟩⟩⟩⟩⟩⟩⟩⟩⟩⟩⟩⟩⟩⟩⟩⟩⟩⟩⟩⟩⟩⟩⟩⟩⟩⟩⟩⟩⟩⟩⟩⟩
set_option maxRecDepth 20000 in
theorem gM_13_0 : PM 13 (9, (2, 30)) := ⟨Nat.le_of_ble_eq_true rfl, rfl, rfl, (in1 25 rfl rfl), (in1 26 rfl rfl)⟩
set_option maxRecDepth 20000 in
theorem gM_13_1 : PM 13 (12, (2, 116)) := ⟨Nat.le_of_ble_eq_true rfl, rfl, rfl, (in6 175 rfl rfl), (in6 176 rfl rfl)⟩
set_option maxRecDepth 20000 in
theorem gM_13_2 : PM 13 (13, (0, 22)) := ⟨Nat.le_of_ble_eq_true rfl, (in2 229 rfl rfl), (in2 230 rfl rfl), (in2 231 rfl rfl)⟩
set_option maxRecDepth 20000 in
theorem gM_13_3 : PM 13 (17, (0, 88)) := ⟨Nat.le_of_ble_eq_true rfl, (in7 124 rfl rfl), (in7 125 rfl rfl), (in7 126 rfl rfl)⟩
set_option maxRecDepth 20000 in
theorem gM_13_4 : PM 13 (18, (0, 20)) := ⟨Nat.le_of_ble_eq_true rfl, (in2 237 rfl rfl), (in2 238 rfl rfl), (in2 239 rfl rfl)⟩
set_option maxRecDepth 20000 in
theorem gM_13_5 : PM 13 (22, (0, 85)) := ⟨Nat.le_of_ble_eq_true rfl, (in7 132 rfl rfl), (in7 133 rfl rfl), (in7 134 rfl rfl)⟩
set_option maxRecDepth 20000 in
theorem gM_13_6 : PM 13 (23, (0, 45)) := ⟨Nat.le_of_ble_eq_true rfl, (in3 1 rfl rfl), (in3 2 rfl rfl), (in3 3 rfl rfl)⟩
set_option maxRecDepth 20000 in
theorem gM_13_7 : PM 13 (27, (0, 177)) := ⟨Nat.le_of_ble_eq_true rfl, (in7 139 rfl rfl), (in7 140 rfl rfl), (in7 141 rfl rfl)⟩
set_option maxRecDepth 20000 in
theorem gM_13_8 : PM 13 (28, (0, 21)) := ⟨Nat.le_of_ble_eq_true rfl, (in3 238 rfl rfl), (in3 239 rfl rfl), (in4 0 rfl rfl)⟩
set_option maxRecDepth 20000 in
theorem gM_13_9 : PM 13 (31, (0, 87)) := ⟨Nat.le_of_ble_eq_true rfl, (in8 0 rfl rfl), (in8 1 rfl rfl), (in8 2 rfl rfl)⟩
set_option maxRecDepth 20000 in
theorem gM_13_10 : PM 13 (32, (0, 24)) := ⟨Nat.le_of_ble_eq_true rfl, (in4 2 rfl rfl), (in4 3 rfl rfl), (in4 4 rfl rfl)⟩
set_option maxRecDepth 20000 in
theorem gM_13_11 : PM 13 (35, (0, 95)) := ⟨Nat.le_of_ble_eq_true rfl, (in8 4 rfl rfl), (in8 5 rfl rfl), (in8 6 rfl rfl)⟩
set_option maxRecDepth 20000 in
theorem gM_13_12 : PM 13 (36, (0, 23)) := ⟨Nat.le_of_ble_eq_true rfl, (in4 34 rfl rfl), (in4 35 rfl rfl), (in4 36 rfl rfl)⟩
set_option maxRecDepth 20000 in
theorem gM_13_13 : PM 13 (40, (0, 93)) := ⟨Nat.le_of_ble_eq_true rfl, (in8 16 rfl rfl), (in8 17 rfl rfl), (in8 18 rfl rfl)⟩
set_option maxRecDepth 20000 in
theorem gM_13_14 : PM 13 (41, (0, 18)) := ⟨Nat.le_of_ble_eq_true rfl, (in4 56 rfl rfl), (in4 57 rfl rfl), (in4 58 rfl rfl)⟩
set_option maxRecDepth 20000 in
theorem gM_13_15 : PM 13 (45, (0, 77)) := ⟨Nat.le_of_ble_eq_true rfl, (in8 39 rfl rfl), (in8 40 rfl rfl), (in8 41 rfl rfl)⟩
set_option maxRecDepth 20000 in
theorem gM_13_16 : PM 13 (46, (0, 46)) := ⟨Nat.le_of_ble_eq_true rfl, (in4 68 rfl rfl), (in4 69 rfl rfl), (in4 70 rfl rfl)⟩
set_option maxRecDepth 20000 in
theorem gM_13_17 : PM 13 (49, (0, 179)) := ⟨Nat.le_of_ble_eq_true rfl, (in8 55 rfl rfl), (in8 56 rfl rfl), (in8 57 rfl rfl)⟩
set_option maxRecDepth 20000 in
theorem gM_13_18 : PM 13 (50, (0, 43)) := ⟨Nat.le_of_ble_eq_true rfl, (in4 140 rfl rfl), (in4 141 rfl rfl), (in4 142 rfl rfl)⟩
set_option maxRecDepth 20000 in
theorem gM_13_19 : PM 13 (54, (0, 168)) := ⟨Nat.le_of_ble_eq_true rfl, (in8 125 rfl rfl), (in8 126 rfl rfl), (in8 127 rfl rfl)⟩
set_option maxRecDepth 20000 in
theorem gM_13_20 : PM 13 (55, (0, 31)) := ⟨Nat.le_of_ble_eq_true rfl, (in4 153 rfl rfl), (in4 154 rfl rfl), (in4 155 rfl rfl)⟩
set_option maxRecDepth 20000 in
theorem gM_13_21 : PM 13 (58, (0, 133)) := ⟨Nat.le_of_ble_eq_true rfl, (in8 137 rfl rfl), (in8 138 rfl rfl), (in8 139 rfl rfl)⟩
set_option maxRecDepth 20000 in
theorem gM_13_22 : PM 13 (59, (0, 39)) := ⟨Nat.le_of_ble_eq_true rfl, (in5 15 rfl rfl), (in5 16 rfl rfl), (in5 17 rfl rfl)⟩
set_option maxRecDepth 20000 in
theorem gM_13_23 : PM 13 (62, (0, 161)) := ⟨Nat.le_of_ble_eq_true rfl, (in8 212 rfl rfl), (in8 213 rfl rfl), (in8 214 rfl rfl)⟩
set_option maxRecDepth 20000 in
theorem gM_13_24 : PM 13 (63, (0, 40)) := ⟨Nat.le_of_ble_eq_true rfl, (in5 28 rfl rfl), (in5 29 rfl rfl), (in5 30 rfl rfl)⟩
set_option maxRecDepth 20000 in
theorem gM_13_25 : PM 13 (66, (0, 162)) := ⟨Nat.le_of_ble_eq_true rfl, (in8 216 rfl rfl), (in8 217 rfl rfl), (in8 218 rfl rfl)⟩
set_option maxRecDepth 20000 in
theorem gM_13_26 : PM 13 (67, (0, 48)) := ⟨Nat.le_of_ble_eq_true rfl, (in5 40 rfl rfl), (in5 41 rfl rfl), (in5 42 rfl rfl)⟩
set_option maxRecDepth 20000 in
theorem gM_13_27 : PM 13 (70, (0, 182)) := ⟨Nat.le_of_ble_eq_true rfl, (in8 220 rfl rfl), (in8 221 rfl rfl), (in8 222 rfl rfl)⟩
set_option maxRecDepth 20000 in
theorem gM_13_28 : PM 13 (71, (0, 51)) := ⟨Nat.le_of_ble_eq_true rfl, (in5 62 rfl rfl), (in5 63 rfl rfl), (in5 64 rfl rfl)⟩
set_option maxRecDepth 20000 in
theorem gM_13_29 : PM 13 (74, (0, 186)) := ⟨Nat.le_of_ble_eq_true rfl, (in8 236 rfl rfl), (in8 237 rfl rfl), (in8 238 rfl rfl)⟩
set_option maxRecDepth 20000 in
theorem gM_13_30 : PM 13 (75, (0, 26)) := ⟨Nat.le_of_ble_eq_true rfl, (in5 104 rfl rfl), (in5 105 rfl rfl), (in5 106 rfl rfl)⟩
set_option maxRecDepth 20000 in
theorem gM_13_31 : PM 13 (79, (0, 102)) := ⟨Nat.le_of_ble_eq_true rfl, (in9 12 rfl rfl), (in9 13 rfl rfl), (in9 14 rfl rfl)⟩
set_option maxRecDepth 20000 in
theorem gM_13_32 : PM 13 (80, (0, 34)) := ⟨Nat.le_of_ble_eq_true rfl, (in5 124 rfl rfl), (in5 125 rfl rfl), (in5 126 rfl rfl)⟩
set_option maxRecDepth 20000 in
theorem gM_13_33 : PM 13 (84, (0, 141)) := ⟨Nat.le_of_ble_eq_true rfl, (in9 24 rfl rfl), (in9 25 rfl rfl), (in9 26 rfl rfl)⟩
set_option maxRecDepth 20000 in
theorem gM_13_34 : PM 13 (85, (0, 37)) := ⟨Nat.le_of_ble_eq_true rfl, (in5 144 rfl rfl), (in5 145 rfl rfl), (in5 146 rfl rfl)⟩
set_option maxRecDepth 20000 in
theorem gM_13_35 : PM 13 (88, (0, 157)) := ⟨Nat.le_of_ble_eq_true rfl, (in9 43 rfl rfl), (in9 44 rfl rfl), (in9 45 rfl rfl)⟩
set_option maxRecDepth 20000 in
theorem gM_13_36 : PM 13 (89, (0, 15)) := ⟨Nat.le_of_ble_eq_true rfl, (in5 176 rfl rfl), (in5 177 rfl rfl), (in5 178 rfl rfl)⟩
set_option maxRecDepth 20000 in
theorem gM_13_37 : PM 13 (92, (0, 64)) := ⟨Nat.le_of_ble_eq_true rfl, (in9 53 rfl rfl), (in9 54 rfl rfl), (in9 55 rfl rfl)⟩
set_option maxRecDepth 20000 in
theorem gM_13_38 : PM 13 (93, (0, 50)) := ⟨Nat.le_of_ble_eq_true rfl, (in5 188 rfl rfl), (in5 189 rfl rfl), (in5 190 rfl rfl)⟩
set_option maxRecDepth 20000 in
theorem gM_13_39 : PM 13 (96, (0, 185)) := ⟨Nat.le_of_ble_eq_true rfl, (in9 69 rfl rfl), (in9 70 rfl rfl), (in9 71 rfl rfl)⟩
set_option maxRecDepth 20000 in
theorem gM_13_40 : PM 13 (97, (0, 19)) := ⟨Nat.le_of_ble_eq_true rfl, (in5 227 rfl rfl), (in5 228 rfl rfl), (in5 229 rfl rfl)⟩
set_option maxRecDepth 20000 in
theorem gM_13_41 : PM 13 (100, (0, 84)) := ⟨Nat.le_of_ble_eq_true rfl, (in9 93 rfl rfl), (in9 94 rfl rfl), (in9 95 rfl rfl)⟩
set_option maxRecDepth 20000 in
theorem gM_13_42 : PM 13 (101, (0, 17)) := ⟨Nat.le_of_ble_eq_true rfl, (in6 4 rfl rfl), (in6 5 rfl rfl), (in6 6 rfl rfl)⟩
set_option maxRecDepth 20000 in
theorem gM_13_43 : PM 13 (104, (0, 72)) := ⟨Nat.le_of_ble_eq_true rfl, (in9 106 rfl rfl), (in9 107 rfl rfl), (in9 108 rfl rfl)⟩
set_option maxRecDepth 20000 in
theorem gM_13_44 : PM 13 (105, (0, 28)) := ⟨Nat.le_of_ble_eq_true rfl, (in6 21 rfl rfl), (in6 22 rfl rfl), (in6 23 rfl rfl)⟩
set_option maxRecDepth 20000 in
theorem gM_13_45 : PM 13 (108, (0, 112)) := ⟨Nat.le_of_ble_eq_true rfl, (in9 117 rfl rfl), (in9 118 rfl rfl), (in9 119 rfl rfl)⟩
set_option maxRecDepth 20000 in
theorem gM_13_46 : PM 13 (109, (0, 35)) := ⟨Nat.le_of_ble_eq_true rfl, (in6 26 rfl rfl), (in6 27 rfl rfl), (in6 28 rfl rfl)⟩
set_option maxRecDepth 20000 in
theorem gM_13_47 : PM 13 (112, (0, 142)) := ⟨Nat.le_of_ble_eq_true rfl, (in9 121 rfl rfl), (in9 122 rfl rfl), (in9 123 rfl rfl)⟩
set_option maxRecDepth 20000 in
theorem gM_13_48 : PM 13 (113, (0, 38)) := ⟨Nat.le_of_ble_eq_true rfl, (in6 38 rfl rfl), (in6 39 rfl rfl), (in6 40 rfl rfl)⟩
set_option maxRecDepth 20000 in
theorem gM_13_49 : PM 13 (117, (0, 158)) := ⟨Nat.le_of_ble_eq_true rfl, (in9 125 rfl rfl), (in9 126 rfl rfl), (in9 127 rfl rfl)⟩
set_option maxRecDepth 20000 in
theorem gM_13_50 : PM 13 (118, (0, 33)) := ⟨Nat.le_of_ble_eq_true rfl, (in6 46 rfl rfl), (in6 47 rfl rfl), (in6 48 rfl rfl)⟩
set_option maxRecDepth 20000 in
theorem gM_13_51 : PM 13 (121, (0, 140)) := ⟨Nat.le_of_ble_eq_true rfl, (in9 129 rfl rfl), (in9 130 rfl rfl), (in9 131 rfl rfl)⟩
set_option maxRecDepth 20000 in
theorem gM_13_52 : PM 13 (122, (0, 36)) := ⟨Nat.le_of_ble_eq_true rfl, (in6 54 rfl rfl), (in6 55 rfl rfl), (in6 56 rfl rfl)⟩
set_option maxRecDepth 20000 in
theorem gM_13_53 : PM 13 (125, (0, 155)) := ⟨Nat.le_of_ble_eq_true rfl, (in9 133 rfl rfl), (in9 134 rfl rfl), (in9 135 rfl rfl)⟩
set_option maxRecDepth 20000 in
theorem gM_13_54 : PM 13 (126, (0, 49)) := ⟨Nat.le_of_ble_eq_true rfl, (in6 66 rfl rfl), (in6 67 rfl rfl), (in6 68 rfl rfl)⟩
set_option maxRecDepth 20000 in
theorem gM_13_55 : PM 13 (129, (0, 183)) := ⟨Nat.le_of_ble_eq_true rfl, (in9 137 rfl rfl), (in9 138 rfl rfl), (in9 139 rfl rfl)⟩
set_option maxRecDepth 20000 in
theorem gM_13_56 : PM 13 (130, (0, 47)) := ⟨Nat.le_of_ble_eq_true rfl, (in6 72 rfl rfl), (in6 73 rfl rfl), (in6 74 rfl rfl)⟩
set_option maxRecDepth 20000 in
theorem gM_13_57 : PM 13 (133, (0, 180)) := ⟨Nat.le_of_ble_eq_true rfl, (in9 141 rfl rfl), (in9 142 rfl rfl), (in9 143 rfl rfl)⟩
set_option maxRecDepth 20000 in
theorem gM_13_58 : PM 13 (134, (0, 44)) := ⟨Nat.le_of_ble_eq_true rfl, (in6 80 rfl rfl), (in6 81 rfl rfl), (in6 82 rfl rfl)⟩
set_option maxRecDepth 20000 in
theorem gM_13_59 : PM 13 (137, (0, 172)) := ⟨Nat.le_of_ble_eq_true rfl, (in9 145 rfl rfl), (in9 146 rfl rfl), (in9 147 rfl rfl)⟩
set_option maxRecDepth 20000 in
theorem gM_13_60 : PM 13 (138, (0, 41)) := ⟨Nat.le_of_ble_eq_true rfl, (in6 92 rfl rfl), (in6 93 rfl rfl), (in6 94 rfl rfl)⟩
set_option maxRecDepth 20000 in
theorem gM_13_61 : PM 13 (141, (0, 165)) := ⟨Nat.le_of_ble_eq_true rfl, (in9 149 rfl rfl), (in9 150 rfl rfl), (in9 151 rfl rfl)⟩
set_option maxRecDepth 20000 in
theorem gM_13_62 : PM 13 (142, (0, 42)) := ⟨Nat.le_of_ble_eq_true rfl, (in6 105 rfl rfl), (in6 106 rfl rfl), (in6 107 rfl rfl)⟩
set_option maxRecDepth 20000 in
theorem gM_13_63 : PM 13 (146, (0, 167)) := ⟨Nat.le_of_ble_eq_true rfl, (in9 157 rfl rfl), (in9 158 rfl rfl), (in9 159 rfl rfl)⟩
set_option maxRecDepth 20000 in
theorem gM_13_64 : PM 13 (147, (0, 27)) := ⟨Nat.le_of_ble_eq_true rfl, (in6 117 rfl rfl), (in6 118 rfl rfl), (in6 119 rfl rfl)⟩
set_option maxRecDepth 20000 in
theorem gM_13_65 : PM 13 (150, (0, 110)) := ⟨Nat.le_of_ble_eq_true rfl, (in9 162 rfl rfl), (in9 163 rfl rfl), (in9 164 rfl rfl)⟩
set_option maxRecDepth 20000 in
theorem gM_13_66 : PM 13 (151, (0, 32)) := ⟨Nat.le_of_ble_eq_true rfl, (in6 137 rfl rfl), (in6 138 rfl rfl), (in6 139 rfl rfl)⟩
set_option maxRecDepth 20000 in
theorem gM_13_67 : PM 13 (154, (0, 137)) := ⟨Nat.le_of_ble_eq_true rfl, (in9 174 rfl rfl), (in9 175 rfl rfl), (in9 176 rfl rfl)⟩
set_option maxRecDepth 20000 in
theorem gM_13_68 : PM 13 (155, (0, 16)) := ⟨Nat.le_of_ble_eq_true rfl, (in6 156 rfl rfl), (in6 157 rfl rfl), (in6 158 rfl rfl)⟩
set_option maxRecDepth 20000 in
theorem gM_13_69 : PM 13 (158, (0, 71)) := ⟨Nat.le_of_ble_eq_true rfl, (in9 186 rfl rfl), (in9 187 rfl rfl), (in9 188 rfl rfl)⟩
set_option maxRecDepth 20000 in
theorem gM_13_70 : PM 13 (159, (0, 29)) := ⟨Nat.le_of_ble_eq_true rfl, (in6 160 rfl rfl), (in6 161 rfl rfl), (in6 162 rfl rfl)⟩
set_option maxRecDepth 20000 in
theorem gM_13_71 : PM 13 (163, (0, 113)) := ⟨Nat.le_of_ble_eq_true rfl, (in9 190 rfl rfl), (in9 191 rfl rfl), (in9 192 rfl rfl)⟩
set_option maxRecDepth 20000 in
theorem gM_13_72 : PM 13 (164, (0, 14)) := ⟨Nat.le_of_ble_eq_true rfl, (in6 169 rfl rfl), (in6 170 rfl rfl), (in6 171 rfl rfl)⟩
set_option maxRecDepth 20000 in
theorem gM_13_73 : PM 13 (167, (0, 52)) := ⟨Nat.le_of_ble_eq_true rfl, (in9 201 rfl rfl), (in9 202 rfl rfl), (in9 203 rfl rfl)⟩
theorem gM_13 : ∀ e ∈ tbM_13, PM 13 e := List.forall_mem_cons.mpr ⟨gM_13_0, List.forall_mem_cons.mpr ⟨gM_13_1, List.forall_mem_cons.mpr ⟨gM_13_2, List.forall_mem_cons.mpr ⟨gM_13_3, List.forall_mem_cons.mpr ⟨gM_13_4, List.forall_mem_cons.mpr ⟨gM_13_5, List.forall_mem_cons.mpr ⟨gM_13_6, List.forall_mem_cons.mpr ⟨gM_13_7, List.forall_mem_cons.mpr ⟨gM_13_8, List.forall_mem_cons.mpr ⟨gM_13_9, List.forall_mem_cons.mpr ⟨gM_13_10, List.forall_mem_cons.mpr ⟨gM_13_11, List.forall_mem_cons.mpr ⟨gM_13_12, List.forall_mem_cons.mpr ⟨gM_13_13, List.forall_mem_cons.mpr ⟨gM_13_14, List.forall_mem_cons.mpr ⟨gM_13_15, List.forall_mem_cons.mpr ⟨gM_13_16, List.forall_mem_cons.mpr ⟨gM_13_17, List.forall_mem_cons.mpr ⟨gM_13_18, List.forall_mem_cons.mpr ⟨gM_13_19, List.forall_mem_cons.mpr ⟨gM_13_20, List.forall_mem_cons.mpr ⟨gM_13_21, List.forall_mem_cons.mpr ⟨gM_13_22, List.forall_mem_cons.mpr ⟨gM_13_23, List.forall_mem_cons.mpr ⟨gM_13_24, List.forall_mem_cons.mpr ⟨gM_13_25, List.forall_mem_cons.mpr ⟨gM_13_26, List.forall_mem_cons.mpr ⟨gM_13_27, List.forall_mem_cons.mpr ⟨gM_13_28, List.forall_mem_cons.mpr ⟨gM_13_29, List.forall_mem_cons.mpr ⟨gM_13_30, List.forall_mem_cons.mpr ⟨gM_13_31, List.forall_mem_cons.mpr ⟨gM_13_32, List.forall_mem_cons.mpr ⟨gM_13_33, List.forall_mem_cons.mpr ⟨gM_13_34, List.forall_mem_cons.mpr ⟨gM_13_35, List.forall_mem_cons.mpr ⟨gM_13_36, List.forall_mem_cons.mpr ⟨gM_13_37, List.forall_mem_cons.mpr ⟨gM_13_38, List.forall_mem_cons.mpr ⟨gM_13_39, List.forall_mem_cons.mpr ⟨gM_13_40, List.forall_mem_cons.mpr ⟨gM_13_41, List.forall_mem_cons.mpr ⟨gM_13_42, List.forall_mem_cons.mpr ⟨gM_13_43, List.forall_mem_cons.mpr ⟨gM_13_44, List.forall_mem_cons.mpr ⟨gM_13_45, List.forall_mem_cons.mpr ⟨gM_13_46, List.forall_mem_cons.mpr ⟨gM_13_47, List.forall_mem_cons.mpr ⟨gM_13_48, List.forall_mem_cons.mpr ⟨gM_13_49, List.forall_mem_cons.mpr ⟨gM_13_50, List.forall_mem_cons.mpr ⟨gM_13_51, List.forall_mem_cons.mpr ⟨gM_13_52, List.forall_mem_cons.mpr ⟨gM_13_53, List.forall_mem_cons.mpr ⟨gM_13_54, List.forall_mem_cons.mpr ⟨gM_13_55, List.forall_mem_cons.mpr ⟨gM_13_56, List.forall_mem_cons.mpr ⟨gM_13_57, List.forall_mem_cons.mpr ⟨gM_13_58, List.forall_mem_cons.mpr ⟨gM_13_59, List.forall_mem_cons.mpr ⟨gM_13_60, List.forall_mem_cons.mpr ⟨gM_13_61, List.forall_mem_cons.mpr ⟨gM_13_62, List.forall_mem_cons.mpr ⟨gM_13_63, List.forall_mem_cons.mpr ⟨gM_13_64, List.forall_mem_cons.mpr ⟨gM_13_65, List.forall_mem_cons.mpr ⟨gM_13_66, List.forall_mem_cons.mpr ⟨gM_13_67, List.forall_mem_cons.mpr ⟨gM_13_68, List.forall_mem_cons.mpr ⟨gM_13_69, List.forall_mem_cons.mpr ⟨gM_13_70, List.forall_mem_cons.mpr ⟨gM_13_71, List.forall_mem_cons.mpr ⟨gM_13_72, List.forall_mem_cons.mpr ⟨gM_13_73, fun _ h => absurd h List.not_mem_nil⟩⟩⟩⟩⟩⟩⟩⟩⟩⟩⟩⟩⟩⟩⟩⟩⟩⟩⟩⟩⟩⟩⟩⟩⟩⟩⟩⟩⟩⟩⟩⟩⟩⟩⟩⟩⟩⟩⟩⟩⟩⟩⟩⟩⟩⟩⟩⟩⟩⟩⟩⟩⟩⟩⟩⟩⟩⟩⟩⟩⟩⟩⟩⟩⟩⟩⟩⟩⟩⟩⟩⟩⟩⟩
theorem gM (o : Nat) : ∀ e ∈ tbM o, PM o e := by
  unfold tbM
  split
  · exact gM_0
  · exact gM_1
  · exact gM_2
  · exact gM_3
  · exact gM_4
  · exact gM_5
  · exact gM_6
  · exact gM_7
  · exact gM_8
  · exact gM_9
  · exact gM_10
  · exact gM_11
  · exact gM_12
  · exact gM_13
  · intro e he; cases he

/-! THE CONSTRUCTORS, run by the kernel -/
def aX0 : aX := fun _ => (0, fun _ => 0)
def aExt (i : Instr) (S : List Value) : Bool := match i with
  | .iaload => (match S with
    | _ :: .retAddr _ :: _ => true
    | _ => false)
  | .arraylength => (match S with
    | .retAddr _ :: _ => true
    | _ => false)
  | _ => false
/-- a list, its spine laid out ahead of what is done with it (for the kernel) -/
def nrm {α β : Type} : List α → (List α → β) → β
  | [], K => K []
  | c :: t, K => nrm t (fun t' => K (c :: t'))
theorem nrm_eq {α β : Type} : ∀ (l : List α) (K : List α → β), nrm l K = K l
  | [], _ => rfl
  | c :: t, K => by unfold nrm; rw [nrm_eq t]
def aHp (i : Instr) : Bool := match i with
  | .putfield _ => true
  | .iastore => true
  | .bastore => true
  | .aastore => true
  | .new _ => true
  | .newarray _ => true
  | .anewarray _ => true
  | .multianewarray _ _ => true
  | _ => false
def cM : List aM := [mL_law, mX11_init, mX8_init, mX10_init, mX0_init, mX3_init, mX2_init, mX9_init, mX5_init, mX5_sum, mX1_init, mX4_init, mX4_take, mX7_init, mX6_init, mX12_init]
def mOf (j : Nat) : aM := cM.getD j mL_law
def cT0 : List (Nat × Instr × Nat) := [(0, .new 7, 3), (3, .dup, 1), (4, .invokespecial 9, 3), (7, .astore_n 1, 1), (8, .new 10, 3), (11, .dup, 1), (12, .invokespecial 12, 3), (15, .astore_n 2, 1), (16, .iconst 0, 1), (17, .istore_n 3, 1)]
set_option maxRecDepth 100000 in
theorem cT0_ok : ∀ e ∈ cT0, decode (am_cd (mOf 0)) e.1 = .ok (e.2.1, e.2.2) := List.forall_mem_cons.mpr ⟨dL_law_0, List.forall_mem_cons.mpr ⟨dL_law_3, List.forall_mem_cons.mpr ⟨dL_law_4, List.forall_mem_cons.mpr ⟨dL_law_7, List.forall_mem_cons.mpr ⟨dL_law_8, List.forall_mem_cons.mpr ⟨dL_law_11, List.forall_mem_cons.mpr ⟨dL_law_12, List.forall_mem_cons.mpr ⟨dL_law_15, List.forall_mem_cons.mpr ⟨dL_law_16, List.forall_mem_cons.mpr ⟨dL_law_17, List.forall_mem_nil _⟩⟩⟩⟩⟩⟩⟩⟩⟩⟩
def cT1 : List (Nat × Instr × Nat) := [(0, .aload_n 0, 1), (1, .invokespecial 3, 3), (4, .aload_n 0, 1), (5, .iconst 4, 1), (6, .anewarray 9, 3), (9, .putfield 11, 3), (12, .aload_n 0, 1), (13, .new 15, 3), (16, .dup, 1), (17, .invokespecial 17, 3), (20, .putfield 18, 3), (23, .aload_n 0, 1), (24, .new 22, 3), (27, .dup, 1), (28, .invokespecial 24, 3), (31, .putfield 25, 3), (34, .aload_n 0, 1), (35, .new 22, 3), (38, .dup, 1), (39, .invokespecial 24, 3), (42, .putfield 29, 3), (45, .aload_n 0, 1), (46, .bipush 6, 2), (48, .newarray .int, 2), (50, .putfield 32, 3), (53, .aload_n 0, 1), (54, .new 36, 3), (57, .dup, 1), (58, .invokespecial 38, 3), (61, .putfield 39, 3), (64, .aload_n 0, 1), (65, .new 43, 3), (68, .dup, 1), (69, .invokespecial 45, 3), (72, .putfield 46, 3), (75, .aload_n 0, 1), (76, .new 50, 3), (79, .dup, 1), (80, .invokespecial 52, 3), (83, .putfield 53, 3), (86, .aload_n 0, 1), (87, .new 57, 3), (90, .dup, 1), (91, .invokespecial 59, 3), (94, .putfield 60, 3), (97, .aload_n 0, 1), (98, .iconst 4, 1), (99, .anewarray 64, 3), (102, .putfield 66, 3), (105, .iconst 0, 1), (106, .istore_n 1, 1), (107, .iload_n 1, 1), (108, .iconst 4, 1), (109, .if_icmp .ge 22, 3), (112, .aload_n 0, 1), (113, .getfield 11, 3), (116, .iload_n 1, 1), (117, .new 9, 3), (120, .dup, 1), (121, .invokespecial 70, 3), (124, .aastore, 1), (125, .iinc 1 1, 3), (128, .goto (-21), 3), (131, .aload_n 0, 1), (132, .getfield 11, 3), (135, .iconst 0, 1), (136, .aaload, 1), (137, .bipush 63, 2), (139, .putfield 71, 3), (142, .aload_n 0, 1), (143, .new 75, 3), (146, .dup, 1), (147, .aload_n 0, 1), (148, .getfield 11, 3), (151, .iconst 0, 1), (152, .aaload, 1), (153, .aload_n 0, 1), (154, .getfield 11, 3), (157, .iconst 1, 1), (158, .aaload, 1), (159, .invokespecial 77, 3), (162, .putfield 80, 3), (165, .aload_n 0, 1), (166, .new 75, 3), (169, .dup, 1), (170, .aload_n 0, 1), (171, .getfield 11, 3), (174, .iconst 0, 1), (175, .aaload, 1), (176, .aload_n 0, 1), (177, .getfield 11, 3), (180, .iconst 1, 1), (181, .aaload, 1), (182, .invokespecial 77, 3), (185, .putfield 84, 3), (188, .aload_n 0, 1), (189, .new 87, 3), (192, .dup, 1), (193, .new 75, 3), (196, .dup, 1), (197, .aload_n 0, 1), (198, .getfield 11, 3), (201, .iconst 0, 1), (202, .aaload, 1), (203, .aload_n 0, 1), (204, .getfield 11, 3), (207, .iconst 1, 1), (208, .aaload, 1), (209, .invokespecial 77, 3), (212, .invokespecial 89, 3), (215, .putfield 92, 3), (218, .iconst 0, 1), (219, .istore_n 1, 1), (220, .iload_n 1, 1), (221, .iconst 4, 1), (222, .if_icmp .ge 22, 3), (225, .aload_n 0, 1), (226, .getfield 66, 3), (229, .iload_n 1, 1), (230, .new 64, 3), (233, .dup, 1), (234, .invokespecial 96, 3), (237, .aastore, 1), (238, .iinc 1 1, 3), (241, .goto (-21), 3), (244, .return_, 1)]
set_option maxRecDepth 100000 in
theorem cT1_ok : ∀ e ∈ cT1, decode (am_cd (mOf 1)) e.1 = .ok (e.2.1, e.2.2) := List.forall_mem_cons.mpr ⟨dX11_init_0, List.forall_mem_cons.mpr ⟨dX11_init_1, List.forall_mem_cons.mpr ⟨dX11_init_4, List.forall_mem_cons.mpr ⟨dX11_init_5, List.forall_mem_cons.mpr ⟨dX11_init_6, List.forall_mem_cons.mpr ⟨dX11_init_9, List.forall_mem_cons.mpr ⟨dX11_init_12, List.forall_mem_cons.mpr ⟨dX11_init_13, List.forall_mem_cons.mpr ⟨dX11_init_16, List.forall_mem_cons.mpr ⟨dX11_init_17, List.forall_mem_cons.mpr ⟨dX11_init_20, List.forall_mem_cons.mpr ⟨dX11_init_23, List.forall_mem_cons.mpr ⟨dX11_init_24, List.forall_mem_cons.mpr ⟨dX11_init_27, List.forall_mem_cons.mpr ⟨dX11_init_28, List.forall_mem_cons.mpr ⟨dX11_init_31, List.forall_mem_cons.mpr ⟨dX11_init_34, List.forall_mem_cons.mpr ⟨dX11_init_35, List.forall_mem_cons.mpr ⟨dX11_init_38, List.forall_mem_cons.mpr ⟨dX11_init_39, List.forall_mem_cons.mpr ⟨dX11_init_42, List.forall_mem_cons.mpr ⟨dX11_init_45, List.forall_mem_cons.mpr ⟨dX11_init_46, List.forall_mem_cons.mpr ⟨dX11_init_48, List.forall_mem_cons.mpr ⟨dX11_init_50, List.forall_mem_cons.mpr ⟨dX11_init_53, List.forall_mem_cons.mpr ⟨dX11_init_54, List.forall_mem_cons.mpr ⟨dX11_init_57, List.forall_mem_cons.mpr ⟨dX11_init_58, List.forall_mem_cons.mpr ⟨dX11_init_61, List.forall_mem_cons.mpr ⟨dX11_init_64, List.forall_mem_cons.mpr ⟨dX11_init_65, List.forall_mem_cons.mpr ⟨dX11_init_68, List.forall_mem_cons.mpr ⟨dX11_init_69, List.forall_mem_cons.mpr ⟨dX11_init_72, List.forall_mem_cons.mpr ⟨dX11_init_75, List.forall_mem_cons.mpr ⟨dX11_init_76, List.forall_mem_cons.mpr ⟨dX11_init_79, List.forall_mem_cons.mpr ⟨dX11_init_80, List.forall_mem_cons.mpr ⟨dX11_init_83, List.forall_mem_cons.mpr ⟨dX11_init_86, List.forall_mem_cons.mpr ⟨dX11_init_87, List.forall_mem_cons.mpr ⟨dX11_init_90, List.forall_mem_cons.mpr ⟨dX11_init_91, List.forall_mem_cons.mpr ⟨dX11_init_94, List.forall_mem_cons.mpr ⟨dX11_init_97, List.forall_mem_cons.mpr ⟨dX11_init_98, List.forall_mem_cons.mpr ⟨dX11_init_99, List.forall_mem_cons.mpr ⟨dX11_init_102, List.forall_mem_cons.mpr ⟨dX11_init_105, List.forall_mem_cons.mpr ⟨dX11_init_106, List.forall_mem_cons.mpr ⟨dX11_init_107, List.forall_mem_cons.mpr ⟨dX11_init_108, List.forall_mem_cons.mpr ⟨dX11_init_109, List.forall_mem_cons.mpr ⟨dX11_init_112, List.forall_mem_cons.mpr ⟨dX11_init_113, List.forall_mem_cons.mpr ⟨dX11_init_116, List.forall_mem_cons.mpr ⟨dX11_init_117, List.forall_mem_cons.mpr ⟨dX11_init_120, List.forall_mem_cons.mpr ⟨dX11_init_121, List.forall_mem_cons.mpr ⟨dX11_init_124, List.forall_mem_cons.mpr ⟨dX11_init_125, List.forall_mem_cons.mpr ⟨dX11_init_128, List.forall_mem_cons.mpr ⟨dX11_init_131, List.forall_mem_cons.mpr ⟨dX11_init_132, List.forall_mem_cons.mpr ⟨dX11_init_135, List.forall_mem_cons.mpr ⟨dX11_init_136, List.forall_mem_cons.mpr ⟨dX11_init_137, List.forall_mem_cons.mpr ⟨dX11_init_139, List.forall_mem_cons.mpr ⟨dX11_init_142, List.forall_mem_cons.mpr ⟨dX11_init_143, List.forall_mem_cons.mpr ⟨dX11_init_146, List.forall_mem_cons.mpr ⟨dX11_init_147, List.forall_mem_cons.mpr ⟨dX11_init_148, List.forall_mem_cons.mpr ⟨dX11_init_151, List.forall_mem_cons.mpr ⟨dX11_init_152, List.forall_mem_cons.mpr ⟨dX11_init_153, List.forall_mem_cons.mpr ⟨dX11_init_154, List.forall_mem_cons.mpr ⟨dX11_init_157, List.forall_mem_cons.mpr ⟨dX11_init_158, List.forall_mem_cons.mpr ⟨dX11_init_159, List.forall_mem_cons.mpr ⟨dX11_init_162, List.forall_mem_cons.mpr ⟨dX11_init_165, List.forall_mem_cons.mpr ⟨dX11_init_166, List.forall_mem_cons.mpr ⟨dX11_init_169, List.forall_mem_cons.mpr ⟨dX11_init_170, List.forall_mem_cons.mpr ⟨dX11_init_171, List.forall_mem_cons.mpr ⟨dX11_init_174, List.forall_mem_cons.mpr ⟨dX11_init_175, List.forall_mem_cons.mpr ⟨dX11_init_176, List.forall_mem_cons.mpr ⟨dX11_init_177, List.forall_mem_cons.mpr ⟨dX11_init_180, List.forall_mem_cons.mpr ⟨dX11_init_181, List.forall_mem_cons.mpr ⟨dX11_init_182, List.forall_mem_cons.mpr ⟨dX11_init_185, List.forall_mem_cons.mpr ⟨dX11_init_188, List.forall_mem_cons.mpr ⟨dX11_init_189, List.forall_mem_cons.mpr ⟨dX11_init_192, List.forall_mem_cons.mpr ⟨dX11_init_193, List.forall_mem_cons.mpr ⟨dX11_init_196, List.forall_mem_cons.mpr ⟨dX11_init_197, List.forall_mem_cons.mpr ⟨dX11_init_198, List.forall_mem_cons.mpr ⟨dX11_init_201, List.forall_mem_cons.mpr ⟨dX11_init_202, List.forall_mem_cons.mpr ⟨dX11_init_203, List.forall_mem_cons.mpr ⟨dX11_init_204, List.forall_mem_cons.mpr ⟨dX11_init_207, List.forall_mem_cons.mpr ⟨dX11_init_208, List.forall_mem_cons.mpr ⟨dX11_init_209, List.forall_mem_cons.mpr ⟨dX11_init_212, List.forall_mem_cons.mpr ⟨dX11_init_215, List.forall_mem_cons.mpr ⟨dX11_init_218, List.forall_mem_cons.mpr ⟨dX11_init_219, List.forall_mem_cons.mpr ⟨dX11_init_220, List.forall_mem_cons.mpr ⟨dX11_init_221, List.forall_mem_cons.mpr ⟨dX11_init_222, List.forall_mem_cons.mpr ⟨dX11_init_225, List.forall_mem_cons.mpr ⟨dX11_init_226, List.forall_mem_cons.mpr ⟨dX11_init_229, List.forall_mem_cons.mpr ⟨dX11_init_230, List.forall_mem_cons.mpr ⟨dX11_init_233, List.forall_mem_cons.mpr ⟨dX11_init_234, List.forall_mem_cons.mpr ⟨dX11_init_237, List.forall_mem_cons.mpr ⟨dX11_init_238, List.forall_mem_cons.mpr ⟨dX11_init_241, List.forall_mem_cons.mpr ⟨dX11_init_244, List.forall_mem_nil _⟩⟩⟩⟩⟩⟩⟩⟩⟩⟩⟩⟩⟩⟩⟩⟩⟩⟩⟩⟩⟩⟩⟩⟩⟩⟩⟩⟩⟩⟩⟩⟩⟩⟩⟩⟩⟩⟩⟩⟩⟩⟩⟩⟩⟩⟩⟩⟩⟩⟩⟩⟩⟩⟩⟩⟩⟩⟩⟩⟩⟩⟩⟩⟩⟩⟩⟩⟩⟩⟩⟩⟩⟩⟩⟩⟩⟩⟩⟩⟩⟩⟩⟩⟩⟩⟩⟩⟩⟩⟩⟩⟩⟩⟩⟩⟩⟩⟩⟩⟩⟩⟩⟩⟩⟩⟩⟩⟩⟩⟩⟩⟩⟩⟩⟩⟩⟩⟩⟩⟩⟩⟩⟩⟩⟩⟩
def cT2 : List (Nat × Instr × Nat) := [(0, .aload_n 0, 1), (1, .invokespecial 3, 3), (4, .aload_n 0, 1), (5, .bipush 90, 2), (7, .newarray .int, 2), (9, .putfield 11, 3), (12, .return_, 1)]
set_option maxRecDepth 100000 in
theorem cT2_ok : ∀ e ∈ cT2, decode (am_cd (mOf 2)) e.1 = .ok (e.2.1, e.2.2) := List.forall_mem_cons.mpr ⟨dX8_init_0, List.forall_mem_cons.mpr ⟨dX8_init_1, List.forall_mem_cons.mpr ⟨dX8_init_4, List.forall_mem_cons.mpr ⟨dX8_init_5, List.forall_mem_cons.mpr ⟨dX8_init_7, List.forall_mem_cons.mpr ⟨dX8_init_9, List.forall_mem_cons.mpr ⟨dX8_init_12, List.forall_mem_nil _⟩⟩⟩⟩⟩⟩⟩
def cT3 : List (Nat × Instr × Nat) := [(0, .aload_n 0, 1), (1, .invokespecial 3, 3), (4, .aload_n 0, 1), (5, .bipush 64, 2), (7, .newarray .int, 2), (9, .putfield 9, 3), (12, .aload_n 0, 1), (13, .bipush 64, 2), (15, .newarray .boolean, 2), (17, .putfield 15, 3), (20, .return_, 1)]
set_option maxRecDepth 100000 in
theorem cT3_ok : ∀ e ∈ cT3, decode (am_cd (mOf 3)) e.1 = .ok (e.2.1, e.2.2) := List.forall_mem_cons.mpr ⟨dX10_init_0, List.forall_mem_cons.mpr ⟨dX10_init_1, List.forall_mem_cons.mpr ⟨dX10_init_4, List.forall_mem_cons.mpr ⟨dX10_init_5, List.forall_mem_cons.mpr ⟨dX10_init_7, List.forall_mem_cons.mpr ⟨dX10_init_9, List.forall_mem_cons.mpr ⟨dX10_init_12, List.forall_mem_cons.mpr ⟨dX10_init_13, List.forall_mem_cons.mpr ⟨dX10_init_15, List.forall_mem_cons.mpr ⟨dX10_init_17, List.forall_mem_cons.mpr ⟨dX10_init_20, List.forall_mem_nil _⟩⟩⟩⟩⟩⟩⟩⟩⟩⟩⟩
def cT4 : List (Nat × Instr × Nat) := [(0, .aload_n 0, 1), (1, .invokespecial 3, 3), (4, .aload_n 0, 1), (5, .bipush 16, 2), (7, .bipush 64, 2), (9, .multianewarray 9 2, 4), (13, .putfield 11, 3), (16, .return_, 1)]
set_option maxRecDepth 100000 in
theorem cT4_ok : ∀ e ∈ cT4, decode (am_cd (mOf 4)) e.1 = .ok (e.2.1, e.2.2) := List.forall_mem_cons.mpr ⟨dX0_init_0, List.forall_mem_cons.mpr ⟨dX0_init_1, List.forall_mem_cons.mpr ⟨dX0_init_4, List.forall_mem_cons.mpr ⟨dX0_init_5, List.forall_mem_cons.mpr ⟨dX0_init_7, List.forall_mem_cons.mpr ⟨dX0_init_9, List.forall_mem_cons.mpr ⟨dX0_init_13, List.forall_mem_cons.mpr ⟨dX0_init_16, List.forall_mem_nil _⟩⟩⟩⟩⟩⟩⟩⟩
def cT5 : List (Nat × Instr × Nat) := [(0, .aload_n 0, 1), (1, .invokespecial 3, 3), (4, .aload_n 0, 1), (5, .bipush 64, 2), (7, .newarray .int, 2), (9, .putfield 9, 3), (12, .return_, 1)]
set_option maxRecDepth 100000 in
theorem cT5_ok : ∀ e ∈ cT5, decode (am_cd (mOf 5)) e.1 = .ok (e.2.1, e.2.2) := List.forall_mem_cons.mpr ⟨dX3_init_0, List.forall_mem_cons.mpr ⟨dX3_init_1, List.forall_mem_cons.mpr ⟨dX3_init_4, List.forall_mem_cons.mpr ⟨dX3_init_5, List.forall_mem_cons.mpr ⟨dX3_init_7, List.forall_mem_cons.mpr ⟨dX3_init_9, List.forall_mem_cons.mpr ⟨dX3_init_12, List.forall_mem_nil _⟩⟩⟩⟩⟩⟩⟩
def cT6 : List (Nat × Instr × Nat) := [(0, .aload_n 0, 1), (1, .invokespecial 3, 3), (4, .aload_n 0, 1), (5, .bipush 16, 2), (7, .anewarray 11, 3), (10, .putfield 13, 3), (13, .aload_n 0, 1), (14, .bipush 16, 2), (16, .newarray .int, 2), (18, .putfield 17, 3), (21, .aload_n 0, 1), (22, .bipush 10, 2), (24, .newarray .int, 2), (26, .putfield 21, 3), (29, .aload_n 0, 1), (30, .bipush 10, 2), (32, .newarray .int, 2), (34, .putfield 24, 3), (37, .iconst 0, 1), (38, .istore_n 1, 1), (39, .iload_n 1, 1), (40, .bipush 16, 2), (42, .if_icmp .ge 22, 3), (45, .aload_n 0, 1), (46, .getfield 13, 3), (49, .iload_n 1, 1), (50, .new 11, 3), (53, .dup, 1), (54, .invokespecial 27, 3), (57, .aastore, 1), (58, .iinc 1 1, 3), (61, .goto (-22), 3), (64, .iconst 0, 1), (65, .istore_n 1, 1), (66, .iload_n 1, 1), (67, .bipush 10, 2), (69, .if_icmp .ge 16, 3), (72, .aload_n 0, 1), (73, .getfield 21, 3), (76, .iload_n 1, 1), (77, .iconst (-1), 1), (78, .iastore, 1), (79, .iinc 1 1, 3), (82, .goto (-16), 3), (85, .return_, 1)]
set_option maxRecDepth 100000 in
theorem cT6_ok : ∀ e ∈ cT6, decode (am_cd (mOf 6)) e.1 = .ok (e.2.1, e.2.2) := List.forall_mem_cons.mpr ⟨dX2_init_0, List.forall_mem_cons.mpr ⟨dX2_init_1, List.forall_mem_cons.mpr ⟨dX2_init_4, List.forall_mem_cons.mpr ⟨dX2_init_5, List.forall_mem_cons.mpr ⟨dX2_init_7, List.forall_mem_cons.mpr ⟨dX2_init_10, List.forall_mem_cons.mpr ⟨dX2_init_13, List.forall_mem_cons.mpr ⟨dX2_init_14, List.forall_mem_cons.mpr ⟨dX2_init_16, List.forall_mem_cons.mpr ⟨dX2_init_18, List.forall_mem_cons.mpr ⟨dX2_init_21, List.forall_mem_cons.mpr ⟨dX2_init_22, List.forall_mem_cons.mpr ⟨dX2_init_24, List.forall_mem_cons.mpr ⟨dX2_init_26, List.forall_mem_cons.mpr ⟨dX2_init_29, List.forall_mem_cons.mpr ⟨dX2_init_30, List.forall_mem_cons.mpr ⟨dX2_init_32, List.forall_mem_cons.mpr ⟨dX2_init_34, List.forall_mem_cons.mpr ⟨dX2_init_37, List.forall_mem_cons.mpr ⟨dX2_init_38, List.forall_mem_cons.mpr ⟨dX2_init_39, List.forall_mem_cons.mpr ⟨dX2_init_40, List.forall_mem_cons.mpr ⟨dX2_init_42, List.forall_mem_cons.mpr ⟨dX2_init_45, List.forall_mem_cons.mpr ⟨dX2_init_46, List.forall_mem_cons.mpr ⟨dX2_init_49, List.forall_mem_cons.mpr ⟨dX2_init_50, List.forall_mem_cons.mpr ⟨dX2_init_53, List.forall_mem_cons.mpr ⟨dX2_init_54, List.forall_mem_cons.mpr ⟨dX2_init_57, List.forall_mem_cons.mpr ⟨dX2_init_58, List.forall_mem_cons.mpr ⟨dX2_init_61, List.forall_mem_cons.mpr ⟨dX2_init_64, List.forall_mem_cons.mpr ⟨dX2_init_65, List.forall_mem_cons.mpr ⟨dX2_init_66, List.forall_mem_cons.mpr ⟨dX2_init_67, List.forall_mem_cons.mpr ⟨dX2_init_69, List.forall_mem_cons.mpr ⟨dX2_init_72, List.forall_mem_cons.mpr ⟨dX2_init_73, List.forall_mem_cons.mpr ⟨dX2_init_76, List.forall_mem_cons.mpr ⟨dX2_init_77, List.forall_mem_cons.mpr ⟨dX2_init_78, List.forall_mem_cons.mpr ⟨dX2_init_79, List.forall_mem_cons.mpr ⟨dX2_init_82, List.forall_mem_cons.mpr ⟨dX2_init_85, List.forall_mem_nil _⟩⟩⟩⟩⟩⟩⟩⟩⟩⟩⟩⟩⟩⟩⟩⟩⟩⟩⟩⟩⟩⟩⟩⟩⟩⟩⟩⟩⟩⟩⟩⟩⟩⟩⟩⟩⟩⟩⟩⟩⟩⟩⟩⟩⟩
def cT7 : List (Nat × Instr × Nat) := [(0, .aload_n 0, 1), (1, .invokespecial 1, 3), (4, .aload_n 0, 1), (5, .iconst (-1), 1), (6, .putfield 9, 3), (9, .return_, 1)]
set_option maxRecDepth 100000 in
theorem cT7_ok : ∀ e ∈ cT7, decode (am_cd (mOf 7)) e.1 = .ok (e.2.1, e.2.2) := List.forall_mem_cons.mpr ⟨dX9_init_0, List.forall_mem_cons.mpr ⟨dX9_init_1, List.forall_mem_cons.mpr ⟨dX9_init_4, List.forall_mem_cons.mpr ⟨dX9_init_5, List.forall_mem_cons.mpr ⟨dX9_init_6, List.forall_mem_cons.mpr ⟨dX9_init_9, List.forall_mem_nil _⟩⟩⟩⟩⟩⟩
def cT8 : List (Nat × Instr × Nat) := [(0, .aload_n 0, 1), (1, .invokespecial 1, 3), (4, .aload_n 0, 1), (5, .bipush 16, 2), (7, .newarray .int, 2), (9, .putfield 9, 3), (12, .bipush 7, 2), (14, .istore_n 1, 1), (15, .iload_n 1, 1), (16, .ifCond .le 36, 3), (19, .aload_n 0, 1), (20, .getfield 9, 3), (23, .iload_n 1, 1), (24, .aload_n 0, 1), (25, .getfield 9, 3), (28, .iconst 2, 1), (29, .iload_n 1, 1), (30, .imul, 1), (31, .iaload, 1), (32, .aload_n 0, 1), (33, .getfield 9, 3), (36, .iconst 2, 1), (37, .iload_n 1, 1), (38, .imul, 1), (39, .iconst 1, 1), (40, .iadd, 1), (41, .iaload, 1), (42, .invokestatic 13, 3), (45, .iastore, 1), (46, .iinc 1 (-1), 3), (49, .goto (-34), 3), (52, .return_, 1)]
set_option maxRecDepth 100000 in
theorem cT8_ok : ∀ e ∈ cT8, decode (am_cd (mOf 8)) e.1 = .ok (e.2.1, e.2.2) := List.forall_mem_cons.mpr ⟨dX5_init_0, List.forall_mem_cons.mpr ⟨dX5_init_1, List.forall_mem_cons.mpr ⟨dX5_init_4, List.forall_mem_cons.mpr ⟨dX5_init_5, List.forall_mem_cons.mpr ⟨dX5_init_7, List.forall_mem_cons.mpr ⟨dX5_init_9, List.forall_mem_cons.mpr ⟨dX5_init_12, List.forall_mem_cons.mpr ⟨dX5_init_14, List.forall_mem_cons.mpr ⟨dX5_init_15, List.forall_mem_cons.mpr ⟨dX5_init_16, List.forall_mem_cons.mpr ⟨dX5_init_19, List.forall_mem_cons.mpr ⟨dX5_init_20, List.forall_mem_cons.mpr ⟨dX5_init_23, List.forall_mem_cons.mpr ⟨dX5_init_24, List.forall_mem_cons.mpr ⟨dX5_init_25, List.forall_mem_cons.mpr ⟨dX5_init_28, List.forall_mem_cons.mpr ⟨dX5_init_29, List.forall_mem_cons.mpr ⟨dX5_init_30, List.forall_mem_cons.mpr ⟨dX5_init_31, List.forall_mem_cons.mpr ⟨dX5_init_32, List.forall_mem_cons.mpr ⟨dX5_init_33, List.forall_mem_cons.mpr ⟨dX5_init_36, List.forall_mem_cons.mpr ⟨dX5_init_37, List.forall_mem_cons.mpr ⟨dX5_init_38, List.forall_mem_cons.mpr ⟨dX5_init_39, List.forall_mem_cons.mpr ⟨dX5_init_40, List.forall_mem_cons.mpr ⟨dX5_init_41, List.forall_mem_cons.mpr ⟨dX5_init_42, List.forall_mem_cons.mpr ⟨dX5_init_45, List.forall_mem_cons.mpr ⟨dX5_init_46, List.forall_mem_cons.mpr ⟨dX5_init_49, List.forall_mem_cons.mpr ⟨dX5_init_52, List.forall_mem_nil _⟩⟩⟩⟩⟩⟩⟩⟩⟩⟩⟩⟩⟩⟩⟩⟩⟩⟩⟩⟩⟩⟩⟩⟩⟩⟩⟩⟩⟩⟩⟩⟩
def cT9 : List (Nat × Instr × Nat) := [(0, .bipush 37, 2), (2, .iload_n 0, 1), (3, .imul, 1), (4, .bipush 101, 2), (6, .iload_n 1, 1), (7, .imul, 1), (8, .iadd, 1), (9, .bipush 13, 2), (11, .iadd, 1), (12, .sipush 9973, 3), (15, .irem, 1), (16, .ireturn, 1)]
set_option maxRecDepth 100000 in
theorem cT9_ok : ∀ e ∈ cT9, decode (am_cd (mOf 9)) e.1 = .ok (e.2.1, e.2.2) := List.forall_mem_cons.mpr ⟨dX5_sum_0, List.forall_mem_cons.mpr ⟨dX5_sum_2, List.forall_mem_cons.mpr ⟨dX5_sum_3, List.forall_mem_cons.mpr ⟨dX5_sum_4, List.forall_mem_cons.mpr ⟨dX5_sum_6, List.forall_mem_cons.mpr ⟨dX5_sum_7, List.forall_mem_cons.mpr ⟨dX5_sum_8, List.forall_mem_cons.mpr ⟨dX5_sum_9, List.forall_mem_cons.mpr ⟨dX5_sum_11, List.forall_mem_cons.mpr ⟨dX5_sum_12, List.forall_mem_cons.mpr ⟨dX5_sum_15, List.forall_mem_cons.mpr ⟨dX5_sum_16, List.forall_mem_nil _⟩⟩⟩⟩⟩⟩⟩⟩⟩⟩⟩⟩
def cT10 : List (Nat × Instr × Nat) := [(0, .aload_n 0, 1), (1, .invokespecial 1, 3), (4, .aload_n 0, 1), (5, .sipush 1000, 3), (8, .putfield 7, 3), (11, .aload_n 0, 1), (12, .bipush 100, 2), (14, .putfield 13, 3), (17, .aload_n 0, 1), (18, .bipush 10, 2), (20, .putfield 16, 3), (23, .aload_n 0, 1), (24, .new 19, 3), (27, .dup, 1), (28, .invokespecial 21, 3), (31, .putfield 22, 3), (34, .return_, 1)]
set_option maxRecDepth 100000 in
theorem cT10_ok : ∀ e ∈ cT10, decode (am_cd (mOf 10)) e.1 = .ok (e.2.1, e.2.2) := List.forall_mem_cons.mpr ⟨dX1_init_0, List.forall_mem_cons.mpr ⟨dX1_init_1, List.forall_mem_cons.mpr ⟨dX1_init_4, List.forall_mem_cons.mpr ⟨dX1_init_5, List.forall_mem_cons.mpr ⟨dX1_init_8, List.forall_mem_cons.mpr ⟨dX1_init_11, List.forall_mem_cons.mpr ⟨dX1_init_12, List.forall_mem_cons.mpr ⟨dX1_init_14, List.forall_mem_cons.mpr ⟨dX1_init_17, List.forall_mem_cons.mpr ⟨dX1_init_18, List.forall_mem_cons.mpr ⟨dX1_init_20, List.forall_mem_cons.mpr ⟨dX1_init_23, List.forall_mem_cons.mpr ⟨dX1_init_24, List.forall_mem_cons.mpr ⟨dX1_init_27, List.forall_mem_cons.mpr ⟨dX1_init_28, List.forall_mem_cons.mpr ⟨dX1_init_31, List.forall_mem_cons.mpr ⟨dX1_init_34, List.forall_mem_nil _⟩⟩⟩⟩⟩⟩⟩⟩⟩⟩⟩⟩⟩⟩⟩⟩⟩
def cT11 : List (Nat × Instr × Nat) := [(0, .aload_n 0, 1), (1, .invokespecial 3, 3), (4, .aload_n 0, 1), (5, .aload_n 1, 1), (6, .aload_n 2, 1), (7, .invokevirtual 9, 3), (10, .return_, 1)]
set_option maxRecDepth 100000 in
theorem cT11_ok : ∀ e ∈ cT11, decode (am_cd (mOf 11)) e.1 = .ok (e.2.1, e.2.2) := List.forall_mem_cons.mpr ⟨dX4_init_0, List.forall_mem_cons.mpr ⟨dX4_init_1, List.forall_mem_cons.mpr ⟨dX4_init_4, List.forall_mem_cons.mpr ⟨dX4_init_5, List.forall_mem_cons.mpr ⟨dX4_init_6, List.forall_mem_cons.mpr ⟨dX4_init_7, List.forall_mem_cons.mpr ⟨dX4_init_10, List.forall_mem_nil _⟩⟩⟩⟩⟩⟩⟩
def cT12 : List (Nat × Instr × Nat) := [(0, .aload_n 0, 1), (1, .aload_n 1, 1), (2, .getfield 15, 3), (5, .putfield 21, 3), (8, .aload_n 0, 1), (9, .aload_n 2, 1), (10, .getfield 15, 3), (13, .putfield 24, 3), (16, .aload_n 0, 1), (17, .aload_n 1, 1), (18, .getfield 27, 3), (21, .putfield 30, 3), (24, .aload_n 0, 1), (25, .aload_n 2, 1), (26, .getfield 27, 3), (29, .putfield 33, 3), (32, .aload_n 0, 1), (33, .aload_n 1, 1), (34, .getfield 36, 3), (37, .putfield 40, 3), (40, .aload_n 0, 1), (41, .aload_n 2, 1), (42, .getfield 36, 3), (45, .putfield 43, 3), (48, .return_, 1)]
set_option maxRecDepth 100000 in
theorem cT12_ok : ∀ e ∈ cT12, decode (am_cd (mOf 12)) e.1 = .ok (e.2.1, e.2.2) := List.forall_mem_cons.mpr ⟨dX4_take_0, List.forall_mem_cons.mpr ⟨dX4_take_1, List.forall_mem_cons.mpr ⟨dX4_take_2, List.forall_mem_cons.mpr ⟨dX4_take_5, List.forall_mem_cons.mpr ⟨dX4_take_8, List.forall_mem_cons.mpr ⟨dX4_take_9, List.forall_mem_cons.mpr ⟨dX4_take_10, List.forall_mem_cons.mpr ⟨dX4_take_13, List.forall_mem_cons.mpr ⟨dX4_take_16, List.forall_mem_cons.mpr ⟨dX4_take_17, List.forall_mem_cons.mpr ⟨dX4_take_18, List.forall_mem_cons.mpr ⟨dX4_take_21, List.forall_mem_cons.mpr ⟨dX4_take_24, List.forall_mem_cons.mpr ⟨dX4_take_25, List.forall_mem_cons.mpr ⟨dX4_take_26, List.forall_mem_cons.mpr ⟨dX4_take_29, List.forall_mem_cons.mpr ⟨dX4_take_32, List.forall_mem_cons.mpr ⟨dX4_take_33, List.forall_mem_cons.mpr ⟨dX4_take_34, List.forall_mem_cons.mpr ⟨dX4_take_37, List.forall_mem_cons.mpr ⟨dX4_take_40, List.forall_mem_cons.mpr ⟨dX4_take_41, List.forall_mem_cons.mpr ⟨dX4_take_42, List.forall_mem_cons.mpr ⟨dX4_take_45, List.forall_mem_cons.mpr ⟨dX4_take_48, List.forall_mem_nil _⟩⟩⟩⟩⟩⟩⟩⟩⟩⟩⟩⟩⟩⟩⟩⟩⟩⟩⟩⟩⟩⟩⟩⟩⟩
def cT13 : List (Nat × Instr × Nat) := [(0, .aload_n 0, 1), (1, .invokespecial 3, 3), (4, .aload_n 0, 1), (5, .iconst 0, 1), (6, .putfield 11, 3), (9, .aload_n 0, 1), (10, .iconst 1, 1), (11, .putfield 15, 3), (14, .aload_n 0, 1), (15, .bipush 20, 2), (17, .newarray .int, 2), (19, .putfield 18, 3), (22, .aload_n 0, 1), (23, .bipush 20, 2), (25, .newarray .int, 2), (27, .putfield 22, 3), (30, .aload_n 0, 1), (31, .bipush 20, 2), (33, .newarray .int, 2), (35, .putfield 25, 3), (38, .aload_n 0, 1), (39, .aload_n 1, 1), (40, .putfield 28, 3), (43, .return_, 1)]
set_option maxRecDepth 100000 in
theorem cT13_ok : ∀ e ∈ cT13, decode (am_cd (mOf 13)) e.1 = .ok (e.2.1, e.2.2) := List.forall_mem_cons.mpr ⟨dX7_init_0, List.forall_mem_cons.mpr ⟨dX7_init_1, List.forall_mem_cons.mpr ⟨dX7_init_4, List.forall_mem_cons.mpr ⟨dX7_init_5, List.forall_mem_cons.mpr ⟨dX7_init_6, List.forall_mem_cons.mpr ⟨dX7_init_9, List.forall_mem_cons.mpr ⟨dX7_init_10, List.forall_mem_cons.mpr ⟨dX7_init_11, List.forall_mem_cons.mpr ⟨dX7_init_14, List.forall_mem_cons.mpr ⟨dX7_init_15, List.forall_mem_cons.mpr ⟨dX7_init_17, List.forall_mem_cons.mpr ⟨dX7_init_19, List.forall_mem_cons.mpr ⟨dX7_init_22, List.forall_mem_cons.mpr ⟨dX7_init_23, List.forall_mem_cons.mpr ⟨dX7_init_25, List.forall_mem_cons.mpr ⟨dX7_init_27, List.forall_mem_cons.mpr ⟨dX7_init_30, List.forall_mem_cons.mpr ⟨dX7_init_31, List.forall_mem_cons.mpr ⟨dX7_init_33, List.forall_mem_cons.mpr ⟨dX7_init_35, List.forall_mem_cons.mpr ⟨dX7_init_38, List.forall_mem_cons.mpr ⟨dX7_init_39, List.forall_mem_cons.mpr ⟨dX7_init_40, List.forall_mem_cons.mpr ⟨dX7_init_43, List.forall_mem_nil _⟩⟩⟩⟩⟩⟩⟩⟩⟩⟩⟩⟩⟩⟩⟩⟩⟩⟩⟩⟩⟩⟩⟩⟩
def cT14 : List (Nat × Instr × Nat) := [(0, .aload_n 0, 1), (1, .invokespecial 3, 3), (4, .aload_n 0, 1), (5, .bipush 12, 2), (7, .newarray .int, 2), (9, .putfield 11, 3), (12, .aload_n 0, 1), (13, .iconst (-1), 1), (14, .putfield 15, 3), (17, .return_, 1)]
set_option maxRecDepth 100000 in
theorem cT14_ok : ∀ e ∈ cT14, decode (am_cd (mOf 14)) e.1 = .ok (e.2.1, e.2.2) := List.forall_mem_cons.mpr ⟨dX6_init_0, List.forall_mem_cons.mpr ⟨dX6_init_1, List.forall_mem_cons.mpr ⟨dX6_init_4, List.forall_mem_cons.mpr ⟨dX6_init_5, List.forall_mem_cons.mpr ⟨dX6_init_7, List.forall_mem_cons.mpr ⟨dX6_init_9, List.forall_mem_cons.mpr ⟨dX6_init_12, List.forall_mem_cons.mpr ⟨dX6_init_13, List.forall_mem_cons.mpr ⟨dX6_init_14, List.forall_mem_cons.mpr ⟨dX6_init_17, List.forall_mem_nil _⟩⟩⟩⟩⟩⟩⟩⟩⟩⟩
def cT15 : List (Nat × Instr × Nat) := [(0, .aload_n 0, 1), (1, .invokespecial 1, 3), (4, .aload_n 0, 1), (5, .bipush 6, 2), (7, .newarray .int, 2), (9, .putfield 7, 3), (12, .aload_n 0, 1), (13, .iconst 4, 1), (14, .newarray .int, 2), (16, .putfield 13, 3), (19, .aload_n 0, 1), (20, .iconst 4, 1), (21, .newarray .int, 2), (23, .putfield 16, 3), (26, .aload_n 0, 1), (27, .iconst 4, 1), (28, .newarray .int, 2), (30, .putfield 19, 3), (33, .aload_n 0, 1), (34, .iconst 4, 1), (35, .newarray .int, 2), (37, .putfield 22, 3), (40, .aload_n 0, 1), (41, .iconst 4, 1), (42, .newarray .int, 2), (44, .putfield 25, 3), (47, .aload_n 0, 1), (48, .bipush 48, 2), (50, .newarray .int, 2), (52, .putfield 28, 3), (55, .aload_n 0, 1), (56, .bipush 48, 2), (58, .newarray .int, 2), (60, .putfield 31, 3), (63, .aload_n 0, 1), (64, .bipush 48, 2), (66, .newarray .boolean, 2), (68, .putfield 34, 3), (71, .aload_n 0, 1), (72, .bipush 90, 2), (74, .newarray .int, 2), (76, .putfield 38, 3), (79, .aload_n 0, 1), (80, .bipush 12, 2), (82, .newarray .int, 2), (84, .putfield 41, 3), (87, .aload_n 0, 1), (88, .bipush 12, 2), (90, .newarray .int, 2), (92, .putfield 44, 3), (95, .aload_n 0, 1), (96, .bipush 12, 2), (98, .newarray .boolean, 2), (100, .putfield 47, 3), (103, .aload_n 0, 1), (104, .bipush 20, 2), (106, .newarray .int, 2), (108, .putfield 50, 3), (111, .aload_n 0, 1), (112, .bipush 20, 2), (114, .newarray .int, 2), (116, .putfield 53, 3), (119, .aload_n 0, 1), (120, .bipush 20, 2), (122, .newarray .int, 2), (124, .putfield 56, 3), (127, .aload_n 0, 1), (128, .bipush 64, 2), (130, .newarray .int, 2), (132, .putfield 59, 3), (135, .aload_n 0, 1), (136, .bipush 64, 2), (138, .newarray .int, 2), (140, .putfield 62, 3), (143, .aload_n 0, 1), (144, .bipush 6, 2), (146, .newarray .int, 2), (148, .putfield 65, 3), (151, .aload_n 0, 1), (152, .bipush 6, 2), (154, .newarray .int, 2), (156, .putfield 68, 3), (159, .aload_n 0, 1), (160, .bipush 16, 2), (162, .newarray .int, 2), (164, .putfield 71, 3), (167, .aload_n 0, 1), (168, .bipush 16, 2), (170, .newarray .boolean, 2), (172, .putfield 74, 3), (175, .aload_n 0, 1), (176, .iconst 4, 1), (177, .newarray .int, 2), (179, .putfield 77, 3), (182, .aload_n 0, 1), (183, .iconst 4, 1), (184, .newarray .int, 2), (186, .putfield 80, 3), (189, .aload_n 0, 1), (190, .bipush 16, 2), (192, .newarray .int, 2), (194, .putfield 83, 3), (197, .aload_n 0, 1), (198, .bipush 16, 2), (200, .newarray .int, 2), (202, .putfield 86, 3), (205, .aload_n 0, 1), (206, .bipush 16, 2), (208, .newarray .int, 2), (210, .putfield 89, 3), (213, .aload_n 0, 1), (214, .bipush 16, 2), (216, .newarray .int, 2), (218, .putfield 92, 3), (221, .aload_n 0, 1), (222, .bipush 16, 2), (224, .newarray .int, 2), (226, .putfield 95, 3), (229, .aload_n 0, 1), (230, .bipush 16, 2), (232, .newarray .int, 2), (234, .putfield 98, 3), (237, .aload_n 0, 1), (238, .bipush 16, 2), (240, .newarray .int, 2), (242, .putfield 101, 3), (245, .aload_n 0, 1), (246, .bipush 10, 2), (248, .newarray .int, 2), (250, .putfield 104, 3), (253, .aload_n 0, 1), (254, .bipush 10, 2), (256, .newarray .int, 2), (258, .putfield 107, 3), (261, .aload_n 0, 1), (262, .bipush 16, 2), (264, .newarray .int, 2), (266, .putfield 110, 3), (269, .aload_n 0, 1), (270, .bipush 16, 2), (272, .newarray .int, 2), (274, .putfield 113, 3), (277, .aload_n 0, 1), (278, .bipush 16, 2), (280, .newarray .int, 2), (282, .putfield 116, 3), (285, .aload_n 0, 1), (286, .bipush 8, 2), (288, .newarray .int, 2), (290, .putfield 119, 3), (293, .aload_n 0, 1), (294, .iconst 4, 1), (295, .newarray .int, 2), (297, .putfield 122, 3), (300, .aload_n 0, 1), (301, .iconst 4, 1), (302, .newarray .int, 2), (304, .putfield 125, 3), (307, .aload_n 0, 1), (308, .bipush 48, 2), (310, .newarray .int, 2), (312, .putfield 128, 3), (315, .iconst 0, 1), (316, .istore_n 1, 1), (317, .iload_n 1, 1), (318, .iconst 4, 1), (319, .if_icmp .ge 34, 3), (322, .aload_n 0, 1), (323, .getfield 13, 3), (326, .iload_n 1, 1), (327, .sipush 1000, 3), (330, .iastore, 1), (331, .aload_n 0, 1), (332, .getfield 19, 3), (335, .iload_n 1, 1), (336, .bipush 100, 2), (338, .iastore, 1), (339, .aload_n 0, 1), (340, .getfield 22, 3), (343, .iload_n 1, 1), (344, .bipush 10, 2), (346, .iastore, 1), (347, .iinc 1 1, 3), (350, .goto (-33), 3), (353, .iconst 0, 1), (354, .istore_n 1, 1), (355, .iload_n 1, 1), (356, .iconst 4, 1), (357, .if_icmp .ge 16, 3), (360, .aload_n 0, 1), (361, .getfield 122, 3), (364, .iload_n 1, 1), (365, .iconst (-1), 1), (366, .iastore, 1), (367, .iinc 1 1, 3), (370, .goto (-15), 3), (373, .iconst 0, 1), (374, .istore_n 1, 1), (375, .iload_n 1, 1), (376, .bipush 10, 2), (378, .if_icmp .ge 17, 3), (381, .aload_n 0, 1), (382, .getfield 104, 3), (385, .iload_n 1, 1), (386, .bipush (-4), 2), (388, .iastore, 1), (389, .iinc 1 1, 3), (392, .goto (-17), 3), (395, .return_, 1)]
set_option maxRecDepth 100000 in
theorem cT15_ok : ∀ e ∈ cT15, decode (am_cd (mOf 15)) e.1 = .ok (e.2.1, e.2.2) := List.forall_mem_cons.mpr ⟨dX12_init_0, List.forall_mem_cons.mpr ⟨dX12_init_1, List.forall_mem_cons.mpr ⟨dX12_init_4, List.forall_mem_cons.mpr ⟨dX12_init_5, List.forall_mem_cons.mpr ⟨dX12_init_7, List.forall_mem_cons.mpr ⟨dX12_init_9, List.forall_mem_cons.mpr ⟨dX12_init_12, List.forall_mem_cons.mpr ⟨dX12_init_13, List.forall_mem_cons.mpr ⟨dX12_init_14, List.forall_mem_cons.mpr ⟨dX12_init_16, List.forall_mem_cons.mpr ⟨dX12_init_19, List.forall_mem_cons.mpr ⟨dX12_init_20, List.forall_mem_cons.mpr ⟨dX12_init_21, List.forall_mem_cons.mpr ⟨dX12_init_23, List.forall_mem_cons.mpr ⟨dX12_init_26, List.forall_mem_cons.mpr ⟨dX12_init_27, List.forall_mem_cons.mpr ⟨dX12_init_28, List.forall_mem_cons.mpr ⟨dX12_init_30, List.forall_mem_cons.mpr ⟨dX12_init_33, List.forall_mem_cons.mpr ⟨dX12_init_34, List.forall_mem_cons.mpr ⟨dX12_init_35, List.forall_mem_cons.mpr ⟨dX12_init_37, List.forall_mem_cons.mpr ⟨dX12_init_40, List.forall_mem_cons.mpr ⟨dX12_init_41, List.forall_mem_cons.mpr ⟨dX12_init_42, List.forall_mem_cons.mpr ⟨dX12_init_44, List.forall_mem_cons.mpr ⟨dX12_init_47, List.forall_mem_cons.mpr ⟨dX12_init_48, List.forall_mem_cons.mpr ⟨dX12_init_50, List.forall_mem_cons.mpr ⟨dX12_init_52, List.forall_mem_cons.mpr ⟨dX12_init_55, List.forall_mem_cons.mpr ⟨dX12_init_56, List.forall_mem_cons.mpr ⟨dX12_init_58, List.forall_mem_cons.mpr ⟨dX12_init_60, List.forall_mem_cons.mpr ⟨dX12_init_63, List.forall_mem_cons.mpr ⟨dX12_init_64, List.forall_mem_cons.mpr ⟨dX12_init_66, List.forall_mem_cons.mpr ⟨dX12_init_68, List.forall_mem_cons.mpr ⟨dX12_init_71, List.forall_mem_cons.mpr ⟨dX12_init_72, List.forall_mem_cons.mpr ⟨dX12_init_74, List.forall_mem_cons.mpr ⟨dX12_init_76, List.forall_mem_cons.mpr ⟨dX12_init_79, List.forall_mem_cons.mpr ⟨dX12_init_80, List.forall_mem_cons.mpr ⟨dX12_init_82, List.forall_mem_cons.mpr ⟨dX12_init_84, List.forall_mem_cons.mpr ⟨dX12_init_87, List.forall_mem_cons.mpr ⟨dX12_init_88, List.forall_mem_cons.mpr ⟨dX12_init_90, List.forall_mem_cons.mpr ⟨dX12_init_92, List.forall_mem_cons.mpr ⟨dX12_init_95, List.forall_mem_cons.mpr ⟨dX12_init_96, List.forall_mem_cons.mpr ⟨dX12_init_98, List.forall_mem_cons.mpr ⟨dX12_init_100, List.forall_mem_cons.mpr ⟨dX12_init_103, List.forall_mem_cons.mpr ⟨dX12_init_104, List.forall_mem_cons.mpr ⟨dX12_init_106, List.forall_mem_cons.mpr ⟨dX12_init_108, List.forall_mem_cons.mpr ⟨dX12_init_111, List.forall_mem_cons.mpr ⟨dX12_init_112, List.forall_mem_cons.mpr ⟨dX12_init_114, List.forall_mem_cons.mpr ⟨dX12_init_116, List.forall_mem_cons.mpr ⟨dX12_init_119, List.forall_mem_cons.mpr ⟨dX12_init_120, List.forall_mem_cons.mpr ⟨dX12_init_122, List.forall_mem_cons.mpr ⟨dX12_init_124, List.forall_mem_cons.mpr ⟨dX12_init_127, List.forall_mem_cons.mpr ⟨dX12_init_128, List.forall_mem_cons.mpr ⟨dX12_init_130, List.forall_mem_cons.mpr ⟨dX12_init_132, List.forall_mem_cons.mpr ⟨dX12_init_135, List.forall_mem_cons.mpr ⟨dX12_init_136, List.forall_mem_cons.mpr ⟨dX12_init_138, List.forall_mem_cons.mpr ⟨dX12_init_140, List.forall_mem_cons.mpr ⟨dX12_init_143, List.forall_mem_cons.mpr ⟨dX12_init_144, List.forall_mem_cons.mpr ⟨dX12_init_146, List.forall_mem_cons.mpr ⟨dX12_init_148, List.forall_mem_cons.mpr ⟨dX12_init_151, List.forall_mem_cons.mpr ⟨dX12_init_152, List.forall_mem_cons.mpr ⟨dX12_init_154, List.forall_mem_cons.mpr ⟨dX12_init_156, List.forall_mem_cons.mpr ⟨dX12_init_159, List.forall_mem_cons.mpr ⟨dX12_init_160, List.forall_mem_cons.mpr ⟨dX12_init_162, List.forall_mem_cons.mpr ⟨dX12_init_164, List.forall_mem_cons.mpr ⟨dX12_init_167, List.forall_mem_cons.mpr ⟨dX12_init_168, List.forall_mem_cons.mpr ⟨dX12_init_170, List.forall_mem_cons.mpr ⟨dX12_init_172, List.forall_mem_cons.mpr ⟨dX12_init_175, List.forall_mem_cons.mpr ⟨dX12_init_176, List.forall_mem_cons.mpr ⟨dX12_init_177, List.forall_mem_cons.mpr ⟨dX12_init_179, List.forall_mem_cons.mpr ⟨dX12_init_182, List.forall_mem_cons.mpr ⟨dX12_init_183, List.forall_mem_cons.mpr ⟨dX12_init_184, List.forall_mem_cons.mpr ⟨dX12_init_186, List.forall_mem_cons.mpr ⟨dX12_init_189, List.forall_mem_cons.mpr ⟨dX12_init_190, List.forall_mem_cons.mpr ⟨dX12_init_192, List.forall_mem_cons.mpr ⟨dX12_init_194, List.forall_mem_cons.mpr ⟨dX12_init_197, List.forall_mem_cons.mpr ⟨dX12_init_198, List.forall_mem_cons.mpr ⟨dX12_init_200, List.forall_mem_cons.mpr ⟨dX12_init_202, List.forall_mem_cons.mpr ⟨dX12_init_205, List.forall_mem_cons.mpr ⟨dX12_init_206, List.forall_mem_cons.mpr ⟨dX12_init_208, List.forall_mem_cons.mpr ⟨dX12_init_210, List.forall_mem_cons.mpr ⟨dX12_init_213, List.forall_mem_cons.mpr ⟨dX12_init_214, List.forall_mem_cons.mpr ⟨dX12_init_216, List.forall_mem_cons.mpr ⟨dX12_init_218, List.forall_mem_cons.mpr ⟨dX12_init_221, List.forall_mem_cons.mpr ⟨dX12_init_222, List.forall_mem_cons.mpr ⟨dX12_init_224, List.forall_mem_cons.mpr ⟨dX12_init_226, List.forall_mem_cons.mpr ⟨dX12_init_229, List.forall_mem_cons.mpr ⟨dX12_init_230, List.forall_mem_cons.mpr ⟨dX12_init_232, List.forall_mem_cons.mpr ⟨dX12_init_234, List.forall_mem_cons.mpr ⟨dX12_init_237, List.forall_mem_cons.mpr ⟨dX12_init_238, List.forall_mem_cons.mpr ⟨dX12_init_240, List.forall_mem_cons.mpr ⟨dX12_init_242, List.forall_mem_cons.mpr ⟨dX12_init_245, List.forall_mem_cons.mpr ⟨dX12_init_246, List.forall_mem_cons.mpr ⟨dX12_init_248, List.forall_mem_cons.mpr ⟨dX12_init_250, List.forall_mem_cons.mpr ⟨dX12_init_253, List.forall_mem_cons.mpr ⟨dX12_init_254, List.forall_mem_cons.mpr ⟨dX12_init_256, List.forall_mem_cons.mpr ⟨dX12_init_258, List.forall_mem_cons.mpr ⟨dX12_init_261, List.forall_mem_cons.mpr ⟨dX12_init_262, List.forall_mem_cons.mpr ⟨dX12_init_264, List.forall_mem_cons.mpr ⟨dX12_init_266, List.forall_mem_cons.mpr ⟨dX12_init_269, List.forall_mem_cons.mpr ⟨dX12_init_270, List.forall_mem_cons.mpr ⟨dX12_init_272, List.forall_mem_cons.mpr ⟨dX12_init_274, List.forall_mem_cons.mpr ⟨dX12_init_277, List.forall_mem_cons.mpr ⟨dX12_init_278, List.forall_mem_cons.mpr ⟨dX12_init_280, List.forall_mem_cons.mpr ⟨dX12_init_282, List.forall_mem_cons.mpr ⟨dX12_init_285, List.forall_mem_cons.mpr ⟨dX12_init_286, List.forall_mem_cons.mpr ⟨dX12_init_288, List.forall_mem_cons.mpr ⟨dX12_init_290, List.forall_mem_cons.mpr ⟨dX12_init_293, List.forall_mem_cons.mpr ⟨dX12_init_294, List.forall_mem_cons.mpr ⟨dX12_init_295, List.forall_mem_cons.mpr ⟨dX12_init_297, List.forall_mem_cons.mpr ⟨dX12_init_300, List.forall_mem_cons.mpr ⟨dX12_init_301, List.forall_mem_cons.mpr ⟨dX12_init_302, List.forall_mem_cons.mpr ⟨dX12_init_304, List.forall_mem_cons.mpr ⟨dX12_init_307, List.forall_mem_cons.mpr ⟨dX12_init_308, List.forall_mem_cons.mpr ⟨dX12_init_310, List.forall_mem_cons.mpr ⟨dX12_init_312, List.forall_mem_cons.mpr ⟨dX12_init_315, List.forall_mem_cons.mpr ⟨dX12_init_316, List.forall_mem_cons.mpr ⟨dX12_init_317, List.forall_mem_cons.mpr ⟨dX12_init_318, List.forall_mem_cons.mpr ⟨dX12_init_319, List.forall_mem_cons.mpr ⟨dX12_init_322, List.forall_mem_cons.mpr ⟨dX12_init_323, List.forall_mem_cons.mpr ⟨dX12_init_326, List.forall_mem_cons.mpr ⟨dX12_init_327, List.forall_mem_cons.mpr ⟨dX12_init_330, List.forall_mem_cons.mpr ⟨dX12_init_331, List.forall_mem_cons.mpr ⟨dX12_init_332, List.forall_mem_cons.mpr ⟨dX12_init_335, List.forall_mem_cons.mpr ⟨dX12_init_336, List.forall_mem_cons.mpr ⟨dX12_init_338, List.forall_mem_cons.mpr ⟨dX12_init_339, List.forall_mem_cons.mpr ⟨dX12_init_340, List.forall_mem_cons.mpr ⟨dX12_init_343, List.forall_mem_cons.mpr ⟨dX12_init_344, List.forall_mem_cons.mpr ⟨dX12_init_346, List.forall_mem_cons.mpr ⟨dX12_init_347, List.forall_mem_cons.mpr ⟨dX12_init_350, List.forall_mem_cons.mpr ⟨dX12_init_353, List.forall_mem_cons.mpr ⟨dX12_init_354, List.forall_mem_cons.mpr ⟨dX12_init_355, List.forall_mem_cons.mpr ⟨dX12_init_356, List.forall_mem_cons.mpr ⟨dX12_init_357, List.forall_mem_cons.mpr ⟨dX12_init_360, List.forall_mem_cons.mpr ⟨dX12_init_361, List.forall_mem_cons.mpr ⟨dX12_init_364, List.forall_mem_cons.mpr ⟨dX12_init_365, List.forall_mem_cons.mpr ⟨dX12_init_366, List.forall_mem_cons.mpr ⟨dX12_init_367, List.forall_mem_cons.mpr ⟨dX12_init_370, List.forall_mem_cons.mpr ⟨dX12_init_373, List.forall_mem_cons.mpr ⟨dX12_init_374, List.forall_mem_cons.mpr ⟨dX12_init_375, List.forall_mem_cons.mpr ⟨dX12_init_376, List.forall_mem_cons.mpr ⟨dX12_init_378, List.forall_mem_cons.mpr ⟨dX12_init_381, List.forall_mem_cons.mpr ⟨dX12_init_382, List.forall_mem_cons.mpr ⟨dX12_init_385, List.forall_mem_cons.mpr ⟨dX12_init_386, List.forall_mem_cons.mpr ⟨dX12_init_388, List.forall_mem_cons.mpr ⟨dX12_init_389, List.forall_mem_cons.mpr ⟨dX12_init_392, List.forall_mem_cons.mpr ⟨dX12_init_395, List.forall_mem_nil _⟩⟩⟩⟩⟩⟩⟩⟩⟩⟩⟩⟩⟩⟩⟩⟩⟩⟩⟩⟩⟩⟩⟩⟩⟩⟩⟩⟩⟩⟩⟩⟩⟩⟩⟩⟩⟩⟩⟩⟩⟩⟩⟩⟩⟩⟩⟩⟩⟩⟩⟩⟩⟩⟩⟩⟩⟩⟩⟩⟩⟩⟩⟩⟩⟩⟩⟩⟩⟩⟩⟩⟩⟩⟩⟩⟩⟩⟩⟩⟩⟩⟩⟩⟩⟩⟩⟩⟩⟩⟩⟩⟩⟩⟩⟩⟩⟩⟩⟩⟩⟩⟩⟩⟩⟩⟩⟩⟩⟩⟩⟩⟩⟩⟩⟩⟩⟩⟩⟩⟩⟩⟩⟩⟩⟩⟩⟩⟩⟩⟩⟩⟩⟩⟩⟩⟩⟩⟩⟩⟩⟩⟩⟩⟩⟩⟩⟩⟩⟩⟩⟩⟩⟩⟩⟩⟩⟩⟩⟩⟩⟩⟩⟩⟩⟩⟩⟩⟩⟩⟩⟩⟩⟩⟩⟩⟩⟩⟩⟩⟩⟩⟩⟩⟩⟩⟩⟩⟩⟩⟩⟩⟩⟩⟩⟩⟩⟩⟩⟩⟩⟩⟩⟩⟩⟩⟩⟩⟩⟩
def cT (j : Nat) : List (Nat × Instr × Nat) := match j with
  | 0 => cT0
  | 1 => cT1
  | 2 => cT2
  | 3 => cT3
  | 4 => cT4
  | 5 => cT5
  | 6 => cT6
  | 7 => cT7
  | 8 => cT8
  | 9 => cT9
  | 10 => cT10
  | 11 => cT11
  | 12 => cT12
  | 13 => cT13
  | 14 => cT14
  | 15 => cT15
  | _ => []
theorem cT_ok (j : Nat) : ∀ e ∈ cT j, decode (am_cd (mOf j)) e.1 = .ok (e.2.1, e.2.2) := by
  match j with
  | 0 => exact cT0_ok
  | 1 => exact cT1_ok
  | 2 => exact cT2_ok
  | 3 => exact cT3_ok
  | 4 => exact cT4_ok
  | 5 => exact cT5_ok
  | 6 => exact cT6_ok
  | 7 => exact cT7_ok
  | 8 => exact cT8_ok
  | 9 => exact cT9_ok
  | 10 => exact cT10_ok
  | 11 => exact cT11_ok
  | 12 => exact cT12_ok
  | 13 => exact cT13_ok
  | 14 => exact cT14_ok
  | 15 => exact cT15_ok
  | _ + 16 => exact fun _ h => absurd h List.not_mem_nil
def cJl : List ((Nat × Nat) × Nat) := [((1, 21), 3), ((2, 27), 7), ((4, 9), 12), ((5, 13), 9), ((11, 17), 2), ((11, 24), 3), ((11, 38), 4), ((11, 45), 5), ((11, 52), 6), ((11, 59), 8), ((11, 70), 10), ((11, 77), 11), ((11, 89), 13), ((11, 96), 14), ((13, 9), 1), ((13, 12), 15)]
def cj (k ix : Nat) : Option Nat := (cJl.find? (fun e => e.1.1 == k && e.1.2 == ix)).map (fun e => e.2)
theorem cJl_ok : ∀ e ∈ cJl, ∃ nb, aMth e.1.1 e.1.2 = some (mOf e.2, nb) := List.forall_mem_cons.mpr ⟨⟨true, lk_1_21⟩, List.forall_mem_cons.mpr ⟨⟨true, lk_2_27⟩, List.forall_mem_cons.mpr ⟨⟨false, lk_4_9⟩, List.forall_mem_cons.mpr ⟨⟨false, lk_5_13⟩, List.forall_mem_cons.mpr ⟨⟨true, lk_11_17⟩, List.forall_mem_cons.mpr ⟨⟨true, lk_11_24⟩, List.forall_mem_cons.mpr ⟨⟨true, lk_11_38⟩, List.forall_mem_cons.mpr ⟨⟨true, lk_11_45⟩, List.forall_mem_cons.mpr ⟨⟨false, lk_11_52⟩, List.forall_mem_cons.mpr ⟨⟨false, lk_11_59⟩, List.forall_mem_cons.mpr ⟨⟨true, lk_11_70⟩, List.forall_mem_cons.mpr ⟨⟨false, lk_11_77⟩, List.forall_mem_cons.mpr ⟨⟨false, lk_11_89⟩, List.forall_mem_cons.mpr ⟨⟨true, lk_11_96⟩, List.forall_mem_cons.mpr ⟨⟨false, lk_13_9⟩, List.forall_mem_cons.mpr ⟨⟨false, lk_13_12⟩, List.forall_mem_nil _⟩⟩⟩⟩⟩⟩⟩⟩⟩⟩⟩⟩⟩⟩⟩⟩
theorem aOne_ext {X X' : aX} {m : aM} {i : Instr} {len pc : Nat} {L : aL} {S : List Value} {h : aH} (hx : aExt i S = false) : aOne X m i len pc L S h = aOne X' m i len pc L S h := by
  cases i with
  | iaload =>
    unfold aOne
    by_cases hl : len = 1
    · simp only [hl, if_true]
      match S, hx with
      | .int i :: .ref a :: S, _ => rfl
      | .int i :: .retAddr z :: S, hx => simp [aExt] at hx
      | [], _ => rfl
      | [a], _ => cases a <;> rfl
      | .int i :: .int a :: S, _ => rfl
      | .int i :: .long a :: S, _ => rfl
      | .int i :: .float a :: S, _ => rfl
      | .int i :: .double a :: S, _ => rfl
      | .int i :: .null :: S, _ => rfl
      | .long i :: a :: S, _ => rfl
      | .float i :: a :: S, _ => rfl
      | .double i :: a :: S, _ => rfl
      | .null :: a :: S, _ => rfl
      | .ref i :: a :: S, _ => rfl
      | .retAddr i :: a :: S, _ => rfl
    · simp only [hl, if_false]
  | arraylength =>
    unfold aOne
    by_cases hl : len = 1
    · simp only [hl, if_true]
      match S, hx with
      | .ref a :: S, _ => rfl
      | .retAddr z :: S, hx => simp [aExt] at hx
      | [], _ => rfl
      | .int a :: S, _ => rfl
      | .long a :: S, _ => rfl
      | .float a :: S, _ => rfl
      | .double a :: S, _ => rfl
      | .null :: S, _ => rfl
    · simp only [hl, if_false]
  | _ => rfl
def tf (j pc : Nat) : Option (Instr × Nat) := ((cT j).find? (fun e => e.1 == pc)).map (fun e => e.2)
theorem tf_ok {j pc : Nat} {i : Instr} {len : Nat} (h : tf j pc = some (i, len)) : decode (am_cd (mOf j)) pc = .ok (i, len) := by
  unfold tf at h
  cases hf : (cT j).find? (fun e => e.1 == pc) with
  | none => rw [hf] at h; cases h
  | some e =>
    rw [hf] at h
    have h1 : e.2 = (i, len) := Option.some.inj h
    have h2 : e.1 = pc := by have := List.find?_some hf; simpa using this
    have h3 := cT_ok j e (List.mem_of_find?_eq_some hf)
    rw [h2, h1] at h3; exact h3
theorem cj_ok {k ix j : Nat} (h : cj k ix = some j) : ∃ nb, aMth k ix = some (mOf j, nb) := by
  unfold cj at h
  cases hf : cJl.find? (fun e => e.1.1 == k && e.1.2 == ix) with
  | none => rw [hf] at h; cases h
  | some e =>
    rw [hf] at h
    have h1 : e.2 = j := Option.some.inj h
    have h2 : e.1.1 = k ∧ e.1.2 = ix := by have := List.find?_some hf; simpa using this
    have h3 := cJl_ok e (List.mem_of_find?_eq_some hf)
    rw [h2.1, h2.2, h1] at h3; exact h3
def aIx (i : Instr) : Option Nat := match i with
  | .invokestatic ix => some ix
  | .invokevirtual ix => some ix
  | .invokespecial ix => some ix
  | _ => none
theorem aCall_m {m m2 : aM} {i : Instr} {len ix : Nat} {S vs S' : List Value} {h : aH} (hc : aCall m i len S h = some (m2, vs, S')) (hi : aIx i = some ix) : ∃ nb, aMth (am_k m) ix = some (m2, nb) := by
  unfold aCall at hc
  split at hc
  · cases hi
    obtain ⟨⟨m3, nb⟩, e1, hc⟩ := Option.bind_eq_some_iff.mp hc
    split at hc
    · cases hc; exact ⟨nb, e1⟩
    · cases hc
  · cases hi
    obtain ⟨⟨m3, nb⟩, e1, hc⟩ := Option.bind_eq_some_iff.mp hc
    split at hc
    · split at hc
      · obtain ⟨o, e2, hc⟩ := Option.bind_eq_some_iff.mp hc
        split at hc
        · cases hc; exact ⟨nb, e1⟩
        · cases hc
      · cases hc
    · cases hc
  · cases hi
    obtain ⟨⟨m3, nb⟩, e1, hc⟩ := Option.bind_eq_some_iff.mp hc
    split at hc
    · split at hc
      · split at hc
        · cases hc; exact ⟨nb, e1⟩
        · cases hc
      · cases hc
    · cases hc
  · cases hc
/-- the callee's number, if the instruction is a call that the tables tell -/
def aGo (j : Nat) (i : Instr) (len : Nat) (S : List Value) (h : aH) : Option (Nat × List Value × List Value) := match aCall (mOf j) i len S h with
  | some (_, vs, S') => (match aIx i with
    | some ix => (match cj (am_k (mOf j)) ix with
      | some j2 => some (j2, vs, S')
      | none => none)
    | none => none)
  | none => none
theorem aGo_ok {j j2 : Nat} {i : Instr} {len : Nat} {S vs S' : List Value} {h : aH} (e : aGo j i len S h = some (j2, vs, S')) : aCall (mOf j) i len S h = some (mOf j2, vs, S') := by
  unfold aGo at e
  split at e
  · next m2 vs2 S2 hc =>
    split at e
    · next ix hi =>
      split at e
      · next j3 hj =>
        cases e
        obtain ⟨nb, q1⟩ := aCall_m hc hi
        obtain ⟨nb2, q2⟩ := cj_ok hj
        rw [q1] at q2
        cases q2
        exact hc
      · cases e
    · cases e
  · cases e
def aIsC (i : Instr) (k : Nat) : Bool := match i with
  | .invokestatic _ => true
  | .invokevirtual _ => true
  | .invokespecial ix => !(aObl.contains (k, ix))
  | _ => false
def ev0 : Nat → Nat → Nat → aL → List Value → aH → Option (Option Value × aH)
  | 0, _, _, _, _, _ => none
  | n + 1, j, pc, L, S, h => match tf j pc with
    | some (i, len) => (match aRet (mOf j) i len S with
      | some r => some (r, h)
      | none => (match aIsC i (am_k (mOf j)) with
        | true => (match aGo j i len S h with
          | some (j2, vs, S') => (match ev0 n j2 0 (lv_args 0 vs) [] h with
            | some (r, h1) => ev0 n j (pc + 3) L (r.toList ++ S') h1
            | none => none)
          | none => none)
        | false => (match aCall (mOf j) i len S h with
          | some _ => none
          | none => (match aExt i S with
            | true => none
            | false => (match aOne aX0 (mOf j) i len pc L S h with
              | some (pc', L', S', h') => (match aHp i with
                | true => nrm h'.1 (fun l => ev0 n j pc' L' S' (l, h'.2))
                | false => ev0 n j pc' L' S' h')
              | none => none)))))
    | none => none
theorem ev0_ev {X : aX} : ∀ (n : Nat) {j : Nat} {pc : Nat} {L : aL} {S : List Value} {h : aH} {r : Option Value} {h' : aH}, ev0 n j pc L S h = some (r, h') → ev X n (mOf j) pc L S h = some (r, h')
  | 0, j, pc, L, S, h, r, h', e => by cases e
  | n + 1, j, pc, L, S, h, r, h', e => by
    rw [ev_succ]
    unfold ev0 at e
    split at e
    · next i len hf =>
      rw [tf_ok hf]
      dsimp only
      split at e
      · next r1 hr => rw [hr]; exact e
      · next hr =>
        rw [hr]
        dsimp only
        split at e
        · split at e
          · next j2 vs S' hg =>
            rw [aGo_ok hg]
            dsimp only
            split at e
            · next r1 h1 he =>
              rw [ev0_ev n he]
              exact ev0_ev n e
            · cases e
          · cases e
        · split at e
          · cases e
          · next hc =>
            rw [hc]
            dsimp only
            split at e
            · cases e
            · next hx =>
              split at e
              · next pc' L' S' h2 ho =>
                rw [aOne_ext (X' := aX0) hx, ho]
                dsimp only
                split at e
                · rw [nrm_eq] at e; exact ev0_ev n e
                · exact ev0_ev n e
              · cases e
    · cases e
/-- so many instructions of one method, its calls run to their ends -/
def evk (n : Nat) (j : Nat) : Nat → Nat → aL → List Value → aH → Option (Nat × aL × List Value × aH)
  | 0, pc, L, S, h => some (pc, L, S, h)
  | k + 1, pc, L, S, h => match tf j pc with
    | some (i, len) => (match aRet (mOf j) i len S with
      | some _ => none
      | none => (match aIsC i (am_k (mOf j)) with
        | true => (match aGo j i len S h with
          | some (j2, vs, S') => (match ev0 n j2 0 (lv_args 0 vs) [] h with
            | some (r, h1) => evk n j k (pc + 3) L (r.toList ++ S') h1
            | none => none)
          | none => none)
        | false => (match aCall (mOf j) i len S h with
          | some _ => none
          | none => (match aExt i S with
            | true => none
            | false => (match aOne aX0 (mOf j) i len pc L S h with
              | some (pc', L', S', h') => nrm h'.1 (fun l => evk n j k pc' L' S' (l, h'.2))
              | none => none)))))
    | none => none
theorem evk_ev {X : aX} {n : Nat} {j : Nat} : ∀ (k : Nat) {pc : Nat} {L : aL} {S : List Value} {h : aH} {pc' : Nat} {L' : aL} {S' : List Value} {h' h2 : aH} {r : Option Value} {n2 : Nat}, evk n j k pc L S h = some (pc', L', S', h') → ev X n2 (mOf j) pc' L' S' h' = some (r, h2) → ∃ n3, ev X n3 (mOf j) pc L S h = some (r, h2)
  | 0, pc, L, S, h, pc', L', S', h', h2, r, n2, e, e2 => by cases e; exact ⟨n2, e2⟩
  | k + 1, pc, L, S, h, pc', L', S', h', h2, r, n2, e, e2 => by
    unfold evk at e
    split at e
    · next i len hf =>
      split at e
      · cases e
      · next hr =>
        split at e
        · split at e
          · next j2 vs S1 hg =>
            split at e
            · next r1 h1 he =>
              obtain ⟨n3, e3⟩ := evk_ev k e e2
              refine ⟨(n + n3) + 1, ?_⟩
              rw [ev_succ, tf_ok hf]
              simp only [hr, aGo_ok hg, ev_mono n (ev0_ev (X := X) n he) n3]
              rw [Nat.add_comm]
              exact ev_mono n3 e3 n
            · cases e
          · cases e
        · split at e
          · cases e
          · next hc =>
            split at e
            · cases e
            · next hx =>
              split at e
              · next pc1 L1 S1 h1 ho =>
                rw [nrm_eq] at e
                obtain ⟨n3, e3⟩ := evk_ev k e e2
                refine ⟨n3 + 1, ?_⟩
                rw [ev_succ, tf_ok hf]
                simp only [hr, hc, aOne_ext (X := X) (X' := aX0) hx, ho]
                exact e3
              · cases e
    · cases e
def aPre : Option (Nat × aL × List Value × aH) := evk 4000 0 10 0 [(0, .retAddr 0)] [] ([], 0)
def h0 : aH := match aPre with
  | some (_, _, _, h) => h
  | none => ([], 0)
def aPreOk : Bool := match aPre with
  | some (pc, L, S, h) => decide (pc = 18) && decide (L = [(3, .int 0), (2, .ref 86), (1, .ref 0), (0, .retAddr 0)]) && decide (S = []) && decide (h.2 = 3208) && decide (h.1.length = 127)
  | none => false
theorem aPre_ok : aPreOk = true := by decide +kernel

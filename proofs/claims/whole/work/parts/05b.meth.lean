/-- what is asked of every method but the law: its code among the words, its class initialised, its locals few, how it is called -/
def mOK (pm : PM) (p1 p2 p3 p4 : Nat) : Bool := isW p1 (Cond.code pm.1 pm.2.1 pm.2.2.1 pm.2.2.2.1) && (isW p2 (Cond.initialized pm.1.cls) && (plainName pm.1.cls && (decide (CN pm.2.2.2.2.1 = pm.1.cls) && (decide (pm.2.2.1 ≤ 18) && (decide (pm.1.cls ≠ "java/lang/invoke/MethodHandle" ∧ pm.1.cls ≠ "java/lang/invoke/VarHandle") &&
  (match pm.2.2.2.2.2.2.2.1 with
    | 0 => isW p3 (Cond.static pm.1)
    | 1 => isW p3 (Cond.instanceMethod pm.1) && isW p4 (Cond.selects pm.1.cls pm.1 pm.1)
    | _ => isW p3 (Cond.instanceMethod pm.1) && (decide (pm.1.name = "<init>") && pm.2.2.2.1.isNone)))))))
def mF (pm : PM) : Prop := ∃ p1 p2 p3 p4, mOK pm p1 p2 p3 p4 = true
set_option maxRecDepth 100000 in
theorem mOK_0 : mF pm_0 := ⟨2155, 1011, 2154, 999999, by decide +kernel⟩
set_option maxRecDepth 100000 in
theorem mOK_1 : mF pm_1 := ⟨5068, 1011, 5066, 5067, by decide +kernel⟩
set_option maxRecDepth 100000 in
theorem mOK_2 : mF pm_2 := ⟨5092, 1011, 5090, 5091, by decide +kernel⟩
set_option maxRecDepth 100000 in
theorem mOK_3 : mF pm_3 := ⟨5072, 1011, 5071, 43, by decide +kernel⟩
set_option maxRecDepth 100000 in
theorem mOK_4 : mF pm_4 := ⟨5077, 1011, 5076, 44, by decide +kernel⟩
set_option maxRecDepth 100000 in
theorem mOK_5 : mF pm_5 := ⟨5084, 1011, 5083, 45, by decide +kernel⟩
set_option maxRecDepth 100000 in
theorem mOK_6 : mF pm_6 := ⟨5088, 1011, 5087, 46, by decide +kernel⟩
set_option maxRecDepth 100000 in
theorem mOK_7 : mF pm_7 := ⟨5101, 1011, 5099, 5100, by decide +kernel⟩
set_option maxRecDepth 100000 in
theorem mOK_8 : mF pm_8 := ⟨5109, 1011, 5108, 47, by decide +kernel⟩
set_option maxRecDepth 100000 in
theorem mOK_9 : mF pm_9 := ⟨5124, 1011, 5122, 5123, by decide +kernel⟩
set_option maxRecDepth 100000 in
theorem mOK_10 : mF pm_10 := ⟨5128, 1011, 5127, 48, by decide +kernel⟩
set_option maxRecDepth 100000 in
theorem mOK_11 : mF pm_11 := ⟨5104, 1011, 5103, 999999, by decide +kernel⟩
set_option maxRecDepth 100000 in
theorem mOK_12 : mF pm_12 := ⟨5119, 1011, 5118, 999999, by decide +kernel⟩
set_option maxRecDepth 100000 in
theorem mOK_13 : mF pm_13 := ⟨5116, 1011, 5115, 999999, by decide +kernel⟩
set_option maxRecDepth 100000 in
theorem mOK_14 : mF pm_14 := ⟨2112, 1009, 2111, 999999, by decide +kernel⟩
set_option maxRecDepth 100000 in
theorem mOK_15 : mF pm_15 := ⟨4176, 1009, 4174, 4175, by decide +kernel⟩
set_option maxRecDepth 100000 in
theorem mOK_16 : mF pm_16 := ⟨5016, 1009, 5015, 41, by decide +kernel⟩
set_option maxRecDepth 100000 in
theorem mOK_17 : mF pm_17 := ⟨4185, 1009, 4184, 36, by decide +kernel⟩
set_option maxRecDepth 100000 in
theorem mOK_18 : mF pm_18 := ⟨4193, 1009, 4192, 37, by decide +kernel⟩
set_option maxRecDepth 100000 in
theorem mOK_19 : mF pm_19 := ⟨4181, 1009, 4179, 4180, by decide +kernel⟩
set_option maxRecDepth 100000 in
theorem mOK_20 : mF pm_20 := ⟨4236, 1009, 4235, 39, by decide +kernel⟩
set_option maxRecDepth 100000 in
theorem mOK_21 : mF pm_21 := ⟨5029, 1009, 5027, 5028, by decide +kernel⟩
set_option maxRecDepth 100000 in
theorem mOK_22 : mF pm_22 := ⟨5012, 1009, 5011, 40, by decide +kernel⟩
set_option maxRecDepth 100000 in
theorem mOK_23 : mF pm_23 := ⟨4232, 1009, 4230, 4231, by decide +kernel⟩
set_option maxRecDepth 100000 in
theorem mOK_24 : mF pm_24 := ⟨4209, 1009, 4207, 4208, by decide +kernel⟩
set_option maxRecDepth 100000 in
theorem mOK_25 : mF pm_25 := ⟨4202, 1009, 4200, 4201, by decide +kernel⟩
set_option maxRecDepth 100000 in
theorem mOK_26 : mF pm_26 := ⟨5008, 1009, 5006, 5007, by decide +kernel⟩
set_option maxRecDepth 100000 in
theorem mOK_27 : mF pm_27 := ⟨5025, 1009, 5023, 5024, by decide +kernel⟩
set_option maxRecDepth 100000 in
theorem mOK_28 : mF pm_28 := ⟨5038, 1009, 5036, 5037, by decide +kernel⟩
set_option maxRecDepth 100000 in
theorem mOK_29 : mF pm_29 := ⟨5046, 1009, 5044, 5045, by decide +kernel⟩
set_option maxRecDepth 100000 in
theorem mOK_30 : mF pm_30 := ⟨5055, 1009, 5053, 5054, by decide +kernel⟩
set_option maxRecDepth 100000 in
theorem mOK_31 : mF pm_31 := ⟨5059, 1009, 5058, 42, by decide +kernel⟩
set_option maxRecDepth 100000 in
theorem mOK_32 : mF pm_32 := ⟨1134, 1005, 1133, 999999, by decide +kernel⟩
set_option maxRecDepth 100000 in
theorem mOK_33 : mF pm_33 := ⟨1139, 1005, 1137, 1138, by decide +kernel⟩
set_option maxRecDepth 100000 in
theorem mOK_34 : mF pm_34 := ⟨3200, 1005, 3198, 3199, by decide +kernel⟩
set_option maxRecDepth 100000 in
theorem mOK_35 : mF pm_35 := ⟨5230, 1005, 5228, 5229, by decide +kernel⟩
set_option maxRecDepth 100000 in
theorem mOK_36 : mF pm_36 := ⟨6006, 1005, 6005, 54, by decide +kernel⟩
set_option maxRecDepth 100000 in
theorem mOK_37 : mF pm_37 := ⟨5234, 1005, 5233, 51, by decide +kernel⟩
set_option maxRecDepth 100000 in
theorem mOK_38 : mF pm_38 := ⟨5238, 1005, 5237, 52, by decide +kernel⟩
set_option maxRecDepth 100000 in
theorem mOK_39 : mF pm_39 := ⟨6002, 1005, 6001, 53, by decide +kernel⟩
set_option maxRecDepth 100000 in
theorem mOK_40 : mF pm_40 := ⟨6011, 1005, 6010, 55, by decide +kernel⟩
set_option maxRecDepth 100000 in
theorem mOK_41 : mF pm_41 := ⟨6015, 1005, 6014, 56, by decide +kernel⟩
set_option maxRecDepth 100000 in
theorem mOK_42 : mF pm_42 := ⟨6023, 1005, 6021, 6022, by decide +kernel⟩
set_option maxRecDepth 100000 in
theorem mOK_43 : mF pm_43 := ⟨6027, 1005, 6026, 57, by decide +kernel⟩
set_option maxRecDepth 100000 in
theorem mOK_44 : mF pm_44 := ⟨6031, 1005, 6030, 58, by decide +kernel⟩
set_option maxRecDepth 100000 in
theorem mOK_45 : mF pm_45 := ⟨6035, 1005, 6033, 6034, by decide +kernel⟩
set_option maxRecDepth 100000 in
theorem mOK_46 : mF pm_46 := ⟨6039, 1005, 6038, 59, by decide +kernel⟩
set_option maxRecDepth 100000 in
theorem mOK_47 : mF pm_47 := ⟨2183, 1012, 2182, 999999, by decide +kernel⟩
set_option maxRecDepth 100000 in
theorem mOK_48 : mF pm_48 := ⟨6059, 1012, 6057, 6058, by decide +kernel⟩
set_option maxRecDepth 100000 in
theorem mOK_49 : mF pm_49 := ⟨6064, 1012, 6063, 61, by decide +kernel⟩
set_option maxRecDepth 100000 in
theorem mOK_50 : mF pm_50 := ⟨6069, 1012, 6068, 62, by decide +kernel⟩
set_option maxRecDepth 100000 in
theorem mOK_51 : mF pm_51 := ⟨6073, 1012, 6072, 63, by decide +kernel⟩
set_option maxRecDepth 100000 in
theorem mOK_52 : mF pm_52 := ⟨6079, 1012, 6078, 64, by decide +kernel⟩
set_option maxRecDepth 100000 in
theorem mOK_53 : mF pm_53 := ⟨1046, 1003, 1045, 999999, by decide +kernel⟩
set_option maxRecDepth 100000 in
theorem mOK_54 : mF pm_54 := ⟨1051, 1003, 1049, 1050, by decide +kernel⟩
set_option maxRecDepth 100000 in
theorem mOK_55 : mF pm_55 := ⟨3185, 1003, 3183, 3184, by decide +kernel⟩
set_option maxRecDepth 100000 in
theorem mOK_56 : mF pm_56 := ⟨3161, 1003, 3159, 3160, by decide +kernel⟩
set_option maxRecDepth 100000 in
theorem mOK_57 : mF pm_57 := ⟨3165, 1003, 3163, 3164, by decide +kernel⟩
set_option maxRecDepth 100000 in
theorem mOK_58 : mF pm_58 := ⟨4172, 1003, 4170, 4171, by decide +kernel⟩
set_option maxRecDepth 100000 in
theorem mOK_59 : mF pm_59 := ⟨4221, 1003, 4219, 4220, by decide +kernel⟩
set_option maxRecDepth 100000 in
theorem mOK_60 : mF pm_60 := ⟨4009, 1003, 4007, 4008, by decide +kernel⟩
set_option maxRecDepth 100000 in
theorem mOK_61 : mF pm_61 := ⟨4086, 1003, 4084, 4085, by decide +kernel⟩
set_option maxRecDepth 100000 in
theorem mOK_62 : mF pm_62 := ⟨5153, 1003, 5151, 5152, by decide +kernel⟩
set_option maxRecDepth 100000 in
theorem mOK_63 : mF pm_63 := ⟨4001, 1003, 3239, 4000, by decide +kernel⟩
set_option maxRecDepth 100000 in
theorem mOK_64 : mF pm_64 := ⟨4005, 1003, 4004, 14, by decide +kernel⟩
set_option maxRecDepth 100000 in
theorem mOK_65 : mF pm_65 := ⟨4146, 1003, 4144, 4145, by decide +kernel⟩
set_option maxRecDepth 100000 in
theorem mOK_66 : mF pm_66 := ⟨4152, 1003, 4150, 4151, by decide +kernel⟩
set_option maxRecDepth 100000 in
theorem mOK_67 : mF pm_67 := ⟨4160, 1003, 4158, 4159, by decide +kernel⟩
set_option maxRecDepth 100000 in
theorem mOK_68 : mF pm_68 := ⟨4164, 1003, 4163, 35, by decide +kernel⟩
set_option maxRecDepth 100000 in
theorem mOK_69 : mF pm_69 := ⟨2014, 1007, 2013, 999999, by decide +kernel⟩
set_option maxRecDepth 100000 in
theorem mOK_70 : mF pm_70 := ⟨3003, 1007, 3001, 3002, by decide +kernel⟩
set_option maxRecDepth 100000 in
theorem mOK_71 : mF pm_71 := ⟨3016, 1007, 3015, 0, by decide +kernel⟩
set_option maxRecDepth 100000 in
theorem mOK_72 : mF pm_72 := ⟨3044, 1007, 3043, 4, by decide +kernel⟩
set_option maxRecDepth 100000 in
theorem mOK_73 : mF pm_73 := ⟨3135, 1007, 3134, 9, by decide +kernel⟩
set_option maxRecDepth 100000 in
theorem mOK_74 : mF pm_74 := ⟨3152, 1007, 3151, 11, by decide +kernel⟩
set_option maxRecDepth 100000 in
theorem mOK_75 : mF pm_75 := ⟨3131, 1007, 3130, 8, by decide +kernel⟩
set_option maxRecDepth 100000 in
theorem mOK_76 : mF pm_76 := ⟨3127, 1007, 3126, 7, by decide +kernel⟩
set_option maxRecDepth 100000 in
theorem mOK_77 : mF pm_77 := ⟨3157, 1007, 3156, 12, by decide +kernel⟩
set_option maxRecDepth 100000 in
theorem mOK_78 : mF pm_78 := ⟨3023, 1007, 3022, 1, by decide +kernel⟩
set_option maxRecDepth 100000 in
theorem mOK_79 : mF pm_79 := ⟨3033, 1007, 3032, 2, by decide +kernel⟩
set_option maxRecDepth 100000 in
theorem mOK_80 : mF pm_80 := ⟨3040, 1007, 3039, 3, by decide +kernel⟩
set_option maxRecDepth 100000 in
theorem mOK_81 : mF pm_81 := ⟨3026, 1007, 3025, 999999, by decide +kernel⟩
set_option maxRecDepth 100000 in
theorem mOK_82 : mF pm_82 := ⟨3029, 1007, 3028, 999999, by decide +kernel⟩
set_option maxRecDepth 100000 in
theorem mOK_83 : mF pm_83 := ⟨3036, 1007, 3035, 999999, by decide +kernel⟩
set_option maxRecDepth 100000 in
theorem mOK_84 : mF pm_84 := ⟨3048, 1007, 3047, 5, by decide +kernel⟩
set_option maxRecDepth 100000 in
theorem mOK_85 : mF pm_85 := ⟨3141, 1007, 3140, 10, by decide +kernel⟩
set_option maxRecDepth 100000 in
theorem mOK_86 : mF pm_86 := ⟨3075, 1007, 3074, 6, by decide +kernel⟩
set_option maxRecDepth 100000 in
theorem mOK_87 : mF pm_87 := ⟨3144, 1007, 3143, 999999, by decide +kernel⟩
set_option maxRecDepth 100000 in
theorem mOK_88 : mF pm_88 := ⟨3053, 1007, 3052, 999999, by decide +kernel⟩
set_option maxRecDepth 100000 in
theorem mOK_89 : mF pm_89 := ⟨1110, 1004, 1109, 999999, by decide +kernel⟩
set_option maxRecDepth 100000 in
theorem mOK_90 : mF pm_90 := ⟨3195, 1004, 3193, 3194, by decide +kernel⟩
set_option maxRecDepth 100000 in
theorem mOK_91 : mF pm_91 := ⟨3173, 1004, 3171, 3172, by decide +kernel⟩
set_option maxRecDepth 100000 in
theorem mOK_92 : mF pm_92 := ⟨4021, 1004, 4019, 4020, by decide +kernel⟩
set_option maxRecDepth 100000 in
theorem mOK_93 : mF pm_93 := ⟨1162, 1006, 1161, 999999, by decide +kernel⟩
set_option maxRecDepth 100000 in
theorem mOK_94 : mF pm_94 := ⟨1167, 1006, 1165, 1166, by decide +kernel⟩
set_option maxRecDepth 100000 in
theorem mOK_95 : mF pm_95 := ⟨3205, 1006, 3203, 3204, by decide +kernel⟩
set_option maxRecDepth 100000 in
theorem mOK_96 : mF pm_96 := ⟨3169, 1006, 3167, 3168, by decide +kernel⟩
set_option maxRecDepth 100000 in
theorem mOK_97 : mF pm_97 := ⟨3177, 1006, 3175, 3176, by decide +kernel⟩
set_option maxRecDepth 100000 in
theorem mOK_98 : mF pm_98 := ⟨6051, 1006, 6049, 6050, by decide +kernel⟩
set_option maxRecDepth 100000 in
theorem mOK_99 : mF pm_99 := ⟨6083, 1006, 6081, 6082, by decide +kernel⟩
set_option maxRecDepth 100000 in
theorem mOK_100 : mF pm_100 := ⟨1033, 1002, 1032, 999999, by decide +kernel⟩
set_option maxRecDepth 100000 in
theorem mOK_101 : mF pm_101 := ⟨2227, 1002, 2225, 2226, by decide +kernel⟩
set_option maxRecDepth 100000 in
theorem mOK_102 : mF pm_102 := ⟨2239, 1002, 2237, 2238, by decide +kernel⟩
set_option maxRecDepth 100000 in
theorem mOK_103 : mF pm_103 := ⟨3181, 1002, 3179, 3180, by decide +kernel⟩
set_option maxRecDepth 100000 in
theorem mOK_104 : mF pm_104 := ⟨3223, 1002, 3221, 3222, by decide +kernel⟩
set_option maxRecDepth 100000 in
theorem mOK_105 : mF pm_105 := ⟨2078, 1008, 2077, 999999, by decide +kernel⟩
set_option maxRecDepth 100000 in
theorem mOK_106 : mF pm_106 := ⟨4029, 1008, 4027, 4028, by decide +kernel⟩
set_option maxRecDepth 100000 in
theorem mOK_107 : mF pm_107 := ⟨4035, 1008, 4033, 4034, by decide +kernel⟩
set_option maxRecDepth 100000 in
theorem mOK_108 : mF pm_108 := ⟨4040, 1008, 4039, 16, by decide +kernel⟩
set_option maxRecDepth 100000 in
theorem mOK_109 : mF pm_109 := ⟨4048, 1008, 4047, 18, by decide +kernel⟩
set_option maxRecDepth 100000 in
theorem mOK_110 : mF pm_110 := ⟨4060, 1008, 4059, 21, by decide +kernel⟩
set_option maxRecDepth 100000 in
theorem mOK_111 : mF pm_111 := ⟨4052, 1008, 4051, 19, by decide +kernel⟩
set_option maxRecDepth 100000 in
theorem mOK_112 : mF pm_112 := ⟨4044, 1008, 4043, 17, by decide +kernel⟩
set_option maxRecDepth 100000 in
theorem mOK_113 : mF pm_113 := ⟨4056, 1008, 4055, 20, by decide +kernel⟩
set_option maxRecDepth 100000 in
theorem mOK_114 : mF pm_114 := ⟨4064, 1008, 4063, 22, by decide +kernel⟩
set_option maxRecDepth 100000 in
theorem mOK_115 : mF pm_115 := ⟨4068, 1008, 4067, 23, by decide +kernel⟩
set_option maxRecDepth 100000 in
theorem mOK_116 : mF pm_116 := ⟨4094, 1008, 4093, 28, by decide +kernel⟩
set_option maxRecDepth 100000 in
theorem mOK_117 : mF pm_117 := ⟨4073, 1008, 4072, 24, by decide +kernel⟩
set_option maxRecDepth 100000 in
theorem mOK_118 : mF pm_118 := ⟨4082, 1008, 4081, 26, by decide +kernel⟩
set_option maxRecDepth 100000 in
theorem mOK_119 : mF pm_119 := ⟨4090, 1008, 4089, 27, by decide +kernel⟩
set_option maxRecDepth 100000 in
theorem mOK_120 : mF pm_120 := ⟨4101, 1008, 4100, 29, by decide +kernel⟩
set_option maxRecDepth 100000 in
theorem mOK_121 : mF pm_121 := ⟨4129, 1008, 4127, 4128, by decide +kernel⟩
set_option maxRecDepth 100000 in
theorem mOK_122 : mF pm_122 := ⟨4133, 1008, 4132, 33, by decide +kernel⟩
set_option maxRecDepth 100000 in
theorem mOK_123 : mF pm_123 := ⟨4138, 1008, 4137, 34, by decide +kernel⟩
set_option maxRecDepth 100000 in
theorem mOK_124 : mF pm_124 := ⟨4109, 1008, 4107, 4108, by decide +kernel⟩
set_option maxRecDepth 100000 in
theorem mOK_125 : mF pm_125 := ⟨4121, 1008, 4120, 32, by decide +kernel⟩
set_option maxRecDepth 100000 in
theorem mOK_126 : mF pm_126 := ⟨4077, 1008, 4076, 25, by decide +kernel⟩
set_option maxRecDepth 100000 in
theorem mOK_127 : mF pm_127 := ⟨4113, 1008, 4112, 30, by decide +kernel⟩
set_option maxRecDepth 100000 in
theorem mOK_128 : mF pm_128 := ⟨4117, 1008, 4116, 31, by decide +kernel⟩
set_option maxRecDepth 100000 in
theorem mOK_129 : mF pm_129 := ⟨2129, 1010, 2128, 999999, by decide +kernel⟩
set_option maxRecDepth 100000 in
theorem mOK_130 : mF pm_130 := ⟨5136, 1010, 5134, 5135, by decide +kernel⟩
set_option maxRecDepth 100000 in
theorem mOK_131 : mF pm_131 := ⟨5141, 1010, 5139, 5140, by decide +kernel⟩
set_option maxRecDepth 100000 in
theorem mOK_132 : mF pm_132 := ⟨5144, 1010, 5143, 999999, by decide +kernel⟩
set_option maxRecDepth 100000 in
theorem mOK_133 : mF pm_133 := ⟨5149, 1010, 5147, 5148, by decide +kernel⟩
set_option maxRecDepth 100000 in
theorem mOK_134 : mF pm_134 := ⟨5158, 1010, 5156, 5157, by decide +kernel⟩
set_option maxRecDepth 100000 in
theorem mOK_135 : mF pm_135 := ⟨5163, 1010, 5161, 5162, by decide +kernel⟩
set_option maxRecDepth 100000 in
theorem mOK_136 : mF pm_136 := ⟨5168, 1010, 5166, 5167, by decide +kernel⟩
set_option maxRecDepth 100000 in
theorem mOK_137 : mF pm_137 := ⟨5187, 1010, 5185, 5186, by decide +kernel⟩
set_option maxRecDepth 100000 in
theorem mOK_138 : mF pm_138 := ⟨5191, 1010, 5189, 5190, by decide +kernel⟩
set_option maxRecDepth 100000 in
theorem mOK_139 : mF pm_139 := ⟨5201, 1010, 5199, 5200, by decide +kernel⟩
set_option maxRecDepth 100000 in
theorem mOK_140 : mF pm_140 := ⟨5195, 1010, 5194, 49, by decide +kernel⟩
set_option maxRecDepth 100000 in
theorem mOK_141 : mF pm_141 := ⟨5176, 1010, 5174, 5175, by decide +kernel⟩
set_option maxRecDepth 100000 in
theorem mOK_142 : mF pm_142 := ⟨5210, 1010, 5208, 5209, by decide +kernel⟩
set_option maxRecDepth 100000 in
theorem mOK_143 : mF pm_143 := ⟨5214, 1010, 5212, 5213, by decide +kernel⟩
set_option maxRecDepth 100000 in
theorem mOK_144 : mF pm_144 := ⟨1025, 1001, 1024, 999999, by decide +kernel⟩
set_option maxRecDepth 100000 in
theorem mOK_145 : mF pm_145 := ⟨2223, 1001, 2221, 2222, by decide +kernel⟩
set_option maxRecDepth 100000 in
theorem mOK_146 : mF pm_146 := ⟨2231, 1001, 2229, 2230, by decide +kernel⟩
set_option maxRecDepth 100000 in
theorem mOK_147 : mF pm_147 := ⟨2235, 1001, 2233, 2234, by decide +kernel⟩
set_option maxRecDepth 100000 in
theorem mOK_148 : mF pm_148 := ⟨3211, 1001, 3209, 3210, by decide +kernel⟩
set_option maxRecDepth 100000 in
theorem mOK_149 : mF pm_149 := ⟨3215, 1001, 3213, 3214, by decide +kernel⟩
set_option maxRecDepth 100000 in
theorem mOK_150 : mF pm_150 := ⟨3219, 1001, 3217, 3218, by decide +kernel⟩
set_option maxRecDepth 100000 in
theorem mOK_151 : mF pm_151 := ⟨3229, 1001, 3227, 3228, by decide +kernel⟩
set_option maxRecDepth 100000 in
theorem mOK_152 : mF pm_152 := ⟨3233, 1001, 3231, 3232, by decide +kernel⟩
set_option maxRecDepth 100000 in
theorem mOK_153 : mF pm_153 := ⟨4013, 1001, 4011, 4012, by decide +kernel⟩
set_option maxRecDepth 100000 in
theorem mOK_154 : mF pm_154 := ⟨4025, 1001, 4023, 4024, by decide +kernel⟩
set_option maxRecDepth 100000 in
theorem mOK_155 : mF pm_155 := ⟨4105, 1001, 4103, 4104, by decide +kernel⟩
set_option maxRecDepth 100000 in
theorem mOK_156 : mF pm_156 := ⟨4125, 1001, 4123, 4124, by decide +kernel⟩
set_option maxRecDepth 100000 in
theorem mOK_157 : mF pm_157 := ⟨4142, 1001, 4140, 4141, by decide +kernel⟩
set_option maxRecDepth 100000 in
theorem mOK_158 : mF pm_158 := ⟨4156, 1001, 4154, 4155, by decide +kernel⟩
set_option maxRecDepth 100000 in
theorem mOK_159 : mF pm_159 := ⟨4168, 1001, 4166, 4167, by decide +kernel⟩
set_option maxRecDepth 100000 in
theorem mOK_160 : mF pm_160 := ⟨4198, 1001, 4196, 4197, by decide +kernel⟩
set_option maxRecDepth 100000 in
theorem mOK_161 : mF pm_161 := ⟨4213, 1001, 4211, 4212, by decide +kernel⟩
set_option maxRecDepth 100000 in
theorem mOK_162 : mF pm_162 := ⟨5000, 1001, 4238, 4239, by decide +kernel⟩
set_option maxRecDepth 100000 in
theorem mOK_163 : mF pm_163 := ⟨5004, 1001, 5002, 5003, by decide +kernel⟩
set_option maxRecDepth 100000 in
theorem mOK_164 : mF pm_164 := ⟨5021, 1001, 5019, 5020, by decide +kernel⟩
set_option maxRecDepth 100000 in
theorem mOK_165 : mF pm_165 := ⟨5034, 1001, 5032, 5033, by decide +kernel⟩
set_option maxRecDepth 100000 in
theorem mOK_166 : mF pm_166 := ⟨5042, 1001, 5040, 5041, by decide +kernel⟩
set_option maxRecDepth 100000 in
theorem mOK_167 : mF pm_167 := ⟨5050, 1001, 5048, 5049, by decide +kernel⟩
set_option maxRecDepth 100000 in
theorem mOK_168 : mF pm_168 := ⟨5064, 1001, 5062, 5063, by decide +kernel⟩
set_option maxRecDepth 100000 in
theorem mOK_169 : mF pm_169 := ⟨5096, 1001, 5094, 5095, by decide +kernel⟩
set_option maxRecDepth 100000 in
theorem mOK_170 : mF pm_170 := ⟨5132, 1001, 5130, 5131, by decide +kernel⟩
set_option maxRecDepth 100000 in
theorem mOK_171 : mF pm_171 := ⟨5172, 1001, 5170, 5171, by decide +kernel⟩
set_option maxRecDepth 100000 in
theorem mOK_172 : mF pm_172 := ⟨5183, 1001, 5181, 5182, by decide +kernel⟩
set_option maxRecDepth 100000 in
theorem mOK_173 : mF pm_173 := ⟨5206, 1001, 5204, 5205, by decide +kernel⟩
set_option maxRecDepth 100000 in
theorem mOK_174 : mF pm_174 := ⟨5222, 1001, 5220, 5221, by decide +kernel⟩
set_option maxRecDepth 100000 in
theorem mOK_175 : mF pm_175 := ⟨6019, 1001, 6017, 6018, by decide +kernel⟩
set_option maxRecDepth 100000 in
theorem mOK_176 : mF pm_176 := ⟨6043, 1001, 6041, 6042, by decide +kernel⟩
set_option maxRecDepth 100000 in
theorem mOK_177 : mF pm_177 := ⟨6055, 1001, 6053, 6054, by decide +kernel⟩
set_option maxRecDepth 100000 in
theorem mOK_178 : mF pm_178 := ⟨3237, 1001, 3236, 13, by decide +kernel⟩
set_option maxRecDepth 100000 in
theorem mOK_179 : mF pm_179 := ⟨4217, 1001, 4216, 38, by decide +kernel⟩
set_option maxRecDepth 100000 in
theorem mOK_180 : mF pm_180 := ⟨4017, 1001, 4016, 15, by decide +kernel⟩
set_option maxRecDepth 100000 in
theorem mOK_181 : mF pm_181 := ⟨5226, 1001, 5225, 50, by decide +kernel⟩
set_option maxRecDepth 100000 in
theorem mOK_182 : mF pm_182 := ⟨6047, 1001, 6046, 60, by decide +kernel⟩
set_option maxRecDepth 100000 in
theorem mOK_183 : mF pm_183 := ⟨4188, 1001, 4187, 999999, by decide +kernel⟩
set_option maxRecDepth 100000 in
theorem mOK_184 : mF pm_184 := ⟨3006, 1001, 3005, 999999, by decide +kernel⟩
set_option maxRecDepth 100000 in
theorem mOK_185 : mF pm_185 := ⟨1054, 1001, 1053, 999999, by decide +kernel⟩
set_option maxRecDepth 100000 in
theorem mOK_186 : mF pm_186 := ⟨3188, 1001, 3187, 999999, by decide +kernel⟩
set_option maxRecDepth 100000 in
theorem mOK_187 : mF pm_187 := ⟨4097, 1001, 4096, 999999, by decide +kernel⟩
set_option maxRecDepth 100000 in
theorem mOK_188 : mF pm_188 := ⟨6088, 1013, 6087, 999999, by decide +kernel⟩
set_option maxRecDepth 100000 in
theorem mOK_189 : mF pm_189 := ⟨7040, 1013, 7039, 999999, by decide +kernel⟩
set_option maxRecDepth 100000 in
theorem mOK_190 : mF pm_190 := ⟨8058, 1013, 8057, 999999, by decide +kernel⟩
set_option maxRecDepth 100000 in
theorem mOK_191 : mF pm_191 := ⟨8007, 1013, 8006, 999999, by decide +kernel⟩
set_option maxRecDepth 100000 in
theorem mOK_192 : mF pm_192 := ⟨8004, 1013, 8003, 999999, by decide +kernel⟩
set_option maxRecDepth 100000 in
theorem mOK_193 : mF pm_193 := ⟨8081, 1013, 8080, 999999, by decide +kernel⟩
set_option maxRecDepth 100000 in
theorem mOK_194 : mF pm_194 := ⟨9090, 1013, 9089, 999999, by decide +kernel⟩
set_option maxRecDepth 100000 in
theorem mOK_195 : mF pm_195 := ⟨9087, 1013, 9086, 156, by decide +kernel⟩
set_option maxRecDepth 100000 in
theorem mOK_196 : mF pm_196 := ⟨7048, 1013, 7047, 66, by decide +kernel⟩
set_option maxRecDepth 100000 in
theorem mOK_197 : mF pm_197 := ⟨7029, 1013, 7027, 7028, by decide +kernel⟩
set_option maxRecDepth 100000 in
theorem mOK_198 : mF pm_198 := ⟨7033, 1013, 7032, 65, by decide +kernel⟩
set_option maxRecDepth 100000 in
theorem mOK_199 : mF pm_199 := ⟨7037, 1013, 7035, 7036, by decide +kernel⟩
set_option maxRecDepth 100000 in
theorem mOK_200 : mF pm_200 := ⟨7064, 1013, 7063, 70, by decide +kernel⟩
set_option maxRecDepth 100000 in
theorem mOK_201 : mF pm_201 := ⟨7060, 1013, 7059, 69, by decide +kernel⟩
set_option maxRecDepth 100000 in
theorem mOK_202 : mF pm_202 := ⟨7085, 1013, 7084, 74, by decide +kernel⟩
set_option maxRecDepth 100000 in
theorem mOK_203 : mF pm_203 := ⟨7093, 1013, 7092, 76, by decide +kernel⟩
set_option maxRecDepth 100000 in
theorem mOK_204 : mF pm_204 := ⟨7101, 1013, 7100, 78, by decide +kernel⟩
set_option maxRecDepth 100000 in
theorem mOK_205 : mF pm_205 := ⟨7109, 1013, 7108, 80, by decide +kernel⟩
set_option maxRecDepth 100000 in
theorem mOK_206 : mF pm_206 := ⟨7089, 1013, 7088, 75, by decide +kernel⟩
set_option maxRecDepth 100000 in
theorem mOK_207 : mF pm_207 := ⟨7097, 1013, 7096, 77, by decide +kernel⟩
set_option maxRecDepth 100000 in
theorem mOK_208 : mF pm_208 := ⟨7105, 1013, 7104, 79, by decide +kernel⟩
set_option maxRecDepth 100000 in
theorem mOK_209 : mF pm_209 := ⟨7117, 1013, 7116, 81, by decide +kernel⟩
set_option maxRecDepth 100000 in
theorem mOK_210 : mF pm_210 := ⟨7121, 1013, 7120, 82, by decide +kernel⟩
set_option maxRecDepth 100000 in
theorem mOK_211 : mF pm_211 := ⟨7076, 1013, 7075, 73, by decide +kernel⟩
set_option maxRecDepth 100000 in
theorem mOK_212 : mF pm_212 := ⟨7128, 1013, 7127, 999999, by decide +kernel⟩
set_option maxRecDepth 100000 in
theorem mOK_213 : mF pm_213 := ⟨7140, 1013, 7139, 84, by decide +kernel⟩
set_option maxRecDepth 100000 in
theorem mOK_214 : mF pm_214 := ⟨7125, 1013, 7124, 83, by decide +kernel⟩
set_option maxRecDepth 100000 in
theorem mOK_215 : mF pm_215 := ⟨7144, 1013, 7143, 85, by decide +kernel⟩
set_option maxRecDepth 100000 in
theorem mOK_216 : mF pm_216 := ⟨7150, 1013, 7149, 86, by decide +kernel⟩
set_option maxRecDepth 100000 in
theorem mOK_217 : mF pm_217 := ⟨7072, 1013, 7071, 72, by decide +kernel⟩
set_option maxRecDepth 100000 in
theorem mOK_218 : mF pm_218 := ⟨7068, 1013, 7067, 71, by decide +kernel⟩
set_option maxRecDepth 100000 in
theorem mOK_219 : mF pm_219 := ⟨7056, 1013, 7055, 68, by decide +kernel⟩
set_option maxRecDepth 100000 in
theorem mOK_220 : mF pm_220 := ⟨7052, 1013, 7051, 67, by decide +kernel⟩
set_option maxRecDepth 100000 in
theorem mOK_221 : mF pm_221 := ⟨7161, 1013, 7160, 88, by decide +kernel⟩
set_option maxRecDepth 100000 in
theorem mOK_222 : mF pm_222 := ⟨7157, 1013, 7156, 87, by decide +kernel⟩
set_option maxRecDepth 100000 in
theorem mOK_223 : mF pm_223 := ⟨7044, 1013, 7042, 7043, by decide +kernel⟩
set_option maxRecDepth 100000 in
theorem mOK_224 : mF pm_224 := ⟨7165, 1013, 7163, 7164, by decide +kernel⟩
set_option maxRecDepth 100000 in
theorem mOK_225 : mF pm_225 := ⟨7177, 1013, 7176, 90, by decide +kernel⟩
set_option maxRecDepth 100000 in
theorem mOK_226 : mF pm_226 := ⟨7173, 1013, 7172, 89, by decide +kernel⟩
set_option maxRecDepth 100000 in
theorem mOK_227 : mF pm_227 := ⟨7181, 1013, 7180, 91, by decide +kernel⟩
set_option maxRecDepth 100000 in
theorem mOK_228 : mF pm_228 := ⟨8019, 1013, 8018, 107, by decide +kernel⟩
set_option maxRecDepth 100000 in
theorem mOK_229 : mF pm_229 := ⟨7169, 1013, 7167, 7168, by decide +kernel⟩
set_option maxRecDepth 100000 in
theorem mOK_230 : mF pm_230 := ⟨7193, 1013, 7192, 93, by decide +kernel⟩
set_option maxRecDepth 100000 in
theorem mOK_231 : mF pm_231 := ⟨7197, 1013, 7196, 94, by decide +kernel⟩
set_option maxRecDepth 100000 in
theorem mOK_232 : mF pm_232 := ⟨7189, 1013, 7188, 92, by decide +kernel⟩
set_option maxRecDepth 100000 in
theorem mOK_233 : mF pm_233 := ⟨7185, 1013, 7183, 7184, by decide +kernel⟩
set_option maxRecDepth 100000 in
theorem mOK_234 : mF pm_234 := ⟨7213, 1013, 7212, 97, by decide +kernel⟩
set_option maxRecDepth 100000 in
theorem mOK_235 : mF pm_235 := ⟨7225, 1013, 7224, 100, by decide +kernel⟩
set_option maxRecDepth 100000 in
theorem mOK_236 : mF pm_236 := ⟨7229, 1013, 7228, 101, by decide +kernel⟩
set_option maxRecDepth 100000 in
theorem mOK_237 : mF pm_237 := ⟨7233, 1013, 7232, 102, by decide +kernel⟩
set_option maxRecDepth 100000 in
theorem mOK_238 : mF pm_238 := ⟨7221, 1013, 7220, 99, by decide +kernel⟩
set_option maxRecDepth 100000 in
theorem mOK_239 : mF pm_239 := ⟨7237, 1013, 7236, 103, by decide +kernel⟩
set_option maxRecDepth 100000 in
theorem mOK_240 : mF pm_240 := ⟨8001, 1013, 8000, 104, by decide +kernel⟩
set_option maxRecDepth 100000 in
theorem mOK_241 : mF pm_241 := ⟨8023, 1013, 8022, 108, by decide +kernel⟩
set_option maxRecDepth 100000 in
theorem mOK_242 : mF pm_242 := ⟨8015, 1013, 8014, 106, by decide +kernel⟩
set_option maxRecDepth 100000 in
theorem mOK_243 : mF pm_243 := ⟨8011, 1013, 8010, 105, by decide +kernel⟩
set_option maxRecDepth 100000 in
theorem mOK_244 : mF pm_244 := ⟨8027, 1013, 8026, 109, by decide +kernel⟩
set_option maxRecDepth 100000 in
theorem mOK_245 : mF pm_245 := ⟨7217, 1013, 7216, 98, by decide +kernel⟩
set_option maxRecDepth 100000 in
theorem mOK_246 : mF pm_246 := ⟨7209, 1013, 7208, 96, by decide +kernel⟩
set_option maxRecDepth 100000 in
theorem mOK_247 : mF pm_247 := ⟨7205, 1013, 7204, 95, by decide +kernel⟩
set_option maxRecDepth 100000 in
theorem mOK_248 : mF pm_248 := ⟨7201, 1013, 7199, 7200, by decide +kernel⟩
set_option maxRecDepth 100000 in
theorem mOK_249 : mF pm_249 := ⟨8035, 1013, 8034, 110, by decide +kernel⟩
set_option maxRecDepth 100000 in
theorem mOK_250 : mF pm_250 := ⟨8031, 1013, 8029, 8030, by decide +kernel⟩
set_option maxRecDepth 100000 in
theorem mOK_251 : mF pm_251 := ⟨8043, 1013, 8042, 111, by decide +kernel⟩
set_option maxRecDepth 100000 in
theorem mOK_252 : mF pm_252 := ⟨8078, 1013, 8077, 118, by decide +kernel⟩
set_option maxRecDepth 100000 in
theorem mOK_253 : mF pm_253 := ⟨8047, 1013, 8046, 112, by decide +kernel⟩
set_option maxRecDepth 100000 in
theorem mOK_254 : mF pm_254 := ⟨8055, 1013, 8054, 114, by decide +kernel⟩
set_option maxRecDepth 100000 in
theorem mOK_255 : mF pm_255 := ⟨8062, 1013, 8061, 115, by decide +kernel⟩
set_option maxRecDepth 100000 in
theorem mOK_256 : mF pm_256 := ⟨8051, 1013, 8050, 113, by decide +kernel⟩
set_option maxRecDepth 100000 in
theorem mOK_257 : mF pm_257 := ⟨8039, 1013, 8037, 8038, by decide +kernel⟩
set_option maxRecDepth 100000 in
theorem mOK_258 : mF pm_258 := ⟨8074, 1013, 8073, 117, by decide +kernel⟩
set_option maxRecDepth 100000 in
theorem mOK_259 : mF pm_259 := ⟨8070, 1013, 8069, 116, by decide +kernel⟩
set_option maxRecDepth 100000 in
theorem mOK_260 : mF pm_260 := ⟨8093, 1013, 8092, 121, by decide +kernel⟩
set_option maxRecDepth 100000 in
theorem mOK_261 : mF pm_261 := ⟨8085, 1013, 8084, 119, by decide +kernel⟩
set_option maxRecDepth 100000 in
theorem mOK_262 : mF pm_262 := ⟨8089, 1013, 8088, 120, by decide +kernel⟩
set_option maxRecDepth 100000 in
theorem mOK_263 : mF pm_263 := ⟨8097, 1013, 8096, 122, by decide +kernel⟩
set_option maxRecDepth 100000 in
theorem mOK_264 : mF pm_264 := ⟨8101, 1013, 8100, 123, by decide +kernel⟩
set_option maxRecDepth 100000 in
theorem mOK_265 : mF pm_265 := ⟨8066, 1013, 8064, 8065, by decide +kernel⟩
set_option maxRecDepth 100000 in
theorem mOK_266 : mF pm_266 := ⟨8109, 1013, 8108, 124, by decide +kernel⟩
set_option maxRecDepth 100000 in
theorem mOK_267 : mF pm_267 := ⟨8105, 1013, 8103, 8104, by decide +kernel⟩
set_option maxRecDepth 100000 in
theorem mOK_268 : mF pm_268 := ⟨8122, 1013, 8121, 126, by decide +kernel⟩
set_option maxRecDepth 100000 in
theorem mOK_269 : mF pm_269 := ⟨8126, 1013, 8125, 127, by decide +kernel⟩
set_option maxRecDepth 100000 in
theorem mOK_270 : mF pm_270 := ⟨8118, 1013, 8117, 125, by decide +kernel⟩
set_option maxRecDepth 100000 in
theorem mOK_271 : mF pm_271 := ⟨8113, 1013, 8111, 8112, by decide +kernel⟩
set_option maxRecDepth 100000 in
theorem mOK_272 : mF pm_272 := ⟨8137, 1013, 8136, 999999, by decide +kernel⟩
set_option maxRecDepth 100000 in
theorem mOK_273 : mF pm_273 := ⟨8134, 1013, 8133, 128, by decide +kernel⟩
set_option maxRecDepth 100000 in
theorem mOK_274 : mF pm_274 := ⟨8141, 1013, 8140, 129, by decide +kernel⟩
set_option maxRecDepth 100000 in
theorem mOK_275 : mF pm_275 := ⟨8130, 1013, 8128, 8129, by decide +kernel⟩
set_option maxRecDepth 100000 in
theorem mOK_276 : mF pm_276 := ⟨8157, 1013, 8156, 132, by decide +kernel⟩
set_option maxRecDepth 100000 in
theorem mOK_277 : mF pm_277 := ⟨8153, 1013, 8152, 131, by decide +kernel⟩
set_option maxRecDepth 100000 in
theorem mOK_278 : mF pm_278 := ⟨8149, 1013, 8148, 130, by decide +kernel⟩
set_option maxRecDepth 100000 in
theorem mOK_279 : mF pm_279 := ⟨8169, 1013, 8168, 135, by decide +kernel⟩
set_option maxRecDepth 100000 in
theorem mOK_280 : mF pm_280 := ⟨8161, 1013, 8160, 133, by decide +kernel⟩
set_option maxRecDepth 100000 in
theorem mOK_281 : mF pm_281 := ⟨8173, 1013, 8172, 136, by decide +kernel⟩
set_option maxRecDepth 100000 in
theorem mOK_282 : mF pm_282 := ⟨8177, 1013, 8176, 137, by decide +kernel⟩
set_option maxRecDepth 100000 in
theorem mOK_283 : mF pm_283 := ⟨8165, 1013, 8164, 134, by decide +kernel⟩
set_option maxRecDepth 100000 in
theorem mOK_284 : mF pm_284 := ⟨8145, 1013, 8143, 8144, by decide +kernel⟩
set_option maxRecDepth 100000 in
theorem mOK_285 : mF pm_285 := ⟨8189, 1013, 8188, 139, by decide +kernel⟩
set_option maxRecDepth 100000 in
theorem mOK_286 : mF pm_286 := ⟨8185, 1013, 8184, 138, by decide +kernel⟩
set_option maxRecDepth 100000 in
theorem mOK_287 : mF pm_287 := ⟨8193, 1013, 8192, 140, by decide +kernel⟩
set_option maxRecDepth 100000 in
theorem mOK_288 : mF pm_288 := ⟨8181, 1013, 8179, 8180, by decide +kernel⟩
set_option maxRecDepth 100000 in
theorem mOK_289 : mF pm_289 := ⟨8205, 1013, 8204, 142, by decide +kernel⟩
set_option maxRecDepth 100000 in
theorem mOK_290 : mF pm_290 := ⟨8209, 1013, 8208, 143, by decide +kernel⟩
set_option maxRecDepth 100000 in
theorem mOK_291 : mF pm_291 := ⟨8213, 1013, 8212, 144, by decide +kernel⟩
set_option maxRecDepth 100000 in
theorem mOK_292 : mF pm_292 := ⟨8201, 1013, 8200, 141, by decide +kernel⟩
set_option maxRecDepth 100000 in
theorem mOK_293 : mF pm_293 := ⟨8197, 1013, 8195, 8196, by decide +kernel⟩
set_option maxRecDepth 100000 in
theorem mOK_294 : mF pm_294 := ⟨8225, 1013, 8224, 146, by decide +kernel⟩
set_option maxRecDepth 100000 in
theorem mOK_295 : mF pm_295 := ⟨8233, 1013, 8232, 148, by decide +kernel⟩
set_option maxRecDepth 100000 in
theorem mOK_296 : mF pm_296 := ⟨8229, 1013, 8228, 147, by decide +kernel⟩
set_option maxRecDepth 100000 in
theorem mOK_297 : mF pm_297 := ⟨8221, 1013, 8220, 145, by decide +kernel⟩
set_option maxRecDepth 100000 in
theorem mOK_298 : mF pm_298 := ⟨8237, 1013, 8236, 149, by decide +kernel⟩
set_option maxRecDepth 100000 in
theorem mOK_299 : mF pm_299 := ⟨8217, 1013, 8215, 8216, by decide +kernel⟩
set_option maxRecDepth 100000 in
theorem mOK_300 : mF pm_300 := ⟨9009, 1013, 9008, 151, by decide +kernel⟩
set_option maxRecDepth 100000 in
theorem mOK_301 : mF pm_301 := ⟨9005, 1013, 9004, 150, by decide +kernel⟩
set_option maxRecDepth 100000 in
theorem mOK_302 : mF pm_302 := ⟨9013, 1013, 9012, 152, by decide +kernel⟩
set_option maxRecDepth 100000 in
theorem mOK_303 : mF pm_303 := ⟨9001, 1013, 8239, 9000, by decide +kernel⟩
set_option maxRecDepth 100000 in
theorem mOK_304 : mF pm_304 := ⟨9017, 1013, 9015, 9016, by decide +kernel⟩
set_option maxRecDepth 100000 in
theorem mOK_305 : mF pm_305 := ⟨9029, 1013, 9028, 154, by decide +kernel⟩
set_option maxRecDepth 100000 in
theorem mOK_306 : mF pm_306 := ⟨9034, 1013, 9033, 155, by decide +kernel⟩
set_option maxRecDepth 100000 in
theorem mOK_307 : mF pm_307 := ⟨9025, 1013, 9024, 153, by decide +kernel⟩
set_option maxRecDepth 100000 in
theorem mOK_308 : mF pm_308 := ⟨9021, 1013, 9019, 9020, by decide +kernel⟩
set_option maxRecDepth 100000 in
theorem mOK_309 : mF pm_309 := ⟨9038, 1013, 9036, 9037, by decide +kernel⟩
set_option maxRecDepth 100000 in
theorem mOK_310 : mF pm_310 := ⟨9042, 1013, 9040, 9041, by decide +kernel⟩
set_option maxRecDepth 100000 in
theorem mOK_311 : mF pm_311 := ⟨9046, 1013, 9044, 9045, by decide +kernel⟩
set_option maxRecDepth 100000 in
theorem mOK_312 : mF pm_312 := ⟨9050, 1013, 9048, 9049, by decide +kernel⟩
set_option maxRecDepth 100000 in
theorem mOK_313 : mF pm_313 := ⟨9054, 1013, 9052, 9053, by decide +kernel⟩
set_option maxRecDepth 100000 in
theorem mOK_314 : mF pm_314 := ⟨9058, 1013, 9056, 9057, by decide +kernel⟩
set_option maxRecDepth 100000 in
theorem mOK_315 : mF pm_315 := ⟨9062, 1013, 9060, 9061, by decide +kernel⟩
set_option maxRecDepth 100000 in
theorem mOK_316 : mF pm_316 := ⟨9066, 1013, 9064, 9065, by decide +kernel⟩
set_option maxRecDepth 100000 in
theorem mOK_317 : mF pm_317 := ⟨9070, 1013, 9068, 9069, by decide +kernel⟩
set_option maxRecDepth 100000 in
theorem mOK_318 : mF pm_318 := ⟨9075, 1013, 9073, 9074, by decide +kernel⟩
set_option maxRecDepth 100000 in
theorem mOK_319 : mF pm_319 := ⟨9079, 1013, 9077, 9078, by decide +kernel⟩
set_option maxRecDepth 100000 in
theorem mOK_320 : mF pm_320 := ⟨9083, 1013, 9081, 9082, by decide +kernel⟩
set_option maxRecDepth 100000 in
theorem mOK_321 : mF pm_321 := ⟨9094, 1013, 9092, 9093, by decide +kernel⟩
set_option maxRecDepth 100000 in
theorem mOK_322 : mF pm_322 := ⟨5112, 1020, 5111, 999999, by decide +kernel⟩
set_option maxRecDepth 100000 in
theorem mOK_323 : mF pm_323 := ⟨4225, 1020, 4224, 999999, by decide +kernel⟩
set_option maxRecDepth 100000 in
theorem mOK_324 : mF pm_324 := ⟨3079, 1015, 3077, 3078, by decide +kernel⟩
set_option maxRecDepth 100000 in
theorem mOK_325 : mF pm_325 := ⟨3089, 1015, 3087, 3088, by decide +kernel⟩
set_option maxRecDepth 100000 in
theorem mOK_326 : mF pm_326 := ⟨3083, 1015, 3081, 3082, by decide +kernel⟩
set_option maxRecDepth 100000 in
theorem mOK_327 : mF pm_327 := ⟨3093, 1015, 3091, 3092, by decide +kernel⟩
set_option maxRecDepth 100000 in
theorem mOK_328 : mF pm_328 := ⟨3099, 1015, 3098, 999999, by decide +kernel⟩
set_option maxRecDepth 100000 in
theorem mOK_329 : mF pm_329 := ⟨3096, 1016, 3095, 999999, by decide +kernel⟩
set_option maxRecDepth 100000 in
theorem mOK_330 : mF pm_330 := ⟨3104, 1017, 3103, 999999, by decide +kernel⟩
/-- the final fields that a method's putfields write are its own class's, and it is a constructor; where it copies rows it has room for a call -/
def pOK (pm : PM) : Bool := pm.2.2.2.2.2.2.2.2.all fun e => match e.2.1 with
  | .putfield ix => (match lk FRL pm.2.2.2.2.1 ix with
    | some (c, k, n, _) => decide (n = 0) && (!(FT c k).2.2.2 || (decide (pm.1.name = "<init>") && decide (c = pm.2.2.2.2.1)))
    | none => true)
  | .invokestatic ix => (match lk CRL pm.2.2.2.2.1 ix with
    | some (k, _, _, _) => decide (k < 6 ∨ 1 ≤ pm.2.2.2.2.2.1)
    | none => true)
  | .invokespecial ix => (match lk CRL pm.2.2.2.2.1 ix with
    | some (k, _, _, _) => decide (k < 6 ∨ 1 ≤ pm.2.2.2.2.2.1)
    | none => true)
  | _ => true
set_option maxRecDepth 100000 in
theorem pOK_0 : pOK pm_0 = true := by decide +kernel
set_option maxRecDepth 100000 in
theorem pOK_1 : pOK pm_1 = true := by decide +kernel
set_option maxRecDepth 100000 in
theorem pOK_2 : pOK pm_2 = true := by decide +kernel
set_option maxRecDepth 100000 in
theorem pOK_3 : pOK pm_3 = true := by decide +kernel
set_option maxRecDepth 100000 in
theorem pOK_4 : pOK pm_4 = true := by decide +kernel
set_option maxRecDepth 100000 in
theorem pOK_5 : pOK pm_5 = true := by decide +kernel
set_option maxRecDepth 100000 in
theorem pOK_6 : pOK pm_6 = true := by decide +kernel
set_option maxRecDepth 100000 in
theorem pOK_7 : pOK pm_7 = true := by decide +kernel
set_option maxRecDepth 100000 in
theorem pOK_8 : pOK pm_8 = true := by decide +kernel
set_option maxRecDepth 100000 in
theorem pOK_9 : pOK pm_9 = true := by decide +kernel
set_option maxRecDepth 100000 in
theorem pOK_10 : pOK pm_10 = true := by decide +kernel
set_option maxRecDepth 100000 in
theorem pOK_11 : pOK pm_11 = true := by decide +kernel
set_option maxRecDepth 100000 in
theorem pOK_12 : pOK pm_12 = true := by decide +kernel
set_option maxRecDepth 100000 in
theorem pOK_13 : pOK pm_13 = true := by decide +kernel
set_option maxRecDepth 100000 in
theorem pOK_14 : pOK pm_14 = true := by decide +kernel
set_option maxRecDepth 100000 in
theorem pOK_15 : pOK pm_15 = true := by decide +kernel
set_option maxRecDepth 100000 in
theorem pOK_16 : pOK pm_16 = true := by decide +kernel
set_option maxRecDepth 100000 in
theorem pOK_17 : pOK pm_17 = true := by decide +kernel
set_option maxRecDepth 100000 in
theorem pOK_18 : pOK pm_18 = true := by decide +kernel
set_option maxRecDepth 100000 in
theorem pOK_19 : pOK pm_19 = true := by decide +kernel
set_option maxRecDepth 100000 in
theorem pOK_20 : pOK pm_20 = true := by decide +kernel
set_option maxRecDepth 100000 in
theorem pOK_21 : pOK pm_21 = true := by decide +kernel
set_option maxRecDepth 100000 in
theorem pOK_22 : pOK pm_22 = true := by decide +kernel
set_option maxRecDepth 100000 in
theorem pOK_23 : pOK pm_23 = true := by decide +kernel
set_option maxRecDepth 100000 in
theorem pOK_24 : pOK pm_24 = true := by decide +kernel
set_option maxRecDepth 100000 in
theorem pOK_25 : pOK pm_25 = true := by decide +kernel
set_option maxRecDepth 100000 in
theorem pOK_26 : pOK pm_26 = true := by decide +kernel
set_option maxRecDepth 100000 in
theorem pOK_27 : pOK pm_27 = true := by decide +kernel
set_option maxRecDepth 100000 in
theorem pOK_28 : pOK pm_28 = true := by decide +kernel
set_option maxRecDepth 100000 in
theorem pOK_29 : pOK pm_29 = true := by decide +kernel
set_option maxRecDepth 100000 in
theorem pOK_30 : pOK pm_30 = true := by decide +kernel
set_option maxRecDepth 100000 in
theorem pOK_31 : pOK pm_31 = true := by decide +kernel
set_option maxRecDepth 100000 in
theorem pOK_32 : pOK pm_32 = true := by decide +kernel
set_option maxRecDepth 100000 in
theorem pOK_33 : pOK pm_33 = true := by decide +kernel
set_option maxRecDepth 100000 in
theorem pOK_34 : pOK pm_34 = true := by decide +kernel
set_option maxRecDepth 100000 in
theorem pOK_35 : pOK pm_35 = true := by decide +kernel
set_option maxRecDepth 100000 in
theorem pOK_36 : pOK pm_36 = true := by decide +kernel
set_option maxRecDepth 100000 in
theorem pOK_37 : pOK pm_37 = true := by decide +kernel
set_option maxRecDepth 100000 in
theorem pOK_38 : pOK pm_38 = true := by decide +kernel
set_option maxRecDepth 100000 in
theorem pOK_39 : pOK pm_39 = true := by decide +kernel
set_option maxRecDepth 100000 in
theorem pOK_40 : pOK pm_40 = true := by decide +kernel
set_option maxRecDepth 100000 in
theorem pOK_41 : pOK pm_41 = true := by decide +kernel
set_option maxRecDepth 100000 in
theorem pOK_42 : pOK pm_42 = true := by decide +kernel
set_option maxRecDepth 100000 in
theorem pOK_43 : pOK pm_43 = true := by decide +kernel
set_option maxRecDepth 100000 in
theorem pOK_44 : pOK pm_44 = true := by decide +kernel
set_option maxRecDepth 100000 in
theorem pOK_45 : pOK pm_45 = true := by decide +kernel
set_option maxRecDepth 100000 in
theorem pOK_46 : pOK pm_46 = true := by decide +kernel
set_option maxRecDepth 100000 in
theorem pOK_47 : pOK pm_47 = true := by decide +kernel
set_option maxRecDepth 100000 in
theorem pOK_48 : pOK pm_48 = true := by decide +kernel
set_option maxRecDepth 100000 in
theorem pOK_49 : pOK pm_49 = true := by decide +kernel
set_option maxRecDepth 100000 in
theorem pOK_50 : pOK pm_50 = true := by decide +kernel
set_option maxRecDepth 100000 in
theorem pOK_51 : pOK pm_51 = true := by decide +kernel
set_option maxRecDepth 100000 in
theorem pOK_52 : pOK pm_52 = true := by decide +kernel
set_option maxRecDepth 100000 in
theorem pOK_53 : pOK pm_53 = true := by decide +kernel
set_option maxRecDepth 100000 in
theorem pOK_54 : pOK pm_54 = true := by decide +kernel
set_option maxRecDepth 100000 in
theorem pOK_55 : pOK pm_55 = true := by decide +kernel
set_option maxRecDepth 100000 in
theorem pOK_56 : pOK pm_56 = true := by decide +kernel
set_option maxRecDepth 100000 in
theorem pOK_57 : pOK pm_57 = true := by decide +kernel
set_option maxRecDepth 100000 in
theorem pOK_58 : pOK pm_58 = true := by decide +kernel
set_option maxRecDepth 100000 in
theorem pOK_59 : pOK pm_59 = true := by decide +kernel
set_option maxRecDepth 100000 in
theorem pOK_60 : pOK pm_60 = true := by decide +kernel
set_option maxRecDepth 100000 in
theorem pOK_61 : pOK pm_61 = true := by decide +kernel
set_option maxRecDepth 100000 in
theorem pOK_62 : pOK pm_62 = true := by decide +kernel
set_option maxRecDepth 100000 in
theorem pOK_63 : pOK pm_63 = true := by decide +kernel
set_option maxRecDepth 100000 in
theorem pOK_64 : pOK pm_64 = true := by decide +kernel
set_option maxRecDepth 100000 in
theorem pOK_65 : pOK pm_65 = true := by decide +kernel
set_option maxRecDepth 100000 in
theorem pOK_66 : pOK pm_66 = true := by decide +kernel
set_option maxRecDepth 100000 in
theorem pOK_67 : pOK pm_67 = true := by decide +kernel
set_option maxRecDepth 100000 in
theorem pOK_68 : pOK pm_68 = true := by decide +kernel
set_option maxRecDepth 100000 in
theorem pOK_69 : pOK pm_69 = true := by decide +kernel
set_option maxRecDepth 100000 in
theorem pOK_70 : pOK pm_70 = true := by decide +kernel
set_option maxRecDepth 100000 in
theorem pOK_71 : pOK pm_71 = true := by decide +kernel
set_option maxRecDepth 100000 in
theorem pOK_72 : pOK pm_72 = true := by decide +kernel
set_option maxRecDepth 100000 in
theorem pOK_73 : pOK pm_73 = true := by decide +kernel
set_option maxRecDepth 100000 in
theorem pOK_74 : pOK pm_74 = true := by decide +kernel
set_option maxRecDepth 100000 in
theorem pOK_75 : pOK pm_75 = true := by decide +kernel
set_option maxRecDepth 100000 in
theorem pOK_76 : pOK pm_76 = true := by decide +kernel
set_option maxRecDepth 100000 in
theorem pOK_77 : pOK pm_77 = true := by decide +kernel
set_option maxRecDepth 100000 in
theorem pOK_78 : pOK pm_78 = true := by decide +kernel
set_option maxRecDepth 100000 in
theorem pOK_79 : pOK pm_79 = true := by decide +kernel
set_option maxRecDepth 100000 in
theorem pOK_80 : pOK pm_80 = true := by decide +kernel
set_option maxRecDepth 100000 in
theorem pOK_81 : pOK pm_81 = true := by decide +kernel
set_option maxRecDepth 100000 in
theorem pOK_82 : pOK pm_82 = true := by decide +kernel
set_option maxRecDepth 100000 in
theorem pOK_83 : pOK pm_83 = true := by decide +kernel
set_option maxRecDepth 100000 in
theorem pOK_84 : pOK pm_84 = true := by decide +kernel
set_option maxRecDepth 100000 in
theorem pOK_85 : pOK pm_85 = true := by decide +kernel
set_option maxRecDepth 100000 in
theorem pOK_86 : pOK pm_86 = true := by decide +kernel
set_option maxRecDepth 100000 in
theorem pOK_87 : pOK pm_87 = true := by decide +kernel
set_option maxRecDepth 100000 in
theorem pOK_88 : pOK pm_88 = true := by decide +kernel
set_option maxRecDepth 100000 in
theorem pOK_89 : pOK pm_89 = true := by decide +kernel
set_option maxRecDepth 100000 in
theorem pOK_90 : pOK pm_90 = true := by decide +kernel
set_option maxRecDepth 100000 in
theorem pOK_91 : pOK pm_91 = true := by decide +kernel
set_option maxRecDepth 100000 in
theorem pOK_92 : pOK pm_92 = true := by decide +kernel
set_option maxRecDepth 100000 in
theorem pOK_93 : pOK pm_93 = true := by decide +kernel
set_option maxRecDepth 100000 in
theorem pOK_94 : pOK pm_94 = true := by decide +kernel
set_option maxRecDepth 100000 in
theorem pOK_95 : pOK pm_95 = true := by decide +kernel
set_option maxRecDepth 100000 in
theorem pOK_96 : pOK pm_96 = true := by decide +kernel
set_option maxRecDepth 100000 in
theorem pOK_97 : pOK pm_97 = true := by decide +kernel
set_option maxRecDepth 100000 in
theorem pOK_98 : pOK pm_98 = true := by decide +kernel
set_option maxRecDepth 100000 in
theorem pOK_99 : pOK pm_99 = true := by decide +kernel
set_option maxRecDepth 100000 in
theorem pOK_100 : pOK pm_100 = true := by decide +kernel
set_option maxRecDepth 100000 in
theorem pOK_101 : pOK pm_101 = true := by decide +kernel
set_option maxRecDepth 100000 in
theorem pOK_102 : pOK pm_102 = true := by decide +kernel
set_option maxRecDepth 100000 in
theorem pOK_103 : pOK pm_103 = true := by decide +kernel
set_option maxRecDepth 100000 in
theorem pOK_104 : pOK pm_104 = true := by decide +kernel
set_option maxRecDepth 100000 in
theorem pOK_105 : pOK pm_105 = true := by decide +kernel
set_option maxRecDepth 100000 in
theorem pOK_106 : pOK pm_106 = true := by decide +kernel
set_option maxRecDepth 100000 in
theorem pOK_107 : pOK pm_107 = true := by decide +kernel
set_option maxRecDepth 100000 in
theorem pOK_108 : pOK pm_108 = true := by decide +kernel
set_option maxRecDepth 100000 in
theorem pOK_109 : pOK pm_109 = true := by decide +kernel
set_option maxRecDepth 100000 in
theorem pOK_110 : pOK pm_110 = true := by decide +kernel
set_option maxRecDepth 100000 in
theorem pOK_111 : pOK pm_111 = true := by decide +kernel
set_option maxRecDepth 100000 in
theorem pOK_112 : pOK pm_112 = true := by decide +kernel
set_option maxRecDepth 100000 in
theorem pOK_113 : pOK pm_113 = true := by decide +kernel
set_option maxRecDepth 100000 in
theorem pOK_114 : pOK pm_114 = true := by decide +kernel
set_option maxRecDepth 100000 in
theorem pOK_115 : pOK pm_115 = true := by decide +kernel
set_option maxRecDepth 100000 in
theorem pOK_116 : pOK pm_116 = true := by decide +kernel
set_option maxRecDepth 100000 in
theorem pOK_117 : pOK pm_117 = true := by decide +kernel
set_option maxRecDepth 100000 in
theorem pOK_118 : pOK pm_118 = true := by decide +kernel
set_option maxRecDepth 100000 in
theorem pOK_119 : pOK pm_119 = true := by decide +kernel
set_option maxRecDepth 100000 in
theorem pOK_120 : pOK pm_120 = true := by decide +kernel
set_option maxRecDepth 100000 in
theorem pOK_121 : pOK pm_121 = true := by decide +kernel
set_option maxRecDepth 100000 in
theorem pOK_122 : pOK pm_122 = true := by decide +kernel
set_option maxRecDepth 100000 in
theorem pOK_123 : pOK pm_123 = true := by decide +kernel
set_option maxRecDepth 100000 in
theorem pOK_124 : pOK pm_124 = true := by decide +kernel
set_option maxRecDepth 100000 in
theorem pOK_125 : pOK pm_125 = true := by decide +kernel
set_option maxRecDepth 100000 in
theorem pOK_126 : pOK pm_126 = true := by decide +kernel
set_option maxRecDepth 100000 in
theorem pOK_127 : pOK pm_127 = true := by decide +kernel
set_option maxRecDepth 100000 in
theorem pOK_128 : pOK pm_128 = true := by decide +kernel
set_option maxRecDepth 100000 in
theorem pOK_129 : pOK pm_129 = true := by decide +kernel
set_option maxRecDepth 100000 in
theorem pOK_130 : pOK pm_130 = true := by decide +kernel
set_option maxRecDepth 100000 in
theorem pOK_131 : pOK pm_131 = true := by decide +kernel
set_option maxRecDepth 100000 in
theorem pOK_132 : pOK pm_132 = true := by decide +kernel
set_option maxRecDepth 100000 in
theorem pOK_133 : pOK pm_133 = true := by decide +kernel
set_option maxRecDepth 100000 in
theorem pOK_134 : pOK pm_134 = true := by decide +kernel
set_option maxRecDepth 100000 in
theorem pOK_135 : pOK pm_135 = true := by decide +kernel
set_option maxRecDepth 100000 in
theorem pOK_136 : pOK pm_136 = true := by decide +kernel
set_option maxRecDepth 100000 in
theorem pOK_137 : pOK pm_137 = true := by decide +kernel
set_option maxRecDepth 100000 in
theorem pOK_138 : pOK pm_138 = true := by decide +kernel
set_option maxRecDepth 100000 in
theorem pOK_139 : pOK pm_139 = true := by decide +kernel
set_option maxRecDepth 100000 in
theorem pOK_140 : pOK pm_140 = true := by decide +kernel
set_option maxRecDepth 100000 in
theorem pOK_141 : pOK pm_141 = true := by decide +kernel
set_option maxRecDepth 100000 in
theorem pOK_142 : pOK pm_142 = true := by decide +kernel
set_option maxRecDepth 100000 in
theorem pOK_143 : pOK pm_143 = true := by decide +kernel
set_option maxRecDepth 100000 in
theorem pOK_144 : pOK pm_144 = true := by decide +kernel
set_option maxRecDepth 100000 in
theorem pOK_145 : pOK pm_145 = true := by decide +kernel
set_option maxRecDepth 100000 in
theorem pOK_146 : pOK pm_146 = true := by decide +kernel
set_option maxRecDepth 100000 in
theorem pOK_147 : pOK pm_147 = true := by decide +kernel
set_option maxRecDepth 100000 in
theorem pOK_148 : pOK pm_148 = true := by decide +kernel
set_option maxRecDepth 100000 in
theorem pOK_149 : pOK pm_149 = true := by decide +kernel
set_option maxRecDepth 100000 in
theorem pOK_150 : pOK pm_150 = true := by decide +kernel
set_option maxRecDepth 100000 in
theorem pOK_151 : pOK pm_151 = true := by decide +kernel
set_option maxRecDepth 100000 in
theorem pOK_152 : pOK pm_152 = true := by decide +kernel
set_option maxRecDepth 100000 in
theorem pOK_153 : pOK pm_153 = true := by decide +kernel
set_option maxRecDepth 100000 in
theorem pOK_154 : pOK pm_154 = true := by decide +kernel
set_option maxRecDepth 100000 in
theorem pOK_155 : pOK pm_155 = true := by decide +kernel
set_option maxRecDepth 100000 in
theorem pOK_156 : pOK pm_156 = true := by decide +kernel
set_option maxRecDepth 100000 in
theorem pOK_157 : pOK pm_157 = true := by decide +kernel
set_option maxRecDepth 100000 in
theorem pOK_158 : pOK pm_158 = true := by decide +kernel
set_option maxRecDepth 100000 in
theorem pOK_159 : pOK pm_159 = true := by decide +kernel
set_option maxRecDepth 100000 in
theorem pOK_160 : pOK pm_160 = true := by decide +kernel
set_option maxRecDepth 100000 in
theorem pOK_161 : pOK pm_161 = true := by decide +kernel
set_option maxRecDepth 100000 in
theorem pOK_162 : pOK pm_162 = true := by decide +kernel
set_option maxRecDepth 100000 in
theorem pOK_163 : pOK pm_163 = true := by decide +kernel
set_option maxRecDepth 100000 in
theorem pOK_164 : pOK pm_164 = true := by decide +kernel
set_option maxRecDepth 100000 in
theorem pOK_165 : pOK pm_165 = true := by decide +kernel
set_option maxRecDepth 100000 in
theorem pOK_166 : pOK pm_166 = true := by decide +kernel
set_option maxRecDepth 100000 in
theorem pOK_167 : pOK pm_167 = true := by decide +kernel
set_option maxRecDepth 100000 in
theorem pOK_168 : pOK pm_168 = true := by decide +kernel
set_option maxRecDepth 100000 in
theorem pOK_169 : pOK pm_169 = true := by decide +kernel
set_option maxRecDepth 100000 in
theorem pOK_170 : pOK pm_170 = true := by decide +kernel
set_option maxRecDepth 100000 in
theorem pOK_171 : pOK pm_171 = true := by decide +kernel
set_option maxRecDepth 100000 in
theorem pOK_172 : pOK pm_172 = true := by decide +kernel
set_option maxRecDepth 100000 in
theorem pOK_173 : pOK pm_173 = true := by decide +kernel
set_option maxRecDepth 100000 in
theorem pOK_174 : pOK pm_174 = true := by decide +kernel
set_option maxRecDepth 100000 in
theorem pOK_175 : pOK pm_175 = true := by decide +kernel
set_option maxRecDepth 100000 in
theorem pOK_176 : pOK pm_176 = true := by decide +kernel
set_option maxRecDepth 100000 in
theorem pOK_177 : pOK pm_177 = true := by decide +kernel
set_option maxRecDepth 100000 in
theorem pOK_178 : pOK pm_178 = true := by decide +kernel
set_option maxRecDepth 100000 in
theorem pOK_179 : pOK pm_179 = true := by decide +kernel
set_option maxRecDepth 100000 in
theorem pOK_180 : pOK pm_180 = true := by decide +kernel
set_option maxRecDepth 100000 in
theorem pOK_181 : pOK pm_181 = true := by decide +kernel
set_option maxRecDepth 100000 in
theorem pOK_182 : pOK pm_182 = true := by decide +kernel
set_option maxRecDepth 100000 in
theorem pOK_183 : pOK pm_183 = true := by decide +kernel
set_option maxRecDepth 100000 in
theorem pOK_184 : pOK pm_184 = true := by decide +kernel
set_option maxRecDepth 100000 in
theorem pOK_185 : pOK pm_185 = true := by decide +kernel
set_option maxRecDepth 100000 in
theorem pOK_186 : pOK pm_186 = true := by decide +kernel
set_option maxRecDepth 100000 in
theorem pOK_187 : pOK pm_187 = true := by decide +kernel
set_option maxRecDepth 100000 in
theorem pOK_188 : pOK pm_188 = true := by decide +kernel
set_option maxRecDepth 100000 in
theorem pOK_189 : pOK pm_189 = true := by decide +kernel
set_option maxRecDepth 100000 in
theorem pOK_190 : pOK pm_190 = true := by decide +kernel
set_option maxRecDepth 100000 in
theorem pOK_191 : pOK pm_191 = true := by decide +kernel
set_option maxRecDepth 100000 in
theorem pOK_192 : pOK pm_192 = true := by decide +kernel
set_option maxRecDepth 100000 in
theorem pOK_193 : pOK pm_193 = true := by decide +kernel
set_option maxRecDepth 100000 in
theorem pOK_194 : pOK pm_194 = true := by decide +kernel
set_option maxRecDepth 100000 in
theorem pOK_195 : pOK pm_195 = true := by decide +kernel
set_option maxRecDepth 100000 in
theorem pOK_196 : pOK pm_196 = true := by decide +kernel
set_option maxRecDepth 100000 in
theorem pOK_197 : pOK pm_197 = true := by decide +kernel
set_option maxRecDepth 100000 in
theorem pOK_198 : pOK pm_198 = true := by decide +kernel
set_option maxRecDepth 100000 in
theorem pOK_199 : pOK pm_199 = true := by decide +kernel
set_option maxRecDepth 100000 in
theorem pOK_200 : pOK pm_200 = true := by decide +kernel
set_option maxRecDepth 100000 in
theorem pOK_201 : pOK pm_201 = true := by decide +kernel
set_option maxRecDepth 100000 in
theorem pOK_202 : pOK pm_202 = true := by decide +kernel
set_option maxRecDepth 100000 in
theorem pOK_203 : pOK pm_203 = true := by decide +kernel
set_option maxRecDepth 100000 in
theorem pOK_204 : pOK pm_204 = true := by decide +kernel
set_option maxRecDepth 100000 in
theorem pOK_205 : pOK pm_205 = true := by decide +kernel
set_option maxRecDepth 100000 in
theorem pOK_206 : pOK pm_206 = true := by decide +kernel
set_option maxRecDepth 100000 in
theorem pOK_207 : pOK pm_207 = true := by decide +kernel
set_option maxRecDepth 100000 in
theorem pOK_208 : pOK pm_208 = true := by decide +kernel
set_option maxRecDepth 100000 in
theorem pOK_209 : pOK pm_209 = true := by decide +kernel
set_option maxRecDepth 100000 in
theorem pOK_210 : pOK pm_210 = true := by decide +kernel
set_option maxRecDepth 100000 in
theorem pOK_211 : pOK pm_211 = true := by decide +kernel
set_option maxRecDepth 100000 in
theorem pOK_212 : pOK pm_212 = true := by decide +kernel
set_option maxRecDepth 100000 in
theorem pOK_213 : pOK pm_213 = true := by decide +kernel
set_option maxRecDepth 100000 in
theorem pOK_214 : pOK pm_214 = true := by decide +kernel
set_option maxRecDepth 100000 in
theorem pOK_215 : pOK pm_215 = true := by decide +kernel
set_option maxRecDepth 100000 in
theorem pOK_216 : pOK pm_216 = true := by decide +kernel
set_option maxRecDepth 100000 in
theorem pOK_217 : pOK pm_217 = true := by decide +kernel
set_option maxRecDepth 100000 in
theorem pOK_218 : pOK pm_218 = true := by decide +kernel
set_option maxRecDepth 100000 in
theorem pOK_219 : pOK pm_219 = true := by decide +kernel
set_option maxRecDepth 100000 in
theorem pOK_220 : pOK pm_220 = true := by decide +kernel
set_option maxRecDepth 100000 in
theorem pOK_221 : pOK pm_221 = true := by decide +kernel
set_option maxRecDepth 100000 in
theorem pOK_222 : pOK pm_222 = true := by decide +kernel
set_option maxRecDepth 100000 in
theorem pOK_223 : pOK pm_223 = true := by decide +kernel
set_option maxRecDepth 100000 in
theorem pOK_224 : pOK pm_224 = true := by decide +kernel
set_option maxRecDepth 100000 in
theorem pOK_225 : pOK pm_225 = true := by decide +kernel
set_option maxRecDepth 100000 in
theorem pOK_226 : pOK pm_226 = true := by decide +kernel
set_option maxRecDepth 100000 in
theorem pOK_227 : pOK pm_227 = true := by decide +kernel
set_option maxRecDepth 100000 in
theorem pOK_228 : pOK pm_228 = true := by decide +kernel
set_option maxRecDepth 100000 in
theorem pOK_229 : pOK pm_229 = true := by decide +kernel
set_option maxRecDepth 100000 in
theorem pOK_230 : pOK pm_230 = true := by decide +kernel
set_option maxRecDepth 100000 in
theorem pOK_231 : pOK pm_231 = true := by decide +kernel
set_option maxRecDepth 100000 in
theorem pOK_232 : pOK pm_232 = true := by decide +kernel
set_option maxRecDepth 100000 in
theorem pOK_233 : pOK pm_233 = true := by decide +kernel
set_option maxRecDepth 100000 in
theorem pOK_234 : pOK pm_234 = true := by decide +kernel
set_option maxRecDepth 100000 in
theorem pOK_235 : pOK pm_235 = true := by decide +kernel
set_option maxRecDepth 100000 in
theorem pOK_236 : pOK pm_236 = true := by decide +kernel
set_option maxRecDepth 100000 in
theorem pOK_237 : pOK pm_237 = true := by decide +kernel
set_option maxRecDepth 100000 in
theorem pOK_238 : pOK pm_238 = true := by decide +kernel
set_option maxRecDepth 100000 in
theorem pOK_239 : pOK pm_239 = true := by decide +kernel
set_option maxRecDepth 100000 in
theorem pOK_240 : pOK pm_240 = true := by decide +kernel
set_option maxRecDepth 100000 in
theorem pOK_241 : pOK pm_241 = true := by decide +kernel
set_option maxRecDepth 100000 in
theorem pOK_242 : pOK pm_242 = true := by decide +kernel
set_option maxRecDepth 100000 in
theorem pOK_243 : pOK pm_243 = true := by decide +kernel
set_option maxRecDepth 100000 in
theorem pOK_244 : pOK pm_244 = true := by decide +kernel
set_option maxRecDepth 100000 in
theorem pOK_245 : pOK pm_245 = true := by decide +kernel
set_option maxRecDepth 100000 in
theorem pOK_246 : pOK pm_246 = true := by decide +kernel
set_option maxRecDepth 100000 in
theorem pOK_247 : pOK pm_247 = true := by decide +kernel
set_option maxRecDepth 100000 in
theorem pOK_248 : pOK pm_248 = true := by decide +kernel
set_option maxRecDepth 100000 in
theorem pOK_249 : pOK pm_249 = true := by decide +kernel
set_option maxRecDepth 100000 in
theorem pOK_250 : pOK pm_250 = true := by decide +kernel
set_option maxRecDepth 100000 in
theorem pOK_251 : pOK pm_251 = true := by decide +kernel
set_option maxRecDepth 100000 in
theorem pOK_252 : pOK pm_252 = true := by decide +kernel
set_option maxRecDepth 100000 in
theorem pOK_253 : pOK pm_253 = true := by decide +kernel
set_option maxRecDepth 100000 in
theorem pOK_254 : pOK pm_254 = true := by decide +kernel
set_option maxRecDepth 100000 in
theorem pOK_255 : pOK pm_255 = true := by decide +kernel
set_option maxRecDepth 100000 in
theorem pOK_256 : pOK pm_256 = true := by decide +kernel
set_option maxRecDepth 100000 in
theorem pOK_257 : pOK pm_257 = true := by decide +kernel
set_option maxRecDepth 100000 in
theorem pOK_258 : pOK pm_258 = true := by decide +kernel
set_option maxRecDepth 100000 in
theorem pOK_259 : pOK pm_259 = true := by decide +kernel
set_option maxRecDepth 100000 in
theorem pOK_260 : pOK pm_260 = true := by decide +kernel
set_option maxRecDepth 100000 in
theorem pOK_261 : pOK pm_261 = true := by decide +kernel
set_option maxRecDepth 100000 in
theorem pOK_262 : pOK pm_262 = true := by decide +kernel
set_option maxRecDepth 100000 in
theorem pOK_263 : pOK pm_263 = true := by decide +kernel
set_option maxRecDepth 100000 in
theorem pOK_264 : pOK pm_264 = true := by decide +kernel
set_option maxRecDepth 100000 in
theorem pOK_265 : pOK pm_265 = true := by decide +kernel
set_option maxRecDepth 100000 in
theorem pOK_266 : pOK pm_266 = true := by decide +kernel
set_option maxRecDepth 100000 in
theorem pOK_267 : pOK pm_267 = true := by decide +kernel
set_option maxRecDepth 100000 in
theorem pOK_268 : pOK pm_268 = true := by decide +kernel
set_option maxRecDepth 100000 in
theorem pOK_269 : pOK pm_269 = true := by decide +kernel
set_option maxRecDepth 100000 in
theorem pOK_270 : pOK pm_270 = true := by decide +kernel
set_option maxRecDepth 100000 in
theorem pOK_271 : pOK pm_271 = true := by decide +kernel
set_option maxRecDepth 100000 in
theorem pOK_272 : pOK pm_272 = true := by decide +kernel
set_option maxRecDepth 100000 in
theorem pOK_273 : pOK pm_273 = true := by decide +kernel
set_option maxRecDepth 100000 in
theorem pOK_274 : pOK pm_274 = true := by decide +kernel
set_option maxRecDepth 100000 in
theorem pOK_275 : pOK pm_275 = true := by decide +kernel
set_option maxRecDepth 100000 in
theorem pOK_276 : pOK pm_276 = true := by decide +kernel
set_option maxRecDepth 100000 in
theorem pOK_277 : pOK pm_277 = true := by decide +kernel
set_option maxRecDepth 100000 in
theorem pOK_278 : pOK pm_278 = true := by decide +kernel
set_option maxRecDepth 100000 in
theorem pOK_279 : pOK pm_279 = true := by decide +kernel
set_option maxRecDepth 100000 in
theorem pOK_280 : pOK pm_280 = true := by decide +kernel
set_option maxRecDepth 100000 in
theorem pOK_281 : pOK pm_281 = true := by decide +kernel
set_option maxRecDepth 100000 in
theorem pOK_282 : pOK pm_282 = true := by decide +kernel
set_option maxRecDepth 100000 in
theorem pOK_283 : pOK pm_283 = true := by decide +kernel
set_option maxRecDepth 100000 in
theorem pOK_284 : pOK pm_284 = true := by decide +kernel
set_option maxRecDepth 100000 in
theorem pOK_285 : pOK pm_285 = true := by decide +kernel
set_option maxRecDepth 100000 in
theorem pOK_286 : pOK pm_286 = true := by decide +kernel
set_option maxRecDepth 100000 in
theorem pOK_287 : pOK pm_287 = true := by decide +kernel
set_option maxRecDepth 100000 in
theorem pOK_288 : pOK pm_288 = true := by decide +kernel
set_option maxRecDepth 100000 in
theorem pOK_289 : pOK pm_289 = true := by decide +kernel
set_option maxRecDepth 100000 in
theorem pOK_290 : pOK pm_290 = true := by decide +kernel
set_option maxRecDepth 100000 in
theorem pOK_291 : pOK pm_291 = true := by decide +kernel
set_option maxRecDepth 100000 in
theorem pOK_292 : pOK pm_292 = true := by decide +kernel
set_option maxRecDepth 100000 in
theorem pOK_293 : pOK pm_293 = true := by decide +kernel
set_option maxRecDepth 100000 in
theorem pOK_294 : pOK pm_294 = true := by decide +kernel
set_option maxRecDepth 100000 in
theorem pOK_295 : pOK pm_295 = true := by decide +kernel
set_option maxRecDepth 100000 in
theorem pOK_296 : pOK pm_296 = true := by decide +kernel
set_option maxRecDepth 100000 in
theorem pOK_297 : pOK pm_297 = true := by decide +kernel
set_option maxRecDepth 100000 in
theorem pOK_298 : pOK pm_298 = true := by decide +kernel
set_option maxRecDepth 100000 in
theorem pOK_299 : pOK pm_299 = true := by decide +kernel
set_option maxRecDepth 100000 in
theorem pOK_300 : pOK pm_300 = true := by decide +kernel
set_option maxRecDepth 100000 in
theorem pOK_301 : pOK pm_301 = true := by decide +kernel
set_option maxRecDepth 100000 in
theorem pOK_302 : pOK pm_302 = true := by decide +kernel
set_option maxRecDepth 100000 in
theorem pOK_303 : pOK pm_303 = true := by decide +kernel
set_option maxRecDepth 100000 in
theorem pOK_304 : pOK pm_304 = true := by decide +kernel
set_option maxRecDepth 100000 in
theorem pOK_305 : pOK pm_305 = true := by decide +kernel
set_option maxRecDepth 100000 in
theorem pOK_306 : pOK pm_306 = true := by decide +kernel
set_option maxRecDepth 100000 in
theorem pOK_307 : pOK pm_307 = true := by decide +kernel
set_option maxRecDepth 100000 in
theorem pOK_308 : pOK pm_308 = true := by decide +kernel
set_option maxRecDepth 100000 in
theorem pOK_309 : pOK pm_309 = true := by decide +kernel
set_option maxRecDepth 100000 in
theorem pOK_310 : pOK pm_310 = true := by decide +kernel
set_option maxRecDepth 100000 in
theorem pOK_311 : pOK pm_311 = true := by decide +kernel
set_option maxRecDepth 100000 in
theorem pOK_312 : pOK pm_312 = true := by decide +kernel
set_option maxRecDepth 100000 in
theorem pOK_313 : pOK pm_313 = true := by decide +kernel
set_option maxRecDepth 100000 in
theorem pOK_314 : pOK pm_314 = true := by decide +kernel
set_option maxRecDepth 100000 in
theorem pOK_315 : pOK pm_315 = true := by decide +kernel
set_option maxRecDepth 100000 in
theorem pOK_316 : pOK pm_316 = true := by decide +kernel
set_option maxRecDepth 100000 in
theorem pOK_317 : pOK pm_317 = true := by decide +kernel
set_option maxRecDepth 100000 in
theorem pOK_318 : pOK pm_318 = true := by decide +kernel
set_option maxRecDepth 100000 in
theorem pOK_319 : pOK pm_319 = true := by decide +kernel
set_option maxRecDepth 100000 in
theorem pOK_320 : pOK pm_320 = true := by decide +kernel
set_option maxRecDepth 100000 in
theorem pOK_321 : pOK pm_321 = true := by decide +kernel
set_option maxRecDepth 100000 in
theorem pOK_322 : pOK pm_322 = true := by decide +kernel
set_option maxRecDepth 100000 in
theorem pOK_323 : pOK pm_323 = true := by decide +kernel
set_option maxRecDepth 100000 in
theorem pOK_324 : pOK pm_324 = true := by decide +kernel
set_option maxRecDepth 100000 in
theorem pOK_325 : pOK pm_325 = true := by decide +kernel
set_option maxRecDepth 100000 in
theorem pOK_326 : pOK pm_326 = true := by decide +kernel
set_option maxRecDepth 100000 in
theorem pOK_327 : pOK pm_327 = true := by decide +kernel
set_option maxRecDepth 100000 in
theorem pOK_328 : pOK pm_328 = true := by decide +kernel
set_option maxRecDepth 100000 in
theorem pOK_329 : pOK pm_329 = true := by decide +kernel
set_option maxRecDepth 100000 in
theorem pOK_330 : pOK pm_330 = true := by decide +kernel
set_option maxRecDepth 100000 in
theorem pOK_331 : pOK pm_331 = true := by decide +kernel

/-! ===== calls, and the whole of it ===== -/
def mthOk (j : Nat) : Bool :=
  decide (lw_tbl[(MR j).2.2.2.2.2.2.2.2.1]? = some (.initialized (Y j).cls)) &&
  decide (plainName (Y j).cls = true) && decide ((Y j).cls ≠ "java/lang/invoke/MethodHandle" ∧ (Y j).cls ≠ "java/lang/invoke/VarHandle" ∧ (parseMethodDescriptor (Y j).desc).map (fun d => d.parameters.length) = some (MR j).2.2.2.2.2.1) &&
  decide ((MR j).2.2.1 ≤ 20) && decide ((Y j).cls = RR (MR j).2.2.2.2.1) &&
  decide ((MR j).2.2.2.1 = none ∨ (MR j).2.2.2.1 = some .int ∨ (MR j).2.2.2.1 = some .boolean) &&
  (match (MR j).2.2.2.2.2.2.1 with
  | 0 => decide (lw_tbl[(MR j).2.2.2.2.2.2.2.2.2.1]? = some (.static (Y j)))
  | 1 => decide ((MR j).2.2.2.2.1 < 11 ∧ (CL.getD (MR j).2.2.2.2.1 ("", T_0, 0)).1 = (Y j).cls) && decide (lw_tbl[(MR j).2.2.2.2.2.2.2.2.2.1]? = some (.instanceMethod (Y j))) && decide (lw_tbl[(MR j).2.2.2.2.2.2.2.2.2.2]? = some (.selects (Y j).cls (Y j) (Y j)))
  | _ => decide ((Y j).name = "<init>" ∧ (MR j).2.2.2.1 = none) && decide (lw_tbl[(MR j).2.2.2.2.2.2.2.2.2.1]? = some (.instanceMethod (Y j))))
set_option maxRecDepth 100000 in
set_option maxHeartbeats 0 in
theorem mth_r0 : (List.range 184).all mthOk = true := by decide +kernel
theorem mth_all {j : Nat} (h : j + 1 < nM) : mthOk j = true := List.all_eq_true.mp mth_r0 j (List.mem_range.mpr (by have h : j + 1 < 185 := h; omega))
def cdOk (j : Nat) : Prop := Cond.code (Y j) (MR j).2.1 (MR j).2.2.1 (MR j).2.2.2.1 ∈ lw_tbl
set_option maxRecDepth 100000 in
theorem cd_0 : cdOk 0 := List.mem_of_getElem? (i := 215) rfl
set_option maxRecDepth 100000 in
theorem cd_1 : cdOk 1 := List.mem_of_getElem? (i := 208) rfl
set_option maxRecDepth 100000 in
theorem cd_2 : cdOk 2 := List.mem_of_getElem? (i := 503) rfl
set_option maxRecDepth 100000 in
theorem cd_3 : cdOk 3 := List.mem_of_getElem? (i := 562) rfl
set_option maxRecDepth 100000 in
theorem cd_4 : cdOk 4 := List.mem_of_getElem? (i := 599) rfl
set_option maxRecDepth 100000 in
theorem cd_5 : cdOk 5 := List.mem_of_getElem? (i := 317) rfl
set_option maxRecDepth 100000 in
theorem cd_6 : cdOk 6 := List.mem_of_getElem? (i := 797) rfl
set_option maxRecDepth 100000 in
theorem cd_7 : cdOk 7 := List.mem_of_getElem? (i := 819) rfl
set_option maxRecDepth 100000 in
theorem cd_8 : cdOk 8 := List.mem_of_getElem? (i := 800) rfl
set_option maxRecDepth 100000 in
theorem cd_9 : cdOk 9 := List.mem_of_getElem? (i := 805) rfl
set_option maxRecDepth 100000 in
theorem cd_10 : cdOk 10 := List.mem_of_getElem? (i := 809) rfl
set_option maxRecDepth 100000 in
theorem cd_11 : cdOk 11 := List.mem_of_getElem? (i := 88) rfl
set_option maxRecDepth 100000 in
theorem cd_12 : cdOk 12 := List.mem_of_getElem? (i := 450) rfl
set_option maxRecDepth 100000 in
theorem cd_13 : cdOk 13 := List.mem_of_getElem? (i := 484) rfl
set_option maxRecDepth 100000 in
theorem cd_14 : cdOk 14 := List.mem_of_getElem? (i := 493) rfl
set_option maxRecDepth 100000 in
theorem cd_15 : cdOk 15 := List.mem_of_getElem? (i := 498) rfl
set_option maxRecDepth 100000 in
theorem cd_16 : cdOk 16 := List.mem_of_getElem? (i := 519) rfl
set_option maxRecDepth 100000 in
theorem cd_17 : cdOk 17 := List.mem_of_getElem? (i := 515) rfl
set_option maxRecDepth 100000 in
theorem cd_18 : cdOk 18 := List.mem_of_getElem? (i := 523) rfl
set_option maxRecDepth 100000 in
theorem cd_19 : cdOk 19 := List.mem_of_getElem? (i := 632) rfl
set_option maxRecDepth 100000 in
theorem cd_20 : cdOk 20 := List.mem_of_getElem? (i := 548) rfl
set_option maxRecDepth 100000 in
theorem cd_21 : cdOk 21 := List.mem_of_getElem? (i := 540) rfl
set_option maxRecDepth 100000 in
theorem cd_22 : cdOk 22 := List.mem_of_getElem? (i := 536) rfl
set_option maxRecDepth 100000 in
theorem cd_23 : cdOk 23 := List.mem_of_getElem? (i := 532) rfl
set_option maxRecDepth 100000 in
theorem cd_24 : cdOk 24 := List.mem_of_getElem? (i := 528) rfl
set_option maxRecDepth 100000 in
theorem cd_25 : cdOk 25 := List.mem_of_getElem? (i := 579) rfl
set_option maxRecDepth 100000 in
theorem cd_26 : cdOk 26 := List.mem_of_getElem? (i := 575) rfl
set_option maxRecDepth 100000 in
theorem cd_27 : cdOk 27 := List.mem_of_getElem? (i := 571) rfl
set_option maxRecDepth 100000 in
theorem cd_28 : cdOk 28 := List.mem_of_getElem? (i := 587) rfl
set_option maxRecDepth 100000 in
theorem cd_29 : cdOk 29 := List.mem_of_getElem? (i := 716) rfl
set_option maxRecDepth 100000 in
theorem cd_30 : cdOk 30 := List.mem_of_getElem? (i := 721) rfl
set_option maxRecDepth 100000 in
theorem cd_31 : cdOk 31 := List.mem_of_getElem? (i := 730) rfl
set_option maxRecDepth 100000 in
theorem cd_32 : cdOk 32 := List.mem_of_getElem? (i := 738) rfl
set_option maxRecDepth 100000 in
theorem cd_33 : cdOk 33 := List.mem_of_getElem? (i := 742) rfl
set_option maxRecDepth 100000 in
theorem cd_34 : cdOk 34 := List.mem_of_getElem? (i := 251) rfl
set_option maxRecDepth 100000 in
theorem cd_35 : cdOk 35 := List.mem_of_getElem? (i := 627) rfl
set_option maxRecDepth 100000 in
theorem cd_36 : cdOk 36 := List.mem_of_getElem? (i := 664) rfl
set_option maxRecDepth 100000 in
theorem cd_37 : cdOk 37 := List.mem_of_getElem? (i := 669) rfl
set_option maxRecDepth 100000 in
theorem cd_38 : cdOk 38 := List.mem_of_getElem? (i := 636) rfl
set_option maxRecDepth 100000 in
theorem cd_39 : cdOk 39 := List.mem_of_getElem? (i := 646) rfl
set_option maxRecDepth 100000 in
theorem cd_40 : cdOk 40 := List.mem_of_getElem? (i := 658) rfl
set_option maxRecDepth 100000 in
theorem cd_41 : cdOk 41 := List.mem_of_getElem? (i := 650) rfl
set_option maxRecDepth 100000 in
theorem cd_42 : cdOk 42 := List.mem_of_getElem? (i := 329) rfl
set_option maxRecDepth 100000 in
theorem cd_43 : cdOk 43 := List.mem_of_getElem? (i := 399) rfl
set_option maxRecDepth 100000 in
theorem cd_44 : cdOk 44 := List.mem_of_getElem? (i := 414) rfl
set_option maxRecDepth 100000 in
theorem cd_45 : cdOk 45 := List.mem_of_getElem? (i := 422) rfl
set_option maxRecDepth 100000 in
theorem cd_46 : cdOk 46 := List.mem_of_getElem? (i := 284) rfl
set_option maxRecDepth 100000 in
theorem cd_47 : cdOk 47 := List.mem_of_getElem? (i := 677) rfl
set_option maxRecDepth 100000 in
theorem cd_48 : cdOk 48 := List.mem_of_getElem? (i := 707) rfl
set_option maxRecDepth 100000 in
theorem cd_49 : cdOk 49 := List.mem_of_getElem? (i := 680) rfl
set_option maxRecDepth 100000 in
theorem cd_50 : cdOk 50 := List.mem_of_getElem? (i := 685) rfl
set_option maxRecDepth 100000 in
theorem cd_51 : cdOk 51 := List.mem_of_getElem? (i := 689) rfl
set_option maxRecDepth 100000 in
theorem cd_52 : cdOk 52 := List.mem_of_getElem? (i := 699) rfl
set_option maxRecDepth 100000 in
theorem cd_53 : cdOk 53 := List.mem_of_getElem? (i := 703) rfl
set_option maxRecDepth 100000 in
theorem cd_54 : cdOk 54 := List.mem_of_getElem? (i := 180) rfl
set_option maxRecDepth 100000 in
theorem cd_55 : cdOk 55 := List.mem_of_getElem? (i := 437) rfl
set_option maxRecDepth 100000 in
theorem cd_56 : cdOk 56 := List.mem_of_getElem? (i := 446) rfl
set_option maxRecDepth 100000 in
theorem cd_57 : cdOk 57 := List.mem_of_getElem? (i := 454) rfl
set_option maxRecDepth 100000 in
theorem cd_58 : cdOk 58 := List.mem_of_getElem? (i := 477) rfl
set_option maxRecDepth 100000 in
theorem cd_59 : cdOk 59 := List.mem_of_getElem? (i := 489) rfl
set_option maxRecDepth 100000 in
theorem cd_60 : cdOk 60 := List.mem_of_getElem? (i := 458) rfl
set_option maxRecDepth 100000 in
theorem cd_61 : cdOk 61 := List.mem_of_getElem? (i := 470) rfl
set_option maxRecDepth 100000 in
theorem cd_62 : cdOk 62 := List.mem_of_getElem? (i := 462) rfl
set_option maxRecDepth 100000 in
theorem cd_63 : cdOk 63 := List.mem_of_getElem? (i := 466) rfl
set_option maxRecDepth 100000 in
theorem cd_64 : cdOk 64 := List.mem_of_getElem? (i := 473) rfl
set_option maxRecDepth 100000 in
theorem cd_65 : cdOk 65 := List.mem_of_getElem? (i := 480) rfl
set_option maxRecDepth 100000 in
theorem cd_66 : cdOk 66 := List.mem_of_getElem? (i := 301) rfl
set_option maxRecDepth 100000 in
theorem cd_67 : cdOk 67 := List.mem_of_getElem? (i := 753) rfl
set_option maxRecDepth 100000 in
theorem cd_68 : cdOk 68 := List.mem_of_getElem? (i := 760) rfl
set_option maxRecDepth 100000 in
theorem cd_69 : cdOk 69 := List.mem_of_getElem? (i := 765) rfl
set_option maxRecDepth 100000 in
theorem cd_70 : cdOk 70 := List.mem_of_getElem? (i := 78) rfl
set_option maxRecDepth 100000 in
theorem cd_71 : cdOk 71 := List.mem_of_getElem? (i := 386) rfl
set_option maxRecDepth 100000 in
theorem cd_72 : cdOk 72 := List.mem_of_getElem? (i := 410) rfl
set_option maxRecDepth 100000 in
theorem cd_73 : cdOk 73 := List.mem_of_getElem? (i := 418) rfl
set_option maxRecDepth 100000 in
theorem cd_74 : cdOk 74 := List.mem_of_getElem? (i := 429) rfl
set_option maxRecDepth 100000 in
theorem cd_75 : cdOk 75 := List.mem_of_getElem? (i := 389) rfl
set_option maxRecDepth 100000 in
theorem cd_76 : cdOk 76 := List.mem_of_getElem? (i := 394) rfl
set_option maxRecDepth 100000 in
theorem cd_77 : cdOk 77 := List.mem_of_getElem? (i := 406) rfl
set_option maxRecDepth 100000 in
theorem cd_78 : cdOk 78 := List.mem_of_getElem? (i := 433) rfl
set_option maxRecDepth 100000 in
theorem cd_79 : cdOk 79 := List.mem_of_getElem? (i := 442) rfl
set_option maxRecDepth 100000 in
theorem cd_80 : cdOk 80 := List.mem_of_getElem? (i := 507) rfl
set_option maxRecDepth 100000 in
theorem cd_81 : cdOk 81 := List.mem_of_getElem? (i := 511) rfl
set_option maxRecDepth 100000 in
theorem cd_82 : cdOk 82 := List.mem_of_getElem? (i := 583) rfl
set_option maxRecDepth 100000 in
theorem cd_83 : cdOk 83 := List.mem_of_getElem? (i := 591) rfl
set_option maxRecDepth 100000 in
theorem cd_84 : cdOk 84 := List.mem_of_getElem? (i := 595) rfl
set_option maxRecDepth 100000 in
theorem cd_85 : cdOk 85 := List.mem_of_getElem? (i := 604) rfl
set_option maxRecDepth 100000 in
theorem cd_86 : cdOk 86 := List.mem_of_getElem? (i := 609) rfl
set_option maxRecDepth 100000 in
theorem cd_87 : cdOk 87 := List.mem_of_getElem? (i := 613) rfl
set_option maxRecDepth 100000 in
theorem cd_88 : cdOk 88 := List.mem_of_getElem? (i := 617) rfl
set_option maxRecDepth 100000 in
theorem cd_89 : cdOk 89 := List.mem_of_getElem? (i := 623) rfl
set_option maxRecDepth 100000 in
theorem cd_90 : cdOk 90 := List.mem_of_getElem? (i := 673) rfl
set_option maxRecDepth 100000 in
theorem cd_91 : cdOk 91 := List.mem_of_getElem? (i := 712) rfl
set_option maxRecDepth 100000 in
theorem cd_92 : cdOk 92 := List.mem_of_getElem? (i := 726) rfl
set_option maxRecDepth 100000 in
theorem cd_93 : cdOk 93 := List.mem_of_getElem? (i := 734) rfl
set_option maxRecDepth 100000 in
theorem cd_94 : cdOk 94 := List.mem_of_getElem? (i := 749) rfl
set_option maxRecDepth 100000 in
theorem cd_95 : cdOk 95 := List.mem_of_getElem? (i := 772) rfl
set_option maxRecDepth 100000 in
theorem cd_96 : cdOk 96 := List.mem_of_getElem? (i := 776) rfl
set_option maxRecDepth 100000 in
theorem cd_97 : cdOk 97 := List.mem_of_getElem? (i := 780) rfl
set_option maxRecDepth 100000 in
theorem cd_98 : cdOk 98 := List.mem_of_getElem? (i := 784) rfl
set_option maxRecDepth 100000 in
theorem cd_99 : cdOk 99 := List.mem_of_getElem? (i := 789) rfl
set_option maxRecDepth 100000 in
theorem cd_100 : cdOk 100 := List.mem_of_getElem? (i := 815) rfl
set_option maxRecDepth 100000 in
theorem cd_101 : cdOk 101 := List.mem_of_getElem? (i := 824) rfl
set_option maxRecDepth 100000 in
theorem cd_102 : cdOk 102 := List.mem_of_getElem? (i := 833) rfl
set_option maxRecDepth 100000 in
theorem cd_103 : cdOk 103 := List.mem_of_getElem? (i := 828) rfl
set_option maxRecDepth 100000 in
theorem cd_104 : cdOk 104 := List.mem_of_getElem? (i := 745) rfl
set_option maxRecDepth 100000 in
theorem cd_105 : cdOk 105 := List.mem_of_getElem? (i := 544) rfl
set_option maxRecDepth 100000 in
theorem cd_106 : cdOk 106 := List.mem_of_getElem? (i := 554) rfl
set_option maxRecDepth 100000 in
theorem cd_107 : cdOk 107 := List.mem_of_getElem? (i := 551) rfl
set_option maxRecDepth 100000 in
theorem cd_108 : cdOk 108 := List.mem_of_getElem? (i := 838) rfl
set_option maxRecDepth 100000 in
theorem cd_109 : cdOk 109 := List.mem_of_getElem? (i := 846) rfl
set_option maxRecDepth 100000 in
theorem cd_110 : cdOk 110 := List.mem_of_getElem? (i := 1066) rfl
set_option maxRecDepth 100000 in
theorem cd_111 : cdOk 111 := List.mem_of_getElem? (i := 1021) rfl
set_option maxRecDepth 100000 in
theorem cd_112 : cdOk 112 := List.mem_of_getElem? (i := 1017) rfl
set_option maxRecDepth 100000 in
theorem cd_113 : cdOk 113 := List.mem_of_getElem? (i := 939) rfl
set_option maxRecDepth 100000 in
theorem cd_114 : cdOk 114 := List.mem_of_getElem? (i := 944) rfl
set_option maxRecDepth 100000 in
theorem cd_115 : cdOk 115 := List.mem_of_getElem? (i := 936) rfl
set_option maxRecDepth 100000 in
theorem cd_116 : cdOk 116 := List.mem_of_getElem? (i := 949) rfl
set_option maxRecDepth 100000 in
theorem cd_117 : cdOk 117 := List.mem_of_getElem? (i := 956) rfl
set_option maxRecDepth 100000 in
theorem cd_118 : cdOk 118 := List.mem_of_getElem? (i := 953) rfl
set_option maxRecDepth 100000 in
theorem cd_119 : cdOk 119 := List.mem_of_getElem? (i := 960) rfl
set_option maxRecDepth 100000 in
theorem cd_120 : cdOk 120 := List.mem_of_getElem? (i := 964) rfl
set_option maxRecDepth 100000 in
theorem cd_121 : cdOk 121 := List.mem_of_getElem? (i := 985) rfl
set_option maxRecDepth 100000 in
theorem cd_122 : cdOk 122 := List.mem_of_getElem? (i := 981) rfl
set_option maxRecDepth 100000 in
theorem cd_123 : cdOk 123 := List.mem_of_getElem? (i := 989) rfl
set_option maxRecDepth 100000 in
theorem cd_124 : cdOk 124 := List.mem_of_getElem? (i := 993) rfl
set_option maxRecDepth 100000 in
theorem cd_125 : cdOk 125 := List.mem_of_getElem? (i := 997) rfl
set_option maxRecDepth 100000 in
theorem cd_126 : cdOk 126 := List.mem_of_getElem? (i := 843) rfl
set_option maxRecDepth 100000 in
theorem cd_127 : cdOk 127 := List.mem_of_getElem? (i := 977) rfl
set_option maxRecDepth 100000 in
theorem cd_128 : cdOk 128 := List.mem_of_getElem? (i := 1004) rfl
set_option maxRecDepth 100000 in
theorem cd_129 : cdOk 129 := List.mem_of_getElem? (i := 1001) rfl
set_option maxRecDepth 100000 in
theorem cd_130 : cdOk 130 := List.mem_of_getElem? (i := 973) rfl
set_option maxRecDepth 100000 in
theorem cd_131 : cdOk 131 := List.mem_of_getElem? (i := 969) rfl
set_option maxRecDepth 100000 in
theorem cd_132 : cdOk 132 := List.mem_of_getElem? (i := 1009) rfl
set_option maxRecDepth 100000 in
theorem cd_133 : cdOk 133 := List.mem_of_getElem? (i := 1037) rfl
set_option maxRecDepth 100000 in
theorem cd_134 : cdOk 134 := List.mem_of_getElem? (i := 1041) rfl
set_option maxRecDepth 100000 in
theorem cd_135 : cdOk 135 := List.mem_of_getElem? (i := 1033) rfl
set_option maxRecDepth 100000 in
theorem cd_136 : cdOk 136 := List.mem_of_getElem? (i := 1029) rfl
set_option maxRecDepth 100000 in
theorem cd_137 : cdOk 137 := List.mem_of_getElem? (i := 1046) rfl
set_option maxRecDepth 100000 in
theorem cd_138 : cdOk 138 := List.mem_of_getElem? (i := 1025) rfl
set_option maxRecDepth 100000 in
theorem cd_139 : cdOk 139 := List.mem_of_getElem? (i := 1050) rfl
set_option maxRecDepth 100000 in
theorem cd_140 : cdOk 140 := List.mem_of_getElem? (i := 1058) rfl
set_option maxRecDepth 100000 in
theorem cd_141 : cdOk 141 := List.mem_of_getElem? (i := 1013) rfl
set_option maxRecDepth 100000 in
theorem cd_142 : cdOk 142 := List.mem_of_getElem? (i := 1054) rfl
set_option maxRecDepth 100000 in
theorem cd_143 : cdOk 143 := List.mem_of_getElem? (i := 1062) rfl
set_option maxRecDepth 100000 in
theorem cd_144 : cdOk 144 := List.mem_of_getElem? (i := 1070) rfl
set_option maxRecDepth 100000 in
theorem cd_145 : cdOk 145 := List.mem_of_getElem? (i := 1074) rfl
set_option maxRecDepth 100000 in
theorem cd_146 : cdOk 146 := List.mem_of_getElem? (i := 1079) rfl
set_option maxRecDepth 100000 in
theorem cd_147 : cdOk 147 := List.mem_of_getElem? (i := 1087) rfl
set_option maxRecDepth 100000 in
theorem cd_148 : cdOk 148 := List.mem_of_getElem? (i := 1083) rfl
set_option maxRecDepth 100000 in
theorem cd_149 : cdOk 149 := List.mem_of_getElem? (i := 1091) rfl
set_option maxRecDepth 100000 in
theorem cd_150 : cdOk 150 := List.mem_of_getElem? (i := 1107) rfl
set_option maxRecDepth 100000 in
theorem cd_151 : cdOk 151 := List.mem_of_getElem? (i := 1111) rfl
set_option maxRecDepth 100000 in
theorem cd_152 : cdOk 152 := List.mem_of_getElem? (i := 1103) rfl
set_option maxRecDepth 100000 in
theorem cd_153 : cdOk 153 := List.mem_of_getElem? (i := 1115) rfl
set_option maxRecDepth 100000 in
theorem cd_154 : cdOk 154 := List.mem_of_getElem? (i := 1099) rfl
set_option maxRecDepth 100000 in
theorem cd_155 : cdOk 155 := List.mem_of_getElem? (i := 1095) rfl
set_option maxRecDepth 100000 in
theorem cd_156 : cdOk 156 := List.mem_of_getElem? (i := 1123) rfl
set_option maxRecDepth 100000 in
theorem cd_157 : cdOk 157 := List.mem_of_getElem? (i := 1119) rfl
set_option maxRecDepth 100000 in
theorem cd_158 : cdOk 158 := List.mem_of_getElem? (i := 1130) rfl
set_option maxRecDepth 100000 in
theorem cd_159 : cdOk 159 := List.mem_of_getElem? (i := 1127) rfl
set_option maxRecDepth 100000 in
theorem cd_160 : cdOk 160 := List.mem_of_getElem? (i := 1134) rfl
set_option maxRecDepth 100000 in
theorem cd_161 : cdOk 161 := List.mem_of_getElem? (i := 1138) rfl
set_option maxRecDepth 100000 in
theorem cd_162 : cdOk 162 := List.mem_of_getElem? (i := 1146) rfl
set_option maxRecDepth 100000 in
theorem cd_163 : cdOk 163 := List.mem_of_getElem? (i := 1142) rfl
set_option maxRecDepth 100000 in
theorem cd_164 : cdOk 164 := List.mem_of_getElem? (i := 1150) rfl
set_option maxRecDepth 100000 in
theorem cd_165 : cdOk 165 := List.mem_of_getElem? (i := 1154) rfl
set_option maxRecDepth 100000 in
theorem cd_166 : cdOk 166 := List.mem_of_getElem? (i := 1158) rfl
set_option maxRecDepth 100000 in
theorem cd_167 : cdOk 167 := List.mem_of_getElem? (i := 1162) rfl
set_option maxRecDepth 100000 in
theorem cd_168 : cdOk 168 := List.mem_of_getElem? (i := 1178) rfl
set_option maxRecDepth 100000 in
theorem cd_169 : cdOk 169 := List.mem_of_getElem? (i := 1186) rfl
set_option maxRecDepth 100000 in
theorem cd_170 : cdOk 170 := List.mem_of_getElem? (i := 1202) rfl
set_option maxRecDepth 100000 in
theorem cd_171 : cdOk 171 := List.mem_of_getElem? (i := 1198) rfl
set_option maxRecDepth 100000 in
theorem cd_172 : cdOk 172 := List.mem_of_getElem? (i := 1182) rfl
set_option maxRecDepth 100000 in
theorem cd_173 : cdOk 173 := List.mem_of_getElem? (i := 1194) rfl
set_option maxRecDepth 100000 in
theorem cd_174 : cdOk 174 := List.mem_of_getElem? (i := 1190) rfl
set_option maxRecDepth 100000 in
theorem cd_175 : cdOk 175 := List.mem_of_getElem? (i := 1174) rfl
set_option maxRecDepth 100000 in
theorem cd_176 : cdOk 176 := List.mem_of_getElem? (i := 1170) rfl
set_option maxRecDepth 100000 in
theorem cd_177 : cdOk 177 := List.mem_of_getElem? (i := 1206) rfl
set_option maxRecDepth 100000 in
theorem cd_178 : cdOk 178 := List.mem_of_getElem? (i := 1166) rfl
set_option maxRecDepth 100000 in
theorem cd_179 : cdOk 179 := List.mem_of_getElem? (i := 1210) rfl
set_option maxRecDepth 100000 in
theorem cd_180 : cdOk 180 := List.mem_of_getElem? (i := 1214) rfl
set_option maxRecDepth 100000 in
theorem cd_181 : cdOk 181 := List.mem_of_getElem? (i := 1218) rfl
set_option maxRecDepth 100000 in
theorem cd_182 : cdOk 182 := List.mem_of_getElem? (i := 639) rfl
set_option maxRecDepth 100000 in
theorem cd_183 : cdOk 183 := List.mem_of_getElem? (i := 402) rfl
theorem cdc_0 : ∀ j, j < 16 → cdOk (0 + j)
  | 0, _ => cd_0
  | 1, _ => cd_1
  | 2, _ => cd_2
  | 3, _ => cd_3
  | 4, _ => cd_4
  | 5, _ => cd_5
  | 6, _ => cd_6
  | 7, _ => cd_7
  | 8, _ => cd_8
  | 9, _ => cd_9
  | 10, _ => cd_10
  | 11, _ => cd_11
  | 12, _ => cd_12
  | 13, _ => cd_13
  | 14, _ => cd_14
  | 15, _ => cd_15
  | j + 16, h => absurd h (by omega)
theorem cdc_16 : ∀ j, j < 16 → cdOk (16 + j)
  | 0, _ => cd_16
  | 1, _ => cd_17
  | 2, _ => cd_18
  | 3, _ => cd_19
  | 4, _ => cd_20
  | 5, _ => cd_21
  | 6, _ => cd_22
  | 7, _ => cd_23
  | 8, _ => cd_24
  | 9, _ => cd_25
  | 10, _ => cd_26
  | 11, _ => cd_27
  | 12, _ => cd_28
  | 13, _ => cd_29
  | 14, _ => cd_30
  | 15, _ => cd_31
  | j + 16, h => absurd h (by omega)
theorem cdc_32 : ∀ j, j < 16 → cdOk (32 + j)
  | 0, _ => cd_32
  | 1, _ => cd_33
  | 2, _ => cd_34
  | 3, _ => cd_35
  | 4, _ => cd_36
  | 5, _ => cd_37
  | 6, _ => cd_38
  | 7, _ => cd_39
  | 8, _ => cd_40
  | 9, _ => cd_41
  | 10, _ => cd_42
  | 11, _ => cd_43
  | 12, _ => cd_44
  | 13, _ => cd_45
  | 14, _ => cd_46
  | 15, _ => cd_47
  | j + 16, h => absurd h (by omega)
theorem cdc_48 : ∀ j, j < 16 → cdOk (48 + j)
  | 0, _ => cd_48
  | 1, _ => cd_49
  | 2, _ => cd_50
  | 3, _ => cd_51
  | 4, _ => cd_52
  | 5, _ => cd_53
  | 6, _ => cd_54
  | 7, _ => cd_55
  | 8, _ => cd_56
  | 9, _ => cd_57
  | 10, _ => cd_58
  | 11, _ => cd_59
  | 12, _ => cd_60
  | 13, _ => cd_61
  | 14, _ => cd_62
  | 15, _ => cd_63
  | j + 16, h => absurd h (by omega)
theorem cdc_64 : ∀ j, j < 16 → cdOk (64 + j)
  | 0, _ => cd_64
  | 1, _ => cd_65
  | 2, _ => cd_66
  | 3, _ => cd_67
  | 4, _ => cd_68
  | 5, _ => cd_69
  | 6, _ => cd_70
  | 7, _ => cd_71
  | 8, _ => cd_72
  | 9, _ => cd_73
  | 10, _ => cd_74
  | 11, _ => cd_75
  | 12, _ => cd_76
  | 13, _ => cd_77
  | 14, _ => cd_78
  | 15, _ => cd_79
  | j + 16, h => absurd h (by omega)
theorem cdc_80 : ∀ j, j < 16 → cdOk (80 + j)
  | 0, _ => cd_80
  | 1, _ => cd_81
  | 2, _ => cd_82
  | 3, _ => cd_83
  | 4, _ => cd_84
  | 5, _ => cd_85
  | 6, _ => cd_86
  | 7, _ => cd_87
  | 8, _ => cd_88
  | 9, _ => cd_89
  | 10, _ => cd_90
  | 11, _ => cd_91
  | 12, _ => cd_92
  | 13, _ => cd_93
  | 14, _ => cd_94
  | 15, _ => cd_95
  | j + 16, h => absurd h (by omega)
theorem cdc_96 : ∀ j, j < 16 → cdOk (96 + j)
  | 0, _ => cd_96
  | 1, _ => cd_97
  | 2, _ => cd_98
  | 3, _ => cd_99
  | 4, _ => cd_100
  | 5, _ => cd_101
  | 6, _ => cd_102
  | 7, _ => cd_103
  | 8, _ => cd_104
  | 9, _ => cd_105
  | 10, _ => cd_106
  | 11, _ => cd_107
  | 12, _ => cd_108
  | 13, _ => cd_109
  | 14, _ => cd_110
  | 15, _ => cd_111
  | j + 16, h => absurd h (by omega)
theorem cdc_112 : ∀ j, j < 16 → cdOk (112 + j)
  | 0, _ => cd_112
  | 1, _ => cd_113
  | 2, _ => cd_114
  | 3, _ => cd_115
  | 4, _ => cd_116
  | 5, _ => cd_117
  | 6, _ => cd_118
  | 7, _ => cd_119
  | 8, _ => cd_120
  | 9, _ => cd_121
  | 10, _ => cd_122
  | 11, _ => cd_123
  | 12, _ => cd_124
  | 13, _ => cd_125
  | 14, _ => cd_126
  | 15, _ => cd_127
  | j + 16, h => absurd h (by omega)
theorem cdc_128 : ∀ j, j < 16 → cdOk (128 + j)
  | 0, _ => cd_128
  | 1, _ => cd_129
  | 2, _ => cd_130
  | 3, _ => cd_131
  | 4, _ => cd_132
  | 5, _ => cd_133
  | 6, _ => cd_134
  | 7, _ => cd_135
  | 8, _ => cd_136
  | 9, _ => cd_137
  | 10, _ => cd_138
  | 11, _ => cd_139
  | 12, _ => cd_140
  | 13, _ => cd_141
  | 14, _ => cd_142
  | 15, _ => cd_143
  | j + 16, h => absurd h (by omega)
theorem cdc_144 : ∀ j, j < 16 → cdOk (144 + j)
  | 0, _ => cd_144
  | 1, _ => cd_145
  | 2, _ => cd_146
  | 3, _ => cd_147
  | 4, _ => cd_148
  | 5, _ => cd_149
  | 6, _ => cd_150
  | 7, _ => cd_151
  | 8, _ => cd_152
  | 9, _ => cd_153
  | 10, _ => cd_154
  | 11, _ => cd_155
  | 12, _ => cd_156
  | 13, _ => cd_157
  | 14, _ => cd_158
  | 15, _ => cd_159
  | j + 16, h => absurd h (by omega)
theorem cdc_160 : ∀ j, j < 16 → cdOk (160 + j)
  | 0, _ => cd_160
  | 1, _ => cd_161
  | 2, _ => cd_162
  | 3, _ => cd_163
  | 4, _ => cd_164
  | 5, _ => cd_165
  | 6, _ => cd_166
  | 7, _ => cd_167
  | 8, _ => cd_168
  | 9, _ => cd_169
  | 10, _ => cd_170
  | 11, _ => cd_171
  | 12, _ => cd_172
  | 13, _ => cd_173
  | 14, _ => cd_174
  | 15, _ => cd_175
  | j + 16, h => absurd h (by omega)
theorem cdc_176 : ∀ j, j < 8 → cdOk (176 + j)
  | 0, _ => cd_176
  | 1, _ => cd_177
  | 2, _ => cd_178
  | 3, _ => cd_179
  | 4, _ => cd_180
  | 5, _ => cd_181
  | 6, _ => cd_182
  | 7, _ => cd_183
  | j + 8, h => absurd h (by omega)
theorem cd_all {j : Nat} (h : j + 1 < nM) : cdOk j := by
  have h : j + 1 < 185 := h
  by_cases h0 : j < 16
  · have := cdc_0 (j - 0) (by omega)
    rwa [show 0 + (j - 0) = j by omega] at this
  by_cases h16 : j < 32
  · have := cdc_16 (j - 16) (by omega)
    rwa [show 16 + (j - 16) = j by omega] at this
  by_cases h32 : j < 48
  · have := cdc_32 (j - 32) (by omega)
    rwa [show 32 + (j - 32) = j by omega] at this
  by_cases h48 : j < 64
  · have := cdc_48 (j - 48) (by omega)
    rwa [show 48 + (j - 48) = j by omega] at this
  by_cases h64 : j < 80
  · have := cdc_64 (j - 64) (by omega)
    rwa [show 64 + (j - 64) = j by omega] at this
  by_cases h80 : j < 96
  · have := cdc_80 (j - 80) (by omega)
    rwa [show 80 + (j - 80) = j by omega] at this
  by_cases h96 : j < 112
  · have := cdc_96 (j - 96) (by omega)
    rwa [show 96 + (j - 96) = j by omega] at this
  by_cases h112 : j < 128
  · have := cdc_112 (j - 112) (by omega)
    rwa [show 112 + (j - 112) = j by omega] at this
  by_cases h128 : j < 144
  · have := cdc_128 (j - 128) (by omega)
    rwa [show 128 + (j - 128) = j by omega] at this
  by_cases h144 : j < 160
  · have := cdc_144 (j - 144) (by omega)
    rwa [show 144 + (j - 144) = j by omega] at this
  by_cases h160 : j < 176
  · have := cdc_160 (j - 160) (by omega)
    rwa [show 160 + (j - 160) = j by omega] at this
  by_cases h176 : j < 184
  · have := cdc_176 (j - 176) (by omega)
    rwa [show 176 + (j - 176) = j by omega] at this
  omega
def wsM (j : Nat) : List Cond := .code (Y j) (MR j).2.1 (MR j).2.2.1 (MR j).2.2.2.1 :: lw_gd
def PcM (B : Nat) (ro : Nat → Nat) (cA dC : Nat → ClassId) (dI : Nat → Nat → Nat) (σ : List Sh) (x : RO) (as : List AV) (I : MI) (J : MJ) : Array Value → State → Prop := fun v U =>
  v = (as.map (cv B ro)).toArray ∧ va_K (dC, dI) CL (tysL cA) U ∧ RoW B ro x U U.heap ∧ NwW U ∧ va_P (dC, dI) CL (wsW B cA σ I J) U.heap
def QcM (B : Nat) (ro : Nat → Nat) (cA dC : Nat → ClassId) (dI : Nat → Nat → Nat) (σ : List Sh) (Q : QT) : Array Value → State → Outcome → State → Prop := fun _ st o t =>
  (∃ r I' J', o = .returned (r.map (cv B ro)) ∧ Q r I' J' ∧ va_P (dC, dI) CL (wsW B cA σ I' J') t.heap) ∧ va_F (fun q => B ≤ q) st t
def rmD (d : Nat) : Room := { frames := d, cells := 0, slots := 0, locals := 40 * d }
def MetM (l : Launch) (B : Nat) (ro : Nat → Nat) (cA dC : Nat → ClassId) (dI : Nat → Nat → Nat) (σ : List Sh) (x : RO) (d j : Nat) (as : List AV) (I : MI) (J : MJ) (Q : QT) : Prop :=
  Met l (Y j) (wsM j) (rmD d) (PcM B ro cA dC dI σ x as I J) (QcM B ro cA dC dI σ Q) 0 0 (fun q => B ≤ q)
theorem PcM_blind {B : Nat} {ro : Nat → Nat} {cA dC : Nat → ClassId} {dI : Nat → Nat → Nat} {σ : List Sh} {x : RO} {as : List AV} {I : MI} {J : MJ} : FrameBlind (PcM B ro cA dC dI σ x as I J) := by
  intro a U g mk q
  obtain ⟨h1, h2, h3, h5, h4⟩ := q
  exact ⟨h1, va_K.moved (u := U) (U := U.calling g mk a) (Vm.Alike.refl U.vm) h2, RoW.moved (u := U) (U := U.calling g mk a) (Vm.Alike.refl U.vm) h3, NwW.same (s := U) (U := U.calling g mk a) rfl h5, h4⟩
theorem mOk_of {o ps j n nest idx : Nat} {nc : Int} (h : mOk o ps j n nest idx nc = true) : j + 1 < nM ∧ n = (MR j).2.2.2.2.2.1 ∧ ((nc = 0 ∧ Cond.methodLink (RR o) idx (Y j) ∈ lw_gd) ∨ (¬ nc = 0 ∧ nest = 0 ∧ Cond.methodLinkNest (RR o) idx (Y j) "HedgeGate" ∈ lw_tbl)) := by
  unfold mOk at h
  simp only [Bool.and_eq_true, decide_eq_true_eq] at h
  obtain ⟨⟨⟨h1, h2⟩, h3⟩, h4⟩ := h
  refine ⟨h1, h2, ?_⟩
  split at h3
  · rename_i e
    exact Or.inl ⟨e, mem_gd (List.mem_of_getElem? (of_decide_eq_true h3)) rfl⟩
  · rename_i e
    exact Or.inr ⟨e, h4.resolve_right e, List.mem_of_getElem? (of_decide_eq_true h3)⟩
theorem mth_of {j : Nat} (h : j + 1 < nM) : Cond.code (Y j) (MR j).2.1 (MR j).2.2.1 (MR j).2.2.2.1 ∈ lw_tbl ∧ Cond.initialized (Y j).cls ∈ lw_gd ∧ plainName (Y j).cls = true ∧ ((Y j).cls ≠ "java/lang/invoke/MethodHandle" ∧ (Y j).cls ≠ "java/lang/invoke/VarHandle" ∧ (parseMethodDescriptor (Y j).desc).map (fun d => d.parameters.length) = some (MR j).2.2.2.2.2.1) ∧ (MR j).2.2.1 ≤ 20 ∧ (Y j).cls = RR (MR j).2.2.2.2.1 ∧ ((MR j).2.2.2.1 = none ∨ (MR j).2.2.2.1 = some .int ∨ (MR j).2.2.2.1 = some .boolean) ∧
    ((MR j).2.2.2.2.2.2.1 = 0 → Cond.static (Y j) ∈ lw_gd) ∧ ((MR j).2.2.2.2.2.2.1 = 1 → ((MR j).2.2.2.2.1 < 11 ∧ (CL.getD (MR j).2.2.2.2.1 ("", T_0, 0)).1 = (Y j).cls) ∧ Cond.instanceMethod (Y j) ∈ lw_gd ∧ Cond.selects (Y j).cls (Y j) (Y j) ∈ lw_gd) ∧
    ((MR j).2.2.2.2.2.2.1 = 2 → ((Y j).name = "<init>" ∧ (MR j).2.2.2.1 = none) ∧ Cond.instanceMethod (Y j) ∈ lw_gd) := by
  have hk := mth_all h
  unfold mthOk at hk
  simp only [Bool.and_eq_true, decide_eq_true_eq] at hk
  obtain ⟨⟨⟨⟨⟨⟨h2, h3⟩, h4⟩, h5⟩, h6⟩, h7⟩, h8⟩ := hk
  refine ⟨cd_all h, mem_gd (List.mem_of_getElem? h2) rfl, h3, h4, h5, h6, h7, fun e => ?_, fun e => ?_, fun e => ?_⟩
  · rw [e] at h8
    exact mem_gd (List.mem_of_getElem? (of_decide_eq_true h8)) rfl
  · rw [e] at h8
    simp only [Bool.and_eq_true, decide_eq_true_eq] at h8
    exact ⟨h8.1.1, mem_gd (List.mem_of_getElem? h8.1.2) rfl, mem_gd (List.mem_of_getElem? h8.2) rfl⟩
  · rw [e] at h8
    simp only [Bool.and_eq_true, decide_eq_true_eq] at h8
    exact ⟨h8.1, mem_gd (List.mem_of_getElem? h8.2) rfl⟩
theorem good_all : ∀ w ∈ lw_gd, w ∈ lw_gd ∧ ((w.onTables && w.keeps) = true ∨ ∃ ty, w = .arrayClass ty) := fun w h => ⟨h, good_of_word (List.mem_filter.mp h).2⟩
theorem good_ws {j : Nat} (h : j + 1 < nM) : GoodIn lw_gd (wsM j) := by
  intro w hw
  rcases List.mem_cons.mp hw with rfl | hw
  · exact good_all _ (mem_gd (mth_of h).1 rfl)
  · exact good_all w hw
section RUL
variable {l : Launch} {B : Nat} {ro : Nat → Nat} {cA dC : Nat → ClassId} {dI : Nat → Nat → Nat} {σ : List Sh} {x : RO} {d M : Nat} {Q : QT}
variable {p : Program} {e : Env} {R : Room} {s : State} {m : MethodId} {args : Array Value} {below : List Frame} {meth : Method} {c : Code} {H : Heap} {locs : List Loc} {cells slots : Nat} {Z : State → Prop} {lsr : Array Slot}
variable {pc : Nat} {ls : LsT} {st : List AV} {I : MI} {J : MJ} {k : KT} {nx i j ps len : Nat} {c0 : Int} {ins : Instr}
theorem callK {st0 rest : List Value} {a : Array Value} {Q2 : QT} (hr : va_Run p l e R s m args below meth c H locs cells slots 0 0 (F0 m pc lsr st0) rest (QcM B ro cA dC dI σ Q2 a) (fun q => B ≤ q)) (D : Wd B cA dC dI σ I J s H locs)
    (kk : ∀ r I' J' H' locs', Q2 r I' J' → Wd B cA dC dI σ I' J' s H' locs' → W p l e R s m args below meth c H' locs' cells slots Z (F0 m (pc + 3) lsr ((r.map (cv B ro)).toList ++ rest))) : W p l e R s m args below meth c H locs cells slots Z (F0 m pc lsr st0) := by
  intro T hT X
  obtain ⟨v, st₀, t, T', L, h0, X', hL, e1, e2, ⟨⟨r, I', J', hv, hq, hP⟩, hz, hk⟩, st⟩ := hr T hT X
  have hv2 := Outcome.returned.inj hv
  subst hv2
  rw [h0] at hz hk
  obtain ⟨t2, a1, b1⟩ := kk r I' J' T'.heap (locs ++ L) hq ⟨by rw [e1]; exact hP, Nat.le_trans D.2.1 (by rw [e1]; exact hz), fun q h1 h2 => by rw [e1, hk q (Nat.lt_of_lt_of_le h1 D.2.1) h2]; exact D.2.2.1 q h1 h2, fun q hq => by
      rcases List.mem_append.mp hq with h | h
      · exact D.2.2.2 q h
      · exact hL q h⟩ T' rfl X'
  exact ⟨t2, st t2 a1, b1⟩
theorem preB (C : Cx B ro cA dC dI x d M p R s m args meth c cells slots) (D : Wd B cA dC dI σ I J s H locs) (as : List AV) : ∀ U : State, U.heap = H → s.WarmedH U.vm → PcM B ro cA dC dI σ x as I J (as.map (cv B ro)).toArray U := fun U hU hW =>
  ⟨rfl, va_K.moved hW.alike C.2.2.2.2.2.2.2.2.2.2.2.1, by rw [hU]; exact (C.2.2.2.2.2.2.2.2.2.2.2.2.1.kept D.2.2.1).moved hW.alike, C.2.2.2.2.2.2.2.2.2.2.2.2.2.warm hW, by rw [hU]; exact D.1⟩
theorem resK {r : Option AV} {st : List AV} : (r.toList ++ st).map (cv B ro) = (r.map (cv B ro)).toList ++ st.map (cv B ro) := by
  cases r <;> rfl

theorem s_52 (C : Cx B ro cA dC dI x d M p R s m args meth c cells slots) (L : LoR B ro lsr (MR M).2.2.1 ls) (D : Wd B cA dC dI σ I J s H locs) (rt : Rt l B cA dC dI σ M Q p e R s m args below meth c cells slots Z) (w : WfS σ) (IH : ∀ j as I J Q, Ex σ x d j as I J Q → MetM l B ro cA dC dI σ x d j as I J Q)
    (hd : decode (MR M).2.1 pc = .ok (ins, len)) (hc : chk1 M pc (52, nx, i, j, c0) ps ins len = true)
    (go : ∀ pc' ls' st' I' J' H' locs' lsr', k pc' ls' st' I' J' → LoR B ro lsr' (MR M).2.2.1 ls' → Wd B cA dC dI σ I' J' s H' locs' → W p l e R s m args below meth c H' locs' cells slots Z (F0 m pc' lsr' (st'.map (cv B ro))))
    (h : wp1 (Ex σ x d) σ x (52, nx, i, j, c0) pc ls st I J k Q) : W p l e R s m args below meth c H locs cells slots Z (F0 m pc lsr (st.map (cv B ro))) := by
  simp only [chk1, Bool.and_eq_true, decide_eq_true_eq] at hc
  obtain ⟨rfl, hc⟩ := hc
  simp only [wp1] at h
  split at hc
  · rename_i q
    simp only [Bool.and_eq_true, decide_eq_true_eq] at hc
    obtain ⟨⟨rfl, hm⟩, hkd⟩ := hc
    obtain ⟨hj, hnp, hlk⟩ := mOk_of hm
    obtain ⟨m1, m2, m3, m4, m5, m6, m7, m8, -, -⟩ := mth_of hj
    obtain ⟨hcat, hlen, h⟩ := h
    have hM := IH _ _ _ _ _ h
    have hfr : (rmD d).frames + 1 ≤ R.frames := C.2.2.2.2.2.2.2.1
    have hlo : 8 + ((MR i).2.2.1 + 11) + (rmD d).locals ≤ R.locals := by
      have h1 := C.2.2.2.2.2.2.2.2.1
      have h2 : (rmD d).locals = 40 * d := rfl
      omega
    have hst : st.map (cv B ro) = (((st.take j).reverse).map (cv B ro)).reverse ++ (st.drop j).map (cv B ro) := by
      rw [← List.map_reverse, List.reverse_reverse, ← List.map_append, List.take_append_drop]
    have hn : (((st.take j).reverse).map (cv B ro)).length = j := by
      rw [List.length_map, List.length_reverse, List.length_take]; omega
    have hf : cells + 0 ≤ R.cells ∧ slots + 0 ≤ R.slots := ⟨C.2.2.2.2.2.2.2.2.2.1, C.2.2.2.2.2.2.2.2.2.2.1⟩
    have hroom : 2 * (F0 m pc lsr (st.map (cv B ro))).monitorRoom + (((st.drop j).map (cv B ro)).map fun v => v.category).sum ≤ 8 := lv_room (by rw [catS_cv]; exact hcat)
    have hpre : PreS s H (PcM B ro cA dC dI σ x (st.take j).reverse I J) ((st.take j).reverse.map (cv B ro)) := ⟨PcM_blind, preB C D _⟩
    rcases hlk with ⟨-, hlk⟩ | ⟨-, -, hlk⟩
    · refine callK (va_runS (As := ((st.take j).reverse).map (cv B ro)) ⟨C.1, C.2.1, C.2.2.2.1, C.2.2.2.2.1, C.2.2.2.2.2.1⟩ hM ⟨callB_of j C.2.2.2.2.2.1 (good_ws hj) rfl rfl rfl (C.2.2.2.2.2.1 _ m2) (C.2.2.2.2.2.1 _ hlk) (hnp ▸ m4) ⟨hfr, hlo⟩, C.2.2.2.2.2.1 _ (m8 hkd)⟩ hpre rfl hn L.1 hst hroom hd hf) D (fun r I' J' H' locs' hq D' => ?_)
      have h2 := go _ _ _ _ _ _ _ _ hq L D'
      rw [resK] at h2
      exact h2
    · refine callK (va_runSN (As := ((st.take j).reverse).map (cv B ro)) ⟨C.1, C.2.1, C.2.2.2.1, C.2.2.2.2.1, C.2.2.2.2.2.1⟩ hM ⟨va_cnB j C.2.2.2.2.2.1 (good_ws hj) rfl rfl rfl (C.2.2.2.2.2.2.2.2.2.2.2.2.2.1 _ hlk rfl) (C.2.2.2.2.2.1 _ m2) (hnp ▸ m4) ⟨hfr, hlo⟩, C.2.2.2.2.2.1 _ (m8 hkd), trivial⟩ hpre rfl hn L.1 hst hroom hd hf) D (fun r I' J' H' locs' hq D' => ?_)
      have h2 := go _ _ _ _ _ _ _ _ hq L D'
      rw [resK] at h2
      exact h2
  · cases hc

theorem s_53 (C : Cx B ro cA dC dI x d M p R s m args meth c cells slots) (L : LoR B ro lsr (MR M).2.2.1 ls) (D : Wd B cA dC dI σ I J s H locs) (rt : Rt l B cA dC dI σ M Q p e R s m args below meth c cells slots Z) (w : WfS σ) (IH : ∀ j as I J Q, Ex σ x d j as I J Q → MetM l B ro cA dC dI σ x d j as I J Q)
    (hd : decode (MR M).2.1 pc = .ok (ins, len)) (hc : chk1 M pc (53, nx, i, j, c0) ps ins len = true)
    (go : ∀ pc' ls' st' I' J' H' locs' lsr', k pc' ls' st' I' J' → LoR B ro lsr' (MR M).2.2.1 ls' → Wd B cA dC dI σ I' J' s H' locs' → W p l e R s m args below meth c H' locs' cells slots Z (F0 m pc' lsr' (st'.map (cv B ro))))
    (h : wp1 (Ex σ x d) σ x (53, nx, i, j, c0) pc ls st I J k Q) : W p l e R s m args below meth c H locs cells slots Z (F0 m pc lsr (st.map (cv B ro))) := by
  simp only [chk1, Bool.and_eq_true, decide_eq_true_eq] at hc
  obtain ⟨rfl, hc⟩ := hc
  simp only [wp1] at h
  split at hc
  · rename_i q
    simp only [Bool.and_eq_true, decide_eq_true_eq] at hc
    obtain ⟨⟨rfl, hm⟩, hkd⟩ := hc
    obtain ⟨hj, hnp, hlk⟩ := mOk_of hm
    obtain ⟨m1, m2, m3, m4, m5, m6, m7, -, m8, -⟩ := mth_of hj
    obtain ⟨⟨hc11, hcn⟩, mi, ms⟩ := m8 hkd
    obtain ⟨hcat, h⟩ := h
    split at h
    · rename_i r hr
      obtain ⟨hcl, h⟩ := h
      have hM := IH _ _ _ _ _ h
      have hfr : (rmD d).frames + 1 ≤ R.frames := C.2.2.2.2.2.2.2.1
      have hlo : 8 + ((MR i).2.2.1 + 11) + (rmD d).locals ≤ R.locals := by
        have h1 := C.2.2.2.2.2.2.2.2.1
        have h2 : (rmD d).locals = 40 * d := rfl
        omega
      have hlt : j < st.length := (List.getElem?_eq_some_iff.mp hr).1
      have hst0 : st = st.take j ++ (.inr (.inr (.inl r)) : AV) :: st.drop (j + 1) := by
        have e1 : st[j] = (.inr (.inr (.inl r)) : AV) := (List.getElem?_eq_some_iff.mp hr).2
        rw [← e1, ← List.drop_eq_getElem_cons hlt, List.take_append_drop]
      have hst : st.map (cv B ro) = (((st.take j).reverse).map (cv B ro)).reverse ++ .ref (B + r) :: (st.drop (j + 1)).map (cv B ro) := by
        rw [← List.map_reverse, List.reverse_reverse]
        have := congrArg (List.map (cv B ro)) hst0
        rw [List.map_append] at this
        exact this
      have hn : (((st.take j).reverse).map (cv B ro)).length = j := by
        rw [List.length_map, List.length_reverse, List.length_take]; omega
      have hf : cells + 0 ≤ R.cells ∧ slots + 0 ≤ R.slots := ⟨C.2.2.2.2.2.2.2.2.2.1, C.2.2.2.2.2.2.2.2.2.2.1⟩
      have hroom : 2 * (F0 m pc lsr (st.map (cv B ro))).monitorRoom + (((st.drop (j + 1)).map (cv B ro)).map fun v => v.category).sum ≤ 8 := lv_room (by rw [catS_cv]; exact hcat)
      obtain ⟨fs, hs, -, -⟩ := wf_obj w hcl hc11
      obtain ⟨Cn, T, N, e1, e2, -⟩ := cls_all hc11
      have hcn2 : Cn = (Y i).cls := by rw [← hcn, e2]
      subst hcn2
      have hrec := va_recv (q0 := r) C.2.2.2.2.2.2.2.2.2.2.2.1 D.1 e1 (wsW_at hs)
      rcases hlk with ⟨-, hlk⟩ | ⟨-, hnest, -⟩
      · refine callK (va_runV (As := ((st.take j).reverse).map (cv B ro)) ⟨C.1, C.2.1, C.2.2.2.1, C.2.2.2.2.1, C.2.2.2.2.2.1⟩ hM ⟨callB_of j C.2.2.2.2.2.1 (good_ws hj) rfl rfl rfl (C.2.2.2.2.2.1 _ m2) (C.2.2.2.2.2.1 _ hlk) (hnp ▸ m4) ⟨hfr, hlo⟩, C.2.2.2.2.2.1 _ mi, C.2.2.2.2.2.1 _ ms⟩ ⟨PcM_blind, hrec, preB C D _⟩ rfl hn L.1 hst hroom hd hf) D (fun r I' J' H' locs' hq D' => ?_)
        have h2 := go _ _ _ _ _ _ _ _ hq L D'
        rw [resK] at h2
        exact h2
      · exact absurd hnest (by decide)
    · cases h
  · cases hc

theorem cod_of {a : AIns} (hM : M < nM) (h : cod M pc = some a) : ∃ ps ins len, decode (MR M).2.1 pc = .ok (ins, len) ∧ chk1 M pc a ps ins len = true := by
  unfold cod at h
  cases hf : (PG M).find? (fun r => r.1 == pc) with
  | none => rw [hf] at h; cases h
  | some r =>
    rw [hf] at h
    have ha : r.2.1 = a := Option.some.inj h
    have hm := List.mem_of_find?_eq_some hf
    have hp : r.1 = pc := by have := List.find?_some hf; simpa using this
    have hk := List.all_eq_true.mp (chk_all hM) r hm
    unfold chkR at hk
    rw [hp, ha] at hk
    split at hk
    · rename_i ins len e
      exact ⟨_, ins, len, e, hk⟩
    · cases hk
set_option maxHeartbeats 4000000 in
theorem sem_step {a : AIns} (w : WfS σ) (hro : ∀ t, t < 4 → ∀ z : Int, z < (roA x t).1 → z < 2147483648) (hM : M < nM) (IH : ∀ j as I J Q, Ex σ x d j as I J Q → MetM l B ro cA dC dI σ x d j as I J Q)
    (hcod : cod M pc = some a) (hS : ∀ pc ls st I J, k pc ls st I J → Sem l B ro cA dC dI σ x d M Q pc ls st I J) (h : wp1 (Ex σ x d) σ x a pc ls st I J k Q) : Sem l B ro cA dC dI σ x d M Q pc ls st I J := by
  intro p e R s m args below meth c H locs cells slots Z lsr C L D rt
  obtain ⟨ps, ins, len, hd, hc⟩ := cod_of hM hcod
  obtain ⟨op, nx, i, j, c0⟩ := a
  have go : ∀ pc' ls' st' I' J' H' locs' lsr', k pc' ls' st' I' J' → LoR B ro lsr' (MR M).2.2.1 ls' → Wd B cA dC dI σ I' J' s H' locs' → W p l e R s m args below meth c H' locs' cells slots Z (F0 m pc' lsr' (st'.map (cv B ro))) :=
    fun pc' ls' st' I' J' H' locs' lsr' hk L' D' => hS _ _ _ _ _ hk p e R s m args below meth c H' locs' cells slots Z lsr' C L' D' rt
  match op, hc, h with
  | 0, hc, h => exact s_0 C L D rt hd hc go h
  | 1, hc, h => exact s_1 C L D rt hd hc go h
  | 2, hc, h => exact s_2 C L D rt hd hc go h
  | 3, hc, h => exact s_3 C L D rt hd hc go h
  | 4, hc, h => exact s_4 C L D rt hd hc go h
  | 5, hc, h => exact s_5 C L D rt hd hc go h
  | 6, hc, h => exact s_6 C L D rt hd hc go h
  | 7, hc, h => exact s_7 C L D rt hd hc go h
  | 8, hc, h => exact s_8 C L D rt hd hc go h
  | 9, hc, h => exact s_9 C L D rt hd hc go h
  | 10, hc, h => exact s_10 C L D rt hd hc go h
  | 11, hc, h => exact s_11 C L D rt hd hc go h
  | 12, hc, h => exact s_12 C L D rt hd hc go h
  | 13, hc, h => exact s_13 C L D rt hd hc go h
  | 14, hc, h => exact s_14 C L D rt hd hc go h
  | 15, hc, h => exact s_15 C L D rt hd hc go h
  | 16, hc, h => exact s_16 C L D rt hd hc go h
  | 17, hc, h => exact s_17 C L D rt hd hc go h
  | 18, hc, h => exact s_18 C L D rt hd hc go h
  | 19, hc, h => exact s_19 C L D rt hd hc go h
  | 20, hc, h => exact s_20 C L D rt hd hc go h
  | 21, hc, h => exact s_21 C L D rt hd hc go h
  | 22, hc, h => exact s_22 C L D rt hd hc go h
  | 23, hc, h => exact s_23 C L D rt hd hc go h
  | 24, hc, h => exact s_24 C L D rt hd hc go h
  | 25, hc, h => exact s_25 C L D rt hd hc go h
  | 26, hc, h => exact s_26 C L D rt hd hc go h
  | 27, hc, h => exact s_27 C L D rt hd hc go h
  | 28, hc, h => exact s_28 C L D rt hd hc go h
  | 29, hc, h => exact s_29 C L D rt hd hc go h
  | 30, hc, h => exact s_30 C L D rt hd hc go h
  | 31, hc, h => exact s_31 C L D rt hd hc go h
  | 32, hc, h => exact s_32 C L D rt hd hc go h
  | 33, hc, h => exact s_33 C L D rt hd hc go h
  | 34, hc, h => exact s_34 C L D rt hd hc go h
  | 35, hc, h => exact s_35 C L D rt hd hc go h
  | 36, hc, h => exact s_36 C L D rt hd hc go h
  | 37, hc, h => exact s_37 C L D rt w hd hc go h
  | 38, hc, h => exact s_38 C L D rt w hd hc go h
  | 39, hc, h => exact s_39 C L D rt w hd hc go h
  | 40, hc, h => exact s_40 C L D rt w hd hc go h
  | 41, hc, h => exact s_41 C L D rt w hd hc go h
  | 42, hc, h => exact s_42 C L D rt w hd hc go h
  | 43, hc, h => exact s_43 C L D rt hd hc go h
  | 44, hc, h => exact s_44 C L D rt w hro hd hc go h
  | 45, hc, h => exact s_45 C L D rt w hd hc go h
  | 46, hc, h => exact s_46 C L D rt w hd hc go h
  | 47, hc, h => exact s_47 C L D rt w hd hc go h
  | 48, hc, h => exact s_48 C L D rt w hd hc go h
  | 49, hc, h => exact s_49 C L D rt w hd hc go h
  | 50, hc, h => exact s_50 C L D rt w hd hc go h
  | 51, hc, h => exact s_51 C L D rt w hd hc go h
  | 52, hc, h => exact s_52 C L D rt w IH hd hc go h
  | 53, hc, h => exact s_53 C L D rt w IH hd hc go h
  | 54, hc, h => exact s_54 C L D rt w hd hc go h
  | 55, hc, h => exact s_55 C L D rt hd hc go h
  | 56, hc, h => exact s_56 C L D rt hd hc go h
  | 57, hc, h => exact s_57 C L D rt hd hc go h
  | 58, hc, h => exact h.elim
  | 59, hc, h => exact h.elim
  | 60, hc, h => exact h.elim
  | 61, hc, h => exact h.elim
  | 62, hc, h => exact h.elim
  | 63, hc, h => exact h.elim
  | 64, hc, h => exact h.elim
  | 65, hc, h => exact s_65 C L D rt hd hc go h
  | 66, hc, h => exact s_66 C L D rt hd hc go h
  | op + 67, hc, h => exact h.elim
theorem go_sound (w : WfS σ) (hro : ∀ t, t < 4 → ∀ z : Int, z < (roA x t).1 → z < 2147483648) (hM : M < nM) (IH : ∀ j as I J Q, Ex σ x d j as I J Q → MetM l B ro cA dC dI σ x d j as I J Q)
    (h : GoE (Ex σ x d) σ x M Q pc ls st I J) : Sem l B ro cA dC dI σ x d M Q pc ls st I J :=
  h (Sem l B ro cA dC dI σ x d M Q) (fun _ _ _ _ _ _ _ hcod hk hw => sem_step w hro hM IH hcod hk hw)
theorem args_in : ∀ (as : List AV) (o i : Nat) (v : AV), as.all isC1 = true → as[i]? = some v → (o + i, cv B ro v) ∈ lv_args o (as.map (cv B ro))
  | [], o, i, v, _, h => by simp at h
  | a :: as, o, i, v, hc, h => by
    simp only [List.all_cons, Bool.and_eq_true] at hc
    have hcat : ¬ (cv B ro a).category = 2 := by
      intro z
      obtain ⟨w, rfl⟩ := cv_cat z
      exact absurd hc.1 (by simp [isC1])
    rw [List.map_cons, lv_args, if_neg hcat]
    cases i with
    | zero =>
      rw [List.getElem?_cons_zero] at h
      cases h
      exact List.mem_cons_self
    | succ i =>
      rw [List.getElem?_cons_succ] at h
      have := args_in as (o + 1) i v hc.2 h
      rw [show o + (i + 1) = o + 1 + i by omega]
      exact List.mem_cons_of_mem _ this
theorem sl_len : ∀ (as : List AV), as.all isC1 = true → (lg_sl (as.map (cv B ro))).length = as.length
  | [], _ => rfl
  | a :: as, hc => by
    simp only [List.all_cons, Bool.and_eq_true] at hc
    have hcat : ¬ (cv B ro a).category = 2 := by
      intro z
      obtain ⟨w, rfl⟩ := cv_cat z
      exact absurd hc.1 (by simp [isC1])
    have ih := sl_len as hc.2
    unfold lg_sl at ih ⊢
    rw [List.map_cons, List.flatMap_cons, if_neg hcat, List.length_append, ih, List.length_cons]
    simp; omega
theorem ex_sound (w : WfS σ) (hro : ∀ t, t < 4 → ∀ z : Int, z < (roA x t).1 → z < 2147483648) : ∀ d j as I J Q, Ex σ x d j as I J Q → MetM l B ro cA dC dI σ x d j as I J Q
  | 0, j, as, I, J, Q, h => h.elim
  | d + 1, j, as, I, J, Q, h => by
    obtain ⟨hj, hc1, hlen, h⟩ := h
    have hg := go_sound (B := B) (ro := ro) (cA := cA) (dC := dC) (dI := dI) (l := l) w hro (Nat.lt_of_succ_lt hj) (ex_sound w hro d) h
    obtain ⟨m1, m2, m3, m4, m5, m6, m7, -, -, -⟩ := mth_of hj
    refine Met.ofW (cc := (MR j).2.1) (maxL := (MR j).2.2.1) (ret := (MR j).2.2.2.1) m3 rfl ?_
    intro p e s m args below meth c s₁ Bd hml hv
    obtain ⟨rfl, hK, hR, hNw, hP⟩ := hv
    have hts := atoms_spec (ws := wsM j) Bd.pre
    have hown : s.vm.findClass (RR (MR j).2.2.2.2.1) = some m.cls := by rw [← m6]; exact findClass_of_methodNamed Bd.named
    rw [lg_entry_eq]
    have hl := lv_entry (as.map (cv B ro)) (n := (MR j).2.2.1) (by rw [sl_len as hc1]; exact hlen)
    have hL : LoR B ro ((lg_sl (as.map (cv B ro)) ++ List.replicate ((MR j).2.2.1 - (lg_sl (as.map (cv B ro))).length) Slot.unset).toArray) (MR j).2.2.1 (lsOf (MR j).2.2.1 as) := by
      refine ⟨hl.1, ?_, hl.2.1, fun i v hi => ?_⟩
      · unfold lsOf
        rw [List.length_append, List.length_map, List.length_replicate]; omega
      · unfold lsOf at hi
        by_cases hlt : i < as.length
        · rw [List.getElem?_append_left (by rw [List.length_map]; exact hlt), List.getElem?_map] at hi
          cases ha : as[i]? with
          | none => rw [ha] at hi; cases hi
          | some u =>
            rw [ha] at hi
            simp only [Option.map_some, Option.some.injEq] at hi
            subst hi
            have := args_in (B := B) (ro := ro) as 0 i u hc1 ha
            rw [Nat.zero_add] at this
            exact hl.2.2 _ this
        · rw [List.getElem?_append_right (by rw [List.length_map]; omega)] at hi
          have := List.mem_of_getElem? hi
          rw [List.mem_replicate] at this
          cases this.2
    refine hg p e _ s m _ below meth c s.heap [] 0 0 _ _ ⟨Bd.exec, Bd.bytes, Bd.returns, hml, hown, fun w hw => hts w (List.mem_cons_of_mem _ hw), Bd.notSynchronized, Nat.le_refl _, Nat.le_refl _, Nat.le_refl _, Nat.le_refl _, hK, hR, hNw⟩ hL ⟨hP, va_S.rf⟩ ?_
    intro pc lsr I' J' H' locs' D'
    refine ⟨fun v hr hq hdg => ?_, fun v hr h01 hq hdg => ?_, fun hr hq hdg => ?_⟩
    · exact W.iret Bd.exec Bd.bytes (Bd.returns.trans hr) (fun t ht hW => ⟨⟨some (.inl v), I', J', rfl, hq, by rw [ht]; exact D'.1⟩, D'.2.F ht⟩) (fun q hq => D'.2.2.2 q hq) hdg Bd.notSynchronized
    · exact W.zret Bd.exec Bd.bytes (Bd.returns.trans hr) (by rcases h01 with rfl | rfl <;> rfl) (fun t ht hW => ⟨⟨some (.inl v), I', J', rfl, hq, by rw [ht]; exact D'.1⟩, D'.2.F ht⟩) (fun q hq => D'.2.2.2 q hq) hdg Bd.notSynchronized
    · exact W.vret Bd.exec Bd.bytes (Bd.returns.trans hr) (fun t ht hW => ⟨⟨none, I', J', rfl, hq, by rw [ht]; exact D'.1⟩, D'.2.F ht⟩) (fun q hq => D'.2.2.2 q hq) hdg Bd.notSynchronized
end RUL

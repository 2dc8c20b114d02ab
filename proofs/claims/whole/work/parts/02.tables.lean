/-! classes: fields in the order of the slots -/
def T_0 : u_T := fun k => match k with
  | 0 => ("HedgeGate$Act", "traveller", "I", false)
  | 1 => ("HedgeGate$Act", "word", "I", false)
  | 2 => ("HedgeGate$Act", "hour", "I", false)
  | 3 => ("HedgeGate$Act", "lastCase", "I", false)
  | 4 => ("HedgeGate$Act", "mayFollow", "I", false)
  | _ => ("HedgeGate$Act", "askedAt", "I", false)
def ty_0 : Nat → FieldType := fun k => match k with
  | 0 => .int
  | 1 => .int
  | 2 => .int
  | 3 => .int
  | 4 => .int
  | _ => .int
def fp_0 : List Nat := [223, 225, 227, 229, 231, 233]
def T_1 : u_T := fun k => match k with
  | 0 => ("HedgeGate$Acts", "ring", "[LHedgeGate$Act;", true)
  | 1 => ("HedgeGate$Acts", "next", "I", false)
  | _ => ("HedgeGate$Acts", "kept", "I", false)
def ty_1 : Nat → FieldType := fun k => match k with
  | 0 => .array (.object "HedgeGate$Act")
  | 1 => .int
  | _ => .int
def fp_1 : List Nat := [240, 242, 244]
def T_2 : u_T := fun k => match k with
  | 0 => ("HedgeGate$Asking", "left", "[I", true)
  | _ => ("HedgeGate$Asking", "length", "I", false)
def ty_2 : Nat → FieldType := fun k => match k with
  | 0 => .array (.int)
  | _ => .int
def fp_2 : List Nat := [321, 323]
def T_3 : u_T := fun k => match k with
  | 0 => ("HedgeGate$Hedge", "stands", "Z", false)
  | 1 => ("HedgeGate$Hedge", "memory", "I", false)
  | 2 => ("HedgeGate$Hedge", "behind", "[I", true)
  | 3 => ("HedgeGate$Hedge", "words", "I", false)
  | 4 => ("HedgeGate$Hedge", "kinds", "[I", true)
  | 5 => ("HedgeGate$Hedge", "cases", "[I", true)
  | 6 => ("HedgeGate$Hedge", "askedAt", "[I", true)
  | 7 => ("HedgeGate$Hedge", "askedTimes", "[I", true)
  | 8 => ("HedgeGate$Hedge", "travellers", "I", false)
  | 9 => ("HedgeGate$Hedge", "sets", "[I", true)
  | 10 => ("HedgeGate$Hedge", "passedBy", "[I", true)
  | 11 => ("HedgeGate$Hedge", "hour", "I", false)
  | 12 => ("HedgeGate$Hedge", "lastCase", "I", false)
  | _ => ("HedgeGate$Hedge", "mayFollow", "I", false)
def ty_3 : Nat → FieldType := fun k => match k with
  | 0 => .boolean
  | 1 => .int
  | 2 => .array (.int)
  | 3 => .int
  | 4 => .array (.int)
  | 5 => .array (.int)
  | 6 => .array (.int)
  | 7 => .array (.int)
  | 8 => .int
  | 9 => .array (.int)
  | 10 => .array (.int)
  | 11 => .int
  | 12 => .int
  | _ => .int
def fp_3 : List Nat := [145, 147, 149, 151, 153, 155, 157, 159, 161, 163, 165, 167, 169, 171]
def T_4 : u_T := fun k => match k with
  | 0 => ("HedgeGate$Plan", "askedAt", "[I", true)
  | 1 => ("HedgeGate$Plan", "steps", "[I", true)
  | 2 => ("HedgeGate$Plan", "best", "[I", true)
  | 3 => ("HedgeGate$Plan", "seen", "[J", true)
  | 4 => ("HedgeGate$Plan", "made", "J", false)
  | 5 => ("HedgeGate$Plan", "start", "I", false)
  | 6 => ("HedgeGate$Plan", "bestHour", "I", false)
  | _ => ("HedgeGate$Plan", "length", "I", false)
def ty_4 : Nat → FieldType := fun k => match k with
  | 0 => .array (.int)
  | 1 => .array (.int)
  | 2 => .array (.int)
  | 3 => .array (.long)
  | 4 => .long
  | 5 => .int
  | 6 => .int
  | _ => .int
def fp_4 : List Nat := [262, 264, 266, 268, 270, 272, 274, 276]
def T_5 : u_T := fun k => match k with
  | 0 => ("HedgeGate$Row", "items", "[I", true)
  | 1 => ("HedgeGate$Row", "here", "Z", false)
  | 2 => ("HedgeGate$Row", "lane", "I", false)
  | _ => ("HedgeGate$Row", "length", "I", false)
def ty_5 : Nat → FieldType := fun k => match k with
  | 0 => .array (.int)
  | 1 => .boolean
  | 2 => .int
  | _ => .int
def fp_5 : List Nat := [340, 342, 344, 346]
def T_6 : u_T := fun k => match k with
  | 0 => ("HedgeGate$Talk", "furthest", "[I", true)
  | 1 => ("HedgeGate$Talk", "row", "[I", true)
  | _ => ("HedgeGate$Talk", "length", "I", false)
def ty_6 : Nat → FieldType := fun k => match k with
  | 0 => .array (.int)
  | 1 => .array (.int)
  | _ => .int
def fp_6 : List Nat := [290, 292, 294]
def T_7 : u_T := fun k => match k with
  | 0 => ("HedgeGate$Tape", "bytes", "[I", true)
  | 1 => ("HedgeGate$Tape", "at", "I", false)
  | 2 => ("HedgeGate$Tape", "sound", "Z", false)
  | 3 => ("HedgeGate$Tape", "length", "I", false)
  | 4 => ("HedgeGate$Tape", "fault", "I", false)
  | _ => ("HedgeGate$Tape", "place", "I", false)
def ty_7 : Nat → FieldType := fun k => match k with
  | 0 => .array (.int)
  | 1 => .int
  | 2 => .boolean
  | 3 => .int
  | 4 => .int
  | _ => .int
def fp_7 : List Nat := [191, 193, 195, 197, 199, 201]
def T_8 : u_T := fun k => match k with
  | 0 => ("HedgeGate$Ways", "askedAt", "[I", true)
  | 1 => ("HedgeGate$Ways", "order", "[I", true)
  | _ => ("HedgeGate$Ways", "length", "I", false)
def ty_8 : Nat → FieldType := fun k => match k with
  | 0 => .array (.int)
  | 1 => .array (.int)
  | _ => .int
def fp_8 : List Nat := [306, 308, 310]
def T_9 : u_T := fun k => match k with
  | 0 => ("HedgeGate", "rows", "[LHedgeGate$Row;", true)
  | 1 => ("HedgeGate", "now", "LHedgeGate$Hedge;", true)
  | 2 => ("HedgeGate", "draft", "LHedgeGate$Hedge;", true)
  | 3 => ("HedgeGate", "images", "[LHedgeGate$Hedge;", true)
  | 4 => ("HedgeGate", "tape", "LHedgeGate$Tape;", true)
  | 5 => ("HedgeGate", "acts", "LHedgeGate$Acts;", true)
  | 6 => ("HedgeGate", "planner", "LHedgeGate$Plan;", true)
  | 7 => ("HedgeGate", "talker", "LHedgeGate$Talk;", true)
  | 8 => ("HedgeGate", "ways", "LHedgeGate$Ways;", true)
  | 9 => ("HedgeGate", "asking", "LHedgeGate$Asking;", true)
  | _ => ("HedgeGate", "finding", "I", false)
def ty_9 : Nat → FieldType := fun k => match k with
  | 0 => .array (.object "HedgeGate$Row")
  | 1 => .object "HedgeGate$Hedge"
  | 2 => .object "HedgeGate$Hedge"
  | 3 => .array (.object "HedgeGate$Hedge")
  | 4 => .object "HedgeGate$Tape"
  | 5 => .object "HedgeGate$Acts"
  | 6 => .object "HedgeGate$Plan"
  | 7 => .object "HedgeGate$Talk"
  | 8 => .object "HedgeGate$Ways"
  | 9 => .object "HedgeGate$Asking"
  | _ => .int
def fp_9 : List Nat := [360, 362, 364, 366, 368, 370, 372, 374, 376, 378, 380]
def T_10 : u_T := fun k => match k with
  | 0 => ("HedgeGateModel", "tape", "[I", true)
  | 1 => ("HedgeGateModel", "taped", "I", false)
  | 2 => ("HedgeGateModel", "s", "[I", true)
  | 3 => ("HedgeGateModel", "draft", "[I", true)
  | 4 => ("HedgeGateModel", "past", "[I", true)
  | 5 => ("HedgeGateModel", "known", "I", false)
  | 6 => ("HedgeGateModel", "images", "[I", true)
  | 7 => ("HedgeGateModel", "kept", "[Z", true)
  | 8 => ("HedgeGateModel", "lanes", "[I", true)
  | 9 => ("HedgeGateModel", "sizes", "[I", true)
  | 10 => ("HedgeGateModel", "items", "[I", true)
  | 11 => ("HedgeGateModel", "trace", "[I", true)
  | 12 => ("HedgeGateModel", "traced", "I", false)
  | 13 => ("HedgeGateModel", "status", "I", false)
  | 14 => ("HedgeGateModel", "fault", "I", false)
  | 15 => ("HedgeGateModel", "at", "I", false)
  | 16 => ("HedgeGateModel", "sort", "I", false)
  | 17 => ("HedgeGateModel", "start", "I", false)
  | 18 => ("HedgeGateModel", "value", "I", false)
  | 19 => ("HedgeGateModel", "failed", "I", false)
  | 20 => ("HedgeGateModel", "were", "[I", true)
  | 21 => ("HedgeGateModel", "ahead", "[I", true)
  | 22 => ("HedgeGateModel", "tried", "[I", true)
  | 23 => ("HedgeGateModel", "best", "[I", true)
  | 24 => ("HedgeGateModel", "least", "I", false)
  | 25 => ("HedgeGateModel", "longs", "[I", true)
  | 26 => ("HedgeGateModel", "fits", "[Z", true)
  | _ => ("HedgeGateModel", "held", "[I", true)
def ty_10 : Nat → FieldType := fun k => match k with
  | 0 => .array (.int)
  | 1 => .int
  | 2 => .array (.int)
  | 3 => .array (.int)
  | 4 => .array (.int)
  | 5 => .int
  | 6 => .array (.int)
  | 7 => .array (.boolean)
  | 8 => .array (.int)
  | 9 => .array (.int)
  | 10 => .array (.int)
  | 11 => .array (.int)
  | 12 => .int
  | 13 => .int
  | 14 => .int
  | 15 => .int
  | 16 => .int
  | 17 => .int
  | 18 => .int
  | 19 => .int
  | 20 => .array (.int)
  | 21 => .array (.int)
  | 22 => .array (.int)
  | 23 => .array (.int)
  | 24 => .int
  | 25 => .array (.int)
  | 26 => .array (.boolean)
  | _ => .array (.int)
def fp_10 : List Nat := [875, 877, 879, 881, 883, 885, 887, 889, 891, 893, 895, 897, 899, 901, 903, 905, 907, 909, 911, 913, 915, 917, 919, 921, 923, 925, 927, 929]
def CL : List vw_C := [("HedgeGate$Act", T_0, 6), ("HedgeGate$Acts", T_1, 3), ("HedgeGate$Asking", T_2, 2), ("HedgeGate$Hedge", T_3, 14), ("HedgeGate$Plan", T_4, 8), ("HedgeGate$Row", T_5, 4), ("HedgeGate$Talk", T_6, 3), ("HedgeGate$Tape", T_7, 6), ("HedgeGate$Ways", T_8, 3), ("HedgeGate", T_9, 11), ("HedgeGateModel", T_10, 28)]
def TYF : Nat → Nat → FieldType := fun c => match c with
  | 0 => ty_0
  | 1 => ty_1
  | 2 => ty_2
  | 3 => ty_3
  | 4 => ty_4
  | 5 => ty_5
  | 6 => ty_6
  | 7 => ty_7
  | 8 => ty_8
  | 9 => ty_9
  | _ => ty_10
def FPL : List (List Nat) := [fp_0, fp_1, fp_2, fp_3, fp_4, fp_5, fp_6, fp_7, fp_8, fp_9, fp_10]
def RRL : List String := ["HedgeGate$Act", "HedgeGate$Acts", "HedgeGate$Asking", "HedgeGate$Hedge", "HedgeGate$Plan", "HedgeGate$Row", "HedgeGate$Talk", "HedgeGate$Tape", "HedgeGate$Ways", "HedgeGate", "HedgeGateModel", "java/lang/Integer", "java/lang/Math", "java/lang/System", "java/util/Arrays", "HedgeGateLaw"]
def RR (c : Nat) : String := RRL.getD c ""
/-! methods: name, code, locals, return, own class, parameters, kind (0 static, 1 instance, 2 init), places of words: code, initialized, static or instance, selects -/
abbrev MRow : Type := MethodName × ByteArray × Nat × Option FieldType × Nat × Nat × Nat × Nat × Nat × Nat × Nat
def MT_0 : List MRow := [(⟨"HedgeGate$Act", "<init>", "()V"⟩, prog_2_method_1_code, 1, none, 0, 0, 2, 215, 63, 214, 0),
  (⟨"HedgeGate$Acts", "<init>", "()V"⟩, prog_3_method_1_code, 2, none, 1, 0, 2, 208, 62, 207, 0),
  (⟨"HedgeGate$Acts", "forget", "()V"⟩, prog_3_method_2_code, 1, none, 1, 0, 1, 503, 62, 501, 502),
  (⟨"HedgeGate$Acts", "keep", "(LHedgeGate$Hedge;II)V"⟩, prog_3_method_3_code, 5, none, 1, 3, 1, 562, 62, 560, 561),
  (⟨"HedgeGate$Acts", "takeBack", "(LHedgeGate$Hedge;)V"⟩, prog_3_method_4_code, 3, none, 1, 1, 1, 599, 62, 597, 598),
  (⟨"HedgeGate$Asking", "<init>", "()V"⟩, prog_4_method_1_code, 1, none, 2, 0, 2, 317, 67, 316, 0),
  (⟨"HedgeGate$Asking", "answer", "(LHedgeGate$Hedge;I[I)I"⟩, prog_4_method_2_code, 4, (some .int), 2, 3, 1, 797, 67, 795, 796),
  (⟨"HedgeGate$Asking", "traceAt", "(I)I"⟩, prog_4_method_3_code, 2, (some .int), 2, 1, 1, 819, 67, 817, 818),
  (⟨"HedgeGate$Asking", "nearest", "(LHedgeGate$Hedge;I[I)I"⟩, prog_4_method_4_code, 5, (some .int), 2, 3, 0, 800, 67, 799, 0),
  (⟨"HedgeGate$Asking", "begin", "(LHedgeGate$Asking;LHedgeGate$Hedge;III)I"⟩, prog_4_method_5_code, 6, (some .int), 2, 5, 0, 805, 67, 804, 0),
  (⟨"HedgeGate$Asking", "leave", "(I)V"⟩, prog_4_method_6_code, 2, none, 2, 1, 1, 809, 67, 808, 17),
  (⟨"HedgeGate$Hedge", "<init>", "()V"⟩, prog_5_method_1_code, 1, none, 3, 0, 2, 88, 60, 87, 0),
  (⟨"HedgeGate$Hedge", "begin", "()V"⟩, prog_5_method_2_code, 1, none, 3, 0, 1, 450, 60, 448, 449),
  (⟨"HedgeGate$Hedge", "addWord", "(II)V"⟩, prog_5_method_3_code, 3, none, 3, 2, 1, 484, 60, 482, 483),
  (⟨"HedgeGate$Hedge", "addTraveller", "(I)V"⟩, prog_5_method_4_code, 2, none, 3, 1, 1, 493, 60, 491, 492),
  (⟨"HedgeGate$Hedge", "become", "(LHedgeGate$Hedge;)V"⟩, prog_5_method_5_code, 2, none, 3, 1, 1, 498, 60, 496, 497),
  (⟨"HedgeGate$Hedge", "isWord", "(I)Z"⟩, prog_5_method_6_code, 2, (some .boolean), 3, 1, 1, 519, 60, 517, 518),
  (⟨"HedgeGate$Hedge", "isTraveller", "(I)Z"⟩, prog_5_method_7_code, 2, (some .boolean), 3, 1, 1, 515, 60, 513, 514),
  (⟨"HedgeGate$Hedge", "hasPassed", "(I)Z"⟩, prog_5_method_8_code, 2, (some .boolean), 3, 1, 1, 523, 60, 521, 522),
  (⟨"HedgeGate$Hedge", "passed", "()I"⟩, prog_5_method_9_code, 3, (some .int), 3, 0, 1, 632, 60, 630, 631),
  (⟨"HedgeGate$Hedge", "isWorn", "(III)Z"⟩, prog_5_method_10_code, 4, (some .boolean), 3, 3, 1, 548, 60, 546, 547),
  (⟨"HedgeGate$Hedge", "comesBehind", "(II)Z"⟩, prog_5_method_11_code, 3, (some .boolean), 3, 2, 1, 540, 60, 538, 539),
  (⟨"HedgeGate$Hedge", "open", "([III)I"⟩, prog_5_method_12_code, 6, (some .int), 3, 3, 1, 536, 60, 534, 535),
  (⟨"HedgeGate$Hedge", "openNow", "()I"⟩, prog_5_method_13_code, 1, (some .int), 3, 0, 1, 532, 60, 530, 531),
  (⟨"HedgeGate$Hedge", "openTo", "(I)I"⟩, prog_5_method_14_code, 2, (some .int), 3, 1, 1, 528, 60, 526, 527),
  (⟨"HedgeGate$Hedge", "hoursFor", "(I)I"⟩, prog_5_method_15_code, 2, (some .int), 3, 1, 1, 579, 60, 577, 578),
  (⟨"HedgeGate$Hedge", "followersBy", "(I)I"⟩, prog_5_method_16_code, 2, (some .int), 3, 1, 1, 575, 60, 573, 574),
  (⟨"HedgeGate$Hedge", "letAsk", "(II)V"⟩, prog_5_method_17_code, 3, none, 3, 2, 1, 571, 60, 569, 570),
  (⟨"HedgeGate$Hedge", "letFollow", "(I)V"⟩, prog_5_method_18_code, 2, none, 3, 1, 1, 587, 60, 585, 586),
  (⟨"HedgeGate$Hedge", "fewestWordsFor", "(I)I"⟩, prog_5_method_19_code, 4, (some .int), 3, 1, 1, 716, 60, 714, 715),
  (⟨"HedgeGate$Hedge", "serves", "(II)Z"⟩, prog_5_method_20_code, 4, (some .boolean), 3, 2, 1, 721, 60, 720, 15),
  (⟨"HedgeGate$Hedge", "ableWithout", "(I)I"⟩, prog_5_method_21_code, 5, (some .int), 3, 1, 1, 730, 60, 728, 729),
  (⟨"HedgeGate$Hedge", "companiesFor", "(I)I"⟩, prog_5_method_22_code, 4, (some .int), 3, 1, 1, 738, 60, 736, 737),
  (⟨"HedgeGate$Hedge", "withOneMore", "(II)I"⟩, prog_5_method_23_code, 6, (some .int), 3, 2, 1, 742, 60, 741, 16),
  (⟨"HedgeGate$Plan", "<init>", "()V"⟩, prog_6_method_1_code, 1, none, 4, 0, 2, 251, 64, 250, 0),
  (⟨"HedgeGate$Plan", "make", "(LHedgeGate$Hedge;)V"⟩, prog_6_method_2_code, 2, none, 4, 1, 1, 627, 64, 625, 626),
  (⟨"HedgeGate$Plan", "hourBehind", "()I"⟩, prog_6_method_3_code, 1, (some .int), 4, 0, 1, 664, 64, 662, 663),
  (⟨"HedgeGate$Plan", "stepAt", "(I)I"⟩, prog_6_method_4_code, 2, (some .int), 4, 1, 1, 669, 64, 667, 668),
  (⟨"HedgeGate$Plan", "seek", "(LHedgeGate$Plan;LHedgeGate$Hedge;IIIII)V"⟩, prog_6_method_5_code, 13, none, 4, 7, 0, 636, 64, 635, 0),
  (⟨"HedgeGate$Plan", "keepBest", "(II)V"⟩, prog_6_method_6_code, 3, none, 4, 2, 1, 646, 64, 645, 9)]
def MT_1 : List MRow := [(⟨"HedgeGate$Plan", "hasTwinAhead", "(LHedgeGate$Hedge;II)Z"⟩, prog_6_method_7_code, 4, (some .boolean), 4, 3, 0, 658, 64, 657, 0),
  (⟨"HedgeGate$Plan", "wasHere", "(LHedgeGate$Hedge;IIII)Z"⟩, prog_6_method_8_code, 12, (some .boolean), 4, 5, 1, 650, 64, 649, 10),
  (⟨"HedgeGate$Row", "<init>", "()V"⟩, prog_7_method_1_code, 1, none, 5, 0, 2, 329, 68, 328, 0),
  (⟨"HedgeGate$Row", "make", "(II)V"⟩, prog_7_method_2_code, 3, none, 5, 2, 1, 399, 68, 397, 398),
  (⟨"HedgeGate$Row", "cut", "(I)I"⟩, prog_7_method_3_code, 2, (some .int), 5, 1, 1, 414, 68, 412, 413),
  (⟨"HedgeGate$Row", "spans", "(II)Z"⟩, prog_7_method_4_code, 3, (some .boolean), 5, 2, 1, 422, 68, 420, 421),
  (⟨"HedgeGate$Talk", "<init>", "()V"⟩, prog_8_method_1_code, 1, none, 6, 0, 2, 284, 65, 283, 0),
  (⟨"HedgeGate$Talk", "make", "(LHedgeGate$Hedge;)V"⟩, prog_8_method_2_code, 5, none, 6, 1, 1, 677, 65, 675, 676),
  (⟨"HedgeGate$Talk", "wordAt", "(I)I"⟩, prog_8_method_3_code, 2, (some .int), 6, 1, 1, 707, 65, 705, 706),
  (⟨"HedgeGate$Talk", "wornNow", "(LHedgeGate$Hedge;)I"⟩, prog_8_method_4_code, 3, (some .int), 6, 1, 0, 680, 65, 679, 0),
  (⟨"HedgeGate$Talk", "longestFrom", "(LHedgeGate$Hedge;II)I"⟩, prog_8_method_5_code, 6, (some .int), 6, 3, 1, 685, 65, 684, 11),
  (⟨"HedgeGate$Talk", "longestBy", "(LHedgeGate$Hedge;III)I"⟩, prog_8_method_6_code, 5, (some .int), 6, 4, 1, 689, 65, 688, 12),
  (⟨"HedgeGate$Talk", "tell", "(LHedgeGate$Hedge;I)V"⟩, prog_8_method_7_code, 7, none, 6, 2, 1, 699, 65, 698, 13),
  (⟨"HedgeGate$Talk", "firstBy", "(LHedgeGate$Hedge;III)I"⟩, prog_8_method_8_code, 6, (some .int), 6, 4, 1, 703, 65, 702, 14),
  (⟨"HedgeGate$Tape", "<init>", "()V"⟩, prog_9_method_1_code, 1, none, 7, 0, 2, 180, 61, 179, 0),
  (⟨"HedgeGate$Tape", "add", "(I)Z"⟩, prog_9_method_2_code, 2, (some .boolean), 7, 1, 1, 437, 61, 435, 436),
  (⟨"HedgeGate$Tape", "readInto", "(LHedgeGate$Hedge;)Z"⟩, prog_9_method_3_code, 2, (some .boolean), 7, 1, 1, 446, 61, 444, 445),
  (⟨"HedgeGate$Tape", "readLaw", "(LHedgeGate$Hedge;)V"⟩, prog_9_method_4_code, 3, none, 7, 1, 1, 454, 61, 453, 2),
  (⟨"HedgeGate$Tape", "readWords", "(LHedgeGate$Hedge;)V"⟩, prog_9_method_5_code, 5, none, 7, 1, 1, 477, 61, 476, 7),
  (⟨"HedgeGate$Tape", "readTravellers", "(LHedgeGate$Hedge;)V"⟩, prog_9_method_6_code, 4, none, 7, 1, 1, 489, 61, 488, 8),
  (⟨"HedgeGate$Tape", "readSign", "(I)V"⟩, prog_9_method_7_code, 2, none, 7, 1, 1, 458, 61, 457, 3),
  (⟨"HedgeGate$Tape", "readNumber", "(II)I"⟩, prog_9_method_8_code, 6, (some .int), 7, 2, 1, 470, 61, 469, 6),
  (⟨"HedgeGate$Tape", "look", "()I"⟩, prog_9_method_9_code, 1, (some .int), 7, 0, 1, 462, 61, 461, 4),
  (⟨"HedgeGate$Tape", "fail", "(I)V"⟩, prog_9_method_10_code, 2, none, 7, 1, 1, 466, 61, 465, 5),
  (⟨"HedgeGate$Tape", "isFigure", "(I)Z"⟩, prog_9_method_11_code, 1, (some .boolean), 7, 1, 0, 473, 61, 472, 0),
  (⟨"HedgeGate$Tape", "kindOfLetter", "(I)I"⟩, prog_9_method_12_code, 1, (some .int), 7, 1, 0, 480, 61, 479, 0),
  (⟨"HedgeGate$Ways", "<init>", "()V"⟩, prog_10_method_1_code, 1, none, 8, 0, 2, 301, 66, 300, 0),
  (⟨"HedgeGate$Ways", "take", "(LHedgeGate$Hedge;LHedgeGate$Row;II)Z"⟩, prog_10_method_2_code, 8, (some .boolean), 8, 4, 1, 753, 66, 751, 752),
  (⟨"HedgeGate$Ways", "tally", "(LHedgeGate$Hedge;)I"⟩, prog_10_method_3_code, 2, (some .int), 8, 1, 1, 760, 66, 758, 759),
  (⟨"HedgeGate$Ways", "waysFrom", "(LHedgeGate$Ways;LHedgeGate$Hedge;III)I"⟩, prog_10_method_4_code, 9, (some .int), 8, 5, 0, 765, 66, 764, 0),
  (⟨"HedgeGate", "<init>", "()V"⟩, prog_1_method_1_code, 2, none, 9, 0, 2, 78, 59, 77, 0),
  (⟨"HedgeGate", "row", "(III)I"⟩, prog_1_method_2_code, 4, (some .int), 9, 3, 1, 386, 59, 384, 385),
  (⟨"HedgeGate", "set", "(III)I"⟩, prog_1_method_3_code, 5, (some .int), 9, 3, 1, 410, 59, 408, 409),
  (⟨"HedgeGate", "copy", "(IIIII)I"⟩, prog_1_method_4_code, 8, (some .int), 9, 5, 1, 418, 59, 416, 417),
  (⟨"HedgeGate", "drop", "(I)I"⟩, prog_1_method_5_code, 3, (some .int), 9, 1, 1, 429, 59, 427, 428),
  (⟨"HedgeGate", "isRowNumber", "(I)Z"⟩, prog_1_method_6_code, 1, (some .boolean), 9, 1, 0, 389, 59, 388, 0),
  (⟨"HedgeGate", "found", "(I)I"⟩, prog_1_method_7_code, 2, (some .int), 9, 1, 1, 394, 59, 393, 0),
  (⟨"HedgeGate", "fine", "(I)I"⟩, prog_1_method_8_code, 2, (some .int), 9, 1, 1, 406, 59, 405, 1),
  (⟨"HedgeGate", "feed", "(I)I"⟩, prog_1_method_9_code, 2, (some .int), 9, 1, 1, 433, 59, 431, 432),
  (⟨"HedgeGate", "hedge", "()I"⟩, prog_1_method_10_code, 2, (some .int), 9, 0, 1, 442, 59, 440, 441)]
def MT_2 : List MRow := [(⟨"HedgeGate", "fault", "()I"⟩, prog_1_method_11_code, 1, (some .int), 9, 0, 1, 507, 59, 505, 506),
  (⟨"HedgeGate", "asks", "(II)I"⟩, prog_1_method_12_code, 3, (some .int), 9, 2, 1, 511, 59, 509, 510),
  (⟨"HedgeGate", "follows", "(I)I"⟩, prog_1_method_13_code, 2, (some .int), 9, 1, 1, 583, 59, 581, 582),
  (⟨"HedgeGate", "waits", "(I)I"⟩, prog_1_method_14_code, 2, (some .int), 9, 1, 1, 591, 59, 589, 590),
  (⟨"HedgeGate", "undo", "()I"⟩, prog_1_method_15_code, 1, (some .int), 9, 0, 1, 595, 59, 593, 594),
  (⟨"HedgeGate", "word", "(II)I"⟩, prog_1_method_16_code, 3, (some .int), 9, 2, 1, 604, 59, 602, 603),
  (⟨"HedgeGate", "traveller", "(II)I"⟩, prog_1_method_17_code, 3, (some .int), 9, 2, 1, 609, 59, 607, 608),
  (⟨"HedgeGate", "can", "(I)I"⟩, prog_1_method_18_code, 2, (some .int), 9, 1, 1, 613, 59, 611, 612),
  (⟨"HedgeGate", "soon", "(I)I"⟩, prog_1_method_19_code, 4, (some .int), 9, 1, 1, 617, 59, 615, 616),
  (⟨"HedgeGate", "plan", "(I)I"⟩, prog_1_method_20_code, 2, (some .int), 9, 1, 1, 623, 59, 621, 622),
  (⟨"HedgeGate", "talk", "(I)I"⟩, prog_1_method_21_code, 2, (some .int), 9, 1, 1, 673, 59, 671, 672),
  (⟨"HedgeGate", "family", "(II)I"⟩, prog_1_method_22_code, 4, (some .int), 9, 2, 1, 712, 59, 710, 711),
  (⟨"HedgeGate", "ban", "(I)I"⟩, prog_1_method_23_code, 6, (some .int), 9, 1, 1, 726, 59, 724, 725),
  (⟨"HedgeGate", "who", "(II)I"⟩, prog_1_method_24_code, 4, (some .int), 9, 2, 1, 734, 59, 732, 733),
  (⟨"HedgeGate", "goneBy", "(III)I"⟩, prog_1_method_25_code, 5, (some .int), 9, 3, 1, 749, 59, 747, 748),
  (⟨"HedgeGate", "image", "(I)I"⟩, prog_1_method_26_code, 2, (some .int), 9, 1, 1, 772, 59, 770, 771),
  (⟨"HedgeGate", "restore", "(I)I"⟩, prog_1_method_27_code, 2, (some .int), 9, 1, 1, 776, 59, 774, 775),
  (⟨"HedgeGate", "kind", "(I)I"⟩, prog_1_method_28_code, 2, (some .int), 9, 1, 1, 780, 59, 778, 779),
  (⟨"HedgeGate", "as", "(II)I"⟩, prog_1_method_29_code, 3, (some .int), 9, 2, 1, 784, 59, 782, 783),
  (⟨"HedgeGate", "ask", "(II)I"⟩, prog_1_method_30_code, 3, (some .int), 9, 2, 1, 789, 59, 787, 788),
  (⟨"HedgeGate", "trace", "(I)I"⟩, prog_1_method_31_code, 2, (some .int), 9, 1, 1, 815, 59, 813, 814),
  (⟨"HedgeGate", "count", "(I)I"⟩, prog_1_method_32_code, 2, (some .int), 9, 1, 1, 824, 59, 822, 823),
  (⟨"HedgeGate", "status", "()I"⟩, prog_1_method_33_code, 1, (some .int), 9, 0, 1, 833, 59, 831, 832),
  (⟨"HedgeGate", "rowsHere", "()I"⟩, prog_1_method_34_code, 3, (some .int), 9, 0, 1, 828, 59, 827, 18),
  (⟨"HedgeGate", "leastOf", "(I)I"⟩, prog_1_method_35_code, 2, (some .int), 9, 1, 0, 745, 59, 744, 0),
  (⟨"HedgeGate", "holds", "(II)Z"⟩, prog_1_method_36_code, 2, (some .boolean), 9, 2, 0, 544, 59, 543, 0),
  (⟨"HedgeGate", "kindAbove", "(I)I"⟩, prog_1_method_37_code, 1, (some .int), 9, 1, 0, 554, 59, 553, 0),
  (⟨"HedgeGate", "isKindOf", "(II)Z"⟩, prog_1_method_38_code, 4, (some .boolean), 9, 2, 0, 551, 59, 550, 0),
  (⟨"HedgeGateModel", "<init>", "()V"⟩, prog_12_method_1_code, 2, none, 10, 0, 2, 838, 69, 837, 0),
  (⟨"HedgeGateModel", "in", "(III)Z"⟩, prog_12_method_3_code, 3, (some .boolean), 10, 3, 0, 846, 69, 845, 0),
  (⟨"HedgeGateModel", "isHedge", "()Z"⟩, prog_12_method_4_code, 1, (some .boolean), 10, 0, 1, 1066, 69, 1065, 39),
  (⟨"HedgeGateModel", "isWord", "(I)Z"⟩, prog_12_method_5_code, 2, (some .boolean), 10, 1, 1, 1021, 69, 1020, 30),
  (⟨"HedgeGateModel", "isGoer", "(I)Z"⟩, prog_12_method_6_code, 2, (some .boolean), 10, 1, 1, 1017, 69, 1016, 29),
  (⟨"HedgeGateModel", "isRow", "(I)Z"⟩, prog_12_method_7_code, 1, (some .boolean), 10, 1, 0, 939, 69, 938, 0),
  (⟨"HedgeGateModel", "finds", "(I)I"⟩, prog_12_method_8_code, 2, (some .int), 10, 1, 1, 944, 69, 943, 20),
  (⟨"HedgeGateModel", "row", "(III)I"⟩, prog_12_method_9_code, 5, (some .int), 10, 3, 1, 936, 69, 934, 935),
  (⟨"HedgeGateModel", "set", "(III)I"⟩, prog_12_method_10_code, 5, (some .int), 10, 3, 1, 949, 69, 947, 948),
  (⟨"HedgeGateModel", "isBeyond", "(III)Z"⟩, prog_12_method_11_code, 3, (some .boolean), 10, 3, 0, 956, 69, 955, 0),
  (⟨"HedgeGateModel", "copy", "(IIIII)I"⟩, prog_12_method_12_code, 7, (some .int), 10, 5, 1, 953, 69, 951, 952),
  (⟨"HedgeGateModel", "drop", "(I)I"⟩, prog_12_method_13_code, 2, (some .int), 10, 1, 1, 960, 69, 958, 959)]
def MT_3 : List MRow := [(⟨"HedgeGateModel", "feed", "(I)I"⟩, prog_12_method_14_code, 2, (some .int), 10, 1, 1, 964, 69, 962, 963),
  (⟨"HedgeGateModel", "byteAt", "(I)I"⟩, prog_12_method_15_code, 2, (some .int), 10, 1, 1, 985, 69, 984, 24),
  (⟨"HedgeGateModel", "token", "()V"⟩, prog_12_method_16_code, 3, none, 10, 0, 1, 981, 69, 980, 23),
  (⟨"HedgeGateModel", "fails", "(I)Z"⟩, prog_12_method_17_code, 2, (some .boolean), 10, 1, 1, 989, 69, 988, 25),
  (⟨"HedgeGateModel", "number", "(III)Z"⟩, prog_12_method_18_code, 4, (some .boolean), 10, 3, 1, 993, 69, 992, 26),
  (⟨"HedgeGateModel", "sign", "(I)Z"⟩, prog_12_method_19_code, 2, (some .boolean), 10, 1, 1, 997, 69, 996, 27),
  (⟨"HedgeGateModel", "empties", "()V"⟩, prog_12_method_20_code, 2, none, 10, 0, 1, 843, 69, 842, 19),
  (⟨"HedgeGateModel", "readsLaw", "()Z"⟩, prog_12_method_21_code, 3, (some .boolean), 10, 0, 1, 977, 69, 976, 22),
  (⟨"HedgeGateModel", "sortOf", "(I)I"⟩, prog_12_method_22_code, 1, (some .int), 10, 1, 0, 1004, 69, 1003, 0),
  (⟨"HedgeGateModel", "readsOne", "()Z"⟩, prog_12_method_23_code, 3, (some .boolean), 10, 0, 1, 1001, 69, 1000, 28),
  (⟨"HedgeGateModel", "reads", "()Z"⟩, prog_12_method_24_code, 1, (some .boolean), 10, 0, 1, 973, 69, 972, 21),
  (⟨"HedgeGateModel", "hedge", "()I"⟩, prog_12_method_25_code, 3, (some .int), 10, 0, 1, 969, 69, 967, 968),
  (⟨"HedgeGateModel", "fault", "()I"⟩, prog_12_method_26_code, 1, (some .int), 10, 0, 1, 1009, 69, 1007, 1008),
  (⟨"HedgeGateModel", "isWorn", "(I)Z"⟩, prog_12_method_27_code, 2, (some .boolean), 10, 1, 1, 1037, 69, 1036, 34),
  (⟨"HedgeGateModel", "comes", "(II)Z"⟩, prog_12_method_28_code, 4, (some .boolean), 10, 2, 1, 1041, 69, 1040, 35),
  (⟨"HedgeGateModel", "may", "(I)Z"⟩, prog_12_method_29_code, 2, (some .boolean), 10, 1, 1, 1033, 69, 1032, 33),
  (⟨"HedgeGateModel", "hasPassed", "(I)Z"⟩, prog_12_method_30_code, 2, (some .boolean), 10, 1, 1, 1029, 69, 1028, 32),
  (⟨"HedgeGateModel", "keeps", "()V"⟩, prog_12_method_31_code, 2, none, 10, 0, 1, 1046, 69, 1045, 36),
  (⟨"HedgeGateModel", "isAsked", "(II)Z"⟩, prog_12_method_32_code, 3, (some .boolean), 10, 2, 1, 1025, 69, 1024, 31),
  (⟨"HedgeGateModel", "asksNow", "(II)V"⟩, prog_12_method_33_code, 3, none, 10, 2, 1, 1050, 69, 1049, 37),
  (⟨"HedgeGateModel", "followsNow", "(I)V"⟩, prog_12_method_34_code, 2, none, 10, 1, 1, 1058, 69, 1057, 38),
  (⟨"HedgeGateModel", "asks", "(II)I"⟩, prog_12_method_35_code, 3, (some .int), 10, 2, 1, 1013, 69, 1011, 1012),
  (⟨"HedgeGateModel", "follows", "(I)I"⟩, prog_12_method_36_code, 2, (some .int), 10, 1, 1, 1054, 69, 1052, 1053),
  (⟨"HedgeGateModel", "waits", "(I)I"⟩, prog_12_method_37_code, 2, (some .int), 10, 1, 1, 1062, 69, 1060, 1061),
  (⟨"HedgeGateModel", "undo", "()I"⟩, prog_12_method_38_code, 2, (some .int), 10, 0, 1, 1070, 69, 1068, 1069),
  (⟨"HedgeGateModel", "word", "(II)I"⟩, prog_12_method_39_code, 4, (some .int), 10, 2, 1, 1074, 69, 1072, 1073),
  (⟨"HedgeGateModel", "traveller", "(II)I"⟩, prog_12_method_40_code, 3, (some .int), 10, 2, 1, 1079, 69, 1077, 1078),
  (⟨"HedgeGateModel", "canBy", "(I)I"⟩, prog_12_method_41_code, 4, (some .int), 10, 1, 1, 1087, 69, 1086, 40),
  (⟨"HedgeGateModel", "can", "(I)I"⟩, prog_12_method_42_code, 2, (some .int), 10, 1, 1, 1083, 69, 1081, 1082),
  (⟨"HedgeGateModel", "soon", "(I)I"⟩, prog_12_method_43_code, 5, (some .int), 10, 1, 1, 1091, 69, 1089, 1090),
  (⟨"HedgeGateModel", "puts", "(I)V"⟩, prog_12_method_44_code, 3, none, 10, 1, 1, 1107, 69, 1106, 43),
  (⟨"HedgeGateModel", "takes", "(I)V"⟩, prog_12_method_45_code, 3, none, 10, 1, 1, 1111, 69, 1110, 44),
  (⟨"HedgeGateModel", "left", "()I"⟩, prog_12_method_46_code, 3, (some .int), 10, 0, 1, 1103, 69, 1102, 42),
  (⟨"HedgeGateModel", "isStep", "(I)Z"⟩, prog_12_method_47_code, 4, (some .boolean), 10, 1, 1, 1115, 69, 1114, 45),
  (⟨"HedgeGateModel", "seeks", "()I"⟩, prog_12_method_48_code, 5, (some .int), 10, 0, 1, 1099, 69, 1098, 41),
  (⟨"HedgeGateModel", "plan", "(I)I"⟩, prog_12_method_49_code, 3, (some .int), 10, 1, 1, 1095, 69, 1093, 1094),
  (⟨"HedgeGateModel", "laysTalks", "()I"⟩, prog_12_method_50_code, 8, (some .int), 10, 0, 1, 1123, 69, 1122, 46),
  (⟨"HedgeGateModel", "talk", "(I)I"⟩, prog_12_method_51_code, 10, (some .int), 10, 1, 1, 1119, 69, 1117, 1118),
  (⟨"HedgeGateModel", "ones", "(I)I"⟩, prog_12_method_52_code, 3, (some .int), 10, 1, 0, 1130, 69, 1129, 0),
  (⟨"HedgeGateModel", "family", "(II)I"⟩, prog_12_method_53_code, 7, (some .int), 10, 2, 1, 1127, 69, 1125, 1126)]
def MT_4 : List MRow := [(⟨"HedgeGateModel", "ban", "(I)I"⟩, prog_12_method_54_code, 7, (some .int), 10, 1, 1, 1134, 69, 1132, 1133),
  (⟨"HedgeGateModel", "who", "(II)I"⟩, prog_12_method_55_code, 11, (some .int), 10, 2, 1, 1138, 69, 1136, 1137),
  (⟨"HedgeGateModel", "ways", "(II)I"⟩, prog_12_method_56_code, 5, (some .int), 10, 2, 1, 1146, 69, 1145, 47),
  (⟨"HedgeGateModel", "goneBy", "(III)I"⟩, prog_12_method_57_code, 8, (some .int), 10, 3, 1, 1142, 69, 1140, 1141),
  (⟨"HedgeGateModel", "image", "(I)I"⟩, prog_12_method_58_code, 3, (some .int), 10, 1, 1, 1150, 69, 1148, 1149),
  (⟨"HedgeGateModel", "restore", "(I)I"⟩, prog_12_method_59_code, 3, (some .int), 10, 1, 1, 1154, 69, 1152, 1153),
  (⟨"HedgeGateModel", "kind", "(I)I"⟩, prog_12_method_60_code, 2, (some .int), 10, 1, 1, 1158, 69, 1156, 1157),
  (⟨"HedgeGateModel", "as", "(II)I"⟩, prog_12_method_61_code, 5, (some .int), 10, 2, 1, 1162, 69, 1160, 1161),
  (⟨"HedgeGateModel", "leaves", "(I)V"⟩, prog_12_method_62_code, 2, none, 10, 1, 1, 1178, 69, 1177, 50),
  (⟨"HedgeGateModel", "plainSize", "(I)I"⟩, prog_12_method_63_code, 2, (some .int), 10, 1, 1, 1186, 69, 1185, 52),
  (⟨"HedgeGateModel", "plainMark", "(I)I"⟩, prog_12_method_64_code, 2, (some .int), 10, 1, 1, 1202, 69, 1201, 56),
  (⟨"HedgeGateModel", "caseMark", "(I)I"⟩, prog_12_method_65_code, 2, (some .int), 10, 1, 1, 1198, 69, 1197, 55),
  (⟨"HedgeGateModel", "strangeSize", "(I)I"⟩, prog_12_method_66_code, 2, (some .int), 10, 1, 1, 1182, 69, 1181, 51),
  (⟨"HedgeGateModel", "markOfPlain", "(I)I"⟩, prog_12_method_67_code, 3, (some .int), 10, 1, 1, 1194, 69, 1193, 54),
  (⟨"HedgeGateModel", "sizeOfPlain", "(I)I"⟩, prog_12_method_68_code, 3, (some .int), 10, 1, 1, 1190, 69, 1189, 53),
  (⟨"HedgeGateModel", "sizeOfStrange", "(I)I"⟩, prog_12_method_69_code, 2, (some .int), 10, 1, 1, 1174, 69, 1173, 49),
  (⟨"HedgeGateModel", "sizeOf", "(I)I"⟩, prog_12_method_70_code, 3, (some .int), 10, 1, 1, 1170, 69, 1169, 48),
  (⟨"HedgeGateModel", "markOf", "(I)I"⟩, prog_12_method_71_code, 3, (some .int), 10, 1, 1, 1206, 69, 1205, 57),
  (⟨"HedgeGateModel", "ask", "(II)I"⟩, prog_12_method_72_code, 3, (some .int), 10, 2, 1, 1166, 69, 1164, 1165),
  (⟨"HedgeGateModel", "trace", "(I)I"⟩, prog_12_method_73_code, 2, (some .int), 10, 1, 1, 1210, 69, 1208, 1209),
  (⟨"HedgeGateModel", "count", "(I)I"⟩, prog_12_method_74_code, 4, (some .int), 10, 1, 1, 1214, 69, 1212, 1213),
  (⟨"HedgeGateModel", "status", "()I"⟩, prog_12_method_75_code, 1, (some .int), 10, 0, 1, 1218, 69, 1216, 1217),
  (⟨"java/lang/Integer", "bitCount", "(I)I"⟩, prog_13_method_49_code, 1, (some .int), 11, 1, 0, 639, 73, 638, 0),
  (⟨"java/util/Arrays", "fill", "([II)V"⟩, prog_16_method_103_code, 4, none, 14, 2, 0, 402, 70, 401, 0),
  (⟨"HedgeGateLaw", "law", "([I)Z"⟩, code, 4, (some .boolean), 15, 1, 0, 0, 0, 0, 0)]
def MTL : List MRow := MT_0 ++ MT_1 ++ MT_2 ++ MT_3 ++ MT_4
def MTd : MRow := (⟨"", "", ""⟩, ByteArray.empty, 0, none, 0, 0, 0, 0, 0, 0, 0)
def MR (j : Nat) : MRow := MTL.getD j MTd
def nM : Nat := 185
abbrev AIns : Type := Nat × Nat × Nat × Nat × Int
abbrev PRow : Type := Nat × AIns × Nat
def SWL : List (Int × List Nat × Nat) := [(10, [104, 111, 139, 151, 165, 254, 254, 254, 254, 254, 178, 180, 198, 213, 241], 254), (101, [68, 70, 74, 74, 66, 74, 74, 74, 74, 72, 74, 64], 74), (0, [44, 54, 64, 74], 94), (0, [40, 50, 67], 77), (0, [52, 57, 65, 73, 81, 89, 97, 108, 116], 124), (0, [84, 86, 93, 100, 108, 116, 124, 136, 141], 146), (0, [164, 207, 250, 313, 336, 359, 372, 385, 418, 441, 464, 477, 510, 543, 566, 589, 612, 635, 668, 691, 724, 767, 790, 813, 836, 869, 902, 925, 948], 961)]
def pg_0 : List PRow := [(0, (2, 1, 0, 0, 0), 0), (1, (64, 4, 0, 0, 0), 216), (4, (57, 5, 0, 0, 0), 0)]
def pg_1 : List PRow := [(0, (2, 1, 0, 0, 0), 0), (1, (64, 4, 0, 0, 0), 209), (4, (2, 5, 0, 0, 0), 0), (5, (0, 7, 0, 0, 24), 0), (7, (60, 10, 5, 0, 0), 210), (10, (61, 13, 1, 0, 0), 236),
  (13, (2, 14, 0, 0, 0), 0), (14, (0, 15, 0, 0, 0), 0), (15, (40, 18, 1, 1, 0), 237), (18, (2, 19, 0, 0, 0), 0), (19, (0, 20, 0, 0, 0), 0), (20, (40, 23, 1, 2, 0), 238),
  (23, (0, 24, 0, 0, 0), 0), (24, (4, 25, 1, 0, 0), 0), (25, (1, 26, 1, 0, 0), 0), (26, (0, 28, 0, 0, 24), 0), (28, (34, 31, 50, 3, 0), 0), (31, (2, 32, 0, 0, 0), 0),
  (32, (39, 35, 1, 0, 0), 236), (35, (1, 36, 1, 0, 0), 0), (36, (58, 39, 0, 0, 0), 210), (39, (31, 40, 0, 0, 0), 0), (40, (63, 43, 0, 0, 1), 213), (43, (62, 44, 0, 0, 0), 0),
  (44, (7, 47, 1, 0, 1), 0), (47, (35, 50, 25, 0, 0), 0), (50, (57, 51, 0, 0, 0), 0)]
def pg_2 : List PRow := [(0, (2, 1, 0, 0, 0), 0), (1, (0, 2, 0, 0, 0), 0), (2, (40, 5, 1, 2, 0), 238), (5, (57, 6, 0, 0, 0), 0)]
def pg_3 : List PRow := [(0, (2, 1, 0, 0, 0), 0), (1, (39, 4, 1, 0, 0), 236), (4, (2, 5, 0, 0, 0), 0), (5, (37, 8, 1, 1, 0), 237), (8, (50, 9, 0, 0, 0), 0), (9, (5, 11, 4, 0, 0), 0),
  (11, (2, 13, 4, 0, 0), 0), (13, (1, 14, 2, 0, 0), 0), (14, (40, 17, 0, 0, 0), 217), (17, (2, 19, 4, 0, 0), 0), (19, (1, 20, 3, 0, 0), 0), (20, (40, 23, 0, 1, 0), 218),
  (23, (2, 25, 4, 0, 0), 0), (25, (2, 26, 1, 0, 0), 0), (26, (37, 29, 3, 11, 0), 133), (29, (40, 32, 0, 2, 0), 219), (32, (2, 34, 4, 0, 0), 0), (34, (2, 35, 1, 0, 0), 0),
  (35, (37, 38, 3, 12, 0), 139), (38, (40, 41, 0, 3, 0), 220), (41, (2, 43, 4, 0, 0), 0), (43, (2, 44, 1, 0, 0), 0), (44, (37, 47, 3, 13, 0), 143), (47, (40, 50, 0, 4, 0), 221),
  (50, (2, 52, 4, 0, 0), 0), (52, (2, 53, 1, 0, 0), 0), (53, (1, 54, 3, 0, 0), 0), (54, (53, 57, 16, 1, 0), 563), (57, (33, 60, 69, 0, 0), 0), (60, (2, 61, 1, 0, 0), 0),
  (61, (39, 64, 3, 6, 0), 114), (64, (1, 65, 3, 0, 0), 0), (65, (44, 66, 0, 0, 0), 0), (66, (35, 69, 71, 0, 0), 0), (69, (0, 71, 0, 0, -1000000), 564), (71, (40, 74, 0, 5, 0), 222),
  (74, (2, 75, 0, 0, 0), 0), (75, (2, 76, 0, 0, 0), 0), (76, (37, 79, 1, 1, 0), 237), (79, (0, 80, 0, 0, 1), 0), (80, (8, 81, 0, 0, 0), 0), (81, (0, 83, 0, 0, 24), 0),
  (83, (34, 86, 95, 3, 0), 0), (86, (2, 87, 0, 0, 0), 0), (87, (37, 90, 1, 1, 0), 237), (90, (0, 91, 0, 0, 1), 0), (91, (8, 92, 0, 0, 0), 0), (92, (35, 95, 96, 0, 0), 0),
  (95, (0, 96, 0, 0, 0), 0), (96, (40, 99, 1, 1, 0), 237), (99, (2, 100, 0, 0, 0), 0), (100, (2, 101, 0, 0, 0), 0), (101, (37, 104, 1, 2, 0), 238), (104, (0, 105, 0, 0, 1), 0),
  (105, (8, 106, 0, 0, 0), 0), (106, (0, 108, 0, 0, 24), 0), (108, (66, 111, 0, 0, 0), 565), (111, (40, 114, 1, 2, 0), 238), (114, (57, 115, 0, 0, 0), 0)]
def pg_4 : List PRow := [(0, (2, 1, 0, 0, 0), 0), (1, (2, 2, 0, 0, 0), 0), (2, (37, 5, 1, 1, 0), 237), (5, (33, 8, 17, 5, 0), 0), (8, (2, 9, 0, 0, 0), 0), (9, (37, 12, 1, 1, 0), 237),
  (12, (0, 13, 0, 0, 1), 0), (13, (9, 14, 0, 0, 0), 0), (14, (35, 17, 19, 0, 0), 0), (17, (0, 19, 0, 0, 23), 0), (19, (40, 22, 1, 1, 0), 237), (22, (2, 23, 0, 0, 0), 0),
  (23, (31, 24, 0, 0, 0), 0), (24, (37, 27, 1, 2, 0), 238), (27, (0, 28, 0, 0, 1), 0), (28, (9, 29, 0, 0, 0), 0), (29, (40, 32, 1, 2, 0), 238), (32, (2, 33, 0, 0, 0), 0),
  (33, (39, 36, 1, 0, 0), 236), (36, (2, 37, 0, 0, 0), 0), (37, (37, 40, 1, 1, 0), 237), (40, (50, 41, 0, 0, 0), 0), (41, (5, 42, 2, 0, 0), 0), (42, (2, 43, 1, 0, 0), 0),
  (43, (2, 44, 2, 0, 0), 0), (44, (37, 47, 0, 2, 0), 219), (47, (40, 50, 3, 11, 0), 133), (50, (2, 51, 1, 0, 0), 0), (51, (2, 52, 2, 0, 0), 0), (52, (37, 55, 0, 3, 0), 220),
  (55, (40, 58, 3, 12, 0), 139), (58, (2, 59, 1, 0, 0), 0), (59, (2, 60, 2, 0, 0), 0), (60, (37, 63, 0, 4, 0), 221), (63, (40, 66, 3, 13, 0), 143), (66, (2, 67, 1, 0, 0), 0),
  (67, (2, 68, 2, 0, 0), 0), (68, (37, 71, 0, 0, 0), 217), (71, (53, 74, 17, 1, 0), 600), (74, (33, 77, 88, 0, 0), 0), (77, (2, 78, 1, 0, 0), 0), (78, (39, 81, 3, 10, 0), 129),
  (81, (2, 82, 2, 0, 0), 0), (82, (37, 85, 0, 0, 0), 217), (85, (0, 87, 0, 0, -1000000), 564), (87, (45, 88, 0, 0, 0), 0), (88, (2, 89, 1, 0, 0), 0), (89, (2, 90, 2, 0, 0), 0),
  (90, (37, 93, 0, 1, 0), 218), (93, (53, 96, 16, 1, 0), 563), (96, (33, 99, 125, 0, 0), 0), (99, (2, 100, 1, 0, 0), 0), (100, (39, 103, 3, 6, 0), 114), (103, (2, 104, 2, 0, 0), 0),
  (104, (37, 107, 0, 1, 0), 218), (107, (2, 108, 2, 0, 0), 0), (108, (37, 111, 0, 5, 0), 222), (111, (45, 112, 0, 0, 0), 0), (112, (2, 113, 1, 0, 0), 0), (113, (39, 116, 3, 7, 0), 118),
  (116, (2, 117, 2, 0, 0), 0), (117, (37, 120, 0, 1, 0), 218), (120, (32, 121, 0, 0, 0), 0), (121, (44, 122, 0, 0, 0), 0), (122, (0, 123, 0, 0, 1), 0), (123, (9, 124, 0, 0, 0), 0),
  (124, (45, 125, 0, 0, 0), 0), (125, (57, 126, 0, 0, 0), 0)]
def pg_5 : List PRow := [(0, (2, 1, 0, 0, 0), 0), (1, (64, 4, 0, 0, 0), 318), (4, (2, 5, 0, 0, 0), 0), (5, (0, 7, 0, 0, 16), 0), (7, (59, 9, 0, 0, 0), 0), (9, (61, 12, 2, 0, 0), 319),
  (12, (2, 13, 0, 0, 0), 0), (13, (0, 14, 0, 0, 0), 0), (14, (40, 17, 2, 1, 0), 320), (17, (57, 18, 0, 0, 0), 0)]
def pg_6 : List PRow := [(0, (2, 1, 0, 0, 0), 0), (1, (0, 2, 0, 0, 0), 0), (2, (40, 5, 2, 1, 0), 320), (5, (2, 6, 0, 0, 0), 0), (6, (2, 7, 1, 0, 0), 0), (7, (2, 8, 1, 0, 0), 0),
  (8, (1, 9, 2, 0, 0), 0), (9, (2, 10, 3, 0, 0), 0), (10, (52, 13, 8, 3, 0), 798), (13, (1, 14, 2, 0, 0), 0), (14, (0, 15, 0, 0, 0), 0), (15, (52, 18, 9, 5, 0), 803),
  (18, (55, 19, 0, 0, 0), 0)]
def pg_7 : List PRow := [(0, (1, 1, 1, 0, 0), 0), (1, (33, 4, 27, 2, 0), 0), (4, (1, 5, 1, 0, 0), 0), (5, (2, 6, 0, 0, 0), 0), (6, (37, 9, 2, 1, 0), 320), (9, (34, 12, 27, 3, 0), 0),
  (12, (1, 13, 1, 0, 0), 0), (13, (0, 15, 0, 0, 16), 0), (15, (34, 18, 27, 3, 0), 0), (18, (2, 19, 0, 0, 0), 0), (19, (39, 22, 2, 0, 0), 319), (22, (1, 23, 1, 0, 0), 0),
  (23, (44, 24, 0, 0, 0), 0), (24, (35, 27, 29, 0, 0), 0), (27, (0, 29, 0, 0, -1000000), 820), (29, (55, 30, 0, 0, 0), 0)]
def pg_8 : List PRow := [(0, (2, 1, 0, 0, 0), 0), (1, (1, 2, 1, 0, 0), 0), (2, (53, 5, 16, 1, 0), 801), (5, (33, 8, 17, 0, 0), 0), (8, (2, 9, 0, 0, 0), 0), (9, (39, 12, 3, 4, 0), 104),
  (12, (1, 13, 1, 0, 0), 0), (13, (44, 14, 0, 0, 0), 0), (14, (35, 17, 18, 0, 0), 0), (17, (0, 18, 0, 0, 0), 0), (18, (4, 19, 3, 0, 0), 0), (19, (0, 20, 0, 0, 0), 0),
  (20, (4, 22, 4, 0, 0), 0), (22, (1, 24, 4, 0, 0), 0), (24, (0, 26, 0, 0, 6), 0), (26, (34, 29, 66, 3, 0), 0), (29, (1, 30, 3, 0, 0), 0), (30, (33, 33, 66, 5, 0), 0),
  (33, (1, 34, 3, 0, 0), 0), (34, (0, 36, 0, 0, 6), 0), (36, (34, 39, 66, 3, 0), 0), (39, (1, 40, 3, 0, 0), 0), (40, (2, 41, 2, 0, 0), 0), (41, (51, 42, 0, 0, 0), 0),
  (42, (34, 45, 66, 3, 0), 0), (45, (2, 46, 2, 0, 0), 0), (46, (1, 47, 3, 0, 0), 0), (47, (44, 48, 0, 0, 0), 0), (48, (33, 51, 55, 0, 0), 0), (51, (2, 52, 2, 0, 0), 0),
  (52, (1, 53, 3, 0, 0), 0), (53, (44, 54, 0, 0, 0), 0), (54, (55, 55, 0, 0, 0), 0), (55, (1, 56, 3, 0, 0), 0), (56, (52, 59, 106, 1, 1), 802), (59, (4, 60, 3, 0, 0), 0),
  (60, (7, 63, 4, 0, 1), 0), (63, (35, 66, 22, 0, 0), 0), (66, (2, 67, 2, 0, 0), 0), (67, (51, 68, 0, 0, 0), 0), (68, (33, 71, 77, 5, 0), 0), (71, (2, 72, 2, 0, 0), 0),
  (72, (0, 73, 0, 0, 0), 0), (73, (44, 74, 0, 0, 0), 0), (74, (35, 77, 78, 0, 0), 0), (77, (0, 78, 0, 0, 0), 0), (78, (55, 79, 0, 0, 0), 0)]
def pg_9 : List PRow := [(0, (1, 2, 4, 0, 0), 0), (2, (0, 4, 0, 0, 8), 0), (4, (34, 7, 15, 4, 0), 0), (7, (2, 8, 1, 0, 0), 0), (8, (1, 9, 3, 0, 0), 0), (9, (53, 12, 16, 1, 0), 801),
  (12, (33, 15, 17, 1, 0), 0), (15, (0, 16, 0, 0, 0), 0), (16, (55, 17, 0, 0, 0), 0), (17, (2, 18, 0, 0, 0), 0), (18, (1, 19, 2, 0, 0), 0), (19, (53, 22, 10, 1, 0), 806),
  (22, (1, 24, 4, 0, 0), 0), (24, (0, 25, 0, 0, 1), 0), (25, (8, 26, 0, 0, 0), 0), (26, (4, 28, 5, 0, 0), 0), (28, (1, 29, 2, 0, 0), 0), (29, (36, 104, 0, 0, 0), 0),
  (104, (2, 105, 1, 0, 0), 0), (105, (39, 108, 3, 7, 0), 119), (108, (1, 109, 3, 0, 0), 0), (109, (44, 110, 0, 0, 0), 0), (110, (55, 111, 0, 0, 0), 0), (111, (2, 112, 0, 0, 0), 0),
  (112, (2, 113, 1, 0, 0), 0), (113, (0, 115, 0, 0, 10), 0), (115, (1, 116, 3, 0, 0), 0), (116, (1, 118, 5, 0, 0), 0), (118, (52, 121, 9, 5, 0), 803), (121, (2, 122, 0, 0, 0), 0),
  (122, (2, 123, 1, 0, 0), 0), (123, (2, 124, 1, 0, 0), 0), (124, (1, 125, 3, 0, 0), 0), (125, (43, 128, 3, 1, 0), 810), (128, (52, 131, 8, 3, 0), 798), (131, (1, 132, 3, 0, 0), 0),
  (132, (1, 134, 5, 0, 0), 0), (134, (52, 137, 9, 5, 0), 803), (137, (8, 138, 0, 0, 0), 0), (138, (55, 139, 0, 0, 0), 0), (139, (2, 140, 0, 0, 0), 0), (140, (2, 141, 1, 0, 0), 0),
  (141, (0, 143, 0, 0, 11), 0), (143, (1, 144, 3, 0, 0), 0), (144, (1, 146, 5, 0, 0), 0), (146, (52, 149, 9, 5, 0), 803), (149, (19, 150, 0, 0, 0), 0), (150, (55, 151, 0, 0, 0), 0),
  (151, (2, 152, 0, 0, 0), 0), (152, (2, 153, 1, 0, 0), 0), (153, (0, 155, 0, 0, 10), 0), (155, (1, 156, 3, 0, 0), 0), (156, (1, 158, 5, 0, 0), 0), (158, (52, 161, 9, 5, 0), 803),
  (161, (0, 163, 0, 0, 100), 0), (163, (9, 164, 0, 0, 0), 0), (164, (55, 165, 0, 0, 0), 0), (165, (0, 166, 0, 0, 2), 0), (166, (2, 167, 0, 0, 0), 0), (167, (2, 168, 1, 0, 0), 0),
  (168, (0, 170, 0, 0, 13), 0), (170, (1, 171, 3, 0, 0), 0), (171, (1, 173, 5, 0, 0), 0), (173, (52, 176, 9, 5, 0), 803), (176, (10, 177, 0, 0, 0), 0), (177, (55, 178, 0, 0, 0), 0),
  (178, (1, 179, 3, 0, 0), 0), (179, (55, 180, 0, 0, 0), 0), (180, (2, 181, 0, 0, 0), 0), (181, (2, 182, 1, 0, 0), 0), (182, (0, 184, 0, 0, 20), 0), (184, (1, 185, 3, 0, 0), 0),
  (185, (1, 187, 5, 0, 0), 0), (187, (52, 190, 9, 5, 0), 803), (190, (2, 191, 1, 0, 0), 0), (191, (39, 194, 3, 5, 0), 108), (194, (1, 195, 3, 0, 0), 0), (195, (44, 196, 0, 0, 0), 0),
  (196, (8, 197, 0, 0, 0), 0), (197, (55, 198, 0, 0, 0), 0), (198, (2, 199, 0, 0, 0), 0), (199, (2, 200, 1, 0, 0), 0), (200, (0, 202, 0, 0, 21), 0), (202, (1, 203, 3, 0, 0), 0),
  (203, (1, 205, 5, 0, 0), 0), (205, (52, 208, 9, 5, 0), 803), (208, (0, 211, 0, 0, 1000), 0), (211, (9, 212, 0, 0, 0), 0), (212, (55, 213, 0, 0, 0), 0), (213, (2, 214, 0, 0, 0), 0),
  (214, (2, 215, 1, 0, 0), 0), (215, (0, 217, 0, 0, 20), 0), (217, (1, 218, 3, 0, 0), 0), (218, (1, 220, 5, 0, 0), 0), (220, (52, 223, 9, 5, 0), 803), (223, (2, 224, 0, 0, 0), 0),
  (224, (2, 225, 1, 0, 0), 0), (225, (2, 226, 1, 0, 0), 0), (226, (1, 227, 3, 0, 0), 0), (227, (43, 230, 2, 1, 0), 811), (230, (52, 233, 8, 3, 0), 798), (233, (1, 234, 3, 0, 0), 0),
  (234, (1, 236, 5, 0, 0), 0), (236, (52, 239, 9, 5, 0), 803), (239, (9, 240, 0, 0, 0), 0), (240, (55, 241, 0, 0, 0), 0), (241, (0, 242, 0, 0, 2), 0), (242, (2, 243, 0, 0, 0), 0),
  (243, (2, 244, 1, 0, 0), 0), (244, (0, 246, 0, 0, 21), 0), (246, (1, 247, 3, 0, 0), 0), (247, (1, 249, 5, 0, 0), 0), (249, (52, 252, 9, 5, 0), 803), (252, (10, 253, 0, 0, 0), 0),
  (253, (55, 254, 0, 0, 0), 0), (254, (0, 255, 0, 0, 0), 0), (255, (55, 256, 0, 0, 0), 0)]
def pg_10 : List PRow := [(0, (2, 1, 0, 0, 0), 0), (1, (37, 4, 2, 1, 0), 320), (4, (33, 7, 36, 2, 0), 0), (7, (2, 8, 0, 0, 0), 0), (8, (37, 11, 2, 1, 0), 320), (11, (0, 13, 0, 0, 16), 0),
  (13, (34, 16, 36, 3, 0), 0), (16, (2, 17, 0, 0, 0), 0), (17, (39, 20, 2, 0, 0), 319), (20, (2, 21, 0, 0, 0), 0), (21, (37, 24, 2, 1, 0), 320), (24, (1, 25, 1, 0, 0), 0),
  (25, (45, 26, 0, 0, 0), 0), (26, (2, 27, 0, 0, 0), 0), (27, (31, 28, 0, 0, 0), 0), (28, (37, 31, 2, 1, 0), 320), (31, (0, 32, 0, 0, 1), 0), (32, (8, 33, 0, 0, 0), 0),
  (33, (40, 36, 2, 1, 0), 320), (36, (57, 37, 0, 0, 0), 0)]
def pg_11 : List PRow := [(0, (2, 1, 0, 0, 0), 0), (1, (64, 4, 0, 0, 0), 89), (4, (2, 5, 0, 0, 0), 0), (5, (0, 6, 0, 0, 0), 0), (6, (41, 9, 3, 0, 0), 90), (9, (2, 10, 0, 0, 0), 0),
  (10, (0, 11, 0, 0, 1), 0), (11, (40, 14, 3, 1, 0), 92), (14, (2, 15, 0, 0, 0), 0), (15, (0, 16, 0, 0, 4), 0), (16, (59, 18, 0, 0, 0), 0), (18, (61, 21, 3, 2, 0), 95),
  (21, (2, 22, 0, 0, 0), 0), (22, (0, 23, 0, 0, 0), 0), (23, (40, 26, 3, 3, 0), 97), (26, (2, 27, 0, 0, 0), 0), (27, (0, 29, 0, 0, 8), 0), (29, (59, 31, 0, 0, 0), 0),
  (31, (61, 34, 3, 4, 0), 103), (34, (2, 35, 0, 0, 0), 0), (35, (0, 37, 0, 0, 8), 0), (37, (59, 39, 0, 0, 0), 0), (39, (61, 42, 3, 5, 0), 106), (42, (2, 43, 0, 0, 0), 0),
  (43, (0, 45, 0, 0, 8), 0), (45, (59, 47, 0, 0, 0), 0), (47, (61, 50, 3, 6, 0), 112), (50, (2, 51, 0, 0, 0), 0), (51, (0, 53, 0, 0, 8), 0), (53, (59, 55, 0, 0, 0), 0),
  (55, (61, 58, 3, 7, 0), 117), (58, (2, 59, 0, 0, 0), 0), (59, (0, 60, 0, 0, 0), 0), (60, (40, 63, 3, 8, 0), 121), (63, (2, 64, 0, 0, 0), 0), (64, (0, 65, 0, 0, 5), 0),
  (65, (59, 67, 0, 0, 0), 0), (67, (61, 70, 3, 9, 0), 124), (70, (2, 71, 0, 0, 0), 0), (71, (0, 72, 0, 0, 5), 0), (72, (59, 74, 0, 0, 0), 0), (74, (61, 77, 3, 10, 0), 128),
  (77, (2, 78, 0, 0, 0), 0), (78, (0, 79, 0, 0, 0), 0), (79, (40, 82, 3, 11, 0), 131), (82, (2, 83, 0, 0, 0), 0), (83, (0, 84, 0, 0, -1), 0), (84, (40, 87, 3, 12, 0), 136),
  (87, (2, 88, 0, 0, 0), 0), (88, (0, 89, 0, 0, 0), 0), (89, (40, 92, 3, 13, 0), 141), (92, (57, 93, 0, 0, 0), 0)]
def pg_12 : List PRow := [(0, (2, 1, 0, 0, 0), 0), (1, (0, 2, 0, 0, 1), 0), (2, (41, 5, 3, 0, 0), 90), (5, (2, 6, 0, 0, 0), 0), (6, (0, 7, 0, 0, 0), 0), (7, (40, 10, 3, 3, 0), 97),
  (10, (2, 11, 0, 0, 0), 0), (11, (0, 12, 0, 0, 0), 0), (12, (40, 15, 3, 8, 0), 121), (15, (2, 16, 0, 0, 0), 0), (16, (0, 17, 0, 0, 0), 0), (17, (40, 20, 3, 11, 0), 131),
  (20, (2, 21, 0, 0, 0), 0), (21, (0, 22, 0, 0, -1), 0), (22, (40, 25, 3, 12, 0), 136), (25, (2, 26, 0, 0, 0), 0), (26, (0, 27, 0, 0, 0), 0), (27, (40, 30, 3, 13, 0), 141),
  (30, (57, 31, 0, 0, 0), 0)]
def pg_13 : List PRow := [(0, (2, 1, 0, 0, 0), 0), (1, (37, 4, 3, 3, 0), 97), (4, (33, 7, 16, 2, 0), 0), (7, (2, 8, 0, 0, 0), 0), (8, (37, 11, 3, 3, 0), 97), (11, (0, 13, 0, 0, 8), 0),
  (13, (34, 16, 17, 2, 0), 0), (16, (57, 17, 0, 0, 0), 0), (17, (2, 18, 0, 0, 0), 0), (18, (39, 21, 3, 4, 0), 103), (21, (2, 22, 0, 0, 0), 0), (22, (37, 25, 3, 3, 0), 97),
  (25, (1, 26, 1, 0, 0), 0), (26, (45, 27, 0, 0, 0), 0), (27, (2, 28, 0, 0, 0), 0), (28, (39, 31, 3, 5, 0), 106), (31, (2, 32, 0, 0, 0), 0), (32, (37, 35, 3, 3, 0), 97),
  (35, (1, 36, 2, 0, 0), 0), (36, (45, 37, 0, 0, 0), 0), (37, (2, 38, 0, 0, 0), 0), (38, (39, 41, 3, 6, 0), 112), (41, (2, 42, 0, 0, 0), 0), (42, (37, 45, 3, 3, 0), 97),
  (45, (0, 47, 0, 0, -1000000), 485), (47, (45, 48, 0, 0, 0), 0), (48, (2, 49, 0, 0, 0), 0), (49, (39, 52, 3, 7, 0), 117), (52, (2, 53, 0, 0, 0), 0), (53, (37, 56, 3, 3, 0), 97),
  (56, (0, 57, 0, 0, 0), 0), (57, (45, 58, 0, 0, 0), 0), (58, (2, 59, 0, 0, 0), 0), (59, (31, 60, 0, 0, 0), 0), (60, (37, 63, 3, 3, 0), 97), (63, (0, 64, 0, 0, 1), 0),
  (64, (8, 65, 0, 0, 0), 0), (65, (40, 68, 3, 3, 0), 97), (68, (57, 69, 0, 0, 0), 0)]
def pg_14 : List PRow := [(0, (2, 1, 0, 0, 0), 0), (1, (37, 4, 3, 8, 0), 121), (4, (33, 7, 15, 2, 0), 0), (7, (2, 8, 0, 0, 0), 0), (8, (37, 11, 3, 8, 0), 121), (11, (0, 12, 0, 0, 5), 0),
  (12, (34, 15, 16, 2, 0), 0), (15, (57, 16, 0, 0, 0), 0), (16, (2, 17, 0, 0, 0), 0), (17, (39, 20, 3, 9, 0), 124), (20, (2, 21, 0, 0, 0), 0), (21, (37, 24, 3, 8, 0), 121),
  (24, (1, 25, 1, 0, 0), 0), (25, (45, 26, 0, 0, 0), 0), (26, (2, 27, 0, 0, 0), 0), (27, (39, 30, 3, 10, 0), 128), (30, (2, 31, 0, 0, 0), 0), (31, (37, 34, 3, 8, 0), 121),
  (34, (0, 36, 0, 0, -1000000), 485), (36, (45, 37, 0, 0, 0), 0), (37, (2, 38, 0, 0, 0), 0), (38, (31, 39, 0, 0, 0), 0), (39, (37, 42, 3, 8, 0), 121), (42, (0, 43, 0, 0, 1), 0),
  (43, (8, 44, 0, 0, 0), 0), (44, (40, 47, 3, 8, 0), 121), (47, (57, 48, 0, 0, 0), 0)]
def pg_15 : List PRow := [(0, (2, 1, 0, 0, 0), 0), (1, (2, 2, 1, 0, 0), 0), (2, (37, 5, 3, 0, 0), 90), (5, (41, 8, 3, 0, 0), 90), (8, (2, 9, 0, 0, 0), 0), (9, (2, 10, 1, 0, 0), 0),
  (10, (37, 13, 3, 1, 0), 92), (13, (40, 16, 3, 1, 0), 92), (16, (2, 17, 0, 0, 0), 0), (17, (2, 18, 1, 0, 0), 0), (18, (37, 21, 3, 3, 0), 97), (21, (40, 24, 3, 3, 0), 97),
  (24, (2, 25, 0, 0, 0), 0), (25, (2, 26, 1, 0, 0), 0), (26, (37, 29, 3, 8, 0), 121), (29, (40, 32, 3, 8, 0), 121), (32, (2, 33, 0, 0, 0), 0), (33, (2, 34, 1, 0, 0), 0),
  (34, (37, 37, 3, 11, 0), 131), (37, (40, 40, 3, 11, 0), 131), (40, (2, 41, 0, 0, 0), 0), (41, (2, 42, 1, 0, 0), 0), (42, (37, 45, 3, 12, 0), 136), (45, (40, 48, 3, 12, 0), 136),
  (48, (2, 49, 0, 0, 0), 0), (49, (2, 50, 1, 0, 0), 0), (50, (37, 53, 3, 13, 0), 141), (53, (40, 56, 3, 13, 0), 141), (56, (2, 57, 1, 0, 0), 0), (57, (39, 60, 3, 2, 0), 95),
  (60, (0, 61, 0, 0, 0), 0), (61, (2, 62, 0, 0, 0), 0), (62, (39, 65, 3, 2, 0), 95), (65, (0, 66, 0, 0, 0), 0), (66, (0, 67, 0, 0, 4), 0), (67, (54, 70, 0, 0, 0), 499),
  (70, (2, 71, 1, 0, 0), 0), (71, (39, 74, 3, 4, 0), 103), (74, (0, 75, 0, 0, 0), 0), (75, (2, 76, 0, 0, 0), 0), (76, (39, 79, 3, 4, 0), 103), (79, (0, 80, 0, 0, 0), 0),
  (80, (0, 82, 0, 0, 8), 0), (82, (54, 85, 0, 0, 0), 499), (85, (2, 86, 1, 0, 0), 0), (86, (39, 89, 3, 5, 0), 106), (89, (0, 90, 0, 0, 0), 0), (90, (2, 91, 0, 0, 0), 0),
  (91, (39, 94, 3, 5, 0), 106), (94, (0, 95, 0, 0, 0), 0), (95, (0, 97, 0, 0, 8), 0), (97, (54, 100, 0, 0, 0), 499), (100, (2, 101, 1, 0, 0), 0), (101, (39, 104, 3, 6, 0), 112),
  (104, (0, 105, 0, 0, 0), 0), (105, (2, 106, 0, 0, 0), 0), (106, (39, 109, 3, 6, 0), 112), (109, (0, 110, 0, 0, 0), 0), (110, (0, 112, 0, 0, 8), 0), (112, (54, 115, 0, 0, 0), 499),
  (115, (2, 116, 1, 0, 0), 0), (116, (39, 119, 3, 7, 0), 117), (119, (0, 120, 0, 0, 0), 0), (120, (2, 121, 0, 0, 0), 0), (121, (39, 124, 3, 7, 0), 117), (124, (0, 125, 0, 0, 0), 0),
  (125, (0, 127, 0, 0, 8), 0), (127, (54, 130, 0, 0, 0), 499), (130, (2, 131, 1, 0, 0), 0), (131, (39, 134, 3, 9, 0), 124), (134, (0, 135, 0, 0, 0), 0), (135, (2, 136, 0, 0, 0), 0),
  (136, (39, 139, 3, 9, 0), 124), (139, (0, 140, 0, 0, 0), 0), (140, (0, 141, 0, 0, 5), 0), (141, (54, 144, 0, 0, 0), 499), (144, (2, 145, 1, 0, 0), 0), (145, (39, 148, 3, 10, 0), 128),
  (148, (0, 149, 0, 0, 0), 0), (149, (2, 150, 0, 0, 0), 0), (150, (39, 153, 3, 10, 0), 128), (153, (0, 154, 0, 0, 0), 0), (154, (0, 155, 0, 0, 5), 0), (155, (54, 158, 0, 0, 0), 499),
  (158, (57, 159, 0, 0, 0), 0)]
def pg_16 : List PRow := [(0, (1, 1, 1, 0, 0), 0), (1, (33, 4, 22, 2, 0), 0), (4, (1, 5, 1, 0, 0), 0), (5, (2, 6, 0, 0, 0), 0), (6, (37, 9, 3, 3, 0), 97), (9, (34, 12, 22, 3, 0), 0),
  (12, (1, 13, 1, 0, 0), 0), (13, (0, 15, 0, 0, 8), 0), (15, (34, 18, 22, 3, 0), 0), (18, (0, 19, 0, 0, 1), 0), (19, (35, 22, 23, 0, 0), 0), (22, (0, 23, 0, 0, 0), 0),
  (23, (56, 24, 0, 0, 0), 0)]
def pg_17 : List PRow := [(0, (1, 1, 1, 0, 0), 0), (1, (33, 4, 21, 2, 0), 0), (4, (1, 5, 1, 0, 0), 0), (5, (2, 6, 0, 0, 0), 0), (6, (37, 9, 3, 8, 0), 121), (9, (34, 12, 21, 3, 0), 0),
  (12, (1, 13, 1, 0, 0), 0), (13, (0, 14, 0, 0, 5), 0), (14, (34, 17, 21, 3, 0), 0), (17, (0, 18, 0, 0, 1), 0), (18, (35, 21, 22, 0, 0), 0), (21, (0, 22, 0, 0, 0), 0),
  (22, (56, 23, 0, 0, 0), 0)]
def pg_18 : List PRow := [(0, (2, 1, 0, 0, 0), 0), (1, (1, 2, 1, 0, 0), 0), (2, (53, 5, 17, 1, 0), 524), (5, (33, 8, 23, 0, 0), 0), (8, (2, 9, 0, 0, 0), 0), (9, (39, 12, 3, 10, 0), 128),
  (12, (1, 13, 1, 0, 0), 0), (13, (44, 14, 0, 0, 0), 0), (14, (0, 16, 0, 0, -1000000), 485), (16, (34, 19, 23, 0, 0), 0), (19, (0, 20, 0, 0, 1), 0), (20, (35, 23, 24, 0, 0), 0),
  (23, (0, 24, 0, 0, 0), 0), (24, (56, 25, 0, 0, 0), 0)]
def pg_19 : List PRow := [(0, (0, 1, 0, 0, 0), 0), (1, (4, 2, 1, 0, 0), 0), (2, (0, 3, 0, 0, 0), 0), (3, (4, 4, 2, 0, 0), 0), (4, (1, 5, 2, 0, 0), 0), (5, (2, 6, 0, 0, 0), 0),
  (6, (37, 9, 3, 8, 0), 121), (9, (34, 12, 32, 3, 0), 0), (12, (2, 13, 0, 0, 0), 0), (13, (1, 14, 2, 0, 0), 0), (14, (53, 17, 18, 1, 0), 633), (17, (33, 20, 26, 0, 0), 0),
  (20, (1, 21, 1, 0, 0), 0), (21, (0, 22, 0, 0, 1), 0), (22, (1, 23, 2, 0, 0), 0), (23, (14, 24, 0, 0, 0), 0), (24, (12, 25, 0, 0, 0), 0), (25, (4, 26, 1, 0, 0), 0),
  (26, (7, 29, 2, 0, 1), 0), (29, (35, 32, 4, 0, 0), 0), (32, (1, 33, 1, 0, 0), 0), (33, (55, 34, 0, 0, 0), 0)]
def pg_20 : List PRow := [(0, (1, 1, 2, 0, 0), 0), (1, (0, 3, 0, 0, -1000000), 485), (3, (34, 6, 41, 0, 0), 0), (6, (1, 7, 3, 0, 0), 0), (7, (1, 8, 2, 0, 0), 0), (8, (9, 9, 0, 0, 0), 0),
  (9, (2, 10, 0, 0, 0), 0), (10, (37, 13, 3, 1, 0), 92), (13, (34, 16, 41, 3, 0), 0), (16, (2, 17, 0, 0, 0), 0), (17, (1, 18, 1, 0, 0), 0), (18, (53, 21, 16, 1, 0), 541),
  (21, (33, 24, 41, 0, 0), 0), (24, (2, 25, 0, 0, 0), 0), (25, (39, 28, 3, 4, 0), 103), (28, (1, 29, 1, 0, 0), 0), (29, (44, 30, 0, 0, 0), 0), (30, (0, 31, 0, 0, 4), 0),
  (31, (52, 34, 107, 2, 1), 549), (34, (33, 37, 41, 1, 0), 0), (37, (0, 38, 0, 0, 1), 0), (38, (35, 41, 42, 0, 0), 0), (41, (0, 42, 0, 0, 0), 0), (42, (56, 43, 0, 0, 0), 0)]
def pg_21 : List PRow := [(0, (2, 1, 0, 0, 0), 0), (1, (1, 2, 1, 0, 0), 0), (2, (53, 5, 16, 1, 0), 541), (5, (33, 8, 10, 1, 0), 0), (8, (0, 9, 0, 0, 0), 0), (9, (56, 10, 0, 0, 0), 0),
  (10, (1, 11, 2, 0, 0), 0), (11, (33, 14, 19, 2, 0), 0), (14, (1, 15, 2, 0, 0), 0), (15, (0, 16, 0, 0, 4), 0), (16, (34, 19, 21, 2, 0), 0), (19, (0, 20, 0, 0, 1), 0),
  (20, (56, 21, 0, 0, 0), 0), (21, (2, 22, 0, 0, 0), 0), (22, (39, 25, 3, 4, 0), 103), (25, (1, 26, 1, 0, 0), 0), (26, (44, 27, 0, 0, 0), 0), (27, (0, 28, 0, 0, 3), 0),
  (28, (34, 31, 43, 1, 0), 0), (31, (2, 32, 0, 0, 0), 0), (32, (39, 35, 3, 5, 0), 106), (35, (1, 36, 1, 0, 0), 0), (36, (44, 37, 0, 0, 0), 0), (37, (1, 38, 2, 0, 0), 0),
  (38, (34, 41, 43, 1, 0), 0), (41, (0, 42, 0, 0, 0), 0), (42, (56, 43, 0, 0, 0), 0), (43, (2, 44, 0, 0, 0), 0), (44, (39, 47, 3, 2, 0), 95), (47, (1, 48, 2, 0, 0), 0),
  (48, (44, 49, 0, 0, 0), 0), (49, (2, 50, 0, 0, 0), 0), (50, (39, 53, 3, 5, 0), 106), (53, (1, 54, 1, 0, 0), 0), (54, (44, 55, 0, 0, 0), 0), (55, (52, 58, 105, 2, 1), 542),
  (58, (56, 59, 0, 0, 0), 0)]
def pg_22 : List PRow := [(0, (0, 1, 0, 0, 0), 0), (1, (4, 3, 4, 0, 0), 0), (3, (0, 4, 0, 0, 0), 0), (4, (4, 6, 5, 0, 0), 0), (6, (1, 8, 5, 0, 0), 0), (8, (2, 9, 0, 0, 0), 0),
  (9, (37, 12, 3, 3, 0), 97), (12, (34, 15, 61, 3, 0), 0), (15, (1, 17, 5, 0, 0), 0), (17, (2, 18, 1, 0, 0), 0), (18, (51, 19, 0, 0, 0), 0), (19, (34, 22, 61, 3, 0), 0),
  (22, (2, 23, 0, 0, 0), 0), (23, (1, 25, 5, 0, 0), 0), (25, (1, 26, 3, 0, 0), 0), (26, (53, 29, 21, 2, 0), 537), (29, (33, 32, 55, 0, 0), 0), (32, (2, 33, 0, 0, 0), 0),
  (33, (1, 35, 5, 0, 0), 0), (35, (2, 36, 1, 0, 0), 0), (36, (1, 38, 5, 0, 0), 0), (38, (44, 39, 0, 0, 0), 0), (39, (1, 40, 2, 0, 0), 0), (40, (53, 43, 20, 3, 0), 545),
  (43, (33, 46, 55, 1, 0), 0), (46, (1, 48, 4, 0, 0), 0), (48, (0, 49, 0, 0, 1), 0), (49, (1, 51, 5, 0, 0), 0), (51, (14, 52, 0, 0, 0), 0), (52, (12, 53, 0, 0, 0), 0),
  (53, (4, 55, 4, 0, 0), 0), (55, (7, 58, 5, 0, 1), 0), (58, (35, 61, 6, 0, 0), 0), (61, (1, 63, 4, 0, 0), 0), (63, (55, 64, 0, 0, 0), 0)]
def pg_23 : List PRow := [(0, (2, 1, 0, 0, 0), 0), (1, (2, 2, 0, 0, 0), 0), (2, (39, 5, 3, 6, 0), 112), (5, (2, 6, 0, 0, 0), 0), (6, (37, 9, 3, 11, 0), 131), (9, (2, 10, 0, 0, 0), 0),
  (10, (37, 13, 3, 12, 0), 136), (13, (53, 16, 22, 3, 0), 533), (16, (55, 17, 0, 0, 0), 0)]
def pg_24 : List PRow := [(0, (2, 1, 0, 0, 0), 0), (1, (1, 2, 1, 0, 0), 0), (2, (53, 5, 17, 1, 0), 524), (5, (33, 8, 22, 0, 0), 0), (8, (2, 9, 0, 0, 0), 0), (9, (53, 12, 23, 0, 0), 529),
  (12, (2, 13, 0, 0, 0), 0), (13, (39, 16, 3, 9, 0), 124), (16, (1, 17, 1, 0, 0), 0), (17, (44, 18, 0, 0, 0), 0), (18, (11, 19, 0, 0, 0), 0), (19, (35, 22, 23, 0, 0), 0),
  (22, (0, 23, 0, 0, 0), 0), (23, (55, 24, 0, 0, 0), 0)]
def pg_25 : List PRow := [(0, (2, 1, 0, 0, 0), 0), (1, (1, 2, 1, 0, 0), 0), (2, (53, 5, 16, 1, 0), 541), (5, (33, 8, 22, 0, 0), 0), (8, (2, 9, 0, 0, 0), 0), (9, (39, 12, 3, 4, 0), 103),
  (12, (1, 13, 1, 0, 0), 0), (13, (44, 14, 0, 0, 0), 0), (14, (0, 15, 0, 0, 5), 0), (15, (34, 18, 22, 1, 0), 0), (18, (0, 19, 0, 0, 2), 0), (19, (35, 22, 23, 0, 0), 0),
  (22, (0, 23, 0, 0, 1), 0), (23, (55, 24, 0, 0, 0), 0)]
def pg_26 : List PRow := [(0, (2, 1, 0, 0, 0), 0), (1, (1, 2, 1, 0, 0), 0), (2, (53, 5, 16, 1, 0), 541), (5, (33, 8, 22, 0, 0), 0), (8, (2, 9, 0, 0, 0), 0), (9, (39, 12, 3, 4, 0), 103),
  (12, (1, 13, 1, 0, 0), 0), (13, (44, 14, 0, 0, 0), 0), (14, (0, 15, 0, 0, 2), 0), (15, (34, 18, 22, 1, 0), 0), (18, (0, 19, 0, 0, 1), 0), (19, (35, 22, 23, 0, 0), 0),
  (22, (0, 23, 0, 0, 0), 0), (23, (55, 24, 0, 0, 0), 0)]
def pg_27 : List PRow := [(0, (2, 1, 0, 0, 0), 0), (1, (1, 2, 1, 0, 0), 0), (2, (53, 5, 17, 1, 0), 524), (5, (33, 8, 16, 0, 0), 0), (8, (2, 9, 0, 0, 0), 0), (9, (1, 10, 2, 0, 0), 0),
  (10, (53, 13, 16, 1, 0), 541), (13, (33, 16, 17, 1, 0), 0), (16, (57, 17, 0, 0, 0), 0), (17, (2, 18, 0, 0, 0), 0), (18, (39, 21, 3, 10, 0), 128), (21, (1, 22, 1, 0, 0), 0),
  (22, (1, 23, 2, 0, 0), 0), (23, (45, 24, 0, 0, 0), 0), (24, (2, 25, 0, 0, 0), 0), (25, (39, 28, 3, 6, 0), 112), (28, (1, 29, 2, 0, 0), 0), (29, (2, 30, 0, 0, 0), 0),
  (30, (37, 33, 3, 11, 0), 131), (33, (45, 34, 0, 0, 0), 0), (34, (2, 35, 0, 0, 0), 0), (35, (39, 38, 3, 7, 0), 117), (38, (1, 39, 2, 0, 0), 0), (39, (32, 40, 0, 0, 0), 0),
  (40, (44, 41, 0, 0, 0), 0), (41, (0, 42, 0, 0, 1), 0), (42, (8, 43, 0, 0, 0), 0), (43, (45, 44, 0, 0, 0), 0), (44, (2, 45, 0, 0, 0), 0), (45, (2, 46, 0, 0, 0), 0),
  (46, (39, 49, 3, 5, 0), 106), (49, (1, 50, 2, 0, 0), 0), (50, (44, 51, 0, 0, 0), 0), (51, (40, 54, 3, 12, 0), 136), (54, (2, 55, 0, 0, 0), 0), (55, (31, 56, 0, 0, 0), 0),
  (56, (37, 59, 3, 13, 0), 141), (59, (2, 60, 0, 0, 0), 0), (60, (1, 61, 2, 0, 0), 0), (61, (53, 64, 26, 1, 0), 572), (64, (8, 65, 0, 0, 0), 0), (65, (40, 68, 3, 13, 0), 141),
  (68, (2, 69, 0, 0, 0), 0), (69, (31, 70, 0, 0, 0), 0), (70, (37, 73, 3, 11, 0), 131), (73, (2, 74, 0, 0, 0), 0), (74, (1, 75, 2, 0, 0), 0), (75, (53, 78, 25, 1, 0), 576),
  (78, (8, 79, 0, 0, 0), 0), (79, (40, 82, 3, 11, 0), 131), (82, (57, 83, 0, 0, 0), 0)]
def pg_28 : List PRow := [(0, (2, 1, 0, 0, 0), 0), (1, (1, 2, 1, 0, 0), 0), (2, (53, 5, 17, 1, 0), 524), (5, (33, 8, 9, 1, 0), 0), (8, (57, 9, 0, 0, 0), 0), (9, (2, 10, 0, 0, 0), 0),
  (10, (39, 13, 3, 10, 0), 128), (13, (1, 14, 1, 0, 0), 0), (14, (0, 16, 0, 0, 8), 0), (16, (45, 17, 0, 0, 0), 0), (17, (2, 18, 0, 0, 0), 0), (18, (31, 19, 0, 0, 0), 0),
  (19, (37, 22, 3, 13, 0), 141), (22, (0, 23, 0, 0, 1), 0), (23, (9, 24, 0, 0, 0), 0), (24, (40, 27, 3, 13, 0), 141), (27, (2, 28, 0, 0, 0), 0), (28, (31, 29, 0, 0, 0), 0),
  (29, (37, 32, 3, 11, 0), 131), (32, (0, 33, 0, 0, 1), 0), (33, (8, 34, 0, 0, 0), 0), (34, (40, 37, 3, 11, 0), 131), (37, (57, 38, 0, 0, 0), 0)]
def pg_29 : List PRow := [(0, (0, 1, 0, 0, 1), 0), (1, (2, 2, 0, 0, 0), 0), (2, (37, 5, 3, 3, 0), 97), (5, (14, 6, 0, 0, 0), 0), (6, (0, 7, 0, 0, 1), 0), (7, (9, 8, 0, 0, 0), 0),
  (8, (4, 9, 2, 0, 0), 0), (9, (0, 10, 0, 0, 0), 0), (10, (4, 11, 3, 0, 0), 0), (11, (1, 12, 3, 0, 0), 0), (12, (0, 13, 0, 0, 1), 0), (13, (2, 14, 0, 0, 0), 0),
  (14, (37, 17, 3, 3, 0), 97), (17, (14, 18, 0, 0, 0), 0), (18, (34, 21, 49, 3, 0), 0), (21, (1, 22, 3, 0, 0), 0), (22, (52, 25, 182, 1, 0), 717), (25, (1, 26, 2, 0, 0), 0),
  (26, (52, 29, 182, 1, 0), 717), (29, (34, 32, 43, 3, 0), 0), (32, (2, 33, 0, 0, 0), 0), (33, (1, 34, 3, 0, 0), 0), (34, (1, 35, 1, 0, 0), 0), (35, (53, 38, 30, 2, 0), 718),
  (38, (33, 41, 43, 0, 0), 0), (41, (1, 42, 3, 0, 0), 0), (42, (4, 43, 2, 0, 0), 0), (43, (7, 46, 3, 0, 1), 0), (46, (35, 49, 11, 0, 0), 0), (49, (1, 50, 2, 0, 0), 0),
  (50, (55, 51, 0, 0, 0), 0)]
def pg_30 : List PRow := [(0, (0, 1, 0, 0, 0), 0), (1, (4, 2, 3, 0, 0), 0), (2, (1, 3, 3, 0, 0), 0), (3, (2, 4, 0, 0, 0), 0), (4, (37, 7, 3, 8, 0), 121), (7, (34, 10, 37, 3, 0), 0),
  (10, (1, 11, 2, 0, 0), 0), (11, (1, 12, 3, 0, 0), 0), (12, (52, 15, 105, 2, 1), 542), (15, (33, 18, 31, 0, 0), 0), (18, (2, 19, 0, 0, 0), 0), (19, (39, 22, 3, 9, 0), 124),
  (22, (1, 23, 3, 0, 0), 0), (23, (44, 24, 0, 0, 0), 0), (24, (1, 25, 1, 0, 0), 0), (25, (11, 26, 0, 0, 0), 0), (26, (33, 29, 31, 1, 0), 0), (29, (0, 30, 0, 0, 0), 0),
  (30, (56, 31, 0, 0, 0), 0), (31, (7, 34, 3, 0, 1), 0), (34, (35, 37, 2, 0, 0), 0), (37, (0, 38, 0, 0, 1), 0), (38, (56, 39, 0, 0, 0), 0)]
def pg_31 : List PRow := [(0, (2, 1, 0, 0, 0), 0), (1, (53, 4, 23, 0, 0), 529), (4, (0, 5, 0, 0, 1), 0), (5, (1, 6, 1, 0, 0), 0), (6, (14, 7, 0, 0, 0), 0), (7, (0, 8, 0, 0, -1), 0),
  (8, (13, 9, 0, 0, 0), 0), (9, (11, 10, 0, 0, 0), 0), (10, (4, 11, 2, 0, 0), 0), (11, (0, 12, 0, 0, 0), 0), (12, (4, 13, 3, 0, 0), 0), (13, (0, 14, 0, 0, 0), 0),
  (14, (4, 16, 4, 0, 0), 0), (16, (1, 18, 4, 0, 0), 0), (18, (2, 19, 0, 0, 0), 0), (19, (37, 22, 3, 8, 0), 121), (22, (34, 25, 55, 3, 0), 0), (25, (2, 26, 0, 0, 0), 0),
  (26, (1, 28, 4, 0, 0), 0), (28, (53, 31, 18, 1, 0), 633), (31, (33, 34, 49, 1, 0), 0), (34, (2, 35, 0, 0, 0), 0), (35, (39, 38, 3, 9, 0), 124), (38, (1, 40, 4, 0, 0), 0),
  (40, (44, 41, 0, 0, 0), 0), (41, (1, 42, 2, 0, 0), 0), (42, (11, 43, 0, 0, 0), 0), (43, (33, 46, 49, 0, 0), 0), (46, (7, 49, 3, 0, 1), 0), (49, (7, 52, 4, 0, 1), 0),
  (52, (35, 55, 16, 0, 0), 0), (55, (1, 56, 3, 0, 0), 0), (56, (55, 57, 0, 0, 0), 0)]
def pg_32 : List PRow := [(0, (0, 1, 0, 0, 1), 0), (1, (4, 2, 2, 0, 0), 0), (2, (0, 3, 0, 0, 0), 0), (3, (4, 4, 3, 0, 0), 0), (4, (1, 5, 3, 0, 0), 0), (5, (2, 6, 0, 0, 0), 0),
  (6, (37, 9, 3, 3, 0), 97), (9, (34, 12, 33, 3, 0), 0), (12, (1, 13, 1, 0, 0), 0), (13, (1, 14, 3, 0, 0), 0), (14, (52, 17, 105, 2, 1), 542), (17, (33, 20, 27, 0, 0), 0),
  (20, (2, 21, 0, 0, 0), 0), (21, (1, 22, 2, 0, 0), 0), (22, (1, 23, 3, 0, 0), 0), (23, (53, 26, 33, 2, 0), 739), (26, (4, 27, 2, 0, 0), 0), (27, (7, 30, 3, 0, 1), 0),
  (30, (35, 33, 4, 0, 0), 0), (33, (1, 34, 2, 0, 0), 0), (34, (55, 35, 0, 0, 0), 0)]
def pg_33 : List PRow := [(0, (0, 1, 0, 0, 0), 0), (1, (4, 2, 3, 0, 0), 0), (2, (0, 3, 0, 0, 0), 0), (3, (4, 5, 4, 0, 0), 0), (5, (1, 7, 4, 0, 0), 0), (7, (0, 8, 0, 0, 1), 0),
  (8, (2, 9, 0, 0, 0), 0), (9, (37, 12, 3, 8, 0), 121), (12, (14, 13, 0, 0, 0), 0), (13, (34, 16, 85, 3, 0), 0), (16, (0, 17, 0, 0, 0), 0), (17, (4, 19, 5, 0, 0), 0),
  (19, (1, 21, 5, 0, 0), 0), (21, (2, 22, 0, 0, 0), 0), (22, (37, 25, 3, 8, 0), 121), (25, (34, 28, 79, 3, 0), 0), (28, (1, 29, 1, 0, 0), 0), (29, (1, 31, 4, 0, 0), 0),
  (31, (52, 34, 105, 2, 1), 542), (34, (33, 37, 73, 0, 0), 0), (37, (1, 39, 4, 0, 0), 0), (39, (1, 41, 5, 0, 0), 0), (41, (52, 44, 105, 2, 1), 542), (44, (33, 47, 73, 1, 0), 0),
  (47, (2, 48, 0, 0, 0), 0), (48, (39, 51, 3, 9, 0), 124), (51, (1, 53, 5, 0, 0), 0), (53, (44, 54, 0, 0, 0), 0), (54, (1, 55, 2, 0, 0), 0), (55, (52, 58, 105, 2, 1), 542),
  (58, (33, 61, 73, 0, 0), 0), (61, (1, 62, 3, 0, 0), 0), (62, (0, 63, 0, 0, 1), 0), (63, (1, 65, 4, 0, 0), 0), (65, (0, 66, 0, 0, 1), 0), (66, (1, 68, 5, 0, 0), 0),
  (68, (14, 69, 0, 0, 0), 0), (69, (12, 70, 0, 0, 0), 0), (70, (14, 71, 0, 0, 0), 0), (71, (12, 72, 0, 0, 0), 0), (72, (4, 73, 3, 0, 0), 0), (73, (7, 76, 5, 0, 1), 0),
  (76, (35, 79, 19, 0, 0), 0), (79, (7, 82, 4, 0, 1), 0), (82, (35, 85, 5, 0, 0), 0), (85, (1, 86, 3, 0, 0), 0), (86, (55, 87, 0, 0, 0), 0)]
def pg_34 : List PRow := [(0, (2, 1, 0, 0, 0), 0), (1, (64, 4, 0, 0, 0), 252), (4, (2, 5, 0, 0, 0), 0), (5, (0, 7, 0, 0, 8), 0), (7, (59, 9, 0, 0, 0), 0), (9, (61, 12, 4, 0, 0), 254),
  (12, (2, 13, 0, 0, 0), 0), (13, (0, 14, 0, 0, 5), 0), (14, (59, 16, 0, 0, 0), 0), (16, (61, 19, 4, 1, 0), 255), (19, (2, 20, 0, 0, 0), 0), (20, (0, 21, 0, 0, 5), 0),
  (21, (59, 23, 0, 0, 0), 0), (23, (61, 26, 4, 2, 0), 256), (26, (2, 27, 0, 0, 0), 0), (27, (0, 30, 0, 0, 1024), 0), (30, (59, 32, 1, 0, 0), 0), (32, (61, 35, 4, 3, 0), 257),
  (35, (2, 36, 0, 0, 0), 0), (36, (24, 37, 0, 0, 0), 0), (37, (42, 40, 4, 4, 0), 258), (40, (2, 41, 0, 0, 0), 0), (41, (0, 42, 0, 0, 0), 0), (42, (40, 45, 4, 5, 0), 259),
  (45, (2, 46, 0, 0, 0), 0), (46, (0, 48, 0, 0, 1000000), 253), (48, (40, 51, 4, 6, 0), 260), (51, (2, 52, 0, 0, 0), 0), (52, (0, 53, 0, 0, 0), 0), (53, (40, 56, 4, 7, 0), 261),
  (56, (57, 57, 0, 0, 0), 0)]
def pg_35 : List PRow := [(0, (2, 1, 1, 0, 0), 0), (1, (39, 4, 3, 6, 0), 113), (4, (0, 5, 0, 0, 0), 0), (5, (2, 6, 0, 0, 0), 0), (6, (39, 9, 4, 0, 0), 254), (9, (0, 10, 0, 0, 0), 0),
  (10, (0, 12, 0, 0, 8), 0), (12, (54, 15, 0, 0, 0), 628), (15, (2, 16, 0, 0, 0), 0), (16, (31, 17, 0, 0, 0), 0), (17, (38, 20, 4, 4, 0), 258), (20, (24, 21, 0, 0, 1), 0),
  (21, (25, 22, 0, 0, 0), 0), (22, (42, 25, 4, 4, 0), 258), (25, (2, 26, 0, 0, 0), 0), (26, (2, 27, 1, 0, 0), 0), (27, (37, 30, 3, 11, 0), 132), (30, (40, 33, 4, 5, 0), 259),
  (33, (2, 34, 0, 0, 0), 0), (34, (0, 36, 0, 0, 1000000), 253), (36, (40, 39, 4, 6, 0), 260), (39, (2, 40, 0, 0, 0), 0), (40, (0, 41, 0, 0, 0), 0), (41, (40, 44, 4, 7, 0), 261),
  (44, (2, 45, 0, 0, 0), 0), (45, (2, 46, 1, 0, 0), 0), (46, (0, 47, 0, 0, 0), 0), (47, (2, 48, 1, 0, 0), 0), (48, (53, 51, 19, 0, 0), 629), (51, (2, 52, 1, 0, 0), 0),
  (52, (37, 55, 3, 11, 0), 132), (55, (2, 56, 1, 0, 0), 0), (56, (37, 59, 3, 12, 0), 137), (59, (2, 60, 1, 0, 0), 0), (60, (37, 63, 3, 13, 0), 142), (63, (52, 66, 38, 7, 0), 634),
  (66, (57, 67, 0, 0, 0), 0)]
def pg_36 : List PRow := [(0, (2, 1, 0, 0, 0), 0), (1, (37, 4, 4, 6, 0), 260), (4, (0, 6, 0, 0, 1000000), 253), (6, (34, 9, 14, 1, 0), 0), (9, (0, 11, 0, 0, -1000000), 665), (11, (35, 14, 18, 0, 0), 0),
  (14, (2, 15, 0, 0, 0), 0), (15, (37, 18, 4, 6, 0), 260), (18, (55, 19, 0, 0, 0), 0)]
def pg_37 : List PRow := [(0, (1, 1, 1, 0, 0), 0), (1, (33, 4, 26, 2, 0), 0), (4, (1, 5, 1, 0, 0), 0), (5, (2, 6, 0, 0, 0), 0), (6, (37, 9, 4, 7, 0), 261), (9, (34, 12, 26, 3, 0), 0),
  (12, (1, 13, 1, 0, 0), 0), (13, (0, 14, 0, 0, 5), 0), (14, (34, 17, 26, 3, 0), 0), (17, (2, 18, 0, 0, 0), 0), (18, (39, 21, 4, 2, 0), 256), (21, (1, 22, 1, 0, 0), 0),
  (22, (44, 23, 0, 0, 0), 0), (23, (35, 26, 28, 0, 0), 0), (26, (0, 28, 0, 0, -1000000), 665), (28, (55, 29, 0, 0, 0), 0)]
def pg_38 : List PRow := [(0, (2, 1, 1, 0, 0), 0), (1, (37, 4, 3, 8, 0), 122), (4, (1, 5, 3, 0, 0), 0), (5, (52, 8, 182, 1, 0), 637), (8, (9, 9, 0, 0, 0), 0), (9, (4, 11, 7, 0, 0), 0),
  (11, (1, 13, 4, 0, 0), 0), (13, (1, 15, 7, 0, 0), 0), (15, (8, 16, 0, 0, 0), 0), (16, (2, 17, 0, 0, 0), 0), (17, (37, 20, 4, 6, 0), 260), (20, (34, 23, 24, 2, 0), 0),
  (23, (57, 24, 0, 0, 0), 0), (24, (1, 26, 7, 0, 0), 0), (26, (33, 29, 34, 0, 0), 0), (29, (1, 30, 2, 0, 0), 0), (30, (0, 31, 0, 0, 5), 0), (31, (34, 34, 42, 2, 0), 0),
  (34, (2, 35, 0, 0, 0), 0), (35, (1, 36, 2, 0, 0), 0), (36, (1, 38, 4, 0, 0), 0), (38, (53, 41, 39, 2, 0), 643), (41, (57, 42, 0, 0, 0), 0), (42, (2, 43, 0, 0, 0), 0),
  (43, (2, 44, 1, 0, 0), 0), (44, (1, 45, 3, 0, 0), 0), (45, (1, 47, 4, 0, 0), 0), (47, (1, 49, 5, 0, 0), 0), (49, (1, 51, 6, 0, 0), 0), (51, (53, 54, 41, 5, 0), 647),
  (54, (33, 57, 58, 0, 0), 0), (57, (57, 58, 0, 0, 0), 0), (58, (2, 59, 1, 0, 0), 0), (59, (2, 60, 0, 0, 0), 0), (60, (39, 63, 4, 0, 0), 254), (63, (1, 65, 4, 0, 0), 0),
  (65, (1, 67, 5, 0, 0), 0), (67, (53, 70, 22, 3, 0), 654), (70, (4, 72, 8, 0, 0), 0), (72, (0, 73, 0, 0, 0), 0), (73, (4, 75, 9, 0, 0), 0), (75, (1, 77, 9, 0, 0), 0),
  (77, (2, 78, 1, 0, 0), 0), (78, (37, 81, 3, 8, 0), 122), (81, (34, 84, 274, 3, 0), 0), (84, (1, 85, 3, 0, 0), 0), (85, (1, 87, 9, 0, 0), 0), (87, (52, 90, 105, 2, 1), 655),
  (90, (33, 93, 268, 1, 0), 0), (93, (2, 94, 1, 0, 0), 0), (94, (1, 95, 3, 0, 0), 0), (95, (1, 97, 9, 0, 0), 0), (97, (52, 100, 40, 3, 0), 656), (100, (33, 103, 106, 0, 0), 0),
  (103, (35, 106, 268, 0, 0), 0), (106, (1, 107, 3, 0, 0), 0), (107, (0, 108, 0, 0, 1), 0), (108, (1, 110, 9, 0, 0), 0), (110, (14, 111, 0, 0, 0), 0), (111, (12, 112, 0, 0, 0), 0),
  (112, (4, 114, 10, 0, 0), 0), (114, (0, 115, 0, 0, 0), 0), (115, (4, 117, 11, 0, 0), 0), (117, (1, 119, 11, 0, 0), 0), (119, (2, 120, 1, 0, 0), 0), (120, (37, 123, 3, 3, 0), 100),
  (123, (34, 126, 229, 3, 0), 0), (126, (1, 128, 8, 0, 0), 0), (128, (2, 129, 1, 0, 0), 0), (129, (39, 132, 3, 9, 0), 126), (132, (1, 134, 9, 0, 0), 0), (134, (44, 135, 0, 0, 0), 0),
  (135, (11, 136, 0, 0, 0), 0), (136, (1, 138, 11, 0, 0), 0), (138, (52, 141, 105, 2, 1), 655), (141, (33, 144, 147, 1, 0), 0), (144, (35, 147, 223, 0, 0), 0), (147, (2, 148, 0, 0, 0), 0),
  (148, (39, 151, 4, 0, 0), 254), (151, (1, 153, 11, 0, 0), 0), (153, (44, 154, 0, 0, 0), 0), (154, (4, 156, 12, 0, 0), 0), (156, (2, 157, 0, 0, 0), 0), (157, (39, 160, 4, 0, 0), 254),
  (160, (1, 162, 11, 0, 0), 0), (162, (1, 164, 4, 0, 0), 0), (164, (45, 165, 0, 0, 0), 0), (165, (2, 166, 0, 0, 0), 0), (166, (39, 169, 4, 1, 0), 255), (169, (1, 170, 2, 0, 0), 0),
  (170, (0, 172, 0, 0, 16), 0), (172, (1, 174, 9, 0, 0), 0), (174, (10, 175, 0, 0, 0), 0), (175, (1, 177, 11, 0, 0), 0), (177, (8, 178, 0, 0, 0), 0), (178, (45, 179, 0, 0, 0), 0),
  (179, (2, 180, 0, 0, 0), 0), (180, (2, 181, 1, 0, 0), 0), (181, (1, 182, 2, 0, 0), 0), (182, (0, 183, 0, 0, 1), 0), (183, (8, 184, 0, 0, 0), 0), (184, (1, 186, 10, 0, 0), 0),
  (186, (1, 188, 4, 0, 0), 0), (188, (2, 189, 1, 0, 0), 0), (189, (1, 191, 11, 0, 0), 0), (191, (53, 194, 25, 1, 0), 659), (194, (8, 195, 0, 0, 0), 0), (195, (2, 196, 1, 0, 0), 0),
  (196, (39, 199, 3, 5, 0), 109), (199, (1, 201, 11, 0, 0), 0), (201, (44, 202, 0, 0, 0), 0), (202, (1, 204, 6, 0, 0), 0), (204, (2, 205, 1, 0, 0), 0), (205, (1, 207, 11, 0, 0), 0),
  (207, (53, 210, 26, 1, 0), 660), (210, (8, 211, 0, 0, 0), 0), (211, (52, 214, 38, 7, 0), 634), (214, (2, 215, 0, 0, 0), 0), (215, (39, 218, 4, 0, 0), 254), (218, (1, 220, 11, 0, 0), 0),
  (220, (1, 222, 12, 0, 0), 0), (222, (45, 223, 0, 0, 0), 0), (223, (7, 226, 11, 0, 1), 0), (226, (35, 229, 117, 0, 0), 0), (229, (1, 231, 6, 0, 0), 0), (231, (33, 234, 268, 5, 0), 0),
  (234, (2, 235, 0, 0, 0), 0), (235, (39, 238, 4, 1, 0), 255), (238, (1, 239, 2, 0, 0), 0), (239, (0, 241, 0, 0, 16), 0), (241, (1, 243, 9, 0, 0), 0), (243, (10, 244, 0, 0, 0), 0),
  (244, (0, 246, 0, 0, 8), 0), (246, (8, 247, 0, 0, 0), 0), (247, (45, 248, 0, 0, 0), 0), (248, (2, 249, 0, 0, 0), 0), (249, (2, 250, 1, 0, 0), 0), (250, (1, 251, 2, 0, 0), 0),
  (251, (0, 252, 0, 0, 1), 0), (252, (8, 253, 0, 0, 0), 0), (253, (1, 255, 10, 0, 0), 0), (255, (1, 257, 4, 0, 0), 0), (257, (0, 258, 0, 0, 1), 0), (258, (8, 259, 0, 0, 0), 0),
  (259, (1, 261, 5, 0, 0), 0), (261, (1, 263, 6, 0, 0), 0), (263, (0, 264, 0, 0, 1), 0), (264, (9, 265, 0, 0, 0), 0), (265, (52, 268, 38, 7, 0), 634), (268, (7, 271, 9, 0, 1), 0),
  (271, (35, 274, 75, 0, 0), 0), (274, (57, 275, 0, 0, 0), 0)]
def pg_39 : List PRow := [(0, (2, 1, 0, 0, 0), 0), (1, (39, 4, 4, 1, 0), 255), (4, (0, 5, 0, 0, 0), 0), (5, (2, 6, 0, 0, 0), 0), (6, (39, 9, 4, 2, 0), 256), (9, (0, 10, 0, 0, 0), 0),
  (10, (0, 11, 0, 0, 5), 0), (11, (54, 14, 0, 0, 0), 628), (14, (2, 15, 0, 0, 0), 0), (15, (1, 16, 1, 0, 0), 0), (16, (40, 19, 4, 7, 0), 261), (19, (2, 20, 0, 0, 0), 0),
  (20, (1, 21, 2, 0, 0), 0), (21, (40, 24, 4, 6, 0), 260), (24, (57, 25, 0, 0, 0), 0)]
def pg_40 : List PRow := [(0, (0, 1, 0, 0, 0), 0), (1, (4, 2, 3, 0, 0), 0), (2, (1, 3, 3, 0, 0), 0), (3, (1, 4, 2, 0, 0), 0), (4, (34, 7, 46, 3, 0), 0), (7, (1, 8, 3, 0, 0), 0),
  (8, (2, 9, 0, 0, 0), 0), (9, (37, 12, 3, 8, 0), 122), (12, (34, 15, 46, 3, 0), 0), (15, (1, 16, 1, 0, 0), 0), (16, (1, 17, 3, 0, 0), 0), (17, (52, 20, 105, 2, 1), 655),
  (20, (33, 23, 40, 1, 0), 0), (23, (2, 24, 0, 0, 0), 0), (24, (39, 27, 3, 9, 0), 126), (27, (1, 28, 3, 0, 0), 0), (28, (44, 29, 0, 0, 0), 0), (29, (2, 30, 0, 0, 0), 0),
  (30, (39, 33, 3, 9, 0), 126), (33, (1, 34, 2, 0, 0), 0), (34, (44, 35, 0, 0, 0), 0), (35, (34, 38, 40, 1, 0), 0), (38, (0, 39, 0, 0, 1), 0), (39, (56, 40, 0, 0, 0), 0),
  (40, (7, 43, 3, 0, 1), 0), (43, (35, 46, 2, 0, 0), 0), (46, (0, 47, 0, 0, 0), 0), (47, (56, 48, 0, 0, 0), 0)]
def pg_41 : List PRow := [(0, (2, 1, 0, 0, 0), 0), (1, (38, 4, 4, 4, 0), 258), (4, (0, 5, 0, 0, 5), 0), (5, (28, 6, 0, 0, 0), 0), (6, (1, 7, 2, 0, 0), 0), (7, (22, 8, 0, 0, 0), 0),
  (8, (27, 9, 0, 0, 0), 0), (9, (6, 11, 6, 0, 0), 0), (11, (3, 13, 6, 0, 0), 0), (13, (0, 14, 0, 0, 3), 0), (14, (28, 15, 0, 0, 0), 0), (15, (1, 17, 4, 0, 0), 0),
  (17, (0, 18, 0, 0, 1), 0), (18, (8, 19, 0, 0, 0), 0), (19, (22, 20, 0, 0, 0), 0), (20, (27, 21, 0, 0, 0), 0), (21, (6, 23, 6, 0, 0), 0), (23, (3, 25, 6, 0, 0), 0),
  (25, (0, 26, 0, 0, 3), 0), (26, (28, 27, 0, 0, 0), 0), (27, (1, 29, 5, 0, 0), 0), (29, (22, 30, 0, 0, 0), 0), (30, (27, 31, 0, 0, 0), 0), (31, (6, 33, 6, 0, 0), 0),
  (33, (3, 35, 6, 0, 0), 0), (35, (0, 36, 0, 0, 4), 0), (36, (28, 37, 0, 0, 0), 0), (37, (1, 38, 3, 0, 0), 0), (38, (2, 39, 0, 0, 0), 0), (39, (37, 42, 4, 5, 0), 259),
  (42, (9, 43, 0, 0, 0), 0), (43, (22, 44, 0, 0, 0), 0), (44, (27, 45, 0, 0, 0), 0), (45, (6, 47, 6, 0, 0), 0), (47, (0, 48, 0, 0, 2), 0), (48, (2, 49, 1, 0, 0), 0),
  (49, (37, 52, 3, 8, 0), 122), (52, (1, 53, 2, 0, 0), 0), (53, (52, 56, 182, 1, 0), 637), (56, (9, 57, 0, 0, 0), 0), (57, (10, 58, 0, 0, 0), 0), (58, (4, 60, 8, 0, 0), 0),
  (60, (0, 61, 0, 0, 0), 0), (61, (4, 63, 9, 0, 0), 0), (63, (1, 65, 9, 0, 0), 0), (65, (0, 67, 0, 0, 8), 0), (67, (34, 70, 132, 3, 0), 0), (70, (2, 71, 1, 0, 0), 0),
  (71, (1, 73, 9, 0, 0), 0), (73, (2, 74, 0, 0, 0), 0), (74, (39, 77, 4, 0, 0), 254), (77, (1, 79, 9, 0, 0), 0), (79, (44, 80, 0, 0, 0), 0), (80, (1, 81, 3, 0, 0), 0),
  (81, (53, 84, 20, 3, 0), 651), (84, (4, 86, 10, 0, 0), 0), (86, (1, 88, 10, 0, 0), 0), (88, (33, 91, 108, 0, 0), 0), (91, (2, 92, 0, 0, 0), 0), (92, (39, 95, 4, 0, 0), 254),
  (95, (1, 97, 9, 0, 0), 0), (97, (44, 98, 0, 0, 0), 0), (98, (2, 99, 1, 0, 0), 0), (99, (37, 102, 3, 1, 0), 94), (102, (8, 103, 0, 0, 0), 0), (103, (1, 104, 3, 0, 0), 0),
  (104, (9, 105, 0, 0, 0), 0), (105, (35, 108, 109, 0, 0), 0), (108, (0, 109, 0, 0, 0), 0), (109, (4, 111, 11, 0, 0), 0), (111, (3, 113, 6, 0, 0), 0), (113, (0, 114, 0, 0, 4), 0),
  (114, (28, 115, 0, 0, 0), 0), (115, (1, 117, 11, 0, 0), 0), (117, (1, 119, 8, 0, 0), 0), (119, (66, 122, 0, 0, 0), 652), (122, (22, 123, 0, 0, 0), 0), (123, (27, 124, 0, 0, 0), 0),
  (124, (6, 126, 6, 0, 0), 0), (126, (7, 129, 9, 0, 1), 0), (129, (35, 132, 63, 0, 0), 0), (132, (3, 134, 6, 0, 0), 0), (134, (24, 137, 0, 0, 7046029254386353131), 653), (137, (26, 138, 0, 0, 0), 0),
  (138, (0, 140, 0, 0, 54), 0), (140, (29, 141, 0, 0, 0), 0), (141, (23, 142, 0, 0, 0), 0), (142, (0, 145, 0, 0, 1023), 0), (145, (11, 146, 0, 0, 0), 0), (146, (4, 148, 9, 0, 0), 0),
  (148, (2, 149, 0, 0, 0), 0), (149, (39, 152, 4, 3, 0), 257), (152, (1, 154, 9, 0, 0), 0), (154, (48, 155, 0, 0, 0), 0), (155, (3, 157, 6, 0, 0), 0), (157, (30, 158, 0, 0, 0), 0),
  (158, (33, 161, 165, 1, 0), 0), (161, (0, 162, 0, 0, 1), 0), (162, (35, 165, 166, 0, 0), 0), (165, (0, 166, 0, 0, 0), 0), (166, (4, 168, 10, 0, 0), 0), (168, (2, 169, 0, 0, 0), 0),
  (169, (39, 172, 4, 3, 0), 257), (172, (1, 174, 9, 0, 0), 0), (174, (3, 176, 6, 0, 0), 0), (176, (49, 177, 0, 0, 0), 0), (177, (1, 179, 10, 0, 0), 0), (179, (56, 180, 0, 0, 0), 0)]
def pg_42 : List PRow := [(0, (2, 1, 0, 0, 0), 0), (1, (64, 4, 0, 0, 0), 330), (4, (2, 5, 0, 0, 0), 0), (5, (0, 7, 0, 0, 40), 0), (7, (59, 9, 0, 0, 0), 0), (9, (61, 12, 5, 0, 0), 331),
  (12, (2, 13, 0, 0, 0), 0), (13, (0, 14, 0, 0, 0), 0), (14, (41, 17, 5, 1, 0), 334), (17, (2, 18, 0, 0, 0), 0), (18, (0, 19, 0, 0, 0), 0), (19, (40, 22, 5, 2, 0), 336),
  (22, (2, 23, 0, 0, 0), 0), (23, (0, 24, 0, 0, 0), 0), (24, (40, 27, 5, 3, 0), 338), (27, (57, 28, 0, 0, 0), 0)]
def pg_43 : List PRow := [(0, (2, 1, 0, 0, 0), 0), (1, (39, 4, 5, 0, 0), 331), (4, (0, 5, 0, 0, 0), 0), (5, (52, 8, 183, 2, 0), 400), (8, (2, 9, 0, 0, 0), 0), (9, (0, 10, 0, 0, 1), 0),
  (10, (41, 13, 5, 1, 0), 334), (13, (2, 14, 0, 0, 0), 0), (14, (1, 15, 1, 0, 0), 0), (15, (40, 18, 5, 2, 0), 336), (18, (2, 19, 0, 0, 0), 0), (19, (1, 20, 2, 0, 0), 0),
  (20, (40, 23, 5, 3, 0), 338), (23, (57, 24, 0, 0, 0), 0)]
def pg_44 : List PRow := [(0, (2, 1, 0, 0, 0), 0), (1, (37, 4, 5, 2, 0), 336), (4, (33, 7, 10, 1, 0), 0), (7, (1, 8, 1, 0, 0), 0), (8, (20, 9, 0, 0, 0), 0), (9, (55, 10, 0, 0, 0), 0),
  (10, (2, 11, 0, 0, 0), 0), (11, (37, 14, 5, 2, 0), 336), (14, (0, 15, 0, 0, 1), 0), (15, (34, 18, 23, 1, 0), 0), (18, (1, 19, 1, 0, 0), 0), (19, (21, 20, 0, 0, 0), 0),
  (20, (35, 23, 24, 0, 0), 0), (23, (1, 24, 1, 0, 0), 0), (24, (55, 25, 0, 0, 0), 0)]
def pg_45 : List PRow := [(0, (1, 1, 1, 0, 0), 0), (1, (33, 4, 30, 2, 0), 0), (4, (1, 5, 2, 0, 0), 0), (5, (33, 8, 30, 2, 0), 0), (8, (1, 9, 1, 0, 0), 0), (9, (2, 10, 0, 0, 0), 0),
  (10, (37, 13, 5, 3, 0), 338), (13, (34, 16, 30, 4, 0), 0), (16, (1, 17, 2, 0, 0), 0), (17, (2, 18, 0, 0, 0), 0), (18, (37, 21, 5, 3, 0), 338), (21, (1, 22, 1, 0, 0), 0),
  (22, (9, 23, 0, 0, 0), 0), (23, (34, 26, 30, 4, 0), 0), (26, (0, 27, 0, 0, 1), 0), (27, (35, 30, 31, 0, 0), 0), (30, (0, 31, 0, 0, 0), 0), (31, (56, 32, 0, 0, 0), 0)]
def pg_46 : List PRow := [(0, (2, 1, 0, 0, 0), 0), (1, (64, 4, 0, 0, 0), 285), (4, (2, 5, 0, 0, 0), 0), (5, (0, 8, 0, 0, 1024), 0), (8, (59, 10, 0, 0, 0), 0), (10, (61, 13, 6, 0, 0), 286),
  (13, (2, 14, 0, 0, 0), 0), (14, (0, 16, 0, 0, 8), 0), (16, (59, 18, 0, 0, 0), 0), (18, (61, 21, 6, 1, 0), 287), (21, (2, 22, 0, 0, 0), 0), (22, (0, 23, 0, 0, 0), 0),
  (23, (40, 26, 6, 2, 0), 288), (26, (57, 27, 0, 0, 0), 0)]
def pg_47 : List PRow := [(0, (2, 1, 1, 0, 0), 0), (1, (52, 4, 49, 1, 0), 678), (4, (4, 5, 2, 0, 0), 0), (5, (0, 6, 0, 0, 1), 0), (6, (2, 7, 1, 0, 0), 0), (7, (37, 10, 3, 3, 0), 98),
  (10, (14, 11, 0, 0, 0), 0), (11, (0, 12, 0, 0, 1), 0), (12, (9, 13, 0, 0, 0), 0), (13, (4, 14, 3, 0, 0), 0), (14, (1, 15, 3, 0, 0), 0), (15, (33, 18, 65, 2, 0), 0),
  (18, (0, 19, 0, 0, 0), 0), (19, (4, 21, 4, 0, 0), 0), (21, (1, 23, 4, 0, 0), 0), (23, (0, 24, 0, 0, 4), 0), (24, (34, 27, 59, 3, 0), 0), (27, (1, 28, 3, 0, 0), 0),
  (28, (1, 29, 2, 0, 0), 0), (29, (11, 30, 0, 0, 0), 0), (30, (1, 31, 2, 0, 0), 0), (31, (34, 34, 59, 1, 0), 0), (34, (2, 35, 0, 0, 0), 0), (35, (39, 38, 6, 0, 0), 286),
  (38, (1, 39, 3, 0, 0), 0), (39, (0, 40, 0, 0, 4), 0), (40, (10, 41, 0, 0, 0), 0), (41, (1, 43, 4, 0, 0), 0), (43, (8, 44, 0, 0, 0), 0), (44, (2, 45, 0, 0, 0), 0),
  (45, (2, 46, 1, 0, 0), 0), (46, (1, 47, 3, 0, 0), 0), (47, (1, 49, 4, 0, 0), 0), (49, (53, 52, 50, 3, 0), 682), (52, (45, 53, 0, 0, 0), 0), (53, (7, 56, 4, 0, 1), 0),
  (56, (35, 59, 21, 0, 0), 0), (59, (7, 62, 3, 0, -1), 0), (62, (35, 65, 14, 0, 0), 0), (65, (2, 66, 0, 0, 0), 0), (66, (2, 67, 0, 0, 0), 0), (67, (2, 68, 1, 0, 0), 0),
  (68, (1, 69, 2, 0, 0), 0), (69, (2, 70, 1, 0, 0), 0), (70, (37, 73, 3, 12, 0), 138), (73, (53, 76, 50, 3, 0), 682), (76, (0, 78, 0, 0, 8), 0), (78, (66, 81, 0, 0, 0), 695),
  (81, (40, 84, 6, 2, 0), 288), (84, (2, 85, 0, 0, 0), 0), (85, (2, 86, 1, 0, 0), 0), (86, (1, 87, 2, 0, 0), 0), (87, (53, 90, 52, 2, 0), 696), (90, (57, 91, 0, 0, 0), 0)]
def pg_48 : List PRow := [(0, (1, 1, 1, 0, 0), 0), (1, (33, 4, 27, 2, 0), 0), (4, (1, 5, 1, 0, 0), 0), (5, (2, 6, 0, 0, 0), 0), (6, (37, 9, 6, 2, 0), 288), (9, (34, 12, 27, 3, 0), 0),
  (12, (1, 13, 1, 0, 0), 0), (13, (0, 15, 0, 0, 8), 0), (15, (34, 18, 27, 3, 0), 0), (18, (2, 19, 0, 0, 0), 0), (19, (39, 22, 6, 1, 0), 287), (22, (1, 23, 1, 0, 0), 0),
  (23, (44, 24, 0, 0, 0), 0), (24, (35, 27, 29, 0, 0), 0), (27, (0, 29, 0, 0, -1000000), 708), (29, (55, 30, 0, 0, 0), 0)]
def pg_49 : List PRow := [(0, (0, 1, 0, 0, 0), 0), (1, (4, 2, 1, 0, 0), 0), (2, (0, 3, 0, 0, 0), 0), (3, (4, 4, 2, 0, 0), 0), (4, (1, 5, 2, 0, 0), 0), (5, (2, 6, 0, 0, 0), 0),
  (6, (37, 9, 3, 3, 0), 98), (9, (34, 12, 42, 3, 0), 0), (12, (2, 13, 0, 0, 0), 0), (13, (1, 14, 2, 0, 0), 0), (14, (2, 15, 0, 0, 0), 0), (15, (39, 18, 3, 6, 0), 115),
  (18, (1, 19, 2, 0, 0), 0), (19, (44, 20, 0, 0, 0), 0), (20, (2, 21, 0, 0, 0), 0), (21, (37, 24, 3, 11, 0), 134), (24, (53, 27, 20, 3, 0), 681), (27, (33, 30, 36, 0, 0), 0),
  (30, (1, 31, 1, 0, 0), 0), (31, (0, 32, 0, 0, 1), 0), (32, (1, 33, 2, 0, 0), 0), (33, (14, 34, 0, 0, 0), 0), (34, (12, 35, 0, 0, 0), 0), (35, (4, 36, 1, 0, 0), 0),
  (36, (7, 39, 2, 0, 1), 0), (39, (35, 42, 4, 0, 0), 0), (42, (1, 43, 1, 0, 0), 0), (43, (55, 44, 0, 0, 0), 0)]
def pg_50 : List PRow := [(0, (0, 1, 0, 0, 0), 0), (1, (4, 3, 4, 0, 0), 0), (3, (0, 4, 0, 0, 0), 0), (4, (4, 6, 5, 0, 0), 0), (6, (1, 8, 5, 0, 0), 0), (8, (2, 9, 1, 0, 0), 0),
  (9, (37, 12, 3, 3, 0), 98), (12, (34, 15, 37, 3, 0), 0), (15, (1, 17, 4, 0, 0), 0), (17, (2, 18, 0, 0, 0), 0), (18, (2, 19, 1, 0, 0), 0), (19, (1, 20, 2, 0, 0), 0),
  (20, (1, 21, 3, 0, 0), 0), (21, (1, 23, 5, 0, 0), 0), (23, (53, 26, 51, 4, 0), 686), (26, (65, 29, 0, 0, 0), 692), (29, (4, 31, 4, 0, 0), 0), (31, (7, 34, 5, 0, 1), 0),
  (34, (35, 37, 6, 0, 0), 0), (37, (1, 39, 4, 0, 0), 0), (39, (55, 40, 0, 0, 0), 0)]
def pg_51 : List PRow := [(0, (1, 1, 2, 0, 0), 0), (1, (1, 3, 4, 0, 0), 0), (3, (52, 6, 105, 2, 1), 690), (6, (33, 9, 19, 1, 0), 0), (9, (2, 10, 1, 0, 0), 0), (10, (1, 12, 4, 0, 0), 0),
  (12, (1, 13, 3, 0, 0), 0), (13, (53, 16, 21, 2, 0), 691), (16, (33, 19, 21, 1, 0), 0), (19, (0, 20, 0, 0, 0), 0), (20, (55, 21, 0, 0, 0), 0), (21, (0, 22, 0, 0, 1), 0),
  (22, (2, 23, 0, 0, 0), 0), (23, (39, 26, 6, 0, 0), 286), (26, (1, 27, 2, 0, 0), 0), (27, (0, 28, 0, 0, 1), 0), (28, (1, 30, 4, 0, 0), 0), (30, (14, 31, 0, 0, 0), 0),
  (31, (12, 32, 0, 0, 0), 0), (32, (0, 33, 0, 0, 4), 0), (33, (10, 34, 0, 0, 0), 0), (34, (2, 35, 1, 0, 0), 0), (35, (39, 38, 3, 5, 0), 110), (38, (1, 40, 4, 0, 0), 0),
  (40, (44, 41, 0, 0, 0), 0), (41, (8, 42, 0, 0, 0), 0), (42, (44, 43, 0, 0, 0), 0), (43, (8, 44, 0, 0, 0), 0), (44, (55, 45, 0, 0, 0), 0)]
def pg_52 : List PRow := [(0, (1, 1, 2, 0, 0), 0), (1, (4, 2, 3, 0, 0), 0), (2, (2, 3, 1, 0, 0), 0), (3, (37, 6, 3, 12, 0), 138), (6, (4, 8, 4, 0, 0), 0), (8, (0, 9, 0, 0, 0), 0),
  (9, (4, 11, 5, 0, 0), 0), (11, (1, 13, 5, 0, 0), 0), (13, (2, 14, 0, 0, 0), 0), (14, (37, 17, 6, 2, 0), 288), (17, (34, 20, 68, 3, 0), 0), (20, (2, 21, 0, 0, 0), 0),
  (21, (2, 22, 1, 0, 0), 0), (22, (1, 23, 3, 0, 0), 0), (23, (1, 25, 4, 0, 0), 0), (25, (2, 26, 0, 0, 0), 0), (26, (37, 29, 6, 2, 0), 288), (29, (1, 31, 5, 0, 0), 0),
  (31, (9, 32, 0, 0, 0), 0), (32, (53, 35, 53, 4, 0), 700), (35, (4, 37, 6, 0, 0), 0), (37, (2, 38, 0, 0, 0), 0), (38, (39, 41, 6, 1, 0), 287), (41, (1, 43, 5, 0, 0), 0),
  (43, (1, 45, 6, 0, 0), 0), (45, (45, 46, 0, 0, 0), 0), (46, (1, 47, 3, 0, 0), 0), (47, (0, 48, 0, 0, 1), 0), (48, (1, 50, 6, 0, 0), 0), (50, (14, 51, 0, 0, 0), 0),
  (51, (12, 52, 0, 0, 0), 0), (52, (4, 53, 3, 0, 0), 0), (53, (2, 54, 1, 0, 0), 0), (54, (39, 57, 3, 5, 0), 110), (57, (1, 59, 6, 0, 0), 0), (59, (44, 60, 0, 0, 0), 0),
  (60, (4, 62, 4, 0, 0), 0), (62, (7, 65, 5, 0, 1), 0), (65, (35, 68, 11, 0, 0), 0), (68, (57, 69, 0, 0, 0), 0)]
def pg_53 : List PRow := [(0, (0, 1, 0, 0, 0), 0), (1, (4, 3, 5, 0, 0), 0), (3, (1, 5, 5, 0, 0), 0), (5, (2, 6, 1, 0, 0), 0), (6, (37, 9, 3, 3, 0), 98), (9, (34, 12, 35, 3, 0), 0),
  (12, (2, 13, 0, 0, 0), 0), (13, (2, 14, 1, 0, 0), 0), (14, (1, 15, 2, 0, 0), 0), (15, (1, 16, 3, 0, 0), 0), (16, (1, 18, 5, 0, 0), 0), (18, (53, 21, 51, 4, 0), 686),
  (21, (1, 23, 4, 0, 0), 0), (23, (34, 26, 29, 1, 0), 0), (26, (1, 28, 5, 0, 0), 0), (28, (55, 29, 0, 0, 0), 0), (29, (7, 32, 5, 0, 1), 0), (32, (35, 35, 3, 0, 0), 0),
  (35, (0, 36, 0, 0, 0), 0), (36, (55, 37, 0, 0, 0), 0)]
def pg_54 : List PRow := [(0, (2, 1, 0, 0, 0), 0), (1, (64, 4, 0, 0, 0), 181), (4, (2, 5, 0, 0, 0), 0), (5, (0, 7, 0, 0, 120), 0), (7, (59, 9, 0, 0, 0), 0), (9, (61, 12, 7, 0, 0), 182),
  (12, (2, 13, 0, 0, 0), 0), (13, (0, 14, 0, 0, 0), 0), (14, (40, 17, 7, 1, 0), 183), (17, (2, 18, 0, 0, 0), 0), (18, (0, 19, 0, 0, 1), 0), (19, (41, 22, 7, 2, 0), 184),
  (22, (2, 23, 0, 0, 0), 0), (23, (0, 24, 0, 0, 0), 0), (24, (40, 27, 7, 3, 0), 185), (27, (2, 28, 0, 0, 0), 0), (28, (0, 29, 0, 0, 0), 0), (29, (40, 32, 7, 4, 0), 187),
  (32, (2, 33, 0, 0, 0), 0), (33, (0, 34, 0, 0, 0), 0), (34, (40, 37, 7, 5, 0), 189), (37, (57, 38, 0, 0, 0), 0)]
def pg_55 : List PRow := [(0, (2, 1, 0, 0, 0), 0), (1, (37, 4, 7, 3, 0), 185), (4, (33, 7, 16, 2, 0), 0), (7, (2, 8, 0, 0, 0), 0), (8, (37, 11, 7, 3, 0), 185), (11, (0, 13, 0, 0, 120), 0),
  (13, (34, 16, 18, 2, 0), 0), (16, (0, 17, 0, 0, 0), 0), (17, (56, 18, 0, 0, 0), 0), (18, (2, 19, 0, 0, 0), 0), (19, (39, 22, 7, 0, 0), 182), (22, (2, 23, 0, 0, 0), 0),
  (23, (37, 26, 7, 3, 0), 185), (26, (1, 27, 1, 0, 0), 0), (27, (45, 28, 0, 0, 0), 0), (28, (2, 29, 0, 0, 0), 0), (29, (31, 30, 0, 0, 0), 0), (30, (37, 33, 7, 3, 0), 185),
  (33, (0, 34, 0, 0, 1), 0), (34, (8, 35, 0, 0, 0), 0), (35, (40, 38, 7, 3, 0), 185), (38, (0, 39, 0, 0, 1), 0), (39, (56, 40, 0, 0, 0), 0)]
def pg_56 : List PRow := [(0, (2, 1, 0, 0, 0), 0), (1, (0, 2, 0, 0, 0), 0), (2, (40, 5, 7, 1, 0), 183), (5, (2, 6, 0, 0, 0), 0), (6, (0, 7, 0, 0, 1), 0), (7, (41, 10, 7, 2, 0), 184),
  (10, (2, 11, 1, 0, 0), 0), (11, (53, 14, 12, 0, 0), 447), (14, (2, 15, 0, 0, 0), 0), (15, (2, 16, 1, 0, 0), 0), (16, (53, 19, 57, 1, 0), 451), (19, (2, 20, 0, 0, 0), 0),
  (20, (2, 21, 1, 0, 0), 0), (21, (53, 24, 58, 1, 0), 474), (24, (2, 25, 0, 0, 0), 0), (25, (2, 26, 1, 0, 0), 0), (26, (53, 29, 59, 1, 0), 486), (29, (2, 30, 0, 0, 0), 0),
  (30, (37, 33, 7, 2, 0), 184), (33, (56, 34, 0, 0, 0), 0)]
def pg_57 : List PRow := [(0, (2, 1, 0, 0, 0), 0), (1, (0, 3, 0, 0, 104), 0), (3, (53, 6, 60, 1, 0), 455), (6, (2, 7, 1, 0, 0), 0), (7, (2, 8, 0, 0, 0), 0), (8, (0, 9, 0, 0, 1), 0),
  (9, (0, 11, 0, 0, 24), 0), (11, (53, 14, 61, 2, 0), 467), (14, (40, 17, 3, 1, 0), 93), (17, (0, 18, 0, 0, 0), 0), (18, (4, 19, 2, 0, 0), 0), (19, (1, 20, 2, 0, 0), 0),
  (20, (0, 21, 0, 0, 4), 0), (21, (34, 24, 49, 3, 0), 0), (24, (2, 25, 0, 0, 0), 0), (25, (0, 27, 0, 0, 44), 0), (27, (53, 30, 60, 1, 0), 455), (30, (2, 31, 1, 0, 0), 0),
  (31, (39, 34, 3, 2, 0), 96), (34, (1, 35, 2, 0, 0), 0), (35, (2, 36, 0, 0, 0), 0), (36, (0, 37, 0, 0, 0), 0), (37, (0, 39, 0, 0, 15), 0), (39, (53, 42, 61, 2, 0), 467),
  (42, (45, 43, 0, 0, 0), 0), (43, (7, 46, 2, 0, 1), 0), (46, (35, 49, 19, 0, 0), 0), (49, (2, 50, 0, 0, 0), 0), (50, (0, 52, 0, 0, 59), 0), (52, (53, 55, 60, 1, 0), 455),
  (55, (57, 56, 0, 0, 0), 0)]
def pg_58 : List PRow := [(0, (0, 1, 0, 0, 0), 0), (1, (4, 2, 2, 0, 0), 0), (2, (1, 3, 2, 0, 0), 0), (3, (0, 5, 0, 0, 8), 0), (5, (34, 8, 77, 4, 0), 0), (8, (2, 9, 0, 0, 0), 0),
  (9, (37, 12, 7, 2, 0), 184), (12, (33, 15, 77, 0, 0), 0), (15, (2, 16, 0, 0, 0), 0), (16, (53, 19, 62, 0, 0), 459), (19, (52, 22, 65, 1, 0), 478), (22, (4, 23, 3, 0, 0), 0),
  (23, (1, 24, 3, 0, 0), 0), (24, (33, 27, 28, 1, 0), 0), (27, (57, 28, 0, 0, 0), 0), (28, (1, 29, 2, 0, 0), 0), (29, (0, 31, 0, 0, 8), 0), (31, (34, 34, 40, 1, 0), 0),
  (34, (2, 35, 0, 0, 0), 0), (35, (0, 36, 0, 0, 3), 0), (36, (53, 39, 63, 1, 0), 463), (39, (57, 40, 0, 0, 0), 0), (40, (2, 41, 0, 0, 0), 0), (41, (31, 42, 0, 0, 0), 0),
  (42, (37, 45, 7, 1, 0), 183), (45, (0, 46, 0, 0, 1), 0), (46, (8, 47, 0, 0, 0), 0), (47, (40, 50, 7, 1, 0), 183), (50, (2, 51, 0, 0, 0), 0), (51, (0, 52, 0, 0, 0), 0),
  (52, (0, 53, 0, 0, 3), 0), (53, (53, 56, 61, 2, 0), 467), (56, (4, 58, 4, 0, 0), 0), (58, (2, 59, 0, 0, 0), 0), (59, (0, 61, 0, 0, 59), 0), (61, (53, 64, 60, 1, 0), 455),
  (64, (2, 65, 1, 0, 0), 0), (65, (1, 66, 3, 0, 0), 0), (66, (1, 68, 4, 0, 0), 0), (68, (53, 71, 13, 2, 0), 481), (71, (7, 74, 2, 0, 1), 0), (74, (35, 77, 2, 0, 0), 0),
  (77, (57, 78, 0, 0, 0), 0)]
def pg_59 : List PRow := [(0, (0, 1, 0, 0, 0), 0), (1, (4, 2, 2, 0, 0), 0), (2, (1, 3, 2, 0, 0), 0), (3, (0, 4, 0, 0, 5), 0), (4, (34, 7, 82, 4, 0), 0), (7, (2, 8, 0, 0, 0), 0),
  (8, (37, 11, 7, 2, 0), 184), (11, (33, 14, 82, 0, 0), 0), (14, (2, 15, 0, 0, 0), 0), (15, (37, 18, 7, 1, 0), 183), (18, (2, 19, 0, 0, 0), 0), (19, (37, 22, 7, 3, 0), 185),
  (22, (34, 25, 82, 3, 0), 0), (25, (1, 26, 2, 0, 0), 0), (26, (0, 27, 0, 0, 5), 0), (27, (34, 30, 45, 1, 0), 0), (30, (2, 31, 0, 0, 0), 0), (31, (53, 34, 62, 0, 0), 459),
  (34, (0, 36, 0, 0, 116), 0), (36, (34, 39, 45, 1, 0), 0), (39, (2, 40, 0, 0, 0), 0), (40, (0, 41, 0, 0, 3), 0), (41, (53, 44, 63, 1, 0), 463), (44, (57, 45, 0, 0, 0), 0),
  (45, (2, 46, 0, 0, 0), 0), (46, (0, 48, 0, 0, 116), 0), (48, (53, 51, 60, 1, 0), 455), (51, (2, 52, 0, 0, 0), 0), (52, (0, 53, 0, 0, 1), 0), (53, (0, 54, 0, 0, 1), 0),
  (54, (2, 55, 1, 0, 0), 0), (55, (37, 58, 3, 3, 0), 101), (58, (14, 59, 0, 0, 0), 0), (59, (0, 60, 0, 0, 1), 0), (60, (9, 61, 0, 0, 0), 0), (61, (53, 64, 61, 2, 0), 467),
  (64, (4, 65, 3, 0, 0), 0), (65, (2, 66, 0, 0, 0), 0), (66, (0, 68, 0, 0, 59), 0), (68, (53, 71, 60, 1, 0), 455), (71, (2, 72, 1, 0, 0), 0), (72, (1, 73, 3, 0, 0), 0),
  (73, (53, 76, 14, 1, 0), 490), (76, (7, 79, 2, 0, 1), 0), (79, (35, 82, 2, 0, 0), 0), (82, (57, 83, 0, 0, 0), 0)]
def pg_60 : List PRow := [(0, (2, 1, 0, 0, 0), 0), (1, (37, 4, 7, 2, 0), 184), (4, (33, 7, 8, 1, 0), 0), (7, (57, 8, 0, 0, 0), 0), (8, (2, 9, 0, 0, 0), 0), (9, (53, 12, 62, 0, 0), 459),
  (12, (1, 13, 1, 0, 0), 0), (13, (34, 16, 29, 1, 0), 0), (16, (2, 17, 0, 0, 0), 0), (17, (31, 18, 0, 0, 0), 0), (18, (37, 21, 7, 1, 0), 183), (21, (0, 22, 0, 0, 1), 0),
  (22, (8, 23, 0, 0, 0), 0), (23, (40, 26, 7, 1, 0), 183), (26, (35, 29, 34, 0, 0), 0), (29, (2, 30, 0, 0, 0), 0), (30, (0, 31, 0, 0, 1), 0), (31, (53, 34, 63, 1, 0), 463),
  (34, (57, 35, 0, 0, 0), 0)]
def pg_61 : List PRow := [(0, (2, 1, 0, 0, 0), 0), (1, (37, 4, 7, 2, 0), 184), (4, (33, 7, 9, 1, 0), 0), (7, (0, 8, 0, 0, 0), 0), (8, (55, 9, 0, 0, 0), 0), (9, (0, 10, 0, 0, 0), 0),
  (10, (4, 11, 3, 0, 0), 0), (11, (0, 12, 0, 0, 0), 0), (12, (4, 14, 4, 0, 0), 0), (14, (2, 15, 0, 0, 0), 0), (15, (37, 18, 7, 1, 0), 183), (18, (4, 20, 5, 0, 0), 0),
  (20, (1, 22, 5, 0, 0), 0), (22, (2, 23, 0, 0, 0), 0), (23, (37, 26, 7, 3, 0), 185), (26, (34, 29, 74, 3, 0), 0), (29, (2, 30, 0, 0, 0), 0), (30, (39, 33, 7, 0, 0), 182),
  (33, (1, 35, 5, 0, 0), 0), (35, (44, 36, 0, 0, 0), 0), (36, (52, 39, 64, 1, 0), 471), (39, (33, 42, 74, 0, 0), 0), (42, (7, 45, 3, 0, 1), 0), (45, (1, 46, 3, 0, 0), 0),
  (46, (0, 47, 0, 0, 3), 0), (47, (34, 50, 68, 4, 0), 0), (50, (0, 52, 0, 0, 10), 0), (52, (1, 54, 4, 0, 0), 0), (54, (10, 55, 0, 0, 0), 0), (55, (2, 56, 0, 0, 0), 0),
  (56, (39, 59, 7, 0, 0), 182), (59, (1, 61, 5, 0, 0), 0), (61, (44, 62, 0, 0, 0), 0), (62, (8, 63, 0, 0, 0), 0), (63, (0, 65, 0, 0, 48), 0), (65, (9, 66, 0, 0, 0), 0),
  (66, (4, 68, 4, 0, 0), 0), (68, (7, 71, 5, 0, 1), 0), (71, (35, 74, 20, 0, 0), 0), (74, (1, 75, 3, 0, 0), 0), (75, (33, 78, 83, 0, 0), 0), (78, (1, 79, 3, 0, 0), 0),
  (79, (0, 80, 0, 0, 3), 0), (80, (34, 83, 90, 5, 0), 0), (83, (2, 84, 0, 0, 0), 0), (84, (0, 85, 0, 0, 1), 0), (85, (53, 88, 63, 1, 0), 463), (88, (0, 89, 0, 0, 0), 0),
  (89, (55, 90, 0, 0, 0), 0), (90, (1, 92, 4, 0, 0), 0), (92, (1, 93, 1, 0, 0), 0), (93, (34, 96, 102, 2, 0), 0), (96, (1, 98, 4, 0, 0), 0), (98, (1, 99, 2, 0, 0), 0),
  (99, (34, 102, 109, 5, 0), 0), (102, (2, 103, 0, 0, 0), 0), (103, (0, 104, 0, 0, 2), 0), (104, (53, 107, 63, 1, 0), 463), (107, (0, 108, 0, 0, 0), 0), (108, (55, 109, 0, 0, 0), 0),
  (109, (2, 110, 0, 0, 0), 0), (110, (31, 111, 0, 0, 0), 0), (111, (37, 114, 7, 1, 0), 183), (114, (1, 115, 3, 0, 0), 0), (115, (8, 116, 0, 0, 0), 0), (116, (40, 119, 7, 1, 0), 183),
  (119, (1, 121, 4, 0, 0), 0), (121, (55, 122, 0, 0, 0), 0)]
def pg_62 : List PRow := [(0, (2, 1, 0, 0, 0), 0), (1, (37, 4, 7, 1, 0), 183), (4, (33, 7, 39, 2, 0), 0), (7, (2, 8, 0, 0, 0), 0), (8, (37, 11, 7, 1, 0), 183), (11, (2, 12, 0, 0, 0), 0),
  (12, (37, 15, 7, 3, 0), 185), (15, (34, 18, 39, 3, 0), 0), (18, (2, 19, 0, 0, 0), 0), (19, (37, 22, 7, 1, 0), 183), (22, (0, 24, 0, 0, 120), 0), (24, (34, 27, 39, 3, 0), 0),
  (27, (2, 28, 0, 0, 0), 0), (28, (39, 31, 7, 0, 0), 182), (31, (2, 32, 0, 0, 0), 0), (32, (37, 35, 7, 1, 0), 183), (35, (44, 36, 0, 0, 0), 0), (36, (35, 39, 40, 0, 0), 0),
  (39, (0, 40, 0, 0, -1), 0), (40, (55, 41, 0, 0, 0), 0)]
def pg_63 : List PRow := [(0, (2, 1, 0, 0, 0), 0), (1, (0, 2, 0, 0, 0), 0), (2, (41, 5, 7, 2, 0), 184), (5, (2, 6, 0, 0, 0), 0), (6, (1, 7, 1, 0, 0), 0), (7, (40, 10, 7, 4, 0), 187),
  (10, (2, 11, 0, 0, 0), 0), (11, (2, 12, 0, 0, 0), 0), (12, (37, 15, 7, 1, 0), 183), (15, (40, 18, 7, 5, 0), 189), (18, (57, 19, 0, 0, 0), 0)]
def pg_64 : List PRow := [(0, (1, 1, 0, 0, 0), 0), (1, (0, 3, 0, 0, 48), 0), (3, (34, 6, 16, 2, 0), 0), (6, (1, 7, 0, 0, 0), 0), (7, (0, 9, 0, 0, 57), 0), (9, (34, 12, 16, 4, 0), 0),
  (12, (0, 13, 0, 0, 1), 0), (13, (35, 16, 17, 0, 0), 0), (16, (0, 17, 0, 0, 0), 0), (17, (56, 18, 0, 0, 0), 0)]
def pg_65 : List PRow := [(0, (1, 1, 0, 0, 0), 0), (1, (36, 64, 1, 0, 0), 0), (64, (0, 65, 0, 0, 1), 0), (65, (55, 66, 0, 0, 0), 0), (66, (0, 67, 0, 0, 2), 0), (67, (55, 68, 0, 0, 0), 0),
  (68, (0, 69, 0, 0, 3), 0), (69, (55, 70, 0, 0, 0), 0), (70, (0, 71, 0, 0, 4), 0), (71, (55, 72, 0, 0, 0), 0), (72, (0, 73, 0, 0, 5), 0), (73, (55, 74, 0, 0, 0), 0),
  (74, (0, 75, 0, 0, 0), 0), (75, (55, 76, 0, 0, 0), 0)]
def pg_66 : List PRow := [(0, (2, 1, 0, 0, 0), 0), (1, (64, 4, 0, 0, 0), 302), (4, (2, 5, 0, 0, 0), 0), (5, (0, 7, 0, 0, 8), 0), (7, (59, 9, 0, 0, 0), 0), (9, (61, 12, 8, 0, 0), 303),
  (12, (2, 13, 0, 0, 0), 0), (13, (0, 14, 0, 0, 5), 0), (14, (59, 16, 0, 0, 0), 0), (16, (61, 19, 8, 1, 0), 304), (19, (2, 20, 0, 0, 0), 0), (20, (0, 21, 0, 0, 0), 0),
  (21, (40, 24, 8, 2, 0), 305), (24, (57, 25, 0, 0, 0), 0)]
def pg_67 : List PRow := [(0, (2, 1, 0, 0, 0), 0), (1, (1, 3, 4, 0, 0), 0), (3, (0, 4, 0, 0, 5), 0), (4, (66, 7, 0, 0, 0), 754), (7, (40, 10, 8, 2, 0), 305), (10, (0, 11, 0, 0, 0), 0),
  (11, (4, 13, 5, 0, 0), 0), (13, (0, 14, 0, 0, 0), 0), (14, (4, 16, 6, 0, 0), 0), (16, (1, 18, 6, 0, 0), 0), (18, (2, 19, 0, 0, 0), 0), (19, (37, 22, 8, 2, 0), 305),
  (22, (34, 25, 81, 3, 0), 0), (25, (2, 26, 2, 0, 0), 0), (26, (39, 29, 5, 0, 0), 332), (29, (1, 30, 3, 0, 0), 0), (30, (1, 32, 6, 0, 0), 0), (32, (8, 33, 0, 0, 0), 0),
  (33, (44, 34, 0, 0, 0), 0), (34, (4, 36, 7, 0, 0), 0), (36, (2, 37, 1, 0, 0), 0), (37, (1, 39, 7, 0, 0), 0), (39, (53, 42, 17, 1, 0), 755), (42, (33, 45, 55, 0, 0), 0),
  (45, (1, 47, 5, 0, 0), 0), (47, (1, 49, 7, 0, 0), 0), (49, (52, 52, 105, 2, 1), 756), (52, (33, 55, 57, 0, 0), 0), (55, (0, 56, 0, 0, 0), 0), (56, (56, 57, 0, 0, 0), 0),
  (57, (1, 59, 5, 0, 0), 0), (59, (0, 60, 0, 0, 1), 0), (60, (1, 62, 7, 0, 0), 0), (62, (14, 63, 0, 0, 0), 0), (63, (12, 64, 0, 0, 0), 0), (64, (4, 66, 5, 0, 0), 0),
  (66, (2, 67, 0, 0, 0), 0), (67, (39, 70, 8, 1, 0), 304), (70, (1, 72, 6, 0, 0), 0), (72, (1, 74, 7, 0, 0), 0), (74, (45, 75, 0, 0, 0), 0), (75, (7, 78, 6, 0, 1), 0),
  (78, (35, 81, 16, 0, 0), 0), (81, (0, 82, 0, 0, 1), 0), (82, (56, 83, 0, 0, 0), 0)]
def pg_68 : List PRow := [(0, (2, 1, 0, 0, 0), 0), (1, (39, 4, 8, 0, 0), 303), (4, (0, 6, 0, 0, -1000000), 761), (6, (52, 9, 183, 2, 0), 762), (9, (2, 10, 0, 0, 0), 0), (10, (2, 11, 1, 0, 0), 0),
  (11, (0, 12, 0, 0, 0), 0), (12, (0, 13, 0, 0, 0), 0), (13, (0, 14, 0, 0, -1), 0), (14, (52, 17, 69, 5, 0), 763), (17, (55, 18, 0, 0, 0), 0)]
def pg_69 : List PRow := [(0, (1, 1, 2, 0, 0), 0), (1, (2, 2, 0, 0, 0), 0), (2, (37, 5, 8, 2, 0), 305), (5, (34, 8, 13, 3, 0), 0), (8, (1, 9, 2, 0, 0), 0), (9, (0, 10, 0, 0, 5), 0),
  (10, (34, 13, 15, 2, 0), 0), (13, (0, 14, 0, 0, 1), 0), (14, (55, 15, 0, 0, 0), 0), (15, (2, 16, 1, 0, 0), 0), (16, (2, 17, 0, 0, 0), 0), (17, (39, 20, 8, 0, 0), 303),
  (20, (1, 21, 3, 0, 0), 0), (21, (1, 23, 4, 0, 0), 0), (23, (53, 26, 22, 3, 0), 766), (26, (2, 27, 1, 0, 0), 0), (27, (39, 30, 3, 9, 0), 125), (30, (2, 31, 0, 0, 0), 0),
  (31, (39, 34, 8, 1, 0), 304), (34, (1, 35, 2, 0, 0), 0), (35, (44, 36, 0, 0, 0), 0), (36, (44, 37, 0, 0, 0), 0), (37, (11, 38, 0, 0, 0), 0), (38, (4, 40, 5, 0, 0), 0),
  (40, (1, 41, 2, 0, 0), 0), (41, (2, 42, 0, 0, 0), 0), (42, (37, 45, 8, 2, 0), 305), (45, (0, 46, 0, 0, 1), 0), (46, (9, 47, 0, 0, 0), 0), (47, (34, 50, 56, 1, 0), 0),
  (50, (1, 52, 5, 0, 0), 0), (52, (52, 55, 182, 1, 0), 767), (55, (55, 56, 0, 0, 0), 0), (56, (0, 57, 0, 0, 0), 0), (57, (4, 59, 6, 0, 0), 0), (59, (0, 60, 0, 0, 0), 0),
  (60, (4, 62, 7, 0, 0), 0), (62, (1, 64, 7, 0, 0), 0), (64, (2, 65, 1, 0, 0), 0), (65, (37, 68, 3, 3, 0), 99), (68, (34, 71, 141, 3, 0), 0), (71, (1, 73, 5, 0, 0), 0),
  (73, (1, 75, 7, 0, 0), 0), (75, (52, 78, 105, 2, 1), 756), (78, (33, 81, 135, 0, 0), 0), (81, (2, 82, 0, 0, 0), 0), (82, (39, 85, 8, 0, 0), 303), (85, (1, 87, 7, 0, 0), 0),
  (87, (44, 88, 0, 0, 0), 0), (88, (4, 90, 8, 0, 0), 0), (90, (2, 91, 0, 0, 0), 0), (91, (39, 94, 8, 0, 0), 303), (94, (1, 96, 7, 0, 0), 0), (96, (1, 97, 3, 0, 0), 0),
  (97, (45, 98, 0, 0, 0), 0), (98, (1, 100, 6, 0, 0), 0), (100, (2, 101, 0, 0, 0), 0), (101, (2, 102, 1, 0, 0), 0), (102, (1, 103, 2, 0, 0), 0), (103, (0, 104, 0, 0, 1), 0),
  (104, (8, 105, 0, 0, 0), 0), (105, (1, 106, 3, 0, 0), 0), (106, (2, 107, 1, 0, 0), 0), (107, (1, 109, 7, 0, 0), 0), (109, (53, 112, 25, 1, 0), 768), (112, (8, 113, 0, 0, 0), 0),
  (113, (2, 114, 1, 0, 0), 0), (114, (39, 117, 3, 5, 0), 107), (117, (1, 119, 7, 0, 0), 0), (119, (44, 120, 0, 0, 0), 0), (120, (52, 123, 69, 5, 0), 763), (123, (8, 124, 0, 0, 0), 0),
  (124, (4, 126, 6, 0, 0), 0), (126, (2, 127, 0, 0, 0), 0), (127, (39, 130, 8, 0, 0), 303), (130, (1, 132, 7, 0, 0), 0), (132, (1, 134, 8, 0, 0), 0), (134, (45, 135, 0, 0, 0), 0),
  (135, (7, 138, 7, 0, 1), 0), (138, (35, 141, 62, 0, 0), 0), (141, (1, 143, 6, 0, 0), 0), (143, (55, 144, 0, 0, 0), 0)]
def pg_70 : List PRow := [(0, (2, 1, 0, 0, 0), 0), (1, (64, 4, 0, 0, 0), 79), (4, (2, 5, 0, 0, 0), 0), (5, (0, 7, 0, 0, 8), 0), (7, (60, 10, 3, 0, 0), 82), (10, (61, 13, 9, 0, 0), 349),
  (13, (2, 14, 0, 0, 0), 0), (14, (58, 17, 3, 0, 0), 84), (17, (31, 18, 0, 0, 0), 0), (18, (63, 21, 11, 0, 1), 86), (21, (61, 24, 9, 1, 0), 350), (24, (2, 25, 0, 0, 0), 0),
  (25, (58, 28, 3, 0, 0), 84), (28, (31, 29, 0, 0, 0), 0), (29, (63, 32, 11, 0, 1), 86), (32, (61, 35, 9, 2, 0), 351), (35, (2, 36, 0, 0, 0), 0), (36, (0, 37, 0, 0, 2), 0),
  (37, (60, 40, 4, 0, 0), 84), (40, (61, 43, 9, 3, 0), 352), (43, (2, 44, 0, 0, 0), 0), (44, (58, 47, 7, 0, 0), 176), (47, (31, 48, 0, 0, 0), 0), (48, (63, 51, 54, 0, 1), 178),
  (51, (61, 54, 9, 4, 0), 353), (54, (2, 55, 0, 0, 0), 0), (55, (58, 58, 1, 0, 0), 204), (58, (31, 59, 0, 0, 0), 0), (59, (63, 62, 1, 0, 0), 206), (62, (61, 65, 9, 5, 0), 354),
  (65, (2, 66, 0, 0, 0), 0), (66, (58, 69, 4, 0, 0), 247), (69, (31, 70, 0, 0, 0), 0), (70, (63, 73, 34, 0, 1), 249), (73, (61, 76, 9, 6, 0), 355), (76, (2, 77, 0, 0, 0), 0),
  (77, (58, 80, 6, 0, 0), 280), (80, (31, 81, 0, 0, 0), 0), (81, (63, 84, 46, 0, 1), 282), (84, (61, 87, 9, 7, 0), 356), (87, (2, 88, 0, 0, 0), 0), (88, (58, 91, 8, 0, 0), 297),
  (91, (31, 92, 0, 0, 0), 0), (92, (63, 95, 66, 0, 1), 299), (95, (61, 98, 9, 8, 0), 357), (98, (2, 99, 0, 0, 0), 0), (99, (58, 102, 2, 0, 0), 313), (102, (31, 103, 0, 0, 0), 0),
  (103, (63, 106, 5, 0, 1), 315), (106, (61, 109, 9, 9, 0), 358), (109, (2, 110, 0, 0, 0), 0), (110, (0, 111, 0, 0, 0), 0), (111, (40, 114, 9, 10, 0), 359), (114, (0, 115, 0, 0, 0), 0),
  (115, (4, 116, 1, 0, 0), 0), (116, (1, 117, 1, 0, 0), 0), (117, (0, 119, 0, 0, 8), 0), (119, (34, 122, 141, 3, 0), 0), (122, (2, 123, 0, 0, 0), 0), (123, (39, 126, 9, 0, 0), 349),
  (126, (1, 127, 1, 0, 0), 0), (127, (58, 130, 5, 0, 0), 82), (130, (31, 131, 0, 0, 0), 0), (131, (63, 134, 42, 0, 1), 327), (134, (62, 135, 0, 0, 0), 0), (135, (7, 138, 1, 0, 1), 0),
  (138, (35, 141, 116, 0, 0), 0), (141, (0, 142, 0, 0, 0), 0), (142, (4, 143, 1, 0, 0), 0), (143, (1, 144, 1, 0, 0), 0), (144, (0, 145, 0, 0, 2), 0), (145, (34, 148, 167, 3, 0), 0),
  (148, (2, 149, 0, 0, 0), 0), (149, (39, 152, 9, 3, 0), 352), (152, (1, 153, 1, 0, 0), 0), (153, (58, 156, 3, 0, 0), 84), (156, (31, 157, 0, 0, 0), 0), (157, (63, 160, 11, 0, 1), 86),
  (160, (62, 161, 0, 0, 0), 0), (161, (7, 164, 1, 0, 1), 0), (164, (35, 167, 143, 0, 0), 0), (167, (57, 168, 0, 0, 0), 0)]
def pg_71 : List PRow := [(0, (1, 1, 1, 0, 0), 0), (1, (52, 4, 75, 1, 0), 387), (4, (33, 7, 22, 0, 0), 0), (7, (1, 8, 2, 0, 0), 0), (8, (33, 11, 22, 2, 0), 0), (11, (1, 12, 2, 0, 0), 0),
  (12, (0, 13, 0, 0, 2), 0), (13, (34, 16, 22, 4, 0), 0), (16, (1, 17, 3, 0, 0), 0), (17, (0, 19, 0, 0, 40), 0), (19, (34, 22, 25, 5, 0), 0), (22, (0, 24, 0, 0, -1000001), 390),
  (24, (55, 25, 0, 0, 0), 0), (25, (1, 26, 3, 0, 0), 0), (26, (33, 29, 35, 3, 0), 0), (29, (2, 30, 0, 0, 0), 0), (30, (0, 31, 0, 0, 4), 0), (31, (53, 34, 76, 1, 0), 391),
  (34, (55, 35, 0, 0, 0), 0), (35, (2, 36, 0, 0, 0), 0), (36, (39, 39, 9, 0, 0), 349), (39, (1, 40, 1, 0, 0), 0), (40, (50, 41, 0, 0, 0), 0), (41, (1, 42, 2, 0, 0), 0),
  (42, (1, 43, 3, 0, 0), 0), (43, (53, 46, 43, 2, 0), 396), (46, (2, 47, 0, 0, 0), 0), (47, (1, 48, 3, 0, 0), 0), (48, (53, 51, 77, 1, 0), 403), (51, (55, 52, 0, 0, 0), 0)]
def pg_72 : List PRow := [(0, (1, 1, 1, 0, 0), 0), (1, (52, 4, 75, 1, 0), 387), (4, (33, 7, 10, 1, 0), 0), (7, (0, 9, 0, 0, -1000001), 390), (9, (55, 10, 0, 0, 0), 0), (10, (2, 11, 0, 0, 0), 0),
  (11, (39, 14, 9, 0, 0), 349), (14, (1, 15, 1, 0, 0), 0), (15, (50, 16, 0, 0, 0), 0), (16, (5, 18, 4, 0, 0), 0), (18, (2, 20, 4, 0, 0), 0), (20, (37, 23, 5, 1, 0), 335),
  (23, (33, 26, 32, 1, 0), 0), (26, (2, 27, 0, 0, 0), 0), (27, (0, 28, 0, 0, 1), 0), (28, (53, 31, 76, 1, 0), 391), (31, (55, 32, 0, 0, 0), 0), (32, (1, 33, 2, 0, 0), 0),
  (33, (33, 36, 45, 2, 0), 0), (36, (1, 37, 2, 0, 0), 0), (37, (2, 39, 4, 0, 0), 0), (39, (37, 42, 5, 3, 0), 339), (42, (34, 45, 51, 2, 0), 0), (45, (2, 46, 0, 0, 0), 0),
  (46, (0, 47, 0, 0, 2), 0), (47, (53, 50, 76, 1, 0), 391), (50, (55, 51, 0, 0, 0), 0), (51, (2, 53, 4, 0, 0), 0), (53, (39, 56, 5, 0, 0), 333), (56, (1, 57, 2, 0, 0), 0),
  (57, (2, 59, 4, 0, 0), 0), (59, (1, 60, 3, 0, 0), 0), (60, (53, 63, 44, 1, 0), 411), (63, (45, 64, 0, 0, 0), 0), (64, (2, 65, 0, 0, 0), 0), (65, (2, 67, 4, 0, 0), 0),
  (67, (39, 70, 5, 0, 0), 333), (70, (1, 71, 2, 0, 0), 0), (71, (44, 72, 0, 0, 0), 0), (72, (53, 75, 77, 1, 0), 403), (75, (55, 76, 0, 0, 0), 0)]
def pg_73 : List PRow := [(0, (1, 1, 1, 0, 0), 0), (1, (52, 4, 75, 1, 0), 387), (4, (33, 7, 14, 0, 0), 0), (7, (1, 8, 3, 0, 0), 0), (8, (52, 11, 75, 1, 0), 387), (11, (33, 14, 17, 1, 0), 0),
  (14, (0, 16, 0, 0, -1000001), 390), (16, (55, 17, 0, 0, 0), 0), (17, (2, 18, 0, 0, 0), 0), (18, (39, 21, 9, 0, 0), 349), (21, (1, 22, 1, 0, 0), 0), (22, (50, 23, 0, 0, 0), 0),
  (23, (5, 25, 6, 0, 0), 0), (25, (2, 26, 0, 0, 0), 0), (26, (39, 29, 9, 0, 0), 349), (29, (1, 30, 3, 0, 0), 0), (30, (50, 31, 0, 0, 0), 0), (31, (5, 33, 7, 0, 0), 0),
  (33, (2, 35, 6, 0, 0), 0), (35, (37, 38, 5, 1, 0), 335), (38, (33, 41, 49, 0, 0), 0), (41, (2, 43, 7, 0, 0), 0), (43, (37, 46, 5, 1, 0), 335), (46, (33, 49, 55, 1, 0), 0),
  (49, (2, 50, 0, 0, 0), 0), (50, (0, 51, 0, 0, 1), 0), (51, (53, 54, 76, 1, 0), 391), (54, (55, 55, 0, 0, 0), 0), (55, (2, 57, 6, 0, 0), 0), (57, (37, 60, 5, 2, 0), 337),
  (60, (2, 62, 7, 0, 0), 0), (62, (37, 65, 5, 2, 0), 337), (65, (34, 68, 74, 0, 0), 0), (68, (2, 69, 0, 0, 0), 0), (69, (0, 70, 0, 0, 5), 0), (70, (53, 73, 76, 1, 0), 391),
  (73, (55, 74, 0, 0, 0), 0), (74, (2, 76, 6, 0, 0), 0), (76, (1, 77, 2, 0, 0), 0), (77, (1, 79, 5, 0, 0), 0), (79, (53, 82, 45, 2, 0), 419), (82, (33, 85, 97, 0, 0), 0),
  (85, (2, 87, 7, 0, 0), 0), (87, (1, 89, 4, 0, 0), 0), (89, (1, 91, 5, 0, 0), 0), (91, (53, 94, 45, 2, 0), 419), (94, (33, 97, 103, 1, 0), 0), (97, (2, 98, 0, 0, 0), 0),
  (98, (0, 99, 0, 0, 2), 0), (99, (53, 102, 76, 1, 0), 391), (102, (55, 103, 0, 0, 0), 0), (103, (2, 105, 6, 0, 0), 0), (105, (39, 108, 5, 0, 0), 333), (108, (1, 109, 2, 0, 0), 0),
  (109, (2, 111, 7, 0, 0), 0), (111, (39, 114, 5, 0, 0), 333), (114, (1, 116, 4, 0, 0), 0), (116, (1, 118, 5, 0, 0), 0), (118, (54, 121, 0, 0, 0), 423), (121, (2, 122, 0, 0, 0), 0),
  (122, (1, 124, 5, 0, 0), 0), (124, (53, 127, 77, 1, 0), 403), (127, (55, 128, 0, 0, 0), 0)]
def pg_74 : List PRow := [(0, (1, 1, 1, 0, 0), 0), (1, (52, 4, 75, 1, 0), 387), (4, (33, 7, 10, 1, 0), 0), (7, (0, 9, 0, 0, -1000001), 390), (9, (55, 10, 0, 0, 0), 0), (10, (2, 11, 0, 0, 0), 0),
  (11, (39, 14, 9, 0, 0), 349), (14, (1, 15, 1, 0, 0), 0), (15, (50, 16, 0, 0, 0), 0), (16, (5, 17, 2, 0, 0), 0), (17, (2, 18, 2, 0, 0), 0), (18, (37, 21, 5, 1, 0), 335),
  (21, (33, 24, 30, 1, 0), 0), (24, (2, 25, 0, 0, 0), 0), (25, (0, 26, 0, 0, 1), 0), (26, (53, 29, 76, 1, 0), 391), (29, (55, 30, 0, 0, 0), 0), (30, (2, 31, 2, 0, 0), 0),
  (31, (0, 32, 0, 0, 0), 0), (32, (41, 35, 5, 1, 0), 335), (35, (2, 36, 0, 0, 0), 0), (36, (2, 37, 2, 0, 0), 0), (37, (37, 40, 5, 3, 0), 339), (40, (53, 43, 77, 1, 0), 403),
  (43, (55, 44, 0, 0, 0), 0)]
def pg_75 : List PRow := [(0, (1, 1, 0, 0, 0), 0), (1, (33, 4, 14, 2, 0), 0), (4, (1, 5, 0, 0, 0), 0), (5, (0, 7, 0, 0, 8), 0), (7, (34, 10, 14, 3, 0), 0), (10, (0, 11, 0, 0, 1), 0),
  (11, (35, 14, 15, 0, 0), 0), (14, (0, 15, 0, 0, 0), 0), (15, (56, 16, 0, 0, 0), 0)]
def pg_76 : List PRow := [(0, (2, 1, 0, 0, 0), 0), (1, (1, 2, 1, 0, 0), 0), (2, (40, 5, 9, 10, 0), 359), (5, (0, 7, 0, 0, -1000010), 395), (7, (1, 8, 1, 0, 0), 0), (8, (9, 9, 0, 0, 0), 0),
  (9, (55, 10, 0, 0, 0), 0)]
def pg_77 : List PRow := [(0, (2, 1, 0, 0, 0), 0), (1, (0, 2, 0, 0, 0), 0), (2, (40, 5, 9, 10, 0), 359), (5, (1, 6, 1, 0, 0), 0), (6, (55, 7, 0, 0, 0), 0)]
def pg_78 : List PRow := [(0, (1, 1, 1, 0, 0), 0), (1, (33, 4, 11, 2, 0), 0), (4, (1, 5, 1, 0, 0), 0), (5, (0, 8, 0, 0, 255), 0), (8, (34, 11, 14, 5, 0), 0), (11, (0, 13, 0, 0, -1000001), 390),
  (13, (55, 14, 0, 0, 0), 0), (14, (2, 15, 0, 0, 0), 0), (15, (39, 18, 9, 4, 0), 353), (18, (1, 19, 1, 0, 0), 0), (19, (53, 22, 55, 1, 0), 434), (22, (33, 25, 35, 0, 0), 0),
  (25, (2, 26, 0, 0, 0), 0), (26, (39, 29, 9, 4, 0), 353), (29, (37, 32, 7, 3, 0), 186), (32, (35, 35, 37, 0, 0), 0), (35, (0, 37, 0, 0, -1000003), 438), (37, (55, 38, 0, 0, 0), 0)]
def pg_79 : List PRow := [(0, (2, 1, 0, 0, 0), 0), (1, (39, 4, 9, 4, 0), 353), (4, (2, 5, 0, 0, 0), 0), (5, (39, 8, 9, 2, 0), 351), (8, (53, 11, 56, 1, 0), 443), (11, (4, 12, 1, 0, 0), 0),
  (12, (2, 13, 0, 0, 0), 0), (13, (39, 16, 9, 4, 0), 353), (16, (0, 17, 0, 0, 0), 0), (17, (40, 20, 7, 3, 0), 186), (20, (1, 21, 1, 0, 0), 0), (21, (33, 24, 35, 1, 0), 0),
  (24, (0, 26, 0, 0, -1000100), 494), (26, (2, 27, 0, 0, 0), 0), (27, (39, 30, 9, 4, 0), 353), (30, (37, 33, 7, 5, 0), 190), (33, (9, 34, 0, 0, 0), 0), (34, (55, 35, 0, 0, 0), 0),
  (35, (2, 36, 0, 0, 0), 0), (36, (39, 39, 9, 1, 0), 350), (39, (2, 40, 0, 0, 0), 0), (40, (39, 43, 9, 2, 0), 351), (43, (53, 46, 15, 1, 0), 495), (46, (2, 47, 0, 0, 0), 0),
  (47, (39, 50, 9, 5, 0), 354), (50, (53, 53, 2, 0, 0), 500), (53, (2, 54, 0, 0, 0), 0), (54, (39, 57, 9, 1, 0), 350), (57, (37, 60, 3, 8, 0), 123), (60, (55, 61, 0, 0, 0), 0)]
def pg_80 : List PRow := [(0, (2, 1, 0, 0, 0), 0), (1, (39, 4, 9, 4, 0), 353), (4, (37, 7, 7, 4, 0), 188), (7, (55, 8, 0, 0, 0), 0)]
def pg_81 : List PRow := [(0, (2, 1, 0, 0, 0), 0), (1, (39, 4, 9, 1, 0), 350), (4, (1, 5, 1, 0, 0), 0), (5, (53, 8, 17, 1, 0), 512), (8, (33, 11, 22, 0, 0), 0), (11, (2, 12, 0, 0, 0), 0),
  (12, (39, 15, 9, 1, 0), 350), (15, (1, 16, 2, 0, 0), 0), (16, (53, 19, 16, 1, 0), 516), (19, (33, 22, 25, 1, 0), 0), (22, (0, 24, 0, 0, -1000001), 390), (24, (55, 25, 0, 0, 0), 0),
  (25, (2, 26, 0, 0, 0), 0), (26, (39, 29, 9, 1, 0), 350), (29, (1, 30, 1, 0, 0), 0), (30, (53, 33, 18, 1, 0), 520), (33, (33, 36, 51, 1, 0), 0), (36, (2, 37, 0, 0, 0), 0),
  (37, (39, 40, 9, 1, 0), 350), (40, (1, 41, 1, 0, 0), 0), (41, (53, 44, 24, 1, 0), 525), (44, (1, 45, 2, 0, 0), 0), (45, (52, 48, 105, 2, 0), 557), (48, (33, 51, 54, 1, 0), 0),
  (51, (0, 53, 0, 0, -1000002), 558), (53, (55, 54, 0, 0, 0), 0), (54, (2, 55, 0, 0, 0), 0), (55, (39, 58, 9, 5, 0), 354), (58, (2, 59, 0, 0, 0), 0), (59, (39, 62, 9, 1, 0), 350),
  (62, (1, 63, 1, 0, 0), 0), (63, (1, 64, 2, 0, 0), 0), (64, (53, 67, 3, 3, 0), 559), (67, (2, 68, 0, 0, 0), 0), (68, (39, 71, 9, 1, 0), 350), (71, (1, 72, 1, 0, 0), 0),
  (72, (1, 73, 2, 0, 0), 0), (73, (53, 76, 27, 2, 0), 568), (76, (2, 77, 0, 0, 0), 0), (77, (39, 80, 9, 1, 0), 350), (80, (37, 83, 3, 11, 0), 135), (83, (55, 84, 0, 0, 0), 0)]
def pg_82 : List PRow := [(0, (2, 1, 0, 0, 0), 0), (1, (39, 4, 9, 1, 0), 350), (4, (1, 5, 1, 0, 0), 0), (5, (53, 8, 17, 1, 0), 512), (8, (33, 11, 14, 1, 0), 0), (11, (0, 13, 0, 0, -1000001), 390),
  (13, (55, 14, 0, 0, 0), 0), (14, (2, 15, 0, 0, 0), 0), (15, (39, 18, 9, 1, 0), 350), (18, (1, 19, 1, 0, 0), 0), (19, (53, 22, 18, 1, 0), 520), (22, (33, 25, 35, 1, 0), 0),
  (25, (2, 26, 0, 0, 0), 0), (26, (39, 29, 9, 1, 0), 350), (29, (37, 32, 3, 13, 0), 144), (32, (33, 35, 38, 4, 0), 0), (35, (0, 37, 0, 0, -1000002), 558), (37, (55, 38, 0, 0, 0), 0),
  (38, (2, 39, 0, 0, 0), 0), (39, (39, 42, 9, 5, 0), 354), (42, (2, 43, 0, 0, 0), 0), (43, (39, 46, 9, 1, 0), 350), (46, (1, 47, 1, 0, 0), 0), (47, (0, 49, 0, 0, 8), 0),
  (49, (53, 52, 3, 3, 0), 559), (52, (2, 53, 0, 0, 0), 0), (53, (39, 56, 9, 1, 0), 350), (56, (1, 57, 1, 0, 0), 0), (57, (53, 60, 28, 1, 0), 584), (60, (2, 61, 0, 0, 0), 0),
  (61, (39, 64, 9, 1, 0), 350), (64, (37, 67, 3, 13, 0), 144), (67, (55, 68, 0, 0, 0), 0)]
def pg_83 : List PRow := [(0, (2, 1, 0, 0, 0), 0), (1, (39, 4, 9, 1, 0), 350), (4, (37, 7, 3, 0, 0), 91), (7, (33, 10, 13, 1, 0), 0), (10, (0, 12, 0, 0, -1000002), 558), (12, (55, 13, 0, 0, 0), 0),
  (13, (1, 14, 1, 0, 0), 0), (14, (0, 15, 0, 0, 1), 0), (15, (34, 18, 24, 2, 0), 0), (18, (1, 19, 1, 0, 0), 0), (19, (0, 21, 0, 0, 24), 0), (21, (34, 24, 27, 5, 0), 0),
  (24, (0, 26, 0, 0, -1000001), 390), (26, (55, 27, 0, 0, 0), 0), (27, (2, 28, 0, 0, 0), 0), (28, (39, 31, 9, 1, 0), 350), (31, (37, 34, 3, 11, 0), 135), (34, (1, 35, 1, 0, 0), 0),
  (35, (8, 36, 0, 0, 0), 0), (36, (0, 39, 0, 0, 999), 0), (39, (34, 42, 45, 5, 0), 0), (42, (0, 44, 0, 0, -1000003), 438), (44, (55, 45, 0, 0, 0), 0), (45, (2, 46, 0, 0, 0), 0),
  (46, (39, 49, 9, 5, 0), 354), (49, (2, 50, 0, 0, 0), 0), (50, (39, 53, 9, 1, 0), 350), (53, (0, 54, 0, 0, -1), 0), (54, (0, 56, 0, 0, 8), 0), (56, (53, 59, 3, 3, 0), 559),
  (59, (2, 60, 0, 0, 0), 0), (60, (39, 63, 9, 1, 0), 350), (63, (31, 64, 0, 0, 0), 0), (64, (37, 67, 3, 11, 0), 135), (67, (1, 68, 1, 0, 0), 0), (68, (8, 69, 0, 0, 0), 0),
  (69, (40, 72, 3, 11, 0), 135), (72, (2, 73, 0, 0, 0), 0), (73, (39, 76, 9, 1, 0), 350), (76, (37, 79, 3, 11, 0), 135), (79, (55, 80, 0, 0, 0), 0)]
def pg_84 : List PRow := [(0, (2, 1, 0, 0, 0), 0), (1, (39, 4, 9, 5, 0), 354), (4, (37, 7, 1, 2, 0), 239), (7, (33, 10, 13, 4, 0), 0), (10, (0, 12, 0, 0, -1000002), 558), (12, (55, 13, 0, 0, 0), 0),
  (13, (2, 14, 0, 0, 0), 0), (14, (39, 17, 9, 5, 0), 354), (17, (2, 18, 0, 0, 0), 0), (18, (39, 21, 9, 1, 0), 350), (21, (53, 24, 4, 1, 0), 596), (24, (2, 25, 0, 0, 0), 0),
  (25, (39, 28, 9, 5, 0), 354), (28, (37, 31, 1, 2, 0), 239), (31, (55, 32, 0, 0, 0), 0)]
def pg_85 : List PRow := [(0, (2, 1, 0, 0, 0), 0), (1, (39, 4, 9, 1, 0), 350), (4, (1, 5, 1, 0, 0), 0), (5, (53, 8, 16, 1, 0), 516), (8, (33, 11, 14, 1, 0), 0), (11, (0, 13, 0, 0, -1000001), 390),
  (13, (55, 14, 0, 0, 0), 0), (14, (1, 15, 2, 0, 0), 0), (15, (36, 44, 2, 0, 0), 0), (44, (2, 45, 0, 0, 0), 0), (45, (39, 48, 9, 1, 0), 350), (48, (39, 51, 3, 5, 0), 111),
  (51, (1, 52, 1, 0, 0), 0), (52, (44, 53, 0, 0, 0), 0), (53, (55, 54, 0, 0, 0), 0), (54, (2, 55, 0, 0, 0), 0), (55, (39, 58, 9, 1, 0), 350), (58, (39, 61, 3, 6, 0), 116),
  (61, (1, 62, 1, 0, 0), 0), (62, (44, 63, 0, 0, 0), 0), (63, (55, 64, 0, 0, 0), 0), (64, (2, 65, 0, 0, 0), 0), (65, (39, 68, 9, 1, 0), 350), (68, (39, 71, 3, 7, 0), 120),
  (71, (1, 72, 1, 0, 0), 0), (72, (44, 73, 0, 0, 0), 0), (73, (55, 74, 0, 0, 0), 0), (74, (2, 75, 0, 0, 0), 0), (75, (39, 78, 9, 1, 0), 350), (78, (53, 81, 23, 0, 0), 605),
  (81, (1, 82, 1, 0, 0), 0), (82, (52, 85, 105, 2, 0), 557), (85, (33, 88, 92, 0, 0), 0), (88, (0, 89, 0, 0, 1), 0), (89, (35, 92, 93, 0, 0), 0), (92, (0, 93, 0, 0, 0), 0),
  (93, (55, 94, 0, 0, 0), 0), (94, (0, 96, 0, 0, -1000001), 390), (96, (55, 97, 0, 0, 0), 0)]
def pg_86 : List PRow := [(0, (2, 1, 0, 0, 0), 0), (1, (39, 4, 9, 1, 0), 350), (4, (1, 5, 1, 0, 0), 0), (5, (53, 8, 17, 1, 0), 512), (8, (33, 11, 14, 1, 0), 0), (11, (0, 13, 0, 0, -1000001), 390),
  (13, (55, 14, 0, 0, 0), 0), (14, (1, 15, 2, 0, 0), 0), (15, (36, 40, 3, 0, 0), 0), (40, (2, 41, 0, 0, 0), 0), (41, (39, 44, 9, 1, 0), 350), (44, (39, 47, 3, 9, 0), 127),
  (47, (1, 48, 1, 0, 0), 0), (48, (44, 49, 0, 0, 0), 0), (49, (55, 50, 0, 0, 0), 0), (50, (2, 51, 0, 0, 0), 0), (51, (39, 54, 9, 1, 0), 350), (54, (1, 55, 1, 0, 0), 0),
  (55, (53, 58, 18, 1, 0), 520), (58, (33, 61, 65, 0, 0), 0), (61, (0, 62, 0, 0, 1), 0), (62, (35, 65, 66, 0, 0), 0), (65, (0, 66, 0, 0, 0), 0), (66, (55, 67, 0, 0, 0), 0),
  (67, (2, 68, 0, 0, 0), 0), (68, (39, 71, 9, 1, 0), 350), (71, (39, 74, 3, 10, 0), 130), (74, (1, 75, 1, 0, 0), 0), (75, (44, 76, 0, 0, 0), 0), (76, (55, 77, 0, 0, 0), 0),
  (77, (0, 79, 0, 0, -1000001), 390), (79, (55, 80, 0, 0, 0), 0)]
def pg_87 : List PRow := [(0, (2, 1, 0, 0, 0), 0), (1, (39, 4, 9, 1, 0), 350), (4, (1, 5, 1, 0, 0), 0), (5, (53, 8, 17, 1, 0), 512), (8, (33, 11, 14, 1, 0), 0), (11, (0, 13, 0, 0, -1000001), 390),
  (13, (55, 14, 0, 0, 0), 0), (14, (2, 15, 0, 0, 0), 0), (15, (39, 18, 9, 1, 0), 350), (18, (1, 19, 1, 0, 0), 0), (19, (53, 22, 18, 1, 0), 520), (22, (33, 25, 30, 0, 0), 0),
  (25, (0, 27, 0, 0, -1000002), 558), (27, (35, 30, 38, 0, 0), 0), (30, (2, 31, 0, 0, 0), 0), (31, (39, 34, 9, 1, 0), 350), (34, (1, 35, 1, 0, 0), 0), (35, (53, 38, 24, 1, 0), 525),
  (38, (55, 39, 0, 0, 0), 0)]
def pg_88 : List PRow := [(0, (2, 1, 0, 0, 0), 0), (1, (39, 4, 9, 1, 0), 350), (4, (1, 5, 1, 0, 0), 0), (5, (53, 8, 17, 1, 0), 512), (8, (33, 11, 14, 1, 0), 0), (11, (0, 13, 0, 0, -1000001), 390),
  (13, (55, 14, 0, 0, 0), 0), (14, (2, 15, 0, 0, 0), 0), (15, (39, 18, 9, 1, 0), 350), (18, (1, 19, 1, 0, 0), 0), (19, (53, 22, 18, 1, 0), 520), (22, (33, 25, 28, 0, 0), 0),
  (25, (0, 27, 0, 0, -1000002), 558), (27, (55, 28, 0, 0, 0), 0), (28, (0, 29, 0, 0, 0), 0), (29, (4, 30, 2, 0, 0), 0), (30, (1, 31, 2, 0, 0), 0), (31, (0, 33, 0, 0, 48), 0),
  (33, (34, 36, 97, 4, 0), 0), (36, (2, 37, 0, 0, 0), 0), (37, (39, 40, 9, 1, 0), 350), (40, (2, 41, 0, 0, 0), 0), (41, (39, 44, 9, 1, 0), 350), (44, (39, 47, 3, 6, 0), 116),
  (47, (2, 48, 0, 0, 0), 0), (48, (39, 51, 9, 1, 0), 350), (51, (37, 54, 3, 11, 0), 135), (54, (1, 55, 2, 0, 0), 0), (55, (8, 56, 0, 0, 0), 0), (56, (2, 57, 0, 0, 0), 0),
  (57, (39, 60, 9, 1, 0), 350), (60, (37, 63, 3, 12, 0), 140), (63, (53, 66, 22, 3, 0), 618), (66, (4, 67, 3, 0, 0), 0), (67, (1, 68, 3, 0, 0), 0), (68, (2, 69, 0, 0, 0), 0),
  (69, (39, 72, 9, 1, 0), 350), (72, (39, 75, 3, 9, 0), 127), (75, (1, 76, 1, 0, 0), 0), (76, (44, 77, 0, 0, 0), 0), (77, (11, 78, 0, 0, 0), 0), (78, (33, 81, 91, 0, 0), 0),
  (81, (2, 82, 0, 0, 0), 0), (82, (39, 85, 9, 1, 0), 350), (85, (37, 88, 3, 11, 0), 135), (88, (1, 89, 2, 0, 0), 0), (89, (8, 90, 0, 0, 0), 0), (90, (55, 91, 0, 0, 0), 0),
  (91, (7, 94, 2, 0, 1), 0), (94, (35, 97, 30, 0, 0), 0), (97, (0, 99, 0, 0, -1000000), 619), (99, (55, 100, 0, 0, 0), 0)]
def pg_89 : List PRow := [(0, (2, 1, 0, 0, 0), 0), (1, (39, 4, 9, 1, 0), 350), (4, (37, 7, 3, 0, 0), 91), (7, (33, 10, 13, 1, 0), 0), (10, (0, 12, 0, 0, -1000002), 558), (12, (55, 13, 0, 0, 0), 0),
  (13, (1, 14, 1, 0, 0), 0), (14, (0, 15, 0, 0, -1), 0), (15, (34, 18, 23, 2, 0), 0), (18, (1, 19, 1, 0, 0), 0), (19, (0, 20, 0, 0, 5), 0), (20, (34, 23, 26, 2, 0), 0),
  (23, (0, 25, 0, 0, -1000001), 390), (25, (55, 26, 0, 0, 0), 0), (26, (2, 27, 0, 0, 0), 0), (27, (39, 30, 9, 6, 0), 355), (30, (2, 31, 0, 0, 0), 0), (31, (39, 34, 9, 1, 0), 350),
  (34, (53, 37, 35, 1, 0), 624), (37, (1, 38, 1, 0, 0), 0), (38, (33, 41, 51, 3, 0), 0), (41, (2, 42, 0, 0, 0), 0), (42, (39, 45, 9, 6, 0), 355), (45, (53, 48, 36, 0, 0), 661),
  (48, (35, 51, 59, 0, 0), 0), (51, (2, 52, 0, 0, 0), 0), (52, (39, 55, 9, 6, 0), 355), (55, (1, 56, 1, 0, 0), 0), (56, (53, 59, 37, 1, 0), 666), (59, (55, 60, 0, 0, 0), 0)]
def pg_90 : List PRow := [(0, (2, 1, 0, 0, 0), 0), (1, (39, 4, 9, 1, 0), 350), (4, (37, 7, 3, 0, 0), 91), (7, (33, 10, 13, 1, 0), 0), (10, (0, 12, 0, 0, -1000002), 558), (12, (55, 13, 0, 0, 0), 0),
  (13, (1, 14, 1, 0, 0), 0), (14, (0, 15, 0, 0, -1), 0), (15, (34, 18, 24, 2, 0), 0), (18, (1, 19, 1, 0, 0), 0), (19, (0, 21, 0, 0, 8), 0), (21, (34, 24, 27, 2, 0), 0),
  (24, (0, 26, 0, 0, -1000001), 390), (26, (55, 27, 0, 0, 0), 0), (27, (2, 28, 0, 0, 0), 0), (28, (39, 31, 9, 7, 0), 356), (31, (2, 32, 0, 0, 0), 0), (32, (39, 35, 9, 1, 0), 350),
  (35, (53, 38, 47, 1, 0), 674), (38, (1, 39, 1, 0, 0), 0), (39, (33, 42, 52, 3, 0), 0), (42, (2, 43, 0, 0, 0), 0), (43, (39, 46, 9, 7, 0), 356), (46, (37, 49, 6, 2, 0), 289),
  (49, (35, 52, 60, 0, 0), 0), (52, (2, 53, 0, 0, 0), 0), (53, (39, 56, 9, 7, 0), 356), (56, (1, 57, 1, 0, 0), 0), (57, (53, 60, 48, 1, 0), 704), (60, (55, 61, 0, 0, 0), 0)]
def pg_91 : List PRow := [(0, (2, 1, 0, 0, 0), 0), (1, (39, 4, 9, 1, 0), 350), (4, (37, 7, 3, 0, 0), 91), (7, (33, 10, 13, 1, 0), 0), (10, (0, 12, 0, 0, -1000002), 558), (12, (55, 13, 0, 0, 0), 0),
  (13, (1, 14, 1, 0, 0), 0), (14, (33, 17, 39, 2, 0), 0), (17, (1, 18, 1, 0, 0), 0), (18, (0, 19, 0, 0, 1), 0), (19, (2, 20, 0, 0, 0), 0), (20, (39, 23, 9, 1, 0), 350),
  (23, (37, 26, 3, 8, 0), 123), (26, (14, 27, 0, 0, 0), 0), (27, (34, 30, 39, 3, 0), 0), (30, (1, 31, 2, 0, 0), 0), (31, (33, 34, 39, 2, 0), 0), (34, (1, 35, 2, 0, 0), 0),
  (35, (0, 36, 0, 0, 1), 0), (36, (34, 39, 42, 5, 0), 0), (39, (0, 41, 0, 0, -1000001), 390), (41, (55, 42, 0, 0, 0), 0), (42, (2, 43, 0, 0, 0), 0), (43, (39, 46, 9, 1, 0), 350),
  (46, (1, 47, 1, 0, 0), 0), (47, (53, 50, 29, 1, 0), 713), (50, (4, 51, 3, 0, 0), 0), (51, (1, 52, 2, 0, 0), 0), (52, (33, 55, 62, 1, 0), 0), (55, (1, 56, 3, 0, 0), 0),
  (56, (52, 59, 182, 1, 0), 722), (59, (35, 62, 63, 0, 0), 0), (62, (1, 63, 3, 0, 0), 0), (63, (55, 64, 0, 0, 0), 0)]
def pg_92 : List PRow := [(0, (2, 1, 0, 0, 0), 0), (1, (39, 4, 9, 1, 0), 350), (4, (37, 7, 3, 0, 0), 91), (7, (33, 10, 13, 1, 0), 0), (10, (0, 12, 0, 0, -1000002), 558), (12, (55, 13, 0, 0, 0), 0),
  (13, (1, 14, 1, 0, 0), 0), (14, (33, 17, 22, 2, 0), 0), (17, (1, 18, 1, 0, 0), 0), (18, (0, 19, 0, 0, 1), 0), (19, (34, 22, 25, 5, 0), 0), (22, (0, 24, 0, 0, -1000001), 390),
  (24, (55, 25, 0, 0, 0), 0), (25, (0, 27, 0, 0, -1000000), 619), (27, (4, 28, 2, 0, 0), 0), (28, (0, 30, 0, 0, -1000000), 619), (30, (4, 31, 3, 0, 0), 0), (31, (0, 32, 0, 0, 0), 0),
  (32, (4, 34, 4, 0, 0), 0), (34, (1, 36, 4, 0, 0), 0), (36, (2, 37, 0, 0, 0), 0), (37, (39, 40, 9, 1, 0), 350), (40, (37, 43, 3, 3, 0), 102), (43, (34, 46, 81, 3, 0), 0),
  (46, (2, 47, 0, 0, 0), 0), (47, (39, 50, 9, 1, 0), 350), (50, (1, 52, 4, 0, 0), 0), (52, (53, 55, 31, 1, 0), 727), (55, (4, 57, 5, 0, 0), 0), (57, (1, 58, 2, 0, 0), 0),
  (58, (0, 60, 0, 0, -1000000), 619), (60, (34, 63, 69, 0, 0), 0), (63, (1, 65, 5, 0, 0), 0), (65, (1, 66, 3, 0, 0), 0), (66, (34, 69, 75, 3, 0), 0), (69, (1, 71, 4, 0, 0), 0),
  (71, (4, 72, 2, 0, 0), 0), (72, (1, 74, 5, 0, 0), 0), (74, (4, 75, 3, 0, 0), 0), (75, (7, 78, 4, 0, 1), 0), (78, (35, 81, 34, 0, 0), 0), (81, (1, 82, 1, 0, 0), 0),
  (82, (33, 85, 89, 1, 0), 0), (85, (1, 86, 2, 0, 0), 0), (86, (35, 89, 90, 0, 0), 0), (89, (1, 90, 3, 0, 0), 0), (90, (55, 91, 0, 0, 0), 0)]
def pg_93 : List PRow := [(0, (2, 1, 0, 0, 0), 0), (1, (39, 4, 9, 1, 0), 350), (4, (37, 7, 3, 0, 0), 91), (7, (33, 10, 13, 1, 0), 0), (10, (0, 12, 0, 0, -1000002), 558), (12, (55, 13, 0, 0, 0), 0),
  (13, (1, 14, 1, 0, 0), 0), (14, (33, 17, 39, 2, 0), 0), (17, (1, 18, 1, 0, 0), 0), (18, (0, 19, 0, 0, 1), 0), (19, (2, 20, 0, 0, 0), 0), (20, (39, 23, 9, 1, 0), 350),
  (23, (37, 26, 3, 3, 0), 102), (26, (14, 27, 0, 0, 0), 0), (27, (34, 30, 39, 3, 0), 0), (30, (1, 31, 2, 0, 0), 0), (31, (33, 34, 39, 2, 0), 0), (34, (1, 35, 2, 0, 0), 0),
  (35, (0, 36, 0, 0, 1), 0), (36, (34, 39, 42, 5, 0), 0), (39, (0, 41, 0, 0, -1000001), 390), (41, (55, 42, 0, 0, 0), 0), (42, (2, 43, 0, 0, 0), 0), (43, (39, 46, 9, 1, 0), 350),
  (46, (1, 47, 1, 0, 0), 0), (47, (53, 50, 32, 1, 0), 735), (50, (4, 51, 3, 0, 0), 0), (51, (1, 52, 2, 0, 0), 0), (52, (33, 55, 60, 1, 0), 0), (55, (1, 56, 3, 0, 0), 0),
  (56, (52, 59, 182, 1, 0), 722), (59, (55, 60, 0, 0, 0), 0), (60, (1, 61, 3, 0, 0), 0), (61, (52, 64, 104, 1, 0), 743), (64, (55, 65, 0, 0, 0), 0)]
def pg_94 : List PRow := [(0, (2, 1, 0, 0, 0), 0), (1, (39, 4, 9, 1, 0), 350), (4, (37, 7, 3, 0, 0), 91), (7, (33, 10, 13, 1, 0), 0), (10, (0, 12, 0, 0, -1000002), 558), (12, (55, 13, 0, 0, 0), 0),
  (13, (1, 14, 1, 0, 0), 0), (14, (52, 17, 75, 1, 0), 387), (17, (33, 20, 29, 0, 0), 0), (20, (1, 21, 3, 0, 0), 0), (21, (33, 24, 29, 2, 0), 0), (24, (1, 25, 3, 0, 0), 0),
  (25, (0, 26, 0, 0, 5), 0), (26, (34, 29, 32, 5, 0), 0), (29, (0, 31, 0, 0, -1000001), 390), (31, (55, 32, 0, 0, 0), 0), (32, (2, 33, 0, 0, 0), 0), (33, (39, 36, 9, 0, 0), 349),
  (36, (1, 37, 1, 0, 0), 0), (37, (50, 38, 0, 0, 0), 0), (38, (5, 40, 4, 0, 0), 0), (40, (2, 42, 4, 0, 0), 0), (42, (37, 45, 5, 1, 0), 335), (45, (33, 48, 54, 1, 0), 0),
  (48, (2, 49, 0, 0, 0), 0), (49, (0, 50, 0, 0, 1), 0), (50, (53, 53, 76, 1, 0), 391), (53, (55, 54, 0, 0, 0), 0), (54, (2, 56, 4, 0, 0), 0), (56, (1, 57, 2, 0, 0), 0),
  (57, (1, 58, 3, 0, 0), 0), (58, (53, 61, 45, 2, 0), 419), (61, (33, 64, 70, 1, 0), 0), (64, (2, 65, 0, 0, 0), 0), (65, (0, 66, 0, 0, 2), 0), (66, (53, 69, 76, 1, 0), 391),
  (69, (55, 70, 0, 0, 0), 0), (70, (2, 71, 0, 0, 0), 0), (71, (39, 74, 9, 8, 0), 357), (74, (2, 75, 0, 0, 0), 0), (75, (39, 78, 9, 1, 0), 350), (78, (2, 80, 4, 0, 0), 0),
  (80, (1, 81, 2, 0, 0), 0), (81, (1, 82, 3, 0, 0), 0), (82, (53, 85, 67, 4, 0), 750), (85, (33, 88, 91, 1, 0), 0), (88, (0, 90, 0, 0, -1000001), 390), (90, (55, 91, 0, 0, 0), 0),
  (91, (2, 92, 0, 0, 0), 0), (92, (2, 93, 0, 0, 0), 0), (93, (39, 96, 9, 8, 0), 357), (96, (2, 97, 0, 0, 0), 0), (97, (39, 100, 9, 1, 0), 350), (100, (53, 103, 68, 1, 0), 757),
  (103, (53, 106, 77, 1, 0), 403), (106, (55, 107, 0, 0, 0), 0)]
def pg_95 : List PRow := [(0, (1, 1, 1, 0, 0), 0), (1, (33, 4, 9, 2, 0), 0), (4, (1, 5, 1, 0, 0), 0), (5, (0, 6, 0, 0, 2), 0), (6, (34, 9, 12, 2, 0), 0), (9, (0, 11, 0, 0, -1000001), 390),
  (11, (55, 12, 0, 0, 0), 0), (12, (2, 13, 0, 0, 0), 0), (13, (39, 16, 9, 1, 0), 350), (16, (37, 19, 3, 0, 0), 91), (19, (33, 22, 25, 1, 0), 0), (22, (0, 24, 0, 0, -1000002), 558),
  (24, (55, 25, 0, 0, 0), 0), (25, (2, 26, 0, 0, 0), 0), (26, (39, 29, 9, 3, 0), 352), (29, (1, 30, 1, 0, 0), 0), (30, (50, 31, 0, 0, 0), 0), (31, (2, 32, 0, 0, 0), 0),
  (32, (39, 35, 9, 1, 0), 350), (35, (53, 38, 15, 1, 0), 495), (38, (0, 39, 0, 0, 1), 0), (39, (55, 40, 0, 0, 0), 0)]
def pg_96 : List PRow := [(0, (1, 1, 1, 0, 0), 0), (1, (33, 4, 9, 2, 0), 0), (4, (1, 5, 1, 0, 0), 0), (5, (0, 6, 0, 0, 2), 0), (6, (34, 9, 12, 2, 0), 0), (9, (0, 11, 0, 0, -1000001), 390),
  (11, (55, 12, 0, 0, 0), 0), (12, (2, 13, 0, 0, 0), 0), (13, (39, 16, 9, 3, 0), 352), (16, (1, 17, 1, 0, 0), 0), (17, (50, 18, 0, 0, 0), 0), (18, (37, 21, 3, 0, 0), 91),
  (21, (33, 24, 27, 1, 0), 0), (24, (0, 26, 0, 0, -1000002), 558), (26, (55, 27, 0, 0, 0), 0), (27, (2, 28, 0, 0, 0), 0), (28, (39, 31, 9, 1, 0), 350), (31, (2, 32, 0, 0, 0), 0),
  (32, (39, 35, 9, 3, 0), 352), (35, (1, 36, 1, 0, 0), 0), (36, (50, 37, 0, 0, 0), 0), (37, (53, 40, 15, 1, 0), 495), (40, (2, 41, 0, 0, 0), 0), (41, (39, 44, 9, 5, 0), 354),
  (44, (53, 47, 2, 0, 0), 500), (47, (0, 48, 0, 0, 1), 0), (48, (55, 49, 0, 0, 0), 0)]
def pg_97 : List PRow := [(0, (2, 1, 0, 0, 0), 0), (1, (39, 4, 9, 1, 0), 350), (4, (1, 5, 1, 0, 0), 0), (5, (53, 8, 16, 1, 0), 516), (8, (33, 11, 23, 0, 0), 0), (11, (2, 12, 0, 0, 0), 0),
  (12, (39, 15, 9, 1, 0), 350), (15, (39, 18, 3, 4, 0), 105), (18, (1, 19, 1, 0, 0), 0), (19, (44, 20, 0, 0, 0), 0), (20, (35, 23, 25, 0, 0), 0), (23, (0, 25, 0, 0, -1000001), 390),
  (25, (55, 26, 0, 0, 0), 0)]
def pg_98 : List PRow := [(0, (2, 1, 0, 0, 0), 0), (1, (39, 4, 9, 1, 0), 350), (4, (1, 5, 1, 0, 0), 0), (5, (53, 8, 16, 1, 0), 516), (8, (33, 11, 21, 0, 0), 0), (11, (1, 12, 2, 0, 0), 0),
  (12, (33, 15, 21, 2, 0), 0), (15, (1, 16, 2, 0, 0), 0), (16, (0, 18, 0, 0, 6), 0), (18, (34, 21, 24, 2, 0), 0), (21, (0, 23, 0, 0, -1000001), 390), (23, (55, 24, 0, 0, 0), 0),
  (24, (2, 25, 0, 0, 0), 0), (25, (39, 28, 9, 1, 0), 350), (28, (39, 31, 3, 4, 0), 105), (31, (1, 32, 1, 0, 0), 0), (32, (44, 33, 0, 0, 0), 0), (33, (1, 34, 2, 0, 0), 0),
  (34, (52, 37, 107, 2, 0), 785), (37, (33, 40, 48, 0, 0), 0), (40, (2, 41, 0, 0, 0), 0), (41, (1, 42, 1, 0, 0), 0), (42, (53, 45, 77, 1, 0), 403), (45, (35, 48, 53, 0, 0), 0),
  (48, (2, 49, 0, 0, 0), 0), (49, (0, 50, 0, 0, 3), 0), (50, (53, 53, 76, 1, 0), 391), (53, (55, 54, 0, 0, 0), 0)]
def pg_99 : List PRow := [(0, (2, 1, 0, 0, 0), 0), (1, (39, 4, 9, 1, 0), 350), (4, (1, 5, 1, 0, 0), 0), (5, (53, 8, 16, 1, 0), 516), (8, (33, 11, 20, 0, 0), 0), (11, (1, 12, 2, 0, 0), 0),
  (12, (33, 15, 20, 2, 0), 0), (15, (1, 16, 2, 0, 0), 0), (16, (0, 17, 0, 0, 1), 0), (17, (34, 20, 23, 5, 0), 0), (20, (0, 22, 0, 0, -1000001), 390), (22, (55, 23, 0, 0, 0), 0),
  (23, (2, 24, 0, 0, 0), 0), (24, (39, 27, 9, 9, 0), 358), (27, (2, 28, 0, 0, 0), 0), (28, (39, 31, 9, 1, 0), 350), (31, (1, 32, 1, 0, 0), 0), (32, (1, 33, 2, 0, 0), 0),
  (33, (33, 36, 42, 1, 0), 0), (36, (43, 39, 2, 0, 0), 790), (39, (35, 42, 45, 0, 0), 0), (42, (43, 45, 3, 0, 0), 792), (45, (53, 48, 6, 3, 0), 794), (48, (55, 49, 0, 0, 0), 0)]
def pg_100 : List PRow := [(0, (2, 1, 0, 0, 0), 0), (1, (39, 4, 9, 9, 0), 358), (4, (1, 5, 1, 0, 0), 0), (5, (53, 8, 7, 1, 0), 816), (8, (55, 9, 0, 0, 0), 0)]
def pg_101 : List PRow := [(0, (1, 1, 1, 0, 0), 0), (1, (36, 52, 4, 0, 0), 0), (52, (2, 53, 0, 0, 0), 0), (53, (53, 56, 103, 0, 0), 825), (56, (55, 57, 0, 0, 0), 0), (57, (2, 58, 0, 0, 0), 0),
  (58, (39, 61, 9, 1, 0), 350), (61, (37, 64, 3, 3, 0), 102), (64, (55, 65, 0, 0, 0), 0), (65, (2, 66, 0, 0, 0), 0), (66, (39, 69, 9, 1, 0), 350), (69, (37, 72, 3, 8, 0), 123),
  (72, (55, 73, 0, 0, 0), 0), (73, (2, 74, 0, 0, 0), 0), (74, (39, 77, 9, 1, 0), 350), (77, (37, 80, 3, 11, 0), 135), (80, (55, 81, 0, 0, 0), 0), (81, (2, 82, 0, 0, 0), 0),
  (82, (39, 85, 9, 1, 0), 350), (85, (37, 88, 3, 12, 0), 140), (88, (55, 89, 0, 0, 0), 0), (89, (2, 90, 0, 0, 0), 0), (90, (39, 93, 9, 1, 0), 350), (93, (37, 96, 3, 13, 0), 144),
  (96, (55, 97, 0, 0, 0), 0), (97, (2, 98, 0, 0, 0), 0), (98, (39, 101, 9, 1, 0), 350), (101, (53, 104, 19, 0, 0), 829), (104, (52, 107, 182, 1, 0), 722), (107, (55, 108, 0, 0, 0), 0),
  (108, (2, 109, 0, 0, 0), 0), (109, (39, 112, 9, 5, 0), 354), (112, (37, 115, 1, 2, 0), 239), (115, (55, 116, 0, 0, 0), 0), (116, (2, 117, 0, 0, 0), 0), (117, (39, 120, 9, 4, 0), 353),
  (120, (37, 123, 7, 3, 0), 186), (123, (55, 124, 0, 0, 0), 0), (124, (0, 126, 0, 0, -1000001), 390), (126, (55, 127, 0, 0, 0), 0)]
def pg_102 : List PRow := [(0, (2, 1, 0, 0, 0), 0), (1, (37, 4, 9, 10, 0), 359), (4, (55, 5, 0, 0, 0), 0)]
def pg_103 : List PRow := [(0, (0, 1, 0, 0, 0), 0), (1, (4, 2, 1, 0, 0), 0), (2, (0, 3, 0, 0, 0), 0), (3, (4, 4, 2, 0, 0), 0), (4, (1, 5, 2, 0, 0), 0), (5, (0, 7, 0, 0, 8), 0),
  (7, (34, 10, 31, 3, 0), 0), (10, (2, 11, 0, 0, 0), 0), (11, (39, 14, 9, 0, 0), 349), (14, (1, 15, 2, 0, 0), 0), (15, (50, 16, 0, 0, 0), 0), (16, (37, 19, 5, 1, 0), 335),
  (19, (33, 22, 25, 0, 0), 0), (22, (7, 25, 1, 0, 1), 0), (25, (7, 28, 2, 0, 1), 0), (28, (35, 31, 4, 0, 0), 0), (31, (1, 32, 1, 0, 0), 0), (32, (55, 33, 0, 0, 0), 0)]
def pg_104 : List PRow := [(0, (0, 1, 0, 0, 0), 0), (1, (4, 2, 1, 0, 0), 0), (2, (1, 3, 1, 0, 0), 0), (3, (0, 5, 0, 0, 32), 0), (5, (34, 8, 24, 3, 0), 0), (8, (1, 9, 0, 0, 0), 0),
  (9, (1, 10, 1, 0, 0), 0), (10, (52, 13, 105, 2, 0), 557), (13, (33, 16, 18, 0, 0), 0), (16, (1, 17, 1, 0, 0), 0), (17, (55, 18, 0, 0, 0), 0), (18, (7, 21, 1, 0, 1), 0),
  (21, (35, 24, 2, 0, 0), 0), (24, (0, 26, 0, 0, -1000000), 619), (26, (55, 27, 0, 0, 0), 0)]
def pg_105 : List PRow := [(0, (1, 1, 0, 0, 0), 0), (1, (1, 2, 1, 0, 0), 0), (2, (16, 3, 0, 0, 0), 0), (3, (0, 4, 0, 0, 1), 0), (4, (11, 5, 0, 0, 0), 0), (5, (0, 6, 0, 0, 1), 0),
  (6, (34, 9, 13, 1, 0), 0), (9, (0, 10, 0, 0, 1), 0), (10, (35, 13, 14, 0, 0), 0), (13, (0, 14, 0, 0, 0), 0), (14, (56, 15, 0, 0, 0), 0)]
def pg_106 : List PRow := [(0, (1, 1, 0, 0, 0), 0), (1, (33, 4, 10, 2, 0), 0), (4, (1, 5, 0, 0, 0), 0), (5, (0, 7, 0, 0, 6), 0), (7, (34, 10, 14, 2, 0), 0), (10, (0, 11, 0, 0, -1), 0),
  (11, (35, 14, 19, 0, 0), 0), (14, (43, 17, 1, 0, 0), 555), (17, (1, 18, 0, 0, 0), 0), (18, (44, 19, 0, 0, 0), 0), (19, (55, 20, 0, 0, 0), 0)]
def pg_107 : List PRow := [(0, (1, 1, 0, 0, 0), 0), (1, (4, 2, 2, 0, 0), 0), (2, (0, 3, 0, 0, 0), 0), (3, (4, 4, 3, 0, 0), 0), (4, (1, 5, 3, 0, 0), 0), (5, (0, 7, 0, 0, 6), 0),
  (7, (34, 10, 32, 3, 0), 0), (10, (1, 11, 2, 0, 0), 0), (11, (33, 14, 32, 2, 0), 0), (14, (1, 15, 2, 0, 0), 0), (15, (1, 16, 1, 0, 0), 0), (16, (34, 19, 21, 1, 0), 0),
  (19, (0, 20, 0, 0, 1), 0), (20, (56, 21, 0, 0, 0), 0), (21, (1, 22, 2, 0, 0), 0), (22, (52, 25, 106, 1, 0), 552), (25, (4, 26, 2, 0, 0), 0), (26, (7, 29, 3, 0, 1), 0),
  (29, (35, 32, 4, 0, 0), 0), (32, (0, 33, 0, 0, 0), 0), (33, (56, 34, 0, 0, 0), 0)]
def pg_108 : List PRow := [(0, (2, 1, 0, 0, 0), 0), (1, (64, 4, 0, 0, 0), 839), (4, (2, 5, 0, 0, 0), 0), (5, (0, 7, 0, 0, 120), 0), (7, (59, 9, 0, 0, 0), 0), (9, (61, 12, 10, 0, 0), 847),
  (12, (2, 13, 0, 0, 0), 0), (13, (0, 15, 0, 0, 53), 0), (15, (59, 17, 0, 0, 0), 0), (17, (61, 20, 10, 2, 0), 849), (20, (2, 21, 0, 0, 0), 0), (21, (0, 23, 0, 0, 53), 0),
  (23, (59, 25, 0, 0, 0), 0), (25, (61, 28, 10, 3, 0), 850), (28, (2, 29, 0, 0, 0), 0), (29, (0, 32, 0, 0, 576), 0), (32, (59, 34, 0, 0, 0), 0), (34, (61, 37, 10, 4, 0), 851),
  (37, (2, 38, 0, 0, 0), 0), (38, (0, 40, 0, 0, 106), 0), (40, (59, 42, 0, 0, 0), 0), (42, (61, 45, 10, 6, 0), 853), (45, (2, 46, 0, 0, 0), 0), (46, (0, 47, 0, 0, 2), 0),
  (47, (59, 49, 2, 0, 0), 0), (49, (61, 52, 10, 7, 0), 854), (52, (2, 53, 0, 0, 0), 0), (53, (0, 55, 0, 0, 8), 0), (55, (59, 57, 0, 0, 0), 0), (57, (61, 60, 10, 8, 0), 855),
  (60, (2, 61, 0, 0, 0), 0), (61, (0, 63, 0, 0, 8), 0), (63, (59, 65, 0, 0, 0), 0), (65, (61, 68, 10, 9, 0), 856), (68, (2, 69, 0, 0, 0), 0), (69, (0, 72, 0, 0, 320), 0),
  (72, (59, 74, 0, 0, 0), 0), (74, (61, 77, 10, 10, 0), 857), (77, (2, 78, 0, 0, 0), 0), (78, (0, 80, 0, 0, 16), 0), (80, (59, 82, 0, 0, 0), 0), (82, (61, 85, 10, 11, 0), 858),
  (85, (2, 86, 0, 0, 0), 0), (86, (0, 88, 0, 0, 40), 0), (88, (59, 90, 0, 0, 0), 0), (90, (61, 93, 10, 20, 0), 867), (93, (2, 94, 0, 0, 0), 0), (94, (0, 97, 0, 0, 144), 0),
  (97, (59, 99, 0, 0, 0), 0), (99, (61, 102, 10, 21, 0), 868), (102, (2, 103, 0, 0, 0), 0), (103, (0, 105, 0, 0, 6), 0), (105, (59, 107, 0, 0, 0), 0), (107, (61, 110, 10, 22, 0), 869),
  (110, (2, 111, 0, 0, 0), 0), (111, (0, 112, 0, 0, 5), 0), (112, (59, 114, 0, 0, 0), 0), (114, (61, 117, 10, 23, 0), 870), (117, (2, 118, 0, 0, 0), 0), (118, (0, 121, 0, 0, 2048), 0),
  (121, (59, 123, 0, 0, 0), 0), (123, (61, 126, 10, 25, 0), 872), (126, (2, 127, 0, 0, 0), 0), (127, (0, 129, 0, 0, 32), 0), (129, (59, 131, 2, 0, 0), 0), (131, (61, 134, 10, 26, 0), 873),
  (134, (2, 135, 0, 0, 0), 0), (135, (0, 137, 0, 0, 24), 0), (137, (59, 139, 0, 0, 0), 0), (139, (61, 142, 10, 27, 0), 874), (142, (2, 143, 0, 0, 0), 0), (143, (53, 146, 126, 0, 0), 840),
  (146, (0, 147, 0, 0, 0), 0), (147, (4, 148, 1, 0, 0), 0), (148, (1, 149, 1, 0, 0), 0), (149, (0, 151, 0, 0, 53), 0), (151, (34, 154, 172, 3, 0), 0), (154, (2, 155, 0, 0, 0), 0),
  (155, (39, 158, 10, 2, 0), 849), (158, (1, 159, 1, 0, 0), 0), (159, (2, 160, 0, 0, 0), 0), (160, (39, 163, 10, 3, 0), 850), (163, (1, 164, 1, 0, 0), 0), (164, (44, 165, 0, 0, 0), 0),
  (165, (45, 166, 0, 0, 0), 0), (166, (7, 169, 1, 0, 1), 0), (169, (35, 172, 148, 0, 0), 0), (172, (57, 173, 0, 0, 0), 0)]
def pg_109 : List PRow := [(0, (1, 1, 0, 0, 0), 0), (1, (1, 2, 1, 0, 0), 0), (2, (34, 5, 14, 2, 0), 0), (5, (1, 6, 0, 0, 0), 0), (6, (1, 7, 2, 0, 0), 0), (7, (34, 10, 14, 4, 0), 0),
  (10, (0, 11, 0, 0, 1), 0), (11, (35, 14, 15, 0, 0), 0), (14, (0, 15, 0, 0, 0), 0), (15, (56, 16, 0, 0, 0), 0)]
def pg_110 : List PRow := [(0, (2, 1, 0, 0, 0), 0), (1, (39, 4, 10, 2, 0), 849), (4, (0, 5, 0, 0, 0), 0), (5, (44, 6, 0, 0, 0), 0), (6, (0, 7, 0, 0, 1), 0), (7, (34, 10, 14, 1, 0), 0),
  (10, (0, 11, 0, 0, 1), 0), (11, (35, 14, 15, 0, 0), 0), (14, (0, 15, 0, 0, 0), 0), (15, (56, 16, 0, 0, 0), 0)]
def pg_111 : List PRow := [(0, (1, 1, 1, 0, 0), 0), (1, (0, 2, 0, 0, 0), 0), (2, (2, 3, 0, 0, 0), 0), (3, (39, 6, 10, 2, 0), 849), (6, (0, 7, 0, 0, 1), 0), (7, (44, 8, 0, 0, 0), 0),
  (8, (0, 9, 0, 0, 1), 0), (9, (9, 10, 0, 0, 0), 0), (10, (52, 13, 109, 3, 0), 844), (13, (56, 14, 0, 0, 0), 0)]
def pg_112 : List PRow := [(0, (1, 1, 1, 0, 0), 0), (1, (0, 2, 0, 0, 0), 0), (2, (2, 3, 0, 0, 0), 0), (3, (39, 6, 10, 2, 0), 849), (6, (0, 7, 0, 0, 2), 0), (7, (44, 8, 0, 0, 0), 0),
  (8, (0, 9, 0, 0, 1), 0), (9, (9, 10, 0, 0, 0), 0), (10, (52, 13, 109, 3, 0), 844), (13, (56, 14, 0, 0, 0), 0)]
def pg_113 : List PRow := [(0, (1, 1, 0, 0, 0), 0), (1, (0, 2, 0, 0, 0), 0), (2, (0, 4, 0, 0, 7), 0), (4, (52, 7, 109, 3, 0), 844), (7, (56, 8, 0, 0, 0), 0)]
def pg_114 : List PRow := [(0, (2, 1, 0, 0, 0), 0), (1, (1, 2, 1, 0, 0), 0), (2, (40, 5, 10, 13, 0), 860), (5, (0, 7, 0, 0, -1000010), 945), (7, (1, 8, 1, 0, 0), 0), (8, (9, 9, 0, 0, 0), 0),
  (9, (55, 10, 0, 0, 0), 0)]
def pg_115 : List PRow := [(0, (1, 1, 1, 0, 0), 0), (1, (52, 4, 113, 1, 0), 937), (4, (33, 7, 22, 0, 0), 0), (7, (1, 8, 2, 0, 0), 0), (8, (0, 9, 0, 0, 0), 0), (9, (0, 10, 0, 0, 2), 0),
  (10, (52, 13, 109, 3, 0), 844), (13, (33, 16, 22, 0, 0), 0), (16, (1, 17, 3, 0, 0), 0), (17, (0, 19, 0, 0, 40), 0), (19, (34, 22, 25, 5, 0), 0), (22, (0, 24, 0, 0, -1000001), 940),
  (24, (55, 25, 0, 0, 0), 0), (25, (1, 26, 3, 0, 0), 0), (26, (33, 29, 35, 3, 0), 0), (29, (2, 30, 0, 0, 0), 0), (30, (0, 31, 0, 0, 4), 0), (31, (53, 34, 114, 1, 0), 941),
  (34, (55, 35, 0, 0, 0), 0), (35, (2, 36, 0, 0, 0), 0), (36, (0, 37, 0, 0, 0), 0), (37, (40, 40, 10, 13, 0), 860), (40, (2, 41, 0, 0, 0), 0), (41, (39, 44, 10, 8, 0), 855),
  (44, (1, 45, 1, 0, 0), 0), (45, (1, 46, 2, 0, 0), 0), (46, (0, 47, 0, 0, 1), 0), (47, (8, 48, 0, 0, 0), 0), (48, (45, 49, 0, 0, 0), 0), (49, (2, 50, 0, 0, 0), 0),
  (50, (39, 53, 10, 9, 0), 856), (53, (1, 54, 1, 0, 0), 0), (54, (1, 55, 3, 0, 0), 0), (55, (45, 56, 0, 0, 0), 0), (56, (0, 57, 0, 0, 0), 0), (57, (4, 59, 4, 0, 0), 0),
  (59, (1, 61, 4, 0, 0), 0), (61, (0, 63, 0, 0, 40), 0), (63, (34, 66, 85, 3, 0), 0), (66, (2, 67, 0, 0, 0), 0), (67, (39, 70, 10, 10, 0), 857), (70, (0, 72, 0, 0, 40), 0),
  (72, (1, 73, 1, 0, 0), 0), (73, (10, 74, 0, 0, 0), 0), (74, (1, 76, 4, 0, 0), 0), (76, (8, 77, 0, 0, 0), 0), (77, (0, 78, 0, 0, 0), 0), (78, (45, 79, 0, 0, 0), 0),
  (79, (7, 82, 4, 0, 1), 0), (82, (35, 85, 59, 0, 0), 0), (85, (1, 86, 3, 0, 0), 0), (86, (55, 87, 0, 0, 0), 0)]
def pg_116 : List PRow := [(0, (1, 1, 1, 0, 0), 0), (1, (52, 4, 113, 1, 0), 937), (4, (33, 7, 10, 1, 0), 0), (7, (0, 9, 0, 0, -1000001), 940), (9, (55, 10, 0, 0, 0), 0), (10, (2, 11, 0, 0, 0), 0),
  (11, (39, 14, 10, 8, 0), 855), (14, (1, 15, 1, 0, 0), 0), (15, (44, 16, 0, 0, 0), 0), (16, (33, 19, 25, 1, 0), 0), (19, (2, 20, 0, 0, 0), 0), (20, (0, 21, 0, 0, 1), 0),
  (21, (53, 24, 114, 1, 0), 941), (24, (55, 25, 0, 0, 0), 0), (25, (1, 26, 2, 0, 0), 0), (26, (0, 27, 0, 0, 0), 0), (27, (2, 28, 0, 0, 0), 0), (28, (39, 31, 10, 9, 0), 856),
  (31, (1, 32, 1, 0, 0), 0), (32, (44, 33, 0, 0, 0), 0), (33, (0, 34, 0, 0, 1), 0), (34, (9, 35, 0, 0, 0), 0), (35, (52, 38, 109, 3, 0), 844), (38, (33, 41, 47, 1, 0), 0),
  (41, (2, 42, 0, 0, 0), 0), (42, (0, 43, 0, 0, 2), 0), (43, (53, 46, 114, 1, 0), 941), (46, (55, 47, 0, 0, 0), 0), (47, (2, 48, 0, 0, 0), 0), (48, (0, 49, 0, 0, 0), 0),
  (49, (40, 52, 10, 13, 0), 860), (52, (2, 53, 0, 0, 0), 0), (53, (39, 56, 10, 8, 0), 855), (56, (1, 57, 1, 0, 0), 0), (57, (44, 58, 0, 0, 0), 0), (58, (0, 59, 0, 0, 1), 0),
  (59, (34, 62, 67, 1, 0), 0), (62, (1, 63, 3, 0, 0), 0), (63, (20, 64, 0, 0, 0), 0), (64, (35, 67, 83, 0, 0), 0), (67, (2, 68, 0, 0, 0), 0), (68, (39, 71, 10, 8, 0), 855),
  (71, (1, 72, 1, 0, 0), 0), (72, (44, 73, 0, 0, 0), 0), (73, (0, 74, 0, 0, 2), 0), (74, (34, 77, 82, 1, 0), 0), (77, (1, 78, 3, 0, 0), 0), (78, (21, 79, 0, 0, 0), 0),
  (79, (35, 82, 83, 0, 0), 0), (82, (1, 83, 3, 0, 0), 0), (83, (4, 85, 4, 0, 0), 0), (85, (2, 86, 0, 0, 0), 0), (86, (39, 89, 10, 10, 0), 857), (89, (0, 91, 0, 0, 40), 0),
  (91, (1, 92, 1, 0, 0), 0), (92, (10, 93, 0, 0, 0), 0), (93, (1, 94, 2, 0, 0), 0), (94, (8, 95, 0, 0, 0), 0), (95, (1, 97, 4, 0, 0), 0), (97, (45, 98, 0, 0, 0), 0),
  (98, (1, 100, 4, 0, 0), 0), (100, (55, 101, 0, 0, 0), 0)]
def pg_117 : List PRow := [(0, (1, 1, 0, 0, 0), 0), (1, (33, 4, 15, 2, 0), 0), (4, (1, 5, 1, 0, 0), 0), (5, (33, 8, 15, 2, 0), 0), (8, (1, 9, 1, 0, 0), 0), (9, (1, 10, 2, 0, 0), 0),
  (10, (1, 11, 0, 0, 0), 0), (11, (9, 12, 0, 0, 0), 0), (12, (34, 15, 19, 5, 0), 0), (15, (0, 16, 0, 0, 1), 0), (16, (35, 19, 20, 0, 0), 0), (19, (0, 20, 0, 0, 0), 0),
  (20, (56, 21, 0, 0, 0), 0)]
def pg_118 : List PRow := [(0, (1, 1, 1, 0, 0), 0), (1, (52, 4, 113, 1, 0), 937), (4, (33, 7, 14, 0, 0), 0), (7, (1, 8, 3, 0, 0), 0), (8, (52, 11, 113, 1, 0), 937), (11, (33, 14, 17, 1, 0), 0),
  (14, (0, 16, 0, 0, -1000001), 940), (16, (55, 17, 0, 0, 0), 0), (17, (2, 18, 0, 0, 0), 0), (18, (39, 21, 10, 8, 0), 855), (21, (1, 22, 1, 0, 0), 0), (22, (44, 23, 0, 0, 0), 0),
  (23, (33, 26, 35, 0, 0), 0), (26, (2, 27, 0, 0, 0), 0), (27, (39, 30, 10, 8, 0), 855), (30, (1, 31, 3, 0, 0), 0), (31, (44, 32, 0, 0, 0), 0), (32, (33, 35, 41, 1, 0), 0),
  (35, (2, 36, 0, 0, 0), 0), (36, (0, 37, 0, 0, 1), 0), (37, (53, 40, 114, 1, 0), 941), (40, (55, 41, 0, 0, 0), 0), (41, (2, 42, 0, 0, 0), 0), (42, (39, 45, 10, 8, 0), 855),
  (45, (1, 46, 1, 0, 0), 0), (46, (44, 47, 0, 0, 0), 0), (47, (2, 48, 0, 0, 0), 0), (48, (39, 51, 10, 8, 0), 855), (51, (1, 52, 3, 0, 0), 0), (52, (44, 53, 0, 0, 0), 0),
  (53, (34, 56, 62, 0, 0), 0), (56, (2, 57, 0, 0, 0), 0), (57, (0, 58, 0, 0, 5), 0), (58, (53, 61, 114, 1, 0), 941), (61, (55, 62, 0, 0, 0), 0), (62, (1, 63, 2, 0, 0), 0),
  (63, (1, 65, 5, 0, 0), 0), (65, (2, 66, 0, 0, 0), 0), (66, (39, 69, 10, 9, 0), 856), (69, (1, 70, 1, 0, 0), 0), (70, (44, 71, 0, 0, 0), 0), (71, (52, 74, 117, 3, 0), 954),
  (74, (33, 77, 93, 1, 0), 0), (77, (1, 79, 4, 0, 0), 0), (79, (1, 81, 5, 0, 0), 0), (81, (2, 82, 0, 0, 0), 0), (82, (39, 85, 10, 9, 0), 856), (85, (1, 86, 3, 0, 0), 0),
  (86, (44, 87, 0, 0, 0), 0), (87, (52, 90, 117, 3, 0), 954), (90, (33, 93, 99, 0, 0), 0), (93, (2, 94, 0, 0, 0), 0), (94, (0, 95, 0, 0, 2), 0), (95, (53, 98, 114, 1, 0), 941),
  (98, (55, 99, 0, 0, 0), 0), (99, (2, 100, 0, 0, 0), 0), (100, (0, 101, 0, 0, 0), 0), (101, (40, 104, 10, 13, 0), 860), (104, (0, 105, 0, 0, 0), 0), (105, (4, 107, 6, 0, 0), 0),
  (107, (1, 109, 6, 0, 0), 0), (109, (1, 111, 5, 0, 0), 0), (111, (34, 114, 141, 3, 0), 0), (114, (2, 115, 0, 0, 0), 0), (115, (39, 118, 10, 20, 0), 867), (118, (1, 120, 6, 0, 0), 0),
  (120, (2, 121, 0, 0, 0), 0), (121, (39, 124, 10, 10, 0), 857), (124, (0, 126, 0, 0, 40), 0), (126, (1, 127, 1, 0, 0), 0), (127, (10, 128, 0, 0, 0), 0), (128, (1, 129, 2, 0, 0), 0),
  (129, (8, 130, 0, 0, 0), 0), (130, (1, 132, 6, 0, 0), 0), (132, (8, 133, 0, 0, 0), 0), (133, (44, 134, 0, 0, 0), 0), (134, (45, 135, 0, 0, 0), 0), (135, (7, 138, 6, 0, 1), 0),
  (138, (35, 141, 107, 0, 0), 0), (141, (0, 142, 0, 0, 0), 0), (142, (4, 144, 6, 0, 0), 0), (144, (1, 146, 6, 0, 0), 0), (146, (1, 148, 5, 0, 0), 0), (148, (34, 151, 179, 3, 0), 0),
  (151, (2, 152, 0, 0, 0), 0), (152, (39, 155, 10, 10, 0), 857), (155, (0, 157, 0, 0, 40), 0), (157, (1, 158, 3, 0, 0), 0), (158, (10, 159, 0, 0, 0), 0), (159, (1, 161, 4, 0, 0), 0),
  (161, (8, 162, 0, 0, 0), 0), (162, (1, 164, 6, 0, 0), 0), (164, (8, 165, 0, 0, 0), 0), (165, (2, 166, 0, 0, 0), 0), (166, (39, 169, 10, 20, 0), 867), (169, (1, 171, 6, 0, 0), 0),
  (171, (44, 172, 0, 0, 0), 0), (172, (45, 173, 0, 0, 0), 0), (173, (7, 176, 6, 0, 1), 0), (176, (35, 179, 144, 0, 0), 0), (179, (1, 181, 5, 0, 0), 0), (181, (55, 182, 0, 0, 0), 0)]
def pg_119 : List PRow := [(0, (1, 1, 1, 0, 0), 0), (1, (52, 4, 113, 1, 0), 937), (4, (33, 7, 10, 1, 0), 0), (7, (0, 9, 0, 0, -1000001), 940), (9, (55, 10, 0, 0, 0), 0), (10, (2, 11, 0, 0, 0), 0),
  (11, (39, 14, 10, 8, 0), 855), (14, (1, 15, 1, 0, 0), 0), (15, (44, 16, 0, 0, 0), 0), (16, (33, 19, 25, 1, 0), 0), (19, (2, 20, 0, 0, 0), 0), (20, (0, 21, 0, 0, 1), 0),
  (21, (53, 24, 114, 1, 0), 941), (24, (55, 25, 0, 0, 0), 0), (25, (2, 26, 0, 0, 0), 0), (26, (0, 27, 0, 0, 0), 0), (27, (40, 30, 10, 13, 0), 860), (30, (2, 31, 0, 0, 0), 0),
  (31, (39, 34, 10, 8, 0), 855), (34, (1, 35, 1, 0, 0), 0), (35, (0, 36, 0, 0, 0), 0), (36, (45, 37, 0, 0, 0), 0), (37, (2, 38, 0, 0, 0), 0), (38, (39, 41, 10, 9, 0), 856),
  (41, (1, 42, 1, 0, 0), 0), (42, (44, 43, 0, 0, 0), 0), (43, (55, 44, 0, 0, 0), 0)]
def pg_120 : List PRow := [(0, (1, 1, 1, 0, 0), 0), (1, (0, 2, 0, 0, 0), 0), (2, (0, 5, 0, 0, 255), 0), (5, (52, 8, 109, 3, 0), 844), (8, (33, 11, 14, 1, 0), 0), (11, (0, 13, 0, 0, -1000001), 940),
  (13, (55, 14, 0, 0, 0), 0), (14, (2, 15, 0, 0, 0), 0), (15, (37, 18, 10, 1, 0), 848), (18, (0, 20, 0, 0, 120), 0), (20, (34, 23, 26, 1, 0), 0), (23, (0, 25, 0, 0, -1000003), 965),
  (25, (55, 26, 0, 0, 0), 0), (26, (2, 27, 0, 0, 0), 0), (27, (39, 30, 10, 0, 0), 847), (30, (2, 31, 0, 0, 0), 0), (31, (37, 34, 10, 1, 0), 848), (34, (1, 35, 1, 0, 0), 0),
  (35, (45, 36, 0, 0, 0), 0), (36, (2, 37, 0, 0, 0), 0), (37, (31, 38, 0, 0, 0), 0), (38, (37, 41, 10, 1, 0), 848), (41, (0, 42, 0, 0, 1), 0), (42, (8, 43, 0, 0, 0), 0),
  (43, (40, 46, 10, 1, 0), 848), (46, (2, 47, 0, 0, 0), 0), (47, (37, 50, 10, 1, 0), 848), (50, (55, 51, 0, 0, 0), 0)]
def pg_121 : List PRow := [(0, (1, 1, 1, 0, 0), 0), (1, (2, 2, 0, 0, 0), 0), (2, (37, 5, 10, 1, 0), 848), (5, (34, 8, 17, 3, 0), 0), (8, (2, 9, 0, 0, 0), 0), (9, (39, 12, 10, 0, 0), 847),
  (12, (1, 13, 1, 0, 0), 0), (13, (44, 14, 0, 0, 0), 0), (14, (35, 17, 18, 0, 0), 0), (17, (0, 18, 0, 0, -1), 0), (18, (55, 19, 0, 0, 0), 0)]
def pg_122 : List PRow := [(0, (2, 1, 0, 0, 0), 0), (1, (2, 2, 0, 0, 0), 0), (2, (37, 5, 10, 15, 0), 862), (5, (40, 8, 10, 17, 0), 864), (8, (2, 9, 0, 0, 0), 0), (9, (2, 10, 0, 0, 0), 0),
  (10, (37, 13, 10, 15, 0), 862), (13, (53, 16, 121, 1, 0), 982), (16, (4, 17, 1, 0, 0), 0), (17, (2, 18, 0, 0, 0), 0), (18, (1, 19, 1, 0, 0), 0), (19, (33, 22, 26, 3, 0), 0),
  (22, (0, 23, 0, 0, 0), 0), (23, (35, 26, 73, 0, 0), 0), (26, (1, 27, 1, 0, 0), 0), (27, (0, 29, 0, 0, 97), 0), (29, (0, 31, 0, 0, 122), 0), (31, (52, 34, 109, 3, 0), 844),
  (34, (33, 37, 41, 0, 0), 0), (37, (0, 38, 0, 0, 1), 0), (38, (35, 41, 73, 0, 0), 0), (41, (1, 42, 1, 0, 0), 0), (42, (0, 44, 0, 0, 48), 0), (44, (0, 46, 0, 0, 57), 0),
  (46, (52, 49, 109, 3, 0), 844), (49, (33, 52, 56, 0, 0), 0), (52, (0, 53, 0, 0, 2), 0), (53, (35, 56, 73, 0, 0), 0), (56, (1, 57, 1, 0, 0), 0), (57, (0, 59, 0, 0, 44), 0),
  (59, (34, 62, 68, 0, 0), 0), (62, (1, 63, 1, 0, 0), 0), (63, (0, 65, 0, 0, 59), 0), (65, (34, 68, 72, 1, 0), 0), (68, (0, 69, 0, 0, 3), 0), (69, (35, 72, 73, 0, 0), 0),
  (72, (0, 73, 0, 0, 4), 0), (73, (40, 76, 10, 16, 0), 863), (76, (2, 77, 0, 0, 0), 0), (77, (1, 78, 1, 0, 0), 0), (78, (40, 81, 10, 18, 0), 865), (81, (2, 82, 0, 0, 0), 0),
  (82, (31, 83, 0, 0, 0), 0), (83, (37, 86, 10, 15, 0), 862), (86, (2, 87, 0, 0, 0), 0), (87, (37, 90, 10, 16, 0), 863), (90, (33, 93, 97, 1, 0), 0), (93, (0, 94, 0, 0, 0), 0),
  (94, (35, 97, 98, 0, 0), 0), (97, (0, 98, 0, 0, 1), 0), (98, (8, 99, 0, 0, 0), 0), (99, (40, 102, 10, 15, 0), 862), (102, (2, 103, 0, 0, 0), 0), (103, (37, 106, 10, 16, 0), 863),
  (106, (0, 107, 0, 0, 2), 0), (107, (34, 110, 204, 1, 0), 0), (110, (2, 111, 0, 0, 0), 0), (111, (1, 112, 1, 0, 0), 0), (112, (0, 114, 0, 0, 48), 0), (114, (9, 115, 0, 0, 0), 0),
  (115, (40, 118, 10, 18, 0), 865), (118, (0, 119, 0, 0, 1), 0), (119, (4, 120, 2, 0, 0), 0), (120, (2, 121, 0, 0, 0), 0), (121, (2, 122, 0, 0, 0), 0), (122, (37, 125, 10, 15, 0), 862),
  (125, (53, 128, 121, 1, 0), 982), (128, (0, 130, 0, 0, 48), 0), (130, (0, 132, 0, 0, 57), 0), (132, (52, 135, 109, 3, 0), 844), (135, (33, 138, 190, 0, 0), 0), (138, (2, 139, 0, 0, 0), 0),
  (139, (1, 140, 2, 0, 0), 0), (140, (0, 141, 0, 0, 3), 0), (141, (34, 144, 167, 3, 0), 0), (144, (0, 146, 0, 0, 10), 0), (146, (2, 147, 0, 0, 0), 0), (147, (37, 150, 10, 18, 0), 865),
  (150, (10, 151, 0, 0, 0), 0), (151, (2, 152, 0, 0, 0), 0), (152, (39, 155, 10, 0, 0), 847), (155, (2, 156, 0, 0, 0), 0), (156, (37, 159, 10, 15, 0), 862), (159, (44, 160, 0, 0, 0), 0),
  (160, (8, 161, 0, 0, 0), 0), (161, (0, 163, 0, 0, 48), 0), (163, (9, 164, 0, 0, 0), 0), (164, (35, 167, 171, 0, 0), 0), (167, (2, 168, 0, 0, 0), 0), (168, (37, 171, 10, 18, 0), 865),
  (171, (40, 174, 10, 18, 0), 865), (174, (7, 177, 2, 0, 1), 0), (177, (2, 178, 0, 0, 0), 0), (178, (31, 179, 0, 0, 0), 0), (179, (37, 182, 10, 15, 0), 862), (182, (0, 183, 0, 0, 1), 0),
  (183, (8, 184, 0, 0, 0), 0), (184, (40, 187, 10, 15, 0), 862), (187, (35, 190, 120, 0, 0), 0), (190, (2, 191, 0, 0, 0), 0), (191, (1, 192, 2, 0, 0), 0), (192, (0, 193, 0, 0, 3), 0),
  (193, (34, 196, 200, 5, 0), 0), (196, (0, 197, 0, 0, 4), 0), (197, (35, 200, 201, 0, 0), 0), (200, (0, 201, 0, 0, 2), 0), (201, (40, 204, 10, 16, 0), 863), (204, (57, 205, 0, 0, 0), 0)]
def pg_123 : List PRow := [(0, (2, 1, 0, 0, 0), 0), (1, (1, 2, 1, 0, 0), 0), (2, (40, 5, 10, 19, 0), 866), (5, (0, 6, 0, 0, 0), 0), (6, (56, 7, 0, 0, 0), 0)]
def pg_124 : List PRow := [(0, (2, 1, 0, 0, 0), 0), (1, (53, 4, 122, 0, 0), 978), (4, (2, 5, 0, 0, 0), 0), (5, (37, 8, 10, 16, 0), 863), (8, (0, 9, 0, 0, 2), 0), (9, (34, 12, 18, 0, 0), 0),
  (12, (2, 13, 0, 0, 0), 0), (13, (0, 14, 0, 0, 1), 0), (14, (53, 17, 123, 1, 0), 986), (17, (56, 18, 0, 0, 0), 0), (18, (2, 19, 0, 0, 0), 0), (19, (39, 22, 10, 3, 0), 850),
  (22, (1, 23, 1, 0, 0), 0), (23, (2, 24, 0, 0, 0), 0), (24, (37, 27, 10, 18, 0), 865), (27, (45, 28, 0, 0, 0), 0), (28, (2, 29, 0, 0, 0), 0), (29, (37, 32, 10, 18, 0), 865),
  (32, (1, 33, 2, 0, 0), 0), (33, (1, 34, 3, 0, 0), 0), (34, (52, 37, 109, 3, 0), 844), (37, (33, 40, 48, 1, 0), 0), (40, (2, 41, 0, 0, 0), 0), (41, (0, 42, 0, 0, 2), 0),
  (42, (53, 45, 123, 1, 0), 986), (45, (33, 48, 52, 0, 0), 0), (48, (0, 49, 0, 0, 1), 0), (49, (35, 52, 53, 0, 0), 0), (52, (0, 53, 0, 0, 0), 0), (53, (56, 54, 0, 0, 0), 0)]
def pg_125 : List PRow := [(0, (2, 1, 0, 0, 0), 0), (1, (53, 4, 122, 0, 0), 978), (4, (2, 5, 0, 0, 0), 0), (5, (37, 8, 10, 16, 0), 863), (8, (0, 9, 0, 0, 3), 0), (9, (34, 12, 20, 1, 0), 0),
  (12, (2, 13, 0, 0, 0), 0), (13, (37, 16, 10, 18, 0), 865), (16, (1, 17, 1, 0, 0), 0), (17, (34, 20, 28, 0, 0), 0), (20, (2, 21, 0, 0, 0), 0), (21, (0, 22, 0, 0, 1), 0),
  (22, (53, 25, 123, 1, 0), 986), (25, (33, 28, 32, 0, 0), 0), (28, (0, 29, 0, 0, 1), 0), (29, (35, 32, 33, 0, 0), 0), (32, (0, 33, 0, 0, 0), 0), (33, (56, 34, 0, 0, 0), 0)]
def pg_126 : List PRow := [(0, (0, 1, 0, 0, 0), 0), (1, (4, 2, 1, 0, 0), 0), (2, (1, 3, 1, 0, 0), 0), (3, (0, 5, 0, 0, 53), 0), (5, (34, 8, 48, 3, 0), 0), (8, (2, 9, 0, 0, 0), 0),
  (9, (39, 12, 10, 3, 0), 850), (12, (1, 13, 1, 0, 0), 0), (13, (1, 14, 1, 0, 0), 0), (14, (0, 16, 0, 0, 30), 0), (16, (34, 19, 36, 0, 0), 0), (19, (1, 20, 1, 0, 0), 0),
  (20, (0, 22, 0, 0, 32), 0), (22, (0, 24, 0, 0, 39), 0), (24, (52, 27, 109, 3, 0), 844), (27, (33, 30, 36, 1, 0), 0), (30, (1, 31, 1, 0, 0), 0), (31, (0, 33, 0, 0, 48), 0),
  (33, (34, 36, 40, 2, 0), 0), (36, (0, 37, 0, 0, -1), 0), (37, (35, 40, 41, 0, 0), 0), (40, (0, 41, 0, 0, 0), 0), (41, (45, 42, 0, 0, 0), 0), (42, (7, 45, 1, 0, 1), 0),
  (45, (35, 48, 2, 0, 0), 0), (48, (57, 49, 0, 0, 0), 0)]
def pg_127 : List PRow := [(0, (2, 1, 0, 0, 0), 0), (1, (53, 4, 122, 0, 0), 978), (4, (2, 5, 0, 0, 0), 0), (5, (37, 8, 10, 16, 0), 863), (8, (0, 9, 0, 0, 1), 0), (9, (34, 12, 21, 1, 0), 0),
  (12, (2, 13, 0, 0, 0), 0), (13, (37, 16, 10, 18, 0), 865), (16, (0, 18, 0, 0, 104), 0), (18, (34, 21, 27, 0, 0), 0), (21, (2, 22, 0, 0, 0), 0), (22, (0, 23, 0, 0, 1), 0),
  (23, (53, 26, 123, 1, 0), 986), (26, (56, 27, 0, 0, 0), 0), (27, (2, 28, 0, 0, 0), 0), (28, (0, 29, 0, 0, 3), 0), (29, (0, 30, 0, 0, 1), 0), (30, (0, 32, 0, 0, 24), 0),
  (32, (53, 35, 124, 3, 0), 990), (35, (4, 36, 1, 0, 0), 0), (36, (0, 37, 0, 0, 0), 0), (37, (4, 38, 2, 0, 0), 0), (38, (1, 39, 2, 0, 0), 0), (39, (0, 40, 0, 0, 4), 0),
  (40, (34, 43, 81, 3, 0), 0), (43, (1, 44, 1, 0, 0), 0), (44, (33, 47, 81, 0, 0), 0), (47, (2, 48, 0, 0, 0), 0), (48, (0, 50, 0, 0, 44), 0), (50, (53, 53, 125, 1, 0), 994),
  (53, (33, 56, 73, 0, 0), 0), (56, (2, 57, 0, 0, 0), 0), (57, (0, 58, 0, 0, 4), 0), (58, (1, 59, 2, 0, 0), 0), (59, (8, 60, 0, 0, 0), 0), (60, (0, 61, 0, 0, 0), 0),
  (61, (0, 63, 0, 0, 15), 0), (63, (53, 66, 124, 3, 0), 990), (66, (33, 69, 73, 0, 0), 0), (69, (0, 70, 0, 0, 1), 0), (70, (35, 73, 74, 0, 0), 0), (73, (0, 74, 0, 0, 0), 0),
  (74, (4, 75, 1, 0, 0), 0), (75, (7, 78, 2, 0, 1), 0), (78, (35, 81, 38, 0, 0), 0), (81, (1, 82, 1, 0, 0), 0), (82, (33, 85, 98, 0, 0), 0), (85, (2, 86, 0, 0, 0), 0),
  (86, (0, 88, 0, 0, 59), 0), (88, (53, 91, 125, 1, 0), 994), (91, (33, 94, 98, 0, 0), 0), (94, (0, 95, 0, 0, 1), 0), (95, (35, 98, 99, 0, 0), 0), (98, (0, 99, 0, 0, 0), 0),
  (99, (56, 100, 0, 0, 0), 0)]
def pg_128 : List PRow := [(0, (1, 1, 0, 0, 0), 0), (1, (0, 3, 0, 0, 112), 0), (3, (34, 6, 10, 1, 0), 0), (6, (0, 7, 0, 0, 1), 0), (7, (35, 10, 51, 0, 0), 0), (10, (1, 11, 0, 0, 0), 0),
  (11, (0, 13, 0, 0, 105), 0), (13, (34, 16, 20, 1, 0), 0), (16, (0, 17, 0, 0, 2), 0), (17, (35, 20, 51, 0, 0), 0), (20, (1, 21, 0, 0, 0), 0), (21, (0, 23, 0, 0, 101), 0),
  (23, (34, 26, 30, 1, 0), 0), (26, (0, 27, 0, 0, 3), 0), (27, (35, 30, 51, 0, 0), 0), (30, (1, 31, 0, 0, 0), 0), (31, (0, 33, 0, 0, 102), 0), (33, (34, 36, 40, 1, 0), 0),
  (36, (0, 37, 0, 0, 4), 0), (37, (35, 40, 51, 0, 0), 0), (40, (1, 41, 0, 0, 0), 0), (41, (0, 43, 0, 0, 110), 0), (43, (34, 46, 50, 1, 0), 0), (46, (0, 47, 0, 0, 5), 0),
  (47, (35, 50, 51, 0, 0), 0), (50, (0, 51, 0, 0, 0), 0), (51, (55, 52, 0, 0, 0), 0)]
def pg_129 : List PRow := [(0, (2, 1, 0, 0, 0), 0), (1, (37, 4, 10, 16, 0), 863), (4, (0, 5, 0, 0, 1), 0), (5, (34, 8, 80, 1, 0), 0), (8, (2, 9, 0, 0, 0), 0), (9, (37, 12, 10, 18, 0), 865),
  (12, (0, 14, 0, 0, 116), 0), (14, (34, 17, 80, 1, 0), 0), (17, (2, 18, 0, 0, 0), 0), (18, (39, 21, 10, 3, 0), 850), (21, (0, 22, 0, 0, 2), 0), (22, (44, 23, 0, 0, 0), 0),
  (23, (4, 24, 1, 0, 0), 0), (24, (1, 25, 1, 0, 0), 0), (25, (0, 26, 0, 0, 5), 0), (26, (34, 29, 35, 1, 0), 0), (29, (2, 30, 0, 0, 0), 0), (30, (0, 31, 0, 0, 3), 0),
  (31, (53, 34, 123, 1, 0), 986), (34, (56, 35, 0, 0, 0), 0), (35, (2, 36, 0, 0, 0), 0), (36, (0, 38, 0, 0, 24), 0), (38, (1, 39, 1, 0, 0), 0), (39, (8, 40, 0, 0, 0), 0),
  (40, (0, 41, 0, 0, 1), 0), (41, (0, 42, 0, 0, 1), 0), (42, (2, 43, 0, 0, 0), 0), (43, (39, 46, 10, 3, 0), 850), (46, (0, 47, 0, 0, 1), 0), (47, (44, 48, 0, 0, 0), 0),
  (48, (14, 49, 0, 0, 0), 0), (49, (0, 50, 0, 0, 1), 0), (50, (9, 51, 0, 0, 0), 0), (51, (53, 54, 124, 3, 0), 990), (54, (33, 57, 66, 0, 0), 0), (57, (2, 58, 0, 0, 0), 0),
  (58, (0, 60, 0, 0, 59), 0), (60, (53, 63, 125, 1, 0), 994), (63, (33, 66, 68, 1, 0), 0), (66, (0, 67, 0, 0, 0), 0), (67, (56, 68, 0, 0, 0), 0), (68, (2, 69, 0, 0, 0), 0),
  (69, (39, 72, 10, 3, 0), 850), (72, (0, 73, 0, 0, 2), 0), (73, (32, 74, 0, 0, 0), 0), (74, (44, 75, 0, 0, 0), 0), (75, (0, 76, 0, 0, 1), 0), (76, (8, 77, 0, 0, 0), 0),
  (77, (45, 78, 0, 0, 0), 0), (78, (0, 79, 0, 0, 1), 0), (79, (56, 80, 0, 0, 0), 0), (80, (2, 81, 0, 0, 0), 0), (81, (37, 84, 10, 16, 0), 863), (84, (0, 85, 0, 0, 1), 0),
  (85, (34, 88, 98, 1, 0), 0), (88, (2, 89, 0, 0, 0), 0), (89, (37, 92, 10, 18, 0), 865), (92, (52, 95, 128, 1, 0), 1002), (95, (35, 98, 99, 0, 0), 0), (98, (0, 99, 0, 0, 0), 0),
  (99, (4, 100, 1, 0, 0), 0), (100, (1, 101, 1, 0, 0), 0), (101, (33, 104, 113, 0, 0), 0), (104, (2, 105, 0, 0, 0), 0), (105, (39, 108, 10, 3, 0), 850), (108, (0, 109, 0, 0, 2), 0),
  (109, (44, 110, 0, 0, 0), 0), (110, (33, 113, 119, 5, 0), 0), (113, (2, 114, 0, 0, 0), 0), (114, (0, 115, 0, 0, 1), 0), (115, (53, 118, 123, 1, 0), 986), (118, (56, 119, 0, 0, 0), 0),
  (119, (2, 120, 0, 0, 0), 0), (120, (39, 123, 10, 3, 0), 850), (123, (0, 124, 0, 0, 1), 0), (124, (44, 125, 0, 0, 0), 0), (125, (4, 126, 2, 0, 0), 0), (126, (1, 127, 2, 0, 0), 0),
  (127, (0, 129, 0, 0, 8), 0), (129, (34, 132, 138, 1, 0), 0), (132, (2, 133, 0, 0, 0), 0), (133, (0, 134, 0, 0, 3), 0), (134, (53, 137, 123, 1, 0), 986), (137, (56, 138, 0, 0, 0), 0),
  (138, (2, 139, 0, 0, 0), 0), (139, (39, 142, 10, 3, 0), 850), (142, (0, 144, 0, 0, 8), 0), (144, (1, 145, 2, 0, 0), 0), (145, (8, 146, 0, 0, 0), 0), (146, (1, 147, 1, 0, 0), 0),
  (147, (45, 148, 0, 0, 0), 0), (148, (2, 149, 0, 0, 0), 0), (149, (0, 151, 0, 0, 16), 0), (151, (1, 152, 2, 0, 0), 0), (152, (8, 153, 0, 0, 0), 0), (153, (0, 154, 0, 0, 0), 0),
  (154, (0, 155, 0, 0, 3), 0), (155, (53, 158, 124, 3, 0), 990), (158, (33, 161, 170, 0, 0), 0), (161, (2, 162, 0, 0, 0), 0), (162, (0, 164, 0, 0, 59), 0), (164, (53, 167, 125, 1, 0), 994),
  (167, (33, 170, 172, 1, 0), 0), (170, (0, 171, 0, 0, 0), 0), (171, (56, 172, 0, 0, 0), 0), (172, (2, 173, 0, 0, 0), 0), (173, (39, 176, 10, 3, 0), 850), (176, (0, 177, 0, 0, 1), 0),
  (177, (32, 178, 0, 0, 0), 0), (178, (44, 179, 0, 0, 0), 0), (179, (0, 180, 0, 0, 1), 0), (180, (8, 181, 0, 0, 0), 0), (181, (45, 182, 0, 0, 0), 0), (182, (0, 183, 0, 0, 1), 0),
  (183, (56, 184, 0, 0, 0), 0)]
def pg_130 : List PRow := [(0, (2, 1, 0, 0, 0), 0), (1, (53, 4, 126, 0, 0), 840), (4, (2, 5, 0, 0, 0), 0), (5, (39, 8, 10, 3, 0), 850), (8, (0, 9, 0, 0, 0), 0), (9, (0, 10, 0, 0, 1), 0),
  (10, (45, 11, 0, 0, 0), 0), (11, (2, 12, 0, 0, 0), 0), (12, (0, 13, 0, 0, 0), 0), (13, (40, 16, 10, 15, 0), 862), (16, (2, 17, 0, 0, 0), 0), (17, (53, 20, 127, 0, 0), 974),
  (20, (33, 23, 25, 1, 0), 0), (23, (0, 24, 0, 0, 0), 0), (24, (56, 25, 0, 0, 0), 0), (25, (2, 26, 0, 0, 0), 0), (26, (53, 29, 122, 0, 0), 978), (29, (2, 30, 0, 0, 0), 0),
  (30, (37, 33, 10, 16, 0), 863), (33, (33, 36, 52, 0, 0), 0), (36, (2, 37, 0, 0, 0), 0), (37, (53, 40, 129, 0, 0), 998), (40, (33, 43, 45, 1, 0), 0), (43, (0, 44, 0, 0, 0), 0),
  (44, (56, 45, 0, 0, 0), 0), (45, (2, 46, 0, 0, 0), 0), (46, (53, 49, 122, 0, 0), 978), (49, (35, 52, 29, 0, 0), 0), (52, (0, 53, 0, 0, 1), 0), (53, (56, 54, 0, 0, 0), 0)]
def pg_131 : List PRow := [(0, (2, 1, 0, 0, 0), 0), (1, (53, 4, 130, 0, 0), 970), (4, (4, 5, 1, 0, 0), 0), (5, (2, 6, 0, 0, 0), 0), (6, (0, 7, 0, 0, 0), 0), (7, (40, 10, 10, 1, 0), 848),
  (10, (1, 11, 1, 0, 0), 0), (11, (33, 14, 30, 1, 0), 0), (14, (2, 15, 0, 0, 0), 0), (15, (2, 16, 0, 0, 0), 0), (16, (37, 19, 10, 19, 0), 866), (19, (40, 22, 10, 14, 0), 861),
  (22, (0, 24, 0, 0, -1000100), 1005), (24, (2, 25, 0, 0, 0), 0), (25, (37, 28, 10, 17, 0), 864), (28, (9, 29, 0, 0, 0), 0), (29, (55, 30, 0, 0, 0), 0), (30, (0, 31, 0, 0, 0), 0),
  (31, (4, 32, 2, 0, 0), 0), (32, (1, 33, 2, 0, 0), 0), (33, (0, 35, 0, 0, 53), 0), (35, (34, 38, 56, 3, 0), 0), (38, (2, 39, 0, 0, 0), 0), (39, (39, 42, 10, 2, 0), 849),
  (42, (1, 43, 2, 0, 0), 0), (43, (2, 44, 0, 0, 0), 0), (44, (39, 47, 10, 3, 0), 850), (47, (1, 48, 2, 0, 0), 0), (48, (44, 49, 0, 0, 0), 0), (49, (45, 50, 0, 0, 0), 0),
  (50, (7, 53, 2, 0, 1), 0), (53, (35, 56, 32, 0, 0), 0), (56, (2, 57, 0, 0, 0), 0), (57, (0, 58, 0, 0, 0), 0), (58, (40, 61, 10, 5, 0), 852), (61, (2, 62, 0, 0, 0), 0),
  (62, (39, 65, 10, 2, 0), 849), (65, (0, 66, 0, 0, 2), 0), (66, (44, 67, 0, 0, 0), 0), (67, (55, 68, 0, 0, 0), 0)]
def pg_132 : List PRow := [(0, (2, 1, 0, 0, 0), 0), (1, (37, 4, 10, 14, 0), 861), (4, (55, 5, 0, 0, 0), 0)]
def pg_133 : List PRow := [(0, (2, 1, 0, 0, 0), 0), (1, (39, 4, 10, 2, 0), 849), (4, (0, 6, 0, 0, 8), 0), (6, (1, 7, 1, 0, 0), 0), (7, (8, 8, 0, 0, 0), 0), (8, (44, 9, 0, 0, 0), 0),
  (9, (0, 10, 0, 0, 4), 0), (10, (34, 13, 55, 3, 0), 0), (13, (2, 14, 0, 0, 0), 0), (14, (39, 17, 10, 2, 0), 849), (17, (0, 19, 0, 0, 32), 0), (19, (1, 20, 1, 0, 0), 0),
  (20, (8, 21, 0, 0, 0), 0), (21, (44, 22, 0, 0, 0), 0), (22, (33, 25, 55, 2, 0), 0), (25, (2, 26, 0, 0, 0), 0), (26, (39, 29, 10, 2, 0), 849), (29, (0, 31, 0, 0, 29), 0),
  (31, (44, 32, 0, 0, 0), 0), (32, (2, 33, 0, 0, 0), 0), (33, (39, 36, 10, 2, 0), 849), (36, (0, 38, 0, 0, 32), 0), (38, (1, 39, 1, 0, 0), 0), (39, (8, 40, 0, 0, 0), 0),
  (40, (44, 41, 0, 0, 0), 0), (41, (9, 42, 0, 0, 0), 0), (42, (2, 43, 0, 0, 0), 0), (43, (39, 46, 10, 2, 0), 849), (46, (0, 47, 0, 0, 3), 0), (47, (44, 48, 0, 0, 0), 0),
  (48, (34, 51, 55, 3, 0), 0), (51, (0, 52, 0, 0, 1), 0), (52, (35, 55, 56, 0, 0), 0), (55, (0, 56, 0, 0, 0), 0), (56, (56, 57, 0, 0, 0), 0)]
def pg_134 : List PRow := [(0, (2, 1, 0, 0, 0), 0), (1, (39, 4, 10, 2, 0), 849), (4, (0, 6, 0, 0, 16), 0), (6, (1, 7, 1, 0, 0), 0), (7, (8, 8, 0, 0, 0), 0), (8, (44, 9, 0, 0, 0), 0),
  (9, (4, 10, 3, 0, 0), 0), (10, (1, 11, 2, 0, 0), 0), (11, (33, 14, 48, 2, 0), 0), (14, (2, 15, 0, 0, 0), 0), (15, (39, 18, 10, 2, 0), 849), (18, (0, 19, 0, 0, 4), 0),
  (19, (1, 20, 2, 0, 0), 0), (20, (8, 21, 0, 0, 0), 0), (21, (44, 22, 0, 0, 0), 0), (22, (1, 23, 3, 0, 0), 0), (23, (15, 24, 0, 0, 0), 0), (24, (0, 25, 0, 0, 1), 0),
  (25, (11, 26, 0, 0, 0), 0), (26, (0, 27, 0, 0, 1), 0), (27, (34, 30, 52, 1, 0), 0), (30, (2, 31, 0, 0, 0), 0), (31, (39, 34, 10, 2, 0), 849), (34, (0, 36, 0, 0, 8), 0),
  (36, (1, 37, 1, 0, 0), 0), (37, (8, 38, 0, 0, 0), 0), (38, (44, 39, 0, 0, 0), 0), (39, (0, 40, 0, 0, 3), 0), (40, (34, 43, 48, 1, 0), 0), (43, (1, 44, 3, 0, 0), 0),
  (44, (1, 45, 2, 0, 0), 0), (45, (34, 48, 52, 0, 0), 0), (48, (0, 49, 0, 0, 1), 0), (49, (35, 52, 53, 0, 0), 0), (52, (0, 53, 0, 0, 0), 0), (53, (56, 54, 0, 0, 0), 0)]
def pg_135 : List PRow := [(0, (2, 1, 0, 0, 0), 0), (1, (1, 2, 1, 0, 0), 0), (2, (53, 5, 133, 1, 0), 1034), (5, (33, 8, 27, 1, 0), 0), (8, (2, 9, 0, 0, 0), 0), (9, (1, 10, 1, 0, 0), 0),
  (10, (2, 11, 0, 0, 0), 0), (11, (39, 14, 10, 2, 0), 849), (14, (0, 16, 0, 0, 30), 0), (16, (44, 17, 0, 0, 0), 0), (17, (53, 20, 134, 2, 0), 1038), (20, (33, 23, 27, 0, 0), 0),
  (23, (0, 24, 0, 0, 1), 0), (24, (35, 27, 28, 0, 0), 0), (27, (0, 28, 0, 0, 0), 0), (28, (56, 29, 0, 0, 0), 0)]
def pg_136 : List PRow := [(0, (2, 1, 0, 0, 0), 0), (1, (39, 4, 10, 2, 0), 849), (4, (0, 6, 0, 0, 48), 0), (6, (1, 7, 1, 0, 0), 0), (7, (8, 8, 0, 0, 0), 0), (8, (44, 9, 0, 0, 0), 0),
  (9, (33, 12, 16, 2, 0), 0), (12, (0, 13, 0, 0, 1), 0), (13, (35, 16, 17, 0, 0), 0), (16, (0, 17, 0, 0, 0), 0), (17, (56, 18, 0, 0, 0), 0)]
def pg_137 : List PRow := [(0, (2, 1, 0, 0, 0), 0), (1, (37, 4, 10, 5, 0), 852), (4, (0, 6, 0, 0, 24), 0), (6, (34, 9, 49, 1, 0), 0), (9, (0, 10, 0, 0, 0), 0), (10, (4, 11, 1, 0, 0), 0),
  (11, (1, 12, 1, 0, 0), 0), (12, (0, 15, 0, 0, 552), 0), (15, (34, 18, 39, 3, 0), 0), (18, (2, 19, 0, 0, 0), 0), (19, (39, 22, 10, 4, 0), 851), (22, (1, 23, 1, 0, 0), 0),
  (23, (2, 24, 0, 0, 0), 0), (24, (39, 27, 10, 4, 0), 851), (27, (1, 28, 1, 0, 0), 0), (28, (0, 30, 0, 0, 24), 0), (30, (8, 31, 0, 0, 0), 0), (31, (44, 32, 0, 0, 0), 0),
  (32, (45, 33, 0, 0, 0), 0), (33, (7, 36, 1, 0, 1), 0), (36, (35, 39, 11, 0, 0), 0), (39, (2, 40, 0, 0, 0), 0), (40, (31, 41, 0, 0, 0), 0), (41, (37, 44, 10, 5, 0), 852),
  (44, (0, 45, 0, 0, 1), 0), (45, (9, 46, 0, 0, 0), 0), (46, (40, 49, 10, 5, 0), 852), (49, (0, 50, 0, 0, 0), 0), (50, (4, 51, 1, 0, 0), 0), (51, (1, 52, 1, 0, 0), 0),
  (52, (0, 54, 0, 0, 24), 0), (54, (34, 57, 86, 3, 0), 0), (57, (2, 58, 0, 0, 0), 0), (58, (39, 61, 10, 4, 0), 851), (61, (0, 63, 0, 0, 24), 0), (63, (2, 64, 0, 0, 0), 0),
  (64, (37, 67, 10, 5, 0), 852), (67, (10, 68, 0, 0, 0), 0), (68, (1, 69, 1, 0, 0), 0), (69, (8, 70, 0, 0, 0), 0), (70, (2, 71, 0, 0, 0), 0), (71, (39, 74, 10, 2, 0), 849),
  (74, (0, 76, 0, 0, 29), 0), (76, (1, 77, 1, 0, 0), 0), (77, (8, 78, 0, 0, 0), 0), (78, (44, 79, 0, 0, 0), 0), (79, (45, 80, 0, 0, 0), 0), (80, (7, 83, 1, 0, 1), 0),
  (83, (35, 86, 51, 0, 0), 0), (86, (2, 87, 0, 0, 0), 0), (87, (31, 88, 0, 0, 0), 0), (88, (37, 91, 10, 5, 0), 852), (91, (0, 92, 0, 0, 1), 0), (92, (8, 93, 0, 0, 0), 0),
  (93, (40, 96, 10, 5, 0), 852), (96, (57, 97, 0, 0, 0), 0)]
def pg_138 : List PRow := [(0, (2, 1, 0, 0, 0), 0), (1, (1, 2, 1, 0, 0), 0), (2, (53, 5, 136, 1, 0), 1026), (5, (33, 8, 37, 1, 0), 0), (8, (2, 9, 0, 0, 0), 0), (9, (39, 12, 10, 2, 0), 849),
  (12, (0, 14, 0, 0, 24), 0), (14, (1, 15, 1, 0, 0), 0), (15, (8, 16, 0, 0, 0), 0), (16, (44, 17, 0, 0, 0), 0), (17, (1, 18, 2, 0, 0), 0), (18, (15, 19, 0, 0, 0), 0),
  (19, (0, 20, 0, 0, 1), 0), (20, (11, 21, 0, 0, 0), 0), (21, (0, 22, 0, 0, 1), 0), (22, (34, 25, 37, 1, 0), 0), (25, (2, 26, 0, 0, 0), 0), (26, (1, 27, 2, 0, 0), 0),
  (27, (53, 30, 135, 1, 0), 1030), (30, (33, 33, 37, 0, 0), 0), (33, (0, 34, 0, 0, 1), 0), (34, (35, 37, 38, 0, 0), 0), (37, (0, 38, 0, 0, 0), 0), (38, (56, 39, 0, 0, 0), 0)]
def pg_139 : List PRow := [(0, (2, 1, 0, 0, 0), 0), (1, (39, 4, 10, 2, 0), 849), (4, (0, 6, 0, 0, 48), 0), (6, (1, 7, 1, 0, 0), 0), (7, (8, 8, 0, 0, 0), 0), (8, (1, 9, 2, 0, 0), 0),
  (9, (45, 10, 0, 0, 0), 0), (10, (2, 11, 0, 0, 0), 0), (11, (39, 14, 10, 2, 0), 849), (14, (0, 16, 0, 0, 32), 0), (16, (1, 17, 2, 0, 0), 0), (17, (8, 18, 0, 0, 0), 0),
  (18, (2, 19, 0, 0, 0), 0), (19, (39, 22, 10, 2, 0), 849), (22, (0, 24, 0, 0, 29), 0), (24, (44, 25, 0, 0, 0), 0), (25, (45, 26, 0, 0, 0), 0), (26, (2, 27, 0, 0, 0), 0),
  (27, (39, 30, 10, 2, 0), 849), (30, (0, 32, 0, 0, 40), 0), (32, (1, 33, 2, 0, 0), 0), (33, (8, 34, 0, 0, 0), 0), (34, (32, 35, 0, 0, 0), 0), (35, (44, 36, 0, 0, 0), 0),
  (36, (0, 37, 0, 0, 1), 0), (37, (8, 38, 0, 0, 0), 0), (38, (45, 39, 0, 0, 0), 0), (39, (2, 40, 0, 0, 0), 0), (40, (39, 43, 10, 2, 0), 849), (43, (0, 45, 0, 0, 30), 0),
  (45, (2, 46, 0, 0, 0), 0), (46, (39, 49, 10, 2, 0), 849), (49, (0, 51, 0, 0, 16), 0), (51, (1, 52, 2, 0, 0), 0), (52, (8, 53, 0, 0, 0), 0), (53, (44, 54, 0, 0, 0), 0),
  (54, (45, 55, 0, 0, 0), 0), (55, (2, 56, 0, 0, 0), 0), (56, (39, 59, 10, 2, 0), 849), (59, (0, 61, 0, 0, 31), 0), (61, (32, 62, 0, 0, 0), 0), (62, (44, 63, 0, 0, 0), 0),
  (63, (2, 64, 0, 0, 0), 0), (64, (39, 67, 10, 2, 0), 849), (67, (0, 69, 0, 0, 8), 0), (69, (1, 70, 2, 0, 0), 0), (70, (8, 71, 0, 0, 0), 0), (71, (44, 72, 0, 0, 0), 0),
  (72, (0, 73, 0, 0, 2), 0), (73, (34, 76, 80, 1, 0), 0), (76, (0, 77, 0, 0, 1), 0), (77, (35, 80, 81, 0, 0), 0), (80, (0, 81, 0, 0, 0), 0), (81, (8, 82, 0, 0, 0), 0),
  (82, (45, 83, 0, 0, 0), 0), (83, (2, 84, 0, 0, 0), 0), (84, (39, 87, 10, 2, 0), 849), (87, (0, 89, 0, 0, 29), 0), (89, (32, 90, 0, 0, 0), 0), (90, (44, 91, 0, 0, 0), 0),
  (91, (2, 92, 0, 0, 0), 0), (92, (39, 95, 10, 2, 0), 849), (95, (0, 97, 0, 0, 8), 0), (97, (1, 98, 2, 0, 0), 0), (98, (8, 99, 0, 0, 0), 0), (99, (44, 100, 0, 0, 0), 0),
  (100, (0, 101, 0, 0, 5), 0), (101, (34, 104, 108, 1, 0), 0), (104, (0, 105, 0, 0, 2), 0), (105, (35, 108, 109, 0, 0), 0), (108, (0, 109, 0, 0, 1), 0), (109, (8, 110, 0, 0, 0), 0),
  (110, (45, 111, 0, 0, 0), 0), (111, (57, 112, 0, 0, 0), 0)]
def pg_140 : List PRow := [(0, (2, 1, 0, 0, 0), 0), (1, (39, 4, 10, 2, 0), 849), (4, (0, 6, 0, 0, 48), 0), (6, (1, 7, 1, 0, 0), 0), (7, (8, 8, 0, 0, 0), 0), (8, (0, 10, 0, 0, 8), 0),
  (10, (45, 11, 0, 0, 0), 0), (11, (2, 12, 0, 0, 0), 0), (12, (39, 15, 10, 2, 0), 849), (15, (0, 17, 0, 0, 31), 0), (17, (32, 18, 0, 0, 0), 0), (18, (44, 19, 0, 0, 0), 0),
  (19, (0, 20, 0, 0, 1), 0), (20, (9, 21, 0, 0, 0), 0), (21, (45, 22, 0, 0, 0), 0), (22, (2, 23, 0, 0, 0), 0), (23, (39, 26, 10, 2, 0), 849), (26, (0, 28, 0, 0, 29), 0),
  (28, (32, 29, 0, 0, 0), 0), (29, (44, 30, 0, 0, 0), 0), (30, (0, 31, 0, 0, 1), 0), (31, (8, 32, 0, 0, 0), 0), (32, (45, 33, 0, 0, 0), 0), (33, (57, 34, 0, 0, 0), 0)]
def pg_141 : List PRow := [(0, (2, 1, 0, 0, 0), 0), (1, (1, 2, 1, 0, 0), 0), (2, (53, 5, 112, 1, 0), 1014), (5, (33, 8, 16, 0, 0), 0), (8, (2, 9, 0, 0, 0), 0), (9, (1, 10, 2, 0, 0), 0),
  (10, (53, 13, 111, 1, 0), 1018), (13, (33, 16, 19, 1, 0), 0), (16, (0, 18, 0, 0, -1000001), 940), (18, (55, 19, 0, 0, 0), 0), (19, (2, 20, 0, 0, 0), 0), (20, (1, 21, 1, 0, 0), 0),
  (21, (1, 22, 2, 0, 0), 0), (22, (53, 25, 138, 2, 0), 1022), (25, (33, 28, 31, 1, 0), 0), (28, (0, 30, 0, 0, -1000002), 1042), (30, (55, 31, 0, 0, 0), 0), (31, (2, 32, 0, 0, 0), 0),
  (32, (53, 35, 137, 0, 0), 1043), (35, (2, 36, 0, 0, 0), 0), (36, (1, 37, 1, 0, 0), 0), (37, (1, 38, 2, 0, 0), 0), (38, (53, 41, 139, 2, 0), 1047), (41, (2, 42, 0, 0, 0), 0),
  (42, (39, 45, 10, 2, 0), 849), (45, (0, 47, 0, 0, 29), 0), (47, (44, 48, 0, 0, 0), 0), (48, (55, 49, 0, 0, 0), 0)]
def pg_142 : List PRow := [(0, (2, 1, 0, 0, 0), 0), (1, (1, 2, 1, 0, 0), 0), (2, (53, 5, 112, 1, 0), 1014), (5, (33, 8, 11, 1, 0), 0), (8, (0, 10, 0, 0, -1000001), 940), (10, (55, 11, 0, 0, 0), 0),
  (11, (2, 12, 0, 0, 0), 0), (12, (1, 13, 1, 0, 0), 0), (13, (53, 16, 136, 1, 0), 1026), (16, (33, 19, 29, 1, 0), 0), (19, (2, 20, 0, 0, 0), 0), (20, (39, 23, 10, 2, 0), 849),
  (23, (0, 25, 0, 0, 31), 0), (25, (44, 26, 0, 0, 0), 0), (26, (33, 29, 32, 1, 0), 0), (29, (0, 31, 0, 0, -1000002), 1042), (31, (55, 32, 0, 0, 0), 0), (32, (2, 33, 0, 0, 0), 0),
  (33, (53, 36, 137, 0, 0), 1043), (36, (2, 37, 0, 0, 0), 0), (37, (1, 38, 1, 0, 0), 0), (38, (53, 41, 140, 1, 0), 1055), (41, (2, 42, 0, 0, 0), 0), (42, (39, 45, 10, 2, 0), 849),
  (45, (0, 47, 0, 0, 31), 0), (47, (44, 48, 0, 0, 0), 0), (48, (55, 49, 0, 0, 0), 0)]
def pg_143 : List PRow := [(0, (2, 1, 0, 0, 0), 0), (1, (53, 4, 110, 0, 0), 1063), (4, (33, 7, 10, 1, 0), 0), (7, (0, 9, 0, 0, -1000002), 1042), (9, (55, 10, 0, 0, 0), 0), (10, (1, 11, 1, 0, 0), 0),
  (11, (0, 12, 0, 0, 1), 0), (12, (0, 14, 0, 0, 24), 0), (14, (52, 17, 109, 3, 0), 844), (17, (33, 20, 23, 1, 0), 0), (20, (0, 22, 0, 0, -1000001), 940), (22, (55, 23, 0, 0, 0), 0),
  (23, (2, 24, 0, 0, 0), 0), (24, (39, 27, 10, 2, 0), 849), (27, (0, 29, 0, 0, 29), 0), (29, (44, 30, 0, 0, 0), 0), (30, (1, 31, 1, 0, 0), 0), (31, (8, 32, 0, 0, 0), 0),
  (32, (0, 35, 0, 0, 999), 0), (35, (34, 38, 41, 5, 0), 0), (38, (0, 40, 0, 0, -1000003), 965), (40, (55, 41, 0, 0, 0), 0), (41, (2, 42, 0, 0, 0), 0), (42, (53, 45, 137, 0, 0), 1043),
  (45, (2, 46, 0, 0, 0), 0), (46, (39, 49, 10, 2, 0), 849), (49, (0, 51, 0, 0, 29), 0), (51, (32, 52, 0, 0, 0), 0), (52, (44, 53, 0, 0, 0), 0), (53, (1, 54, 1, 0, 0), 0),
  (54, (8, 55, 0, 0, 0), 0), (55, (45, 56, 0, 0, 0), 0), (56, (2, 57, 0, 0, 0), 0), (57, (39, 60, 10, 2, 0), 849), (60, (0, 62, 0, 0, 29), 0), (62, (44, 63, 0, 0, 0), 0),
  (63, (55, 64, 0, 0, 0), 0)]
def pg_144 : List PRow := [(0, (2, 1, 0, 0, 0), 0), (1, (37, 4, 10, 5, 0), 852), (4, (33, 7, 10, 1, 0), 0), (7, (0, 9, 0, 0, -1000002), 1042), (9, (55, 10, 0, 0, 0), 0), (10, (2, 11, 0, 0, 0), 0),
  (11, (31, 12, 0, 0, 0), 0), (12, (37, 15, 10, 5, 0), 852), (15, (0, 16, 0, 0, 1), 0), (16, (9, 17, 0, 0, 0), 0), (17, (40, 20, 10, 5, 0), 852), (20, (0, 21, 0, 0, 0), 0),
  (21, (4, 22, 1, 0, 0), 0), (22, (1, 23, 1, 0, 0), 0), (23, (0, 25, 0, 0, 24), 0), (25, (34, 28, 57, 3, 0), 0), (28, (2, 29, 0, 0, 0), 0), (29, (39, 32, 10, 2, 0), 849),
  (32, (0, 34, 0, 0, 29), 0), (34, (1, 35, 1, 0, 0), 0), (35, (8, 36, 0, 0, 0), 0), (36, (2, 37, 0, 0, 0), 0), (37, (39, 40, 10, 4, 0), 851), (40, (0, 42, 0, 0, 24), 0),
  (42, (2, 43, 0, 0, 0), 0), (43, (37, 46, 10, 5, 0), 852), (46, (10, 47, 0, 0, 0), 0), (47, (1, 48, 1, 0, 0), 0), (48, (8, 49, 0, 0, 0), 0), (49, (44, 50, 0, 0, 0), 0),
  (50, (45, 51, 0, 0, 0), 0), (51, (7, 54, 1, 0, 1), 0), (54, (35, 57, 22, 0, 0), 0), (57, (2, 58, 0, 0, 0), 0), (58, (37, 61, 10, 5, 0), 852), (61, (55, 62, 0, 0, 0), 0)]
def pg_145 : List PRow := [(0, (2, 1, 0, 0, 0), 0), (1, (1, 2, 1, 0, 0), 0), (2, (53, 5, 111, 1, 0), 1018), (5, (33, 8, 17, 0, 0), 0), (8, (1, 9, 2, 0, 0), 0), (9, (0, 10, 0, 0, 0), 0),
  (10, (0, 11, 0, 0, 3), 0), (11, (52, 14, 109, 3, 0), 844), (14, (33, 17, 20, 1, 0), 0), (17, (0, 19, 0, 0, -1000001), 940), (19, (55, 20, 0, 0, 0), 0), (20, (2, 21, 0, 0, 0), 0),
  (21, (39, 24, 10, 2, 0), 849), (24, (0, 26, 0, 0, 32), 0), (26, (1, 27, 1, 0, 0), 0), (27, (8, 28, 0, 0, 0), 0), (28, (44, 29, 0, 0, 0), 0), (29, (4, 30, 3, 0, 0), 0),
  (30, (1, 31, 2, 0, 0), 0), (31, (33, 34, 46, 1, 0), 0), (34, (2, 35, 0, 0, 0), 0), (35, (39, 38, 10, 2, 0), 849), (38, (0, 40, 0, 0, 16), 0), (40, (1, 41, 1, 0, 0), 0),
  (41, (8, 42, 0, 0, 0), 0), (42, (44, 43, 0, 0, 0), 0), (43, (35, 46, 94, 0, 0), 0), (46, (1, 47, 2, 0, 0), 0), (47, (0, 48, 0, 0, 1), 0), (48, (34, 51, 64, 1, 0), 0),
  (51, (1, 52, 3, 0, 0), 0), (52, (33, 55, 60, 3, 0), 0), (55, (0, 57, 0, 0, -1000000), 1075), (57, (35, 60, 94, 0, 0), 0), (60, (1, 61, 3, 0, 0), 0), (61, (35, 64, 94, 0, 0), 0),
  (64, (1, 65, 2, 0, 0), 0), (65, (0, 66, 0, 0, 2), 0), (66, (34, 69, 81, 1, 0), 0), (69, (2, 70, 0, 0, 0), 0), (70, (39, 73, 10, 2, 0), 849), (73, (0, 75, 0, 0, 40), 0),
  (75, (1, 76, 1, 0, 0), 0), (76, (8, 77, 0, 0, 0), 0), (77, (44, 78, 0, 0, 0), 0), (78, (35, 81, 94, 0, 0), 0), (81, (2, 82, 0, 0, 0), 0), (82, (1, 83, 1, 0, 0), 0),
  (83, (53, 86, 135, 1, 0), 1030), (86, (33, 89, 93, 0, 0), 0), (89, (0, 90, 0, 0, 1), 0), (90, (35, 93, 94, 0, 0), 0), (93, (0, 94, 0, 0, 0), 0), (94, (55, 95, 0, 0, 0), 0)]
def pg_146 : List PRow := [(0, (2, 1, 0, 0, 0), 0), (1, (1, 2, 1, 0, 0), 0), (2, (53, 5, 112, 1, 0), 1014), (5, (33, 8, 17, 0, 0), 0), (8, (1, 9, 2, 0, 0), 0), (9, (0, 10, 0, 0, 0), 0),
  (10, (0, 11, 0, 0, 2), 0), (11, (52, 14, 109, 3, 0), 844), (14, (33, 17, 20, 1, 0), 0), (17, (0, 19, 0, 0, -1000001), 940), (19, (55, 20, 0, 0, 0), 0), (20, (1, 21, 2, 0, 0), 0),
  (21, (33, 24, 36, 1, 0), 0), (24, (2, 25, 0, 0, 0), 0), (25, (39, 28, 10, 2, 0), 849), (28, (0, 30, 0, 0, 24), 0), (30, (1, 31, 1, 0, 0), 0), (31, (8, 32, 0, 0, 0), 0),
  (32, (44, 33, 0, 0, 0), 0), (33, (35, 36, 79, 0, 0), 0), (36, (1, 37, 2, 0, 0), 0), (37, (0, 38, 0, 0, 1), 0), (38, (34, 41, 57, 1, 0), 0), (41, (2, 42, 0, 0, 0), 0),
  (42, (1, 43, 1, 0, 0), 0), (43, (53, 46, 136, 1, 0), 1026), (46, (33, 49, 53, 0, 0), 0), (49, (0, 50, 0, 0, 1), 0), (50, (35, 53, 79, 0, 0), 0), (53, (0, 54, 0, 0, 0), 0),
  (54, (35, 57, 79, 0, 0), 0), (57, (2, 58, 0, 0, 0), 0), (58, (1, 59, 1, 0, 0), 0), (59, (53, 62, 136, 1, 0), 1026), (62, (33, 65, 77, 0, 0), 0), (65, (2, 66, 0, 0, 0), 0),
  (66, (39, 69, 10, 2, 0), 849), (69, (0, 71, 0, 0, 48), 0), (71, (1, 72, 1, 0, 0), 0), (72, (8, 73, 0, 0, 0), 0), (73, (44, 74, 0, 0, 0), 0), (74, (35, 77, 79, 0, 0), 0),
  (77, (0, 79, 0, 0, -1000000), 1075), (79, (55, 80, 0, 0, 0), 0)]
def pg_147 : List PRow := [(0, (0, 1, 0, 0, 0), 0), (1, (4, 2, 2, 0, 0), 0), (2, (0, 3, 0, 0, 0), 0), (3, (4, 4, 3, 0, 0), 0), (4, (1, 5, 3, 0, 0), 0), (5, (2, 6, 0, 0, 0), 0),
  (6, (39, 9, 10, 2, 0), 849), (9, (0, 10, 0, 0, 1), 0), (10, (44, 11, 0, 0, 0), 0), (11, (34, 14, 39, 3, 0), 0), (14, (1, 15, 2, 0, 0), 0), (15, (2, 16, 0, 0, 0), 0),
  (16, (1, 17, 1, 0, 0), 0), (17, (1, 18, 3, 0, 0), 0), (18, (53, 21, 138, 2, 0), 1022), (21, (33, 24, 30, 0, 0), 0), (24, (0, 25, 0, 0, 1), 0), (25, (1, 26, 3, 0, 0), 0),
  (26, (14, 27, 0, 0, 0), 0), (27, (35, 30, 31, 0, 0), 0), (30, (0, 31, 0, 0, 0), 0), (31, (12, 32, 0, 0, 0), 0), (32, (4, 33, 2, 0, 0), 0), (33, (7, 36, 3, 0, 1), 0),
  (36, (35, 39, 4, 0, 0), 0), (39, (1, 40, 2, 0, 0), 0), (40, (55, 41, 0, 0, 0), 0)]
def pg_148 : List PRow := [(0, (2, 1, 0, 0, 0), 0), (1, (1, 2, 1, 0, 0), 0), (2, (53, 5, 112, 1, 0), 1014), (5, (33, 8, 13, 1, 0), 0), (8, (0, 10, 0, 0, -1000001), 940), (10, (35, 13, 31, 0, 0), 0),
  (13, (2, 14, 0, 0, 0), 0), (14, (1, 15, 1, 0, 0), 0), (15, (53, 18, 136, 1, 0), 1026), (18, (33, 21, 26, 0, 0), 0), (21, (0, 23, 0, 0, -1000002), 1042), (23, (35, 26, 31, 0, 0), 0),
  (26, (2, 27, 0, 0, 0), 0), (27, (1, 28, 1, 0, 0), 0), (28, (53, 31, 147, 1, 0), 1084), (31, (55, 32, 0, 0, 0), 0)]
def pg_149 : List PRow := [(0, (2, 1, 0, 0, 0), 0), (1, (1, 2, 1, 0, 0), 0), (2, (53, 5, 112, 1, 0), 1014), (5, (33, 8, 11, 1, 0), 0), (8, (0, 10, 0, 0, -1000001), 940), (10, (55, 11, 0, 0, 0), 0),
  (11, (2, 12, 0, 0, 0), 0), (12, (1, 13, 1, 0, 0), 0), (13, (53, 16, 136, 1, 0), 1026), (16, (33, 19, 22, 0, 0), 0), (19, (0, 21, 0, 0, -1000002), 1042), (21, (55, 22, 0, 0, 0), 0),
  (22, (2, 23, 0, 0, 0), 0), (23, (39, 26, 10, 2, 0), 849), (26, (0, 28, 0, 0, 29), 0), (28, (44, 29, 0, 0, 0), 0), (29, (4, 30, 2, 0, 0), 0), (30, (0, 32, 0, 0, -1000000), 1075),
  (32, (4, 33, 3, 0, 0), 0), (33, (0, 35, 0, 0, 48), 0), (35, (4, 37, 4, 0, 0), 0), (37, (1, 39, 4, 0, 0), 0), (39, (33, 42, 79, 2, 0), 0), (42, (2, 43, 0, 0, 0), 0),
  (43, (39, 46, 10, 2, 0), 849), (46, (0, 48, 0, 0, 29), 0), (48, (1, 49, 2, 0, 0), 0), (49, (1, 51, 4, 0, 0), 0), (51, (8, 52, 0, 0, 0), 0), (52, (45, 53, 0, 0, 0), 0),
  (53, (2, 54, 0, 0, 0), 0), (54, (1, 55, 1, 0, 0), 0), (55, (53, 58, 147, 1, 0), 1084), (58, (33, 61, 71, 0, 0), 0), (61, (2, 62, 0, 0, 0), 0), (62, (39, 65, 10, 2, 0), 849),
  (65, (0, 67, 0, 0, 29), 0), (67, (44, 68, 0, 0, 0), 0), (68, (35, 71, 72, 0, 0), 0), (71, (1, 72, 3, 0, 0), 0), (72, (4, 73, 3, 0, 0), 0), (73, (7, 76, 4, 0, -1), 0),
  (76, (35, 79, 37, 0, 0), 0), (79, (2, 80, 0, 0, 0), 0), (80, (39, 83, 10, 2, 0), 849), (83, (0, 85, 0, 0, 29), 0), (85, (1, 86, 2, 0, 0), 0), (86, (45, 87, 0, 0, 0), 0),
  (87, (1, 88, 3, 0, 0), 0), (88, (55, 89, 0, 0, 0), 0)]
def pg_150 : List PRow := [(0, (0, 1, 0, 0, 0), 0), (1, (4, 2, 2, 0, 0), 0), (2, (1, 3, 2, 0, 0), 0), (3, (0, 5, 0, 0, 24), 0), (5, (34, 8, 34, 3, 0), 0), (8, (2, 9, 0, 0, 0), 0),
  (9, (39, 12, 10, 21, 0), 868), (12, (0, 14, 0, 0, 24), 0), (14, (1, 15, 1, 0, 0), 0), (15, (10, 16, 0, 0, 0), 0), (16, (1, 17, 2, 0, 0), 0), (17, (8, 18, 0, 0, 0), 0),
  (18, (2, 19, 0, 0, 0), 0), (19, (39, 22, 10, 2, 0), 849), (22, (0, 24, 0, 0, 29), 0), (24, (1, 25, 2, 0, 0), 0), (25, (8, 26, 0, 0, 0), 0), (26, (44, 27, 0, 0, 0), 0),
  (27, (45, 28, 0, 0, 0), 0), (28, (7, 31, 2, 0, 1), 0), (31, (35, 34, 2, 0, 0), 0), (34, (57, 35, 0, 0, 0), 0)]
def pg_151 : List PRow := [(0, (0, 1, 0, 0, 0), 0), (1, (4, 2, 2, 0, 0), 0), (2, (1, 3, 2, 0, 0), 0), (3, (0, 5, 0, 0, 24), 0), (5, (34, 8, 34, 3, 0), 0), (8, (2, 9, 0, 0, 0), 0),
  (9, (39, 12, 10, 2, 0), 849), (12, (0, 14, 0, 0, 29), 0), (14, (1, 15, 2, 0, 0), 0), (15, (8, 16, 0, 0, 0), 0), (16, (2, 17, 0, 0, 0), 0), (17, (39, 20, 10, 21, 0), 868),
  (20, (0, 22, 0, 0, 24), 0), (22, (1, 23, 1, 0, 0), 0), (23, (10, 24, 0, 0, 0), 0), (24, (1, 25, 2, 0, 0), 0), (25, (8, 26, 0, 0, 0), 0), (26, (44, 27, 0, 0, 0), 0),
  (27, (45, 28, 0, 0, 0), 0), (28, (7, 31, 2, 0, 1), 0), (31, (35, 34, 2, 0, 0), 0), (34, (57, 35, 0, 0, 0), 0)]
def pg_152 : List PRow := [(0, (0, 1, 0, 0, 0), 0), (1, (4, 2, 1, 0, 0), 0), (2, (0, 3, 0, 0, 0), 0), (3, (4, 4, 2, 0, 0), 0), (4, (1, 5, 2, 0, 0), 0), (5, (2, 6, 0, 0, 0), 0),
  (6, (39, 9, 10, 2, 0), 849), (9, (0, 10, 0, 0, 2), 0), (10, (44, 11, 0, 0, 0), 0), (11, (34, 14, 36, 3, 0), 0), (14, (1, 15, 1, 0, 0), 0), (15, (2, 16, 0, 0, 0), 0),
  (16, (1, 17, 2, 0, 0), 0), (17, (53, 20, 136, 1, 0), 1026), (20, (33, 23, 27, 0, 0), 0), (23, (0, 24, 0, 0, 0), 0), (24, (35, 27, 28, 0, 0), 0), (27, (0, 28, 0, 0, 1), 0),
  (28, (8, 29, 0, 0, 0), 0), (29, (4, 30, 1, 0, 0), 0), (30, (7, 33, 2, 0, 1), 0), (33, (35, 36, 4, 0, 0), 0), (36, (1, 37, 1, 0, 0), 0), (37, (55, 38, 0, 0, 0), 0)]
def pg_153 : List PRow := [(0, (1, 1, 1, 0, 0), 0), (1, (0, 3, 0, 0, 16), 0), (3, (17, 4, 0, 0, 0), 0), (4, (4, 5, 2, 0, 0), 0), (5, (1, 6, 1, 0, 0), 0), (6, (0, 8, 0, 0, 16), 0),
  (8, (18, 9, 0, 0, 0), 0), (9, (4, 10, 3, 0, 0), 0), (10, (1, 11, 3, 0, 0), 0), (11, (0, 13, 0, 0, 8), 0), (13, (34, 16, 42, 1, 0), 0), (16, (2, 17, 0, 0, 0), 0),
  (17, (1, 18, 2, 0, 0), 0), (18, (53, 21, 136, 1, 0), 1026), (21, (33, 24, 38, 1, 0), 0), (24, (2, 25, 0, 0, 0), 0), (25, (39, 28, 10, 2, 0), 849), (28, (0, 30, 0, 0, 31), 0),
  (30, (44, 31, 0, 0, 0), 0), (31, (33, 34, 38, 5, 0), 0), (34, (0, 35, 0, 0, 1), 0), (35, (35, 38, 64, 0, 0), 0), (38, (0, 39, 0, 0, 0), 0), (39, (35, 42, 64, 0, 0), 0),
  (42, (2, 43, 0, 0, 0), 0), (43, (1, 44, 3, 0, 0), 0), (44, (53, 47, 111, 1, 0), 1018), (47, (33, 50, 63, 0, 0), 0), (50, (2, 51, 0, 0, 0), 0), (51, (1, 52, 2, 0, 0), 0),
  (52, (1, 53, 3, 0, 0), 0), (53, (53, 56, 138, 2, 0), 1022), (56, (33, 59, 63, 0, 0), 0), (59, (0, 60, 0, 0, 1), 0), (60, (35, 63, 64, 0, 0), 0), (63, (0, 64, 0, 0, 0), 0),
  (64, (56, 65, 0, 0, 0), 0)]
def pg_154 : List PRow := [(0, (2, 1, 0, 0, 0), 0), (1, (53, 4, 152, 0, 0), 1100), (4, (4, 5, 1, 0, 0), 0), (5, (2, 6, 0, 0, 0), 0), (6, (1, 7, 1, 0, 0), 0), (7, (33, 10, 20, 1, 0), 0),
  (10, (2, 11, 0, 0, 0), 0), (11, (39, 14, 10, 2, 0), 849), (14, (0, 16, 0, 0, 29), 0), (16, (44, 17, 0, 0, 0), 0), (17, (35, 20, 22, 0, 0), 0), (20, (0, 22, 0, 0, -1000000), 1075),
  (22, (40, 25, 10, 24, 0), 871), (25, (2, 26, 0, 0, 0), 0), (26, (0, 27, 0, 0, 0), 0), (27, (53, 30, 150, 1, 0), 1104), (30, (1, 31, 1, 0, 0), 0), (31, (33, 34, 38, 1, 0), 0),
  (34, (0, 35, 0, 0, -1), 0), (35, (35, 38, 39, 0, 0), 0), (38, (0, 39, 0, 0, 0), 0), (39, (4, 40, 2, 0, 0), 0), (40, (2, 41, 0, 0, 0), 0), (41, (39, 44, 10, 22, 0), 869),
  (44, (0, 45, 0, 0, 0), 0), (45, (0, 46, 0, 0, -1), 0), (46, (45, 47, 0, 0, 0), 0), (47, (1, 48, 2, 0, 0), 0), (48, (33, 51, 283, 2, 0), 0), (51, (2, 52, 0, 0, 0), 0),
  (52, (39, 55, 10, 22, 0), 869), (55, (1, 56, 2, 0, 0), 0), (56, (32, 57, 0, 0, 0), 0), (57, (44, 58, 0, 0, 0), 0), (58, (0, 59, 0, 0, 1), 0), (59, (8, 60, 0, 0, 0), 0),
  (60, (45, 61, 0, 0, 0), 0), (61, (2, 62, 0, 0, 0), 0), (62, (39, 65, 10, 22, 0), 869), (65, (1, 66, 2, 0, 0), 0), (66, (44, 67, 0, 0, 0), 0), (67, (0, 69, 0, 0, 16), 0),
  (69, (2, 70, 0, 0, 0), 0), (70, (39, 73, 10, 2, 0), 849), (73, (0, 74, 0, 0, 2), 0), (74, (44, 75, 0, 0, 0), 0), (75, (10, 76, 0, 0, 0), 0), (76, (34, 79, 94, 2, 0), 0),
  (79, (7, 82, 2, 0, -1), 0), (82, (1, 83, 2, 0, 0), 0), (83, (33, 86, 47, 2, 0), 0), (86, (2, 87, 0, 0, 0), 0), (87, (1, 88, 2, 0, 0), 0), (88, (53, 91, 151, 1, 0), 1108),
  (91, (35, 94, 47, 0, 0), 0), (94, (2, 95, 0, 0, 0), 0), (95, (2, 96, 0, 0, 0), 0), (96, (39, 99, 10, 22, 0), 869), (99, (1, 100, 2, 0, 0), 0), (100, (44, 101, 0, 0, 0), 0),
  (101, (53, 104, 153, 1, 0), 1112), (104, (33, 107, 47, 0, 0), 0), (107, (2, 108, 0, 0, 0), 0), (108, (39, 111, 10, 22, 0), 869), (111, (1, 112, 2, 0, 0), 0), (112, (44, 113, 0, 0, 0), 0),
  (113, (0, 115, 0, 0, 16), 0), (115, (18, 116, 0, 0, 0), 0), (116, (0, 118, 0, 0, 8), 0), (118, (34, 121, 137, 1, 0), 0), (121, (2, 122, 0, 0, 0), 0), (122, (2, 123, 0, 0, 0), 0),
  (123, (39, 126, 10, 22, 0), 869), (126, (1, 127, 2, 0, 0), 0), (127, (44, 128, 0, 0, 0), 0), (128, (0, 130, 0, 0, 16), 0), (130, (17, 131, 0, 0, 0), 0), (131, (53, 134, 140, 1, 0), 1055),
  (134, (35, 137, 159, 0, 0), 0), (137, (2, 138, 0, 0, 0), 0), (138, (2, 139, 0, 0, 0), 0), (139, (39, 142, 10, 22, 0), 869), (142, (1, 143, 2, 0, 0), 0), (143, (44, 144, 0, 0, 0), 0),
  (144, (0, 146, 0, 0, 16), 0), (146, (17, 147, 0, 0, 0), 0), (147, (2, 148, 0, 0, 0), 0), (148, (39, 151, 10, 22, 0), 869), (151, (1, 152, 2, 0, 0), 0), (152, (44, 153, 0, 0, 0), 0),
  (153, (0, 155, 0, 0, 16), 0), (155, (18, 156, 0, 0, 0), 0), (156, (53, 159, 139, 2, 0), 1047), (159, (2, 160, 0, 0, 0), 0), (160, (37, 163, 10, 24, 0), 871), (163, (0, 165, 0, 0, -1000000), 1075),
  (165, (34, 168, 188, 0, 0), 0), (168, (2, 169, 0, 0, 0), 0), (169, (39, 172, 10, 2, 0), 849), (172, (0, 174, 0, 0, 29), 0), (174, (44, 175, 0, 0, 0), 0), (175, (1, 176, 1, 0, 0), 0),
  (176, (8, 177, 0, 0, 0), 0), (177, (1, 178, 2, 0, 0), 0), (178, (9, 179, 0, 0, 0), 0), (179, (0, 180, 0, 0, 1), 0), (180, (9, 181, 0, 0, 0), 0), (181, (2, 182, 0, 0, 0), 0),
  (182, (37, 185, 10, 24, 0), 871), (185, (34, 188, 192, 3, 0), 0), (188, (0, 189, 0, 0, 1), 0), (189, (35, 192, 193, 0, 0), 0), (192, (0, 193, 0, 0, 0), 0), (193, (4, 194, 3, 0, 0), 0),
  (194, (1, 195, 3, 0, 0), 0), (195, (33, 198, 253, 0, 0), 0), (198, (1, 199, 2, 0, 0), 0), (199, (0, 200, 0, 0, 1), 0), (200, (8, 201, 0, 0, 0), 0), (201, (1, 202, 1, 0, 0), 0),
  (202, (34, 205, 253, 1, 0), 0), (205, (2, 206, 0, 0, 0), 0), (206, (2, 207, 0, 0, 0), 0), (207, (39, 210, 10, 2, 0), 849), (210, (0, 212, 0, 0, 29), 0), (212, (44, 213, 0, 0, 0), 0),
  (213, (40, 216, 10, 24, 0), 871), (216, (0, 217, 0, 0, 0), 0), (217, (4, 219, 4, 0, 0), 0), (219, (1, 221, 4, 0, 0), 0), (221, (1, 222, 1, 0, 0), 0), (222, (34, 225, 245, 3, 0), 0),
  (225, (2, 226, 0, 0, 0), 0), (226, (39, 229, 10, 23, 0), 870), (229, (1, 231, 4, 0, 0), 0), (231, (2, 232, 0, 0, 0), 0), (232, (39, 235, 10, 22, 0), 869), (235, (1, 237, 4, 0, 0), 0),
  (237, (44, 238, 0, 0, 0), 0), (238, (45, 239, 0, 0, 0), 0), (239, (7, 242, 4, 0, 1), 0), (242, (35, 245, 219, 0, 0), 0), (245, (2, 246, 0, 0, 0), 0), (246, (1, 247, 2, 0, 0), 0),
  (247, (53, 250, 151, 1, 0), 1108), (250, (35, 253, 280, 0, 0), 0), (253, (1, 254, 3, 0, 0), 0), (254, (33, 257, 275, 0, 0), 0), (257, (7, 260, 2, 0, 1), 0), (260, (2, 261, 0, 0, 0), 0),
  (261, (1, 262, 2, 0, 0), 0), (262, (53, 265, 150, 1, 0), 1104), (265, (2, 266, 0, 0, 0), 0), (266, (39, 269, 10, 22, 0), 869), (269, (1, 270, 2, 0, 0), 0), (270, (0, 271, 0, 0, -1), 0),
  (271, (45, 272, 0, 0, 0), 0), (272, (35, 275, 280, 0, 0), 0), (275, (2, 276, 0, 0, 0), 0), (276, (1, 277, 2, 0, 0), 0), (277, (53, 280, 151, 1, 0), 1108), (280, (35, 283, 47, 0, 0), 0),
  (283, (1, 284, 1, 0, 0), 0), (284, (55, 285, 0, 0, 0), 0)]
def pg_155 : List PRow := [(0, (2, 1, 0, 0, 0), 0), (1, (53, 4, 110, 0, 0), 1063), (4, (33, 7, 10, 1, 0), 0), (7, (0, 9, 0, 0, -1000002), 1042), (9, (55, 10, 0, 0, 0), 0), (10, (1, 11, 1, 0, 0), 0),
  (11, (0, 12, 0, 0, -1), 0), (12, (0, 13, 0, 0, 4), 0), (13, (52, 16, 109, 3, 0), 844), (16, (33, 19, 22, 1, 0), 0), (19, (0, 21, 0, 0, -1000001), 940), (21, (55, 22, 0, 0, 0), 0),
  (22, (2, 23, 0, 0, 0), 0), (23, (53, 26, 154, 0, 0), 1096), (26, (4, 27, 2, 0, 0), 0), (27, (1, 28, 1, 0, 0), 0), (28, (0, 29, 0, 0, -1), 0), (29, (34, 32, 41, 0, 0), 0),
  (32, (2, 33, 0, 0, 0), 0), (33, (37, 36, 10, 24, 0), 871), (36, (0, 38, 0, 0, -1000000), 1075), (38, (34, 41, 48, 1, 0), 0), (41, (2, 42, 0, 0, 0), 0), (42, (37, 45, 10, 24, 0), 871),
  (45, (35, 48, 64, 0, 0), 0), (48, (1, 49, 1, 0, 0), 0), (49, (1, 50, 2, 0, 0), 0), (50, (34, 53, 62, 3, 0), 0), (53, (2, 54, 0, 0, 0), 0), (54, (39, 57, 10, 23, 0), 870),
  (57, (1, 58, 1, 0, 0), 0), (58, (44, 59, 0, 0, 0), 0), (59, (35, 62, 64, 0, 0), 0), (62, (0, 64, 0, 0, -1000000), 1075), (64, (55, 65, 0, 0, 0), 0)]
def pg_156 : List PRow := [(0, (0, 1, 0, 0, 0), 0), (1, (4, 2, 1, 0, 0), 0), (2, (0, 5, 0, 0, 255), 0), (5, (4, 6, 2, 0, 0), 0), (6, (1, 7, 2, 0, 0), 0), (7, (33, 10, 163, 2, 0), 0),
  (10, (0, 11, 0, 0, 0), 0), (11, (4, 12, 3, 0, 0), 0), (12, (1, 13, 3, 0, 0), 0), (13, (0, 15, 0, 0, 8), 0), (15, (34, 18, 157, 3, 0), 0), (18, (0, 19, 0, 0, 0), 0),
  (19, (4, 21, 4, 0, 0), 0), (21, (0, 22, 0, 0, 0), 0), (22, (4, 24, 5, 0, 0), 0), (24, (1, 26, 5, 0, 0), 0), (26, (2, 27, 0, 0, 0), 0), (27, (39, 30, 10, 2, 0), 849),
  (30, (0, 31, 0, 0, 1), 0), (31, (44, 32, 0, 0, 0), 0), (32, (34, 35, 138, 3, 0), 0), (35, (2, 36, 0, 0, 0), 0), (36, (1, 37, 3, 0, 0), 0), (37, (53, 40, 111, 1, 0), 1018),
  (40, (33, 43, 138, 0, 0), 0), (43, (1, 44, 2, 0, 0), 0), (44, (1, 46, 5, 0, 0), 0), (46, (15, 47, 0, 0, 0), 0), (47, (0, 48, 0, 0, 1), 0), (48, (11, 49, 0, 0, 0), 0),
  (49, (33, 52, 83, 1, 0), 0), (52, (2, 53, 0, 0, 0), 0), (53, (1, 55, 5, 0, 0), 0), (55, (53, 58, 133, 1, 0), 1034), (58, (33, 61, 83, 1, 0), 0), (61, (2, 62, 0, 0, 0), 0),
  (62, (1, 64, 5, 0, 0), 0), (64, (2, 65, 0, 0, 0), 0), (65, (39, 68, 10, 2, 0), 849), (68, (0, 70, 0, 0, 16), 0), (70, (1, 71, 3, 0, 0), 0), (71, (8, 72, 0, 0, 0), 0),
  (72, (44, 73, 0, 0, 0), 0), (73, (53, 76, 134, 2, 0), 1038), (76, (33, 79, 83, 0, 0), 0), (79, (0, 80, 0, 0, 1), 0), (80, (35, 83, 84, 0, 0), 0), (83, (0, 84, 0, 0, 0), 0),
  (84, (4, 86, 6, 0, 0), 0), (86, (1, 88, 6, 0, 0), 0), (88, (33, 91, 113, 0, 0), 0), (91, (0, 92, 0, 0, 1), 0), (92, (2, 93, 0, 0, 0), 0), (93, (39, 96, 10, 25, 0), 872),
  (96, (0, 98, 0, 0, 8), 0), (98, (1, 99, 2, 0, 0), 0), (99, (0, 100, 0, 0, 1), 0), (100, (1, 102, 5, 0, 0), 0), (102, (14, 103, 0, 0, 0), 0), (103, (12, 104, 0, 0, 0), 0),
  (104, (10, 105, 0, 0, 0), 0), (105, (1, 107, 5, 0, 0), 0), (107, (8, 108, 0, 0, 0), 0), (108, (44, 109, 0, 0, 0), 0), (109, (8, 110, 0, 0, 0), 0), (110, (35, 113, 114, 0, 0), 0),
  (113, (0, 114, 0, 0, 0), 0), (114, (4, 116, 7, 0, 0), 0), (116, (1, 118, 7, 0, 0), 0), (118, (1, 120, 4, 0, 0), 0), (120, (34, 123, 128, 5, 0), 0), (123, (1, 125, 7, 0, 0), 0),
  (125, (35, 128, 130, 0, 0), 0), (128, (1, 130, 4, 0, 0), 0), (130, (4, 132, 4, 0, 0), 0), (132, (7, 135, 5, 0, 1), 0), (135, (35, 138, 24, 0, 0), 0), (138, (2, 139, 0, 0, 0), 0),
  (139, (39, 142, 10, 25, 0), 872), (142, (0, 144, 0, 0, 8), 0), (144, (1, 145, 2, 0, 0), 0), (145, (10, 146, 0, 0, 0), 0), (146, (1, 147, 3, 0, 0), 0), (147, (8, 148, 0, 0, 0), 0),
  (148, (1, 150, 4, 0, 0), 0), (150, (45, 151, 0, 0, 0), 0), (151, (7, 154, 3, 0, 1), 0), (154, (35, 157, 12, 0, 0), 0), (157, (7, 160, 2, 0, -1), 0), (160, (35, 163, 6, 0, 0), 0),
  (163, (0, 164, 0, 0, 0), 0), (164, (4, 165, 2, 0, 0), 0), (165, (1, 166, 2, 0, 0), 0), (166, (2, 167, 0, 0, 0), 0), (167, (39, 170, 10, 2, 0), 849), (170, (0, 171, 0, 0, 1), 0),
  (171, (44, 172, 0, 0, 0), 0), (172, (34, 175, 220, 3, 0), 0), (175, (2, 176, 0, 0, 0), 0), (176, (1, 177, 2, 0, 0), 0), (177, (53, 180, 135, 1, 0), 1030), (180, (33, 183, 201, 0, 0), 0),
  (183, (0, 184, 0, 0, 1), 0), (184, (2, 185, 0, 0, 0), 0), (185, (39, 188, 10, 25, 0), 872), (188, (0, 190, 0, 0, 8), 0), (190, (0, 191, 0, 0, 1), 0), (191, (1, 192, 2, 0, 0), 0),
  (192, (14, 193, 0, 0, 0), 0), (193, (10, 194, 0, 0, 0), 0), (194, (1, 195, 2, 0, 0), 0), (195, (8, 196, 0, 0, 0), 0), (196, (44, 197, 0, 0, 0), 0), (197, (8, 198, 0, 0, 0), 0),
  (198, (35, 201, 202, 0, 0), 0), (201, (0, 202, 0, 0, 0), 0), (202, (4, 203, 3, 0, 0), 0), (203, (1, 204, 3, 0, 0), 0), (204, (1, 205, 1, 0, 0), 0), (205, (34, 208, 212, 5, 0), 0),
  (208, (1, 209, 3, 0, 0), 0), (209, (35, 212, 213, 0, 0), 0), (212, (1, 213, 1, 0, 0), 0), (213, (4, 214, 1, 0, 0), 0), (214, (7, 217, 2, 0, 1), 0), (217, (35, 220, 165, 0, 0), 0),
  (220, (1, 221, 1, 0, 0), 0), (221, (55, 222, 0, 0, 0), 0)]
def pg_157 : List PRow := [(0, (2, 1, 0, 0, 0), 0), (1, (53, 4, 110, 0, 0), 1063), (4, (33, 7, 10, 1, 0), 0), (7, (0, 9, 0, 0, -1000002), 1042), (9, (55, 10, 0, 0, 0), 0), (10, (1, 11, 1, 0, 0), 0),
  (11, (0, 12, 0, 0, -1), 0), (12, (0, 14, 0, 0, 7), 0), (14, (52, 17, 109, 3, 0), 844), (17, (33, 20, 23, 1, 0), 0), (20, (0, 22, 0, 0, -1000001), 940), (22, (55, 23, 0, 0, 0), 0),
  (23, (2, 24, 0, 0, 0), 0), (24, (53, 27, 156, 0, 0), 1120), (27, (4, 28, 2, 0, 0), 0), (28, (1, 29, 1, 0, 0), 0), (29, (0, 30, 0, 0, -1), 0), (30, (34, 33, 35, 1, 0), 0),
  (33, (1, 34, 2, 0, 0), 0), (34, (55, 35, 0, 0, 0), 0), (35, (0, 36, 0, 0, 0), 0), (36, (4, 37, 3, 0, 0), 0), (37, (2, 38, 0, 0, 0), 0), (38, (39, 41, 10, 2, 0), 849),
  (41, (0, 43, 0, 0, 30), 0), (43, (44, 44, 0, 0, 0), 0), (44, (4, 46, 4, 0, 0), 0), (46, (0, 48, 0, 0, -1000000), 1075), (48, (4, 50, 5, 0, 0), 0), (50, (0, 51, 0, 0, 0), 0),
  (51, (4, 53, 6, 0, 0), 0), (53, (1, 55, 6, 0, 0), 0), (55, (1, 56, 1, 0, 0), 0), (56, (34, 59, 202, 4, 0), 0), (59, (0, 61, 0, 0, -1000000), 1075), (61, (4, 63, 7, 0, 0), 0),
  (63, (2, 64, 0, 0, 0), 0), (64, (39, 67, 10, 2, 0), 849), (67, (0, 68, 0, 0, 1), 0), (68, (44, 69, 0, 0, 0), 0), (69, (0, 70, 0, 0, 1), 0), (70, (9, 71, 0, 0, 0), 0),
  (71, (4, 73, 8, 0, 0), 0), (73, (1, 75, 8, 0, 0), 0), (75, (33, 78, 166, 2, 0), 0), (78, (1, 80, 6, 0, 0), 0), (80, (1, 81, 2, 0, 0), 0), (81, (34, 84, 143, 3, 0), 0),
  (84, (1, 85, 3, 0, 0), 0), (85, (1, 87, 8, 0, 0), 0), (87, (15, 88, 0, 0, 0), 0), (88, (0, 89, 0, 0, 1), 0), (89, (11, 90, 0, 0, 0), 0), (90, (33, 93, 143, 1, 0), 0),
  (93, (2, 94, 0, 0, 0), 0), (94, (1, 96, 8, 0, 0), 0), (96, (53, 99, 133, 1, 0), 1034), (99, (33, 102, 143, 1, 0), 0), (102, (2, 103, 0, 0, 0), 0), (103, (1, 105, 8, 0, 0), 0),
  (105, (1, 107, 4, 0, 0), 0), (107, (53, 110, 134, 2, 0), 1038), (110, (33, 113, 143, 0, 0), 0), (113, (0, 114, 0, 0, 1), 0), (114, (2, 115, 0, 0, 0), 0), (115, (39, 118, 10, 25, 0), 872),
  (118, (0, 120, 0, 0, 8), 0), (120, (1, 121, 3, 0, 0), 0), (121, (0, 122, 0, 0, 1), 0), (122, (1, 124, 8, 0, 0), 0), (124, (14, 125, 0, 0, 0), 0), (125, (12, 126, 0, 0, 0), 0),
  (126, (10, 127, 0, 0, 0), 0), (127, (1, 129, 8, 0, 0), 0), (129, (8, 130, 0, 0, 0), 0), (130, (44, 131, 0, 0, 0), 0), (131, (8, 132, 0, 0, 0), 0), (132, (1, 133, 2, 0, 0), 0),
  (133, (1, 135, 6, 0, 0), 0), (135, (9, 136, 0, 0, 0), 0), (136, (34, 139, 143, 1, 0), 0), (139, (0, 140, 0, 0, 1), 0), (140, (35, 143, 144, 0, 0), 0), (143, (0, 144, 0, 0, 0), 0),
  (144, (4, 146, 9, 0, 0), 0), (146, (1, 148, 9, 0, 0), 0), (148, (33, 151, 156, 0, 0), 0), (151, (1, 153, 8, 0, 0), 0), (153, (35, 156, 158, 0, 0), 0), (156, (1, 158, 7, 0, 0), 0),
  (158, (4, 160, 7, 0, 0), 0), (160, (7, 163, 8, 0, -1), 0), (163, (35, 166, 73, 0, 0), 0), (166, (1, 168, 7, 0, 0), 0), (168, (4, 170, 5, 0, 0), 0), (170, (1, 172, 7, 0, 0), 0),
  (172, (0, 174, 0, 0, -1000000), 1075), (174, (34, 177, 196, 0, 0), 0), (177, (1, 178, 3, 0, 0), 0), (178, (0, 179, 0, 0, 1), 0), (179, (1, 181, 7, 0, 0), 0), (181, (14, 182, 0, 0, 0), 0),
  (182, (12, 183, 0, 0, 0), 0), (183, (4, 184, 3, 0, 0), 0), (184, (2, 185, 0, 0, 0), 0), (185, (39, 188, 10, 2, 0), 849), (188, (0, 190, 0, 0, 16), 0), (190, (1, 192, 7, 0, 0), 0),
  (192, (8, 193, 0, 0, 0), 0), (193, (44, 194, 0, 0, 0), 0), (194, (4, 196, 4, 0, 0), 0), (196, (7, 199, 6, 0, 1), 0), (199, (35, 202, 53, 0, 0), 0), (202, (1, 204, 5, 0, 0), 0),
  (204, (55, 205, 0, 0, 0), 0)]
def pg_158 : List PRow := [(0, (0, 1, 0, 0, 0), 0), (1, (4, 2, 1, 0, 0), 0), (2, (0, 3, 0, 0, 0), 0), (3, (4, 4, 2, 0, 0), 0), (4, (1, 5, 2, 0, 0), 0), (5, (0, 7, 0, 0, 8), 0),
  (7, (34, 10, 24, 3, 0), 0), (10, (1, 11, 1, 0, 0), 0), (11, (1, 12, 0, 0, 0), 0), (12, (1, 13, 2, 0, 0), 0), (13, (15, 14, 0, 0, 0), 0), (14, (0, 15, 0, 0, 1), 0),
  (15, (11, 16, 0, 0, 0), 0), (16, (8, 17, 0, 0, 0), 0), (17, (4, 18, 1, 0, 0), 0), (18, (7, 21, 2, 0, 1), 0), (21, (35, 24, 4, 0, 0), 0), (24, (1, 25, 1, 0, 0), 0),
  (25, (55, 26, 0, 0, 0), 0)]
def pg_159 : List PRow := [(0, (2, 1, 0, 0, 0), 0), (1, (53, 4, 110, 0, 0), 1063), (4, (33, 7, 10, 1, 0), 0), (7, (0, 9, 0, 0, -1000002), 1042), (9, (55, 10, 0, 0, 0), 0), (10, (1, 11, 1, 0, 0), 0),
  (11, (0, 12, 0, 0, 0), 0), (12, (0, 13, 0, 0, 1), 0), (13, (2, 14, 0, 0, 0), 0), (14, (39, 17, 10, 2, 0), 849), (17, (0, 18, 0, 0, 2), 0), (18, (44, 19, 0, 0, 0), 0),
  (19, (14, 20, 0, 0, 0), 0), (20, (0, 21, 0, 0, 1), 0), (21, (9, 22, 0, 0, 0), 0), (22, (52, 25, 109, 3, 0), 844), (25, (33, 28, 37, 0, 0), 0), (28, (1, 29, 2, 0, 0), 0),
  (29, (0, 30, 0, 0, 0), 0), (30, (0, 31, 0, 0, 1), 0), (31, (52, 34, 109, 3, 0), 844), (34, (33, 37, 40, 1, 0), 0), (37, (0, 39, 0, 0, -1000001), 940), (39, (55, 40, 0, 0, 0), 0),
  (40, (0, 41, 0, 0, 1), 0), (41, (2, 42, 0, 0, 0), 0), (42, (39, 45, 10, 2, 0), 849), (45, (0, 46, 0, 0, 1), 0), (46, (44, 47, 0, 0, 0), 0), (47, (14, 48, 0, 0, 0), 0),
  (48, (0, 49, 0, 0, 1), 0), (49, (9, 50, 0, 0, 0), 0), (50, (4, 51, 3, 0, 0), 0), (51, (1, 52, 3, 0, 0), 0), (52, (4, 54, 4, 0, 0), 0), (54, (1, 56, 4, 0, 0), 0),
  (56, (33, 59, 153, 2, 0), 0), (59, (1, 61, 4, 0, 0), 0), (61, (52, 64, 158, 1, 0), 1128), (64, (1, 65, 3, 0, 0), 0), (65, (52, 68, 158, 1, 0), 1128), (68, (34, 71, 75, 4, 0), 0),
  (71, (0, 72, 0, 0, 1), 0), (72, (35, 75, 76, 0, 0), 0), (75, (0, 76, 0, 0, 0), 0), (76, (4, 78, 5, 0, 0), 0), (78, (0, 79, 0, 0, 0), 0), (79, (4, 81, 6, 0, 0), 0),
  (81, (1, 83, 6, 0, 0), 0), (83, (2, 84, 0, 0, 0), 0), (84, (39, 87, 10, 2, 0), 849), (87, (0, 88, 0, 0, 2), 0), (88, (44, 89, 0, 0, 0), 0), (89, (34, 92, 135, 3, 0), 0),
  (92, (1, 94, 5, 0, 0), 0), (94, (33, 97, 126, 0, 0), 0), (97, (1, 98, 1, 0, 0), 0), (98, (1, 100, 6, 0, 0), 0), (100, (15, 101, 0, 0, 0), 0), (101, (0, 102, 0, 0, 1), 0),
  (102, (11, 103, 0, 0, 0), 0), (103, (33, 106, 122, 0, 0), 0), (106, (2, 107, 0, 0, 0), 0), (107, (39, 110, 10, 2, 0), 849), (110, (0, 112, 0, 0, 24), 0), (112, (1, 114, 6, 0, 0), 0),
  (114, (8, 115, 0, 0, 0), 0), (115, (44, 116, 0, 0, 0), 0), (116, (1, 118, 4, 0, 0), 0), (118, (11, 119, 0, 0, 0), 0), (119, (33, 122, 126, 0, 0), 0), (122, (0, 123, 0, 0, 1), 0),
  (123, (35, 126, 127, 0, 0), 0), (126, (0, 127, 0, 0, 0), 0), (127, (4, 129, 5, 0, 0), 0), (129, (7, 132, 6, 0, 1), 0), (132, (35, 135, 81, 0, 0), 0), (135, (1, 137, 5, 0, 0), 0),
  (137, (33, 140, 145, 0, 0), 0), (140, (1, 142, 4, 0, 0), 0), (142, (35, 145, 146, 0, 0), 0), (145, (1, 146, 3, 0, 0), 0), (146, (4, 147, 3, 0, 0), 0), (147, (7, 150, 4, 0, -1), 0),
  (150, (35, 153, 54, 0, 0), 0), (153, (1, 154, 2, 0, 0), 0), (154, (33, 157, 164, 1, 0), 0), (157, (1, 158, 3, 0, 0), 0), (158, (52, 161, 158, 1, 0), 1128), (161, (35, 164, 165, 0, 0), 0),
  (164, (1, 165, 3, 0, 0), 0), (165, (55, 166, 0, 0, 0), 0)]
def pg_160 : List PRow := [(0, (2, 1, 0, 0, 0), 0), (1, (53, 4, 110, 0, 0), 1063), (4, (33, 7, 10, 1, 0), 0), (7, (0, 9, 0, 0, -1000002), 1042), (9, (55, 10, 0, 0, 0), 0), (10, (1, 11, 1, 0, 0), 0),
  (11, (0, 12, 0, 0, 0), 0), (12, (0, 13, 0, 0, 1), 0), (13, (52, 16, 109, 3, 0), 844), (16, (33, 19, 22, 1, 0), 0), (19, (0, 21, 0, 0, -1000001), 940), (21, (55, 22, 0, 0, 0), 0),
  (22, (0, 24, 0, 0, -1000000), 1075), (24, (4, 25, 2, 0, 0), 0), (25, (0, 27, 0, 0, -1000000), 1075), (27, (4, 28, 3, 0, 0), 0), (28, (0, 29, 0, 0, 0), 0), (29, (4, 31, 4, 0, 0), 0),
  (31, (1, 33, 4, 0, 0), 0), (33, (2, 34, 0, 0, 0), 0), (34, (39, 37, 10, 2, 0), 849), (37, (0, 38, 0, 0, 1), 0), (38, (44, 39, 0, 0, 0), 0), (39, (34, 42, 140, 3, 0), 0),
  (42, (0, 43, 0, 0, 0), 0), (43, (4, 45, 5, 0, 0), 0), (45, (0, 46, 0, 0, 0), 0), (46, (4, 48, 6, 0, 0), 0), (48, (1, 50, 6, 0, 0), 0), (50, (2, 51, 0, 0, 0), 0),
  (51, (39, 54, 10, 2, 0), 849), (54, (0, 55, 0, 0, 2), 0), (55, (44, 56, 0, 0, 0), 0), (56, (34, 59, 91, 3, 0), 0), (59, (1, 61, 5, 0, 0), 0), (61, (2, 62, 0, 0, 0), 0),
  (62, (1, 64, 6, 0, 0), 0), (64, (53, 67, 147, 1, 0), 1084), (67, (0, 68, 0, 0, 1), 0), (68, (1, 70, 4, 0, 0), 0), (70, (14, 71, 0, 0, 0), 0), (71, (0, 72, 0, 0, -1), 0),
  (72, (13, 73, 0, 0, 0), 0), (73, (11, 74, 0, 0, 0), 0), (74, (33, 77, 81, 0, 0), 0), (77, (0, 78, 0, 0, 1), 0), (78, (35, 81, 82, 0, 0), 0), (81, (0, 82, 0, 0, 0), 0),
  (82, (8, 83, 0, 0, 0), 0), (83, (4, 85, 5, 0, 0), 0), (85, (7, 88, 6, 0, 1), 0), (88, (35, 91, 48, 0, 0), 0), (91, (1, 92, 2, 0, 0), 0), (92, (0, 94, 0, 0, -1000000), 1075),
  (94, (34, 97, 103, 0, 0), 0), (97, (1, 99, 5, 0, 0), 0), (99, (1, 100, 3, 0, 0), 0), (100, (34, 103, 107, 3, 0), 0), (103, (0, 104, 0, 0, 1), 0), (104, (35, 107, 108, 0, 0), 0),
  (107, (0, 108, 0, 0, 0), 0), (108, (4, 110, 6, 0, 0), 0), (110, (1, 112, 6, 0, 0), 0), (112, (33, 115, 120, 0, 0), 0), (115, (1, 117, 4, 0, 0), 0), (117, (35, 120, 121, 0, 0), 0),
  (120, (1, 121, 2, 0, 0), 0), (121, (4, 122, 2, 0, 0), 0), (122, (1, 124, 6, 0, 0), 0), (124, (33, 127, 132, 0, 0), 0), (127, (1, 129, 5, 0, 0), 0), (129, (35, 132, 133, 0, 0), 0),
  (132, (1, 133, 3, 0, 0), 0), (133, (4, 134, 3, 0, 0), 0), (134, (7, 137, 4, 0, 1), 0), (137, (35, 140, 31, 0, 0), 0), (140, (1, 141, 1, 0, 0), 0), (141, (33, 144, 148, 1, 0), 0),
  (144, (1, 145, 2, 0, 0), 0), (145, (35, 148, 149, 0, 0), 0), (148, (1, 149, 3, 0, 0), 0), (149, (55, 150, 0, 0, 0), 0)]
def pg_161 : List PRow := [(0, (2, 1, 0, 0, 0), 0), (1, (53, 4, 110, 0, 0), 1063), (4, (33, 7, 10, 1, 0), 0), (7, (0, 9, 0, 0, -1000002), 1042), (9, (55, 10, 0, 0, 0), 0), (10, (1, 11, 1, 0, 0), 0),
  (11, (0, 12, 0, 0, 0), 0), (12, (0, 13, 0, 0, 1), 0), (13, (2, 14, 0, 0, 0), 0), (14, (39, 17, 10, 2, 0), 849), (17, (0, 18, 0, 0, 1), 0), (18, (44, 19, 0, 0, 0), 0),
  (19, (14, 20, 0, 0, 0), 0), (20, (0, 21, 0, 0, 1), 0), (21, (9, 22, 0, 0, 0), 0), (22, (52, 25, 109, 3, 0), 844), (25, (33, 28, 37, 0, 0), 0), (28, (1, 29, 2, 0, 0), 0),
  (29, (0, 30, 0, 0, 0), 0), (30, (0, 31, 0, 0, 1), 0), (31, (52, 34, 109, 3, 0), 844), (34, (33, 37, 40, 1, 0), 0), (37, (0, 39, 0, 0, -1000001), 940), (39, (55, 40, 0, 0, 0), 0),
  (40, (0, 41, 0, 0, 0), 0), (41, (4, 42, 3, 0, 0), 0), (42, (0, 44, 0, 0, -1000000), 1075), (44, (4, 46, 4, 0, 0), 0), (46, (0, 47, 0, 0, 0), 0), (47, (4, 49, 5, 0, 0), 0),
  (49, (1, 51, 5, 0, 0), 0), (51, (0, 52, 0, 0, 1), 0), (52, (2, 53, 0, 0, 0), 0), (53, (39, 56, 10, 2, 0), 849), (56, (0, 57, 0, 0, 2), 0), (57, (44, 58, 0, 0, 0), 0),
  (58, (14, 59, 0, 0, 0), 0), (59, (34, 62, 259, 3, 0), 0), (62, (1, 64, 5, 0, 0), 0), (64, (52, 67, 158, 1, 0), 1128), (67, (0, 68, 0, 0, 1), 0), (68, (9, 69, 0, 0, 0), 0),
  (69, (4, 71, 6, 0, 0), 0), (71, (0, 72, 0, 0, -1), 0), (72, (4, 74, 7, 0, 0), 0), (74, (0, 75, 0, 0, 0), 0), (75, (4, 77, 8, 0, 0), 0), (77, (0, 78, 0, 0, 0), 0),
  (78, (4, 80, 9, 0, 0), 0), (80, (1, 82, 9, 0, 0), 0), (82, (2, 83, 0, 0, 0), 0), (83, (39, 86, 10, 2, 0), 849), (86, (0, 87, 0, 0, 1), 0), (87, (44, 88, 0, 0, 0), 0),
  (88, (34, 91, 150, 3, 0), 0), (91, (1, 92, 1, 0, 0), 0), (92, (1, 94, 9, 0, 0), 0), (94, (15, 95, 0, 0, 0), 0), (95, (0, 96, 0, 0, 1), 0), (96, (11, 97, 0, 0, 0), 0),
  (97, (0, 98, 0, 0, 1), 0), (98, (34, 101, 105, 1, 0), 0), (101, (0, 102, 0, 0, 1), 0), (102, (35, 105, 106, 0, 0), 0), (105, (0, 106, 0, 0, 0), 0), (106, (4, 108, 10, 0, 0), 0),
  (108, (1, 110, 10, 0, 0), 0), (110, (33, 113, 125, 0, 0), 0), (113, (1, 115, 8, 0, 0), 0), (115, (1, 117, 6, 0, 0), 0), (117, (34, 120, 125, 1, 0), 0), (120, (1, 122, 9, 0, 0), 0),
  (122, (35, 125, 127, 0, 0), 0), (125, (1, 127, 7, 0, 0), 0), (127, (4, 129, 7, 0, 0), 0), (129, (1, 131, 8, 0, 0), 0), (131, (1, 133, 10, 0, 0), 0), (133, (33, 136, 140, 0, 0), 0),
  (136, (0, 137, 0, 0, 1), 0), (137, (35, 140, 141, 0, 0), 0), (140, (0, 141, 0, 0, 0), 0), (141, (8, 142, 0, 0, 0), 0), (142, (4, 144, 8, 0, 0), 0), (144, (7, 147, 9, 0, 1), 0),
  (147, (35, 150, 80, 0, 0), 0), (150, (1, 152, 5, 0, 0), 0), (152, (33, 155, 159, 1, 0), 0), (155, (0, 156, 0, 0, 1), 0), (156, (35, 159, 160, 0, 0), 0), (159, (0, 160, 0, 0, 0), 0),
  (160, (4, 162, 9, 0, 0), 0), (162, (0, 163, 0, 0, 0), 0), (163, (4, 165, 10, 0, 0), 0), (165, (1, 167, 10, 0, 0), 0), (167, (2, 168, 0, 0, 0), 0), (168, (39, 171, 10, 2, 0), 849),
  (171, (0, 172, 0, 0, 2), 0), (172, (44, 173, 0, 0, 0), 0), (173, (34, 176, 244, 3, 0), 0), (176, (1, 178, 7, 0, 0), 0), (178, (33, 181, 244, 2, 0), 0), (181, (1, 183, 9, 0, 0), 0),
  (183, (33, 186, 231, 1, 0), 0), (186, (1, 188, 5, 0, 0), 0), (188, (1, 190, 10, 0, 0), 0), (190, (15, 191, 0, 0, 0), 0), (191, (0, 192, 0, 0, 1), 0), (192, (11, 193, 0, 0, 0), 0),
  (193, (0, 194, 0, 0, 1), 0), (194, (34, 197, 235, 1, 0), 0), (197, (2, 198, 0, 0, 0), 0), (198, (39, 201, 10, 2, 0), 849), (201, (0, 203, 0, 0, 24), 0), (203, (1, 205, 10, 0, 0), 0),
  (205, (8, 206, 0, 0, 0), 0), (206, (44, 207, 0, 0, 0), 0), (207, (1, 209, 7, 0, 0), 0), (209, (15, 210, 0, 0, 0), 0), (210, (0, 211, 0, 0, 1), 0), (211, (11, 212, 0, 0, 0), 0),
  (212, (0, 213, 0, 0, 1), 0), (213, (34, 216, 235, 1, 0), 0), (216, (2, 217, 0, 0, 0), 0), (217, (39, 220, 10, 26, 0), 873), (220, (1, 222, 5, 0, 0), 0), (222, (0, 223, 0, 0, 1), 0),
  (223, (1, 225, 10, 0, 0), 0), (225, (14, 226, 0, 0, 0), 0), (226, (13, 227, 0, 0, 0), 0), (227, (46, 228, 0, 0, 0), 0), (228, (33, 231, 235, 0, 0), 0), (231, (0, 232, 0, 0, 1), 0),
  (232, (35, 235, 236, 0, 0), 0), (235, (0, 236, 0, 0, 0), 0), (236, (4, 238, 9, 0, 0), 0), (238, (7, 241, 10, 0, 1), 0), (241, (35, 244, 165, 0, 0), 0), (244, (2, 245, 0, 0, 0), 0),
  (245, (39, 248, 10, 26, 0), 873), (248, (1, 250, 5, 0, 0), 0), (250, (1, 252, 9, 0, 0), 0), (252, (47, 253, 0, 0, 0), 0), (253, (7, 256, 5, 0, 1), 0), (256, (35, 259, 49, 0, 0), 0),
  (259, (0, 260, 0, 0, 1), 0), (260, (2, 261, 0, 0, 0), 0), (261, (39, 264, 10, 2, 0), 849), (264, (0, 265, 0, 0, 2), 0), (265, (44, 266, 0, 0, 0), 0), (266, (14, 267, 0, 0, 0), 0),
  (267, (0, 268, 0, 0, 1), 0), (268, (9, 269, 0, 0, 0), 0), (269, (4, 271, 5, 0, 0), 0), (271, (1, 273, 5, 0, 0), 0), (273, (33, 276, 338, 2, 0), 0), (276, (2, 277, 0, 0, 0), 0),
  (277, (39, 280, 10, 26, 0), 873), (280, (1, 282, 5, 0, 0), 0), (282, (46, 283, 0, 0, 0), 0), (283, (33, 286, 302, 0, 0), 0), (286, (1, 288, 5, 0, 0), 0), (288, (52, 291, 158, 1, 0), 1128),
  (291, (1, 292, 1, 0, 0), 0), (292, (52, 295, 158, 1, 0), 1128), (295, (34, 298, 302, 1, 0), 0), (298, (0, 299, 0, 0, 1), 0), (299, (35, 302, 303, 0, 0), 0), (302, (0, 303, 0, 0, 0), 0),
  (303, (4, 305, 6, 0, 0), 0), (305, (1, 306, 3, 0, 0), 0), (306, (1, 308, 6, 0, 0), 0), (308, (33, 311, 315, 0, 0), 0), (311, (0, 312, 0, 0, 1), 0), (312, (35, 315, 316, 0, 0), 0),
  (315, (0, 316, 0, 0, 0), 0), (316, (8, 317, 0, 0, 0), 0), (317, (4, 318, 3, 0, 0), 0), (318, (1, 320, 6, 0, 0), 0), (320, (33, 323, 328, 0, 0), 0), (323, (1, 325, 5, 0, 0), 0),
  (325, (35, 328, 330, 0, 0), 0), (328, (1, 330, 4, 0, 0), 0), (330, (4, 332, 4, 0, 0), 0), (332, (7, 335, 5, 0, -1), 0), (335, (35, 338, 271, 0, 0), 0), (338, (1, 339, 2, 0, 0), 0),
  (339, (33, 342, 346, 1, 0), 0), (342, (1, 343, 3, 0, 0), 0), (343, (35, 346, 348, 0, 0), 0), (346, (1, 348, 4, 0, 0), 0), (348, (55, 349, 0, 0, 0), 0)]
def pg_162 : List PRow := [(0, (1, 1, 2, 0, 0), 0), (1, (33, 4, 6, 1, 0), 0), (4, (0, 5, 0, 0, 1), 0), (5, (55, 6, 0, 0, 0), 0), (6, (0, 7, 0, 0, 0), 0), (7, (4, 8, 3, 0, 0), 0),
  (8, (2, 9, 0, 0, 0), 0), (9, (0, 10, 0, 0, 0), 0), (10, (53, 13, 150, 1, 0), 1104), (13, (0, 14, 0, 0, 0), 0), (14, (4, 16, 4, 0, 0), 0), (16, (2, 17, 0, 0, 0), 0),
  (17, (39, 20, 10, 22, 0), 869), (20, (0, 21, 0, 0, 0), 0), (21, (0, 22, 0, 0, -1), 0), (22, (45, 23, 0, 0, 0), 0), (23, (1, 25, 4, 0, 0), 0), (25, (33, 28, 149, 2, 0), 0),
  (28, (2, 29, 0, 0, 0), 0), (29, (39, 32, 10, 22, 0), 869), (32, (1, 34, 4, 0, 0), 0), (34, (32, 35, 0, 0, 0), 0), (35, (44, 36, 0, 0, 0), 0), (36, (0, 37, 0, 0, 1), 0),
  (37, (8, 38, 0, 0, 0), 0), (38, (45, 39, 0, 0, 0), 0), (39, (2, 40, 0, 0, 0), 0), (40, (39, 43, 10, 22, 0), 869), (43, (1, 45, 4, 0, 0), 0), (45, (44, 46, 0, 0, 0), 0),
  (46, (2, 47, 0, 0, 0), 0), (47, (39, 50, 10, 2, 0), 849), (50, (0, 51, 0, 0, 1), 0), (51, (44, 52, 0, 0, 0), 0), (52, (34, 55, 72, 2, 0), 0), (55, (7, 58, 4, 0, -1), 0),
  (58, (1, 60, 4, 0, 0), 0), (60, (33, 63, 23, 2, 0), 0), (63, (2, 64, 0, 0, 0), 0), (64, (1, 66, 4, 0, 0), 0), (66, (53, 69, 151, 1, 0), 1108), (69, (35, 72, 23, 0, 0), 0),
  (72, (2, 73, 0, 0, 0), 0), (73, (2, 74, 0, 0, 0), 0), (74, (39, 77, 10, 10, 0), 857), (77, (1, 78, 1, 0, 0), 0), (78, (1, 80, 4, 0, 0), 0), (80, (8, 81, 0, 0, 0), 0),
  (81, (44, 82, 0, 0, 0), 0), (82, (2, 83, 0, 0, 0), 0), (83, (39, 86, 10, 22, 0), 869), (86, (1, 88, 4, 0, 0), 0), (88, (44, 89, 0, 0, 0), 0), (89, (53, 92, 138, 2, 0), 1022),
  (92, (33, 95, 23, 0, 0), 0), (95, (1, 97, 4, 0, 0), 0), (97, (0, 98, 0, 0, 1), 0), (98, (8, 99, 0, 0, 0), 0), (99, (1, 100, 2, 0, 0), 0), (100, (34, 103, 109, 1, 0), 0),
  (103, (7, 106, 3, 0, 1), 0), (106, (35, 109, 23, 0, 0), 0), (109, (2, 110, 0, 0, 0), 0), (110, (2, 111, 0, 0, 0), 0), (111, (39, 114, 10, 10, 0), 857), (114, (1, 115, 1, 0, 0), 0),
  (115, (1, 117, 4, 0, 0), 0), (117, (8, 118, 0, 0, 0), 0), (118, (44, 119, 0, 0, 0), 0), (119, (2, 120, 0, 0, 0), 0), (120, (39, 123, 10, 22, 0), 869), (123, (1, 125, 4, 0, 0), 0),
  (125, (44, 126, 0, 0, 0), 0), (126, (53, 129, 139, 2, 0), 1047), (129, (7, 132, 4, 0, 1), 0), (132, (2, 133, 0, 0, 0), 0), (133, (1, 135, 4, 0, 0), 0), (135, (53, 138, 150, 1, 0), 1104),
  (138, (2, 139, 0, 0, 0), 0), (139, (39, 142, 10, 22, 0), 869), (142, (1, 144, 4, 0, 0), 0), (144, (0, 145, 0, 0, -1), 0), (145, (45, 146, 0, 0, 0), 0), (146, (35, 149, 23, 0, 0), 0),
  (149, (1, 150, 3, 0, 0), 0), (150, (55, 151, 0, 0, 0), 0)]
def pg_163 : List PRow := [(0, (2, 1, 0, 0, 0), 0), (1, (53, 4, 110, 0, 0), 1063), (4, (33, 7, 10, 1, 0), 0), (7, (0, 9, 0, 0, -1000002), 1042), (9, (55, 10, 0, 0, 0), 0), (10, (1, 11, 1, 0, 0), 0),
  (11, (52, 14, 113, 1, 0), 937), (14, (33, 17, 26, 0, 0), 0), (17, (1, 18, 3, 0, 0), 0), (18, (0, 19, 0, 0, 0), 0), (19, (0, 20, 0, 0, 5), 0), (20, (52, 23, 109, 3, 0), 844),
  (23, (33, 26, 29, 1, 0), 0), (26, (0, 28, 0, 0, -1000001), 940), (28, (55, 29, 0, 0, 0), 0), (29, (2, 30, 0, 0, 0), 0), (30, (39, 33, 10, 8, 0), 855), (33, (1, 34, 1, 0, 0), 0),
  (34, (44, 35, 0, 0, 0), 0), (35, (33, 38, 44, 1, 0), 0), (38, (2, 39, 0, 0, 0), 0), (39, (0, 40, 0, 0, 1), 0), (40, (53, 43, 114, 1, 0), 941), (43, (55, 44, 0, 0, 0), 0),
  (44, (1, 45, 2, 0, 0), 0), (45, (1, 46, 3, 0, 0), 0), (46, (2, 47, 0, 0, 0), 0), (47, (39, 50, 10, 9, 0), 856), (50, (1, 51, 1, 0, 0), 0), (51, (44, 52, 0, 0, 0), 0),
  (52, (52, 55, 117, 3, 0), 954), (55, (33, 58, 64, 0, 0), 0), (58, (2, 59, 0, 0, 0), 0), (59, (0, 60, 0, 0, 2), 0), (60, (53, 63, 114, 1, 0), 941), (63, (55, 64, 0, 0, 0), 0),
  (64, (0, 66, 0, 0, 40), 0), (66, (1, 67, 1, 0, 0), 0), (67, (10, 68, 0, 0, 0), 0), (68, (1, 69, 2, 0, 0), 0), (69, (8, 70, 0, 0, 0), 0), (70, (4, 72, 4, 0, 0), 0),
  (72, (0, 73, 0, 0, 0), 0), (73, (4, 75, 5, 0, 0), 0), (75, (0, 76, 0, 0, 0), 0), (76, (4, 78, 6, 0, 0), 0), (78, (1, 80, 6, 0, 0), 0), (80, (1, 81, 3, 0, 0), 0),
  (81, (34, 84, 134, 3, 0), 0), (84, (2, 85, 0, 0, 0), 0), (85, (39, 88, 10, 10, 0), 857), (88, (1, 90, 4, 0, 0), 0), (90, (1, 92, 6, 0, 0), 0), (92, (8, 93, 0, 0, 0), 0),
  (93, (44, 94, 0, 0, 0), 0), (94, (4, 96, 7, 0, 0), 0), (96, (2, 97, 0, 0, 0), 0), (97, (1, 99, 7, 0, 0), 0), (99, (53, 102, 112, 1, 0), 1014), (102, (33, 105, 116, 0, 0), 0),
  (105, (1, 107, 5, 0, 0), 0), (107, (1, 109, 7, 0, 0), 0), (109, (15, 110, 0, 0, 0), 0), (110, (0, 111, 0, 0, 1), 0), (111, (11, 112, 0, 0, 0), 0), (112, (0, 113, 0, 0, 1), 0),
  (113, (34, 116, 119, 1, 0), 0), (116, (0, 118, 0, 0, -1000001), 940), (118, (55, 119, 0, 0, 0), 0), (119, (1, 121, 5, 0, 0), 0), (121, (0, 122, 0, 0, 1), 0), (122, (1, 124, 7, 0, 0), 0),
  (124, (14, 125, 0, 0, 0), 0), (125, (12, 126, 0, 0, 0), 0), (126, (4, 128, 5, 0, 0), 0), (128, (7, 131, 6, 0, 1), 0), (131, (35, 134, 78, 0, 0), 0), (134, (2, 135, 0, 0, 0), 0),
  (135, (0, 136, 0, 0, 0), 0), (136, (40, 139, 10, 13, 0), 860), (139, (2, 140, 0, 0, 0), 0), (140, (53, 143, 126, 0, 0), 840), (143, (0, 144, 0, 0, 0), 0), (144, (4, 146, 6, 0, 0), 0),
  (146, (1, 148, 6, 0, 0), 0), (148, (0, 150, 0, 0, 24), 0), (150, (34, 153, 196, 3, 0), 0), (153, (2, 154, 0, 0, 0), 0), (154, (39, 157, 10, 27, 0), 874), (157, (1, 159, 6, 0, 0), 0),
  (159, (2, 160, 0, 0, 0), 0), (160, (39, 163, 10, 2, 0), 849), (163, (0, 165, 0, 0, 29), 0), (165, (1, 167, 6, 0, 0), 0), (167, (8, 168, 0, 0, 0), 0), (168, (44, 169, 0, 0, 0), 0),
  (169, (45, 170, 0, 0, 0), 0), (170, (2, 171, 0, 0, 0), 0), (171, (39, 174, 10, 2, 0), 849), (174, (0, 176, 0, 0, 29), 0), (176, (1, 178, 6, 0, 0), 0), (178, (8, 179, 0, 0, 0), 0),
  (179, (2, 180, 0, 0, 0), 0), (180, (39, 183, 10, 3, 0), 850), (183, (0, 185, 0, 0, 29), 0), (185, (1, 187, 6, 0, 0), 0), (187, (8, 188, 0, 0, 0), 0), (188, (44, 189, 0, 0, 0), 0),
  (189, (45, 190, 0, 0, 0), 0), (190, (7, 193, 6, 0, 1), 0), (193, (35, 196, 146, 0, 0), 0), (196, (2, 197, 0, 0, 0), 0), (197, (1, 199, 4, 0, 0), 0), (199, (1, 200, 3, 0, 0), 0),
  (200, (53, 203, 162, 2, 0), 1143), (203, (4, 205, 6, 0, 0), 0), (205, (0, 206, 0, 0, 0), 0), (206, (4, 208, 7, 0, 0), 0), (208, (1, 210, 7, 0, 0), 0), (210, (0, 212, 0, 0, 24), 0),
  (212, (34, 215, 238, 3, 0), 0), (215, (2, 216, 0, 0, 0), 0), (216, (39, 219, 10, 2, 0), 849), (219, (0, 221, 0, 0, 29), 0), (221, (1, 223, 7, 0, 0), 0), (223, (8, 224, 0, 0, 0), 0),
  (224, (2, 225, 0, 0, 0), 0), (225, (39, 228, 10, 27, 0), 874), (228, (1, 230, 7, 0, 0), 0), (230, (44, 231, 0, 0, 0), 0), (231, (45, 232, 0, 0, 0), 0), (232, (7, 235, 7, 0, 1), 0),
  (235, (35, 238, 208, 0, 0), 0), (238, (1, 240, 6, 0, 0), 0), (240, (55, 241, 0, 0, 0), 0)]
def pg_164 : List PRow := [(0, (1, 1, 1, 0, 0), 0), (1, (0, 2, 0, 0, 0), 0), (2, (0, 3, 0, 0, 1), 0), (3, (52, 6, 109, 3, 0), 844), (6, (33, 9, 12, 1, 0), 0), (9, (0, 11, 0, 0, -1000001), 940),
  (11, (55, 12, 0, 0, 0), 0), (12, (2, 13, 0, 0, 0), 0), (13, (53, 16, 110, 0, 0), 1063), (16, (33, 19, 22, 1, 0), 0), (19, (0, 21, 0, 0, -1000002), 1042), (21, (55, 22, 0, 0, 0), 0),
  (22, (0, 23, 0, 0, 0), 0), (23, (4, 24, 2, 0, 0), 0), (24, (1, 25, 2, 0, 0), 0), (25, (0, 27, 0, 0, 53), 0), (27, (34, 30, 53, 3, 0), 0), (30, (2, 31, 0, 0, 0), 0),
  (31, (39, 34, 10, 6, 0), 853), (34, (0, 36, 0, 0, 53), 0), (36, (1, 37, 1, 0, 0), 0), (37, (10, 38, 0, 0, 0), 0), (38, (1, 39, 2, 0, 0), 0), (39, (8, 40, 0, 0, 0), 0),
  (40, (2, 41, 0, 0, 0), 0), (41, (39, 44, 10, 2, 0), 849), (44, (1, 45, 2, 0, 0), 0), (45, (44, 46, 0, 0, 0), 0), (46, (45, 47, 0, 0, 0), 0), (47, (7, 50, 2, 0, 1), 0),
  (50, (35, 53, 24, 0, 0), 0), (53, (2, 54, 0, 0, 0), 0), (54, (39, 57, 10, 7, 0), 854), (57, (1, 58, 1, 0, 0), 0), (58, (0, 59, 0, 0, 1), 0), (59, (47, 60, 0, 0, 0), 0),
  (60, (0, 61, 0, 0, 1), 0), (61, (55, 62, 0, 0, 0), 0)]
def pg_165 : List PRow := [(0, (1, 1, 1, 0, 0), 0), (1, (0, 2, 0, 0, 0), 0), (2, (0, 3, 0, 0, 1), 0), (3, (52, 6, 109, 3, 0), 844), (6, (33, 9, 12, 1, 0), 0), (9, (0, 11, 0, 0, -1000001), 940),
  (11, (55, 12, 0, 0, 0), 0), (12, (2, 13, 0, 0, 0), 0), (13, (39, 16, 10, 7, 0), 854), (16, (1, 17, 1, 0, 0), 0), (17, (46, 18, 0, 0, 0), 0), (18, (33, 21, 24, 1, 0), 0),
  (21, (0, 23, 0, 0, -1000002), 1042), (23, (55, 24, 0, 0, 0), 0), (24, (0, 25, 0, 0, 0), 0), (25, (4, 26, 2, 0, 0), 0), (26, (1, 27, 2, 0, 0), 0), (27, (0, 29, 0, 0, 53), 0),
  (29, (34, 32, 55, 3, 0), 0), (32, (2, 33, 0, 0, 0), 0), (33, (39, 36, 10, 2, 0), 849), (36, (1, 37, 2, 0, 0), 0), (37, (2, 38, 0, 0, 0), 0), (38, (39, 41, 10, 6, 0), 853),
  (41, (0, 43, 0, 0, 53), 0), (43, (1, 44, 1, 0, 0), 0), (44, (10, 45, 0, 0, 0), 0), (45, (1, 46, 2, 0, 0), 0), (46, (8, 47, 0, 0, 0), 0), (47, (44, 48, 0, 0, 0), 0),
  (48, (45, 49, 0, 0, 0), 0), (49, (7, 52, 2, 0, 1), 0), (52, (35, 55, 26, 0, 0), 0), (55, (2, 56, 0, 0, 0), 0), (56, (0, 57, 0, 0, 0), 0), (57, (40, 60, 10, 5, 0), 852),
  (60, (0, 61, 0, 0, 1), 0), (61, (55, 62, 0, 0, 0), 0)]
def pg_166 : List PRow := [(0, (2, 1, 0, 0, 0), 0), (1, (1, 2, 1, 0, 0), 0), (2, (53, 5, 111, 1, 0), 1018), (5, (33, 8, 20, 0, 0), 0), (8, (2, 9, 0, 0, 0), 0), (9, (39, 12, 10, 2, 0), 849),
  (12, (0, 14, 0, 0, 8), 0), (14, (1, 15, 1, 0, 0), 0), (15, (8, 16, 0, 0, 0), 0), (16, (44, 17, 0, 0, 0), 0), (17, (35, 20, 22, 0, 0), 0), (20, (0, 22, 0, 0, -1000001), 940),
  (22, (55, 23, 0, 0, 0), 0)]
def pg_167 : List PRow := [(0, (2, 1, 0, 0, 0), 0), (1, (1, 2, 1, 0, 0), 0), (2, (53, 5, 111, 1, 0), 1018), (5, (33, 8, 17, 0, 0), 0), (8, (1, 9, 2, 0, 0), 0), (9, (0, 10, 0, 0, 0), 0),
  (10, (0, 11, 0, 0, 5), 0), (11, (52, 14, 109, 3, 0), 844), (14, (33, 17, 20, 1, 0), 0), (17, (0, 19, 0, 0, -1000001), 940), (19, (55, 20, 0, 0, 0), 0), (20, (2, 21, 0, 0, 0), 0),
  (21, (39, 24, 10, 2, 0), 849), (24, (0, 26, 0, 0, 8), 0), (26, (1, 27, 1, 0, 0), 0), (27, (8, 28, 0, 0, 0), 0), (28, (44, 29, 0, 0, 0), 0), (29, (4, 30, 3, 0, 0), 0),
  (30, (1, 31, 2, 0, 0), 0), (31, (33, 34, 59, 0, 0), 0), (34, (1, 35, 2, 0, 0), 0), (35, (1, 36, 3, 0, 0), 0), (36, (34, 39, 59, 0, 0), 0), (39, (1, 40, 2, 0, 0), 0),
  (40, (0, 41, 0, 0, 1), 0), (41, (34, 44, 49, 1, 0), 0), (44, (1, 45, 3, 0, 0), 0), (45, (0, 46, 0, 0, 4), 0), (46, (34, 49, 59, 2, 0), 0), (49, (1, 50, 2, 0, 0), 0),
  (50, (0, 51, 0, 0, 4), 0), (51, (34, 54, 63, 1, 0), 0), (54, (1, 55, 3, 0, 0), 0), (55, (0, 56, 0, 0, 5), 0), (56, (34, 59, 63, 1, 0), 0), (59, (0, 60, 0, 0, 1), 0),
  (60, (35, 63, 64, 0, 0), 0), (63, (0, 64, 0, 0, 0), 0), (64, (4, 66, 4, 0, 0), 0), (66, (1, 68, 4, 0, 0), 0), (68, (33, 71, 77, 1, 0), 0), (71, (2, 72, 0, 0, 0), 0),
  (72, (0, 73, 0, 0, 3), 0), (73, (53, 76, 114, 1, 0), 941), (76, (55, 77, 0, 0, 0), 0), (77, (2, 78, 0, 0, 0), 0), (78, (0, 79, 0, 0, 0), 0), (79, (40, 82, 10, 13, 0), 860),
  (82, (1, 83, 1, 0, 0), 0), (83, (55, 84, 0, 0, 0), 0)]
def pg_168 : List PRow := [(0, (2, 1, 0, 0, 0), 0), (1, (37, 4, 10, 12, 0), 859), (4, (0, 6, 0, 0, 16), 0), (6, (34, 9, 29, 3, 0), 0), (9, (2, 10, 0, 0, 0), 0), (10, (39, 13, 10, 11, 0), 858),
  (13, (2, 14, 0, 0, 0), 0), (14, (37, 17, 10, 12, 0), 859), (17, (1, 18, 1, 0, 0), 0), (18, (45, 19, 0, 0, 0), 0), (19, (2, 20, 0, 0, 0), 0), (20, (31, 21, 0, 0, 0), 0),
  (21, (37, 24, 10, 12, 0), 859), (24, (0, 25, 0, 0, 1), 0), (25, (8, 26, 0, 0, 0), 0), (26, (40, 29, 10, 12, 0), 859), (29, (57, 30, 0, 0, 0), 0)]
def pg_169 : List PRow := [(0, (2, 1, 0, 0, 0), 0), (1, (0, 3, 0, 0, 10), 0), (3, (53, 6, 168, 1, 0), 1175), (6, (2, 7, 0, 0, 0), 0), (7, (39, 10, 10, 2, 0), 849), (10, (0, 12, 0, 0, 40), 0),
  (12, (1, 13, 1, 0, 0), 0), (13, (8, 14, 0, 0, 0), 0), (14, (44, 15, 0, 0, 0), 0), (15, (55, 16, 0, 0, 0), 0)]
def pg_170 : List PRow := [(0, (2, 1, 0, 0, 0), 0), (1, (0, 3, 0, 0, 20), 0), (3, (53, 6, 168, 1, 0), 1175), (6, (1, 7, 1, 0, 0), 0), (7, (55, 8, 0, 0, 0), 0)]
def pg_171 : List PRow := [(0, (2, 1, 0, 0, 0), 0), (1, (0, 3, 0, 0, 21), 0), (3, (53, 6, 168, 1, 0), 1175), (6, (2, 7, 0, 0, 0), 0), (7, (1, 8, 1, 0, 0), 0), (8, (53, 11, 170, 1, 0), 1199),
  (11, (2, 12, 0, 0, 0), 0), (12, (39, 15, 10, 2, 0), 849), (15, (0, 17, 0, 0, 16), 0), (17, (1, 18, 1, 0, 0), 0), (18, (8, 19, 0, 0, 0), 0), (19, (44, 20, 0, 0, 0), 0),
  (20, (8, 21, 0, 0, 0), 0), (21, (55, 22, 0, 0, 0), 0)]
def pg_172 : List PRow := [(0, (2, 1, 0, 0, 0), 0), (1, (0, 3, 0, 0, 13), 0), (3, (53, 6, 168, 1, 0), 1175), (6, (2, 7, 0, 0, 0), 0), (7, (1, 8, 1, 0, 0), 0), (8, (53, 11, 169, 1, 0), 1183),
  (11, (0, 13, 0, 0, 100), 0), (13, (9, 14, 0, 0, 0), 0), (14, (55, 15, 0, 0, 0), 0)]
def pg_173 : List PRow := [(0, (2, 1, 0, 0, 0), 0), (1, (39, 4, 10, 2, 0), 849), (4, (0, 6, 0, 0, 8), 0), (6, (1, 7, 1, 0, 0), 0), (7, (8, 8, 0, 0, 0), 0), (8, (44, 9, 0, 0, 0), 0),
  (9, (4, 10, 2, 0, 0), 0), (10, (1, 11, 2, 0, 0), 0), (11, (0, 12, 0, 0, 2), 0), (12, (34, 15, 29, 1, 0), 0), (15, (2, 16, 0, 0, 0), 0), (16, (0, 18, 0, 0, 24), 0),
  (18, (53, 21, 168, 1, 0), 1175), (21, (0, 22, 0, 0, 2), 0), (22, (2, 23, 0, 0, 0), 0), (23, (1, 24, 1, 0, 0), 0), (24, (53, 27, 171, 1, 0), 1195), (27, (10, 28, 0, 0, 0), 0),
  (28, (55, 29, 0, 0, 0), 0), (29, (1, 30, 2, 0, 0), 0), (30, (0, 31, 0, 0, 3), 0), (31, (34, 34, 50, 1, 0), 0), (34, (2, 35, 0, 0, 0), 0), (35, (0, 37, 0, 0, 22), 0),
  (37, (53, 40, 168, 1, 0), 1175), (40, (2, 41, 0, 0, 0), 0), (41, (1, 42, 1, 0, 0), 0), (42, (53, 45, 171, 1, 0), 1195), (45, (0, 48, 0, 0, 1000), 0), (48, (9, 49, 0, 0, 0), 0),
  (49, (55, 50, 0, 0, 0), 0), (50, (2, 51, 0, 0, 0), 0), (51, (1, 52, 1, 0, 0), 0), (52, (53, 55, 171, 1, 0), 1195), (55, (55, 56, 0, 0, 0), 0)]
def pg_174 : List PRow := [(0, (2, 1, 0, 0, 0), 0), (1, (0, 3, 0, 0, 11), 0), (3, (53, 6, 168, 1, 0), 1175), (6, (2, 7, 0, 0, 0), 0), (7, (1, 8, 1, 0, 0), 0), (8, (53, 11, 169, 1, 0), 1183),
  (11, (4, 12, 2, 0, 0), 0), (12, (1, 13, 2, 0, 0), 0), (13, (2, 14, 0, 0, 0), 0), (14, (1, 15, 1, 0, 0), 0), (15, (53, 18, 173, 1, 0), 1191), (18, (8, 19, 0, 0, 0), 0),
  (19, (55, 20, 0, 0, 0), 0)]
def pg_175 : List PRow := [(0, (2, 1, 0, 0, 0), 0), (1, (39, 4, 10, 2, 0), 849), (4, (0, 6, 0, 0, 8), 0), (6, (1, 7, 1, 0, 0), 0), (7, (8, 8, 0, 0, 0), 0), (8, (44, 9, 0, 0, 0), 0),
  (9, (0, 10, 0, 0, 5), 0), (10, (34, 13, 27, 1, 0), 0), (13, (2, 14, 0, 0, 0), 0), (14, (0, 16, 0, 0, 14), 0), (16, (53, 19, 168, 1, 0), 1175), (19, (0, 20, 0, 0, 2), 0),
  (20, (2, 21, 0, 0, 0), 0), (21, (1, 22, 1, 0, 0), 0), (22, (53, 25, 172, 1, 0), 1179), (25, (10, 26, 0, 0, 0), 0), (26, (55, 27, 0, 0, 0), 0), (27, (2, 28, 0, 0, 0), 0),
  (28, (1, 29, 1, 0, 0), 0), (29, (53, 32, 172, 1, 0), 1179), (32, (55, 33, 0, 0, 0), 0)]
def pg_176 : List PRow := [(0, (2, 1, 0, 0, 0), 0), (1, (39, 4, 10, 2, 0), 849), (4, (0, 6, 0, 0, 8), 0), (6, (1, 7, 1, 0, 0), 0), (7, (8, 8, 0, 0, 0), 0), (8, (44, 9, 0, 0, 0), 0),
  (9, (4, 10, 2, 0, 0), 0), (10, (1, 11, 2, 0, 0), 0), (11, (0, 12, 0, 0, 4), 0), (12, (34, 15, 21, 2, 0), 0), (15, (2, 16, 0, 0, 0), 0), (16, (1, 17, 1, 0, 0), 0),
  (17, (53, 20, 175, 1, 0), 1171), (20, (55, 21, 0, 0, 0), 0), (21, (1, 22, 2, 0, 0), 0), (22, (0, 23, 0, 0, 2), 0), (23, (34, 26, 39, 1, 0), 0), (26, (2, 27, 0, 0, 0), 0),
  (27, (0, 29, 0, 0, 12), 0), (29, (53, 32, 168, 1, 0), 1175), (32, (2, 33, 0, 0, 0), 0), (33, (1, 34, 1, 0, 0), 0), (34, (53, 37, 174, 1, 0), 1187), (37, (19, 38, 0, 0, 0), 0),
  (38, (55, 39, 0, 0, 0), 0), (39, (2, 40, 0, 0, 0), 0), (40, (1, 41, 1, 0, 0), 0), (41, (53, 44, 174, 1, 0), 1187), (44, (55, 45, 0, 0, 0), 0)]
def pg_177 : List PRow := [(0, (2, 1, 0, 0, 0), 0), (1, (39, 4, 10, 2, 0), 849), (4, (0, 6, 0, 0, 8), 0), (6, (1, 7, 1, 0, 0), 0), (7, (8, 8, 0, 0, 0), 0), (8, (44, 9, 0, 0, 0), 0),
  (9, (0, 10, 0, 0, 4), 0), (10, (34, 13, 19, 3, 0), 0), (13, (2, 14, 0, 0, 0), 0), (14, (1, 15, 1, 0, 0), 0), (15, (53, 18, 173, 1, 0), 1191), (18, (55, 19, 0, 0, 0), 0),
  (19, (2, 20, 0, 0, 0), 0), (20, (0, 22, 0, 0, 23), 0), (22, (53, 25, 168, 1, 0), 1175), (25, (2, 26, 0, 0, 0), 0), (26, (1, 27, 1, 0, 0), 0), (27, (53, 30, 170, 1, 0), 1199),
  (30, (4, 31, 2, 0, 0), 0), (31, (1, 32, 2, 0, 0), 0), (32, (2, 33, 0, 0, 0), 0), (33, (1, 34, 1, 0, 0), 0), (34, (53, 37, 175, 1, 0), 1171), (37, (9, 38, 0, 0, 0), 0),
  (38, (55, 39, 0, 0, 0), 0)]
def pg_178 : List PRow := [(0, (2, 1, 0, 0, 0), 0), (1, (1, 2, 1, 0, 0), 0), (2, (53, 5, 111, 1, 0), 1018), (5, (33, 8, 17, 0, 0), 0), (8, (1, 9, 2, 0, 0), 0), (9, (0, 10, 0, 0, 0), 0),
  (10, (0, 11, 0, 0, 1), 0), (11, (52, 14, 109, 3, 0), 844), (14, (33, 17, 20, 1, 0), 0), (17, (0, 19, 0, 0, -1000001), 940), (19, (55, 20, 0, 0, 0), 0), (20, (2, 21, 0, 0, 0), 0),
  (21, (0, 22, 0, 0, 0), 0), (22, (40, 25, 10, 12, 0), 859), (25, (1, 26, 2, 0, 0), 0), (26, (33, 29, 37, 1, 0), 0), (29, (2, 30, 0, 0, 0), 0), (30, (1, 31, 1, 0, 0), 0),
  (31, (53, 34, 176, 1, 0), 1167), (34, (35, 37, 42, 0, 0), 0), (37, (2, 38, 0, 0, 0), 0), (38, (1, 39, 1, 0, 0), 0), (39, (53, 42, 177, 1, 0), 1203), (42, (55, 43, 0, 0, 0), 0)]
def pg_179 : List PRow := [(0, (1, 1, 1, 0, 0), 0), (1, (0, 2, 0, 0, 0), 0), (2, (2, 3, 0, 0, 0), 0), (3, (37, 6, 10, 12, 0), 859), (6, (0, 7, 0, 0, 1), 0), (7, (9, 8, 0, 0, 0), 0),
  (8, (52, 11, 109, 3, 0), 844), (11, (33, 14, 23, 0, 0), 0), (14, (2, 15, 0, 0, 0), 0), (15, (39, 18, 10, 11, 0), 858), (18, (1, 19, 1, 0, 0), 0), (19, (44, 20, 0, 0, 0), 0),
  (20, (35, 23, 25, 0, 0), 0), (23, (0, 25, 0, 0, -1000000), 1075), (25, (55, 26, 0, 0, 0), 0)]
def pg_180 : List PRow := [(0, (0, 1, 0, 0, 0), 0), (1, (4, 2, 2, 0, 0), 0), (2, (0, 3, 0, 0, 0), 0), (3, (4, 4, 3, 0, 0), 0), (4, (1, 5, 3, 0, 0), 0), (5, (0, 7, 0, 0, 8), 0),
  (7, (34, 10, 33, 3, 0), 0), (10, (1, 11, 2, 0, 0), 0), (11, (2, 12, 0, 0, 0), 0), (12, (39, 15, 10, 8, 0), 855), (15, (1, 16, 3, 0, 0), 0), (16, (44, 17, 0, 0, 0), 0),
  (17, (33, 20, 24, 5, 0), 0), (20, (0, 21, 0, 0, 1), 0), (21, (35, 24, 25, 0, 0), 0), (24, (0, 25, 0, 0, 0), 0), (25, (8, 26, 0, 0, 0), 0), (26, (4, 27, 2, 0, 0), 0),
  (27, (7, 30, 3, 0, 1), 0), (30, (35, 33, 4, 0, 0), 0), (33, (1, 34, 1, 0, 0), 0), (34, (36, 84, 5, 0, 0), 0), (84, (1, 85, 2, 0, 0), 0), (85, (55, 86, 0, 0, 0), 0),
  (86, (2, 87, 0, 0, 0), 0), (87, (39, 90, 10, 2, 0), 849), (90, (0, 91, 0, 0, 1), 0), (91, (44, 92, 0, 0, 0), 0), (92, (55, 93, 0, 0, 0), 0), (93, (2, 94, 0, 0, 0), 0),
  (94, (39, 97, 10, 2, 0), 849), (97, (0, 98, 0, 0, 2), 0), (98, (44, 99, 0, 0, 0), 0), (99, (55, 100, 0, 0, 0), 0), (100, (2, 101, 0, 0, 0), 0), (101, (39, 104, 10, 2, 0), 849),
  (104, (0, 106, 0, 0, 29), 0), (106, (44, 107, 0, 0, 0), 0), (107, (55, 108, 0, 0, 0), 0), (108, (2, 109, 0, 0, 0), 0), (109, (39, 112, 10, 2, 0), 849), (112, (0, 114, 0, 0, 30), 0),
  (114, (44, 115, 0, 0, 0), 0), (115, (55, 116, 0, 0, 0), 0), (116, (2, 117, 0, 0, 0), 0), (117, (39, 120, 10, 2, 0), 849), (120, (0, 122, 0, 0, 31), 0), (122, (44, 123, 0, 0, 0), 0),
  (123, (55, 124, 0, 0, 0), 0), (124, (2, 125, 0, 0, 0), 0), (125, (39, 128, 10, 2, 0), 849), (128, (0, 129, 0, 0, 2), 0), (129, (44, 130, 0, 0, 0), 0), (130, (2, 131, 0, 0, 0), 0),
  (131, (53, 134, 152, 0, 0), 1100), (134, (9, 135, 0, 0, 0), 0), (135, (55, 136, 0, 0, 0), 0), (136, (2, 137, 0, 0, 0), 0), (137, (37, 140, 10, 5, 0), 852), (140, (55, 141, 0, 0, 0), 0),
  (141, (2, 142, 0, 0, 0), 0), (142, (37, 145, 10, 1, 0), 848), (145, (55, 146, 0, 0, 0), 0), (146, (0, 148, 0, 0, -1000001), 940), (148, (55, 149, 0, 0, 0), 0)]
def pg_181 : List PRow := [(0, (2, 1, 0, 0, 0), 0), (1, (37, 4, 10, 13, 0), 860), (4, (55, 5, 0, 0, 0), 0)]
def pg_182 : List PRow := [(0, (1, 1, 0, 0, 0), 0), (1, (1, 2, 0, 0, 0), 0), (2, (0, 3, 0, 0, 1), 0), (3, (16, 4, 0, 0, 0), 0), (4, (0, 7, 0, 0, 1431655765), 640), (7, (11, 8, 0, 0, 0), 0),
  (8, (9, 9, 0, 0, 0), 0), (9, (4, 10, 0, 0, 0), 0), (10, (1, 11, 0, 0, 0), 0), (11, (0, 14, 0, 0, 858993459), 641), (14, (11, 15, 0, 0, 0), 0), (15, (1, 16, 0, 0, 0), 0),
  (16, (0, 17, 0, 0, 2), 0), (17, (16, 18, 0, 0, 0), 0), (18, (0, 21, 0, 0, 858993459), 641), (21, (11, 22, 0, 0, 0), 0), (22, (8, 23, 0, 0, 0), 0), (23, (4, 24, 0, 0, 0), 0),
  (24, (1, 25, 0, 0, 0), 0), (25, (1, 26, 0, 0, 0), 0), (26, (0, 27, 0, 0, 4), 0), (27, (16, 28, 0, 0, 0), 0), (28, (8, 29, 0, 0, 0), 0), (29, (0, 32, 0, 0, 252645135), 642),
  (32, (11, 33, 0, 0, 0), 0), (33, (4, 34, 0, 0, 0), 0), (34, (1, 35, 0, 0, 0), 0), (35, (1, 36, 0, 0, 0), 0), (36, (0, 38, 0, 0, 8), 0), (38, (16, 39, 0, 0, 0), 0),
  (39, (8, 40, 0, 0, 0), 0), (40, (4, 41, 0, 0, 0), 0), (41, (1, 42, 0, 0, 0), 0), (42, (1, 43, 0, 0, 0), 0), (43, (0, 45, 0, 0, 16), 0), (45, (16, 46, 0, 0, 0), 0),
  (46, (8, 47, 0, 0, 0), 0), (47, (4, 48, 0, 0, 0), 0), (48, (1, 49, 0, 0, 0), 0), (49, (0, 51, 0, 0, 63), 0), (51, (11, 52, 0, 0, 0), 0), (52, (55, 53, 0, 0, 0), 0)]
def pg_183 : List PRow := [(0, (0, 1, 0, 0, 0), 0), (1, (4, 2, 2, 0, 0), 0), (2, (2, 3, 0, 0, 0), 0), (3, (51, 4, 0, 0, 0), 0), (4, (4, 5, 3, 0, 0), 0), (5, (1, 6, 2, 0, 0), 0),
  (6, (1, 7, 3, 0, 0), 0), (7, (34, 10, 20, 3, 0), 0), (10, (2, 11, 0, 0, 0), 0), (11, (1, 12, 2, 0, 0), 0), (12, (1, 13, 1, 0, 0), 0), (13, (45, 14, 0, 0, 0), 0),
  (14, (7, 17, 2, 0, 1), 0), (17, (35, 20, 5, 0, 0), 0), (20, (57, 21, 0, 0, 0), 0)]
def pg_184 : List PRow := [(0, (58, 3, 9, 0, 0), 74), (3, (31, 4, 0, 0, 0), 0), (4, (63, 7, 70, 0, 0), 76), (7, (5, 8, 1, 0, 0), 0), (8, (58, 11, 10, 0, 0), 834), (11, (31, 12, 0, 0, 0), 0),
  (12, (63, 15, 108, 0, 0), 836), (15, (5, 16, 2, 0, 0), 0), (16, (0, 17, 0, 0, 0), 0), (17, (4, 18, 3, 0, 0), 0), (18, (1, 19, 3, 0, 0), 0), (19, (2, 20, 0, 0, 0), 0),
  (20, (51, 21, 0, 0, 0), 0), (21, (0, 23, 0, 0, 6), 0), (23, (9, 24, 0, 0, 0), 0), (24, (34, 27, 967, 4, 0), 0), (27, (2, 28, 0, 0, 0), 0), (28, (1, 29, 3, 0, 0), 0),
  (29, (44, 30, 0, 0, 0), 0), (30, (0, 32, 0, 0, 31), 0), (32, (11, 33, 0, 0, 0), 0), (33, (36, 164, 6, 0, 0), 0), (164, (2, 165, 1, 0, 0), 0), (165, (2, 166, 0, 0, 0), 0),
  (166, (1, 167, 3, 0, 0), 0), (167, (0, 168, 0, 0, 1), 0), (168, (8, 169, 0, 0, 0), 0), (169, (44, 170, 0, 0, 0), 0), (170, (2, 171, 0, 0, 0), 0), (171, (1, 172, 3, 0, 0), 0),
  (172, (0, 173, 0, 0, 2), 0), (173, (8, 174, 0, 0, 0), 0), (174, (44, 175, 0, 0, 0), 0), (175, (2, 176, 0, 0, 0), 0), (176, (1, 177, 3, 0, 0), 0), (177, (0, 178, 0, 0, 3), 0),
  (178, (8, 179, 0, 0, 0), 0), (179, (44, 180, 0, 0, 0), 0), (180, (53, 183, 71, 3, 0), 383), (183, (2, 184, 2, 0, 0), 0), (184, (2, 185, 0, 0, 0), 0), (185, (1, 186, 3, 0, 0), 0),
  (186, (0, 187, 0, 0, 1), 0), (187, (8, 188, 0, 0, 0), 0), (188, (44, 189, 0, 0, 0), 0), (189, (2, 190, 0, 0, 0), 0), (190, (1, 191, 3, 0, 0), 0), (191, (0, 192, 0, 0, 2), 0),
  (192, (8, 193, 0, 0, 0), 0), (193, (44, 194, 0, 0, 0), 0), (194, (2, 195, 0, 0, 0), 0), (195, (1, 196, 3, 0, 0), 0), (196, (0, 197, 0, 0, 3), 0), (197, (8, 198, 0, 0, 0), 0),
  (198, (44, 199, 0, 0, 0), 0), (199, (53, 202, 115, 3, 0), 933), (202, (34, 205, 961, 0, 0), 0), (205, (0, 206, 0, 0, 0), 0), (206, (56, 207, 0, 0, 0), 0), (207, (2, 208, 1, 0, 0), 0),
  (208, (2, 209, 0, 0, 0), 0), (209, (1, 210, 3, 0, 0), 0), (210, (0, 211, 0, 0, 1), 0), (211, (8, 212, 0, 0, 0), 0), (212, (44, 213, 0, 0, 0), 0), (213, (2, 214, 0, 0, 0), 0),
  (214, (1, 215, 3, 0, 0), 0), (215, (0, 216, 0, 0, 2), 0), (216, (8, 217, 0, 0, 0), 0), (217, (44, 218, 0, 0, 0), 0), (218, (2, 219, 0, 0, 0), 0), (219, (1, 220, 3, 0, 0), 0),
  (220, (0, 221, 0, 0, 3), 0), (221, (8, 222, 0, 0, 0), 0), (222, (44, 223, 0, 0, 0), 0), (223, (53, 226, 72, 3, 0), 407), (226, (2, 227, 2, 0, 0), 0), (227, (2, 228, 0, 0, 0), 0),
  (228, (1, 229, 3, 0, 0), 0), (229, (0, 230, 0, 0, 1), 0), (230, (8, 231, 0, 0, 0), 0), (231, (44, 232, 0, 0, 0), 0), (232, (2, 233, 0, 0, 0), 0), (233, (1, 234, 3, 0, 0), 0),
  (234, (0, 235, 0, 0, 2), 0), (235, (8, 236, 0, 0, 0), 0), (236, (44, 237, 0, 0, 0), 0), (237, (2, 238, 0, 0, 0), 0), (238, (1, 239, 3, 0, 0), 0), (239, (0, 240, 0, 0, 3), 0),
  (240, (8, 241, 0, 0, 0), 0), (241, (44, 242, 0, 0, 0), 0), (242, (53, 245, 116, 3, 0), 946), (245, (34, 248, 961, 0, 0), 0), (248, (0, 249, 0, 0, 0), 0), (249, (56, 250, 0, 0, 0), 0),
  (250, (2, 251, 1, 0, 0), 0), (251, (2, 252, 0, 0, 0), 0), (252, (1, 253, 3, 0, 0), 0), (253, (0, 254, 0, 0, 1), 0), (254, (8, 255, 0, 0, 0), 0), (255, (44, 256, 0, 0, 0), 0),
  (256, (2, 257, 0, 0, 0), 0), (257, (1, 258, 3, 0, 0), 0), (258, (0, 259, 0, 0, 2), 0), (259, (8, 260, 0, 0, 0), 0), (260, (44, 261, 0, 0, 0), 0), (261, (2, 262, 0, 0, 0), 0),
  (262, (1, 263, 3, 0, 0), 0), (263, (0, 264, 0, 0, 3), 0), (264, (8, 265, 0, 0, 0), 0), (265, (44, 266, 0, 0, 0), 0), (266, (2, 267, 0, 0, 0), 0), (267, (1, 268, 3, 0, 0), 0),
  (268, (0, 269, 0, 0, 4), 0), (269, (8, 270, 0, 0, 0), 0), (270, (44, 271, 0, 0, 0), 0), (271, (2, 272, 0, 0, 0), 0), (272, (1, 273, 3, 0, 0), 0), (273, (0, 274, 0, 0, 5), 0),
  (274, (8, 275, 0, 0, 0), 0), (275, (44, 276, 0, 0, 0), 0), (276, (53, 279, 73, 5, 0), 415), (279, (2, 280, 2, 0, 0), 0), (280, (2, 281, 0, 0, 0), 0), (281, (1, 282, 3, 0, 0), 0),
  (282, (0, 283, 0, 0, 1), 0), (283, (8, 284, 0, 0, 0), 0), (284, (44, 285, 0, 0, 0), 0), (285, (2, 286, 0, 0, 0), 0), (286, (1, 287, 3, 0, 0), 0), (287, (0, 288, 0, 0, 2), 0),
  (288, (8, 289, 0, 0, 0), 0), (289, (44, 290, 0, 0, 0), 0), (290, (2, 291, 0, 0, 0), 0), (291, (1, 292, 3, 0, 0), 0), (292, (0, 293, 0, 0, 3), 0), (293, (8, 294, 0, 0, 0), 0),
  (294, (44, 295, 0, 0, 0), 0), (295, (2, 296, 0, 0, 0), 0), (296, (1, 297, 3, 0, 0), 0), (297, (0, 298, 0, 0, 4), 0), (298, (8, 299, 0, 0, 0), 0), (299, (44, 300, 0, 0, 0), 0),
  (300, (2, 301, 0, 0, 0), 0), (301, (1, 302, 3, 0, 0), 0), (302, (0, 303, 0, 0, 5), 0), (303, (8, 304, 0, 0, 0), 0), (304, (44, 305, 0, 0, 0), 0), (305, (53, 308, 118, 5, 0), 950),
  (308, (34, 311, 961, 0, 0), 0), (311, (0, 312, 0, 0, 0), 0), (312, (56, 313, 0, 0, 0), 0), (313, (2, 314, 1, 0, 0), 0), (314, (2, 315, 0, 0, 0), 0), (315, (1, 316, 3, 0, 0), 0),
  (316, (0, 317, 0, 0, 1), 0), (317, (8, 318, 0, 0, 0), 0), (318, (44, 319, 0, 0, 0), 0), (319, (53, 322, 74, 1, 0), 426), (322, (2, 323, 2, 0, 0), 0), (323, (2, 324, 0, 0, 0), 0),
  (324, (1, 325, 3, 0, 0), 0), (325, (0, 326, 0, 0, 1), 0), (326, (8, 327, 0, 0, 0), 0), (327, (44, 328, 0, 0, 0), 0), (328, (53, 331, 119, 1, 0), 957), (331, (34, 334, 961, 0, 0), 0),
  (334, (0, 335, 0, 0, 0), 0), (335, (56, 336, 0, 0, 0), 0), (336, (2, 337, 1, 0, 0), 0), (337, (2, 338, 0, 0, 0), 0), (338, (1, 339, 3, 0, 0), 0), (339, (0, 340, 0, 0, 1), 0),
  (340, (8, 341, 0, 0, 0), 0), (341, (44, 342, 0, 0, 0), 0), (342, (53, 345, 78, 1, 0), 430), (345, (2, 346, 2, 0, 0), 0), (346, (2, 347, 0, 0, 0), 0), (347, (1, 348, 3, 0, 0), 0),
  (348, (0, 349, 0, 0, 1), 0), (349, (8, 350, 0, 0, 0), 0), (350, (44, 351, 0, 0, 0), 0), (351, (53, 354, 120, 1, 0), 961), (354, (34, 357, 961, 0, 0), 0), (357, (0, 358, 0, 0, 0), 0),
  (358, (56, 359, 0, 0, 0), 0), (359, (2, 360, 1, 0, 0), 0), (360, (53, 363, 79, 0, 0), 439), (363, (2, 364, 2, 0, 0), 0), (364, (53, 367, 131, 0, 0), 966), (367, (34, 370, 961, 0, 0), 0),
  (370, (0, 371, 0, 0, 0), 0), (371, (56, 372, 0, 0, 0), 0), (372, (2, 373, 1, 0, 0), 0), (373, (53, 376, 80, 0, 0), 504), (376, (2, 377, 2, 0, 0), 0), (377, (53, 380, 132, 0, 0), 1006),
  (380, (34, 383, 961, 0, 0), 0), (383, (0, 384, 0, 0, 0), 0), (384, (56, 385, 0, 0, 0), 0), (385, (2, 386, 1, 0, 0), 0), (386, (2, 387, 0, 0, 0), 0), (387, (1, 388, 3, 0, 0), 0),
  (388, (0, 389, 0, 0, 1), 0), (389, (8, 390, 0, 0, 0), 0), (390, (44, 391, 0, 0, 0), 0), (391, (2, 392, 0, 0, 0), 0), (392, (1, 393, 3, 0, 0), 0), (393, (0, 394, 0, 0, 2), 0),
  (394, (8, 395, 0, 0, 0), 0), (395, (44, 396, 0, 0, 0), 0), (396, (53, 399, 81, 2, 0), 508), (399, (2, 400, 2, 0, 0), 0), (400, (2, 401, 0, 0, 0), 0), (401, (1, 402, 3, 0, 0), 0),
  (402, (0, 403, 0, 0, 1), 0), (403, (8, 404, 0, 0, 0), 0), (404, (44, 405, 0, 0, 0), 0), (405, (2, 406, 0, 0, 0), 0), (406, (1, 407, 3, 0, 0), 0), (407, (0, 408, 0, 0, 2), 0),
  (408, (8, 409, 0, 0, 0), 0), (409, (44, 410, 0, 0, 0), 0), (410, (53, 413, 141, 2, 0), 1010), (413, (34, 416, 961, 0, 0), 0), (416, (0, 417, 0, 0, 0), 0), (417, (56, 418, 0, 0, 0), 0),
  (418, (2, 419, 1, 0, 0), 0), (419, (2, 420, 0, 0, 0), 0), (420, (1, 421, 3, 0, 0), 0), (421, (0, 422, 0, 0, 1), 0), (422, (8, 423, 0, 0, 0), 0), (423, (44, 424, 0, 0, 0), 0),
  (424, (53, 427, 82, 1, 0), 580), (427, (2, 428, 2, 0, 0), 0), (428, (2, 429, 0, 0, 0), 0), (429, (1, 430, 3, 0, 0), 0), (430, (0, 431, 0, 0, 1), 0), (431, (8, 432, 0, 0, 0), 0),
  (432, (44, 433, 0, 0, 0), 0), (433, (53, 436, 142, 1, 0), 1051), (436, (34, 439, 961, 0, 0), 0), (439, (0, 440, 0, 0, 0), 0), (440, (56, 441, 0, 0, 0), 0), (441, (2, 442, 1, 0, 0), 0),
  (442, (2, 443, 0, 0, 0), 0), (443, (1, 444, 3, 0, 0), 0), (444, (0, 445, 0, 0, 1), 0), (445, (8, 446, 0, 0, 0), 0), (446, (44, 447, 0, 0, 0), 0), (447, (53, 450, 83, 1, 0), 588),
  (450, (2, 451, 2, 0, 0), 0), (451, (2, 452, 0, 0, 0), 0), (452, (1, 453, 3, 0, 0), 0), (453, (0, 454, 0, 0, 1), 0), (454, (8, 455, 0, 0, 0), 0), (455, (44, 456, 0, 0, 0), 0),
  (456, (53, 459, 143, 1, 0), 1059), (459, (34, 462, 961, 0, 0), 0), (462, (0, 463, 0, 0, 0), 0), (463, (56, 464, 0, 0, 0), 0), (464, (2, 465, 1, 0, 0), 0), (465, (53, 468, 84, 0, 0), 592),
  (468, (2, 469, 2, 0, 0), 0), (469, (53, 472, 144, 0, 0), 1067), (472, (34, 475, 961, 0, 0), 0), (475, (0, 476, 0, 0, 0), 0), (476, (56, 477, 0, 0, 0), 0), (477, (2, 478, 1, 0, 0), 0),
  (478, (2, 479, 0, 0, 0), 0), (479, (1, 480, 3, 0, 0), 0), (480, (0, 481, 0, 0, 1), 0), (481, (8, 482, 0, 0, 0), 0), (482, (44, 483, 0, 0, 0), 0), (483, (2, 484, 0, 0, 0), 0),
  (484, (1, 485, 3, 0, 0), 0), (485, (0, 486, 0, 0, 2), 0), (486, (8, 487, 0, 0, 0), 0), (487, (44, 488, 0, 0, 0), 0), (488, (53, 491, 85, 2, 0), 601), (491, (2, 492, 2, 0, 0), 0),
  (492, (2, 493, 0, 0, 0), 0), (493, (1, 494, 3, 0, 0), 0), (494, (0, 495, 0, 0, 1), 0), (495, (8, 496, 0, 0, 0), 0), (496, (44, 497, 0, 0, 0), 0), (497, (2, 498, 0, 0, 0), 0),
  (498, (1, 499, 3, 0, 0), 0), (499, (0, 500, 0, 0, 2), 0), (500, (8, 501, 0, 0, 0), 0), (501, (44, 502, 0, 0, 0), 0), (502, (53, 505, 145, 2, 0), 1071), (505, (34, 508, 961, 0, 0), 0),
  (508, (0, 509, 0, 0, 0), 0), (509, (56, 510, 0, 0, 0), 0), (510, (2, 511, 1, 0, 0), 0), (511, (2, 512, 0, 0, 0), 0), (512, (1, 513, 3, 0, 0), 0), (513, (0, 514, 0, 0, 1), 0),
  (514, (8, 515, 0, 0, 0), 0), (515, (44, 516, 0, 0, 0), 0), (516, (2, 517, 0, 0, 0), 0), (517, (1, 518, 3, 0, 0), 0), (518, (0, 519, 0, 0, 2), 0), (519, (8, 520, 0, 0, 0), 0),
  (520, (44, 521, 0, 0, 0), 0), (521, (53, 524, 86, 2, 0), 606), (524, (2, 525, 2, 0, 0), 0), (525, (2, 526, 0, 0, 0), 0), (526, (1, 527, 3, 0, 0), 0), (527, (0, 528, 0, 0, 1), 0),
  (528, (8, 529, 0, 0, 0), 0), (529, (44, 530, 0, 0, 0), 0), (530, (2, 531, 0, 0, 0), 0), (531, (1, 532, 3, 0, 0), 0), (532, (0, 533, 0, 0, 2), 0), (533, (8, 534, 0, 0, 0), 0),
  (534, (44, 535, 0, 0, 0), 0), (535, (53, 538, 146, 2, 0), 1076), (538, (34, 541, 961, 0, 0), 0), (541, (0, 542, 0, 0, 0), 0), (542, (56, 543, 0, 0, 0), 0), (543, (2, 544, 1, 0, 0), 0),
  (544, (2, 545, 0, 0, 0), 0), (545, (1, 546, 3, 0, 0), 0), (546, (0, 547, 0, 0, 1), 0), (547, (8, 548, 0, 0, 0), 0), (548, (44, 549, 0, 0, 0), 0), (549, (53, 552, 87, 1, 0), 610),
  (552, (2, 553, 2, 0, 0), 0), (553, (2, 554, 0, 0, 0), 0), (554, (1, 555, 3, 0, 0), 0), (555, (0, 556, 0, 0, 1), 0), (556, (8, 557, 0, 0, 0), 0), (557, (44, 558, 0, 0, 0), 0),
  (558, (53, 561, 148, 1, 0), 1080), (561, (34, 564, 961, 0, 0), 0), (564, (0, 565, 0, 0, 0), 0), (565, (56, 566, 0, 0, 0), 0), (566, (2, 567, 1, 0, 0), 0), (567, (2, 568, 0, 0, 0), 0),
  (568, (1, 569, 3, 0, 0), 0), (569, (0, 570, 0, 0, 1), 0), (570, (8, 571, 0, 0, 0), 0), (571, (44, 572, 0, 0, 0), 0), (572, (53, 575, 88, 1, 0), 614), (575, (2, 576, 2, 0, 0), 0),
  (576, (2, 577, 0, 0, 0), 0), (577, (1, 578, 3, 0, 0), 0), (578, (0, 579, 0, 0, 1), 0), (579, (8, 580, 0, 0, 0), 0), (580, (44, 581, 0, 0, 0), 0), (581, (53, 584, 149, 1, 0), 1088),
  (584, (34, 587, 961, 0, 0), 0), (587, (0, 588, 0, 0, 0), 0), (588, (56, 589, 0, 0, 0), 0), (589, (2, 590, 1, 0, 0), 0), (590, (2, 591, 0, 0, 0), 0), (591, (1, 592, 3, 0, 0), 0),
  (592, (0, 593, 0, 0, 1), 0), (593, (8, 594, 0, 0, 0), 0), (594, (44, 595, 0, 0, 0), 0), (595, (53, 598, 89, 1, 0), 620), (598, (2, 599, 2, 0, 0), 0), (599, (2, 600, 0, 0, 0), 0),
  (600, (1, 601, 3, 0, 0), 0), (601, (0, 602, 0, 0, 1), 0), (602, (8, 603, 0, 0, 0), 0), (603, (44, 604, 0, 0, 0), 0), (604, (53, 607, 155, 1, 0), 1092), (607, (34, 610, 961, 0, 0), 0),
  (610, (0, 611, 0, 0, 0), 0), (611, (56, 612, 0, 0, 0), 0), (612, (2, 613, 1, 0, 0), 0), (613, (2, 614, 0, 0, 0), 0), (614, (1, 615, 3, 0, 0), 0), (615, (0, 616, 0, 0, 1), 0),
  (616, (8, 617, 0, 0, 0), 0), (617, (44, 618, 0, 0, 0), 0), (618, (53, 621, 90, 1, 0), 670), (621, (2, 622, 2, 0, 0), 0), (622, (2, 623, 0, 0, 0), 0), (623, (1, 624, 3, 0, 0), 0),
  (624, (0, 625, 0, 0, 1), 0), (625, (8, 626, 0, 0, 0), 0), (626, (44, 627, 0, 0, 0), 0), (627, (53, 630, 157, 1, 0), 1116), (630, (34, 633, 961, 0, 0), 0), (633, (0, 634, 0, 0, 0), 0),
  (634, (56, 635, 0, 0, 0), 0), (635, (2, 636, 1, 0, 0), 0), (636, (2, 637, 0, 0, 0), 0), (637, (1, 638, 3, 0, 0), 0), (638, (0, 639, 0, 0, 1), 0), (639, (8, 640, 0, 0, 0), 0),
  (640, (44, 641, 0, 0, 0), 0), (641, (2, 642, 0, 0, 0), 0), (642, (1, 643, 3, 0, 0), 0), (643, (0, 644, 0, 0, 2), 0), (644, (8, 645, 0, 0, 0), 0), (645, (44, 646, 0, 0, 0), 0),
  (646, (53, 649, 91, 2, 0), 709), (649, (2, 650, 2, 0, 0), 0), (650, (2, 651, 0, 0, 0), 0), (651, (1, 652, 3, 0, 0), 0), (652, (0, 653, 0, 0, 1), 0), (653, (8, 654, 0, 0, 0), 0),
  (654, (44, 655, 0, 0, 0), 0), (655, (2, 656, 0, 0, 0), 0), (656, (1, 657, 3, 0, 0), 0), (657, (0, 658, 0, 0, 2), 0), (658, (8, 659, 0, 0, 0), 0), (659, (44, 660, 0, 0, 0), 0),
  (660, (53, 663, 159, 2, 0), 1124), (663, (34, 666, 961, 0, 0), 0), (666, (0, 667, 0, 0, 0), 0), (667, (56, 668, 0, 0, 0), 0), (668, (2, 669, 1, 0, 0), 0), (669, (2, 670, 0, 0, 0), 0),
  (670, (1, 671, 3, 0, 0), 0), (671, (0, 672, 0, 0, 1), 0), (672, (8, 673, 0, 0, 0), 0), (673, (44, 674, 0, 0, 0), 0), (674, (53, 677, 92, 1, 0), 723), (677, (2, 678, 2, 0, 0), 0),
  (678, (2, 679, 0, 0, 0), 0), (679, (1, 680, 3, 0, 0), 0), (680, (0, 681, 0, 0, 1), 0), (681, (8, 682, 0, 0, 0), 0), (682, (44, 683, 0, 0, 0), 0), (683, (53, 686, 160, 1, 0), 1131),
  (686, (34, 689, 961, 0, 0), 0), (689, (0, 690, 0, 0, 0), 0), (690, (56, 691, 0, 0, 0), 0), (691, (2, 692, 1, 0, 0), 0), (692, (2, 693, 0, 0, 0), 0), (693, (1, 694, 3, 0, 0), 0),
  (694, (0, 695, 0, 0, 1), 0), (695, (8, 696, 0, 0, 0), 0), (696, (44, 697, 0, 0, 0), 0), (697, (2, 698, 0, 0, 0), 0), (698, (1, 699, 3, 0, 0), 0), (699, (0, 700, 0, 0, 2), 0),
  (700, (8, 701, 0, 0, 0), 0), (701, (44, 702, 0, 0, 0), 0), (702, (53, 705, 93, 2, 0), 731), (705, (2, 706, 2, 0, 0), 0), (706, (2, 707, 0, 0, 0), 0), (707, (1, 708, 3, 0, 0), 0),
  (708, (0, 709, 0, 0, 1), 0), (709, (8, 710, 0, 0, 0), 0), (710, (44, 711, 0, 0, 0), 0), (711, (2, 712, 0, 0, 0), 0), (712, (1, 713, 3, 0, 0), 0), (713, (0, 714, 0, 0, 2), 0),
  (714, (8, 715, 0, 0, 0), 0), (715, (44, 716, 0, 0, 0), 0), (716, (53, 719, 161, 2, 0), 1135), (719, (34, 722, 961, 0, 0), 0), (722, (0, 723, 0, 0, 0), 0), (723, (56, 724, 0, 0, 0), 0),
  (724, (2, 725, 1, 0, 0), 0), (725, (2, 726, 0, 0, 0), 0), (726, (1, 727, 3, 0, 0), 0), (727, (0, 728, 0, 0, 1), 0), (728, (8, 729, 0, 0, 0), 0), (729, (44, 730, 0, 0, 0), 0),
  (730, (2, 731, 0, 0, 0), 0), (731, (1, 732, 3, 0, 0), 0), (732, (0, 733, 0, 0, 2), 0), (733, (8, 734, 0, 0, 0), 0), (734, (44, 735, 0, 0, 0), 0), (735, (2, 736, 0, 0, 0), 0),
  (736, (1, 737, 3, 0, 0), 0), (737, (0, 738, 0, 0, 3), 0), (738, (8, 739, 0, 0, 0), 0), (739, (44, 740, 0, 0, 0), 0), (740, (53, 743, 94, 3, 0), 746), (743, (2, 744, 2, 0, 0), 0),
  (744, (2, 745, 0, 0, 0), 0), (745, (1, 746, 3, 0, 0), 0), (746, (0, 747, 0, 0, 1), 0), (747, (8, 748, 0, 0, 0), 0), (748, (44, 749, 0, 0, 0), 0), (749, (2, 750, 0, 0, 0), 0),
  (750, (1, 751, 3, 0, 0), 0), (751, (0, 752, 0, 0, 2), 0), (752, (8, 753, 0, 0, 0), 0), (753, (44, 754, 0, 0, 0), 0), (754, (2, 755, 0, 0, 0), 0), (755, (1, 756, 3, 0, 0), 0),
  (756, (0, 757, 0, 0, 3), 0), (757, (8, 758, 0, 0, 0), 0), (758, (44, 759, 0, 0, 0), 0), (759, (53, 762, 163, 3, 0), 1139), (762, (34, 765, 961, 0, 0), 0), (765, (0, 766, 0, 0, 0), 0),
  (766, (56, 767, 0, 0, 0), 0), (767, (2, 768, 1, 0, 0), 0), (768, (2, 769, 0, 0, 0), 0), (769, (1, 770, 3, 0, 0), 0), (770, (0, 771, 0, 0, 1), 0), (771, (8, 772, 0, 0, 0), 0),
  (772, (44, 773, 0, 0, 0), 0), (773, (53, 776, 95, 1, 0), 769), (776, (2, 777, 2, 0, 0), 0), (777, (2, 778, 0, 0, 0), 0), (778, (1, 779, 3, 0, 0), 0), (779, (0, 780, 0, 0, 1), 0),
  (780, (8, 781, 0, 0, 0), 0), (781, (44, 782, 0, 0, 0), 0), (782, (53, 785, 164, 1, 0), 1147), (785, (34, 788, 961, 0, 0), 0), (788, (0, 789, 0, 0, 0), 0), (789, (56, 790, 0, 0, 0), 0),
  (790, (2, 791, 1, 0, 0), 0), (791, (2, 792, 0, 0, 0), 0), (792, (1, 793, 3, 0, 0), 0), (793, (0, 794, 0, 0, 1), 0), (794, (8, 795, 0, 0, 0), 0), (795, (44, 796, 0, 0, 0), 0),
  (796, (53, 799, 96, 1, 0), 773), (799, (2, 800, 2, 0, 0), 0), (800, (2, 801, 0, 0, 0), 0), (801, (1, 802, 3, 0, 0), 0), (802, (0, 803, 0, 0, 1), 0), (803, (8, 804, 0, 0, 0), 0),
  (804, (44, 805, 0, 0, 0), 0), (805, (53, 808, 165, 1, 0), 1151), (808, (34, 811, 961, 0, 0), 0), (811, (0, 812, 0, 0, 0), 0), (812, (56, 813, 0, 0, 0), 0), (813, (2, 814, 1, 0, 0), 0),
  (814, (2, 815, 0, 0, 0), 0), (815, (1, 816, 3, 0, 0), 0), (816, (0, 817, 0, 0, 1), 0), (817, (8, 818, 0, 0, 0), 0), (818, (44, 819, 0, 0, 0), 0), (819, (53, 822, 97, 1, 0), 777),
  (822, (2, 823, 2, 0, 0), 0), (823, (2, 824, 0, 0, 0), 0), (824, (1, 825, 3, 0, 0), 0), (825, (0, 826, 0, 0, 1), 0), (826, (8, 827, 0, 0, 0), 0), (827, (44, 828, 0, 0, 0), 0),
  (828, (53, 831, 166, 1, 0), 1155), (831, (34, 834, 961, 0, 0), 0), (834, (0, 835, 0, 0, 0), 0), (835, (56, 836, 0, 0, 0), 0), (836, (2, 837, 1, 0, 0), 0), (837, (2, 838, 0, 0, 0), 0),
  (838, (1, 839, 3, 0, 0), 0), (839, (0, 840, 0, 0, 1), 0), (840, (8, 841, 0, 0, 0), 0), (841, (44, 842, 0, 0, 0), 0), (842, (2, 843, 0, 0, 0), 0), (843, (1, 844, 3, 0, 0), 0),
  (844, (0, 845, 0, 0, 2), 0), (845, (8, 846, 0, 0, 0), 0), (846, (44, 847, 0, 0, 0), 0), (847, (53, 850, 98, 2, 0), 781), (850, (2, 851, 2, 0, 0), 0), (851, (2, 852, 0, 0, 0), 0),
  (852, (1, 853, 3, 0, 0), 0), (853, (0, 854, 0, 0, 1), 0), (854, (8, 855, 0, 0, 0), 0), (855, (44, 856, 0, 0, 0), 0), (856, (2, 857, 0, 0, 0), 0), (857, (1, 858, 3, 0, 0), 0),
  (858, (0, 859, 0, 0, 2), 0), (859, (8, 860, 0, 0, 0), 0), (860, (44, 861, 0, 0, 0), 0), (861, (53, 864, 167, 2, 0), 1159), (864, (34, 867, 961, 0, 0), 0), (867, (0, 868, 0, 0, 0), 0),
  (868, (56, 869, 0, 0, 0), 0), (869, (2, 870, 1, 0, 0), 0), (870, (2, 871, 0, 0, 0), 0), (871, (1, 872, 3, 0, 0), 0), (872, (0, 873, 0, 0, 1), 0), (873, (8, 874, 0, 0, 0), 0),
  (874, (44, 875, 0, 0, 0), 0), (875, (2, 876, 0, 0, 0), 0), (876, (1, 877, 3, 0, 0), 0), (877, (0, 878, 0, 0, 2), 0), (878, (8, 879, 0, 0, 0), 0), (879, (44, 880, 0, 0, 0), 0),
  (880, (53, 883, 99, 2, 0), 786), (883, (2, 884, 2, 0, 0), 0), (884, (2, 885, 0, 0, 0), 0), (885, (1, 886, 3, 0, 0), 0), (886, (0, 887, 0, 0, 1), 0), (887, (8, 888, 0, 0, 0), 0),
  (888, (44, 889, 0, 0, 0), 0), (889, (2, 890, 0, 0, 0), 0), (890, (1, 891, 3, 0, 0), 0), (891, (0, 892, 0, 0, 2), 0), (892, (8, 893, 0, 0, 0), 0), (893, (44, 894, 0, 0, 0), 0),
  (894, (53, 897, 178, 2, 0), 1163), (897, (34, 900, 961, 0, 0), 0), (900, (0, 901, 0, 0, 0), 0), (901, (56, 902, 0, 0, 0), 0), (902, (2, 903, 1, 0, 0), 0), (903, (2, 904, 0, 0, 0), 0),
  (904, (1, 905, 3, 0, 0), 0), (905, (0, 906, 0, 0, 1), 0), (906, (8, 907, 0, 0, 0), 0), (907, (44, 908, 0, 0, 0), 0), (908, (53, 911, 100, 1, 0), 812), (911, (2, 912, 2, 0, 0), 0),
  (912, (2, 913, 0, 0, 0), 0), (913, (1, 914, 3, 0, 0), 0), (914, (0, 915, 0, 0, 1), 0), (915, (8, 916, 0, 0, 0), 0), (916, (44, 917, 0, 0, 0), 0), (917, (53, 920, 179, 1, 0), 1207),
  (920, (34, 923, 961, 0, 0), 0), (923, (0, 924, 0, 0, 0), 0), (924, (56, 925, 0, 0, 0), 0), (925, (2, 926, 1, 0, 0), 0), (926, (2, 927, 0, 0, 0), 0), (927, (1, 928, 3, 0, 0), 0),
  (928, (0, 929, 0, 0, 1), 0), (929, (8, 930, 0, 0, 0), 0), (930, (44, 931, 0, 0, 0), 0), (931, (53, 934, 101, 1, 0), 821), (934, (2, 935, 2, 0, 0), 0), (935, (2, 936, 0, 0, 0), 0),
  (936, (1, 937, 3, 0, 0), 0), (937, (0, 938, 0, 0, 1), 0), (938, (8, 939, 0, 0, 0), 0), (939, (44, 940, 0, 0, 0), 0), (940, (53, 943, 180, 1, 0), 1211), (943, (34, 946, 961, 0, 0), 0),
  (946, (0, 947, 0, 0, 0), 0), (947, (56, 948, 0, 0, 0), 0), (948, (2, 949, 1, 0, 0), 0), (949, (53, 952, 102, 0, 0), 830), (952, (2, 953, 2, 0, 0), 0), (953, (53, 956, 181, 0, 0), 1215),
  (956, (34, 959, 961, 0, 0), 0), (959, (0, 960, 0, 0, 0), 0), (960, (56, 961, 0, 0, 0), 0), (961, (7, 964, 3, 0, 6), 0), (964, (35, 967, 18, 0, 0), 0), (967, (0, 968, 0, 0, 1), 0),
  (968, (56, 969, 0, 0, 0), 0)]
def PG_0 : List (List PRow) := [pg_0, pg_1, pg_2, pg_3, pg_4, pg_5, pg_6, pg_7, pg_8, pg_9, pg_10, pg_11, pg_12, pg_13, pg_14, pg_15, pg_16, pg_17, pg_18, pg_19, pg_20, pg_21, pg_22, pg_23, pg_24, pg_25, pg_26, pg_27, pg_28, pg_29, pg_30, pg_31, pg_32, pg_33, pg_34, pg_35, pg_36, pg_37, pg_38, pg_39]
def PG_1 : List (List PRow) := [pg_40, pg_41, pg_42, pg_43, pg_44, pg_45, pg_46, pg_47, pg_48, pg_49, pg_50, pg_51, pg_52, pg_53, pg_54, pg_55, pg_56, pg_57, pg_58, pg_59, pg_60, pg_61, pg_62, pg_63, pg_64, pg_65, pg_66, pg_67, pg_68, pg_69, pg_70, pg_71, pg_72, pg_73, pg_74, pg_75, pg_76, pg_77, pg_78, pg_79]
def PG_2 : List (List PRow) := [pg_80, pg_81, pg_82, pg_83, pg_84, pg_85, pg_86, pg_87, pg_88, pg_89, pg_90, pg_91, pg_92, pg_93, pg_94, pg_95, pg_96, pg_97, pg_98, pg_99, pg_100, pg_101, pg_102, pg_103, pg_104, pg_105, pg_106, pg_107, pg_108, pg_109, pg_110, pg_111, pg_112, pg_113, pg_114, pg_115, pg_116, pg_117, pg_118, pg_119]
def PG_3 : List (List PRow) := [pg_120, pg_121, pg_122, pg_123, pg_124, pg_125, pg_126, pg_127, pg_128, pg_129, pg_130, pg_131, pg_132, pg_133, pg_134, pg_135, pg_136, pg_137, pg_138, pg_139, pg_140, pg_141, pg_142, pg_143, pg_144, pg_145, pg_146, pg_147, pg_148, pg_149, pg_150, pg_151, pg_152, pg_153, pg_154, pg_155, pg_156, pg_157, pg_158, pg_159]
def PG_4 : List (List PRow) := [pg_160, pg_161, pg_162, pg_163, pg_164, pg_165, pg_166, pg_167, pg_168, pg_169, pg_170, pg_171, pg_172, pg_173, pg_174, pg_175, pg_176, pg_177, pg_178, pg_179, pg_180, pg_181, pg_182, pg_183, pg_184]
def PGL : List (List PRow) := PG_0 ++ PG_1 ++ PG_2 ++ PG_3 ++ PG_4
def PG (j : Nat) : List PRow := PGL.getD j []

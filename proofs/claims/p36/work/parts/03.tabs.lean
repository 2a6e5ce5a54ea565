/-! THE TABLES of the abstract machine, by program (wip/gen/gen.py) out of the claim's printed text -/
def tb_f0 : List (String × String × String × Bool) := []
def tb_f1 : List (String × String × String × Bool) := []
def tb_f2 : List (String × String × String × Bool) := []
def tb_f3 : List (String × String × String × Bool) := []
def tb_f4 : List (String × String × String × Bool) := []
def tb_f5 : List (String × String × String × Bool) := []
def tb_f6 : List (String × String × String × Bool) := []
def tb_f7 : List (String × String × String × Bool) := [("ScrewLeft$Job", "kinds", "[LScrewLeft$Step;", true), ("ScrewLeft$Job", "steps", "I", false), ("ScrewLeft$Job", "kindNumbers", "[I", true), ("ScrewLeft$Job", "numbers", "[I", true), ("ScrewLeft$Job", "screws", "[I", true), ("ScrewLeft$Job", "needs", "[I", true), ("ScrewLeft$Job", "done", "I", false), ("ScrewLeft$Job", "wrong", "I", false), ("ScrewLeft$Job", "hands", "I", false), ("ScrewLeft$Job", "bag", "I", false), ("ScrewLeft$Job", "minute", "I", false), ("ScrewLeft$Job", "lastsText", "LScrewLeft$Text;", true), ("ScrewLeft$Job", "errsText", "LScrewLeft$Text;", true), ("ScrewLeft$Job", "tape", "[I", true), ("ScrewLeft$Job", "fed", "I", false), ("ScrewLeft$Job", "waiting", "[I", true), ("ScrewLeft$Job", "waits", "I", false), ("ScrewLeft$Job", "z", "I", false)]
def tb_f8 : List (String × String × String × Bool) := [("ScrewLeft$Text", "code", "[I", true), ("ScrewLeft$Text", "stack", "[I", true), ("ScrewLeft$Text", "length", "I", false)]
def tb_f9 : List (String × String × String × Bool) := [("ScrewLeft$Reader", "tape", "[I", false), ("ScrewLeft$Reader", "end", "I", false), ("ScrewLeft$Reader", "names", "Ljava/lang/String;", false), ("ScrewLeft$Reader", "place", "I", false), ("ScrewLeft$Reader", "faulty", "Z", false), ("ScrewLeft$Reader", "code", "[I", true), ("ScrewLeft$Reader", "written", "I", false)]
def tb_f10 : List (String × String × String × Bool) := [("ScrewLeft$Voice", "bodies", "[I", true), ("ScrewLeft$Voice", "begun", "I", false), ("ScrewLeft$Voice", "n", "I", false), ("ScrewLeft$Voice", "m", "I", false)]
def tb_f11 : List (String × String × String × Bool) := [("ScrewLeft", "kinds", "[LScrewLeft$Step;", true), ("ScrewLeft", "now", "LScrewLeft$Job;", true), ("ScrewLeft", "image", "LScrewLeft$Job;", true), ("ScrewLeft", "thought", "LScrewLeft$Job;", true), ("ScrewLeft", "images", "I", false), ("ScrewLeft", "reader", "LScrewLeft$Reader;", true), ("ScrewLeft", "voice", "LScrewLeft$Voice;", true), ("ScrewLeft", "told", "[I", true), ("ScrewLeft", "cells", "[[I", true), ("ScrewLeft", "lengths", "[I", true), ("ScrewLeft", "bits", "[I", true), ("ScrewLeft", "path", "[I", true), ("ScrewLeft", "best", "[I", true)]
def tb_f12 : List (String × String × String × Bool) := [("ScrewLeftModel", "row", "[I", true), ("ScrewLeftModel", "kept", "[I", true), ("ScrewLeftModel", "before", "[I", true), ("ScrewLeftModel", "images", "I", false), ("ScrewLeftModel", "errors", "[I", true), ("ScrewLeftModel", "act", "[I", true), ("ScrewLeftModel", "with", "[I", true), ("ScrewLeftModel", "facts", "[I", true), ("ScrewLeftModel", "pile", "[I", true), ("ScrewLeftModel", "laid", "I", false), ("ScrewLeftModel", "here", "I", false), ("ScrewLeftModel", "opened", "I", false), ("ScrewLeftModel", "bad", "Z", false), ("ScrewLeftModel", "using", "I", false), ("ScrewLeftModel", "tried", "[I", true), ("ScrewLeftModel", "found", "[I", true), ("ScrewLeftModel", "least", "I", false), ("ScrewLeftModel", "aheads", "[I", true), ("ScrewLeftModel", "ordersFound", "I", false), ("ScrewLeftModel", "firstFound", "I", false), ("ScrewLeftModel", "trace", "[I", true), ("ScrewLeftModel", "traced", "I", false), ("ScrewLeftModel", "bitsOf", "[I", true), ("ScrewLeftModel", "sizeOf", "[I", true), ("ScrewLeftModel", "cells", "[I", true)]
def tb_T (l : List (String × String × String × Bool)) : u_T := fun k => (ab_nth l k).getD ("", "", "", false)
def tb_cl : List vw_C := [("ScrewLeft$Step", tb_T tb_f0, 0), ("ScrewLeft$Board", tb_T tb_f1, 0), ("ScrewLeft$Glued", tb_T tb_f2, 0), ("ScrewLeft$Held", tb_T tb_f3, 0), ("ScrewLeft$Alike", tb_T tb_f4, 0), ("ScrewLeft$Sealed", tb_T tb_f5, 0), ("ScrewLeft$Carried", tb_T tb_f6, 0), ("ScrewLeft$Job", tb_T tb_f7, 18), ("ScrewLeft$Text", tb_T tb_f8, 3), ("ScrewLeft$Reader", tb_T tb_f9, 7), ("ScrewLeft$Voice", tb_T tb_f10, 4), ("ScrewLeft", tb_T tb_f11, 13), ("ScrewLeftModel", tb_T tb_f12, 25)]
def tb_df : List (List Value) := [[], [], [], [], [], [], [], [.null, .int 0, .null, .null, .null, .null, .int 0, .int 0, .int 0, .int 0, .int 0, .null, .null, .null, .int 0, .null, .int 0, .int 0], [.null, .null, .int 0], [.null, .int 0, .null, .int 0, .int 0, .null, .int 0], [.null, .int 0, .int 0, .int 0], [.null, .null, .null, .null, .int 0, .null, .null, .null, .null, .null, .null, .null, .null], [.null, .null, .null, .int 0, .null, .null, .null, .null, .null, .int 0, .int 0, .int 0, .int 0, .int 0, .null, .null, .int 0, .null, .int 0, .int 0, .null, .int 0, .null, .null, .null]]
def tb_t0 : ab_T := [
  [some (.aload_n 0, 0), some (.invokespecial 1, 0), none, none, some (.return_, 0)]]
def tb_m0 : ab_M := (⟨"ScrewLeft$Step", "<init>", "()V"⟩, prog_10_method_1_code, 1, none, 0, 0, (1040, 1039, 1002), tb_t0)
def tb_t1 : ab_T := [
  [some (.iload_n 1, 0), some (.ireturn, 0)]]
def tb_m1 : ab_M := (⟨"ScrewLeft$Step", "lasting", "(IIII)I"⟩, prog_10_method_2_code, 5, (some .int), 0, 0, (2138, 2114, 1002), tb_t1)
def tb_t2 : ab_T := [
  [some (.iload_n 1, 0), some (.iconst 2, 0), some (.idiv, 0), some (.ireturn, 0)]]
def tb_m2 : ab_M := (⟨"ScrewLeft$Step", "back", "(I)I"⟩, prog_10_method_3_code, 2, (some .int), 0, 0, (2156, 2145, 1002), tb_t2)
def tb_t3 : ab_T := [
  [some (.iconst 1, 0), some (.ireturn, 0)]]
def tb_m3 : ab_M := (⟨"ScrewLeft$Step", "handsNeeded", "()I"⟩, prog_10_method_5_code, 1, (some .int), 0, 0, (2174, 2163, 1002), tb_t3)
def tb_t4 : ab_T := [
  [some (.iconst 0, 0), some (.ireturn, 0)]]
def tb_m4 : ab_M := (⟨"ScrewLeft$Step", "never", "()Z"⟩, prog_10_method_4_code, 1, (some .boolean), 0, 0, (2191, 2180, 1002), tb_t4)
def tb_t5 : ab_T := [
  [some (.aload_n 1, 0), some (.bipush 10, 0), none, some (.invokevirtual 7, 1), none, none, some (.iload_n 2, 0), some (.aload_n 1, 0), some (.getfield 13, 0), none, none, some (.iadd, 0), some (.ireturn, 0)]]
def tb_m5 : ab_M := (⟨"ScrewLeft$Step", "fits", "(LScrewLeft$Voice;I)I"⟩, prog_10_method_6_code, 3, (some .int), 0, 0, (4039, 4023, 1002), tb_t5)
def tb_t6 : ab_T := [
  [some (.aload_n 1, 0), some (.bipush 12, 0), none, some (.invokevirtual 7, 1), none, none, some (.iload_n 2, 0), some (.aload_n 1, 0), some (.getfield 23, 1), none, none, some (.isub, 0), some (.ireturn, 0)]]
def tb_m6 : ab_M := (⟨"ScrewLeft$Step", "looks", "(LScrewLeft$Voice;I)I"⟩, prog_10_method_8_code, 3, (some .int), 0, 0, (4059, 4058, 1002), tb_t6)
def tb_t7 : ab_T := [
  [some (.aload_n 1, 0), some (.bipush 11, 0), none, some (.invokevirtual 7, 1), none, none, some (.aload_n 0, 0), some (.aload_n 1, 0), some (.iload_n 2, 0), some (.invokevirtual 17, 2), none, none, some (.iconst 2, 0), some (.imul, 0), some (.ireturn, 0)]]
def tb_m7 : ab_M := (⟨"ScrewLeft$Step", "errs", "(LScrewLeft$Voice;I)I"⟩, prog_10_method_7_code, 3, (some .int), 0, 0, (4066, 4042, 1002), tb_t7)
def tb_t8 : ab_T := [
  [some (.aload_n 1, 0), some (.bipush 13, 0), none, some (.invokevirtual 7, 1), none, none, some (.aload_n 0, 0), some (.aload_n 1, 0), some (.iload_n 2, 0), some (.invokevirtual 26, 3), none, none, some (.aload_n 0, 0), some (.aload_n 1, 0), some (.iload_n 2, 0), some (.invokevirtual 29, 4)],
  [none, none, some (.ixor, 0), some (.ireturn, 0)]]
def tb_m8 : ab_M := (⟨"ScrewLeft$Step", "undoes", "(LScrewLeft$Voice;I)I"⟩, prog_10_method_9_code, 3, (some .int), 0, 0, (4105, 4078, 1002), tb_t8)
def tb_t9 : ab_T := [
  [some (.aload_n 0, 0), some (.invokespecial 1, 5), none, none, some (.return_, 0)]]
def tb_m9 : ab_M := (⟨"ScrewLeft$Board", "<init>", "()V"⟩, prog_3_method_1_code, 1, none, 0, 0, (1047, 1046, 1003), tb_t9)
def tb_t10 : ab_T := [
  [some (.iload_n 1, 0), some (.iconst 1, 0), some (.iadd, 0), some (.ireturn, 0)]]
def tb_m10 : ab_M := (⟨"ScrewLeft$Board", "lasting", "(IIII)I"⟩, prog_3_method_2_code, 5, (some .int), 0, 0, (2122, 2121, 1003), tb_t10)
def tb_t11 : ab_T := [
  [some (.aload_n 1, 0), some (.bipush 20, 0), none, some (.invokevirtual 7, 6), none, none, some (.aload_n 0, 0), some (.aload_n 1, 0), some (.iload_n 2, 0), some (.invokespecial 13, 7), none, none, some (.iconst 3, 0), some (.imul, 0), some (.ireturn, 0)]]
def tb_m11 : ab_M := (⟨"ScrewLeft$Board", "fits", "(LScrewLeft$Voice;I)I"⟩, prog_3_method_3_code, 3, (some .int), 0, 0, (4028, 4027, 1003), tb_t11)
def tb_t12 : ab_T := [
  [some (.aload_n 0, 0), some (.invokespecial 1, 8), none, none, some (.return_, 0)]]
def tb_m12 : ab_M := (⟨"ScrewLeft$Glued", "<init>", "()V"⟩, prog_5_method_1_code, 1, none, 0, 0, (1054, 1053, 1004), tb_t12)
def tb_t13 : ab_T := [
  [some (.iload_n 1, 0), some (.iconst 2, 0), some (.iadd, 0), some (.ireturn, 0)]]
def tb_m13 : ab_M := (⟨"ScrewLeft$Glued", "lasting", "(IIII)I"⟩, prog_5_method_2_code, 5, (some .int), 0, 0, (2132, 2131, 1004), tb_t13)
def tb_t14 : ab_T := [
  [some (.iconst 1, 0), some (.ireturn, 0)]]
def tb_m14 : ab_M := (⟨"ScrewLeft$Glued", "never", "()Z"⟩, prog_5_method_3_code, 1, (some .boolean), 0, 0, (2188, 2187, 1004), tb_t14)
def tb_t15 : ab_T := [
  [some (.aload_n 1, 0), some (.bipush 30, 0), none, some (.invokevirtual 7, 9), none, none, some (.aload_n 0, 0), some (.aload_n 1, 0), some (.iload_n 2, 0), some (.invokespecial 13, 10), none, none, some (.aload_n 0, 0), some (.aload_n 1, 0), some (.iconst 1, 0), some (.invokevirtual 17, 11)],
  [none, none, some (.isub, 0), some (.ireturn, 0)]]
def tb_m15 : ab_M := (⟨"ScrewLeft$Glued", "errs", "(LScrewLeft$Voice;I)I"⟩, prog_5_method_4_code, 3, (some .int), 0, 0, (4050, 4049, 1004), tb_t15)
def tb_t16 : ab_T := [
  [some (.aload_n 0, 0), some (.invokespecial 1, 12), none, none, some (.return_, 0)]]
def tb_m16 : ab_M := (⟨"ScrewLeft$Held", "<init>", "()V"⟩, prog_6_method_1_code, 1, none, 0, 0, (1061, 1060, 1005), tb_t16)
def tb_t17 : ab_T := [
  [some (.iload_n 2, 0), some (.iconst 1, 0), some (.if_icmp .ne 9, 11), none, none, some (.iload_n 1, 0), some (.iconst 2, 0), some (.imul, 0), some (.goto 4, 12), none, none, some (.iload_n 1, 0), some (.ireturn, 0)]]
def tb_m17 : ab_M := (⟨"ScrewLeft$Held", "lasting", "(IIII)I"⟩, prog_6_method_2_code, 5, (some .int), 0, 0, (2129, 2128, 1005), tb_t17)
def tb_t18 : ab_T := [
  [some (.iload_n 1, 0), some (.ireturn, 0)]]
def tb_m18 : ab_M := (⟨"ScrewLeft$Held", "back", "(I)I"⟩, prog_6_method_3_code, 2, (some .int), 0, 0, (2152, 2151, 1005), tb_t18)
def tb_t19 : ab_T := [
  [some (.aload_n 1, 0), some (.bipush 40, 0), none, some (.invokevirtual 7, 13), none, none, some (.aload_n 0, 0), some (.aload_n 1, 0), some (.iload_n 2, 0), some (.invokespecial 13, 14), none, none, some (.ineg, 0), some (.ireturn, 0)]]
def tb_m19 : ab_M := (⟨"ScrewLeft$Held", "looks", "(LScrewLeft$Voice;I)I"⟩, prog_6_method_4_code, 3, (some .int), 0, 0, (4074, 4073, 1005), tb_t19)
def tb_t20 : ab_T := [
  [some (.aload_n 0, 0), some (.invokespecial 1, 15), none, none, some (.return_, 0)]]
def tb_m20 : ab_M := (⟨"ScrewLeft$Alike", "<init>", "()V"⟩, prog_2_method_1_code, 1, none, 0, 0, (1068, 1067, 1006), tb_t20)
def tb_t21 : ab_T := [
  [some (.aload_n 0, 0), some (.iload_n 1, 0), some (.iload_n 2, 0), some (.iload_n 3, 0), some (.iload 4, 0), none, some (.invokespecial 7, 16), none, none, some (.iload_n 3, 0), some (.iconst 3, 0), some (.irem, 0), some (.iadd, 0), some (.ireturn, 0)]]
def tb_m21 : ab_M := (⟨"ScrewLeft$Alike", "lasting", "(IIII)I"⟩, prog_2_method_2_code, 5, (some .int), 0, 0, (2119, 2118, 1006), tb_t21)
def tb_t22 : ab_T := [
  [some (.aload_n 1, 0), some (.bipush 50, 0), none, some (.invokevirtual 11, 17), none, none, some (.aload_n 0, 0), some (.aload_n 1, 0), some (.iload_n 2, 0), some (.invokespecial 17, 18), none, none, some (.aload_n 0, 0), some (.aload_n 1, 0), some (.iconst 2, 0), some (.invokevirtual 21, 19)],
  [none, none, some (.isub, 0), some (.ireturn, 0)]]
def tb_m22 : ab_M := (⟨"ScrewLeft$Alike", "undoes", "(LScrewLeft$Voice;I)I"⟩, prog_2_method_3_code, 3, (some .int), 0, 0, (4083, 4082, 1006), tb_t22)
def tb_t23 : ab_T := [
  [some (.aload_n 0, 0), some (.invokespecial 1, 20), none, none, some (.return_, 0)]]
def tb_m23 : ab_M := (⟨"ScrewLeft$Sealed", "<init>", "()V"⟩, prog_9_method_1_code, 1, none, 0, 0, (1075, 1074, 1007), tb_t23)
def tb_t24 : ab_T := [
  [some (.aload_n 0, 0), some (.iload_n 1, 0), some (.iload_n 2, 0), some (.iload_n 3, 0), some (.iload 4, 0), none, some (.invokespecial 7, 21), none, none, some (.iload 4, 0), none, some (.iadd, 0), some (.ireturn, 0)]]
def tb_m24 : ab_M := (⟨"ScrewLeft$Sealed", "lasting", "(IIII)I"⟩, prog_9_method_2_code, 5, (some .int), 0, 0, (2136, 2135, 1007), tb_t24)
def tb_t25 : ab_T := [
  [some (.aload_n 1, 0), some (.bipush 60, 0), none, some (.invokevirtual 11, 22), none, none, some (.aload_n 0, 0), some (.aload_n 1, 0), some (.iload_n 2, 0), some (.iconst 1, 0), some (.iadd, 0), some (.invokespecial 17, 23), none, none, some (.ireturn, 0)]]
def tb_m25 : ab_M := (⟨"ScrewLeft$Sealed", "errs", "(LScrewLeft$Voice;I)I"⟩, prog_9_method_3_code, 3, (some .int), 0, 0, (4063, 4062, 1007), tb_t25)
def tb_t26 : ab_T := [
  [some (.aload_n 0, 0), some (.invokespecial 1, 24), none, none, some (.return_, 0)]]
def tb_m26 : ab_M := (⟨"ScrewLeft$Carried", "<init>", "()V"⟩, prog_4_method_1_code, 1, none, 0, 0, (1082, 1081, 1008), tb_t26)
def tb_t27 : ab_T := [
  [some (.aload_n 0, 0), some (.iload_n 1, 0), some (.iload_n 2, 0), some (.iload_n 3, 0), some (.iload 4, 0), none, some (.invokespecial 7, 25), none, none, some (.iload_n 3, 0), some (.iadd, 0), some (.ireturn, 0)]]
def tb_m27 : ab_M := (⟨"ScrewLeft$Carried", "lasting", "(IIII)I"⟩, prog_4_method_2_code, 5, (some .int), 0, 0, (2126, 2125, 1008), tb_t27)
def tb_t28 : ab_T := [
  [some (.iconst 2, 0), some (.ireturn, 0)]]
def tb_m28 : ab_M := (⟨"ScrewLeft$Carried", "handsNeeded", "()I"⟩, prog_4_method_3_code, 1, (some .int), 0, 0, (2170, 2169, 1008), tb_t28)
def tb_t29 : ab_T := [
  [some (.aload_n 1, 0), some (.bipush 70, 0), none, some (.invokevirtual 11, 26), none, none, some (.aload_n 0, 0), some (.aload_n 1, 0), some (.iload_n 2, 0), some (.invokespecial 17, 27), none, none, some (.aload_n 1, 0), some (.getfield 21, 2), none, none],
  [some (.ixor, 0), some (.ireturn, 0)]]
def tb_m29 : ab_M := (⟨"ScrewLeft$Carried", "looks", "(LScrewLeft$Voice;I)I"⟩, prog_4_method_4_code, 3, (some .int), 0, 0, (4070, 4069, 1008), tb_t29)
def tb_t30 : ab_T := [
  [some (.aload_n 1, 0), some (.bipush 71, 0), none, some (.invokevirtual 11, 26), none, none, some (.aload_n 0, 0), some (.aload_n 1, 0), some (.iload_n 2, 0), some (.invokevirtual 25, 28), none, none, some (.aload_n 0, 0), some (.aload_n 1, 0), some (.iload_n 2, 0), some (.invokespecial 30, 29)],
  [none, none, some (.isub, 0), some (.ireturn, 0)]]
def tb_m30 : ab_M := (⟨"ScrewLeft$Carried", "undoes", "(LScrewLeft$Voice;I)I"⟩, prog_4_method_5_code, 3, (some .int), 0, 0, (4095, 4094, 1008), tb_t30)
def tb_t31 : ab_T := [
  [some (.aload_n 0, 0), some (.invokespecial 3, 30), none, none, some (.aload_n 0, 0), some (.bipush 8, 0), none, some (.newarray .int, 0), none, some (.putfield 9, 3), none, none, some (.aload_n 0, 0), some (.bipush 8, 0), none, some (.newarray .int, 0)],
  [none, some (.putfield 15, 4), none, none, some (.aload_n 0, 0), some (.bipush 8, 0), none, some (.newarray .int, 0), none, some (.putfield 18, 5), none, none, some (.aload_n 0, 0), some (.bipush 8, 0), none, some (.newarray .int, 0)],
  [none, some (.putfield 21, 6), none, none, some (.aload_n 0, 0), some (.iconst 1, 0), some (.putfield 24, 7), none, none, some (.aload_n 0, 0), some (.bipush 50, 0), none, some (.putfield 28, 8), none, none, some (.aload_n 0, 0)],
  [some (.new 31, 0), none, none, some (.dup, 0), some (.invokespecial 33, 31), none, none, some (.putfield 34, 9), none, none, some (.aload_n 0, 0), some (.new 31, 0), none, none, some (.dup, 0), some (.invokespecial 33, 31)],
  [none, none, some (.putfield 38, 10), none, none, some (.aload_n 0, 0), some (.bipush 50, 0), none, some (.newarray .int, 0), none, some (.putfield 41, 11), none, none, some (.aload_n 0, 0), some (.bipush 20, 0), none],
  [some (.newarray .int, 0), none, some (.putfield 44, 12), none, none, some (.aload_n 0, 0), some (.iconst 1, 0), some (.putfield 47, 13), none, none, some (.aload_n 0, 0), some (.aload_n 1, 0), some (.putfield 50, 14), none, none, some (.return_, 0)]]
def tb_m31 : ab_M := (⟨"ScrewLeft$Job", "<init>", "([LScrewLeft$Step;)V"⟩, prog_7_method_1_code, 2, none, 12, 308, (1089, 1088, 1009), tb_t31)
def tb_t32 : ab_T := [
  [some (.aload_n 0, 0), some (.getfield 54, 15), none, none, some (.istore 4, 0), none, some (.iload 4, 0), none, some (.bipush 8, 0), none, some (.if_icmp .ge 51, 61), none, none, some (.aload_n 0, 0), some (.getfield 9, 3), none],
  [none, some (.iload 4, 0), none, some (.iload_n 1, 0), some (.bipush 10, 0), none, some (.idiv, 0), some (.iastore, 0), some (.aload_n 0, 0), some (.getfield 15, 4), none, none, some (.iload 4, 0), none, some (.iload_n 1, 0), some (.bipush 10, 0)],
  [none, some (.irem, 0), some (.iastore, 0), some (.aload_n 0, 0), some (.getfield 18, 5), none, none, some (.iload 4, 0), none, some (.iload_n 2, 0), some (.iastore, 0), some (.aload_n 0, 0), some (.getfield 21, 6), none, none, some (.iload 4, 0)],
  [none, some (.iload_n 3, 0), some (.iastore, 0), some (.aload_n 0, 0), some (.dup, 0), some (.getfield 54, 15), none, none, some (.iconst 1, 0), some (.iadd, 0), some (.putfield 54, 15), none, none, some (.iload 4, 0), none, some (.ireturn, 0)]]
def tb_m32 : ab_M := (⟨"ScrewLeft$Job", "add", "(III)I"⟩, prog_7_method_3_code, 5, (some .int), 0, 0, (2055, 2054, 1009), tb_t32)
def tb_t33 : ab_T := [
  [some (.iload_n 1, 0), some (.ifCond .lt 15, 16), none, none, some (.iload_n 1, 0), some (.aload_n 0, 0), some (.getfield 54, 15), none, none, some (.if_icmp .ge 7, 16), none, none, some (.iconst 1, 0), some (.goto 4, 17), none, none],
  [some (.iconst 0, 0), some (.ireturn, 0)]]
def tb_m33 : ab_M := (⟨"ScrewLeft$Job", "has", "(I)Z"⟩, prog_7_method_4_code, 2, (some .boolean), 0, 0, (2063, 2062, 1009), tb_t33)
def tb_t34 : ab_T := [
  [some (.aload_n 0, 0), some (.getfield 63, 16), none, none, some (.iload_n 1, 0), some (.invokestatic 96, 32), none, none, some (.ireturn, 0)]]
def tb_m34 : ab_M := (⟨"ScrewLeft$Job", "isDone", "(I)Z"⟩, prog_7_method_6_code, 2, (some .boolean), 0, 0, (2067, 2066, 1009), tb_t34)
def tb_t35 : ab_T := [
  [some (.aload_n 0, 0), some (.getfield 66, 17), none, none, some (.iload_n 1, 0), some (.invokestatic 96, 32), none, none, some (.ireturn, 0)]]
def tb_m35 : ab_M := (⟨"ScrewLeft$Job", "isWrong", "(I)Z"⟩, prog_7_method_7_code, 2, (some .boolean), 0, 0, (2074, 2073, 1009), tb_t35)
def tb_t36 : ab_T := [
  [some (.aload_n 0, 0), some (.iload_n 1, 0), some (.invokevirtual 88, 33), none, none, some (.ifCond .ne 5, 10), none, none, some (.iconst 0, 0), some (.ireturn, 0), some (.aload_n 0, 0), some (.aload_n 0, 0), some (.getfield 18, 5), none, none, some (.iload_n 1, 0)],
  [some (.iaload, 0), some (.aload_n 0, 0), some (.getfield 15, 4), none, none, some (.iload_n 1, 0), some (.iaload, 0), some (.aload_n 0, 0), some (.invokevirtual 123, 34), none, none, some (.invokevirtual 127, 35), none, none, some (.istore_n 2, 0), some (.aload_n 0, 0)],
  [some (.iload_n 1, 0), some (.invokevirtual 130, 36), none, none, some (.iload_n 2, 0), some (.aload_n 0, 0), some (.getfield 24, 7), none, none, some (.aload_n 0, 0), some (.getfield 15, 4), none, none, some (.iload_n 1, 0), some (.iaload, 0), some (.aload_n 0, 0)],
  [some (.getfield 18, 5), none, none, some (.iload_n 1, 0), some (.iaload, 0), some (.invokevirtual 134, 37), none, none, some (.ireturn, 0)]]
def tb_m36 : ab_M := (⟨"ScrewLeft$Job", "lasts", "(I)I"⟩, prog_7_method_12_code, 3, (some .int), 0, 0, (2078, 2077, 1009), tb_t36)
def tb_t37 : ab_T := [
  [some (.bipush 9, 0), none, some (.aload_n 0, 0), some (.getfield 69, 18), none, none, some (.bipush 30, 0), none, some (.idiv, 0), some (.invokestatic 106, 38), none, none, some (.ireturn, 0)]]
def tb_m37 : ab_M := (⟨"ScrewLeft$Job", "tired", "()I"⟩, prog_7_method_9_code, 1, (some .int), 0, 0, (2083, 2082, 1009), tb_t37)
def tb_t38 : ab_T := [
  [some (.aload_n 0, 0), some (.getfield 34, 9), none, none, some (.invokevirtual 112, 39), none, none, some (.ifCond .eq 16, 23), none, none, some (.aload_n 0, 0), some (.getfield 34, 9), none, none, some (.iload_n 1, 0), some (.iload_n 2, 0)],
  [some (.iload_n 3, 0), some (.invokevirtual 116, 40), none, none, some (.goto 8, 28), none, none, some (.iconst 1, 0), some (.iload_n 1, 0), some (.iadd, 0), some (.iload_n 3, 0), some (.iadd, 0), some (.istore 4, 0), none, some (.iconst 1, 0), some (.bipush 99, 0)],
  [none, some (.iload 4, 0), none, some (.invokestatic 106, 38), none, none, some (.invokestatic 120, 41), none, none, some (.ireturn, 0)]]
def tb_m38 : ab_M := (⟨"ScrewLeft$Job", "lastsBy", "(III)I"⟩, prog_7_method_10_code, 5, (some .int), 0, 0, (2090, 2089, 1009), tb_t38)
def tb_t39 : ab_T := [
  [some (.aload_n 0, 0), some (.iload_n 1, 0), some (.invokevirtual 88, 33), none, none, some (.ifCond .eq 12, 17), none, none, some (.aload_n 0, 0), some (.getfield 9, 3), none, none, some (.iload_n 1, 0), some (.iaload, 0), some (.goto 4, 18), none],
  [none, some (.iconst 0, 0), some (.istore_n 2, 0), some (.aload_n 0, 0), some (.getfield 50, 14), none, none, some (.iload_n 2, 0), some (.iconst 0, 0), some (.aload_n 0, 0), some (.getfield 50, 14), none, none, some (.arraylength, 0), some (.iconst 1, 0), some (.isub, 0)],
  [some (.invokestatic 92, 42), none, none, some (.ifCond .eq 7, 42), none, none, some (.iload_n 2, 0), some (.goto 4, 43), none, none, some (.iconst 0, 0), some (.aaload, 0), some (.areturn, 0)]]
def tb_m39 : ab_M := (⟨"ScrewLeft$Job", "kindOf", "(I)LScrewLeft$Step;"⟩, prog_7_method_5_code, 3, (some (.object "ScrewLeft$Step")), 0, 0, (2111, 2110, 1009), tb_t39)
def tb_t40 : ab_T := [
  [some (.aload_n 0, 0), some (.iload_n 1, 0), some (.invokevirtual 130, 36), none, none, some (.aload_n 0, 0), some (.iload_n 1, 0), some (.invokevirtual 140, 43), none, none, some (.invokevirtual 143, 44), none, none, some (.ireturn, 0)]]
def tb_m40 : ab_M := (⟨"ScrewLeft$Job", "takesBack", "(I)I"⟩, prog_7_method_13_code, 2, (some .int), 0, 0, (2142, 2141, 1009), tb_t40)
def tb_t41 : ab_T := [
  [some (.aload_n 0, 0), some (.iload_n 1, 0), some (.invokevirtual 88, 33), none, none, some (.ifCond .eq 11, 16), none, none, some (.aload_n 0, 0), some (.iload_n 1, 0), some (.invokevirtual 146, 45), none, none, some (.ifCond .eq 5, 18), none, none],
  [some (.iconst 0, 0), some (.ireturn, 0), some (.aload_n 0, 0), some (.getfield 21, 6), none, none, some (.iload_n 1, 0), some (.iaload, 0), some (.aload_n 0, 0), some (.getfield 63, 16), none, none, some (.iconst (-1), 0), some (.ixor, 0), some (.iand, 0), some (.ifCond .ne 20, 51)],
  [none, none, some (.aload_n 0, 0), some (.getfield 28, 8), none, none, some (.aload_n 0, 0), some (.getfield 18, 5), none, none, some (.iload_n 1, 0), some (.iaload, 0), some (.if_icmp .lt 7, 51), none, none, some (.iconst 1, 0)],
  [some (.goto 4, 52), none, none, some (.iconst 0, 0), some (.istore_n 2, 0), some (.iload_n 2, 0), some (.ifCond .eq 22, 76), none, none, some (.aload_n 0, 0), some (.getfield 24, 7), none, none, some (.aload_n 0, 0), some (.iload_n 1, 0), some (.invokevirtual 130, 36)],
  [none, none, some (.invokevirtual 149, 46), none, none, some (.if_icmp .lt 7, 76), none, none, some (.iconst 1, 0), some (.goto 4, 77), none, none, some (.iconst 0, 0), some (.ireturn, 0)]]
def tb_m41 : ab_M := (⟨"ScrewLeft$Job", "mayBeDone", "(I)Z"⟩, prog_7_method_14_code, 3, (some .boolean), 0, 0, (2160, 2159, 1009), tb_t41)
def tb_t42 : ab_T := [
  [some (.aload_n 0, 0), some (.iload_n 1, 0), some (.invokevirtual 88, 33), none, none, some (.ifCond .eq 22, 27), none, none, some (.aload_n 0, 0), some (.iload_n 1, 0), some (.invokevirtual 146, 45), none, none, some (.ifCond .eq 14, 27), none, none],
  [some (.aload_n 0, 0), some (.iload_n 1, 0), some (.invokevirtual 130, 36), none, none, some (.invokevirtual 152, 47), none, none, some (.ifCond .eq 5, 29), none, none, some (.iconst 0, 0), some (.ireturn, 0), some (.iconst 0, 0), some (.istore_n 2, 0), some (.iload_n 1, 0)],
  [some (.iconst 1, 0), some (.iadd, 0), some (.istore_n 3, 0), some (.iload_n 3, 0), some (.aload_n 0, 0), some (.getfield 54, 15), none, none, some (.if_icmp .ge 40, 80), none, none, some (.iload_n 2, 0), some (.ifCond .ne 24, 68), none, none, some (.aload_n 0, 0)],
  [some (.iload_n 3, 0), some (.invokevirtual 146, 45), none, none, some (.ifCond .eq 20, 72), none, none, some (.aload_n 0, 0), some (.getfield 21, 6), none, none, some (.iload_n 3, 0), some (.iaload, 0), some (.iload_n 1, 0), some (.invokestatic 96, 32), none],
  [none, some (.ifCond .eq 7, 72), none, none, some (.iconst 1, 0), some (.goto 4, 73), none, none, some (.iconst 0, 0), some (.istore_n 2, 0), some (.iinc 3 1, 0), none, none, some (.goto (-42), 35), none, none],
  [some (.iload_n 2, 0), some (.ifCond .ne 7, 88), none, none, some (.iconst 1, 0), some (.goto 4, 89), none, none, some (.iconst 0, 0), some (.ireturn, 0)]]
def tb_m42 : ab_M := (⟨"ScrewLeft$Job", "mayBeUndone", "(I)Z"⟩, prog_7_method_15_code, 4, (some .boolean), 0, 0, (2178, 2177, 1009), tb_t42)
def tb_t43 : ab_T := [
  [some (.aload_n 0, 0), some (.getfield 38, 10), none, none, some (.invokevirtual 112, 39), none, none, some (.ifCond .eq 22, 29), none, none, some (.iconst 0, 0), some (.iconst 1, 0), some (.aload_n 0, 0), some (.getfield 38, 10), none, none],
  [some (.iload_n 1, 0), some (.iload_n 2, 0), some (.iload_n 3, 0), some (.invokevirtual 116, 40), none, none, some (.invokestatic 106, 38), none, none, some (.invokestatic 120, 41), none, none, some (.ireturn, 0), some (.iload_n 1, 0), some (.iload_n 2, 0), some (.iadd, 0)],
  [some (.bipush 9, 0), none, some (.if_icmp .le 7, 41), none, none, some (.iconst 1, 0), some (.goto 4, 42), none, none, some (.iconst 0, 0), some (.ireturn, 0)]]
def tb_m43 : ab_M := (⟨"ScrewLeft$Job", "errsBy", "(III)I"⟩, prog_7_method_11_code, 4, (some .int), 0, 0, (3121, 3120, 1009), tb_t43)
def tb_t44 : ab_T := [
  [some (.aload_n 0, 0), some (.iload_n 1, 0), some (.invokevirtual 88, 33), none, none, some (.ifCond .eq 50, 55), none, none, some (.aload_n 0, 0), some (.aload_n 0, 0), some (.getfield 15, 4), none, none, some (.iload_n 1, 0), some (.iaload, 0), some (.aload_n 0, 0)],
  [some (.invokevirtual 123, 34), none, none, some (.aload_n 0, 0), some (.getfield 9, 3), none, none, some (.iload_n 1, 0), some (.iaload, 0), some (.invokevirtual 158, 48), none, none, some (.istore_n 2, 0), some (.aload_n 0, 0), some (.aload_n 0, 0), some (.getfield 66, 17)],
  [none, none, some (.iload_n 1, 0), some (.iload_n 2, 0), some (.ifCond .eq 7, 43), none, none, some (.iconst 1, 0), some (.goto 4, 44), none, none, some (.iconst 0, 0), some (.invokestatic 161, 49), none, none, some (.putfield 66, 17)],
  [none, none, some (.aload_n 0, 0), some (.iload_n 1, 0), some (.invokevirtual 165, 50), none, none, some (.return_, 0)]]
def tb_m44 : ab_M := (⟨"ScrewLeft$Job", "finish", "(I)V"⟩, prog_7_method_17_code, 3, none, 0, 0, (3129, 3128, 1009), tb_t44)
def tb_t45 : ab_T := [
  [some (.aload_n 0, 0), some (.iload_n 1, 0), some (.invokevirtual 88, 33), none, none, some (.ifCond .eq 45, 50), none, none, some (.aload_n 0, 0), some (.dup, 0), some (.getfield 69, 18), none, none, some (.aload_n 0, 0), some (.iload_n 1, 0), some (.invokevirtual 140, 43)],
  [none, none, some (.iadd, 0), some (.putfield 69, 18), none, none, some (.aload_n 0, 0), some (.dup, 0), some (.getfield 28, 8), none, none, some (.aload_n 0, 0), some (.getfield 18, 5), none, none, some (.iload_n 1, 0)],
  [some (.iaload, 0), some (.isub, 0), some (.putfield 28, 8), none, none, some (.aload_n 0, 0), some (.aload_n 0, 0), some (.getfield 63, 16), none, none, some (.iload_n 1, 0), some (.iconst 1, 0), some (.invokestatic 161, 49), none, none, some (.putfield 63, 16)],
  [none, none, some (.return_, 0)]]
def tb_m45 : ab_M := (⟨"ScrewLeft$Job", "pass", "(I)V"⟩, prog_7_method_18_code, 2, none, 0, 0, (3135, 3134, 1009), tb_t45)
def tb_t46 : ab_T := [
  [some (.aload_n 0, 0), some (.iload_n 1, 0), some (.invokevirtual 88, 33), none, none, some (.ifCond .eq 70, 75), none, none, some (.aload_n 0, 0), some (.dup, 0), some (.getfield 69, 18), none, none, some (.aload_n 0, 0), some (.iload_n 1, 0), some (.invokevirtual 169, 51)],
  [none, none, some (.iadd, 0), some (.putfield 69, 18), none, none, some (.aload_n 0, 0), some (.sipush 999, 0), none, none, some (.aload_n 0, 0), some (.getfield 28, 8), none, none, some (.iconst 0, 0), some (.aload_n 0, 0)],
  [some (.getfield 18, 5), none, none, some (.iload_n 1, 0), some (.iaload, 0), some (.iconst 1, 0), some (.isub, 0), some (.invokestatic 120, 41), none, none, some (.iadd, 0), some (.invokestatic 106, 38), none, none, some (.putfield 28, 8), none],
  [none, some (.aload_n 0, 0), some (.aload_n 0, 0), some (.getfield 63, 16), none, none, some (.iload_n 1, 0), some (.iconst 0, 0), some (.invokestatic 161, 49), none, none, some (.putfield 63, 16), none, none, some (.aload_n 0, 0), some (.aload_n 0, 0)],
  [some (.getfield 66, 17), none, none, some (.iload_n 1, 0), some (.iconst 0, 0), some (.invokestatic 161, 49), none, none, some (.putfield 66, 17), none, none, some (.return_, 0)]]
def tb_m46 : ab_M := (⟨"ScrewLeft$Job", "takeApart", "(I)V"⟩, prog_7_method_20_code, 2, none, 0, 0, (3143, 3142, 1009), tb_t46)
def tb_t47 : ab_T := [
  [some (.aload_n 0, 0), some (.aload_n 0, 0), some (.getfield 47, 13), none, none, some (.ldc 172, 0), none, some (.imul, 0), some (.sipush 12345, 0), none, none, some (.iadd, 0), some (.putfield 47, 13), none, none, some (.aload_n 0, 0)],
  [some (.getfield 47, 13), none, none, some (.bipush 8, 0), none, some (.iushr, 0), some (.ireturn, 0)]]
def tb_m47 : ab_M := (⟨"ScrewLeft$Job", "draw", "()I"⟩, prog_7_method_23_code, 1, (some .int), 0, 0, (3152, 3151, 1009), tb_t47)
def tb_t48 : ab_T := [
  [some (.aload_n 0, 0), some (.aload_n 1, 0), some (.getfield 54, 15), none, none, some (.putfield 54, 15), none, none, some (.aload_n 1, 0), some (.getfield 9, 3), none, none, some (.iconst 0, 0), some (.aload_n 0, 0), some (.getfield 9, 3), none],
  [none, some (.iconst 0, 0), some (.bipush 8, 0), none, some (.invokestatic 57, 52), none, none, some (.aload_n 1, 0), some (.getfield 15, 4), none, none, some (.iconst 0, 0), some (.aload_n 0, 0), some (.getfield 15, 4), none, none],
  [some (.iconst 0, 0), some (.bipush 8, 0), none, some (.invokestatic 57, 52), none, none, some (.aload_n 1, 0), some (.getfield 18, 5), none, none, some (.iconst 0, 0), some (.aload_n 0, 0), some (.getfield 18, 5), none, none, some (.iconst 0, 0)],
  [some (.bipush 8, 0), none, some (.invokestatic 57, 52), none, none, some (.aload_n 1, 0), some (.getfield 21, 6), none, none, some (.iconst 0, 0), some (.aload_n 0, 0), some (.getfield 21, 6), none, none, some (.iconst 0, 0), some (.bipush 8, 0)],
  [none, some (.invokestatic 57, 52), none, none, some (.aload_n 0, 0), some (.aload_n 1, 0), some (.getfield 63, 16), none, none, some (.putfield 63, 16), none, none, some (.aload_n 0, 0), some (.aload_n 1, 0), some (.getfield 66, 17), none],
  [none, some (.putfield 66, 17), none, none, some (.aload_n 0, 0), some (.aload_n 1, 0), some (.getfield 24, 7), none, none, some (.putfield 24, 7), none, none, some (.aload_n 0, 0), some (.aload_n 1, 0), some (.getfield 28, 8), none],
  [none, some (.putfield 28, 8), none, none, some (.aload_n 0, 0), some (.aload_n 1, 0), some (.getfield 69, 18), none, none, some (.putfield 69, 18), none, none, some (.aload_n 0, 0), some (.getfield 34, 9), none, none],
  [some (.aload_n 1, 0), some (.getfield 34, 9), none, none, some (.getfield 72, 19), none, none, some (.aload_n 1, 0), some (.getfield 34, 9), none, none, some (.getfield 75, 20), none, none, some (.invokevirtual 78, 53), none],
  [none, some (.aload_n 0, 0), some (.getfield 38, 10), none, none, some (.aload_n 1, 0), some (.getfield 38, 10), none, none, some (.getfield 72, 19), none, none, some (.aload_n 1, 0), some (.getfield 38, 10), none, none],
  [some (.getfield 75, 20), none, none, some (.invokevirtual 78, 53), none, none, some (.aload_n 1, 0), some (.getfield 41, 11), none, none, some (.iconst 0, 0), some (.aload_n 0, 0), some (.getfield 41, 11), none, none, some (.iconst 0, 0)],
  [some (.bipush 50, 0), none, some (.invokestatic 57, 52), none, none, some (.aload_n 0, 0), some (.aload_n 1, 0), some (.getfield 82, 21), none, none, some (.putfield 82, 21), none, none, some (.aload_n 1, 0), some (.getfield 44, 12), none],
  [none, some (.iconst 0, 0), some (.aload_n 0, 0), some (.getfield 44, 12), none, none, some (.iconst 0, 0), some (.bipush 20, 0), none, some (.invokestatic 57, 52), none, none, some (.aload_n 0, 0), some (.aload_n 1, 0), some (.getfield 85, 22), none],
  [none, some (.putfield 85, 22), none, none, some (.aload_n 0, 0), some (.aload_n 1, 0), some (.getfield 47, 13), none, none, some (.putfield 47, 13), none, none, some (.return_, 0)]]
def tb_m48 : ab_M := (⟨"ScrewLeft$Job", "take", "(LScrewLeft$Job;)V"⟩, prog_7_method_2_code, 2, none, 0, 0, (3165, 3164, 1009), tb_t48)
def tb_t49 : ab_T := [
  [some (.iconst 0, 0), some (.istore_n 1, 0), some (.iload_n 1, 0), some (.aload_n 0, 0), some (.getfield 54, 15), none, none, some (.if_icmp .ge 19, 26), none, none, some (.aload_n 0, 0), some (.iload_n 1, 0), some (.invokevirtual 155, 54), none, none, some (.ifCond .eq 5, 20)],
  [none, none, some (.iload_n 1, 0), some (.ireturn, 0), some (.iinc 1 1, 0), none, none, some (.goto (-21), 2), none, none, some (.iconst (-1), 0), some (.ireturn, 0)]]
def tb_m49 : ab_M := (⟨"ScrewLeft$Job", "leastThatMay", "()I"⟩, prog_7_method_16_code, 2, (some .int), 0, 0, (3171, 3170, 1009), tb_t49)
def tb_t50 : ab_T := [
  [some (.aload_n 0, 0), some (.getfield 54, 15), none, none, some (.aload_n 0, 0), some (.getfield 63, 16), none, none, some (.invokestatic 100, 55), none, none, some (.isub, 0), some (.ireturn, 0)]]
def tb_m50 : ab_M := (⟨"ScrewLeft$Job", "howManyOpen", "()I"⟩, prog_7_method_8_code, 1, (some .int), 0, 0, (3176, 3175, 1009), tb_t50)
def tb_t51 : ab_T := [
  [some (.aload_n 0, 0), some (.aload_n 0, 0), some (.getfield 63, 16), none, none, some (.iload_n 1, 0), some (.iconst 0, 0), some (.invokestatic 161, 49), none, none, some (.putfield 63, 16), none, none, some (.aload_n 0, 0), some (.iload_n 2, 0), some (.putfield 28, 8)],
  [none, none, some (.aload_n 0, 0), some (.iload_n 3, 0), some (.putfield 69, 18), none, none, some (.return_, 0)]]
def tb_m51 : ab_M := (⟨"ScrewLeft$Job", "unpass", "(III)V"⟩, prog_7_method_19_code, 4, none, 0, 0, (3196, 3195, 1009), tb_t51)
def tb_t52 : ab_T := [
  [some (.iconst 0, 0), some (.istore_n 2, 0), some (.iload_n 1, 0), some (.iconst 1, 0), some (.iadd, 0), some (.istore_n 3, 0), some (.iload_n 3, 0), some (.aload_n 0, 0), some (.getfield 54, 15), none, none, some (.if_icmp .ge 56, 67), none, none, some (.aload_n 0, 0), some (.getfield 21, 6)],
  [none, none, some (.iload_n 3, 0), some (.iaload, 0), some (.iload_n 2, 0), some (.iload_n 1, 0), some (.iconst 1, 0), some (.invokestatic 161, 49), none, none, some (.iand, 0), some (.ifCond .eq 7, 34), none, none, some (.iconst 1, 0), some (.goto 4, 35)],
  [none, none, some (.iconst 0, 0), some (.istore 4, 0), none, some (.iload_n 2, 0), some (.iload_n 3, 0), some (.iload 4, 0), none, some (.ifCond .eq 15, 56), none, none, some (.aload_n 0, 0), some (.iload_n 3, 0), some (.invokevirtual 146, 45), none],
  [none, some (.ifCond .eq 7, 56), none, none, some (.iconst 1, 0), some (.goto 4, 57), none, none, some (.iconst 0, 0), some (.invokestatic 161, 49), none, none, some (.istore_n 2, 0), some (.iinc 3 1, 0), none, none],
  [some (.goto (-58), 6), none, none, some (.iload_n 2, 0), some (.ireturn, 0)]]
def tb_m52 : ab_M := (⟨"ScrewLeft$Job", "restingOn", "(I)I"⟩, prog_7_method_21_code, 5, (some .int), 0, 0, (3204, 3203, 1009), tb_t52)
def tb_t53 : ab_T := [
  [some (.iconst 0, 0), some (.istore_n 2, 0), some (.iconst 0, 0), some (.istore_n 3, 0), some (.iload_n 3, 0), some (.aload_n 0, 0), some (.getfield 54, 15), none, none, some (.if_icmp .ge 30, 39), none, none, some (.iload_n 2, 0), some (.iload_n 1, 0), some (.iload_n 3, 0), some (.invokestatic 96, 32)],
  [none, none, some (.ifCond .eq 12, 30), none, none, some (.aload_n 0, 0), some (.getfield 18, 5), none, none, some (.iload_n 3, 0), some (.iaload, 0), some (.goto 4, 31), none, none, some (.iconst 0, 0), some (.iadd, 0)],
  [some (.istore_n 2, 0), some (.iinc 3 1, 0), none, none, some (.goto (-32), 4), none, none, some (.iload_n 2, 0), some (.ireturn, 0)]]
def tb_m53 : ab_M := (⟨"ScrewLeft$Job", "screwsOf", "(I)I"⟩, prog_7_method_22_code, 4, (some .int), 0, 0, (3231, 3230, 1009), tb_t53)
def tb_t54 : ab_T := [
  [some (.aload_n 0, 0), some (.invokespecial 3, 56), none, none, some (.aload_n 0, 0), some (.bipush 50, 0), none, some (.newarray .int, 0), none, some (.putfield 9, 23), none, none, some (.aload_n 0, 0), some (.bipush 50, 0), none, some (.newarray .int, 0)],
  [none, some (.putfield 15, 24), none, none, some (.return_, 0)]]
def tb_m54 : ab_M := (⟨"ScrewLeft$Text", "<init>", "()V"⟩, prog_11_method_1_code, 1, none, 2, 100, (1095, 1094, 1010), tb_t54)
def tb_t55 : ab_T := [
  [some (.aload_n 0, 0), some (.getfield 24, 25), none, none, some (.ifCond .le 7, 11), none, none, some (.iconst 1, 0), some (.goto 4, 12), none, none, some (.iconst 0, 0), some (.ireturn, 0)]]
def tb_m55 : ab_M := (⟨"ScrewLeft$Text", "isGiven", "()Z"⟩, prog_11_method_3_code, 1, (some .boolean), 0, 0, (2094, 2093, 1010), tb_t55)
def tb_t56 : ab_T := [
  [some (.iconst 0, 0), some (.istore 4, 0), none, some (.iconst 0, 0), some (.istore 5, 0), none, some (.iload 5, 0), none, some (.aload_n 0, 0), some (.getfield 24, 25), none, none, some (.if_icmp .ge 138, 150), none, none, some (.aload_n 0, 0)],
  [some (.getfield 9, 23), none, none, some (.iload 5, 0), none, some (.iaload, 0), some (.istore 6, 0), none, some (.iload 6, 0), none, some (.bipush (-3), 0), none, some (.if_icmp .lt 34, 62), none, none, some (.iload 4, 0)],
  [none, some (.aload_n 0, 0), some (.getfield 15, 24), none, none, some (.arraylength, 0), some (.if_icmp .ge 24, 62), none, none, some (.aload_n 0, 0), some (.getfield 15, 24), none, none, some (.iload 4, 0), none, some (.iload 6, 0)],
  [none, some (.iload_n 1, 0), some (.iload_n 2, 0), some (.iload_n 3, 0), some (.invokestatic 28, 57), none, none, some (.iastore, 0), some (.iinc 4 1, 0), none, none, some (.goto 85, 144), none, none, some (.iload 6, 0), none],
  [some (.bipush (-33), 0), none, some (.if_icmp .ne 38, 104), none, none, some (.iload 4, 0), none, some (.iconst 1, 0), some (.if_icmp .lt 32, 104), none, none, some (.aload_n 0, 0), some (.getfield 15, 24), none, none, some (.iload 4, 0)],
  [none, some (.iconst 1, 0), some (.isub, 0), some (.aload_n 0, 0), some (.getfield 15, 24), none, none, some (.iload 4, 0), none, some (.iconst 1, 0), some (.isub, 0), some (.iaload, 0), some (.ifCond .ne 7, 99), none, none, some (.iconst 1, 0)],
  [some (.goto 4, 100), none, none, some (.iconst 0, 0), some (.iastore, 0), some (.goto 43, 144), none, none, some (.iload 4, 0), none, some (.iconst 2, 0), some (.if_icmp .lt 37, 144), none, none, some (.iinc 4 (-1), 0), none],
  [none, some (.aload_n 0, 0), some (.getfield 15, 24), none, none, some (.iload 4, 0), none, some (.iconst 1, 0), some (.isub, 0), some (.iload 6, 0), none, some (.ineg, 0), some (.aload_n 0, 0), some (.getfield 15, 24), none, none],
  [some (.iload 4, 0), none, some (.iconst 1, 0), some (.isub, 0), some (.iaload, 0), some (.aload_n 0, 0), some (.getfield 15, 24), none, none, some (.iload 4, 0), none, some (.iaload, 0), some (.invokestatic 32, 58), none, none, some (.iastore, 0)],
  [some (.iinc 5 1, 0), none, none, some (.goto (-141), 6), none, none, some (.aload_n 0, 0), some (.getfield 15, 24), none, none, some (.iconst 0, 0), some (.iaload, 0), some (.ireturn, 0)]]
def tb_m56 : ab_M := (⟨"ScrewLeft$Text", "workedOut", "(III)I"⟩, prog_11_method_4_code, 7, (some .int), 0, 0, (2098, 2097, 1010), tb_t56)
def tb_t57 : ab_T := [
  [some (.iload_n 0, 0), some (.tableswitch 33 (-3) (-1) #[31, 29, 27], 0), none, none, none, none, none, none, none, none, none, none, none, none, none, none],
  [none, none, none, none, none, none, none, none, none, none, none, none, some (.iload_n 1, 0), some (.ireturn, 0), some (.iload_n 2, 0), some (.ireturn, 0)],
  [some (.iload_n 3, 0), some (.ireturn, 0), some (.iload_n 0, 0), some (.ireturn, 0)]]
def tb_m57 : ab_M := (⟨"ScrewLeft$Text", "valueOf", "(IIII)I"⟩, prog_11_method_5_code, 4, (some .int), 0, 0, (2101, 2100, 1010), tb_t57)
def tb_t58 : ab_T := [
  [some (.iload_n 0, 0), some (.lookupswitch 168 #[(38, 97), (42, 152), (43, 144), (45, 148), (47, 156), (60, 111), (61, 122), (62, 133), (124, 83)], 0), none, none, none, none, none, none, none, none, none, none, none, none, none, none],
  [none, none, none, none, none, none, none, none, none, none, none, none, none, none, none, none],
  [none, none, none, none, none, none, none, none, none, none, none, none, none, none, none, none],
  [none, none, none, none, none, none, none, none, none, none, none, none, none, none, none, none],
  [none, none, none, none, none, none, none, none, none, none, none, none, none, none, none, none],
  [none, none, none, none, some (.iload_n 1, 0), some (.ifCond .ne 7, 92), none, none, some (.iload_n 2, 0), some (.ifCond .eq 7, 96), none, none, some (.iconst 1, 0), some (.goto 4, 97), none, none],
  [some (.iconst 0, 0), some (.ireturn, 0), some (.iload_n 1, 0), some (.ifCond .eq 11, 110), none, none, some (.iload_n 2, 0), some (.ifCond .eq 7, 110), none, none, some (.iconst 1, 0), some (.goto 4, 111), none, none, some (.iconst 0, 0), some (.ireturn, 0)],
  [some (.iload_n 1, 0), some (.iload_n 2, 0), some (.if_icmp .ge 7, 121), none, none, some (.iconst 1, 0), some (.goto 4, 122), none, none, some (.iconst 0, 0), some (.ireturn, 0), some (.iload_n 1, 0), some (.iload_n 2, 0), some (.if_icmp .ne 7, 132), none, none],
  [some (.iconst 1, 0), some (.goto 4, 133), none, none, some (.iconst 0, 0), some (.ireturn, 0), some (.iload_n 1, 0), some (.iload_n 2, 0), some (.if_icmp .le 7, 143), none, none, some (.iconst 1, 0), some (.goto 4, 144), none, none, some (.iconst 0, 0)],
  [some (.ireturn, 0), some (.iload_n 1, 0), some (.iload_n 2, 0), some (.iadd, 0), some (.ireturn, 0), some (.iload_n 1, 0), some (.iload_n 2, 0), some (.isub, 0), some (.ireturn, 0), some (.iload_n 1, 0), some (.iload_n 2, 0), some (.imul, 0), some (.ireturn, 0), some (.iload_n 2, 0), some (.ifCond .ne 7, 165), none],
  [none, some (.iconst 0, 0), some (.goto 6, 168), none, none, some (.iload_n 1, 0), some (.iload_n 2, 0), some (.idiv, 0), some (.ireturn, 0), some (.iload_n 2, 0), some (.ifCond .ne 7, 177), none, none, some (.iconst 0, 0), some (.goto 6, 180), none],
  [none, some (.iload_n 1, 0), some (.iload_n 2, 0), some (.irem, 0), some (.ireturn, 0)]]
def tb_m58 : ab_M := (⟨"ScrewLeft$Text", "joined", "(III)I"⟩, prog_11_method_6_code, 3, (some .int), 0, 0, (2104, 2103, 1010), tb_t58)
def tb_t59 : ab_T := [
  [some (.iload_n 2, 0), some (.ifCond .lt 34, 35), none, none, some (.iload_n 2, 0), some (.aload_n 0, 0), some (.getfield 9, 23), none, none, some (.arraylength, 0), some (.if_icmp .gt 25, 35), none, none, some (.iload_n 2, 0), some (.aload_n 1, 0), some (.arraylength, 0)],
  [some (.if_icmp .gt 19, 35), none, none, some (.aload_n 1, 0), some (.iconst 0, 0), some (.aload_n 0, 0), some (.getfield 9, 23), none, none, some (.iconst 0, 0), some (.iload_n 2, 0), some (.invokestatic 18, 59), none, none, some (.aload_n 0, 0), some (.iload_n 2, 0)],
  [some (.putfield 24, 25), none, none, some (.return_, 0)]]
def tb_m59 : ab_M := (⟨"ScrewLeft$Text", "hold", "([II)V"⟩, prog_11_method_2_code, 3, none, 0, 0, (3109, 3108, 1010), tb_t59)
def tb_t60 : ab_T := [
  [some (.aload_n 0, 0), some (.invokespecial 3, 60), none, none, some (.aload_n 0, 0), some (.iconst 0, 0), some (.newarray .int, 0), none, some (.putfield 9, 26), none, none, some (.aload_n 0, 0), some (.ldc 15, 1), none, some (.putfield 17, 27), none],
  [none, some (.aload_n 0, 0), some (.bipush 50, 0), none, some (.newarray .int, 0), none, some (.putfield 21, 28), none, none, some (.return_, 0)]]
def tb_m60 : ab_M := (⟨"ScrewLeft$Reader", "<init>", "()V"⟩, prog_8_method_1_code, 1, none, 2, 50, (1186, 1185, 1011), tb_t60)
def tb_t61 : ab_T := [
  [some (.aload_n 0, 0), some (.aload_n 1, 0), some (.putfield 9, 26), none, none, some (.aload_n 0, 0), some (.iload_n 2, 0), some (.aload_n 1, 0), some (.arraylength, 0), some (.invokestatic 24, 61), none, none, some (.putfield 30, 29), none, none, some (.aload_n 0, 0)],
  [some (.aload_n 3, 0), some (.putfield 17, 27), none, none, some (.aload_n 0, 0), some (.iconst 0, 0), some (.putfield 34, 30), none, none, some (.aload_n 0, 0), some (.iconst 0, 0), some (.putfield 37, 31), none, none, some (.aload_n 0, 0), some (.iconst 0, 0)],
  [some (.putfield 41, 32), none, none, some (.aload_n 0, 0), some (.iconst 0, 0), some (.iconst 0, 0), some (.invokestatic 44, 62), none, none, some (.aload_n 0, 0), some (.getfield 37, 31), none, none, some (.ifCond .ne 14, 59), none, none],
  [some (.aload_n 0, 0), some (.getfield 34, 30), none, none, some (.aload_n 0, 0), some (.getfield 30, 29), none, none, some (.if_icmp .ge 10, 66), none, none, some (.aload_n 0, 0), some (.getfield 34, 30), none, none, some (.goto 4, 67)],
  [none, none, some (.iconst (-1), 0), some (.ireturn, 0)]]
def tb_m61 : ab_M := (⟨"ScrewLeft$Reader", "read", "([IILjava/lang/String;)I"⟩, prog_8_method_2_code, 4, (some .int), 0, 0, (2234, 2233, 1011), tb_t61)
def tb_t62 : ab_T := [
  [some (.iload_n 1, 0), some (.iconst 5, 0), some (.if_icmp .lt 9, 11), none, none, some (.aload_n 0, 0), some (.iload_n 2, 0), some (.invokestatic 48, 63), none, none, some (.return_, 0), some (.aload_n 0, 0), some (.iload_n 1, 0), some (.iconst 1, 0), some (.iadd, 0), some (.iload_n 2, 0)],
  [some (.invokestatic 44, 62), none, none, some (.iload_n 1, 0), some (.iconst 2, 0), some (.if_icmp .ne 7, 28), none, none, some (.iconst 1, 0), some (.goto 5, 30), none, none, some (.bipush 50, 0), none, some (.istore_n 3, 0), some (.iconst 0, 0)],
  [some (.istore 4, 0), none, some (.iload 4, 0), none, some (.iload_n 3, 0), some (.if_icmp .ge 51, 88), none, none, some (.iload_n 1, 0), some (.aload_n 0, 0), some (.invokevirtual 52, 64), none, none, some (.invokestatic 56, 65), none, none],
  [some (.ifCond .eq 40, 88), none, none, some (.aload_n 0, 0), some (.invokevirtual 52, 64), none, none, some (.istore 5, 0), none, some (.aload_n 0, 0), some (.dup, 0), some (.getfield 34, 30), none, none, some (.iconst 1, 0), some (.iadd, 0)],
  [some (.putfield 34, 30), none, none, some (.aload_n 0, 0), some (.iload_n 1, 0), some (.iconst 1, 0), some (.iadd, 0), some (.iload_n 2, 0), some (.invokestatic 44, 62), none, none, some (.aload_n 0, 0), some (.iload 5, 0), none, some (.ineg, 0), some (.invokevirtual 60, 66)],
  [none, none, some (.iinc 4 1, 0), none, none, some (.goto (-51), 34), none, none, some (.return_, 0)]]
def tb_m62 : ab_M := (⟨"ScrewLeft$Reader", "readRank", "(LScrewLeft$Reader;II)V"⟩, prog_8_method_5_code, 6, none, 0, 0, (2238, 2237, 1011), tb_t62)
def tb_t63 : ab_T := [
  [some (.aload_n 0, 0), some (.invokevirtual 52, 64), none, none, some (.istore_n 2, 0), some (.iload_n 2, 0), some (.ifCond .ge 7, 13), none, none, some (.iconst (-1), 0), some (.goto 12, 22), none, none, some (.aload_n 0, 0), some (.getfield 17, 27), none],
  [none, some (.iload_n 2, 0), some (.i2c, 0), some (.invokevirtual 64, 67), none, none, some (.istore_n 3, 0), some (.iload_n 2, 0), some (.invokestatic 70, 68), none, none, some (.ifCond .eq 10, 37), none, none, some (.aload_n 0, 0), some (.invokevirtual 74, 69)],
  [none, none, some (.goto 105, 139), none, none, some (.iload_n 3, 0), some (.ifCond .lt 23, 61), none, none, some (.aload_n 0, 0), some (.dup, 0), some (.getfield 34, 30), none, none, some (.iconst 1, 0), some (.iadd, 0)],
  [some (.putfield 34, 30), none, none, some (.aload_n 0, 0), some (.iconst (-1), 0), some (.iload_n 3, 0), some (.isub, 0), some (.invokevirtual 60, 66), none, none, some (.goto 81, 139), none, none, some (.iload_n 2, 0), some (.bipush 33, 0), none],
  [some (.if_icmp .ne 34, 98), none, none, some (.iload_n 1, 0), some (.iconst 5, 0), some (.if_icmp .ge 29, 98), none, none, some (.aload_n 0, 0), some (.dup, 0), some (.getfield 34, 30), none, none, some (.iconst 1, 0), some (.iadd, 0), some (.putfield 34, 30)],
  [none, none, some (.aload_n 0, 0), some (.iload_n 1, 0), some (.iconst 1, 0), some (.iadd, 0), some (.invokestatic 48, 63), none, none, some (.aload_n 0, 0), some (.bipush (-33), 0), none, some (.invokevirtual 60, 66), none, none, some (.goto 44, 139)],
  [none, none, some (.iload_n 2, 0), some (.bipush 40, 0), none, some (.if_icmp .ne 33, 134), none, none, some (.iload_n 1, 0), some (.iconst 5, 0), some (.if_icmp .ge 28, 134), none, none, some (.aload_n 0, 0), some (.dup, 0), some (.getfield 34, 30)],
  [none, none, some (.iconst 1, 0), some (.iadd, 0), some (.putfield 34, 30), none, none, some (.aload_n 0, 0), some (.iconst 0, 0), some (.iload_n 1, 0), some (.iconst 1, 0), some (.iadd, 0), some (.invokestatic 44, 62), none, none, some (.aload_n 0, 0)],
  [some (.invokevirtual 77, 70), none, none, some (.goto 8, 139), none, none, some (.aload_n 0, 0), some (.iconst 1, 0), some (.putfield 37, 31), none, none, some (.return_, 0)]]
def tb_m63 : ab_M := (⟨"ScrewLeft$Reader", "readPart", "(LScrewLeft$Reader;I)V"⟩, prog_8_method_7_code, 4, none, 0, 0, (3001, 3000, 1011), tb_t63)
def tb_t64 : ab_T := [
  [some (.aload_n 0, 0), some (.getfield 37, 31), none, none, some (.ifCond .ne 14, 18), none, none, some (.aload_n 0, 0), some (.getfield 34, 30), none, none, some (.aload_n 0, 0), some (.getfield 30, 29), none, none, some (.if_icmp .lt 7, 22)],
  [none, none, some (.iconst (-1), 0), some (.goto 12, 31), none, none, some (.aload_n 0, 0), some (.getfield 9, 26), none, none, some (.aload_n 0, 0), some (.getfield 34, 30), none, none, some (.iaload, 0), some (.ireturn, 0)]]
def tb_m64 : ab_M := (⟨"ScrewLeft$Reader", "ahead", "()I"⟩, prog_8_method_3_code, 1, (some .int), 0, 0, (3005, 3004, 1011), tb_t64)
def tb_t65 : ab_T := [
  [some (.iload_n 0, 0), some (.bipush 48, 0), none, some (.if_icmp .lt 13, 16), none, none, some (.iload_n 0, 0), some (.bipush 57, 0), none, some (.if_icmp .gt 7, 16), none, none, some (.iconst 1, 0), some (.goto 4, 17), none, none],
  [some (.iconst 0, 0), some (.ireturn, 0)]]
def tb_m65 : ab_M := (⟨"ScrewLeft$Reader", "isDigit", "(I)Z"⟩, prog_8_method_10_code, 1, (some .boolean), 0, 0, (3090, 3089, 1011), tb_t65)
def tb_t66 : ab_T := [
  [some (.iconst 0, 0), some (.istore_n 1, 0), some (.iconst 0, 0), some (.istore_n 2, 0), some (.iload_n 2, 0), some (.iconst 4, 0), some (.if_icmp .ge 42, 48), none, none, some (.aload_n 0, 0), some (.invokevirtual 52, 64), none, none, some (.invokestatic 70, 68), none, none],
  [some (.ifCond .eq 32, 48), none, none, some (.iload_n 1, 0), some (.bipush 10, 0), none, some (.imul, 0), some (.aload_n 0, 0), some (.invokevirtual 52, 64), none, none, some (.iadd, 0), some (.bipush 48, 0), none, some (.isub, 0), some (.istore_n 1, 0)],
  [some (.aload_n 0, 0), some (.dup, 0), some (.getfield 34, 30), none, none, some (.iconst 1, 0), some (.iadd, 0), some (.putfield 34, 30), none, none, some (.iinc 2 1, 0), none, none, some (.goto (-41), 4), none, none],
  [some (.aload_n 0, 0), some (.iload_n 1, 0), some (.invokevirtual 60, 66), none, none, some (.return_, 0)]]
def tb_m66 : ab_M := (⟨"ScrewLeft$Reader", "readNumber", "()V"⟩, prog_8_method_9_code, 3, none, 0, 0, (3094, 3093, 1011), tb_t66)
def tb_t67 : ab_T := [
  [some (.aload_n 0, 0), some (.getfield 41, 32), none, none, some (.aload_n 0, 0), some (.getfield 21, 28), none, none, some (.arraylength, 0), some (.if_icmp .ge 23, 32), none, none, some (.aload_n 0, 0), some (.getfield 21, 28), none, none],
  [some (.aload_n 0, 0), some (.getfield 41, 32), none, none, some (.iload_n 1, 0), some (.iastore, 0), some (.aload_n 0, 0), some (.dup, 0), some (.getfield 41, 32), none, none, some (.iconst 1, 0), some (.iadd, 0), some (.putfield 41, 32), none, none],
  [some (.return_, 0)]]
def tb_m67 : ab_M := (⟨"ScrewLeft$Reader", "write", "(I)V"⟩, prog_8_method_4_code, 2, none, 0, 0, (3098, 3097, 1011), tb_t67)
def tb_t68 : ab_T := [
  [some (.aload_n 0, 0), some (.invokevirtual 52, 64), none, none, some (.bipush 41, 0), none, some (.if_icmp .ne 16, 22), none, none, some (.aload_n 0, 0), some (.dup, 0), some (.getfield 34, 30), none, none, some (.iconst 1, 0), some (.iadd, 0)],
  [some (.putfield 34, 30), none, none, some (.goto 8, 27), none, none, some (.aload_n 0, 0), some (.iconst 1, 0), some (.putfield 37, 31), none, none, some (.return_, 0)]]
def tb_m68 : ab_M := (⟨"ScrewLeft$Reader", "close", "()V"⟩, prog_8_method_8_code, 1, none, 0, 0, (3102, 3101, 1011), tb_t68)
def tb_t69 : ab_T := [
  [some (.iload_n 0, 0), some (.tableswitch 97 0 3 #[31, 43, 55, 79], 0), none, none, none, none, none, none, none, none, none, none, none, none, none, none],
  [none, none, none, none, none, none, none, none, none, none, none, none, none, none, none, none],
  [some (.iload_n 1, 0), some (.bipush 124, 0), none, some (.if_icmp .ne 7, 42), none, none, some (.iconst 1, 0), some (.goto 4, 43), none, none, some (.iconst 0, 0), some (.ireturn, 0), some (.iload_n 1, 0), some (.bipush 38, 0), none, some (.if_icmp .ne 7, 54)],
  [none, none, some (.iconst 1, 0), some (.goto 4, 55), none, none, some (.iconst 0, 0), some (.ireturn, 0), some (.iload_n 1, 0), some (.bipush 60, 0), none, some (.if_icmp .eq 15, 74), none, none, some (.iload_n 1, 0), some (.bipush 61, 0)],
  [none, some (.if_icmp .eq 9, 74), none, none, some (.iload_n 1, 0), some (.bipush 62, 0), none, some (.if_icmp .ne 7, 78), none, none, some (.iconst 1, 0), some (.goto 4, 79), none, none, some (.iconst 0, 0), some (.ireturn, 0)],
  [some (.iload_n 1, 0), some (.bipush 43, 0), none, some (.if_icmp .eq 9, 92), none, none, some (.iload_n 1, 0), some (.bipush 45, 0), none, some (.if_icmp .ne 7, 96), none, none, some (.iconst 1, 0), some (.goto 4, 97), none, none],
  [some (.iconst 0, 0), some (.ireturn, 0), some (.iload_n 1, 0), some (.bipush 42, 0), none, some (.if_icmp .eq 15, 116), none, none, some (.iload_n 1, 0), some (.bipush 47, 0), none, some (.if_icmp .eq 9, 116), none, none, some (.iload_n 1, 0), some (.bipush 37, 0)],
  [none, some (.if_icmp .ne 7, 120), none, none, some (.iconst 1, 0), some (.goto 4, 121), none, none, some (.iconst 0, 0), some (.ireturn, 0)]]
def tb_m69 : ab_M := (⟨"ScrewLeft$Reader", "joins", "(II)Z"⟩, prog_8_method_6_code, 2, (some .boolean), 0, 0, (3105, 3104, 1011), tb_t69)
def tb_t70 : ab_T := [
  [some (.aload_n 0, 0), some (.invokespecial 1, 71), none, none, some (.aload_n 0, 0), some (.bipush 40, 0), none, some (.newarray .int, 0), none, some (.putfield 7, 33), none, none, some (.return_, 0)]]
def tb_m70 : ab_M := (⟨"ScrewLeft$Voice", "<init>", "()V"⟩, prog_12_method_1_code, 1, none, 1, 40, (1218, 1217, 1012), tb_t70)
def tb_t71 : ab_T := [
  [some (.aload_n 0, 0), some (.iconst 0, 0), some (.putfield 13, 34), none, none, some (.aload_n 0, 0), some (.iload_n 1, 0), some (.putfield 17, 35), none, none, some (.aload_n 0, 0), some (.iload_n 2, 0), some (.putfield 20, 36), none, none, some (.return_, 0)]]
def tb_m71 : ab_M := (⟨"ScrewLeft$Voice", "start", "(II)V"⟩, prog_12_method_2_code, 3, none, 0, 0, (4021, 4020, 1012), tb_t71)
def tb_t72 : ab_T := [
  [some (.aload_n 0, 0), some (.getfield 13, 34), none, none, some (.aload_n 0, 0), some (.getfield 7, 33), none, none, some (.arraylength, 0), some (.if_icmp .ge 23, 32), none, none, some (.aload_n 0, 0), some (.getfield 7, 33), none, none],
  [some (.aload_n 0, 0), some (.getfield 13, 34), none, none, some (.iload_n 1, 0), some (.iastore, 0), some (.aload_n 0, 0), some (.dup, 0), some (.getfield 13, 34), none, none, some (.iconst 1, 0), some (.iadd, 0), some (.putfield 13, 34), none, none],
  [some (.return_, 0)]]
def tb_m72 : ab_M := (⟨"ScrewLeft$Voice", "begins", "(I)V"⟩, prog_12_method_3_code, 2, none, 0, 0, (4032, 4031, 1012), tb_t72)
def tb_t73 : ab_T := [
  [some (.aload_n 0, 0), some (.invokespecial 1, 72), none, none, some (.aload_n 0, 0), some (.invokestatic 7, 73), none, none, some (.putfield 13, 37), none, none, some (.aload_n 0, 0), some (.new 17, 1), none, none, some (.dup, 0)],
  [some (.aload_n 0, 0), some (.getfield 13, 37), none, none, some (.invokespecial 19, 74), none, none, some (.putfield 22, 38), none, none, some (.aload_n 0, 0), some (.new 17, 1), none, none, some (.dup, 0), some (.aload_n 0, 0)],
  [some (.getfield 13, 37), none, none, some (.invokespecial 19, 74), none, none, some (.putfield 26, 39), none, none, some (.aload_n 0, 0), some (.new 17, 1), none, none, some (.dup, 0), some (.aload_n 0, 0), some (.getfield 13, 37)],
  [none, none, some (.invokespecial 19, 74), none, none, some (.putfield 29, 40), none, none, some (.aload_n 0, 0), some (.new 32, 2), none, none, some (.dup, 0), some (.invokespecial 34, 75), none, none],
  [some (.putfield 35, 41), none, none, some (.aload_n 0, 0), some (.new 39, 3), none, none, some (.dup, 0), some (.invokespecial 41, 76), none, none, some (.putfield 42, 42), none, none, some (.aload_n 0, 0), some (.bipush 6, 0)],
  [none, some (.newarray .int, 0), none, some (.putfield 46, 43), none, none, some (.aload_n 0, 0), some (.iconst 4, 0), some (.bipush 40, 0), none, some (.multianewarray 50 2, 4), none, none, none, some (.putfield 52, 44), none],
  [none, some (.aload_n 0, 0), some (.iconst 4, 0), some (.newarray .int, 0), none, some (.putfield 55, 45), none, none, some (.aload_n 0, 0), some (.iconst 4, 0), some (.newarray .int, 0), none, some (.putfield 58, 46), none, none, some (.aload_n 0, 0)],
  [some (.iconst 5, 0), some (.newarray .int, 0), none, some (.putfield 61, 47), none, none, some (.aload_n 0, 0), some (.iconst 5, 0), some (.newarray .int, 0), none, some (.putfield 64, 48), none, none, some (.return_, 0)]]
def tb_m73 : ab_M := (⟨"ScrewLeft", "<init>", "()V"⟩, prog_1_method_1_code, 1, none, 62, 1274, (1026, 1025, 1001), tb_t73)
def tb_t74 : ab_T := [
  [some (.getstatic 138, 1033), none, none, some (.arraylength, 0), some (.anewarray 247, 5), none, none, some (.astore_n 0, 0), some (.aload_n 0, 0), some (.iconst 0, 0), some (.new 247, 5), none, none, some (.dup, 0), some (.invokespecial 316, 77), none],
  [none, some (.aastore, 0), some (.aload_n 0, 0), some (.iconst 1, 0), some (.new 317, 6), none, none, some (.dup, 0), some (.invokespecial 319, 78), none, none, some (.aastore, 0), some (.aload_n 0, 0), some (.iconst 2, 0), some (.new 320, 7), none],
  [none, some (.dup, 0), some (.invokespecial 322, 79), none, none, some (.aastore, 0), some (.aload_n 0, 0), some (.iconst 3, 0), some (.new 323, 8), none, none, some (.dup, 0), some (.invokespecial 325, 80), none, none, some (.aastore, 0)],
  [some (.aload_n 0, 0), some (.iconst 4, 0), some (.new 326, 9), none, none, some (.dup, 0), some (.invokespecial 328, 81), none, none, some (.aastore, 0), some (.aload_n 0, 0), some (.iconst 5, 0), some (.new 329, 10), none, none, some (.dup, 0)],
  [some (.invokespecial 331, 82), none, none, some (.aastore, 0), some (.aload_n 0, 0), some (.bipush 6, 0), none, some (.new 332, 11), none, none, some (.dup, 0), some (.invokespecial 334, 83), none, none, some (.aastore, 0), some (.aload_n 0, 0)],
  [some (.areturn, 0)]]
def tb_m74 : ab_M := (⟨"ScrewLeft", "allKinds", "()[LScrewLeft$Step;"⟩, prog_1_method_52_code, 1, (some (.array (.object "ScrewLeft$Step"))), 8, 7, (1032, 1031, 1001), tb_t74)
def tb_t75 : ab_T := [
  [some (.iload_n 1, 0), some (.iconst 0, 0), some (.bipush 69, 0), none, some (.invokestatic 67, 84), none, none, some (.ifCond .eq 17, 24), none, none, some (.iload_n 2, 0), some (.iconst 0, 0), some (.bipush 9, 0), none, some (.invokestatic 67, 84), none],
  [none, some (.ifCond .eq 7, 24), none, none, some (.iconst 1, 0), some (.goto 4, 25), none, none, some (.iconst 0, 0), some (.istore 4, 0), none, some (.iload 4, 0), none, some (.ifCond .eq 22, 51), none, none],
  [some (.iload_n 3, 0), some (.iconst 0, 0), some (.iconst 1, 0), some (.aload_n 0, 0), some (.getfield 22, 38), none, none, some (.getfield 71, 49), none, none, some (.ishl, 0), some (.iconst 1, 0), some (.isub, 0), some (.invokestatic 67, 84), none, none],
  [some (.ifCond .ne 9, 57), none, none, some (.aload_n 0, 0), some (.iconst 1, 0), some (.invokevirtual 75, 85), none, none, some (.ireturn, 0), some (.aload_n 0, 0), some (.getfield 22, 38), none, none, some (.getfield 71, 49), none, none],
  [some (.bipush 8, 0), none, some (.if_icmp .lt 9, 75), none, none, some (.aload_n 0, 0), some (.iconst 4, 0), some (.invokevirtual 75, 85), none, none, some (.ireturn, 0), some (.aload_n 0, 0), some (.getfield 22, 38), none, none, some (.iload_n 1, 0)],
  [some (.iload_n 2, 0), some (.iload_n 3, 0), some (.invokevirtual 79, 86), none, none, some (.ireturn, 0)]]
def tb_m75 : ab_M := (⟨"ScrewLeft", "step", "(III)I"⟩, prog_1_method_2_code, 5, (some .int), 0, 0, (2043, 2041, 1001), tb_t75)
def tb_t76 : ab_T := [
  [some (.iload_n 0, 0), some (.iload_n 1, 0), some (.if_icmp .lt 12, 14), none, none, some (.iload_n 0, 0), some (.iload_n 2, 0), some (.if_icmp .gt 7, 14), none, none, some (.iconst 1, 0), some (.goto 4, 15), none, none, some (.iconst 0, 0), some (.ireturn, 0)]]
def tb_m76 : ab_M := (⟨"ScrewLeft", "within", "(III)Z"⟩, prog_1_method_49_code, 3, (some .boolean), 0, 0, (2046, 2045, 1001), tb_t76)
def tb_t77 : ab_T := [
  [some (.iload_n 1, 0), some (.iconst 1, 0), some (.iconst 5, 0), some (.invokestatic 67, 84), none, none, some (.ifCond .eq 13, 19), none, none, some (.aload_n 0, 0), some (.getfield 46, 43), none, none, some (.iload_n 1, 0), some (.dup2, 0), some (.iaload, 0)],
  [some (.iconst 1, 0), some (.iadd, 0), some (.iastore, 0), some (.ldc_w 315, 2), none, none, some (.iload_n 1, 0), some (.isub, 0), some (.ireturn, 0)]]
def tb_m77 : ab_M := (⟨"ScrewLeft", "error", "(I)I"⟩, prog_1_method_48_code, 2, (some .int), 0, 0, (2050, 2049, 1001), tb_t77)
def tb_t78 : ab_T := [
  [some (.aload_n 0, 0), some (.getfield 22, 38), none, none, some (.iload_n 1, 0), some (.invokevirtual 83, 87), none, none, some (.ifCond .ne 9, 17), none, none, some (.aload_n 0, 0), some (.iconst 1, 0), some (.invokevirtual 75, 85), none, none],
  [some (.ireturn, 0), some (.iload_n 2, 0), some (.tableswitch 180 0 9 #[54, 64, 74, 84, 94, 111, 128, 137, 146, 163], 0), none, none, none, none, none, none, none, none, none, none, none, none, none],
  [none, none, none, none, none, none, none, none, none, none, none, none, none, none, none, none],
  [none, none, none, none, none, none, none, none, none, none, none, none, none, none, none, none],
  [none, none, none, none, none, none, none, none, some (.aload_n 0, 0), some (.getfield 22, 38), none, none, some (.getfield 87, 50), none, none, some (.iload_n 1, 0)],
  [some (.iaload, 0), some (.ireturn, 0), some (.aload_n 0, 0), some (.getfield 22, 38), none, none, some (.getfield 90, 51), none, none, some (.iload_n 1, 0), some (.iaload, 0), some (.ireturn, 0), some (.aload_n 0, 0), some (.getfield 22, 38), none, none],
  [some (.getfield 93, 52), none, none, some (.iload_n 1, 0), some (.iaload, 0), some (.ireturn, 0), some (.aload_n 0, 0), some (.getfield 22, 38), none, none, some (.getfield 96, 53), none, none, some (.iload_n 1, 0), some (.iaload, 0), some (.ireturn, 0)],
  [some (.aload_n 0, 0), some (.getfield 22, 38), none, none, some (.iload_n 1, 0), some (.invokevirtual 99, 88), none, none, some (.ifCond .eq 7, 127), none, none, some (.iconst 1, 0), some (.goto 4, 128), none, none, some (.iconst 0, 0)],
  [some (.ireturn, 0), some (.aload_n 0, 0), some (.getfield 22, 38), none, none, some (.iload_n 1, 0), some (.invokevirtual 102, 89), none, none, some (.ifCond .eq 7, 144), none, none, some (.iconst 1, 0), some (.goto 4, 145), none, none],
  [some (.iconst 0, 0), some (.ireturn, 0), some (.aload_n 0, 0), some (.getfield 22, 38), none, none, some (.iload_n 1, 0), some (.invokevirtual 105, 90), none, none, some (.ireturn, 0), some (.aload_n 0, 0), some (.getfield 22, 38), none, none, some (.iload_n 1, 0)],
  [some (.invokevirtual 108, 91), none, none, some (.ireturn, 0), some (.aload_n 0, 0), some (.getfield 22, 38), none, none, some (.iload_n 1, 0), some (.invokevirtual 111, 92), none, none, some (.ifCond .eq 7, 179), none, none, some (.iconst 1, 0)],
  [some (.goto 4, 180), none, none, some (.iconst 0, 0), some (.ireturn, 0), some (.aload_n 0, 0), some (.getfield 22, 38), none, none, some (.iload_n 1, 0), some (.invokevirtual 114, 93), none, none, some (.ifCond .eq 7, 196), none, none],
  [some (.iconst 1, 0), some (.goto 4, 197), none, none, some (.iconst 0, 0), some (.ireturn, 0), some (.aload_n 0, 0), some (.iconst 1, 0), some (.invokevirtual 75, 85), none, none, some (.ireturn, 0)]]
def tb_m78 : ab_M := (⟨"ScrewLeft", "ofStep", "(II)I"⟩, prog_1_method_3_code, 3, (some .int), 0, 0, (2059, 2057, 1001), tb_t78)
def tb_t79 : ab_T := [
  [some (.iload_n 0, 0), some (.iload_n 1, 0), some (.iushr, 0), some (.iconst 1, 0), some (.iand, 0), some (.iconst 1, 0), some (.if_icmp .ne 7, 13), none, none, some (.iconst 1, 0), some (.goto 4, 14), none, none, some (.iconst 0, 0), some (.ireturn, 0)]]
def tb_m79 : ab_M := (⟨"ScrewLeft", "isIn", "(II)Z"⟩, prog_1_method_50_code, 2, (some .boolean), 0, 0, (2070, 2069, 1001), tb_t79)
def tb_t80 : ab_T := [
  [some (.aload_n 0, 0), some (.getfield 22, 38), none, none, some (.iload_n 1, 0), some (.invokevirtual 83, 87), none, none, some (.ifCond .eq 16, 24), none, none, some (.iload_n 3, 0), some (.iconst 0, 0), some (.iload_n 1, 0), some (.iload_n 2, 0), some (.invokestatic 117, 94)],
  [none, none, some (.invokestatic 67, 84), none, none, some (.ifCond .ne 9, 30), none, none, some (.aload_n 0, 0), some (.iconst 1, 0), some (.invokevirtual 75, 85), none, none, some (.ireturn, 0), some (.iload_n 2, 0), some (.ifCond .ne 27, 58)],
  [none, none, some (.aload_n 0, 0), some (.getfield 22, 38), none, none, some (.getfield 93, 52), none, none, some (.iload_n 1, 0), some (.iaload, 0), some (.istore 4, 0), none, some (.aload_n 0, 0), some (.getfield 22, 38), none],
  [none, some (.getfield 93, 52), none, none, some (.iload_n 1, 0), some (.iload_n 3, 0), some (.iastore, 0), some (.goto 95, 150), none, none, some (.iload_n 2, 0), some (.iconst 1, 0), some (.if_icmp .ne 27, 87), none, none, some (.aload_n 0, 0)],
  [some (.getfield 22, 38), none, none, some (.getfield 96, 53), none, none, some (.iload_n 1, 0), some (.iaload, 0), some (.istore 4, 0), none, some (.aload_n 0, 0), some (.getfield 22, 38), none, none, some (.getfield 96, 53), none],
  [none, some (.iload_n 1, 0), some (.iload_n 3, 0), some (.iastore, 0), some (.goto 66, 150), none, none, some (.aload_n 0, 0), some (.getfield 22, 38), none, none, some (.iload_n 1, 0), some (.invokevirtual 99, 88), none, none, some (.ifCond .ne 9, 104)],
  [none, none, some (.aload_n 0, 0), some (.iconst 3, 0), some (.invokevirtual 75, 85), none, none, some (.ireturn, 0), some (.aload_n 0, 0), some (.getfield 22, 38), none, none, some (.iload_n 1, 0), some (.invokevirtual 102, 89), none, none],
  [some (.ifCond .eq 7, 119), none, none, some (.iconst 1, 0), some (.goto 4, 120), none, none, some (.iconst 0, 0), some (.istore 4, 0), none, some (.aload_n 0, 0), some (.getfield 22, 38), none, none, some (.aload_n 0, 0), some (.getfield 22, 38)],
  [none, none, some (.getfield 121, 54), none, none, some (.iload_n 1, 0), some (.iload_n 3, 0), some (.iconst 1, 0), some (.if_icmp .ne 7, 143), none, none, some (.iconst 1, 0), some (.goto 4, 144), none, none, some (.iconst 0, 0)],
  [some (.invokestatic 124, 95), none, none, some (.putfield 121, 54), none, none, some (.iload 4, 0), none, some (.ireturn, 0)]]
def tb_m80 : ab_M := (⟨"ScrewLeft", "change", "(III)I"⟩, prog_1_method_4_code, 5, (some .int), 0, 0, (2195, 2193, 1001), tb_t80)
def tb_t81 : ab_T := [
  [some (.iload_n 1, 0), some (.tableswitch 38 0 2 #[27, 30, 36], 0), none, none, none, none, none, none, none, none, none, none, none, none, none, none],
  [none, none, none, none, none, none, none, none, none, none, none, none, some (.bipush 9, 0), none, some (.ireturn, 0), some (.iconst 1, 0)],
  [some (.iload_n 0, 0), some (.ishl, 0), some (.iconst 1, 0), some (.isub, 0), some (.ireturn, 0), some (.iconst 1, 0), some (.ireturn, 0), some (.iconst (-1), 0), some (.ireturn, 0)]]
def tb_m81 : ab_M := (⟨"ScrewLeft", "mostToChange", "(II)I"⟩, prog_1_method_5_code, 2, (some .int), 0, 0, (2198, 2197, 1001), tb_t81)
def tb_t82 : ab_T := [
  [some (.iload_n 2, 0), some (.ifCond .eq 11, 12), none, none, some (.iload_n 0, 0), some (.iconst 1, 0), some (.iload_n 1, 0), some (.ishl, 0), some (.ior, 0), some (.goto 10, 19), none, none, some (.iload_n 0, 0), some (.iconst 1, 0), some (.iload_n 1, 0), some (.ishl, 0)],
  [some (.iconst (-1), 0), some (.ixor, 0), some (.iand, 0), some (.ireturn, 0)]]
def tb_m82 : ab_M := (⟨"ScrewLeft", "with", "(IIZ)I"⟩, prog_1_method_51_code, 3, (some .int), 0, 0, (2201, 2200, 1001), tb_t82)
def tb_t83 : ab_T := [
  [some (.iload_n 1, 0), some (.ifCond .ne 31, 32), none, none, some (.iload_n 2, 0), some (.iconst 1, 0), some (.iconst 2, 0), some (.invokestatic 67, 84), none, none, some (.ifCond .eq 22, 32), none, none, some (.aload_n 0, 0), some (.getfield 22, 38), none],
  [none, some (.getfield 128, 55), none, none, some (.istore_n 3, 0), some (.aload_n 0, 0), some (.getfield 22, 38), none, none, some (.iload_n 2, 0), some (.putfield 128, 55), none, none, some (.goto 78, 107), none, none],
  [some (.iload_n 1, 0), some (.iconst 1, 0), some (.if_icmp .ne 33, 67), none, none, some (.iload_n 2, 0), some (.iconst 0, 0), some (.sipush 999, 0), none, none, some (.invokestatic 67, 84), none, none, some (.ifCond .eq 22, 67), none, none],
  [some (.aload_n 0, 0), some (.getfield 22, 38), none, none, some (.getfield 131, 56), none, none, some (.istore_n 3, 0), some (.aload_n 0, 0), some (.getfield 22, 38), none, none, some (.iload_n 2, 0), some (.putfield 131, 56), none, none],
  [some (.goto 43, 107), none, none, some (.iload_n 1, 0), some (.iconst 2, 0), some (.if_icmp .ne 32, 101), none, none, some (.iload_n 2, 0), some (.iconst 0, 0), some (.ldc 134, 3), none, some (.invokestatic 67, 84), none, none, some (.ifCond .eq 22, 101)],
  [none, none, some (.aload_n 0, 0), some (.getfield 22, 38), none, none, some (.getfield 135, 57), none, none, some (.istore_n 3, 0), some (.aload_n 0, 0), some (.getfield 22, 38), none, none, some (.iload_n 2, 0), some (.putfield 135, 57)],
  [none, none, some (.goto 9, 107), none, none, some (.aload_n 0, 0), some (.iconst 1, 0), some (.invokevirtual 75, 85), none, none, some (.ireturn, 0), some (.iload_n 3, 0), some (.ireturn, 0)]]
def tb_m83 : ab_M := (⟨"ScrewLeft", "set", "(II)I"⟩, prog_1_method_6_code, 4, (some .int), 0, 0, (2205, 2203, 1001), tb_t83)
def tb_t84 : ab_T := [
  [some (.aload_n 0, 0), some (.getfield 22, 38), none, none, some (.iload_n 1, 0), some (.invokevirtual 83, 87), none, none, some (.ifCond .eq 13, 21), none, none, some (.iload_n 2, 0), some (.iconst 0, 0), some (.bipush 69, 0), none, some (.invokestatic 67, 84)],
  [none, none, some (.ifCond .ne 9, 27), none, none, some (.aload_n 0, 0), some (.iconst 1, 0), some (.invokevirtual 75, 85), none, none, some (.ireturn, 0), some (.aload_n 0, 0), some (.getfield 22, 38), none, none, some (.getfield 87, 50)],
  [none, none, some (.iload_n 1, 0), some (.iaload, 0), some (.istore_n 3, 0), some (.aload_n 0, 0), some (.getfield 22, 38), none, none, some (.getfield 87, 50), none, none, some (.iload_n 1, 0), some (.iload_n 2, 0), some (.bipush 10, 0), none],
  [some (.idiv, 0), some (.iastore, 0), some (.aload_n 0, 0), some (.getfield 22, 38), none, none, some (.getfield 90, 51), none, none, some (.iload_n 1, 0), some (.iload_n 2, 0), some (.bipush 10, 0), none, some (.irem, 0), some (.iastore, 0), some (.iload_n 3, 0)],
  [some (.ireturn, 0)]]
def tb_m84 : ab_M := (⟨"ScrewLeft", "become", "(II)I"⟩, prog_1_method_7_code, 4, (some .int), 0, 0, (2210, 2208, 1001), tb_t84)
def tb_t85 : ab_T := [
  [some (.aload_n 0, 0), some (.getfield 22, 38), none, none, some (.iload_n 1, 0), some (.invokevirtual 83, 87), none, none, some (.ifCond .eq 17, 25), none, none, some (.iload_n 2, 0), some (.iconst 0, 0), some (.getstatic 138, 1033), none, none],
  [some (.arraylength, 0), some (.iconst 1, 0), some (.isub, 0), some (.invokestatic 67, 84), none, none, some (.ifCond .ne 9, 31), none, none, some (.aload_n 0, 0), some (.iconst 1, 0), some (.invokevirtual 75, 85), none, none, some (.ireturn, 0), some (.aload_n 0, 0)],
  [some (.getfield 22, 38), none, none, some (.getfield 87, 50), none, none, some (.iload_n 1, 0), some (.iaload, 0), some (.iload_n 2, 0), some (.invokestatic 141, 96), none, none, some (.ifCond .ne 9, 53), none, none, some (.aload_n 0, 0)],
  [some (.iconst 5, 0), some (.invokevirtual 75, 85), none, none, some (.ireturn, 0), some (.aload_n 0, 0), some (.getfield 22, 38), none, none, some (.getfield 90, 51), none, none, some (.iload_n 1, 0), some (.iaload, 0), some (.ireturn, 0)]]
def tb_m85 : ab_M := (⟨"ScrewLeft", "as", "(II)I"⟩, prog_1_method_8_code, 3, (some .int), 0, 0, (2214, 2212, 1001), tb_t85)
def tb_t86 : ab_T := [
  [some (.iload_n 0, 0), some (.iconst 0, 0), some (.getstatic 138, 1033), none, none, some (.arraylength, 0), some (.iconst 1, 0), some (.isub, 0), some (.invokestatic 67, 84), none, none, some (.ifCond .ne 5, 16), none, none, some (.iconst 0, 0), some (.ireturn, 0)],
  [some (.iload_n 0, 0), some (.iload_n 1, 0), some (.if_icmp .eq 16, 34), none, none, some (.getstatic 138, 1033), none, none, some (.iload_n 0, 0), some (.iaload, 0), some (.iload_n 1, 0), some (.if_icmp .eq 7, 34), none, none, some (.iload_n 1, 0), some (.ifCond .ne 7, 38)],
  [none, none, some (.iconst 1, 0), some (.goto 4, 39), none, none, some (.iconst 0, 0), some (.ireturn, 0)]]
def tb_m86 : ab_M := (⟨"ScrewLeft", "isOf", "(II)Z"⟩, prog_1_method_9_code, 2, (some .boolean), 0, 0, (2217, 2216, 1001), tb_t86)
def tb_t87 : ab_T := [
  [some (.iload_n 3, 0), some (.iconst 1, 0), some (.bipush 8, 0), none, some (.invokestatic 67, 84), none, none, some (.ifCond .ne 9, 16), none, none, some (.aload_n 0, 0), some (.iconst 1, 0), some (.invokevirtual 75, 85), none, none, some (.ireturn, 0)],
  [some (.aload_n 0, 0), some (.getfield 22, 38), none, none, some (.getfield 145, 58), none, none, some (.iload_n 3, 0), some (.iadd, 0), some (.bipush 50, 0), none, some (.if_icmp .le 9, 36), none, none, some (.aload_n 0, 0), some (.iconst 4, 0)],
  [some (.invokevirtual 75, 85), none, none, some (.ireturn, 0), some (.iconst 0, 0), some (.istore 4, 0), none, some (.iload 4, 0), none, some (.iload_n 3, 0), some (.if_icmp .ge 49, 91), none, none, some (.aload_n 0, 0), some (.getfield 22, 38), none],
  [none, some (.getfield 148, 59), none, none, some (.aload_n 0, 0), some (.getfield 22, 38), none, none, some (.getfield 145, 58), none, none, some (.lload_n 1, 0), some (.bipush 8, 0), none, some (.iload 4, 0), none],
  [some (.imul, 0), some (.lushr, 0), some (.l2i, 0), some (.sipush 255, 0), none, none, some (.iand, 0), some (.iastore, 0), some (.aload_n 0, 0), some (.getfield 22, 38), none, none, some (.dup, 0), some (.getfield 145, 58), none, none],
  [some (.iconst 1, 0), some (.iadd, 0), some (.putfield 145, 58), none, none, some (.iinc 4 1, 0), none, none, some (.goto (-49), 39), none, none, some (.aload_n 0, 0), some (.getfield 22, 38), none, none, some (.getfield 145, 58)],
  [none, none, some (.ireturn, 0)]]
def tb_m87 : ab_M := (⟨"ScrewLeft", "feed", "(JI)I"⟩, prog_1_method_10_code, 5, (some .int), 0, 0, (2221, 2219, 1001), tb_t87)
def tb_t88 : ab_T := [
  [some (.iload_n 1, 0), some (.invokestatic 151, 97), none, none, some (.ifCond .ne 9, 13), none, none, some (.aload_n 0, 0), some (.iconst 1, 0), some (.invokevirtual 75, 85), none, none, some (.ireturn, 0), some (.aload_n 0, 0), some (.getfield 35, 41), none],
  [none, some (.aload_n 0, 0), some (.getfield 22, 38), none, none, some (.getfield 148, 59), none, none, some (.aload_n 0, 0), some (.getfield 22, 38), none, none, some (.getfield 145, 58), none, none, some (.iload_n 1, 0)],
  [some (.ifCond .ne 8, 40), none, none, some (.ldc 154, 4), none, some (.goto 5, 42), none, none, some (.ldc 156, 5), none, some (.invokevirtual 158, 98), none, none, some (.istore_n 2, 0), some (.aload_n 0, 0), some (.getfield 22, 38)],
  [none, none, some (.iconst 0, 0), some (.putfield 145, 58), none, none, some (.iload_n 2, 0), some (.ifCond .lt 8, 63), none, none, some (.bipush (-10), 0), none, some (.iload_n 2, 0), some (.isub, 0), some (.ireturn, 0), some (.iload_n 1, 0)],
  [some (.ifCond .ne 13, 77), none, none, some (.aload_n 0, 0), some (.getfield 22, 38), none, none, some (.getfield 162, 60), none, none, some (.goto 10, 84), none, none, some (.aload_n 0, 0), some (.getfield 22, 38), none],
  [none, some (.getfield 166, 61), none, none, some (.astore_n 3, 0), some (.aload_n 3, 0), some (.aload_n 0, 0), some (.getfield 35, 41), none, none, some (.getfield 169, 62), none, none, some (.aload_n 0, 0), some (.getfield 35, 41), none],
  [none, some (.getfield 172, 63), none, none, some (.invokevirtual 175, 99), none, none, some (.iconst 1, 0), some (.ireturn, 0)]]
def tb_m88 : ab_M := (⟨"ScrewLeft", "text", "(I)I"⟩, prog_1_method_11_code, 4, (some .int), 0, 0, (2225, 2223, 1001), tb_t88)
def tb_t89 : ab_T := [
  [some (.iload_n 0, 0), some (.ifCond .eq 8, 9), none, none, some (.iload_n 0, 0), some (.iconst 1, 0), some (.if_icmp .ne 7, 13), none, none, some (.iconst 1, 0), some (.goto 4, 14), none, none, some (.iconst 0, 0), some (.ireturn, 0)]]
def tb_m89 : ab_M := (⟨"ScrewLeft", "isUse", "(I)Z"⟩, prog_1_method_13_code, 1, (some .boolean), 0, 0, (2228, 2227, 1001), tb_t89)
def tb_t90 : ab_T := [
  [some (.iload_n 1, 0), some (.invokestatic 151, 97), none, none, some (.ifCond .ne 9, 13), none, none, some (.aload_n 0, 0), some (.iconst 1, 0), some (.invokevirtual 75, 85), none, none, some (.ireturn, 0), some (.iload_n 1, 0), some (.ifCond .ne 17, 31), none],
  [none, some (.aload_n 0, 0), some (.getfield 22, 38), none, none, some (.iload_n 2, 0), some (.iload_n 3, 0), some (.iload 4, 0), none, some (.invokevirtual 181, 100), none, none, some (.goto 14, 42), none, none, some (.aload_n 0, 0)],
  [some (.getfield 22, 38), none, none, some (.iload_n 2, 0), some (.iload_n 3, 0), some (.iload 4, 0), none, some (.invokevirtual 184, 101), none, none, some (.ireturn, 0)]]
def tb_m90 : ab_M := (⟨"ScrewLeft", "law", "(IIII)I"⟩, prog_1_method_12_code, 5, (some .int), 0, 0, (3116, 3114, 1001), tb_t90)
def tb_t91 : ab_T := [
  [some (.aload_n 0, 0), some (.getfield 22, 38), none, none, some (.iload_n 1, 0), some (.invokevirtual 83, 87), none, none, some (.ifCond .ne 9, 17), none, none, some (.aload_n 0, 0), some (.iconst 1, 0), some (.invokevirtual 75, 85), none, none],
  [some (.ireturn, 0), some (.aload_n 0, 0), some (.getfield 22, 38), none, none, some (.iload_n 1, 0), some (.invokevirtual 111, 92), none, none, some (.ifCond .eq 24, 49), none, none, some (.aload_n 0, 0), some (.getfield 22, 38), none, none],
  [some (.getfield 135, 57), none, none, some (.aload_n 0, 0), some (.getfield 22, 38), none, none, some (.iload_n 1, 0), some (.invokevirtual 105, 90), none, none, some (.iadd, 0), some (.ldc 134, 3), none, some (.if_icmp .le 9, 55), none],
  [none, some (.aload_n 0, 0), some (.iconst 3, 0), some (.invokevirtual 75, 85), none, none, some (.ireturn, 0), some (.aload_n 0, 0), some (.getfield 22, 38), none, none, some (.iload_n 1, 0), some (.invokevirtual 187, 102), none, none, some (.aload_n 0, 0)],
  [some (.getfield 22, 38), none, none, some (.iload_n 1, 0), some (.invokevirtual 102, 89), none, none, some (.ifCond .eq 7, 78), none, none, some (.iconst 1, 0), some (.goto 4, 79), none, none, some (.iconst 0, 0), some (.ireturn, 0)]]
def tb_m91 : ab_M := (⟨"ScrewLeft", "does", "(I)I"⟩, prog_1_method_14_code, 2, (some .int), 0, 0, (3125, 3123, 1001), tb_t91)
def tb_t92 : ab_T := [
  [some (.aload_n 0, 0), some (.getfield 22, 38), none, none, some (.iload_n 1, 0), some (.invokevirtual 83, 87), none, none, some (.ifCond .ne 9, 17), none, none, some (.aload_n 0, 0), some (.iconst 1, 0), some (.invokevirtual 75, 85), none, none],
  [some (.ireturn, 0), some (.aload_n 0, 0), some (.getfield 22, 38), none, none, some (.iload_n 1, 0), some (.invokevirtual 114, 93), none, none, some (.ifCond .eq 24, 49), none, none, some (.aload_n 0, 0), some (.getfield 22, 38), none, none],
  [some (.getfield 135, 57), none, none, some (.aload_n 0, 0), some (.getfield 22, 38), none, none, some (.iload_n 1, 0), some (.invokevirtual 108, 91), none, none, some (.iadd, 0), some (.ldc 134, 3), none, some (.if_icmp .le 9, 55), none],
  [none, some (.aload_n 0, 0), some (.iconst 3, 0), some (.invokevirtual 75, 85), none, none, some (.ireturn, 0), some (.aload_n 0, 0), some (.getfield 22, 38), none, none, some (.iload_n 1, 0), some (.invokevirtual 191, 103), none, none, some (.aload_n 0, 0)],
  [some (.getfield 22, 38), none, none, some (.getfield 131, 56), none, none, some (.ireturn, 0)]]
def tb_m92 : ab_M := (⟨"ScrewLeft", "undo", "(I)I"⟩, prog_1_method_15_code, 2, (some .int), 0, 0, (3139, 3137, 1001), tb_t92)
def tb_t93 : ab_T := [
  [some (.iload_n 1, 0), some (.iconst 1, 0), some (.bipush 40, 0), none, some (.invokestatic 67, 84), none, none, some (.ifCond .ne 9, 16), none, none, some (.aload_n 0, 0), some (.iconst 1, 0), some (.invokevirtual 75, 85), none, none, some (.ireturn, 0)],
  [some (.aload_n 0, 0), some (.getfield 22, 38), none, none, some (.getfield 135, 57), none, none, some (.iload_n 1, 0), some (.sipush 300, 0), none, none, some (.imul, 0), some (.iadd, 0), some (.ldc 134, 3), none, some (.if_icmp .le 9, 40)],
  [none, none, some (.aload_n 0, 0), some (.iconst 3, 0), some (.invokevirtual 75, 85), none, none, some (.ireturn, 0), some (.iconst 0, 0), some (.istore_n 2, 0), some (.iconst 0, 0), some (.istore_n 3, 0), some (.iload_n 3, 0), some (.iload_n 1, 0), some (.if_icmp .ge 85, 131), none],
  [none, some (.aload_n 0, 0), some (.getfield 22, 38), none, none, some (.invokevirtual 194, 104), none, none, some (.bipush 8, 0), none, some (.irem, 0), some (.istore 4, 0), none, some (.aload_n 0, 0), some (.getfield 22, 38), none],
  [none, some (.iload 4, 0), none, some (.invokevirtual 111, 92), none, none, some (.ifCond .eq 18, 88), none, none, some (.aload_n 0, 0), some (.getfield 22, 38), none, none, some (.iload 4, 0), none, some (.invokevirtual 187, 102)],
  [none, none, some (.iinc 2 1, 0), none, none, some (.goto 40, 125), none, none, some (.aload_n 0, 0), some (.getfield 22, 38), none, none, some (.iload 4, 0), none, some (.invokevirtual 114, 93), none],
  [none, some (.ifCond .eq 15, 112), none, none, some (.aload_n 0, 0), some (.getfield 22, 38), none, none, some (.iload 4, 0), none, some (.invokevirtual 191, 103), none, none, some (.goto 16, 125), none, none],
  [some (.aload_n 0, 0), some (.getfield 22, 38), none, none, some (.dup, 0), some (.getfield 135, 57), none, none, some (.iconst 1, 0), some (.iadd, 0), some (.putfield 135, 57), none, none, some (.iinc 3 1, 0), none, none],
  [some (.goto (-84), 44), none, none, some (.iload_n 2, 0), some (.ireturn, 0)]]
def tb_m93 : ab_M := (⟨"ScrewLeft", "loose", "(I)I"⟩, prog_1_method_16_code, 5, (some .int), 0, 0, (3148, 3146, 1001), tb_t93)
def tb_t94 : ab_T := [
  [some (.iload_n 1, 0), some (.iconst 0, 0), some (.iconst 1, 0), some (.invokestatic 67, 84), none, none, some (.ifCond .ne 9, 15), none, none, some (.aload_n 0, 0), some (.iconst 1, 0), some (.invokevirtual 75, 85), none, none, some (.ireturn, 0), some (.iconst 0, 0)],
  [some (.istore_n 2, 0), some (.iconst 0, 0), some (.istore_n 3, 0), some (.iload_n 3, 0), some (.aload_n 0, 0), some (.getfield 22, 38), none, none, some (.getfield 71, 49), none, none, some (.if_icmp .ge 42, 69), none, none, some (.iload_n 1, 0), some (.ifCond .ne 14, 45)],
  [none, none, some (.aload_n 0, 0), some (.getfield 22, 38), none, none, some (.iload_n 3, 0), some (.invokevirtual 111, 92), none, none, some (.goto 11, 53), none, none, some (.aload_n 0, 0), some (.getfield 22, 38), none],
  [none, some (.iload_n 3, 0), some (.invokevirtual 114, 93), none, none, some (.istore 4, 0), none, some (.iload_n 2, 0), some (.iload_n 3, 0), some (.iload 4, 0), none, some (.invokestatic 124, 95), none, none, some (.istore_n 2, 0), some (.iinc 3 1, 0)],
  [none, none, some (.goto (-47), 19), none, none, some (.iload_n 2, 0), some (.ireturn, 0)]]
def tb_m94 : ab_M := (⟨"ScrewLeft", "next", "(I)I"⟩, prog_1_method_17_code, 5, (some .int), 0, 0, (3157, 3155, 1001), tb_t94)
def tb_t95 : ab_T := [
  [some (.iload_n 1, 0), some (.iconst 0, 0), some (.iconst 2, 0), some (.invokestatic 67, 84), none, none, some (.ifCond .ne 9, 15), none, none, some (.aload_n 0, 0), some (.iconst 1, 0), some (.invokevirtual 75, 85), none, none, some (.ireturn, 0), some (.aload_n 0, 0)],
  [some (.getfield 29, 40), none, none, some (.aload_n 0, 0), some (.getfield 22, 38), none, none, some (.invokevirtual 198, 105), none, none, some (.iconst 0, 0), some (.istore_n 2, 0), some (.iload_n 2, 0), some (.bipush 8, 0), none, some (.if_icmp .ge 29, 60)],
  [none, none, some (.aload_n 0, 0), some (.getfield 29, 40), none, none, some (.invokevirtual 202, 106), none, none, some (.istore_n 3, 0), some (.iload_n 3, 0), some (.ifCond .lt 11, 54), none, none, some (.aload_n 0, 0), some (.getfield 29, 40)],
  [none, none, some (.iload_n 3, 0), some (.invokevirtual 187, 102), none, none, some (.iinc 2 1, 0), none, none, some (.goto (-29), 28), none, none, some (.iload_n 1, 0), some (.ifCond .ne 19, 80), none, none],
  [some (.aload_n 0, 0), some (.getfield 29, 40), none, none, some (.getfield 135, 57), none, none, some (.aload_n 0, 0), some (.getfield 22, 38), none, none, some (.getfield 135, 57), none, none, some (.isub, 0), some (.ireturn, 0)],
  [some (.iload_n 1, 0), some (.iconst 1, 0), some (.if_icmp .ne 13, 95), none, none, some (.aload_n 0, 0), some (.getfield 29, 40), none, none, some (.invokevirtual 205, 107), none, none, some (.goto 13, 105), none, none, some (.aload_n 0, 0)],
  [some (.getfield 29, 40), none, none, some (.getfield 121, 54), none, none, some (.invokestatic 208, 108), none, none, some (.ireturn, 0)]]
def tb_m95 : ab_M := (⟨"ScrewLeft", "all", "(I)I"⟩, prog_1_method_18_code, 4, (some .int), 0, 0, (3161, 3159, 1001), tb_t95)
def tb_t96 : ab_T := [
  [some (.iload_n 1, 0), some (.iconst (-1), 0), some (.iconst 4, 0), some (.invokestatic 67, 84), none, none, some (.ifCond .ne 9, 15), none, none, some (.aload_n 0, 0), some (.iconst 1, 0), some (.invokevirtual 75, 85), none, none, some (.ireturn, 0), some (.aload_n 0, 0)],
  [some (.getfield 22, 38), none, none, some (.invokevirtual 205, 107), none, none, some (.istore_n 2, 0), some (.iload_n 2, 0), some (.iconst 5, 0), some (.if_icmp .le 9, 34), none, none, some (.aload_n 0, 0), some (.iconst 3, 0), some (.invokevirtual 75, 85), none],
  [none, some (.ireturn, 0), some (.aload_n 0, 0), some (.getfield 29, 40), none, none, some (.aload_n 0, 0), some (.getfield 22, 38), none, none, some (.invokevirtual 198, 105), none, none, some (.aload_n 0, 0), some (.getfield 29, 40), none],
  [none, some (.aload_n 0, 0), some (.getfield 61, 47), none, none, some (.aload_n 0, 0), some (.getfield 64, 48), none, none, some (.iconst 0, 0), some (.iconst (-1), 0), some (.invokestatic 213, 109), none, none, some (.istore_n 3, 0), some (.iload_n 3, 0)],
  [some (.ifCond .lt 8, 72), none, none, some (.iload_n 1, 0), some (.iload_n 2, 0), some (.if_icmp .lt 9, 78), none, none, some (.aload_n 0, 0), some (.iconst 2, 0), some (.invokevirtual 75, 85), none, none, some (.ireturn, 0), some (.iload_n 1, 0), some (.ifCond .ge 15, 94)],
  [none, none, some (.iload_n 3, 0), some (.aload_n 0, 0), some (.getfield 22, 38), none, none, some (.getfield 135, 57), none, none, some (.isub, 0), some (.goto 9, 100), none, none, some (.aload_n 0, 0), some (.getfield 64, 48)],
  [none, none, some (.iload_n 1, 0), some (.iaload, 0), some (.ireturn, 0)]]
def tb_m96 : ab_M := (⟨"ScrewLeft", "order", "(I)I"⟩, prog_1_method_19_code, 4, (some .int), 0, 0, (3187, 3185, 1001), tb_t96)
def tb_t97 : ab_T := [
  [some (.aload_n 0, 0), some (.invokevirtual 205, 107), none, none, some (.ifCond .ne 34, 38), none, none, some (.iload 4, 0), none, some (.ifCond .lt 15, 24), none, none, some (.aload_n 0, 0), some (.getfield 135, 57), none, none],
  [some (.iload 4, 0), none, some (.if_icmp .lt 6, 24), none, none, some (.iload 4, 0), none, some (.ireturn, 0), some (.aload_n 1, 0), some (.iconst 0, 0), some (.aload_n 2, 0), some (.iconst 0, 0), some (.aload_n 2, 0), some (.arraylength, 0), some (.invokestatic 217, 110), none],
  [none, some (.aload_n 0, 0), some (.getfield 135, 57), none, none, some (.ireturn, 0), some (.iload_n 3, 0), some (.ifCond .lt 9, 48), none, none, some (.iload_n 3, 0), some (.aload_n 1, 0), some (.arraylength, 0), some (.if_icmp .lt 6, 51), none, none],
  [some (.iload 4, 0), none, some (.ireturn, 0), some (.aload_n 0, 0), some (.getfield 131, 56), none, none, some (.istore 5, 0), none, some (.aload_n 0, 0), some (.getfield 135, 57), none, none, some (.istore 6, 0), none, some (.iload 4, 0)],
  [none, some (.istore 7, 0), none, some (.iconst 0, 0), some (.istore 8, 0), none, some (.iload 8, 0), none, some (.aload_n 0, 0), some (.getfield 71, 49), none, none, some (.if_icmp .ge 52, 128), none, none, some (.aload_n 0, 0)],
  [some (.iload 8, 0), none, some (.invokevirtual 111, 92), none, none, some (.ifCond .eq 37, 122), none, none, some (.aload_n 1, 0), some (.iload_n 3, 0), some (.iload 8, 0), none, some (.iastore, 0), some (.aload_n 0, 0), some (.iload 8, 0), none],
  [some (.invokevirtual 223, 111), none, none, some (.aload_n 0, 0), some (.aload_n 1, 0), some (.aload_n 2, 0), some (.iload_n 3, 0), some (.iconst 1, 0), some (.iadd, 0), some (.iload 7, 0), none, some (.invokestatic 213, 109), none, none, some (.istore 7, 0), none],
  [some (.aload_n 0, 0), some (.iload 8, 0), none, some (.iload 5, 0), none, some (.iload 6, 0), none, some (.invokevirtual 226, 112), none, none, some (.iinc 8 1, 0), none, none, some (.goto (-55), 70), none, none],
  [some (.iload 7, 0), none, some (.ireturn, 0)]]
def tb_m97 : ab_M := (⟨"ScrewLeft", "seekBest", "(LScrewLeft$Job;[I[III)I"⟩, prog_1_method_20_code, 9, (some .int), 0, 0, (3190, 3189, 1001), tb_t97)
def tb_t98 : ab_T := [
  [some (.aload_n 0, 0), some (.getfield 22, 38), none, none, some (.iload_n 1, 0), some (.invokevirtual 83, 87), none, none, some (.ifCond .ne 9, 17), none, none, some (.aload_n 0, 0), some (.iconst 1, 0), some (.invokevirtual 75, 85), none, none],
  [some (.ireturn, 0), some (.aload_n 0, 0), some (.getfield 22, 38), none, none, some (.iload_n 1, 0), some (.invokevirtual 99, 88), none, none, some (.ifCond .eq 14, 39), none, none, some (.aload_n 0, 0), some (.getfield 22, 38), none, none],
  [some (.iload_n 1, 0), some (.invokevirtual 230, 113), none, none, some (.goto 8, 44), none, none, some (.aload_n 0, 0), some (.iconst 3, 0), some (.invokevirtual 75, 85), none, none, some (.ireturn, 0)]]
def tb_m98 : ab_M := (⟨"ScrewLeft", "under", "(I)I"⟩, prog_1_method_21_code, 2, (some .int), 0, 0, (3200, 3198, 1001), tb_t98)
def tb_t99 : ab_T := [
  [some (.aload_n 0, 0), some (.getfield 22, 38), none, none, some (.iload_n 1, 0), some (.invokevirtual 83, 87), none, none, some (.ifCond .eq 12, 20), none, none, some (.iload_n 2, 0), some (.iconst 0, 0), some (.iconst 1, 0), some (.invokestatic 67, 84), none],
  [none, some (.ifCond .ne 9, 26), none, none, some (.aload_n 0, 0), some (.iconst 1, 0), some (.invokevirtual 75, 85), none, none, some (.ireturn, 0), some (.aload_n 0, 0), some (.getfield 22, 38), none, none, some (.iload_n 1, 0), some (.invokevirtual 99, 88)],
  [none, none, some (.ifCond .ne 9, 43), none, none, some (.aload_n 0, 0), some (.iconst 3, 0), some (.invokevirtual 75, 85), none, none, some (.ireturn, 0), some (.iload_n 2, 0), some (.ifCond .ne 9, 53), none, none, some (.aload_n 0, 0)],
  [some (.iload_n 1, 0), some (.invokevirtual 233, 114), none, none, some (.ireturn, 0), some (.aload_n 0, 0), some (.iload_n 1, 0), some (.invokevirtual 236, 115), none, none, some (.ifCond .eq 7, 65), none, none, some (.iconst 1, 0), some (.goto 4, 66), none],
  [none, some (.iconst 0, 0), some (.ireturn, 0)]]
def tb_m99 : ab_M := (⟨"ScrewLeft", "goBack", "(II)I"⟩, prog_1_method_22_code, 3, (some .int), 0, 0, (3208, 3206, 1001), tb_t99)
def tb_t100 : ab_T := [
  [some (.aload_n 0, 0), some (.getfield 22, 38), none, none, some (.iload_n 1, 0), some (.invokevirtual 230, 113), none, none, some (.iload_n 1, 0), some (.iconst 1, 0), some (.invokestatic 124, 95), none, none, some (.istore_n 2, 0), some (.aload_n 0, 0), some (.getfield 29, 40)],
  [none, none, some (.aload_n 0, 0), some (.getfield 22, 38), none, none, some (.invokevirtual 198, 105), none, none, some (.aload_n 0, 0), some (.getfield 22, 38), none, none, some (.getfield 71, 49), none, none],
  [some (.iconst 1, 0), some (.isub, 0), some (.istore_n 3, 0), some (.iload_n 3, 0), some (.iload_n 1, 0), some (.if_icmp .lt 37, 74), none, none, some (.iload_n 2, 0), some (.iload_n 3, 0), some (.invokestatic 239, 116), none, none, some (.ifCond .eq 23, 68), none, none],
  [some (.aload_n 0, 0), some (.getfield 29, 40), none, none, some (.dup, 0), some (.getfield 135, 57), none, none, some (.aload_n 0, 0), some (.getfield 29, 40), none, none, some (.iload_n 3, 0), some (.invokevirtual 108, 91), none, none],
  [some (.iadd, 0), some (.putfield 135, 57), none, none, some (.iinc 3 (-1), 0), none, none, some (.goto (-36), 35), none, none, some (.iload_n 1, 0), some (.istore_n 3, 0), some (.iload_n 3, 0), some (.aload_n 0, 0), some (.getfield 22, 38), none],
  [none, some (.getfield 71, 49), none, none, some (.if_icmp .ge 37, 121), none, none, some (.iload_n 2, 0), some (.iload_n 3, 0), some (.invokestatic 239, 116), none, none, some (.ifCond .eq 23, 115), none, none, some (.aload_n 0, 0)],
  [some (.getfield 29, 40), none, none, some (.dup, 0), some (.getfield 135, 57), none, none, some (.aload_n 0, 0), some (.getfield 29, 40), none, none, some (.iload_n 3, 0), some (.invokevirtual 105, 90), none, none, some (.iadd, 0)],
  [some (.putfield 135, 57), none, none, some (.iinc 3 1, 0), none, none, some (.goto (-42), 76), none, none, some (.aload_n 0, 0), some (.getfield 29, 40), none, none, some (.getfield 135, 57), none, none],
  [some (.aload_n 0, 0), some (.getfield 22, 38), none, none, some (.getfield 135, 57), none, none, some (.isub, 0), some (.ireturn, 0)]]
def tb_m100 : ab_M := (⟨"ScrewLeft", "minutesBackTo", "(I)I"⟩, prog_1_method_23_code, 4, (some .int), 0, 0, (3212, 3211, 1001), tb_t100)
def tb_t101 : ab_T := [
  [some (.aload_n 0, 0), some (.getfield 22, 38), none, none, some (.iload_n 1, 0), some (.invokevirtual 230, 113), none, none, some (.iload_n 1, 0), some (.iconst 1, 0), some (.invokestatic 124, 95), none, none, some (.istore_n 2, 0), some (.iconst 0, 0), some (.istore_n 3, 0)],
  [some (.iload_n 1, 0), some (.istore 4, 0), none, some (.iload 4, 0), none, some (.aload_n 0, 0), some (.getfield 22, 38), none, none, some (.getfield 71, 49), none, none, some (.if_icmp .ge 43, 71), none, none, some (.iload_n 3, 0)],
  [some (.ifCond .ne 27, 59), none, none, some (.iload_n 2, 0), some (.iload 4, 0), none, some (.invokestatic 239, 116), none, none, some (.ifCond .eq 22, 63), none, none, some (.aload_n 0, 0), some (.getfield 22, 38), none, none],
  [some (.iload 4, 0), none, some (.invokevirtual 242, 117), none, none, some (.invokevirtual 246, 118), none, none, some (.ifCond .eq 7, 63), none, none, some (.iconst 1, 0), some (.goto 4, 64), none, none, some (.iconst 0, 0)],
  [some (.istore_n 3, 0), some (.iinc 4 1, 0), none, none, some (.goto (-49), 19), none, none, some (.iload_n 3, 0), some (.ireturn, 0)]]
def tb_m101 : ab_M := (⟨"ScrewLeft", "isBlocked", "(I)Z"⟩, prog_1_method_24_code, 5, (some .boolean), 0, 0, (3217, 3216, 1001), tb_t101)
def tb_t102 : ab_T := [
  [some (.aload_n 0, 0), some (.getfield 22, 38), none, none, some (.getfield 131, 56), none, none, some (.istore_n 1, 0), some (.iconst 0, 0), some (.istore_n 2, 0), some (.iload_n 2, 0), some (.aload_n 0, 0), some (.getfield 22, 38), none, none, some (.getfield 71, 49)],
  [none, none, some (.if_icmp .ge 36, 54), none, none, some (.iload_n 1, 0), some (.aload_n 0, 0), some (.getfield 22, 38), none, none, some (.iload_n 2, 0), some (.invokevirtual 99, 88), none, none, some (.ifCond .eq 7, 37), none],
  [none, some (.iconst 0, 0), some (.goto 12, 46), none, none, some (.aload_n 0, 0), some (.getfield 22, 38), none, none, some (.getfield 93, 52), none, none, some (.iload_n 2, 0), some (.iaload, 0), some (.isub, 0), some (.istore_n 1, 0)],
  [some (.iinc 2 1, 0), none, none, some (.goto (-41), 10), none, none, some (.iload_n 1, 0), some (.ireturn, 0)]]
def tb_m102 : ab_M := (⟨"ScrewLeft", "left", "()I"⟩, prog_1_method_25_code, 3, (some .int), 0, 0, (3223, 3221, 1001), tb_t102)
def tb_t103 : ab_T := [
  [some (.iload_n 1, 0), some (.iconst 0, 0), some (.bipush 99, 0), none, some (.invokestatic 67, 84), none, none, some (.ifCond .eq 12, 19), none, none, some (.iload_n 2, 0), some (.iconst 0, 0), some (.iconst 1, 0), some (.invokestatic 67, 84), none, none],
  [some (.ifCond .ne 9, 25), none, none, some (.aload_n 0, 0), some (.iconst 1, 0), some (.invokevirtual 75, 85), none, none, some (.ireturn, 0), some (.iconst 0, 0), some (.istore_n 3, 0), some (.iconst (-1), 0), some (.istore 4, 0), none, some (.iconst 1, 0), some (.aload_n 0, 0)],
  [some (.getfield 22, 38), none, none, some (.getfield 71, 49), none, none, some (.ishl, 0), some (.iconst 1, 0), some (.isub, 0), some (.istore 5, 0), none, some (.iload 5, 0), none, some (.ifCond .lt 44, 89), none, none],
  [some (.iload 5, 0), none, some (.aload_n 0, 0), some (.getfield 22, 38), none, none, some (.getfield 252, 64), none, none, some (.iconst (-1), 0), some (.ixor, 0), some (.iand, 0), some (.ifCond .ne 23, 83), none, none, some (.aload_n 0, 0)],
  [some (.getfield 22, 38), none, none, some (.iload 5, 0), none, some (.invokevirtual 255, 119), none, none, some (.iload_n 1, 0), some (.if_icmp .ne 10, 83), none, none, some (.iinc 3 1, 0), none, none, some (.iload 5, 0)],
  [none, some (.istore 4, 0), none, some (.iinc 5 (-1), 0), none, none, some (.goto (-43), 43), none, none, some (.iload_n 2, 0), some (.ifCond .ne 5, 95), none, none, some (.iload_n 3, 0), some (.ireturn, 0), some (.iload 4, 0)],
  [none, some (.ifCond .lt 8, 105), none, none, some (.iload 4, 0), none, some (.goto 8, 110), none, none, some (.aload_n 0, 0), some (.iconst 2, 0), some (.invokevirtual 75, 85), none, none, some (.ireturn, 0)]]
def tb_m103 : ab_M := (⟨"ScrewLeft", "whose", "(II)I"⟩, prog_1_method_26_code, 6, (some .int), 0, 0, (3227, 3225, 1001), tb_t103)
def tb_t104 : ab_T := [
  [some (.iconst (-1), 0), some (.istore_n 1, 0), some (.iconst 0, 0), some (.istore_n 2, 0), some (.iconst 0, 0), some (.istore_n 3, 0), some (.iload_n 3, 0), some (.aload_n 0, 0), some (.getfield 22, 38), none, none, some (.getfield 71, 49), none, none, some (.if_icmp .ge 50, 64), none],
  [none, some (.aload_n 0, 0), some (.getfield 22, 38), none, none, some (.iload_n 3, 0), some (.invokevirtual 102, 89), none, none, some (.ifCond .eq 33, 58), none, none, some (.aload_n 0, 0), some (.iload_n 3, 0), some (.invokevirtual 236, 115), none],
  [none, some (.ifCond .ne 25, 58), none, none, some (.aload_n 0, 0), some (.iload_n 3, 0), some (.invokevirtual 233, 114), none, none, some (.istore 4, 0), none, some (.iload_n 1, 0), some (.ifCond .lt 9, 53), none, none, some (.iload 4, 0)],
  [none, some (.iload_n 2, 0), some (.if_icmp .ge 8, 58), none, none, some (.iload_n 3, 0), some (.istore_n 1, 0), some (.iload 4, 0), none, some (.istore_n 2, 0), some (.iinc 3 1, 0), none, none, some (.goto (-55), 6), none, none],
  [some (.iload_n 1, 0), some (.ifCond .lt 7, 72), none, none, some (.iload_n 1, 0), some (.goto 8, 77), none, none, some (.aload_n 0, 0), some (.iconst 2, 0), some (.invokevirtual 75, 85), none, none, some (.ireturn, 0)]]
def tb_m104 : ab_M := (⟨"ScrewLeft", "lookAt", "()I"⟩, prog_1_method_27_code, 5, (some .int), 0, 0, (3235, 3233, 1001), tb_t104)
def tb_t105 : ab_T := [
  [some (.iload_n 1, 0), some (.invokestatic 258, 120), none, none, some (.ifCond .eq 12, 16), none, none, some (.iload_n 2, 0), some (.iconst 0, 0), some (.iconst 1, 0), some (.invokestatic 67, 84), none, none, some (.ifCond .ne 9, 22), none, none],
  [some (.aload_n 0, 0), some (.iconst 1, 0), some (.invokevirtual 75, 85), none, none, some (.ireturn, 0), some (.aload_n 0, 0), some (.getfield 58, 46), none, none, some (.iload_n 1, 0), some (.iaload, 0), some (.ifCond .eq 17, 45), none, none, some (.aload_n 0, 0)],
  [some (.getfield 55, 45), none, none, some (.iload_n 1, 0), some (.iaload, 0), some (.iconst 1, 0), some (.iconst 4, 0), some (.invokestatic 67, 84), none, none, some (.ifCond .ne 9, 51), none, none, some (.aload_n 0, 0), some (.iconst 2, 0), some (.invokevirtual 75, 85)],
  [none, none, some (.ireturn, 0), some (.iconst 0, 0), some (.istore_n 3, 0), some (.iconst (-1), 0), some (.istore 4, 0), none, some (.aload_n 0, 0), some (.getfield 29, 40), none, none, some (.aload_n 0, 0), some (.getfield 22, 38), none, none],
  [some (.invokevirtual 198, 105), none, none, some (.iconst 0, 0), some (.istore 5, 0), none, some (.iload 5, 0), none, some (.aload_n 0, 0), some (.getfield 22, 38), none, none, some (.getfield 71, 49), none, none, some (.if_icmp .ge 57, 136)],
  [none, none, some (.aload_n 0, 0), some (.getfield 29, 40), none, none, some (.iload 5, 0), none, some (.aload_n 0, 0), some (.getfield 52, 44), none, none, some (.iload_n 1, 0), some (.aaload, 0), some (.aload_n 0, 0), some (.getfield 55, 45)],
  [none, none, some (.iload_n 1, 0), some (.iaload, 0), some (.iconst 0, 0), some (.invokestatic 261, 121), none, none, some (.istore 6, 0), none, some (.iload 4, 0), none, some (.ifCond .ge 13, 121), none, none, some (.iload 6, 0)],
  [none, some (.ifCond .le 8, 121), none, none, some (.iload 5, 0), none, some (.goto 5, 123), none, none, some (.iload 4, 0), none, some (.istore 4, 0), none, some (.iload_n 3, 0), some (.iload 6, 0), none],
  [some (.iadd, 0), some (.istore_n 3, 0), some (.iinc 5 1, 0), none, none, some (.goto (-63), 70), none, none, some (.iload_n 2, 0), some (.ifCond .ne 5, 142), none, none, some (.iload_n 3, 0), some (.ireturn, 0), some (.iload 4, 0), none],
  [some (.ifCond .lt 8, 152), none, none, some (.iload 4, 0), none, some (.goto 8, 157), none, none, some (.aload_n 0, 0), some (.iconst 2, 0), some (.invokevirtual 75, 85), none, none, some (.ireturn, 0)]]
def tb_m105 : ab_M := (⟨"ScrewLeft", "orders", "(II)I"⟩, prog_1_method_28_code, 7, (some .int), 0, 0, (3239, 3237, 1001), tb_t105)
def tb_t106 : ab_T := [
  [some (.iload_n 0, 0), some (.iconst 0, 0), some (.iconst 3, 0), some (.invokestatic 67, 84), none, none, some (.ireturn, 0)]]
def tb_m106 : ab_M := (⟨"ScrewLeft", "isSheet", "(I)Z"⟩, prog_1_method_41_code, 1, (some .boolean), 0, 0, (4002, 4001, 1001), tb_t106)
def tb_t107 : ab_T := [
  [some (.iload 4, 0), none, some (.ifCond .lt 24, 26), none, none, some (.iload 4, 0), none, some (.iload_n 3, 0), some (.if_icmp .ge 18, 26), none, none, some (.iload 4, 0), none, some (.aload_n 2, 0), some (.arraylength, 0), some (.if_icmp .ge 11, 26)],
  [none, none, some (.aload_n 0, 0), some (.iload_n 1, 0), some (.invokevirtual 111, 92), none, none, some (.ifCond .ne 5, 28), none, none, some (.iconst 0, 0), some (.ireturn, 0), some (.aload_n 0, 0), some (.iload_n 1, 0), some (.invokevirtual 105, 90), none],
  [none, some (.aload_n 2, 0), some (.iload 4, 0), none, some (.iaload, 0), some (.if_icmp .eq 5, 42), none, none, some (.iconst 0, 0), some (.ireturn, 0), some (.iload 4, 0), none, some (.iload_n 3, 0), some (.iconst 1, 0), some (.isub, 0), some (.if_icmp .ne 5, 52)],
  [none, none, some (.iconst 1, 0), some (.ireturn, 0), some (.aload_n 0, 0), some (.getfield 131, 56), none, none, some (.istore 5, 0), none, some (.aload_n 0, 0), some (.getfield 135, 57), none, none, some (.istore 6, 0), none],
  [some (.iconst 0, 0), some (.istore 7, 0), none, some (.aload_n 0, 0), some (.iload_n 1, 0), some (.invokevirtual 223, 111), none, none, some (.iconst 0, 0), some (.istore 8, 0), none, some (.iload 8, 0), none, some (.aload_n 0, 0), some (.getfield 71, 49), none],
  [none, some (.if_icmp .ge 26, 107), none, none, some (.iload 7, 0), none, some (.aload_n 0, 0), some (.iload 8, 0), none, some (.aload_n 2, 0), some (.iload_n 3, 0), some (.iload 4, 0), none, some (.iconst 1, 0), some (.iadd, 0), some (.invokestatic 261, 121)],
  [none, none, some (.iadd, 0), some (.istore 7, 0), none, some (.iinc 8 1, 0), none, none, some (.goto (-29), 75), none, none, some (.aload_n 0, 0), some (.iload_n 1, 0), some (.iload 5, 0), none, some (.iload 6, 0)],
  [none, some (.invokevirtual 226, 112), none, none, some (.iload 7, 0), none, some (.ireturn, 0)]]
def tb_m107 : ab_M := (⟨"ScrewLeft", "ordersFrom", "(LScrewLeft$Job;I[III)I"⟩, prog_1_method_29_code, 9, (some .int), 0, 0, (4005, 4004, 1001), tb_t107)
def tb_t108 : ab_T := [
  [some (.aload_n 0, 0), some (.getfield 22, 38), none, none, some (.iload_n 1, 0), some (.invokevirtual 83, 87), none, none, some (.ifCond .eq 12, 20), none, none, some (.iload_n 2, 0), some (.iconst 0, 0), some (.iconst 1, 0), some (.invokestatic 67, 84), none],
  [none, some (.ifCond .ne 9, 26), none, none, some (.aload_n 0, 0), some (.iconst 1, 0), some (.invokevirtual 75, 85), none, none, some (.ireturn, 0), some (.iconst 0, 0), some (.istore_n 3, 0), some (.iconst 0, 0), some (.istore 4, 0), none, some (.iload 4, 0)],
  [none, some (.bipush 9, 0), none, some (.if_icmp .gt 41, 76), none, none, some (.iload_n 3, 0), some (.iconst 1, 0), some (.aload_n 0, 0), some (.getfield 22, 38), none, none, some (.aload_n 0, 0), some (.getfield 22, 38), none, none],
  [some (.getfield 90, 51), none, none, some (.iload_n 1, 0), some (.iaload, 0), some (.iload 4, 0), none, some (.aload_n 0, 0), some (.getfield 22, 38), none, none, some (.getfield 87, 50), none, none, some (.iload_n 1, 0), some (.iaload, 0)],
  [some (.invokevirtual 184, 101), none, none, some (.isub, 0), some (.iadd, 0), some (.istore_n 3, 0), some (.iinc 4 1, 0), none, none, some (.goto (-42), 31), none, none, some (.bipush 10, 0), none, some (.istore 4, 0), none],
  [some (.iload 4, 0), none, some (.istore 5, 0), none, some (.iload 5, 0), none, some (.iconst 1, 0), some (.if_icmp .le 36, 123), none, none, some (.iload_n 3, 0), some (.iload 5, 0), none, some (.irem, 0), some (.ifCond .ne 23, 117), none],
  [none, some (.iload 4, 0), none, some (.iload 5, 0), none, some (.irem, 0), some (.ifCond .ne 15, 117), none, none, some (.iload_n 3, 0), some (.iload 5, 0), none, some (.idiv, 0), some (.istore_n 3, 0), some (.iload 4, 0), none],
  [some (.iload 5, 0), none, some (.idiv, 0), some (.istore 4, 0), none, some (.iinc 5 (-1), 0), none, none, some (.goto (-36), 84), none, none, some (.iload_n 2, 0), some (.ifCond .ne 7, 131), none, none, some (.iload_n 3, 0)],
  [some (.goto 5, 133), none, none, some (.iload 4, 0), none, some (.ireturn, 0)]]
def tb_m108 : ab_M := (⟨"ScrewLeft", "odds", "(II)I"⟩, prog_1_method_30_code, 6, (some .int), 0, 0, (4009, 4007, 1001), tb_t108)
def tb_t109 : ab_T := [
  [some (.aload_n 0, 0), some (.getfield 22, 38), none, none, some (.getfield 265, 65), none, none, some (.istore_n 2, 0), some (.aload_n 0, 0), some (.getfield 22, 38), none, none, some (.iload_n 1, 0), some (.putfield 265, 65), none, none],
  [some (.iload_n 2, 0), some (.ireturn, 0)]]
def tb_m109 : ab_M := (⟨"ScrewLeft", "seed", "(I)I"⟩, prog_1_method_31_code, 3, (some .int), 0, 0, (4013, 4011, 1001), tb_t109)
def tb_t110 : ab_T := [
  [some (.aload_n 0, 0), some (.getfield 22, 38), none, none, some (.iload_n 1, 0), some (.invokevirtual 83, 87), none, none, some (.ifCond .eq 12, 20), none, none, some (.iload_n 2, 0), some (.iconst 0, 0), some (.iconst 3, 0), some (.invokestatic 67, 84), none],
  [none, some (.ifCond .ne 9, 26), none, none, some (.aload_n 0, 0), some (.iconst 1, 0), some (.invokevirtual 75, 85), none, none, some (.ireturn, 0), some (.aload_n 0, 0), some (.getfield 42, 42), none, none, some (.iload_n 1, 0), some (.aload_n 0, 0)],
  [some (.getfield 22, 38), none, none, some (.getfield 90, 51), none, none, some (.iload_n 1, 0), some (.iaload, 0), some (.invokevirtual 268, 122), none, none, some (.aload_n 0, 0), some (.getfield 22, 38), none, none, some (.iload_n 1, 0)],
  [some (.invokevirtual 242, 117), none, none, some (.astore 4, 0), none, some (.iload_n 2, 0), some (.tableswitch 59 0 2 #[26, 37, 48], 0), none, none, none, none, none, none, none, none, none],
  [none, none, none, none, none, none, none, none, none, none, none, none, none, none, none, none],
  [some (.aload 4, 0), none, some (.aload_n 0, 0), some (.getfield 42, 42), none, none, some (.iload_n 3, 0), some (.invokevirtual 272, 123), none, none, some (.ireturn, 0), some (.aload 4, 0), none, some (.aload_n 0, 0), some (.getfield 42, 42), none],
  [none, some (.iload_n 3, 0), some (.invokevirtual 276, 124), none, none, some (.ireturn, 0), some (.aload 4, 0), none, some (.aload_n 0, 0), some (.getfield 42, 42), none, none, some (.iload_n 3, 0), some (.invokevirtual 279, 125), none, none],
  [some (.ireturn, 0), some (.aload 4, 0), none, some (.aload_n 0, 0), some (.getfield 42, 42), none, none, some (.iload_n 3, 0), some (.invokevirtual 282, 126), none, none, some (.ireturn, 0)]]
def tb_m110 : ab_M := (⟨"ScrewLeft", "voice", "(III)I"⟩, prog_1_method_32_code, 5, (some .int), 0, 0, (4017, 4015, 1001), tb_t110)
def tb_t111 : ab_T := [
  [some (.iload_n 1, 0), some (.iconst 0, 0), some (.aload_n 0, 0), some (.getfield 42, 42), none, none, some (.getfield 285, 66), none, none, some (.iconst 1, 0), some (.isub, 0), some (.invokestatic 67, 84), none, none, some (.ifCond .eq 15, 29), none],
  [none, some (.aload_n 0, 0), some (.getfield 42, 42), none, none, some (.getfield 288, 67), none, none, some (.iload_n 1, 0), some (.iaload, 0), some (.goto 8, 34), none, none, some (.aload_n 0, 0), some (.iconst 2, 0), some (.invokevirtual 75, 85)],
  [none, none, some (.ireturn, 0)]]
def tb_m111 : ab_M := (⟨"ScrewLeft", "trace", "(I)I"⟩, prog_1_method_33_code, 2, (some .int), 0, 0, (4111, 4109, 1001), tb_t111)
def tb_t112 : ab_T := [
  [some (.iload_n 2, 0), some (.ifCond .eq 21, 22), none, none, some (.iload_n 2, 0), some (.bipush 8, 0), none, some (.if_icmp .eq 15, 22), none, none, some (.iload_n 2, 0), some (.bipush 16, 0), none, some (.if_icmp .eq 9, 22), none, none],
  [some (.iload_n 2, 0), some (.bipush 32, 0), none, some (.if_icmp .ne 7, 26), none, none, some (.iconst 1, 0), some (.goto 4, 27), none, none, some (.iconst 0, 0), some (.istore 4, 0), none, some (.iload_n 1, 0), some (.invokestatic 258, 120), none],
  [none, some (.ifCond .eq 8, 41), none, none, some (.iload 4, 0), none, some (.ifCond .ne 9, 47), none, none, some (.aload_n 0, 0), some (.iconst 1, 0), some (.invokevirtual 75, 85), none, none, some (.ireturn, 0), some (.iload_n 2, 0)],
  [some (.ifCond .eq 25, 73), none, none, some (.iload_n 3, 0), some (.ifCond .ge 9, 61), none, none, some (.aload_n 0, 0), some (.iconst 3, 0), some (.invokevirtual 75, 85), none, none, some (.ireturn, 0), some (.iload_n 3, 0), some (.bipush 40, 0), none],
  [some (.if_icmp .le 9, 73), none, none, some (.aload_n 0, 0), some (.iconst 1, 0), some (.invokevirtual 75, 85), none, none, some (.ireturn, 0), some (.aload_n 0, 0), some (.getfield 58, 46), none, none, some (.iload_n 1, 0), some (.iload_n 2, 0), some (.iastore, 0)],
  [some (.aload_n 0, 0), some (.getfield 55, 45), none, none, some (.iload_n 1, 0), some (.iload_n 2, 0), some (.ifCond .ne 7, 93), none, none, some (.iconst 0, 0), some (.goto 4, 94), none, none, some (.iload_n 3, 0), some (.iastore, 0), some (.iconst 0, 0)],
  [some (.istore 5, 0), none, some (.iload 5, 0), none, some (.bipush 40, 0), none, some (.if_icmp .ge 19, 121), none, none, some (.aload_n 0, 0), some (.getfield 52, 44), none, none, some (.iload_n 1, 0), some (.aaload, 0), some (.iload 5, 0)],
  [none, some (.iconst 0, 0), some (.iastore, 0), some (.iinc 5 1, 0), none, none, some (.goto (-20), 98), none, none, some (.iconst 1, 0), some (.ireturn, 0)]]
def tb_m112 : ab_M := (⟨"ScrewLeft", "sheet", "(III)I"⟩, prog_1_method_34_code, 6, (some .int), 0, 0, (4115, 4113, 1001), tb_t112)
def tb_t113 : ab_T := [
  [some (.iload_n 1, 0), some (.invokestatic 258, 120), none, none, some (.ifCond .ne 9, 13), none, none, some (.aload_n 0, 0), some (.iconst 1, 0), some (.invokevirtual 75, 85), none, none, some (.ireturn, 0), some (.aload_n 0, 0), some (.getfield 58, 46), none],
  [none, some (.iload_n 1, 0), some (.iaload, 0), some (.ifCond .ne 9, 28), none, none, some (.aload_n 0, 0), some (.iconst 2, 0), some (.invokevirtual 75, 85), none, none, some (.ireturn, 0), some (.iload_n 2, 0), some (.iconst 0, 0), some (.aload_n 0, 0), some (.getfield 55, 45)],
  [none, none, some (.iload_n 1, 0), some (.iaload, 0), some (.iconst 1, 0), some (.isub, 0), some (.invokestatic 67, 84), none, none, some (.ifCond .ne 9, 50), none, none, some (.aload_n 0, 0), some (.iconst 1, 0), some (.invokevirtual 75, 85), none],
  [none, some (.ireturn, 0), some (.aload_n 0, 0), some (.getfield 52, 44), none, none, some (.iload_n 1, 0), some (.aaload, 0), some (.iload_n 2, 0), some (.iload_n 3, 0), some (.aload_n 0, 0), some (.getfield 58, 46), none, none, some (.iload_n 1, 0), some (.iaload, 0)],
  [some (.invokestatic 291, 127), none, none, some (.iastore, 0), some (.iconst 1, 0), some (.ireturn, 0)]]
def tb_m113 : ab_M := (⟨"ScrewLeft", "put", "(III)I"⟩, prog_1_method_35_code, 4, (some .int), 0, 0, (4119, 4117, 1001), tb_t113)
def tb_t114 : ab_T := [
  [some (.iload_n 1, 0), some (.bipush 8, 0), none, some (.if_icmp .ne 9, 12), none, none, some (.iload_n 0, 0), some (.sipush 255, 0), none, none, some (.iand, 0), some (.ireturn, 0), some (.iload_n 1, 0), some (.bipush 16, 0), none, some (.if_icmp .ne 11, 26)],
  [none, none, some (.iload_n 0, 0), some (.ldc_w 294, 6), none, none, some (.iand, 0), some (.goto 4, 27), none, none, some (.iload_n 0, 0), some (.ireturn, 0)]]
def tb_m114 : ab_M := (⟨"ScrewLeft", "lowestBits", "(II)I"⟩, prog_1_method_36_code, 2, (some .int), 0, 0, (4122, 4121, 1001), tb_t114)
def tb_t115 : ab_T := [
  [some (.iload_n 1, 0), some (.invokestatic 258, 120), none, none, some (.ifCond .eq 10, 14), none, none, some (.iload_n 3, 0), some (.invokestatic 258, 120), none, none, some (.ifCond .ne 9, 20), none, none, some (.aload_n 0, 0), some (.iconst 1, 0)],
  [some (.invokevirtual 75, 85), none, none, some (.ireturn, 0), some (.aload_n 0, 0), some (.getfield 58, 46), none, none, some (.iload_n 1, 0), some (.iaload, 0), some (.ifCond .eq 12, 38), none, none, some (.aload_n 0, 0), some (.getfield 58, 46), none],
  [none, some (.iload_n 3, 0), some (.iaload, 0), some (.ifCond .ne 9, 44), none, none, some (.aload_n 0, 0), some (.iconst 2, 0), some (.invokevirtual 75, 85), none, none, some (.ireturn, 0), some (.aload_n 0, 0), some (.getfield 58, 46), none, none],
  [some (.iload_n 1, 0), some (.iaload, 0), some (.aload_n 0, 0), some (.getfield 58, 46), none, none, some (.iload_n 3, 0), some (.iaload, 0), some (.if_icmp .eq 9, 65), none, none, some (.aload_n 0, 0), some (.iconst 5, 0), some (.invokevirtual 75, 85), none, none],
  [some (.ireturn, 0), some (.aload_n 0, 0), some (.iload_n 1, 0), some (.iload_n 2, 0), some (.iload 5, 0), none, some (.invokevirtual 295, 128), none, none, some (.ifCond .eq 15, 88), none, none, some (.aload_n 0, 0), some (.iload_n 3, 0), some (.iload 4, 0), none],
  [some (.iload 5, 0), none, some (.invokevirtual 295, 128), none, none, some (.ifCond .ne 9, 94), none, none, some (.aload_n 0, 0), some (.iconst 1, 0), some (.invokevirtual 75, 85), none, none, some (.ireturn, 0), some (.aload_n 0, 0), some (.getfield 52, 44)],
  [none, none, some (.iload_n 1, 0), some (.aaload, 0), some (.iload_n 2, 0), some (.aload_n 0, 0), some (.getfield 52, 44), none, none, some (.iload_n 3, 0), some (.aaload, 0), some (.iload 4, 0), none, some (.iload 5, 0), none, some (.invokestatic 217, 110)],
  [none, none, some (.iload 5, 0), none, some (.ireturn, 0)]]
def tb_m115 : ab_M := (⟨"ScrewLeft", "move", "(IIIII)I"⟩, prog_1_method_37_code, 6, (some .int), 0, 0, (4127, 4125, 1001), tb_t115)
def tb_t116 : ab_T := [
  [some (.iload_n 2, 0), some (.iconst 0, 0), some (.aload_n 0, 0), some (.getfield 55, 45), none, none, some (.iload_n 1, 0), some (.iaload, 0), some (.invokestatic 67, 84), none, none, some (.ifCond .eq 23, 34), none, none, some (.iload_n 3, 0), some (.iconst 0, 0)],
  [some (.aload_n 0, 0), some (.getfield 55, 45), none, none, some (.iload_n 1, 0), some (.iaload, 0), some (.iload_n 2, 0), some (.isub, 0), some (.invokestatic 67, 84), none, none, some (.ifCond .eq 7, 34), none, none, some (.iconst 1, 0), some (.goto 4, 35)],
  [none, none, some (.iconst 0, 0), some (.ireturn, 0)]]
def tb_m116 : ab_M := (⟨"ScrewLeft", "standThere", "(III)Z"⟩, prog_1_method_38_code, 4, (some .boolean), 0, 0, (4131, 4130, 1001), tb_t116)
def tb_t117 : ab_T := [
  [some (.iload_n 1, 0), some (.invokestatic 258, 120), none, none, some (.ifCond .ne 9, 13), none, none, some (.aload_n 0, 0), some (.iconst 1, 0), some (.invokevirtual 75, 85), none, none, some (.ireturn, 0), some (.aload_n 0, 0), some (.getfield 58, 46), none],
  [none, some (.iload_n 1, 0), some (.iaload, 0), some (.ifCond .ne 9, 28), none, none, some (.aload_n 0, 0), some (.iconst 2, 0), some (.invokevirtual 75, 85), none, none, some (.ireturn, 0), some (.aload_n 0, 0), some (.getfield 55, 45), none, none],
  [some (.iload_n 1, 0), some (.iaload, 0), some (.aload_n 0, 0), some (.getfield 22, 38), none, none, some (.getfield 71, 49), none, none, some (.invokestatic 298, 129), none, none, some (.istore_n 2, 0), some (.iconst 0, 0), some (.istore_n 3, 0), some (.iload_n 3, 0)],
  [some (.iload_n 2, 0), some (.if_icmp .ge 45, 94), none, none, some (.aload_n 0, 0), some (.getfield 52, 44), none, none, some (.iload_n 1, 0), some (.aaload, 0), some (.iload_n 3, 0), some (.iaload, 0), some (.iconst 0, 0), some (.bipush 9, 0), none, some (.invokestatic 67, 84)],
  [none, none, some (.ifCond .ne 5, 71), none, none, some (.iload_n 3, 0), some (.ireturn, 0), some (.aload_n 0, 0), some (.getfield 22, 38), none, none, some (.getfield 93, 52), none, none, some (.iload_n 3, 0), some (.aload_n 0, 0)],
  [some (.getfield 52, 44), none, none, some (.iload_n 1, 0), some (.aaload, 0), some (.iload_n 3, 0), some (.iaload, 0), some (.iastore, 0), some (.iinc 3 1, 0), none, none, some (.goto (-44), 47), none, none, some (.iload_n 2, 0), some (.ireturn, 0)]]
def tb_m117 : ab_M := (⟨"ScrewLeft", "screws", "(I)I"⟩, prog_1_method_39_code, 4, (some .int), 0, 0, (4135, 4133, 1001), tb_t117)
def tb_t118 : ab_T := [
  [some (.iload_n 1, 0), some (.invokestatic 258, 120), none, none, some (.ifCond .ne 9, 13), none, none, some (.aload_n 0, 0), some (.iconst 1, 0), some (.invokevirtual 75, 85), none, none, some (.ireturn, 0), some (.aload_n 0, 0), some (.getfield 58, 46), none],
  [none, some (.iload_n 1, 0), some (.iaload, 0), some (.ifCond .ne 9, 28), none, none, some (.aload_n 0, 0), some (.iconst 2, 0), some (.invokevirtual 75, 85), none, none, some (.ireturn, 0), some (.aload_n 0, 0), some (.getfield 55, 45), none, none],
  [some (.iload_n 1, 0), some (.iaload, 0), some (.aload_n 0, 0), some (.getfield 22, 38), none, none, some (.getfield 71, 49), none, none, some (.invokestatic 298, 129), none, none, some (.istore_n 2, 0), some (.iconst 0, 0), some (.istore_n 3, 0), some (.iload_n 3, 0)],
  [some (.iload_n 2, 0), some (.if_icmp .ge 30, 79), none, none, some (.aload_n 0, 0), some (.getfield 52, 44), none, none, some (.iload_n 1, 0), some (.aaload, 0), some (.iload_n 3, 0), some (.iaload, 0), some (.aload_n 0, 0), some (.getfield 22, 38), none, none],
  [some (.iload_n 3, 0), some (.invokevirtual 105, 90), none, none, some (.if_icmp .eq 5, 73), none, none, some (.iload_n 3, 0), some (.ireturn, 0), some (.iinc 3 1, 0), none, none, some (.goto (-29), 47), none, none, some (.aload_n 0, 0)],
  [some (.getfield 55, 45), none, none, some (.iload_n 1, 0), some (.iaload, 0), some (.aload_n 0, 0), some (.getfield 22, 38), none, none, some (.getfield 71, 49), none, none, some (.if_icmp .ne 7, 99), none, none, some (.iconst (-1), 0)],
  [some (.goto 4, 100), none, none, some (.iload_n 2, 0), some (.ireturn, 0)]]
def tb_m118 : ab_M := (⟨"ScrewLeft", "judge", "(I)I"⟩, prog_1_method_40_code, 4, (some .int), 0, 0, (4140, 4138, 1001), tb_t118)
def tb_t119 : ab_T := [
  [some (.aload_n 0, 0), some (.getfield 26, 39), none, none, some (.aload_n 0, 0), some (.getfield 22, 38), none, none, some (.invokevirtual 198, 105), none, none, some (.aload_n 0, 0), some (.dup, 0), some (.getfield 303, 68), none, none],
  [some (.iconst 1, 0), some (.iadd, 0), some (.putfield 303, 68), none, none, some (.aload_n 0, 0), some (.getfield 303, 68), none, none, some (.ireturn, 0)]]
def tb_m119 : ab_M := (⟨"ScrewLeft", "image", "()I"⟩, prog_1_method_42_code, 1, (some .int), 0, 0, (4144, 4142, 1001), tb_t119)
def tb_t120 : ab_T := [
  [some (.aload_n 0, 0), some (.getfield 303, 68), none, none, some (.ifCond .ne 9, 13), none, none, some (.aload_n 0, 0), some (.iconst 2, 0), some (.invokevirtual 75, 85), none, none, some (.ireturn, 0), some (.aload_n 0, 0), some (.getfield 22, 38), none],
  [none, some (.aload_n 0, 0), some (.getfield 26, 39), none, none, some (.invokevirtual 198, 105), none, none, some (.aload_n 0, 0), some (.getfield 22, 38), none, none, some (.getfield 135, 57), none, none, some (.ireturn, 0)]]
def tb_m120 : ab_M := (⟨"ScrewLeft", "restore", "()I"⟩, prog_1_method_43_code, 1, (some .int), 0, 0, (4148, 4146, 1001), tb_t120)
def tb_t121 : ab_T := [
  [some (.aload_n 0, 0), some (.getfield 22, 38), none, none, some (.getfield 306, 69), none, none, some (.bipush 20, 0), none, some (.if_icmp .lt 9, 18), none, none, some (.aload_n 0, 0), some (.iconst 4, 0), some (.invokevirtual 75, 85), none],
  [none, some (.ireturn, 0), some (.aload_n 0, 0), some (.getfield 22, 38), none, none, some (.getfield 309, 70), none, none, some (.aload_n 0, 0), some (.getfield 22, 38), none, none, some (.getfield 306, 69), none, none],
  [some (.iload_n 1, 0), some (.iastore, 0), some (.aload_n 0, 0), some (.getfield 22, 38), none, none, some (.dup, 0), some (.getfield 306, 69), none, none, some (.iconst 1, 0), some (.iadd, 0), some (.putfield 306, 69), none, none, some (.aload_n 0, 0)],
  [some (.getfield 22, 38), none, none, some (.getfield 306, 69), none, none, some (.ireturn, 0)]]
def tb_m121 : ab_M := (⟨"ScrewLeft", "tell", "(I)I"⟩, prog_1_method_44_code, 2, (some .int), 0, 0, (4152, 4150, 1001), tb_t121)
def tb_t122 : ab_T := [
  [some (.iconst 0, 0), some (.istore_n 1, 0), some (.aload_n 0, 0), some (.getfield 29, 40), none, none, some (.aload_n 0, 0), some (.getfield 22, 38), none, none, some (.invokevirtual 198, 105), none, none, some (.iconst 0, 0), some (.istore_n 2, 0), some (.iload_n 2, 0)],
  [some (.aload_n 0, 0), some (.getfield 29, 40), none, none, some (.getfield 306, 69), none, none, some (.if_icmp .ge 60, 83), none, none, some (.iload_n 1, 0), some (.ifCond .ne 56, 83), none, none, some (.aload_n 0, 0), some (.getfield 29, 40)],
  [none, none, some (.invokevirtual 202, 106), none, none, some (.istore_n 3, 0), some (.iload_n 3, 0), some (.ifCond .lt 11, 50), none, none, some (.aload_n 0, 0), some (.getfield 29, 40), none, none, some (.iload_n 3, 0), some (.invokevirtual 223, 111)],
  [none, none, some (.iload_n 3, 0), some (.ifCond .lt 22, 73), none, none, some (.aload_n 0, 0), some (.getfield 29, 40), none, none, some (.getfield 135, 57), none, none, some (.aload_n 0, 0), some (.getfield 29, 40), none],
  [none, some (.getfield 309, 70), none, none, some (.iload_n 2, 0), some (.iaload, 0), some (.if_icmp .eq 7, 77), none, none, some (.iconst 1, 0), some (.iload_n 2, 0), some (.iadd, 0), some (.istore_n 1, 0), some (.iinc 2 1, 0), none, none],
  [some (.goto (-65), 15), none, none, some (.aload_n 0, 0), some (.getfield 22, 38), none, none, some (.iconst 0, 0), some (.putfield 306, 69), none, none, some (.iload_n 1, 0), some (.ireturn, 0)]]
def tb_m122 : ab_M := (⟨"ScrewLeft", "check", "()I"⟩, prog_1_method_45_code, 4, (some .int), 0, 0, (4156, 4154, 1001), tb_t122)
def tb_t123 : ab_T := [
  [some (.iload_n 1, 0), some (.tableswitch 153 0 10 #[59, 67, 78, 89, 97, 105, 113, 121, 129, 137, 145], 0), none, none, none, none, none, none, none, none, none, none, none, none, none, none],
  [none, none, none, none, none, none, none, none, none, none, none, none, none, none, none, none],
  [none, none, none, none, none, none, none, none, none, none, none, none, none, none, none, none],
  [none, none, none, none, none, none, none, none, none, none, none, none, some (.aload_n 0, 0), some (.getfield 22, 38), none, none],
  [some (.getfield 71, 49), none, none, some (.ireturn, 0), some (.aload_n 0, 0), some (.getfield 22, 38), none, none, some (.getfield 252, 64), none, none, some (.invokestatic 208, 108), none, none, some (.ireturn, 0), some (.aload_n 0, 0)],
  [some (.getfield 22, 38), none, none, some (.getfield 121, 54), none, none, some (.invokestatic 208, 108), none, none, some (.ireturn, 0), some (.aload_n 0, 0), some (.getfield 22, 38), none, none, some (.getfield 131, 56), none],
  [none, some (.ireturn, 0), some (.aload_n 0, 0), some (.getfield 22, 38), none, none, some (.getfield 128, 55), none, none, some (.ireturn, 0), some (.aload_n 0, 0), some (.getfield 22, 38), none, none, some (.getfield 135, 57), none],
  [none, some (.ireturn, 0), some (.aload_n 0, 0), some (.getfield 22, 38), none, none, some (.invokevirtual 312, 130), none, none, some (.ireturn, 0), some (.aload_n 0, 0), some (.getfield 22, 38), none, none, some (.getfield 145, 58), none],
  [none, some (.ireturn, 0), some (.aload_n 0, 0), some (.getfield 22, 38), none, none, some (.getfield 306, 69), none, none, some (.ireturn, 0), some (.aload_n 0, 0), some (.getfield 42, 42), none, none, some (.getfield 285, 66), none],
  [none, some (.ireturn, 0), some (.aload_n 0, 0), some (.getfield 22, 38), none, none, some (.getfield 265, 65), none, none, some (.ireturn, 0), some (.aload_n 0, 0), some (.iconst 1, 0), some (.invokevirtual 75, 85), none, none, some (.ireturn, 0)]]
def tb_m123 : ab_M := (⟨"ScrewLeft", "count", "(I)I"⟩, prog_1_method_46_code, 2, (some .int), 0, 0, (4160, 4158, 1001), tb_t123)
def tb_t124 : ab_T := [
  [some (.iload_n 1, 0), some (.iconst 1, 0), some (.iconst 5, 0), some (.invokestatic 67, 84), none, none, some (.ifCond .eq 12, 18), none, none, some (.aload_n 0, 0), some (.getfield 46, 43), none, none, some (.iload_n 1, 0), some (.iaload, 0), some (.goto 8, 23)],
  [none, none, some (.aload_n 0, 0), some (.iconst 1, 0), some (.invokevirtual 75, 85), none, none, some (.ireturn, 0)]]
def tb_m124 : ab_M := (⟨"ScrewLeft", "told", "(I)I"⟩, prog_1_method_47_code, 2, (some .int), 0, 0, (4165, 4163, 1001), tb_t124)
def tb_t125 : ab_T := [
  [some (.aload_n 0, 0), some (.invokespecial 3, 131), none, none, some (.aload_n 0, 0), some (.sipush 327, 0), none, none, some (.newarray .int, 0), none, some (.putfield 9, 71), none, none, some (.aload_n 0, 0), some (.sipush 327, 0), none],
  [none, some (.newarray .int, 0), none, some (.putfield 13, 72), none, none, some (.aload_n 0, 0), some (.sipush 327, 0), none, none, some (.newarray .int, 0), none, some (.putfield 16, 73), none, none, some (.aload_n 0, 0)],
  [some (.bipush 6, 0), none, some (.newarray .int, 0), none, some (.putfield 19, 74), none, none, some (.aload_n 0, 0), some (.bipush 50, 0), none, some (.newarray .int, 0), none, some (.putfield 22, 75), none, none, some (.aload_n 0, 0)],
  [some (.bipush 50, 0), none, some (.newarray .int, 0), none, some (.putfield 25, 76), none, none, some (.aload_n 0, 0), some (.iconst 3, 0), some (.newarray .int, 0), none, some (.putfield 28, 77), none, none, some (.aload_n 0, 0), some (.bipush 50, 0)],
  [none, some (.newarray .int, 0), none, some (.putfield 31, 78), none, none, some (.aload_n 0, 0), some (.iconst 5, 0), some (.newarray .int, 0), none, some (.putfield 34, 79), none, none, some (.aload_n 0, 0), some (.iconst 5, 0), some (.newarray .int, 0)],
  [none, some (.putfield 37, 80), none, none, some (.aload_n 0, 0), some (.sipush 625, 0), none, none, some (.newarray .int, 0), none, some (.putfield 40, 81), none, none, some (.aload_n 0, 0), some (.bipush 40, 0), none],
  [some (.newarray .int, 0), none, some (.putfield 43, 82), none, none, some (.aload_n 0, 0), some (.iconst 4, 0), some (.newarray .int, 0), none, some (.putfield 46, 83), none, none, some (.aload_n 0, 0), some (.iconst 4, 0), some (.newarray .int, 0), none],
  [some (.putfield 49, 84), none, none, some (.aload_n 0, 0), some (.sipush 160, 0), none, none, some (.newarray .int, 0), none, some (.putfield 52, 85), none, none, some (.aload_n 0, 0), some (.getfield 9, 71), none, none],
  [some (.iconst 1, 0), some (.iconst 1, 0), some (.iastore, 0), some (.aload_n 0, 0), some (.getfield 9, 71), none, none, some (.iconst 3, 0), some (.iconst 1, 0), some (.iastore, 0), some (.aload_n 0, 0), some (.getfield 9, 71), none, none, some (.iconst 4, 0), some (.bipush 50, 0)],
  [none, some (.iastore, 0), some (.return_, 0)]]
def tb_m125 : ab_M := (⟨"ScrewLeftModel", "<init>", "()V"⟩, prog_14_method_1_code, 1, none, 15, 1983, (4170, 4169, 1013), tb_t125)
def tb_t126 : ab_T := [
  [some (.aload_n 0, 0), some (.getfield 9, 71), none, none, some (.iconst 2, 0), some (.iaload, 0), some (.istore 4, 0), none, some (.iload_n 1, 0), some (.invokestatic 104, 132), none, none, some (.ifCond .eq 27, 39), none, none, some (.iload_n 2, 0)],
  [some (.iconst 0, 0), some (.bipush 9, 0), none, some (.invokestatic 60, 133), none, none, some (.ifCond .eq 17, 39), none, none, some (.iload_n 3, 0), some (.iconst 0, 0), some (.iconst 1, 0), some (.iload 4, 0), none, some (.ishl, 0), some (.iconst 1, 0)],
  [some (.isub, 0), some (.invokestatic 60, 133), none, none, some (.ifCond .ne 10, 46), none, none, some (.aload_n 0, 0), some (.ldc 107, 7), none, some (.invokevirtual 108, 134), none, none, some (.ireturn, 0), some (.iload 4, 0), none],
  [some (.bipush 8, 0), none, some (.if_icmp .ne 10, 60), none, none, some (.aload_n 0, 0), some (.ldc 111, 8), none, some (.invokevirtual 108, 134), none, none, some (.ireturn, 0), some (.aload_n 0, 0), some (.getfield 9, 71), none, none],
  [some (.iconst 2, 0), some (.dup2, 0), some (.iaload, 0), some (.iconst 1, 0), some (.iadd, 0), some (.iastore, 0), some (.aload_n 0, 0), some (.iload 4, 0), none, some (.iconst 0, 0), some (.iload_n 1, 0), some (.bipush 10, 0), none, some (.idiv, 0), some (.invokevirtual 97, 135), none],
  [none, some (.aload_n 0, 0), some (.iload 4, 0), none, some (.iconst 1, 0), some (.iload_n 1, 0), some (.bipush 10, 0), none, some (.irem, 0), some (.invokevirtual 97, 135), none, none, some (.aload_n 0, 0), some (.iload 4, 0), none, some (.iconst 2, 0)],
  [some (.iload_n 2, 0), some (.invokevirtual 97, 135), none, none, some (.aload_n 0, 0), some (.iload 4, 0), none, some (.iconst 3, 0), some (.iload_n 3, 0), some (.invokevirtual 97, 135), none, none, some (.aload_n 0, 0), some (.iload 4, 0), none, some (.iconst 4, 0)],
  [some (.iconst 0, 0), some (.invokevirtual 97, 135), none, none, some (.aload_n 0, 0), some (.iload 4, 0), none, some (.iconst 5, 0), some (.iconst 0, 0), some (.invokevirtual 97, 135), none, none, some (.iload 4, 0), none, some (.ireturn, 0)]]
def tb_m126 : ab_M := (⟨"ScrewLeftModel", "step", "(III)I"⟩, prog_14_method_25_code, 5, (some .int), 0, 0, (5011, 5009, 1013), tb_t126)
def tb_t127 : ab_T := [
  [some (.iload_n 0, 0), some (.iconst 0, 0), some (.bipush 69, 0), none, some (.invokestatic 60, 133), none, none, some (.ireturn, 0)]]
def tb_m127 : ab_M := (⟨"ScrewLeftModel", "isKm", "(I)Z"⟩, prog_14_method_24_code, 1, (some .boolean), 0, 0, (5014, 5013, 1013), tb_t127)
def tb_t128 : ab_T := [
  [some (.iload_n 0, 0), some (.iload_n 1, 0), some (.if_icmp .lt 12, 14), none, none, some (.iload_n 0, 0), some (.iload_n 2, 0), some (.if_icmp .gt 7, 14), none, none, some (.iconst 1, 0), some (.goto 4, 15), none, none, some (.iconst 0, 0), some (.ireturn, 0)]]
def tb_m128 : ab_M := (⟨"ScrewLeftModel", "in", "(III)Z"⟩, prog_14_method_3_code, 3, (some .boolean), 0, 0, (5017, 5016, 1013), tb_t128)
def tb_t129 : ab_T := [
  [some (.aload_n 0, 0), some (.getfield 19, 74), none, none, some (.ldc 55, 9), none, some (.iload_n 1, 0), some (.isub, 0), some (.dup2, 0), some (.iaload, 0), some (.iconst 1, 0), some (.iadd, 0), some (.iastore, 0), some (.iload_n 1, 0), some (.ireturn, 0)]]
def tb_m129 : ab_M := (⟨"ScrewLeftModel", "error", "(I)I"⟩, prog_14_method_2_code, 2, (some .int), 0, 0, (5022, 5021, 1013), tb_t129)
def tb_t130 : ab_T := [
  [some (.aload_n 0, 0), some (.getfield 9, 71), none, none, some (.bipush 7, 0), none, some (.bipush 6, 0), none, some (.iload_n 1, 0), some (.imul, 0), some (.iadd, 0), some (.iload_n 2, 0), some (.iadd, 0), some (.iload_n 3, 0), some (.iastore, 0), some (.return_, 0)]]
def tb_m130 : ab_M := (⟨"ScrewLeftModel", "lets", "(III)V"⟩, prog_14_method_12_code, 4, none, 0, 0, (5028, 5027, 1013), tb_t130)
def tb_t131 : ab_T := [
  [some (.aload_n 0, 0), some (.iload_n 1, 0), some (.invokevirtual 112, 136), none, none, some (.ifCond .eq 13, 18), none, none, some (.iload_n 2, 0), some (.iconst 0, 0), some (.bipush 9, 0), none, some (.invokestatic 60, 133), none, none, some (.ifCond .ne 10, 25)],
  [none, none, some (.aload_n 0, 0), some (.ldc 107, 7), none, some (.invokevirtual 108, 134), none, none, some (.ireturn, 0), some (.iload_n 2, 0), some (.bipush 6, 0), none, some (.if_icmp .ge 10, 38), none, none, some (.aload_n 0, 0)],
  [some (.iload_n 1, 0), some (.iload_n 2, 0), some (.invokevirtual 68, 137), none, none, some (.ireturn, 0), some (.iload_n 2, 0), some (.bipush 8, 0), none, some (.if_icmp .ne 11, 52), none, none, some (.aload_n 0, 0), some (.iload_n 1, 0), some (.invokevirtual 115, 138), none],
  [none, some (.goto 8, 57), none, none, some (.aload_n 0, 0), some (.iload_n 1, 0), some (.invokevirtual 118, 139), none, none, some (.istore_n 3, 0), some (.iload_n 2, 0), some (.bipush 6, 0), none, some (.if_icmp .ne 11, 72), none, none],
  [some (.aload_n 0, 0), some (.iload_n 1, 0), some (.invokevirtual 80, 140), none, none, some (.goto 26, 95), none, none, some (.iload_n 2, 0), some (.bipush 7, 0), none, some (.if_icmp .ne 11, 86), none, none, some (.aload_n 0, 0), some (.iload_n 1, 0)],
  [some (.invokevirtual 101, 141), none, none, some (.goto 12, 95), none, none, some (.iload_n 3, 0), some (.ifCond .eq 7, 94), none, none, some (.iconst 1, 0), some (.goto 4, 95), none, none, some (.iconst 0, 0), some (.ireturn, 0)]]
def tb_m131 : ab_M := (⟨"ScrewLeftModel", "ofStep", "(II)I"⟩, prog_14_method_26_code, 4, (some .int), 0, 0, (5032, 5030, 1013), tb_t131)
def tb_t132 : ab_T := [
  [some (.iload_n 1, 0), some (.iconst 0, 0), some (.aload_n 0, 0), some (.getfield 9, 71), none, none, some (.iconst 2, 0), some (.iaload, 0), some (.iconst 1, 0), some (.isub, 0), some (.invokestatic 60, 133), none, none, some (.ireturn, 0)]]
def tb_m132 : ab_M := (⟨"ScrewLeftModel", "isStep", "(I)Z"⟩, prog_14_method_9_code, 2, (some .boolean), 0, 0, (5036, 5035, 1013), tb_t132)
def tb_t133 : ab_T := [
  [some (.aload_n 0, 0), some (.getfield 9, 71), none, none, some (.bipush 7, 0), none, some (.bipush 6, 0), none, some (.iload_n 1, 0), some (.imul, 0), some (.iadd, 0), some (.iload_n 2, 0), some (.iadd, 0), some (.iaload, 0), some (.ireturn, 0)]]
def tb_m133 : ab_M := (⟨"ScrewLeftModel", "of", "(II)I"⟩, prog_14_method_11_code, 3, (some .int), 0, 0, (5040, 5039, 1013), tb_t133)
def tb_t134 : ab_T := [
  [some (.aload_n 0, 0), some (.iload_n 1, 0), some (.iconst 4, 0), some (.invokevirtual 68, 137), none, none, some (.ifCond .ne 23, 29), none, none, some (.aload_n 0, 0), some (.iload_n 1, 0), some (.iconst 3, 0), some (.invokevirtual 68, 137), none, none, some (.aload_n 0, 0)],
  [some (.invokevirtual 84, 142), none, none, some (.iconst (-1), 0), some (.ixor, 0), some (.iand, 0), some (.ifCond .ne 7, 29), none, none, some (.iconst 1, 0), some (.goto 4, 30), none, none, some (.iconst 0, 0), some (.istore_n 2, 0), some (.iload_n 2, 0)],
  [some (.ifCond .eq 43, 75), none, none, some (.aload_n 0, 0), some (.getfield 9, 71), none, none, some (.iconst 4, 0), some (.iaload, 0), some (.aload_n 0, 0), some (.iload_n 1, 0), some (.iconst 2, 0), some (.invokevirtual 68, 137), none, none, some (.if_icmp .lt 28, 75)],
  [none, none, some (.aload_n 0, 0), some (.iload_n 1, 0), some (.iconst 0, 0), some (.invokevirtual 68, 137), none, none, some (.bipush 6, 0), none, some (.if_icmp .ne 13, 71), none, none, some (.aload_n 0, 0), some (.getfield 9, 71), none],
  [none, some (.iconst 3, 0), some (.iaload, 0), some (.iconst 2, 0), some (.if_icmp .ne 7, 75), none, none, some (.iconst 1, 0), some (.goto 4, 76), none, none, some (.iconst 0, 0), some (.ireturn, 0)]]
def tb_m134 : ab_M := (⟨"ScrewLeftModel", "mayBeDone", "(I)Z"⟩, prog_14_method_18_code, 3, (some .boolean), 0, 0, (5044, 5043, 1013), tb_t134)
def tb_t135 : ab_T := [
  [some (.iconst 0, 0), some (.istore_n 1, 0), some (.iconst 0, 0), some (.istore_n 2, 0), some (.iload_n 2, 0), some (.aload_n 0, 0), some (.getfield 9, 71), none, none, some (.iconst 2, 0), some (.iaload, 0), some (.if_icmp .ge 20, 31), none, none, some (.iload_n 1, 0), some (.aload_n 0, 0)],
  [some (.iload_n 2, 0), some (.iconst 4, 0), some (.invokevirtual 68, 137), none, none, some (.iload_n 2, 0), some (.ishl, 0), some (.ior, 0), some (.istore_n 1, 0), some (.iinc 2 1, 0), none, none, some (.goto (-24), 4), none, none, some (.iload_n 1, 0)],
  [some (.ireturn, 0)]]
def tb_m135 : ab_M := (⟨"ScrewLeftModel", "done", "()I"⟩, prog_14_method_17_code, 3, (some .int), 0, 0, (5048, 5047, 1013), tb_t135)
def tb_t136 : ab_T := [
  [some (.aload_n 0, 0), some (.iload_n 1, 0), some (.iconst 4, 0), some (.invokevirtual 68, 137), none, none, some (.iconst 1, 0), some (.if_icmp .ne 23, 30), none, none, some (.aload_n 0, 0), some (.iload_n 1, 0), some (.invokevirtual 87, 143), none, none, some (.ifCond .ne 15, 30)],
  [none, none, some (.aload_n 0, 0), some (.iload_n 1, 0), some (.invokevirtual 91, 144), none, none, some (.ifCond .ne 7, 30), none, none, some (.iconst 1, 0), some (.goto 4, 31), none, none, some (.iconst 0, 0), some (.ireturn, 0)]]
def tb_m136 : ab_M := (⟨"ScrewLeftModel", "mayBeUndone", "(I)Z"⟩, prog_14_method_20_code, 2, (some .boolean), 0, 0, (5052, 5051, 1013), tb_t136)
def tb_t137 : ab_T := [
  [some (.aload_n 0, 0), some (.iload_n 1, 0), some (.iconst 0, 0), some (.invokevirtual 68, 137), none, none, some (.iconst 2, 0), some (.if_icmp .eq 13, 20), none, none, some (.aload_n 0, 0), some (.iload_n 1, 0), some (.iconst 0, 0), some (.invokevirtual 68, 137), none, none],
  [some (.iconst 5, 0), some (.if_icmp .ne 7, 24), none, none, some (.iconst 1, 0), some (.goto 4, 25), none, none, some (.iconst 0, 0), some (.ireturn, 0)]]
def tb_m137 : ab_M := (⟨"ScrewLeftModel", "isNever", "(I)Z"⟩, prog_14_method_16_code, 2, (some .boolean), 0, 0, (5056, 5055, 1013), tb_t137)
def tb_t138 : ab_T := [
  [some (.iconst 0, 0), some (.istore_n 2, 0), some (.iconst 0, 0), some (.istore_n 3, 0), some (.iload_n 3, 0), some (.aload_n 0, 0), some (.getfield 9, 71), none, none, some (.iconst 2, 0), some (.iaload, 0), some (.if_icmp .ge 43, 54), none, none, some (.iload_n 2, 0), some (.aload_n 0, 0)],
  [some (.iload_n 3, 0), some (.iconst 4, 0), some (.invokevirtual 68, 137), none, none, some (.iconst 1, 0), some (.if_icmp .ne 23, 45), none, none, some (.aload_n 0, 0), some (.iload_n 3, 0), some (.iconst 3, 0), some (.invokevirtual 68, 137), none, none, some (.iload_n 1, 0)],
  [some (.ishr, 0), some (.iconst 1, 0), some (.iand, 0), some (.iconst 1, 0), some (.if_icmp .ne 9, 45), none, none, some (.iconst 1, 0), some (.iload_n 3, 0), some (.ishl, 0), some (.goto 4, 46), none, none, some (.iconst 0, 0), some (.ior, 0), some (.istore_n 2, 0)],
  [some (.iinc 3 1, 0), none, none, some (.goto (-47), 4), none, none, some (.iload_n 2, 0), some (.ireturn, 0)]]
def tb_m138 : ab_M := (⟨"ScrewLeftModel", "needing", "(I)I"⟩, prog_14_method_19_code, 4, (some .int), 0, 0, (5060, 5059, 1013), tb_t138)
def tb_t139 : ab_T := [
  [some (.aload_n 0, 0), some (.iload_n 1, 0), some (.iconst 2, 0), some (.invokevirtual 68, 137), none, none, some (.istore_n 2, 0), some (.aload_n 0, 0), some (.iload_n 1, 0), some (.iconst 1, 0), some (.invokevirtual 68, 137), none, none, some (.istore_n 3, 0), some (.aload_n 0, 0), some (.iconst 0, 0)],
  [some (.iload_n 2, 0), some (.iload_n 3, 0), some (.aload_n 0, 0), some (.invokevirtual 72, 145), none, none, some (.invokevirtual 76, 146), none, none, some (.istore 4, 0), none, some (.aload_n 0, 0), some (.getfield 9, 71), none, none, some (.iconst 3, 0)],
  [some (.iaload, 0), some (.iconst 1, 0), some (.if_icmp .ne 10, 44), none, none, some (.iconst 2, 0), some (.iload 4, 0), none, some (.imul, 0), some (.goto 5, 46), none, none, some (.iload 4, 0), none, some (.istore 5, 0), none],
  [some (.aload_n 0, 0), some (.iload_n 1, 0), some (.iconst 0, 0), some (.invokevirtual 68, 137), none, none, some (.tableswitch 72 1 6 #[38, 43, 48, 51, 60, 67], 0), none, none, none, none, none, none, none, none, none],
  [none, none, none, none, none, none, none, none, none, none, none, none, none, none, none, none],
  [none, none, none, none, none, none, none, none, none, none, none, none, some (.iload 4, 0), none, some (.iconst 1, 0), some (.iadd, 0)],
  [some (.ireturn, 0), some (.iload 4, 0), none, some (.iconst 2, 0), some (.iadd, 0), some (.ireturn, 0), some (.iload 5, 0), none, some (.ireturn, 0), some (.iload 4, 0), none, some (.iconst 1, 0), some (.iadd, 0), some (.iload_n 3, 0), some (.iconst 3, 0), some (.irem, 0)],
  [some (.iadd, 0), some (.ireturn, 0), some (.iload 4, 0), none, some (.iconst 2, 0), some (.iadd, 0), some (.iload_n 2, 0), some (.iadd, 0), some (.ireturn, 0), some (.iload 5, 0), none, some (.iload_n 3, 0), some (.iadd, 0), some (.ireturn, 0), some (.iload 4, 0), none],
  [some (.ireturn, 0)]]
def tb_m139 : ab_M := (⟨"ScrewLeftModel", "lastsOf", "(I)I"⟩, prog_14_method_14_code, 6, (some .int), 0, 0, (5064, 5063, 1013), tb_t139)
def tb_t140 : ab_T := [
  [some (.aload_n 0, 0), some (.getfield 9, 71), none, none, some (.iconst 0, 0), some (.iaload, 0), some (.bipush 30, 0), none, some (.idiv, 0), some (.iconst 0, 0), some (.bipush 9, 0), none, some (.invokestatic 64, 147), none, none, some (.ireturn, 0)]]
def tb_m140 : ab_M := (⟨"ScrewLeftModel", "tired", "()I"⟩, prog_14_method_13_code, 1, (some .int), 0, 0, (5068, 5067, 1013), tb_t140)
def tb_t141 : ab_T := [
  [some (.iload_n 0, 0), some (.iload_n 1, 0), some (.if_icmp .ge 7, 9), none, none, some (.iload_n 1, 0), some (.goto 13, 19), none, none, some (.iload_n 0, 0), some (.iload_n 2, 0), some (.if_icmp .le 7, 18), none, none, some (.iload_n 2, 0), some (.goto 4, 19)],
  [none, none, some (.iload_n 0, 0), some (.ireturn, 0)]]
def tb_m141 : ab_M := (⟨"ScrewLeftModel", "held", "(III)I"⟩, prog_14_method_4_code, 3, (some .int), 0, 0, (5071, 5070, 1013), tb_t141)
def tb_t142 : ab_T := [
  [some (.bipush 125, 0), none, some (.bipush 101, 0), none, some (.iload_n 1, 0), some (.imul, 0), some (.iadd, 0), some (.istore 5, 0), none, some (.aload_n 0, 0), some (.getfield 28, 77), none, none, some (.iconst 0, 0), some (.iload_n 2, 0), some (.iastore, 0)],
  [some (.aload_n 0, 0), some (.getfield 28, 77), none, none, some (.iconst 1, 0), some (.iload_n 3, 0), some (.iastore, 0), some (.aload_n 0, 0), some (.getfield 28, 77), none, none, some (.iconst 2, 0), some (.iload 4, 0), none, some (.iastore, 0), some (.aload_n 0, 0)],
  [some (.getfield 9, 71), none, none, some (.iload 5, 0), none, some (.iaload, 0), some (.ifCond .le 12, 50), none, none, some (.aload_n 0, 0), some (.iload 5, 0), none, some (.invokevirtual 184, 148), none, none, some (.goto 29, 76)],
  [none, none, some (.iload_n 1, 0), some (.ifCond .ne 12, 63), none, none, some (.iconst 1, 0), some (.iload_n 2, 0), some (.iadd, 0), some (.iload 4, 0), none, some (.iadd, 0), some (.goto 16, 76), none, none, some (.iload_n 2, 0)],
  [some (.iload_n 3, 0), some (.iadd, 0), some (.bipush 9, 0), none, some (.if_icmp .le 7, 75), none, none, some (.iconst 1, 0), some (.goto 4, 76), none, none, some (.iconst 0, 0), some (.istore 6, 0), none, some (.iload_n 1, 0), some (.ifCond .ne 14, 93)],
  [none, none, some (.iload 6, 0), none, some (.iconst 1, 0), some (.bipush 99, 0), none, some (.invokestatic 64, 147), none, none, some (.goto 10, 100), none, none, some (.iload 6, 0), none, some (.iconst 0, 0)],
  [some (.iconst 1, 0), some (.invokestatic 64, 147), none, none, some (.ireturn, 0)]]
def tb_m142 : ab_M := (⟨"ScrewLeftModel", "gives", "(IIII)I"⟩, prog_14_method_46_code, 7, (some .int), 0, 0, (5075, 5074, 1013), tb_t142)
def tb_t143 : ab_T := [
  [some (.iconst 0, 0), some (.istore_n 2, 0), some (.iconst 0, 0), some (.istore_n 3, 0), some (.iload_n 3, 0), some (.aload_n 0, 0), some (.getfield 9, 71), none, none, some (.iload_n 1, 0), some (.iaload, 0), some (.if_icmp .ge 144, 155), none, none, some (.aload_n 0, 0), some (.getfield 9, 71)],
  [none, none, some (.iload_n 1, 0), some (.iconst 1, 0), some (.iadd, 0), some (.iload_n 3, 0), some (.iadd, 0), some (.iaload, 0), some (.istore 4, 0), none, some (.iload 4, 0), none, some (.iconst 1, 0), some (.if_icmp .eq 9, 38), none, none],
  [some (.iload 4, 0), none, some (.iconst 2, 0), some (.if_icmp .ne 51, 86), none, none, some (.aload_n 0, 0), some (.getfield 31, 78), none, none, some (.iload_n 2, 0), some (.iload 4, 0), none, some (.iconst 1, 0), some (.if_icmp .ne 17, 63), none],
  [none, some (.aload_n 0, 0), some (.getfield 9, 71), none, none, some (.iload_n 1, 0), some (.bipush 51, 0), none, some (.iadd, 0), some (.iload_n 3, 0), some (.iadd, 0), some (.iaload, 0), some (.goto 19, 79), none, none, some (.aload_n 0, 0)],
  [some (.getfield 28, 77), none, none, some (.aload_n 0, 0), some (.getfield 9, 71), none, none, some (.iload_n 1, 0), some (.bipush 51, 0), none, some (.iadd, 0), some (.iload_n 3, 0), some (.iadd, 0), some (.iaload, 0), some (.iaload, 0), some (.iastore, 0)],
  [some (.iinc 2 1, 0), none, none, some (.goto 66, 149), none, none, some (.iload 4, 0), none, some (.iconst 3, 0), some (.if_icmp .ne 30, 119), none, none, some (.aload_n 0, 0), some (.getfield 31, 78), none, none],
  [some (.iload_n 2, 0), some (.iconst 1, 0), some (.isub, 0), some (.aload_n 0, 0), some (.getfield 31, 78), none, none, some (.iload_n 2, 0), some (.iconst 1, 0), some (.isub, 0), some (.iaload, 0), some (.ifCond .ne 7, 114), none, none, some (.iconst 1, 0), some (.goto 4, 115)],
  [none, none, some (.iconst 0, 0), some (.iastore, 0), some (.goto 33, 149), none, none, some (.iinc 2 (-1), 0), none, none, some (.aload_n 0, 0), some (.getfield 31, 78), none, none, some (.iload_n 2, 0), some (.iconst 1, 0)],
  [some (.isub, 0), some (.iload 4, 0), none, some (.aload_n 0, 0), some (.getfield 31, 78), none, none, some (.iload_n 2, 0), some (.iconst 1, 0), some (.isub, 0), some (.iaload, 0), some (.aload_n 0, 0), some (.getfield 31, 78), none, none, some (.iload_n 2, 0)],
  [some (.iaload, 0), some (.invokestatic 181, 149), none, none, some (.iastore, 0), some (.iinc 3 1, 0), none, none, some (.goto (-148), 4), none, none, some (.aload_n 0, 0), some (.getfield 31, 78), none, none, some (.iconst 0, 0)],
  [some (.iaload, 0), some (.ireturn, 0)]]
def tb_m143 : ab_M := (⟨"ScrewLeftModel", "works", "(I)I"⟩, prog_14_method_45_code, 5, (some .int), 0, 0, (5079, 5078, 1013), tb_t143)
def tb_t144 : ab_T := [
  [some (.iload_n 0, 0), some (.tableswitch 202 37 62 #[143, 188, 202, 202, 202, 127, 119, 202, 123, 202, 131, 202, 202, 202, 202, 202, 202, 202, 202, 202, 202, 202, 202, 155, 166, 177], 0), none, none, none, none, none, none, none, none, none, none, none, none, none, none],
  [none, none, none, none, none, none, none, none, none, none, none, none, none, none, none, none],
  [none, none, none, none, none, none, none, none, none, none, none, none, none, none, none, none],
  [none, none, none, none, none, none, none, none, none, none, none, none, none, none, none, none],
  [none, none, none, none, none, none, none, none, none, none, none, none, none, none, none, none],
  [none, none, none, none, none, none, none, none, none, none, none, none, none, none, none, none],
  [none, none, none, none, none, none, none, none, none, none, none, none, none, none, none, none],
  [none, none, none, none, none, none, none, none, some (.iload_n 1, 0), some (.iload_n 2, 0), some (.iadd, 0), some (.ireturn, 0), some (.iload_n 1, 0), some (.iload_n 2, 0), some (.isub, 0), some (.ireturn, 0)],
  [some (.iload_n 1, 0), some (.iload_n 2, 0), some (.imul, 0), some (.ireturn, 0), some (.iload_n 2, 0), some (.ifCond .ne 7, 140), none, none, some (.iconst 0, 0), some (.goto 6, 143), none, none, some (.iload_n 1, 0), some (.iload_n 2, 0), some (.idiv, 0), some (.ireturn, 0)],
  [some (.iload_n 2, 0), some (.ifCond .ne 7, 152), none, none, some (.iconst 0, 0), some (.goto 6, 155), none, none, some (.iload_n 1, 0), some (.iload_n 2, 0), some (.irem, 0), some (.ireturn, 0), some (.iload_n 1, 0), some (.iload_n 2, 0), some (.if_icmp .ge 7, 165), none],
  [none, some (.iconst 1, 0), some (.goto 4, 166), none, none, some (.iconst 0, 0), some (.ireturn, 0), some (.iload_n 1, 0), some (.iload_n 2, 0), some (.if_icmp .ne 7, 176), none, none, some (.iconst 1, 0), some (.goto 4, 177), none, none],
  [some (.iconst 0, 0), some (.ireturn, 0), some (.iload_n 1, 0), some (.iload_n 2, 0), some (.if_icmp .le 7, 187), none, none, some (.iconst 1, 0), some (.goto 4, 188), none, none, some (.iconst 0, 0), some (.ireturn, 0), some (.iload_n 1, 0), some (.ifCond .eq 11, 201), none],
  [none, some (.iload_n 2, 0), some (.ifCond .eq 7, 201), none, none, some (.iconst 1, 0), some (.goto 4, 202), none, none, some (.iconst 0, 0), some (.ireturn, 0), some (.iload_n 1, 0), some (.ifCond .ne 7, 211), none, none, some (.iload_n 2, 0)],
  [some (.ifCond .eq 7, 215), none, none, some (.iconst 1, 0), some (.goto 4, 216), none, none, some (.iconst 0, 0), some (.ireturn, 0)]]
def tb_m144 : ab_M := (⟨"ScrewLeftModel", "twoOf", "(III)I"⟩, prog_14_method_44_code, 3, (some .int), 0, 0, (5082, 5081, 1013), tb_t144)
def tb_t145 : ab_T := [
  [some (.aload_n 0, 0), some (.iload_n 1, 0), some (.invokevirtual 80, 140), none, none, some (.istore_n 2, 0), some (.aload_n 0, 0), some (.iload_n 1, 0), some (.iconst 0, 0), some (.invokevirtual 68, 137), none, none, some (.iconst 3, 0), some (.if_icmp .eq 14, 27), none, none],
  [some (.aload_n 0, 0), some (.iload_n 1, 0), some (.iconst 0, 0), some (.invokevirtual 68, 137), none, none, some (.bipush 6, 0), none, some (.if_icmp .ne 7, 31), none, none, some (.iload_n 2, 0), some (.goto 6, 34), none, none, some (.iload_n 2, 0)],
  [some (.iconst 2, 0), some (.idiv, 0), some (.ireturn, 0)]]
def tb_m145 : ab_M := (⟨"ScrewLeftModel", "backOf", "(I)I"⟩, prog_14_method_15_code, 3, (some .int), 0, 0, (5086, 5085, 1013), tb_t145)
def tb_t146 : ab_T := [
  [some (.aload_n 0, 0), some (.iload_n 1, 0), some (.invokevirtual 112, 136), none, none, some (.ifCond .eq 43, 48), none, none, some (.iload_n 2, 0), some (.iconst 0, 0), some (.iconst 2, 0), some (.invokestatic 60, 133), none, none, some (.ifCond .eq 34, 48), none],
  [none, some (.iload_n 3, 0), some (.iconst 0, 0), some (.iload_n 2, 0), some (.ifCond .ne 8, 28), none, none, some (.bipush 9, 0), none, some (.goto 17, 42), none, none, some (.iload_n 2, 0), some (.iconst 1, 0), some (.if_icmp .ne 11, 41), none],
  [none, some (.iconst 1, 0), some (.iload_n 1, 0), some (.ishl, 0), some (.iconst 1, 0), some (.isub, 0), some (.goto 4, 42), none, none, some (.iconst 1, 0), some (.invokestatic 60, 133), none, none, some (.ifCond .ne 10, 55), none, none],
  [some (.aload_n 0, 0), some (.ldc 107, 7), none, some (.invokevirtual 108, 134), none, none, some (.ireturn, 0), some (.iload_n 2, 0), some (.iconst 2, 0), some (.if_icmp .ne 19, 76), none, none, some (.aload_n 0, 0), some (.iload_n 1, 0), some (.iconst 4, 0), some (.invokevirtual 68, 137)],
  [none, none, some (.ifCond .ne 10, 76), none, none, some (.aload_n 0, 0), some (.ldc 121, 10), none, some (.invokevirtual 108, 134), none, none, some (.ireturn, 0), some (.aload_n 0, 0), some (.bipush 7, 0), none, some (.bipush 6, 0)],
  [none, some (.iload_n 1, 0), some (.imul, 0), some (.iadd, 0), some (.iload_n 2, 0), some (.iconst 2, 0), some (.if_icmp .ne 7, 93), none, none, some (.iconst 5, 0), some (.goto 6, 96), none, none, some (.iconst 2, 0), some (.iload_n 2, 0), some (.iadd, 0)],
  [some (.iadd, 0), some (.iload_n 3, 0), some (.invokevirtual 122, 150), none, none, some (.ireturn, 0)]]
def tb_m146 : ab_M := (⟨"ScrewLeftModel", "change", "(III)I"⟩, prog_14_method_27_code, 4, (some .int), 0, 0, (5090, 5088, 1013), tb_t146)
def tb_t147 : ab_T := [
  [some (.aload_n 0, 0), some (.getfield 9, 71), none, none, some (.iload_n 1, 0), some (.iaload, 0), some (.istore_n 3, 0), some (.aload_n 0, 0), some (.getfield 9, 71), none, none, some (.iload_n 1, 0), some (.iload_n 2, 0), some (.iastore, 0), some (.iload_n 3, 0), some (.ireturn, 0)]]
def tb_m147 : ab_M := (⟨"ScrewLeftModel", "becomes", "(II)I"⟩, prog_14_method_10_code, 4, (some .int), 0, 0, (5095, 5094, 1013), tb_t147)
def tb_t148 : ab_T := [
  [some (.iload_n 1, 0), some (.tableswitch 105 0 2 #[27, 52, 79], 0), none, none, none, none, none, none, none, none, none, none, none, none, none, none],
  [none, none, none, none, none, none, none, none, none, none, none, none, some (.iload_n 2, 0), some (.iconst 1, 0), some (.iconst 2, 0), some (.invokestatic 60, 133)],
  [none, none, some (.ifCond .eq 12, 46), none, none, some (.aload_n 0, 0), some (.iconst 3, 0), some (.iload_n 2, 0), some (.invokevirtual 122, 150), none, none, some (.goto 9, 52), none, none, some (.aload_n 0, 0), some (.ldc 107, 7)],
  [none, some (.invokevirtual 108, 134), none, none, some (.ireturn, 0), some (.iload_n 2, 0), some (.iconst 0, 0), some (.sipush 999, 0), none, none, some (.invokestatic 60, 133), none, none, some (.ifCond .eq 12, 73), none, none],
  [some (.aload_n 0, 0), some (.iconst 4, 0), some (.iload_n 2, 0), some (.invokevirtual 122, 150), none, none, some (.goto 9, 79), none, none, some (.aload_n 0, 0), some (.ldc 107, 7), none, some (.invokevirtual 108, 134), none, none, some (.ireturn, 0)],
  [some (.iload_n 2, 0), some (.iconst 0, 0), some (.ldc 125, 11), none, some (.invokestatic 60, 133), none, none, some (.ifCond .eq 12, 99), none, none, some (.aload_n 0, 0), some (.iconst 0, 0), some (.iload_n 2, 0), some (.invokevirtual 122, 150), none, none],
  [some (.goto 9, 105), none, none, some (.aload_n 0, 0), some (.ldc 107, 7), none, some (.invokevirtual 108, 134), none, none, some (.ireturn, 0), some (.aload_n 0, 0), some (.ldc 107, 7), none, some (.invokevirtual 108, 134), none, none],
  [some (.ireturn, 0)]]
def tb_m148 : ab_M := (⟨"ScrewLeftModel", "set", "(II)I"⟩, prog_14_method_28_code, 3, (some .int), 0, 0, (5099, 5097, 1013), tb_t148)
def tb_t149 : ab_T := [
  [some (.aload_n 0, 0), some (.iload_n 1, 0), some (.invokevirtual 112, 136), none, none, some (.ifCond .eq 10, 15), none, none, some (.iload_n 2, 0), some (.invokestatic 104, 132), none, none, some (.ifCond .ne 10, 22), none, none, some (.aload_n 0, 0)],
  [some (.ldc 107, 7), none, some (.invokevirtual 108, 134), none, none, some (.ireturn, 0), some (.aload_n 0, 0), some (.iload_n 1, 0), some (.iconst 1, 0), some (.iload_n 2, 0), some (.bipush 10, 0), none, some (.irem, 0), some (.invokevirtual 97, 135), none, none],
  [some (.aload_n 0, 0), some (.bipush 7, 0), none, some (.bipush 6, 0), none, some (.iload_n 1, 0), some (.imul, 0), some (.iadd, 0), some (.iload_n 2, 0), some (.bipush 10, 0), none, some (.idiv, 0), some (.invokevirtual 122, 150), none, none, some (.ireturn, 0)]]
def tb_m149 : ab_M := (⟨"ScrewLeftModel", "become", "(II)I"⟩, prog_14_method_29_code, 3, (some .int), 0, 0, (5104, 5102, 1013), tb_t149)
def tb_t150 : ab_T := [
  [some (.aload_n 0, 0), some (.iload_n 1, 0), some (.invokevirtual 112, 136), none, none, some (.ifCond .eq 13, 18), none, none, some (.iload_n 2, 0), some (.iconst 0, 0), some (.bipush 6, 0), none, some (.invokestatic 60, 133), none, none, some (.ifCond .ne 10, 25)],
  [none, none, some (.aload_n 0, 0), some (.ldc 107, 7), none, some (.invokevirtual 108, 134), none, none, some (.ireturn, 0), some (.aload_n 0, 0), some (.iload_n 1, 0), some (.iconst 0, 0), some (.invokevirtual 68, 137), none, none, some (.istore_n 3, 0)],
  [some (.iload_n 2, 0), some (.ifCond .eq 39, 72), none, none, some (.iload_n 2, 0), some (.iload_n 3, 0), some (.if_icmp .eq 34, 72), none, none, some (.iload_n 2, 0), some (.iconst 1, 0), some (.if_icmp .ne 8, 51), none, none, some (.iload_n 3, 0), some (.iconst 4, 0)],
  [some (.if_icmp .eq 24, 72), none, none, some (.iload_n 2, 0), some (.iconst 2, 0), some (.if_icmp .ne 8, 61), none, none, some (.iload_n 3, 0), some (.iconst 5, 0), some (.if_icmp .eq 14, 72), none, none, some (.iload_n 2, 0), some (.iconst 3, 0), some (.if_icmp .ne 13, 76)],
  [none, none, some (.iload_n 3, 0), some (.bipush 6, 0), none, some (.if_icmp .ne 7, 76), none, none, some (.iconst 1, 0), some (.goto 4, 77), none, none, some (.iconst 0, 0), some (.istore 4, 0), none, some (.iload 4, 0)],
  [none, some (.ifCond .eq 12, 93), none, none, some (.aload_n 0, 0), some (.iload_n 1, 0), some (.iconst 1, 0), some (.invokevirtual 68, 137), none, none, some (.goto 9, 99), none, none, some (.aload_n 0, 0), some (.ldc 126, 12), none],
  [some (.invokevirtual 108, 134), none, none, some (.ireturn, 0)]]
def tb_m150 : ab_M := (⟨"ScrewLeftModel", "as", "(II)I"⟩, prog_14_method_30_code, 5, (some .int), 0, 0, (5108, 5106, 1013), tb_t150)
def tb_t151 : ab_T := [
  [some (.iload_n 3, 0), some (.iconst 1, 0), some (.bipush 8, 0), none, some (.invokestatic 60, 133), none, none, some (.ifCond .ne 10, 17), none, none, some (.aload_n 0, 0), some (.ldc 107, 7), none, some (.invokevirtual 108, 134), none, none],
  [some (.ireturn, 0), some (.aload_n 0, 0), some (.getfield 9, 71), none, none, some (.iconst 5, 0), some (.iaload, 0), some (.iload_n 3, 0), some (.iadd, 0), some (.bipush 50, 0), none, some (.if_icmp .le 10, 37), none, none, some (.aload_n 0, 0), some (.ldc 111, 8)],
  [none, some (.invokevirtual 108, 134), none, none, some (.ireturn, 0), some (.iconst 0, 0), some (.istore 4, 0), none, some (.iload 4, 0), none, some (.iload_n 3, 0), some (.if_icmp .ge 45, 88), none, none, some (.aload_n 0, 0), some (.getfield 9, 71)],
  [none, none, some (.bipush 55, 0), none, some (.aload_n 0, 0), some (.getfield 9, 71), none, none, some (.iconst 5, 0), some (.iaload, 0), some (.iadd, 0), some (.lload_n 1, 0), some (.bipush 8, 0), none, some (.iload 4, 0), none],
  [some (.imul, 0), some (.lshr, 0), some (.ldc2_w 127, 13), none, none, some (.land, 0), some (.l2i, 0), some (.iastore, 0), some (.aload_n 0, 0), some (.getfield 9, 71), none, none, some (.iconst 5, 0), some (.dup2, 0), some (.iaload, 0), some (.iconst 1, 0)],
  [some (.iadd, 0), some (.iastore, 0), some (.iinc 4 1, 0), none, none, some (.goto (-45), 40), none, none, some (.aload_n 0, 0), some (.getfield 9, 71), none, none, some (.iconst 5, 0), some (.iaload, 0), some (.ireturn, 0)]]
def tb_m151 : ab_M := (⟨"ScrewLeftModel", "feed", "(JI)I"⟩, prog_14_method_31_code, 5, (some .int), 0, 0, (5113, 5111, 1013), tb_t151)
def tb_t152 : ab_T := [
  [some (.iload_n 1, 0), some (.iconst 0, 0), some (.iconst 1, 0), some (.invokestatic 60, 133), none, none, some (.ifCond .ne 10, 16), none, none, some (.aload_n 0, 0), some (.ldc 107, 7), none, some (.invokevirtual 108, 134), none, none, some (.ireturn, 0)],
  [some (.aload_n 0, 0), some (.iload_n 1, 0), some (.putfield 136, 86), none, none, some (.aload_n 0, 0), some (.iconst 0, 0), some (.putfield 133, 87), none, none, some (.aload_n 0, 0), some (.iconst 0, 0), some (.putfield 129, 88), none, none, some (.aload_n 0, 0)],
  [some (.iconst 0, 0), some (.putfield 150, 89), none, none, some (.aload_n 0, 0), some (.iconst 0, 0), some (.putfield 142, 90), none, none, some (.aload_n 0, 0), some (.invokevirtual 156, 151), none, none, some (.aload_n 0, 0), some (.aload_n 0, 0), some (.getfield 142, 90)],
  [none, none, some (.ifCond .ne 16, 66), none, none, some (.aload_n 0, 0), some (.getfield 129, 88), none, none, some (.aload_n 0, 0), some (.getfield 9, 71), none, none, some (.iconst 5, 0), some (.iaload, 0), some (.if_icmp .ge 7, 70)],
  [none, none, some (.iconst 1, 0), some (.goto 4, 71), none, none, some (.iconst 0, 0), some (.putfield 142, 90), none, none, some (.aload_n 0, 0), some (.getfield 9, 71), none, none, some (.iconst 5, 0), some (.iconst 0, 0)],
  [some (.iastore, 0), some (.aload_n 0, 0), some (.getfield 142, 90), none, none, some (.ifCond .eq 11, 96), none, none, some (.bipush (-10), 0), none, some (.aload_n 0, 0), some (.getfield 129, 88), none, none, some (.isub, 0), some (.ireturn, 0)],
  [some (.bipush 125, 0), none, some (.bipush 101, 0), none, some (.iload_n 1, 0), some (.imul, 0), some (.iadd, 0), some (.istore_n 2, 0), some (.aload_n 0, 0), some (.getfield 9, 71), none, none, some (.iload_n 2, 0), some (.aload_n 0, 0), some (.getfield 133, 87), none],
  [none, some (.iastore, 0), some (.iconst 0, 0), some (.istore_n 3, 0), some (.iload_n 3, 0), some (.aload_n 0, 0), some (.getfield 133, 87), none, none, some (.if_icmp .ge 42, 163), none, none, some (.aload_n 0, 0), some (.getfield 9, 71), none, none],
  [some (.iload_n 2, 0), some (.iconst 1, 0), some (.iadd, 0), some (.iload_n 3, 0), some (.iadd, 0), some (.aload_n 0, 0), some (.getfield 22, 75), none, none, some (.iload_n 3, 0), some (.iaload, 0), some (.iastore, 0), some (.aload_n 0, 0), some (.getfield 9, 71), none, none],
  [some (.iload_n 2, 0), some (.bipush 51, 0), none, some (.iadd, 0), some (.iload_n 3, 0), some (.iadd, 0), some (.aload_n 0, 0), some (.getfield 25, 76), none, none, some (.iload_n 3, 0), some (.iaload, 0), some (.iastore, 0), some (.iinc 3 1, 0), none, none],
  [some (.goto (-44), 116), none, none, some (.iconst 1, 0), some (.ireturn, 0)]]
def tb_m152 : ab_M := (⟨"ScrewLeftModel", "text", "(I)I"⟩, prog_14_method_43_code, 4, (some .int), 0, 0, (5118, 5116, 1013), tb_t152)
def tb_t153 : ab_T := [
  [some (.aload_n 0, 0), some (.invokevirtual 178, 152), none, none, some (.aload_n 0, 0), some (.getfield 142, 90), none, none, some (.ifCond .ne 36, 44), none, none, some (.aload_n 0, 0), some (.invokevirtual 139, 153), none, none, some (.bipush 124, 0)],
  [none, some (.if_icmp .ne 27, 44), none, none, some (.aload_n 0, 0), some (.dup, 0), some (.getfield 129, 88), none, none, some (.iconst 1, 0), some (.iadd, 0), some (.putfield 129, 88), none, none, some (.aload_n 0, 0), some (.invokevirtual 178, 152)],
  [none, none, some (.aload_n 0, 0), some (.bipush 124, 0), none, some (.iconst 0, 0), some (.invokevirtual 146, 154), none, none, some (.goto (-37), 4), none, none, some (.return_, 0)]]
def tb_m153 : ab_M := (⟨"ScrewLeftModel", "ored", "()V"⟩, prog_14_method_42_code, 1, none, 0, 0, (5122, 5121, 1013), tb_t153)
def tb_t154 : ab_T := [
  [some (.aload_n 0, 0), some (.invokevirtual 175, 155), none, none, some (.aload_n 0, 0), some (.getfield 142, 90), none, none, some (.ifCond .ne 36, 44), none, none, some (.aload_n 0, 0), some (.invokevirtual 139, 153), none, none, some (.bipush 38, 0)],
  [none, some (.if_icmp .ne 27, 44), none, none, some (.aload_n 0, 0), some (.dup, 0), some (.getfield 129, 88), none, none, some (.iconst 1, 0), some (.iadd, 0), some (.putfield 129, 88), none, none, some (.aload_n 0, 0), some (.invokevirtual 175, 155)],
  [none, none, some (.aload_n 0, 0), some (.bipush 38, 0), none, some (.iconst 0, 0), some (.invokevirtual 146, 154), none, none, some (.goto (-37), 4), none, none, some (.return_, 0)]]
def tb_m154 : ab_M := (⟨"ScrewLeftModel", "anded", "()V"⟩, prog_14_method_41_code, 1, none, 0, 0, (5126, 5125, 1013), tb_t154)
def tb_t155 : ab_T := [
  [some (.aload_n 0, 0), some (.invokevirtual 172, 156), none, none, some (.aload_n 0, 0), some (.invokevirtual 139, 153), none, none, some (.istore_n 1, 0), some (.aload_n 0, 0), some (.getfield 142, 90), none, none, some (.ifCond .ne 41, 54), none, none],
  [some (.iload_n 1, 0), some (.bipush 60, 0), none, some (.if_icmp .eq 15, 34), none, none, some (.iload_n 1, 0), some (.bipush 61, 0), none, some (.if_icmp .eq 9, 34), none, none, some (.iload_n 1, 0), some (.bipush 62, 0), none, some (.if_icmp .ne 23, 54)],
  [none, none, some (.aload_n 0, 0), some (.dup, 0), some (.getfield 129, 88), none, none, some (.iconst 1, 0), some (.iadd, 0), some (.putfield 129, 88), none, none, some (.aload_n 0, 0), some (.invokevirtual 172, 156), none, none],
  [some (.aload_n 0, 0), some (.iload_n 1, 0), some (.iconst 0, 0), some (.invokevirtual 146, 154), none, none, some (.return_, 0)]]
def tb_m155 : ab_M := (⟨"ScrewLeftModel", "compares", "()V"⟩, prog_14_method_40_code, 2, none, 0, 0, (5130, 5129, 1013), tb_t155)
def tb_t156 : ab_T := [
  [some (.aload_n 0, 0), some (.invokevirtual 169, 157), none, none, some (.aload_n 0, 0), some (.getfield 142, 90), none, none, some (.ifCond .ne 49, 57), none, none, some (.aload_n 0, 0), some (.invokevirtual 139, 153), none, none, some (.bipush 43, 0)],
  [none, some (.if_icmp .eq 12, 29), none, none, some (.aload_n 0, 0), some (.invokevirtual 139, 153), none, none, some (.bipush 45, 0), none, some (.if_icmp .ne 31, 57), none, none, some (.aload_n 0, 0), some (.invokevirtual 139, 153), none],
  [none, some (.istore_n 1, 0), some (.aload_n 0, 0), some (.dup, 0), some (.getfield 129, 88), none, none, some (.iconst 1, 0), some (.iadd, 0), some (.putfield 129, 88), none, none, some (.aload_n 0, 0), some (.invokevirtual 169, 157), none, none],
  [some (.aload_n 0, 0), some (.iload_n 1, 0), some (.iconst 0, 0), some (.invokevirtual 146, 154), none, none, some (.goto (-50), 4), none, none, some (.return_, 0)]]
def tb_m156 : ab_M := (⟨"ScrewLeftModel", "sum", "()V"⟩, prog_14_method_39_code, 2, none, 0, 0, (5134, 5133, 1013), tb_t156)
def tb_t157 : ab_T := [
  [some (.aload_n 0, 0), some (.invokevirtual 153, 158), none, none, some (.aload_n 0, 0), some (.getfield 142, 90), none, none, some (.ifCond .ne 58, 66), none, none, some (.aload_n 0, 0), some (.invokevirtual 139, 153), none, none, some (.bipush 42, 0)],
  [none, some (.if_icmp .eq 21, 38), none, none, some (.aload_n 0, 0), some (.invokevirtual 139, 153), none, none, some (.bipush 47, 0), none, some (.if_icmp .eq 12, 38), none, none, some (.aload_n 0, 0), some (.invokevirtual 139, 153), none],
  [none, some (.bipush 37, 0), none, some (.if_icmp .ne 31, 66), none, none, some (.aload_n 0, 0), some (.invokevirtual 139, 153), none, none, some (.istore_n 1, 0), some (.aload_n 0, 0), some (.dup, 0), some (.getfield 129, 88), none, none],
  [some (.iconst 1, 0), some (.iadd, 0), some (.putfield 129, 88), none, none, some (.aload_n 0, 0), some (.invokevirtual 153, 158), none, none, some (.aload_n 0, 0), some (.iload_n 1, 0), some (.iconst 0, 0), some (.invokevirtual 146, 154), none, none, some (.goto (-59), 4)],
  [none, none, some (.return_, 0)]]
def tb_m157 : ab_M := (⟨"ScrewLeftModel", "times", "()V"⟩, prog_14_method_38_code, 2, none, 0, 0, (5138, 5137, 1013), tb_t157)
def tb_t158 : ab_T := [
  [some (.aload_n 0, 0), some (.invokevirtual 139, 153), none, none, some (.istore_n 1, 0), some (.aload_n 0, 0), some (.iload_n 1, 0), some (.invokevirtual 159, 159), none, none, some (.istore_n 2, 0), some (.iload_n 2, 0), some (.ifCond .lt 22, 34), none, none, some (.aload_n 0, 0)],
  [some (.dup, 0), some (.getfield 129, 88), none, none, some (.iconst 1, 0), some (.iadd, 0), some (.putfield 129, 88), none, none, some (.aload_n 0, 0), some (.iconst 2, 0), some (.iload_n 2, 0), some (.invokevirtual 146, 154), none, none, some (.goto 27, 58)],
  [none, none, some (.iload_n 1, 0), some (.bipush 33, 0), none, some (.if_icmp .eq 9, 46), none, none, some (.iload_n 1, 0), some (.bipush 40, 0), none, some (.if_icmp .ne 11, 54), none, none, some (.aload_n 0, 0), some (.iload_n 1, 0)],
  [some (.invokevirtual 162, 160), none, none, some (.goto 7, 58), none, none, some (.aload_n 0, 0), some (.invokevirtual 166, 161), none, none, some (.return_, 0)]]
def tb_m158 : ab_M := (⟨"ScrewLeftModel", "pieceHere", "()V"⟩, prog_14_method_37_code, 3, none, 0, 0, (5142, 5141, 1013), tb_t158)
def tb_t159 : ab_T := [
  [some (.aload_n 0, 0), some (.getfield 129, 88), none, none, some (.aload_n 0, 0), some (.getfield 9, 71), none, none, some (.iconst 5, 0), some (.iaload, 0), some (.if_icmp .ge 18, 28), none, none, some (.aload_n 0, 0), some (.getfield 9, 71), none],
  [none, some (.bipush 55, 0), none, some (.aload_n 0, 0), some (.getfield 129, 88), none, none, some (.iadd, 0), some (.iaload, 0), some (.goto 4, 29), none, none, some (.iconst (-1), 0), some (.ireturn, 0)]]
def tb_m159 : ab_M := (⟨"ScrewLeftModel", "byteHere", "()I"⟩, prog_14_method_32_code, 1, (some .int), 0, 0, (5146, 5145, 1013), tb_t159)
def tb_t160 : ab_T := [
  [some (.iload_n 1, 0), some (.tableswitch 108 107 116 #[94, 108, 68, 108, 108, 108, 108, 108, 55, 81], 0), none, none, none, none, none, none, none, none, none, none, none, none, none, none],
  [none, none, none, none, none, none, none, none, none, none, none, none, none, none, none, none],
  [none, none, none, none, none, none, none, none, none, none, none, none, none, none, none, none],
  [none, none, none, none, none, none, none, none, some (.aload_n 0, 0), some (.getfield 136, 86), none, none, some (.ifCond .ne 7, 67), none, none, some (.iconst 0, 0)],
  [some (.goto 4, 68), none, none, some (.iconst (-1), 0), some (.ireturn, 0), some (.aload_n 0, 0), some (.getfield 136, 86), none, none, some (.ifCond .ne 7, 80), none, none, some (.iconst 1, 0), some (.goto 4, 81), none, none],
  [some (.iconst 0, 0), some (.ireturn, 0), some (.aload_n 0, 0), some (.getfield 136, 86), none, none, some (.ifCond .ne 7, 93), none, none, some (.iconst 2, 0), some (.goto 4, 94), none, none, some (.iconst 1, 0), some (.ireturn, 0), some (.aload_n 0, 0)],
  [some (.getfield 136, 86), none, none, some (.iconst 1, 0), some (.if_icmp .ne 7, 107), none, none, some (.iconst 2, 0), some (.goto 4, 108), none, none, some (.iconst (-1), 0), some (.ireturn, 0), some (.iconst (-1), 0), some (.ireturn, 0)]]
def tb_m160 : ab_M := (⟨"ScrewLeftModel", "nameOf", "(I)I"⟩, prog_14_method_34_code, 2, (some .int), 0, 0, (5150, 5149, 1013), tb_t160)
def tb_t161 : ab_T := [
  [some (.aload_n 0, 0), some (.getfield 133, 87), none, none, some (.aload_n 0, 0), some (.getfield 22, 75), none, none, some (.arraylength, 0), some (.if_icmp .ge 33, 42), none, none, some (.aload_n 0, 0), some (.getfield 22, 75), none, none],
  [some (.aload_n 0, 0), some (.getfield 133, 87), none, none, some (.iload_n 1, 0), some (.iastore, 0), some (.aload_n 0, 0), some (.getfield 25, 76), none, none, some (.aload_n 0, 0), some (.getfield 133, 87), none, none, some (.iload_n 2, 0), some (.iastore, 0)],
  [some (.aload_n 0, 0), some (.dup, 0), some (.getfield 133, 87), none, none, some (.iconst 1, 0), some (.iadd, 0), some (.putfield 133, 87), none, none, some (.return_, 0)]]
def tb_m161 : ab_M := (⟨"ScrewLeftModel", "lays", "(II)V"⟩, prog_14_method_33_code, 3, none, 0, 0, (5154, 5153, 1013), tb_t161)
def tb_t162 : ab_T := [
  [some (.aload_n 0, 0), some (.getfield 150, 89), none, none, some (.iconst 5, 0), some (.if_icmp .ne 9, 14), none, none, some (.aload_n 0, 0), some (.iconst 1, 0), some (.putfield 142, 90), none, none, some (.return_, 0), some (.aload_n 0, 0), some (.dup, 0)],
  [some (.getfield 150, 89), none, none, some (.iconst 1, 0), some (.iadd, 0), some (.putfield 150, 89), none, none, some (.aload_n 0, 0), some (.dup, 0), some (.getfield 129, 88), none, none, some (.iconst 1, 0), some (.iadd, 0), some (.putfield 129, 88)],
  [none, none, some (.iload_n 1, 0), some (.bipush 33, 0), none, some (.if_icmp .ne 16, 53), none, none, some (.aload_n 0, 0), some (.invokevirtual 153, 158), none, none, some (.aload_n 0, 0), some (.iconst 3, 0), some (.iconst 0, 0), some (.invokevirtual 146, 154)],
  [none, none, some (.goto 53, 103), none, none, some (.aload_n 0, 0), some (.invokevirtual 156, 151), none, none, some (.aload_n 0, 0), some (.aload_n 0, 0), some (.getfield 142, 90), none, none, some (.ifCond .ne 12, 74), none],
  [none, some (.aload_n 0, 0), some (.invokevirtual 139, 153), none, none, some (.bipush 41, 0), none, some (.if_icmp .eq 7, 78), none, none, some (.iconst 1, 0), some (.goto 4, 79), none, none, some (.iconst 0, 0), some (.putfield 142, 90)],
  [none, none, some (.aload_n 0, 0), some (.dup, 0), some (.getfield 129, 88), none, none, some (.aload_n 0, 0), some (.getfield 142, 90), none, none, some (.ifCond .eq 7, 98), none, none, some (.iconst 0, 0), some (.goto 4, 99)],
  [none, none, some (.iconst 1, 0), some (.iadd, 0), some (.putfield 129, 88), none, none, some (.aload_n 0, 0), some (.dup, 0), some (.getfield 150, 89), none, none, some (.iconst 1, 0), some (.isub, 0), some (.putfield 150, 89), none],
  [none, some (.return_, 0)]]
def tb_m162 : ab_M := (⟨"ScrewLeftModel", "opensBy", "(I)V"⟩, prog_14_method_36_code, 2, none, 0, 0, (5158, 5157, 1013), tb_t162)
def tb_t163 : ab_T := [
  [some (.iconst 0, 0), some (.istore_n 1, 0), some (.iconst 0, 0), some (.istore_n 2, 0), some (.iload_n 2, 0), some (.iconst 4, 0), some (.if_icmp .ge 46, 52), none, none, some (.aload_n 0, 0), some (.invokevirtual 139, 153), none, none, some (.bipush 48, 0), none, some (.bipush 57, 0)],
  [none, some (.invokestatic 60, 133), none, none, some (.ifCond .eq 32, 52), none, none, some (.bipush 10, 0), none, some (.iload_n 1, 0), some (.imul, 0), some (.aload_n 0, 0), some (.invokevirtual 139, 153), none, none, some (.iadd, 0)],
  [some (.bipush 48, 0), none, some (.isub, 0), some (.istore_n 1, 0), some (.aload_n 0, 0), some (.dup, 0), some (.getfield 129, 88), none, none, some (.iconst 1, 0), some (.iadd, 0), some (.putfield 129, 88), none, none, some (.iinc 2 1, 0), none],
  [none, some (.goto (-45), 4), none, none, some (.aload_n 0, 0), some (.iload_n 2, 0), some (.ifCond .ne 7, 61), none, none, some (.iconst 1, 0), some (.goto 4, 62), none, none, some (.iconst 0, 0), some (.putfield 142, 90), none],
  [none, some (.aload_n 0, 0), some (.iconst 1, 0), some (.iload_n 1, 0), some (.invokevirtual 146, 154), none, none, some (.return_, 0)]]
def tb_m163 : ab_M := (⟨"ScrewLeftModel", "number", "()V"⟩, prog_14_method_35_code, 3, none, 0, 0, (5162, 5161, 1013), tb_t163)
def tb_t164 : ab_T := [
  [some (.iload_n 1, 0), some (.iconst 0, 0), some (.iconst 1, 0), some (.invokestatic 60, 133), none, none, some (.ifCond .eq 15, 21), none, none, some (.aload_n 0, 0), some (.iload_n 1, 0), some (.iload_n 2, 0), some (.iload_n 3, 0), some (.iload 4, 0), none, some (.invokevirtual 76, 146)],
  [none, none, some (.goto 9, 27), none, none, some (.aload_n 0, 0), some (.ldc 107, 7), none, some (.invokevirtual 108, 134), none, none, some (.ireturn, 0)]]
def tb_m164 : ab_M := (⟨"ScrewLeftModel", "law", "(IIII)I"⟩, prog_14_method_47_code, 5, (some .int), 0, 0, (5166, 5164, 1013), tb_t164)
def tb_t165 : ab_T := [
  [some (.aload_n 0, 0), some (.iload_n 1, 0), some (.invokevirtual 112, 136), none, none, some (.ifCond .ne 10, 15), none, none, some (.aload_n 0, 0), some (.ldc 107, 7), none, some (.invokevirtual 108, 134), none, none, some (.ireturn, 0), some (.aload_n 0, 0)],
  [some (.iload_n 1, 0), some (.invokevirtual 115, 138), none, none, some (.ifCond .eq 20, 40), none, none, some (.aload_n 0, 0), some (.getfield 9, 71), none, none, some (.iconst 0, 0), some (.iaload, 0), some (.aload_n 0, 0), some (.iload_n 1, 0), some (.invokevirtual 80, 140)],
  [none, none, some (.iadd, 0), some (.ldc 125, 11), none, some (.if_icmp .le 10, 47), none, none, some (.aload_n 0, 0), some (.ldc 121, 10), none, some (.invokevirtual 108, 134), none, none, some (.ireturn, 0), some (.aload_n 0, 0)],
  [some (.iload_n 1, 0), some (.invokevirtual 187, 162), none, none, some (.aload_n 0, 0), some (.iload_n 1, 0), some (.iconst 5, 0), some (.invokevirtual 68, 137), none, none, some (.ireturn, 0)]]
def tb_m165 : ab_M := (⟨"ScrewLeftModel", "does", "(I)I"⟩, prog_14_method_48_code, 2, (some .int), 0, 0, (5170, 5168, 1013), tb_t165)
def tb_t166 : ab_T := [
  [some (.aload_n 0, 0), some (.iload_n 1, 0), some (.aload_n 0, 0), some (.invokevirtual 72, 145), none, none, some (.invokevirtual 94, 163), none, none, some (.istore_n 2, 0), some (.aload_n 0, 0), some (.getfield 9, 71), none, none, some (.iconst 0, 0), some (.dup2, 0)],
  [some (.iaload, 0), some (.aload_n 0, 0), some (.iload_n 1, 0), some (.invokevirtual 80, 140), none, none, some (.iadd, 0), some (.iastore, 0), some (.aload_n 0, 0), some (.getfield 9, 71), none, none, some (.iconst 4, 0), some (.dup2, 0), some (.iaload, 0), some (.aload_n 0, 0)],
  [some (.iload_n 1, 0), some (.iconst 2, 0), some (.invokevirtual 68, 137), none, none, some (.isub, 0), some (.iastore, 0), some (.aload_n 0, 0), some (.iload_n 1, 0), some (.iconst 4, 0), some (.iconst 1, 0), some (.invokevirtual 97, 135), none, none, some (.aload_n 0, 0), some (.iload_n 1, 0)],
  [some (.iconst 5, 0), some (.iload_n 2, 0), some (.invokevirtual 97, 135), none, none, some (.return_, 0)]]
def tb_m166 : ab_M := (⟨"ScrewLeftModel", "isDone", "(I)V"⟩, prog_14_method_22_code, 3, none, 0, 0, (5174, 5173, 1013), tb_t166)
def tb_t167 : ab_T := [
  [some (.aload_n 0, 0), some (.iconst 1, 0), some (.aload_n 0, 0), some (.iload_n 1, 0), some (.iconst 1, 0), some (.invokevirtual 68, 137), none, none, some (.iload_n 2, 0), some (.aload_n 0, 0), some (.iload_n 1, 0), some (.iconst 0, 0), some (.invokevirtual 68, 137), none, none, some (.invokevirtual 76, 146)],
  [none, none, some (.ireturn, 0)]]
def tb_m167 : ab_M := (⟨"ScrewLeftModel", "errsOf", "(II)I"⟩, prog_14_method_21_code, 3, (some .int), 0, 0, (5178, 5177, 1013), tb_t167)
def tb_t168 : ab_T := [
  [some (.aload_n 0, 0), some (.iload_n 1, 0), some (.invokevirtual 112, 136), none, none, some (.ifCond .ne 10, 15), none, none, some (.aload_n 0, 0), some (.ldc 107, 7), none, some (.invokevirtual 108, 134), none, none, some (.ireturn, 0), some (.aload_n 0, 0)],
  [some (.iload_n 1, 0), some (.invokevirtual 118, 139), none, none, some (.ifCond .eq 20, 40), none, none, some (.aload_n 0, 0), some (.getfield 9, 71), none, none, some (.iconst 0, 0), some (.iaload, 0), some (.aload_n 0, 0), some (.iload_n 1, 0), some (.invokevirtual 101, 141)],
  [none, none, some (.iadd, 0), some (.ldc 125, 11), none, some (.if_icmp .le 10, 47), none, none, some (.aload_n 0, 0), some (.ldc 121, 10), none, some (.invokevirtual 108, 134), none, none, some (.ireturn, 0), some (.aload_n 0, 0)],
  [some (.iload_n 1, 0), some (.invokevirtual 190, 164), none, none, some (.aload_n 0, 0), some (.getfield 9, 71), none, none, some (.iconst 4, 0), some (.iaload, 0), some (.ireturn, 0)]]
def tb_m168 : ab_M := (⟨"ScrewLeftModel", "undo", "(I)I"⟩, prog_14_method_49_code, 2, (some .int), 0, 0, (5182, 5180, 1013), tb_t168)
def tb_t169 : ab_T := [
  [some (.aload_n 0, 0), some (.iload_n 1, 0), some (.iconst 2, 0), some (.invokevirtual 68, 137), none, none, some (.istore_n 2, 0), some (.aload_n 0, 0), some (.getfield 9, 71), none, none, some (.iconst 0, 0), some (.dup2, 0), some (.iaload, 0), some (.aload_n 0, 0), some (.iload_n 1, 0)],
  [some (.invokevirtual 101, 141), none, none, some (.iadd, 0), some (.iastore, 0), some (.aload_n 0, 0), some (.getfield 9, 71), none, none, some (.iconst 4, 0), some (.iload_n 2, 0), some (.ifCond .le 16, 43), none, none, some (.aload_n 0, 0), some (.getfield 9, 71)],
  [none, none, some (.iconst 4, 0), some (.iaload, 0), some (.iload_n 2, 0), some (.iadd, 0), some (.iconst 1, 0), some (.isub, 0), some (.goto 9, 49), none, none, some (.aload_n 0, 0), some (.getfield 9, 71), none, none, some (.iconst 4, 0)],
  [some (.iaload, 0), some (.iconst 0, 0), some (.sipush 999, 0), none, none, some (.invokestatic 64, 147), none, none, some (.iastore, 0), some (.aload_n 0, 0), some (.iload_n 1, 0), some (.iconst 4, 0), some (.iconst 0, 0), some (.invokevirtual 97, 135), none, none],
  [some (.aload_n 0, 0), some (.iload_n 1, 0), some (.iconst 5, 0), some (.iconst 0, 0), some (.invokevirtual 97, 135), none, none, some (.return_, 0)]]
def tb_m169 : ab_M := (⟨"ScrewLeftModel", "isUndone", "(I)V"⟩, prog_14_method_23_code, 3, none, 0, 0, (5186, 5185, 1013), tb_t169)
def tb_t170 : ab_T := [
  [some (.iload_n 1, 0), some (.iconst 1, 0), some (.bipush 40, 0), none, some (.invokestatic 60, 133), none, none, some (.ifCond .ne 10, 17), none, none, some (.aload_n 0, 0), some (.ldc 107, 7), none, some (.invokevirtual 108, 134), none, none],
  [some (.ireturn, 0), some (.aload_n 0, 0), some (.getfield 9, 71), none, none, some (.iconst 0, 0), some (.iaload, 0), some (.sipush 300, 0), none, none, some (.iload_n 1, 0), some (.imul, 0), some (.iadd, 0), some (.ldc 125, 11), none, some (.if_icmp .le 10, 41)],
  [none, none, some (.aload_n 0, 0), some (.ldc 121, 10), none, some (.invokevirtual 108, 134), none, none, some (.ireturn, 0), some (.iconst 0, 0), some (.istore_n 2, 0), some (.iconst 0, 0), some (.istore_n 3, 0), some (.iload_n 3, 0), some (.iload_n 1, 0), some (.if_icmp .ge 16, 63)],
  [none, none, some (.iload_n 2, 0), some (.aload_n 0, 0), some (.invokevirtual 197, 165), none, none, some (.iadd, 0), some (.istore_n 2, 0), some (.iinc 3 1, 0), none, none, some (.goto (-15), 45), none, none, some (.iload_n 2, 0)],
  [some (.ireturn, 0)]]
def tb_m170 : ab_M := (⟨"ScrewLeftModel", "loose", "(I)I"⟩, prog_14_method_52_code, 4, (some .int), 0, 0, (5190, 5188, 1013), tb_t170)
def tb_t171 : ab_T := [
  [some (.aload_n 0, 0), some (.invokevirtual 194, 166), none, none, some (.bipush 8, 0), none, some (.irem, 0), some (.istore_n 1, 0), some (.aload_n 0, 0), some (.iload_n 1, 0), some (.invokevirtual 112, 136), none, none, some (.ifCond .eq 18, 31), none, none],
  [some (.aload_n 0, 0), some (.iload_n 1, 0), some (.invokevirtual 115, 138), none, none, some (.ifCond .eq 10, 31), none, none, some (.aload_n 0, 0), some (.iload_n 1, 0), some (.invokevirtual 187, 162), none, none, some (.iconst 1, 0), some (.ireturn, 0), some (.aload_n 0, 0)],
  [some (.iload_n 1, 0), some (.invokevirtual 112, 136), none, none, some (.ifCond .eq 19, 55), none, none, some (.aload_n 0, 0), some (.iload_n 1, 0), some (.invokevirtual 118, 139), none, none, some (.ifCond .eq 11, 55), none, none, some (.aload_n 0, 0)],
  [some (.iload_n 1, 0), some (.invokevirtual 190, 164), none, none, some (.goto 13, 65), none, none, some (.aload_n 0, 0), some (.getfield 9, 71), none, none, some (.iconst 0, 0), some (.dup2, 0), some (.iaload, 0), some (.iconst 1, 0), some (.iadd, 0)],
  [some (.iastore, 0), some (.iconst 0, 0), some (.ireturn, 0)]]
def tb_m171 : ab_M := (⟨"ScrewLeftModel", "drawn", "()I"⟩, prog_14_method_51_code, 2, (some .int), 0, 0, (5194, 5193, 1013), tb_t171)
def tb_t172 : ab_T := [
  [some (.aload_n 0, 0), some (.getfield 9, 71), none, none, some (.iconst 1, 0), some (.aload_n 0, 0), some (.getfield 9, 71), none, none, some (.iconst 1, 0), some (.iaload, 0), some (.ldc 193, 14), none, some (.imul, 0), some (.sipush 12345, 0), none],
  [none, some (.iadd, 0), some (.iastore, 0), some (.aload_n 0, 0), some (.getfield 9, 71), none, none, some (.iconst 1, 0), some (.iaload, 0), some (.bipush 8, 0), none, some (.iushr, 0), some (.ireturn, 0)]]
def tb_m172 : ab_M := (⟨"ScrewLeftModel", "draw", "()I"⟩, prog_14_method_50_code, 1, (some .int), 0, 0, (5198, 5197, 1013), tb_t172)
def tb_t173 : ab_T := [
  [some (.iload_n 1, 0), some (.iconst 0, 0), some (.iconst 1, 0), some (.invokestatic 60, 133), none, none, some (.ifCond .ne 10, 16), none, none, some (.aload_n 0, 0), some (.ldc 107, 7), none, some (.invokevirtual 108, 134), none, none, some (.ireturn, 0)],
  [some (.iconst 0, 0), some (.istore_n 2, 0), some (.iconst 0, 0), some (.istore_n 3, 0), some (.iload_n 3, 0), some (.aload_n 0, 0), some (.getfield 9, 71), none, none, some (.iconst 2, 0), some (.iaload, 0), some (.if_icmp .ge 27, 54), none, none, some (.iload_n 2, 0), some (.aload_n 0, 0)],
  [some (.iload_n 3, 0), some (.invokevirtual 118, 139), none, none, some (.ifCond .eq 9, 45), none, none, some (.iconst 1, 0), some (.iload_n 3, 0), some (.ishl, 0), some (.goto 4, 46), none, none, some (.iconst 0, 0), some (.ior, 0), some (.istore_n 2, 0)],
  [some (.iinc 3 1, 0), none, none, some (.goto (-31), 20), none, none, some (.iload_n 1, 0), some (.ifCond .ne 10, 65), none, none, some (.aload_n 0, 0), some (.invokevirtual 200, 167), none, none, some (.goto 4, 66), none],
  [none, some (.iload_n 2, 0), some (.ireturn, 0)]]
def tb_m173 : ab_M := (⟨"ScrewLeftModel", "next", "(I)I"⟩, prog_14_method_54_code, 4, (some .int), 0, 0, (5203, 5201, 1013), tb_t173)
def tb_t174 : ab_T := [
  [some (.iconst 0, 0), some (.istore_n 1, 0), some (.iconst 0, 0), some (.istore_n 2, 0), some (.iload_n 2, 0), some (.aload_n 0, 0), some (.getfield 9, 71), none, none, some (.iconst 2, 0), some (.iaload, 0), some (.if_icmp .ge 27, 38), none, none, some (.iload_n 1, 0), some (.aload_n 0, 0)],
  [some (.iload_n 2, 0), some (.invokevirtual 115, 138), none, none, some (.ifCond .eq 9, 29), none, none, some (.iconst 1, 0), some (.iload_n 2, 0), some (.ishl, 0), some (.goto 4, 30), none, none, some (.iconst 0, 0), some (.ior, 0), some (.istore_n 1, 0)],
  [some (.iinc 2 1, 0), none, none, some (.goto (-31), 4), none, none, some (.iload_n 1, 0), some (.ireturn, 0)]]
def tb_m174 : ab_M := (⟨"ScrewLeftModel", "mays", "()I"⟩, prog_14_method_53_code, 3, (some .int), 0, 0, (5207, 5206, 1013), tb_t174)
def tb_t175 : ab_T := [
  [some (.iload_n 1, 0), some (.iconst 0, 0), some (.iconst 2, 0), some (.invokestatic 60, 133), none, none, some (.ifCond .ne 10, 16), none, none, some (.aload_n 0, 0), some (.ldc 107, 7), none, some (.invokevirtual 108, 134), none, none, some (.ireturn, 0)],
  [some (.aload_n 0, 0), some (.invokevirtual 203, 168), none, none, some (.iconst 1, 0), some (.istore_n 2, 0), some (.iload_n 2, 0), some (.ifCond .eq 11, 34), none, none, some (.aload_n 0, 0), some (.invokevirtual 206, 169), none, none, some (.istore_n 2, 0), some (.goto (-9), 22)],
  [none, none, some (.iload_n 1, 0), some (.ifCond .ne 19, 54), none, none, some (.aload_n 0, 0), some (.getfield 9, 71), none, none, some (.iconst 0, 0), some (.iaload, 0), some (.aload_n 0, 0), some (.getfield 16, 73), none, none],
  [some (.iconst 0, 0), some (.iaload, 0), some (.isub, 0), some (.goto 29, 80), none, none, some (.iload_n 1, 0), some (.iconst 1, 0), some (.if_icmp .ne 20, 76), none, none, some (.aload_n 0, 0), some (.getfield 9, 71), none, none, some (.iconst 2, 0)],
  [some (.iaload, 0), some (.aload_n 0, 0), some (.invokevirtual 84, 142), none, none, some (.invokestatic 210, 170), none, none, some (.isub, 0), some (.goto 7, 80), none, none, some (.aload_n 0, 0), some (.invokevirtual 213, 171), none, none],
  [some (.istore_n 3, 0), some (.aload_n 0, 0), some (.invokevirtual 216, 172), none, none, some (.iload_n 3, 0), some (.ireturn, 0)]]
def tb_m175 : ab_M := (⟨"ScrewLeftModel", "all", "(I)I"⟩, prog_14_method_57_code, 4, (some .int), 0, 0, (5211, 5209, 1013), tb_t175)
def tb_t176 : ab_T := [
  [some (.aload_n 0, 0), some (.getfield 9, 71), none, none, some (.aload_n 0, 0), some (.getfield 16, 73), none, none, some (.invokestatic 56, 173), none, none, some (.return_, 0)]]
def tb_m176 : ab_M := (⟨"ScrewLeftModel", "thinks", "()V"⟩, prog_14_method_6_code, 1, none, 0, 0, (5215, 5214, 1013), tb_t176)
def tb_t177 : ab_T := [
  [some (.iconst 0, 0), some (.istore_n 2, 0), some (.iload_n 2, 0), some (.sipush 327, 0), none, none, some (.if_icmp .ge 15, 21), none, none, some (.aload_n 1, 0), some (.iload_n 2, 0), some (.aload_n 0, 0), some (.iload_n 2, 0), some (.iaload, 0), some (.iastore, 0), some (.iinc 2 1, 0)],
  [none, none, some (.goto (-16), 2), none, none, some (.return_, 0)]]
def tb_m177 : ab_M := (⟨"ScrewLeftModel", "copyAll", "([I[I)V"⟩, prog_14_method_5_code, 3, none, 0, 0, (5218, 5217, 1013), tb_t177)
def tb_t178 : ab_T := [
  [some (.iconst 0, 0), some (.istore_n 1, 0), some (.iload_n 1, 0), some (.aload_n 0, 0), some (.getfield 9, 71), none, none, some (.iconst 2, 0), some (.iaload, 0), some (.if_icmp .ge 24, 33), none, none, some (.aload_n 0, 0), some (.iload_n 1, 0), some (.invokevirtual 115, 138), none],
  [none, some (.ifCond .eq 10, 27), none, none, some (.aload_n 0, 0), some (.iload_n 1, 0), some (.invokevirtual 187, 162), none, none, some (.iconst 1, 0), some (.ireturn, 0), some (.iinc 1 1, 0), none, none, some (.goto (-28), 2), none],
  [none, some (.iconst 0, 0), some (.ireturn, 0)]]
def tb_m178 : ab_M := (⟨"ScrewLeftModel", "doesNext", "()Z"⟩, prog_14_method_55_code, 2, (some .boolean), 0, 0, (5222, 5221, 1013), tb_t178)
def tb_t179 : ab_T := [
  [some (.iconst 0, 0), some (.istore_n 1, 0), some (.iload_n 0, 0), some (.istore_n 2, 0), some (.iload_n 2, 0), some (.ifCond .eq 15, 20), none, none, some (.iinc 1 1, 0), none, none, some (.iload_n 2, 0), some (.iload_n 2, 0), some (.iconst 1, 0), some (.isub, 0), some (.iand, 0)],
  [some (.istore_n 2, 0), some (.goto (-13), 4), none, none, some (.iload_n 1, 0), some (.ireturn, 0)]]
def tb_m179 : ab_M := (⟨"ScrewLeftModel", "bits", "(I)I"⟩, prog_14_method_8_code, 3, (some .int), 0, 0, (5225, 5224, 1013), tb_t179)
def tb_t180 : ab_T := [
  [some (.iconst 0, 0), some (.istore_n 1, 0), some (.iconst 0, 0), some (.istore_n 2, 0), some (.iload_n 2, 0), some (.aload_n 0, 0), some (.getfield 9, 71), none, none, some (.iconst 2, 0), some (.iaload, 0), some (.if_icmp .ge 18, 29), none, none, some (.iload_n 1, 0), some (.aload_n 0, 0)],
  [some (.iload_n 2, 0), some (.iconst 5, 0), some (.invokevirtual 68, 137), none, none, some (.iadd, 0), some (.istore_n 1, 0), some (.iinc 2 1, 0), none, none, some (.goto (-22), 4), none, none, some (.iload_n 1, 0), some (.ireturn, 0)]]
def tb_m180 : ab_M := (⟨"ScrewLeftModel", "wrongs", "()I"⟩, prog_14_method_56_code, 3, (some .int), 0, 0, (5229, 5228, 1013), tb_t180)
def tb_t181 : ab_T := [
  [some (.aload_n 0, 0), some (.getfield 16, 73), none, none, some (.aload_n 0, 0), some (.getfield 9, 71), none, none, some (.invokestatic 56, 173), none, none, some (.return_, 0)]]
def tb_m181 : ab_M := (⟨"ScrewLeftModel", "putsBack", "()V"⟩, prog_14_method_7_code, 1, none, 0, 0, (5233, 5232, 1013), tb_t181)
def tb_t182 : ab_T := [
  [some (.iload_n 1, 0), some (.iconst (-1), 0), some (.iconst 4, 0), some (.invokestatic 60, 133), none, none, some (.ifCond .ne 10, 16), none, none, some (.aload_n 0, 0), some (.ldc 107, 7), none, some (.invokevirtual 108, 134), none, none, some (.ireturn, 0)],
  [some (.aload_n 0, 0), some (.getfield 9, 71), none, none, some (.iconst 2, 0), some (.iaload, 0), some (.aload_n 0, 0), some (.invokevirtual 84, 142), none, none, some (.invokestatic 210, 170), none, none, some (.isub, 0), some (.istore_n 2, 0), some (.iload_n 2, 0)],
  [some (.iconst 5, 0), some (.if_icmp .le 10, 43), none, none, some (.aload_n 0, 0), some (.ldc 121, 10), none, some (.invokevirtual 108, 134), none, none, some (.ireturn, 0), some (.aload_n 0, 0), some (.invokevirtual 203, 168), none, none, some (.aload_n 0, 0)],
  [some (.iconst (-1), 0), some (.putfield 219, 91), none, none, some (.aload_n 0, 0), some (.iconst 0, 0), some (.iload_n 2, 0), some (.invokevirtual 225, 174), none, none, some (.aload_n 0, 0), some (.invokevirtual 216, 172), none, none, some (.aload_n 0, 0), some (.getfield 219, 91)],
  [none, none, some (.ifCond .lt 8, 74), none, none, some (.iload_n 1, 0), some (.iload_n 2, 0), some (.if_icmp .lt 12, 83), none, none, some (.aload_n 0, 0), some (.ldc 231, 15), none, some (.invokevirtual 108, 134), none, none],
  [some (.goto 20, 100), none, none, some (.iload_n 1, 0), some (.ifCond .ge 10, 94), none, none, some (.aload_n 0, 0), some (.getfield 219, 91), none, none, some (.goto 9, 100), none, none, some (.aload_n 0, 0), some (.getfield 37, 80)],
  [none, none, some (.iload_n 1, 0), some (.iaload, 0), some (.ireturn, 0)]]
def tb_m182 : ab_M := (⟨"ScrewLeftModel", "order", "(I)I"⟩, prog_14_method_61_code, 3, (some .int), 0, 0, (5237, 5235, 1013), tb_t182)
def tb_t183 : ab_T := [
  [some (.iload_n 1, 0), some (.iload_n 2, 0), some (.if_icmp .ne 67, 69), none, none, some (.aload_n 0, 0), some (.getfield 9, 71), none, none, some (.iconst 0, 0), some (.iaload, 0), some (.aload_n 0, 0), some (.getfield 16, 73), none, none, some (.iconst 0, 0)],
  [some (.iaload, 0), some (.isub, 0), some (.istore_n 3, 0), some (.aload_n 0, 0), some (.getfield 219, 91), none, none, some (.ifCond .lt 11, 34), none, none, some (.iload_n 3, 0), some (.aload_n 0, 0), some (.getfield 219, 91), none, none, some (.if_icmp .ge 37, 68)],
  [none, none, some (.aload_n 0, 0), some (.iload_n 3, 0), some (.putfield 219, 91), none, none, some (.iconst 0, 0), some (.istore 4, 0), none, some (.iload 4, 0), none, some (.iload_n 2, 0), some (.if_icmp .ge 23, 68), none, none],
  [some (.aload_n 0, 0), some (.getfield 37, 80), none, none, some (.iload 4, 0), none, some (.aload_n 0, 0), some (.getfield 34, 79), none, none, some (.iload 4, 0), none, some (.iaload, 0), some (.iastore, 0), some (.iinc 4 1, 0), none],
  [none, some (.goto (-23), 42), none, none, some (.return_, 0), some (.aload_n 0, 0), some (.iload_n 1, 0), some (.invokevirtual 222, 175), none, none, some (.iconst 0, 0), some (.istore_n 3, 0), some (.iload_n 3, 0), some (.aload_n 0, 0), some (.getfield 9, 71), none],
  [none, some (.iconst 2, 0), some (.iaload, 0), some (.if_icmp .ge 42, 125), none, none, some (.aload_n 0, 0), some (.iload_n 3, 0), some (.invokevirtual 115, 138), none, none, some (.ifCond .eq 28, 119), none, none, some (.aload_n 0, 0), some (.getfield 34, 79)],
  [none, none, some (.iload_n 1, 0), some (.iload_n 3, 0), some (.iastore, 0), some (.aload_n 0, 0), some (.iload_n 3, 0), some (.invokevirtual 187, 162), none, none, some (.aload_n 0, 0), some (.iload_n 1, 0), some (.iconst 1, 0), some (.iadd, 0), some (.iload_n 2, 0), some (.invokevirtual 225, 174)],
  [none, none, some (.aload_n 0, 0), some (.iload_n 1, 0), some (.invokevirtual 228, 176), none, none, some (.iinc 3 1, 0), none, none, some (.goto (-46), 76), none, none, some (.return_, 0)]]
def tb_m183 : ab_M := (⟨"ScrewLeftModel", "tries", "(II)V"⟩, prog_14_method_60_code, 5, none, 0, 0, (6001, 6000, 1013), tb_t183)
def tb_t184 : ab_T := [
  [some (.iconst 0, 0), some (.istore_n 2, 0), some (.iload_n 2, 0), some (.bipush 125, 0), none, some (.if_icmp .ge 26, 31), none, none, some (.aload_n 0, 0), some (.getfield 40, 81), none, none, some (.bipush 125, 0), none, some (.iload_n 1, 0), some (.imul, 0)],
  [some (.iload_n 2, 0), some (.iadd, 0), some (.aload_n 0, 0), some (.getfield 9, 71), none, none, some (.iload_n 2, 0), some (.iaload, 0), some (.iastore, 0), some (.iinc 2 1, 0), none, none, some (.goto (-26), 2), none, none, some (.return_, 0)]]
def tb_m184 : ab_M := (⟨"ScrewLeftModel", "laysAside", "(I)V"⟩, prog_14_method_58_code, 3, none, 0, 0, (6005, 6004, 1013), tb_t184)
def tb_t185 : ab_T := [
  [some (.iconst 0, 0), some (.istore_n 2, 0), some (.iload_n 2, 0), some (.bipush 125, 0), none, some (.if_icmp .ge 26, 31), none, none, some (.aload_n 0, 0), some (.getfield 9, 71), none, none, some (.iload_n 2, 0), some (.aload_n 0, 0), some (.getfield 40, 81), none],
  [none, some (.bipush 125, 0), none, some (.iload_n 1, 0), some (.imul, 0), some (.iload_n 2, 0), some (.iadd, 0), some (.iaload, 0), some (.iastore, 0), some (.iinc 2 1, 0), none, none, some (.goto (-26), 2), none, none, some (.return_, 0)]]
def tb_m185 : ab_M := (⟨"ScrewLeftModel", "takesBack", "(I)V"⟩, prog_14_method_59_code, 3, none, 0, 0, (6009, 6008, 1013), tb_t185)
def tb_t186 : ab_T := [
  [some (.aload_n 0, 0), some (.iload_n 1, 0), some (.invokevirtual 112, 136), none, none, some (.ifCond .ne 10, 15), none, none, some (.aload_n 0, 0), some (.ldc 107, 7), none, some (.invokevirtual 108, 134), none, none, some (.ireturn, 0), some (.aload_n 0, 0)],
  [some (.iload_n 1, 0), some (.iconst 4, 0), some (.invokevirtual 68, 137), none, none, some (.iconst 1, 0), some (.if_icmp .ne 11, 33), none, none, some (.aload_n 0, 0), some (.iload_n 1, 0), some (.invokevirtual 232, 177), none, none, some (.goto 9, 39), none],
  [none, some (.aload_n 0, 0), some (.ldc 121, 10), none, some (.invokevirtual 108, 134), none, none, some (.ireturn, 0)]]
def tb_m186 : ab_M := (⟨"ScrewLeftModel", "under", "(I)I"⟩, prog_14_method_63_code, 2, (some .int), 0, 0, (6014, 6012, 1013), tb_t186)
def tb_t187 : ab_T := [
  [some (.aload_n 0, 0), some (.iload_n 1, 0), some (.invokevirtual 91, 144), none, none, some (.istore_n 2, 0), some (.iconst 1, 0), some (.istore_n 3, 0), some (.iload_n 3, 0), some (.ifCond .eq 69, 78), none, none, some (.iload_n 2, 0), some (.istore 4, 0), none, some (.iconst 0, 0)],
  [some (.istore 5, 0), none, some (.iload 5, 0), none, some (.aload_n 0, 0), some (.getfield 9, 71), none, none, some (.iconst 2, 0), some (.iaload, 0), some (.if_icmp .ge 34, 60), none, none, some (.iload 4, 0), none, some (.iload_n 2, 0)],
  [some (.iload 5, 0), none, some (.ishr, 0), some (.iconst 1, 0), some (.iand, 0), some (.iconst 1, 0), some (.if_icmp .ne 12, 50), none, none, some (.aload_n 0, 0), some (.iload 5, 0), none, some (.invokevirtual 91, 144), none, none, some (.goto 4, 51)],
  [none, none, some (.iconst 0, 0), some (.ior, 0), some (.istore 4, 0), none, some (.iinc 5 1, 0), none, none, some (.goto (-39), 18), none, none, some (.iload 4, 0), none, some (.iload_n 2, 0), some (.if_icmp .eq 7, 70)],
  [none, none, some (.iconst 1, 0), some (.goto 4, 71), none, none, some (.iconst 0, 0), some (.istore_n 3, 0), some (.iload 4, 0), none, some (.istore_n 2, 0), some (.goto (-67), 8), none, none, some (.iload_n 2, 0), some (.ireturn, 0)]]
def tb_m187 : ab_M := (⟨"ScrewLeftModel", "underOf", "(I)I"⟩, prog_14_method_62_code, 6, (some .int), 0, 0, (6018, 6017, 1013), tb_t187)
def tb_t188 : ab_T := [
  [some (.aload_n 0, 0), some (.iload_n 1, 0), some (.invokevirtual 112, 136), none, none, some (.ifCond .eq 12, 17), none, none, some (.iload_n 2, 0), some (.iconst 0, 0), some (.iconst 1, 0), some (.invokestatic 60, 133), none, none, some (.ifCond .ne 10, 24), none],
  [none, some (.aload_n 0, 0), some (.ldc 107, 7), none, some (.invokevirtual 108, 134), none, none, some (.ireturn, 0), some (.aload_n 0, 0), some (.iload_n 1, 0), some (.iconst 4, 0), some (.invokevirtual 68, 137), none, none, some (.ifCond .ne 10, 40), none],
  [none, some (.aload_n 0, 0), some (.ldc 121, 10), none, some (.invokevirtual 108, 134), none, none, some (.ireturn, 0), some (.iload_n 2, 0), some (.ifCond .ne 11, 52), none, none, some (.aload_n 0, 0), some (.iload_n 1, 0), some (.invokevirtual 235, 178), none],
  [none, some (.goto 16, 65), none, none, some (.aload_n 0, 0), some (.iload_n 1, 0), some (.invokevirtual 238, 179), none, none, some (.ifCond .eq 7, 64), none, none, some (.iconst 1, 0), some (.goto 4, 65), none, none],
  [some (.iconst 0, 0), some (.ireturn, 0)]]
def tb_m188 : ab_M := (⟨"ScrewLeftModel", "goBack", "(II)I"⟩, prog_14_method_66_code, 3, (some .int), 0, 0, (6022, 6020, 1013), tb_t188)
def tb_t189 : ab_T := [
  [some (.aload_n 0, 0), some (.iload_n 1, 0), some (.invokevirtual 232, 177), none, none, some (.istore_n 2, 0), some (.aload_n 0, 0), some (.invokevirtual 203, 168), none, none, some (.aload_n 0, 0), some (.getfield 9, 71), none, none, some (.iconst 2, 0), some (.iaload, 0)],
  [some (.iconst 1, 0), some (.isub, 0), some (.istore_n 3, 0), some (.iload_n 3, 0), some (.ifCond .lt 37, 57), none, none, some (.iload_n 3, 0), some (.iload_n 1, 0), some (.if_icmp .eq 12, 37), none, none, some (.iload_n 2, 0), some (.iload_n 3, 0), some (.ishr, 0), some (.iconst 1, 0)],
  [some (.iand, 0), some (.iconst 1, 0), some (.if_icmp .ne 17, 51), none, none, some (.aload_n 0, 0), some (.getfield 9, 71), none, none, some (.iconst 0, 0), some (.dup2, 0), some (.iaload, 0), some (.aload_n 0, 0), some (.iload_n 3, 0), some (.invokevirtual 101, 141), none],
  [none, some (.iadd, 0), some (.iastore, 0), some (.iinc 3 (-1), 0), none, none, some (.goto (-35), 19), none, none, some (.iconst 0, 0), some (.istore_n 3, 0), some (.iload_n 3, 0), some (.aload_n 0, 0), some (.getfield 9, 71), none, none],
  [some (.iconst 2, 0), some (.iaload, 0), some (.if_icmp .ge 37, 103), none, none, some (.iload_n 3, 0), some (.iload_n 1, 0), some (.if_icmp .eq 12, 83), none, none, some (.iload_n 2, 0), some (.iload_n 3, 0), some (.ishr, 0), some (.iconst 1, 0), some (.iand, 0), some (.iconst 1, 0)],
  [some (.if_icmp .ne 17, 97), none, none, some (.aload_n 0, 0), some (.getfield 9, 71), none, none, some (.iconst 0, 0), some (.dup2, 0), some (.iaload, 0), some (.aload_n 0, 0), some (.iload_n 3, 0), some (.invokevirtual 80, 140), none, none, some (.iadd, 0)],
  [some (.iastore, 0), some (.iinc 3 1, 0), none, none, some (.goto (-41), 59), none, none, some (.aload_n 0, 0), some (.getfield 9, 71), none, none, some (.iconst 0, 0), some (.iaload, 0), some (.aload_n 0, 0), some (.getfield 16, 73), none],
  [none, some (.iconst 0, 0), some (.iaload, 0), some (.isub, 0), some (.istore_n 3, 0), some (.aload_n 0, 0), some (.invokevirtual 216, 172), none, none, some (.iload_n 3, 0), some (.ireturn, 0)]]
def tb_m189 : ab_M := (⟨"ScrewLeftModel", "goingBack", "(I)I"⟩, prog_14_method_64_code, 4, (some .int), 0, 0, (6026, 6025, 1013), tb_t189)
def tb_t190 : ab_T := [
  [some (.aload_n 0, 0), some (.iload_n 1, 0), some (.invokevirtual 232, 177), none, none, some (.iconst 1, 0), some (.iload_n 1, 0), some (.ishl, 0), some (.ior, 0), some (.istore_n 2, 0), some (.iconst 0, 0), some (.istore_n 3, 0), some (.iconst 0, 0), some (.istore 4, 0), none, some (.iload 4, 0)],
  [none, some (.aload_n 0, 0), some (.getfield 9, 71), none, none, some (.iconst 2, 0), some (.iaload, 0), some (.if_icmp .ge 38, 61), none, none, some (.iload_n 3, 0), some (.ifCond .ne 22, 49), none, none, some (.iload_n 2, 0), some (.iload 4, 0)],
  [none, some (.ishr, 0), some (.iconst 1, 0), some (.iand, 0), some (.iconst 1, 0), some (.if_icmp .ne 16, 53), none, none, some (.aload_n 0, 0), some (.iload 4, 0), none, some (.invokevirtual 87, 143), none, none, some (.ifCond .eq 7, 53), none],
  [none, some (.iconst 1, 0), some (.goto 4, 54), none, none, some (.iconst 0, 0), some (.istore_n 3, 0), some (.iinc 4 1, 0), none, none, some (.goto (-43), 15), none, none, some (.iload_n 3, 0), some (.ireturn, 0)]]
def tb_m190 : ab_M := (⟨"ScrewLeftModel", "isBlocked", "(I)Z"⟩, prog_14_method_65_code, 5, (some .boolean), 0, 0, (6030, 6029, 1013), tb_t190)
def tb_t191 : ab_T := [
  [some (.aload_n 0, 0), some (.getfield 9, 71), none, none, some (.iconst 4, 0), some (.iaload, 0), some (.istore_n 1, 0), some (.iconst 0, 0), some (.istore_n 2, 0), some (.iload_n 2, 0), some (.aload_n 0, 0), some (.getfield 9, 71), none, none, some (.iconst 2, 0), some (.iaload, 0)],
  [some (.if_icmp .ge 31, 47), none, none, some (.iload_n 1, 0), some (.aload_n 0, 0), some (.iload_n 2, 0), some (.iconst 4, 0), some (.invokevirtual 68, 137), none, none, some (.ifCond .ne 12, 38), none, none, some (.aload_n 0, 0), some (.iload_n 2, 0), some (.iconst 2, 0)],
  [some (.invokevirtual 68, 137), none, none, some (.goto 4, 39), none, none, some (.iconst 0, 0), some (.isub, 0), some (.istore_n 1, 0), some (.iinc 2 1, 0), none, none, some (.goto (-35), 9), none, none, some (.iload_n 1, 0)],
  [some (.ireturn, 0)]]
def tb_m191 : ab_M := (⟨"ScrewLeftModel", "left", "()I"⟩, prog_14_method_67_code, 3, (some .int), 0, 0, (6034, 6032, 1013), tb_t191)
def tb_t192 : ab_T := [
  [some (.iload_n 1, 0), some (.iconst 0, 0), some (.bipush 99, 0), none, some (.invokestatic 60, 133), none, none, some (.ifCond .eq 12, 19), none, none, some (.iload_n 2, 0), some (.iconst 0, 0), some (.iconst 1, 0), some (.invokestatic 60, 133), none, none],
  [some (.ifCond .ne 10, 26), none, none, some (.aload_n 0, 0), some (.ldc 107, 7), none, some (.invokevirtual 108, 134), none, none, some (.ireturn, 0), some (.aload_n 0, 0), some (.invokevirtual 84, 142), none, none, some (.istore_n 3, 0), some (.iconst 0, 0)],
  [some (.istore 4, 0), none, some (.iconst (-1), 0), some (.istore 5, 0), none, some (.iload_n 3, 0), some (.istore 6, 0), none, some (.iload 6, 0), none, some (.ifCond .lt 64, 106), none, none, some (.iload 6, 0), none, some (.iload_n 3, 0)],
  [some (.iconst (-1), 0), some (.ixor, 0), some (.iand, 0), some (.ifCond .ne 17, 68), none, none, some (.aload_n 0, 0), some (.iload 6, 0), none, some (.invokevirtual 241, 180), none, none, some (.iload_n 1, 0), some (.if_icmp .ne 7, 68), none, none],
  [some (.iconst 1, 0), some (.goto 4, 69), none, none, some (.iconst 0, 0), some (.istore 7, 0), none, some (.iload 4, 0), none, some (.iload 7, 0), none, some (.ifCond .eq 7, 82), none, none, some (.iconst 1, 0), some (.goto 4, 83)],
  [none, none, some (.iconst 0, 0), some (.iadd, 0), some (.istore 4, 0), none, some (.iload 7, 0), none, some (.ifCond .eq 8, 96), none, none, some (.iload 6, 0), none, some (.goto 5, 98), none, none],
  [some (.iload 5, 0), none, some (.istore 5, 0), none, some (.iinc 6 (-1), 0), none, none, some (.goto (-63), 40), none, none, some (.iload_n 2, 0), some (.ifCond .ne 8, 115), none, none, some (.iload 4, 0), none],
  [some (.goto 19, 131), none, none, some (.iload 5, 0), none, some (.ifCond .ge 12, 129), none, none, some (.aload_n 0, 0), some (.ldc 231, 15), none, some (.invokevirtual 108, 134), none, none, some (.goto 5, 131), none],
  [none, some (.iload 5, 0), none, some (.ireturn, 0)]]
def tb_m192 : ab_M := (⟨"ScrewLeftModel", "whose", "(II)I"⟩, prog_14_method_69_code, 8, (some .int), 0, 0, (6038, 6036, 1013), tb_t192)
def tb_t193 : ab_T := [
  [some (.iconst 0, 0), some (.istore_n 2, 0), some (.iconst 0, 0), some (.istore_n 3, 0), some (.iload_n 3, 0), some (.aload_n 0, 0), some (.getfield 9, 71), none, none, some (.iconst 2, 0), some (.iaload, 0), some (.if_icmp .ge 31, 42), none, none, some (.iload_n 2, 0), some (.iload_n 1, 0)],
  [some (.iload_n 3, 0), some (.ishr, 0), some (.iconst 1, 0), some (.iand, 0), some (.iconst 1, 0), some (.if_icmp .ne 12, 33), none, none, some (.aload_n 0, 0), some (.iload_n 3, 0), some (.iconst 2, 0), some (.invokevirtual 68, 137), none, none, some (.goto 4, 34), none],
  [none, some (.iconst 0, 0), some (.iadd, 0), some (.istore_n 2, 0), some (.iinc 3 1, 0), none, none, some (.goto (-35), 4), none, none, some (.iload_n 2, 0), some (.ireturn, 0)]]
def tb_m193 : ab_M := (⟨"ScrewLeftModel", "screwsOf", "(I)I"⟩, prog_14_method_68_code, 4, (some .int), 0, 0, (6042, 6041, 1013), tb_t193)
def tb_t194 : ab_T := [
  [some (.iconst (-1), 0), some (.istore_n 1, 0), some (.iconst 0, 0), some (.istore_n 2, 0), some (.iconst 0, 0), some (.istore_n 3, 0), some (.iload_n 3, 0), some (.aload_n 0, 0), some (.getfield 9, 71), none, none, some (.iconst 2, 0), some (.iaload, 0), some (.if_icmp .ge 74, 87), none, none],
  [some (.aload_n 0, 0), some (.iload_n 3, 0), some (.iconst 5, 0), some (.invokevirtual 68, 137), none, none, some (.iconst 1, 0), some (.if_icmp .ne 58, 81), none, none, some (.aload_n 0, 0), some (.iload_n 3, 0), some (.invokevirtual 238, 179), none, none, some (.ifCond .ne 50, 81)],
  [none, none, some (.aload_n 0, 0), some (.iload_n 3, 0), some (.invokevirtual 235, 178), none, none, some (.istore 4, 0), none, some (.iload_n 1, 0), some (.ifCond .lt 9, 51), none, none, some (.iload 4, 0), none, some (.iload_n 2, 0)],
  [some (.if_icmp .ge 7, 55), none, none, some (.iconst 1, 0), some (.goto 4, 56), none, none, some (.iconst 0, 0), some (.istore 5, 0), none, some (.iload 5, 0), none, some (.ifCond .eq 7, 67), none, none, some (.iload_n 3, 0)],
  [some (.goto 4, 68), none, none, some (.iload_n 1, 0), some (.istore_n 1, 0), some (.iload 5, 0), none, some (.ifCond .eq 8, 79), none, none, some (.iload 4, 0), none, some (.goto 4, 80), none, none, some (.iload_n 2, 0)],
  [some (.istore_n 2, 0), some (.iinc 3 1, 0), none, none, some (.goto (-78), 6), none, none, some (.iload_n 1, 0), some (.ifCond .ge 12, 100), none, none, some (.aload_n 0, 0), some (.ldc 231, 15), none, some (.invokevirtual 108, 134), none],
  [none, some (.goto 4, 101), none, none, some (.iload_n 1, 0), some (.ireturn, 0)]]
def tb_m194 : ab_M := (⟨"ScrewLeftModel", "lookAt", "()I"⟩, prog_14_method_70_code, 6, (some .int), 0, 0, (6046, 6044, 1013), tb_t194)
def tb_t195 : ab_T := [
  [some (.iload_n 1, 0), some (.invokestatic 253, 181), none, none, some (.ifCond .eq 12, 16), none, none, some (.iload_n 2, 0), some (.iconst 0, 0), some (.iconst 1, 0), some (.invokestatic 60, 133), none, none, some (.ifCond .ne 10, 23), none, none],
  [some (.aload_n 0, 0), some (.ldc 107, 7), none, some (.invokevirtual 108, 134), none, none, some (.ireturn, 0), some (.aload_n 0, 0), some (.getfield 46, 83), none, none, some (.iload_n 1, 0), some (.iaload, 0), some (.ifCond .eq 17, 46), none, none],
  [some (.aload_n 0, 0), some (.getfield 49, 84), none, none, some (.iload_n 1, 0), some (.iaload, 0), some (.iconst 1, 0), some (.iconst 4, 0), some (.invokestatic 60, 133), none, none, some (.ifCond .ne 10, 53), none, none, some (.aload_n 0, 0), some (.ldc 231, 15)],
  [none, some (.invokevirtual 108, 134), none, none, some (.ireturn, 0), some (.aload_n 0, 0), some (.iconst 0, 0), some (.putfield 244, 92), none, none, some (.aload_n 0, 0), some (.iconst (-1), 0), some (.putfield 247, 93), none, none, some (.aload_n 0, 0)],
  [some (.iload_n 1, 0), some (.iconst 0, 0), some (.invokevirtual 250, 182), none, none, some (.iload_n 2, 0), some (.ifCond .ne 10, 80), none, none, some (.aload_n 0, 0), some (.getfield 244, 92), none, none, some (.goto 23, 100), none, none],
  [some (.aload_n 0, 0), some (.getfield 247, 93), none, none, some (.ifCond .ge 12, 96), none, none, some (.aload_n 0, 0), some (.ldc 231, 15), none, some (.invokevirtual 108, 134), none, none, some (.goto 7, 100), none, none],
  [some (.aload_n 0, 0), some (.getfield 247, 93), none, none, some (.ireturn, 0)]]
def tb_m195 : ab_M := (⟨"ScrewLeftModel", "orders", "(II)I"⟩, prog_14_method_72_code, 3, (some .int), 0, 0, (6050, 6048, 1013), tb_t195)
def tb_t196 : ab_T := [
  [some (.iload_n 0, 0), some (.iconst 0, 0), some (.iconst 3, 0), some (.invokestatic 60, 133), none, none, some (.ireturn, 0)]]
def tb_m196 : ab_M := (⟨"ScrewLeftModel", "isSheet", "(I)Z"⟩, prog_14_method_88_code, 1, (some .boolean), 0, 0, (6053, 6052, 1013), tb_t196)
def tb_t197 : ab_T := [
  [some (.iload_n 2, 0), some (.aload_n 0, 0), some (.getfield 49, 84), none, none, some (.iload_n 1, 0), some (.iaload, 0), some (.if_icmp .ne 38, 45), none, none, some (.aload_n 0, 0), some (.dup, 0), some (.getfield 244, 92), none, none, some (.iconst 1, 0)],
  [some (.iadd, 0), some (.putfield 244, 92), none, none, some (.aload_n 0, 0), some (.aload_n 0, 0), some (.getfield 247, 93), none, none, some (.ifCond .ge 12, 37), none, none, some (.aload_n 0, 0), some (.getfield 34, 79), none, none],
  [some (.iconst 0, 0), some (.iaload, 0), some (.goto 7, 41), none, none, some (.aload_n 0, 0), some (.getfield 247, 93), none, none, some (.putfield 247, 93), none, none, some (.return_, 0), some (.aload_n 0, 0), some (.iload_n 2, 0), some (.invokevirtual 222, 175)],
  [none, none, some (.iconst 0, 0), some (.istore_n 3, 0), some (.iload_n 3, 0), some (.aload_n 0, 0), some (.getfield 9, 71), none, none, some (.iconst 2, 0), some (.iaload, 0), some (.if_icmp .ge 61, 120), none, none, some (.aload_n 0, 0), some (.iload_n 3, 0)],
  [some (.invokevirtual 115, 138), none, none, some (.ifCond .eq 47, 114), none, none, some (.aload_n 0, 0), some (.iload_n 3, 0), some (.invokevirtual 80, 140), none, none, some (.aload_n 0, 0), some (.getfield 52, 85), none, none, some (.bipush 40, 0)],
  [none, some (.iload_n 1, 0), some (.imul, 0), some (.iload_n 2, 0), some (.iadd, 0), some (.iaload, 0), some (.if_icmp .ne 28, 114), none, none, some (.aload_n 0, 0), some (.getfield 34, 79), none, none, some (.iload_n 2, 0), some (.iload_n 3, 0), some (.iastore, 0)],
  [some (.aload_n 0, 0), some (.iload_n 3, 0), some (.invokevirtual 187, 162), none, none, some (.aload_n 0, 0), some (.iload_n 1, 0), some (.iload_n 2, 0), some (.iconst 1, 0), some (.iadd, 0), some (.invokevirtual 250, 182), none, none, some (.aload_n 0, 0), some (.iload_n 2, 0), some (.invokevirtual 228, 176)],
  [none, none, some (.iinc 3 1, 0), none, none, some (.goto (-65), 52), none, none, some (.return_, 0)]]
def tb_m197 : ab_M := (⟨"ScrewLeftModel", "fitsOn", "(II)V"⟩, prog_14_method_71_code, 4, none, 0, 0, (6057, 6056, 1013), tb_t197)
def tb_t198 : ab_T := [
  [some (.aload_n 0, 0), some (.iload_n 1, 0), some (.invokevirtual 112, 136), none, none, some (.ifCond .eq 12, 17), none, none, some (.iload_n 2, 0), some (.iconst 0, 0), some (.iconst 1, 0), some (.invokestatic 60, 133), none, none, some (.ifCond .ne 10, 24), none],
  [none, some (.aload_n 0, 0), some (.ldc 107, 7), none, some (.invokevirtual 108, 134), none, none, some (.ireturn, 0), some (.iconst 0, 0), some (.istore_n 3, 0), some (.iconst 0, 0), some (.istore 4, 0), none, some (.iload 4, 0), none, some (.bipush 10, 0)],
  [none, some (.if_icmp .ge 27, 60), none, none, some (.iload_n 3, 0), some (.aload_n 0, 0), some (.iload_n 1, 0), some (.iload 4, 0), none, some (.invokevirtual 94, 163), none, none, some (.ifCond .ne 7, 51), none, none, some (.iconst 1, 0)],
  [some (.goto 4, 52), none, none, some (.iconst 0, 0), some (.iadd, 0), some (.istore_n 3, 0), some (.iinc 4 1, 0), none, none, some (.goto (-28), 29), none, none, some (.bipush 10, 0), none, some (.istore 4, 0), none],
  [some (.bipush 10, 0), none, some (.istore 5, 0), none, some (.iload 5, 0), none, some (.iconst 1, 0), some (.if_icmp .le 36, 107), none, none, some (.iload_n 3, 0), some (.iload 5, 0), none, some (.irem, 0), some (.ifCond .ne 23, 101), none],
  [none, some (.iload 4, 0), none, some (.iload 5, 0), none, some (.irem, 0), some (.ifCond .ne 15, 101), none, none, some (.iload_n 3, 0), some (.iload 5, 0), none, some (.idiv, 0), some (.istore_n 3, 0), some (.iload 4, 0), none],
  [some (.iload 5, 0), none, some (.idiv, 0), some (.istore 4, 0), none, some (.iinc 5 (-1), 0), none, none, some (.goto (-36), 68), none, none, some (.iload_n 2, 0), some (.ifCond .ne 7, 115), none, none, some (.iload_n 3, 0)],
  [some (.goto 5, 117), none, none, some (.iload 4, 0), none, some (.ireturn, 0)]]
def tb_m198 : ab_M := (⟨"ScrewLeftModel", "odds", "(II)I"⟩, prog_14_method_73_code, 6, (some .int), 0, 0, (6061, 6059, 1013), tb_t198)
def tb_t199 : ab_T := [
  [some (.aload_n 0, 0), some (.iconst 1, 0), some (.iload_n 1, 0), some (.invokevirtual 122, 150), none, none, some (.ireturn, 0)]]
def tb_m199 : ab_M := (⟨"ScrewLeftModel", "seed", "(I)I"⟩, prog_14_method_74_code, 2, (some .int), 0, 0, (6065, 6063, 1013), tb_t199)
def tb_t200 : ab_T := [
  [some (.aload_n 0, 0), some (.iload_n 1, 0), some (.invokevirtual 112, 136), none, none, some (.ifCond .eq 12, 17), none, none, some (.iload_n 2, 0), some (.iconst 0, 0), some (.iconst 3, 0), some (.invokestatic 60, 133), none, none, some (.ifCond .ne 10, 24), none],
  [none, some (.aload_n 0, 0), some (.ldc 107, 7), none, some (.invokevirtual 108, 134), none, none, some (.ireturn, 0), some (.aload_n 0, 0), some (.iconst 0, 0), some (.putfield 256, 94), none, none, some (.iload_n 2, 0), some (.ifCond .ne 12, 42), none],
  [none, some (.aload_n 0, 0), some (.iload_n 1, 0), some (.iload_n 3, 0), some (.invokevirtual 265, 183), none, none, some (.goto 37, 76), none, none, some (.iload_n 2, 0), some (.iconst 1, 0), some (.if_icmp .ne 12, 56), none, none, some (.aload_n 0, 0)],
  [some (.iload_n 1, 0), some (.iload_n 3, 0), some (.invokevirtual 283, 184), none, none, some (.goto 23, 76), none, none, some (.iload_n 2, 0), some (.iconst 2, 0), some (.if_icmp .ne 12, 70), none, none, some (.aload_n 0, 0), some (.iload_n 1, 0), some (.iload_n 3, 0)],
  [some (.invokevirtual 271, 185), none, none, some (.goto 9, 76), none, none, some (.aload_n 0, 0), some (.iload_n 1, 0), some (.iload_n 3, 0), some (.invokevirtual 289, 186), none, none, some (.ireturn, 0)]]
def tb_m200 : ab_M := (⟨"ScrewLeftModel", "voice", "(III)I"⟩, prog_14_method_86_code, 4, (some .int), 0, 0, (6069, 6067, 1013), tb_t200)
def tb_t201 : ab_T := [
  [some (.aload_n 0, 0), some (.iload_n 1, 0), some (.iconst 0, 0), some (.invokevirtual 68, 137), none, none, some (.iconst 1, 0), some (.if_icmp .eq 13, 20), none, none, some (.aload_n 0, 0), some (.iload_n 1, 0), some (.iconst 0, 0), some (.invokevirtual 68, 137), none, none],
  [some (.iconst 4, 0), some (.if_icmp .ne 18, 35), none, none, some (.aload_n 0, 0), some (.bipush 20, 0), none, some (.invokevirtual 259, 187), none, none, some (.aload_n 0, 0), some (.iload_n 1, 0), some (.iload_n 2, 0), some (.invokevirtual 262, 188), none, none],
  [some (.iconst 3, 0), some (.imul, 0), some (.ireturn, 0), some (.aload_n 0, 0), some (.iload_n 1, 0), some (.iload_n 2, 0), some (.invokevirtual 262, 188), none, none, some (.ireturn, 0)]]
def tb_m201 : ab_M := (⟨"ScrewLeftModel", "fits", "(II)I"⟩, prog_14_method_77_code, 3, (some .int), 0, 0, (6073, 6072, 1013), tb_t201)
def tb_t202 : ab_T := [
  [some (.aload_n 0, 0), some (.getfield 256, 94), none, none, some (.bipush 40, 0), none, some (.if_icmp .ge 23, 29), none, none, some (.aload_n 0, 0), some (.getfield 43, 82), none, none, some (.aload_n 0, 0), some (.getfield 256, 94), none],
  [none, some (.iload_n 1, 0), some (.iastore, 0), some (.aload_n 0, 0), some (.dup, 0), some (.getfield 256, 94), none, none, some (.iconst 1, 0), some (.iadd, 0), some (.putfield 256, 94), none, none, some (.return_, 0)]]
def tb_m202 : ab_M := (⟨"ScrewLeftModel", "begins", "(I)V"⟩, prog_14_method_75_code, 2, none, 0, 0, (6077, 6076, 1013), tb_t202)
def tb_t203 : ab_T := [
  [some (.aload_n 0, 0), some (.bipush 10, 0), none, some (.invokevirtual 259, 187), none, none, some (.iload_n 2, 0), some (.iload_n 1, 0), some (.iadd, 0), some (.ireturn, 0)]]
def tb_m203 : ab_M := (⟨"ScrewLeftModel", "plainFits", "(II)I"⟩, prog_14_method_76_code, 3, (some .int), 0, 0, (6081, 6080, 1013), tb_t203)
def tb_t204 : ab_T := [
  [some (.aload_n 0, 0), some (.iload_n 1, 0), some (.iconst 0, 0), some (.invokevirtual 68, 137), none, none, some (.lookupswitch 48 #[(2, 26), (5, 33)], 0), none, none, none, none, none, none, none, none, none],
  [none, none, none, none, none, none, none, none, none, none, none, none, none, none, none, none],
  [some (.aload_n 0, 0), some (.iload_n 1, 0), some (.iload_n 2, 0), some (.invokevirtual 274, 189), none, none, some (.ireturn, 0), some (.aload_n 0, 0), some (.bipush 60, 0), none, some (.invokevirtual 259, 187), none, none, some (.aload_n 0, 0), some (.iload_n 1, 0), some (.iload_n 2, 0)],
  [some (.iconst 1, 0), some (.iadd, 0), some (.invokevirtual 274, 189), none, none, some (.ireturn, 0), some (.aload_n 0, 0), some (.iload_n 1, 0), some (.iload_n 2, 0), some (.invokevirtual 268, 190), none, none, some (.ireturn, 0)]]
def tb_m204 : ab_M := (⟨"ScrewLeftModel", "errs", "(II)I"⟩, prog_14_method_80_code, 3, (some .int), 0, 0, (6085, 6084, 1013), tb_t204)
def tb_t205 : ab_T := [
  [some (.aload_n 0, 0), some (.bipush 30, 0), none, some (.invokevirtual 259, 187), none, none, some (.aload_n 0, 0), some (.iload_n 1, 0), some (.iload_n 2, 0), some (.invokevirtual 268, 190), none, none, some (.istore_n 3, 0), some (.iload_n 3, 0), some (.aload_n 0, 0), some (.iload_n 1, 0)],
  [some (.iconst 1, 0), some (.invokevirtual 271, 185), none, none, some (.isub, 0), some (.ireturn, 0)]]
def tb_m205 : ab_M := (⟨"ScrewLeftModel", "gluedErrs", "(II)I"⟩, prog_14_method_79_code, 4, (some .int), 0, 0, (6089, 6088, 1013), tb_t205)
def tb_t206 : ab_T := [
  [some (.aload_n 0, 0), some (.bipush 11, 0), none, some (.invokevirtual 259, 187), none, none, some (.aload_n 0, 0), some (.iload_n 1, 0), some (.iload_n 2, 0), some (.invokevirtual 265, 183), none, none, some (.iconst 2, 0), some (.imul, 0), some (.ireturn, 0)]]
def tb_m206 : ab_M := (⟨"ScrewLeftModel", "plainErrs", "(II)I"⟩, prog_14_method_78_code, 3, (some .int), 0, 0, (6093, 6092, 1013), tb_t206)
def tb_t207 : ab_T := [
  [some (.aload_n 0, 0), some (.iload_n 1, 0), some (.iconst 0, 0), some (.invokevirtual 68, 137), none, none, some (.lookupswitch 48 #[(3, 26), (6, 33)], 0), none, none, none, none, none, none, none, none, none],
  [none, none, none, none, none, none, none, none, none, none, none, none, none, none, none, none],
  [some (.aload_n 0, 0), some (.iload_n 1, 0), some (.iload_n 2, 0), some (.invokevirtual 280, 191), none, none, some (.ireturn, 0), some (.aload_n 0, 0), some (.bipush 70, 0), none, some (.invokevirtual 259, 187), none, none, some (.aload_n 0, 0), some (.iload_n 1, 0), some (.iload_n 2, 0)],
  [some (.invokevirtual 280, 191), none, none, some (.iload_n 1, 0), some (.ixor, 0), some (.ireturn, 0), some (.aload_n 0, 0), some (.iload_n 1, 0), some (.iload_n 2, 0), some (.invokevirtual 277, 192), none, none, some (.ireturn, 0)]]
def tb_m207 : ab_M := (⟨"ScrewLeftModel", "looks", "(II)I"⟩, prog_14_method_83_code, 3, (some .int), 0, 0, (6097, 6096, 1013), tb_t207)
def tb_t208 : ab_T := [
  [some (.aload_n 0, 0), some (.bipush 40, 0), none, some (.invokevirtual 259, 187), none, none, some (.aload_n 0, 0), some (.iload_n 1, 0), some (.iload_n 2, 0), some (.invokevirtual 277, 192), none, none, some (.ineg, 0), some (.ireturn, 0)]]
def tb_m208 : ab_M := (⟨"ScrewLeftModel", "heldLooks", "(II)I"⟩, prog_14_method_82_code, 3, (some .int), 0, 0, (6101, 6100, 1013), tb_t208)
def tb_t209 : ab_T := [
  [some (.aload_n 0, 0), some (.bipush 12, 0), none, some (.invokevirtual 259, 187), none, none, some (.iload_n 2, 0), some (.aload_n 0, 0), some (.iload_n 1, 0), some (.iconst 1, 0), some (.invokevirtual 68, 137), none, none, some (.isub, 0), some (.ireturn, 0)]]
def tb_m209 : ab_M := (⟨"ScrewLeftModel", "plainLooks", "(II)I"⟩, prog_14_method_81_code, 3, (some .int), 0, 0, (6105, 6104, 1013), tb_t209)
def tb_t210 : ab_T := [
  [some (.aload_n 0, 0), some (.iload_n 1, 0), some (.iconst 0, 0), some (.invokevirtual 68, 137), none, none, some (.lookupswitch 72 #[(4, 26), (6, 48)], 0), none, none, none, none, none, none, none, none, none],
  [none, none, none, none, none, none, none, none, none, none, none, none, none, none, none, none],
  [some (.aload_n 0, 0), some (.bipush 50, 0), none, some (.invokevirtual 259, 187), none, none, some (.aload_n 0, 0), some (.iload_n 1, 0), some (.iload_n 2, 0), some (.invokevirtual 286, 193), none, none, some (.istore_n 3, 0), some (.iload_n 3, 0), some (.aload_n 0, 0), some (.iload_n 1, 0)],
  [some (.iconst 2, 0), some (.invokevirtual 265, 183), none, none, some (.isub, 0), some (.ireturn, 0), some (.aload_n 0, 0), some (.bipush 71, 0), none, some (.invokevirtual 259, 187), none, none, some (.aload_n 0, 0), some (.iload_n 1, 0), some (.iload_n 2, 0), some (.invokevirtual 283, 184)],
  [none, none, some (.istore 4, 0), none, some (.iload 4, 0), none, some (.aload_n 0, 0), some (.iload_n 1, 0), some (.iload_n 2, 0), some (.invokevirtual 286, 193), none, none, some (.isub, 0), some (.ireturn, 0), some (.aload_n 0, 0), some (.iload_n 1, 0)],
  [some (.iload_n 2, 0), some (.invokevirtual 286, 193), none, none, some (.ireturn, 0)]]
def tb_m210 : ab_M := (⟨"ScrewLeftModel", "undoes", "(II)I"⟩, prog_14_method_85_code, 5, (some .int), 0, 0, (6109, 6108, 1013), tb_t210)
def tb_t211 : ab_T := [
  [some (.aload_n 0, 0), some (.bipush 13, 0), none, some (.invokevirtual 259, 187), none, none, some (.aload_n 0, 0), some (.iload_n 1, 0), some (.iload_n 2, 0), some (.invokevirtual 283, 184), none, none, some (.istore_n 3, 0), some (.iload_n 3, 0), some (.aload_n 0, 0), some (.iload_n 1, 0)],
  [some (.iload_n 2, 0), some (.invokevirtual 271, 185), none, none, some (.ixor, 0), some (.ireturn, 0)]]
def tb_m211 : ab_M := (⟨"ScrewLeftModel", "plainUndoes", "(II)I"⟩, prog_14_method_84_code, 4, (some .int), 0, 0, (6113, 6112, 1013), tb_t211)
def tb_t212 : ab_T := [
  [some (.iload_n 1, 0), some (.iconst 0, 0), some (.aload_n 0, 0), some (.getfield 256, 94), none, none, some (.iconst 1, 0), some (.isub, 0), some (.invokestatic 60, 133), none, none, some (.ifCond .eq 12, 23), none, none, some (.aload_n 0, 0), some (.getfield 43, 82)],
  [none, none, some (.iload_n 1, 0), some (.iaload, 0), some (.goto 9, 29), none, none, some (.aload_n 0, 0), some (.ldc 231, 15), none, some (.invokevirtual 108, 134), none, none, some (.ireturn, 0)]]
def tb_m212 : ab_M := (⟨"ScrewLeftModel", "trace", "(I)I"⟩, prog_14_method_87_code, 2, (some .int), 0, 0, (6117, 6115, 1013), tb_t212)
def tb_t213 : ab_T := [
  [some (.iload_n 1, 0), some (.invokestatic 253, 181), none, none, some (.ifCond .eq 25, 29), none, none, some (.iload_n 2, 0), some (.ifCond .eq 28, 36), none, none, some (.iload_n 2, 0), some (.bipush 8, 0), none, some (.if_icmp .eq 22, 36), none],
  [none, some (.iload_n 2, 0), some (.bipush 16, 0), none, some (.if_icmp .eq 16, 36), none, none, some (.iload_n 2, 0), some (.bipush 32, 0), none, some (.if_icmp .eq 10, 36), none, none, some (.aload_n 0, 0), some (.ldc 107, 7), none],
  [some (.invokevirtual 108, 134), none, none, some (.ireturn, 0), some (.iload_n 2, 0), some (.ifCond .le 14, 51), none, none, some (.iload_n 3, 0), some (.ifCond .ge 10, 51), none, none, some (.aload_n 0, 0), some (.ldc 121, 10), none, some (.invokevirtual 108, 134)],
  [none, none, some (.ireturn, 0), some (.iload_n 2, 0), some (.ifCond .le 16, 68), none, none, some (.iload_n 3, 0), some (.bipush 40, 0), none, some (.if_icmp .le 10, 68), none, none, some (.aload_n 0, 0), some (.ldc 107, 7), none],
  [some (.invokevirtual 108, 134), none, none, some (.ireturn, 0), some (.aload_n 0, 0), some (.getfield 46, 83), none, none, some (.iload_n 1, 0), some (.iload_n 2, 0), some (.iastore, 0), some (.aload_n 0, 0), some (.getfield 49, 84), none, none, some (.iload_n 1, 0)],
  [some (.iload_n 2, 0), some (.ifCond .ne 7, 88), none, none, some (.iconst 0, 0), some (.goto 4, 89), none, none, some (.iload_n 3, 0), some (.iastore, 0), some (.iconst 0, 0), some (.istore 4, 0), none, some (.iload 4, 0), none, some (.bipush 40, 0)],
  [none, some (.if_icmp .ge 22, 119), none, none, some (.aload_n 0, 0), some (.getfield 52, 85), none, none, some (.bipush 40, 0), none, some (.iload_n 1, 0), some (.imul, 0), some (.iload 4, 0), none, some (.iadd, 0), some (.iconst 0, 0)],
  [some (.iastore, 0), some (.iinc 4 1, 0), none, none, some (.goto (-23), 93), none, none, some (.iconst 1, 0), some (.ireturn, 0)]]
def tb_m213 : ab_M := (⟨"ScrewLeftModel", "sheet", "(III)I"⟩, prog_14_method_89_code, 5, (some .int), 0, 0, (6121, 6119, 1013), tb_t213)
def tb_t214 : ab_T := [
  [some (.aload_n 0, 0), some (.iload_n 1, 0), some (.invokevirtual 292, 194), none, none, some (.istore 4, 0), none, some (.iload 4, 0), none, some (.ifCond .ne 24, 33), none, none, some (.iload_n 2, 0), some (.iconst 0, 0), some (.aload_n 0, 0), some (.getfield 49, 84)],
  [none, none, some (.iload_n 1, 0), some (.iaload, 0), some (.iconst 1, 0), some (.isub, 0), some (.invokestatic 60, 133), none, none, some (.ifCond .ne 8, 33), none, none, some (.ldc 107, 7), none, some (.goto 5, 35), none],
  [none, some (.iload 4, 0), none, some (.istore 4, 0), none, some (.iload 4, 0), none, some (.ifCond .eq 10, 49), none, none, some (.aload_n 0, 0), some (.iload 4, 0), none, some (.invokevirtual 108, 134), none, none],
  [some (.ireturn, 0), some (.aload_n 0, 0), some (.getfield 52, 85), none, none, some (.bipush 40, 0), none, some (.iload_n 1, 0), some (.imul, 0), some (.iload_n 2, 0), some (.iadd, 0), some (.aload_n 0, 0), some (.getfield 46, 83), none, none, some (.iload_n 1, 0)],
  [some (.iaload, 0), some (.bipush 8, 0), none, some (.if_icmp .ne 8, 75), none, none, some (.iload_n 3, 0), some (.i2b, 0), some (.goto 20, 92), none, none, some (.aload_n 0, 0), some (.getfield 46, 83), none, none, some (.iload_n 1, 0)],
  [some (.iaload, 0), some (.bipush 16, 0), none, some (.if_icmp .ne 8, 91), none, none, some (.iload_n 3, 0), some (.i2s, 0), some (.goto 4, 92), none, none, some (.iload_n 3, 0), some (.iastore, 0), some (.iconst 1, 0), some (.ireturn, 0)]]
def tb_m214 : ab_M := (⟨"ScrewLeftModel", "put", "(III)I"⟩, prog_14_method_91_code, 5, (some .int), 0, 0, (6125, 6123, 1013), tb_t214)
def tb_t215 : ab_T := [
  [some (.iload_n 1, 0), some (.invokestatic 253, 181), none, none, some (.ifCond .ne 8, 12), none, none, some (.ldc 107, 7), none, some (.goto 18, 27), none, none, some (.aload_n 0, 0), some (.getfield 46, 83), none, none],
  [some (.iload_n 1, 0), some (.iaload, 0), some (.ifCond .ne 8, 26), none, none, some (.ldc 231, 15), none, some (.goto 4, 27), none, none, some (.iconst 0, 0), some (.ireturn, 0)]]
def tb_m215 : ab_M := (⟨"ScrewLeftModel", "notThere", "(I)I"⟩, prog_14_method_90_code, 2, (some .int), 0, 0, (6129, 6128, 1013), tb_t215)
def tb_t216 : ab_T := [
  [some (.aload_n 0, 0), some (.iload_n 1, 0), some (.iload_n 2, 0), some (.iload_n 3, 0), some (.iload 4, 0), none, some (.iload 5, 0), none, some (.invokevirtual 295, 195), none, none, some (.istore 6, 0), none, some (.iload 6, 0), none, some (.ifCond .eq 10, 25)],
  [none, none, some (.aload_n 0, 0), some (.iload 6, 0), none, some (.invokevirtual 108, 134), none, none, some (.ireturn, 0), some (.iconst 0, 0), some (.istore 7, 0), none, some (.iload 7, 0), none, some (.iload 5, 0), none],
  [some (.if_icmp .ge 58, 90), none, none, some (.iload_n 2, 0), some (.iload 4, 0), none, some (.if_icmp .ge 13, 51), none, none, some (.iload 5, 0), none, some (.iconst 1, 0), some (.isub, 0), some (.iload 7, 0), none, some (.isub, 0)],
  [some (.goto 5, 53), none, none, some (.iload 7, 0), none, some (.istore 8, 0), none, some (.aload_n 0, 0), some (.getfield 52, 85), none, none, some (.bipush 40, 0), none, some (.iload_n 3, 0), some (.imul, 0), some (.iload 4, 0)],
  [none, some (.iadd, 0), some (.iload 8, 0), none, some (.iadd, 0), some (.aload_n 0, 0), some (.getfield 52, 85), none, none, some (.bipush 40, 0), none, some (.iload_n 1, 0), some (.imul, 0), some (.iload_n 2, 0), some (.iadd, 0), some (.iload 8, 0)],
  [none, some (.iadd, 0), some (.iaload, 0), some (.iastore, 0), some (.iinc 7 1, 0), none, none, some (.goto (-59), 28), none, none, some (.iload 5, 0), none, some (.ireturn, 0)]]
def tb_m216 : ab_M := (⟨"ScrewLeftModel", "move", "(IIIII)I"⟩, prog_14_method_93_code, 9, (some .int), 0, 0, (6133, 6131, 1013), tb_t216)
def tb_t217 : ab_T := [
  [some (.iload_n 1, 0), some (.invokestatic 253, 181), none, none, some (.ifCond .eq 10, 14), none, none, some (.iload_n 3, 0), some (.invokestatic 253, 181), none, none, some (.ifCond .ne 6, 17), none, none, some (.ldc 107, 7), none],
  [some (.ireturn, 0), some (.aload_n 0, 0), some (.getfield 46, 83), none, none, some (.iload_n 1, 0), some (.iaload, 0), some (.ifCond .eq 12, 35), none, none, some (.aload_n 0, 0), some (.getfield 46, 83), none, none, some (.iload_n 3, 0), some (.iaload, 0)],
  [some (.ifCond .ne 6, 38), none, none, some (.ldc 231, 15), none, some (.ireturn, 0), some (.aload_n 0, 0), some (.getfield 46, 83), none, none, some (.iload_n 1, 0), some (.iaload, 0), some (.aload_n 0, 0), some (.getfield 46, 83), none, none],
  [some (.iload_n 3, 0), some (.iaload, 0), some (.if_icmp .eq 6, 56), none, none, some (.ldc 126, 12), none, some (.ireturn, 0), some (.iload 5, 0), none, some (.ifCond .lt 43, 101), none, none, some (.iload_n 2, 0), some (.ifCond .lt 39, 101), none],
  [none, some (.iload 4, 0), none, some (.ifCond .lt 34, 101), none, none, some (.iload 5, 0), none, some (.aload_n 0, 0), some (.getfield 49, 84), none, none, some (.iload_n 1, 0), some (.iaload, 0), some (.iload_n 2, 0), some (.isub, 0)],
  [some (.if_icmp .gt 21, 101), none, none, some (.iload 5, 0), none, some (.aload_n 0, 0), some (.getfield 49, 84), none, none, some (.iload_n 3, 0), some (.iaload, 0), some (.iload 4, 0), none, some (.isub, 0), some (.if_icmp .gt 7, 101), none],
  [none, some (.iconst 1, 0), some (.goto 4, 102), none, none, some (.iconst 0, 0), some (.istore 6, 0), none, some (.iload 6, 0), none, some (.ifCond .eq 7, 113), none, none, some (.iconst 0, 0), some (.goto 5, 115), none],
  [none, some (.ldc 107, 7), none, some (.ireturn, 0)]]
def tb_m217 : ab_M := (⟨"ScrewLeftModel", "notMoved", "(IIIII)I"⟩, prog_14_method_92_code, 7, (some .int), 0, 0, (6137, 6136, 1013), tb_t217)
def tb_t218 : ab_T := [
  [some (.aload_n 0, 0), some (.iload_n 1, 0), some (.invokevirtual 292, 194), none, none, some (.istore_n 2, 0), some (.iload_n 2, 0), some (.ifCond .eq 9, 16), none, none, some (.aload_n 0, 0), some (.iload_n 2, 0), some (.invokevirtual 108, 134), none, none, some (.ireturn, 0)],
  [some (.iconst 0, 0), some (.istore_n 3, 0), some (.iload_n 3, 0), some (.aload_n 0, 0), some (.getfield 49, 84), none, none, some (.iload_n 1, 0), some (.iaload, 0), some (.if_icmp .ge 56, 81), none, none, some (.iload_n 3, 0), some (.aload_n 0, 0), some (.getfield 9, 71), none],
  [none, some (.iconst 2, 0), some (.iaload, 0), some (.if_icmp .ge 46, 81), none, none, some (.aload_n 0, 0), some (.getfield 52, 85), none, none, some (.bipush 40, 0), none, some (.iload_n 1, 0), some (.imul, 0), some (.iload_n 3, 0), some (.iadd, 0)],
  [some (.iaload, 0), some (.iconst 0, 0), some (.bipush 9, 0), none, some (.invokestatic 60, 133), none, none, some (.ifCond .eq 26, 81), none, none, some (.aload_n 0, 0), some (.iload_n 3, 0), some (.iconst 2, 0), some (.aload_n 0, 0), some (.getfield 52, 85), none],
  [none, some (.bipush 40, 0), none, some (.iload_n 1, 0), some (.imul, 0), some (.iload_n 3, 0), some (.iadd, 0), some (.iaload, 0), some (.invokevirtual 97, 135), none, none, some (.iinc 3 1, 0), none, none, some (.goto (-60), 18), none],
  [none, some (.iload_n 3, 0), some (.ireturn, 0)]]
def tb_m218 : ab_M := (⟨"ScrewLeftModel", "screws", "(I)I"⟩, prog_14_method_94_code, 4, (some .int), 0, 0, (6141, 6139, 1013), tb_t218)
def tb_t219 : ab_T := [
  [some (.aload_n 0, 0), some (.iload_n 1, 0), some (.invokevirtual 292, 194), none, none, some (.istore_n 2, 0), some (.iload_n 2, 0), some (.ifCond .eq 9, 16), none, none, some (.aload_n 0, 0), some (.iload_n 2, 0), some (.invokevirtual 108, 134), none, none, some (.ireturn, 0)],
  [some (.iconst 0, 0), some (.istore_n 3, 0), some (.iload_n 3, 0), some (.aload_n 0, 0), some (.getfield 49, 84), none, none, some (.iload_n 1, 0), some (.iaload, 0), some (.if_icmp .ge 38, 63), none, none, some (.iload_n 3, 0), some (.aload_n 0, 0), some (.getfield 9, 71), none],
  [none, some (.iconst 2, 0), some (.iaload, 0), some (.if_icmp .ge 28, 63), none, none, some (.aload_n 0, 0), some (.getfield 52, 85), none, none, some (.bipush 40, 0), none, some (.iload_n 1, 0), some (.imul, 0), some (.iload_n 3, 0), some (.iadd, 0)],
  [some (.iaload, 0), some (.aload_n 0, 0), some (.iload_n 3, 0), some (.invokevirtual 80, 140), none, none, some (.if_icmp .ne 9, 63), none, none, some (.iinc 3 1, 0), none, none, some (.goto (-42), 18), none, none, some (.iload_n 3, 0)],
  [some (.aload_n 0, 0), some (.getfield 9, 71), none, none, some (.iconst 2, 0), some (.iaload, 0), some (.if_icmp .ne 17, 87), none, none, some (.aload_n 0, 0), some (.getfield 49, 84), none, none, some (.iload_n 1, 0), some (.iaload, 0), some (.iload_n 3, 0)],
  [some (.if_icmp .ne 7, 87), none, none, some (.iconst (-1), 0), some (.goto 4, 88), none, none, some (.iload_n 3, 0), some (.ireturn, 0)]]
def tb_m219 : ab_M := (⟨"ScrewLeftModel", "judge", "(I)I"⟩, prog_14_method_95_code, 4, (some .int), 0, 0, (6145, 6143, 1013), tb_t219)
def tb_t220 : ab_T := [
  [some (.aload_n 0, 0), some (.getfield 9, 71), none, none, some (.aload_n 0, 0), some (.getfield 13, 72), none, none, some (.invokestatic 56, 173), none, none, some (.aload_n 0, 0), some (.dup, 0), some (.getfield 299, 95), none, none],
  [some (.iconst 1, 0), some (.iadd, 0), some (.putfield 299, 95), none, none, some (.aload_n 0, 0), some (.getfield 299, 95), none, none, some (.ireturn, 0)]]
def tb_m220 : ab_M := (⟨"ScrewLeftModel", "image", "()I"⟩, prog_14_method_96_code, 1, (some .int), 0, 0, (6149, 6147, 1013), tb_t220)
def tb_t221 : ab_T := [
  [some (.aload_n 0, 0), some (.getfield 299, 95), none, none, some (.ifCond .ne 10, 14), none, none, some (.aload_n 0, 0), some (.ldc 231, 15), none, some (.invokevirtual 108, 134), none, none, some (.ireturn, 0), some (.aload_n 0, 0), some (.getfield 13, 72)],
  [none, none, some (.aload_n 0, 0), some (.getfield 9, 71), none, none, some (.invokestatic 56, 173), none, none, some (.aload_n 0, 0), some (.getfield 9, 71), none, none, some (.iconst 0, 0), some (.iaload, 0), some (.ireturn, 0)]]
def tb_m221 : ab_M := (⟨"ScrewLeftModel", "restore", "()I"⟩, prog_14_method_97_code, 1, (some .int), 0, 0, (6153, 6151, 1013), tb_t221)
def tb_t222 : ab_T := [
  [some (.aload_n 0, 0), some (.getfield 9, 71), none, none, some (.bipush 6, 0), none, some (.iaload, 0), some (.bipush 20, 0), none, some (.if_icmp .ne 10, 19), none, none, some (.aload_n 0, 0), some (.ldc 111, 8), none, some (.invokevirtual 108, 134)],
  [none, none, some (.ireturn, 0), some (.aload_n 0, 0), some (.getfield 9, 71), none, none, some (.bipush 105, 0), none, some (.aload_n 0, 0), some (.getfield 9, 71), none, none, some (.bipush 6, 0), none, some (.iaload, 0)],
  [some (.iadd, 0), some (.iload_n 1, 0), some (.iastore, 0), some (.aload_n 0, 0), some (.getfield 9, 71), none, none, some (.bipush 6, 0), none, some (.dup2, 0), some (.iaload, 0), some (.iconst 1, 0), some (.iadd, 0), some (.iastore, 0), some (.aload_n 0, 0), some (.getfield 9, 71)],
  [none, none, some (.bipush 6, 0), none, some (.iaload, 0), some (.ireturn, 0)]]
def tb_m222 : ab_M := (⟨"ScrewLeftModel", "tell", "(I)I"⟩, prog_14_method_98_code, 2, (some .int), 0, 0, (6157, 6155, 1013), tb_t222)
def tb_t223 : ab_T := [
  [some (.aload_n 0, 0), some (.getfield 9, 71), none, none, some (.bipush 6, 0), none, some (.iaload, 0), some (.istore_n 1, 0), some (.aload_n 0, 0), some (.getfield 9, 71), none, none, some (.bipush 6, 0), none, some (.iconst 0, 0), some (.iastore, 0)],
  [some (.aload_n 0, 0), some (.invokevirtual 203, 168), none, none, some (.iconst 0, 0), some (.istore_n 2, 0), some (.iconst 0, 0), some (.istore_n 3, 0), some (.iload_n 3, 0), some (.iload_n 1, 0), some (.if_icmp .ge 58, 84), none, none, some (.iload_n 2, 0), some (.ifCond .ne 54, 84), none],
  [none, some (.aload_n 0, 0), some (.invokevirtual 206, 169), none, none, some (.ifCond .eq 25, 62), none, none, some (.aload_n 0, 0), some (.getfield 9, 71), none, none, some (.bipush 105, 0), none, some (.iload_n 3, 0), some (.iadd, 0)],
  [some (.iaload, 0), some (.aload_n 0, 0), some (.getfield 9, 71), none, none, some (.iconst 0, 0), some (.iaload, 0), some (.if_icmp .ne 7, 62), none, none, some (.iconst 1, 0), some (.goto 4, 63), none, none, some (.iconst 0, 0), some (.istore 4, 0)],
  [none, some (.iload 4, 0), none, some (.ifCond .eq 7, 74), none, none, some (.iconst 0, 0), some (.goto 6, 77), none, none, some (.iconst 1, 0), some (.iload_n 3, 0), some (.iadd, 0), some (.istore_n 2, 0), some (.iinc 3 1, 0), none],
  [none, some (.goto (-57), 24), none, none, some (.aload_n 0, 0), some (.invokevirtual 216, 172), none, none, some (.iload_n 2, 0), some (.ireturn, 0)]]
def tb_m223 : ab_M := (⟨"ScrewLeftModel", "check", "()I"⟩, prog_14_method_99_code, 5, (some .int), 0, 0, (6161, 6159, 1013), tb_t223)
def tb_t224 : ab_T := [
  [some (.iload_n 1, 0), some (.tableswitch 132 0 10 #[59, 66, 74, 79, 86, 93, 100, 105, 112, 120, 125], 0), none, none, none, none, none, none, none, none, none, none, none, none, none, none],
  [none, none, none, none, none, none, none, none, none, none, none, none, none, none, none, none],
  [none, none, none, none, none, none, none, none, none, none, none, none, none, none, none, none],
  [none, none, none, none, none, none, none, none, none, none, none, none, some (.aload_n 0, 0), some (.getfield 9, 71), none, none],
  [some (.iconst 2, 0), some (.iaload, 0), some (.ireturn, 0), some (.aload_n 0, 0), some (.invokevirtual 84, 142), none, none, some (.invokestatic 210, 170), none, none, some (.ireturn, 0), some (.aload_n 0, 0), some (.invokevirtual 213, 171), none, none, some (.ireturn, 0)],
  [some (.aload_n 0, 0), some (.getfield 9, 71), none, none, some (.iconst 4, 0), some (.iaload, 0), some (.ireturn, 0), some (.aload_n 0, 0), some (.getfield 9, 71), none, none, some (.iconst 3, 0), some (.iaload, 0), some (.ireturn, 0), some (.aload_n 0, 0), some (.getfield 9, 71)],
  [none, none, some (.iconst 0, 0), some (.iaload, 0), some (.ireturn, 0), some (.aload_n 0, 0), some (.invokevirtual 72, 145), none, none, some (.ireturn, 0), some (.aload_n 0, 0), some (.getfield 9, 71), none, none, some (.iconst 5, 0), some (.iaload, 0)],
  [some (.ireturn, 0), some (.aload_n 0, 0), some (.getfield 9, 71), none, none, some (.bipush 6, 0), none, some (.iaload, 0), some (.ireturn, 0), some (.aload_n 0, 0), some (.getfield 256, 94), none, none, some (.ireturn, 0), some (.aload_n 0, 0), some (.getfield 9, 71)],
  [none, none, some (.iconst 1, 0), some (.iaload, 0), some (.ireturn, 0), some (.aload_n 0, 0), some (.ldc 107, 7), none, some (.invokevirtual 108, 134), none, none, some (.ireturn, 0)]]
def tb_m224 : ab_M := (⟨"ScrewLeftModel", "count", "(I)I"⟩, prog_14_method_100_code, 2, (some .int), 0, 0, (6165, 6163, 1013), tb_t224)
def tb_t225 : ab_T := [
  [some (.iload_n 1, 0), some (.iconst 1, 0), some (.iconst 5, 0), some (.invokestatic 60, 133), none, none, some (.ifCond .eq 12, 18), none, none, some (.aload_n 0, 0), some (.getfield 19, 74), none, none, some (.iload_n 1, 0), some (.iaload, 0), some (.goto 9, 24)],
  [none, none, some (.aload_n 0, 0), some (.ldc 107, 7), none, some (.invokevirtual 108, 134), none, none, some (.ireturn, 0)]]
def tb_m225 : ab_M := (⟨"ScrewLeftModel", "told", "(I)I"⟩, prog_14_method_101_code, 2, (some .int), 0, 0, (6169, 6167, 1013), tb_t225)
def tb_t226 : ab_T := [
  [some (.iload_n 0, 0), some (.iload_n 0, 0), some (.iconst 1, 0), some (.iushr, 0), some (.ldc_w 265, 16), none, none, some (.iand, 0), some (.isub, 0), some (.istore_n 0, 0), some (.iload_n 0, 0), some (.ldc_w 266, 17), none, none, some (.iand, 0), some (.iload_n 0, 0)],
  [some (.iconst 2, 0), some (.iushr, 0), some (.ldc_w 266, 17), none, none, some (.iand, 0), some (.iadd, 0), some (.istore_n 0, 0), some (.iload_n 0, 0), some (.iload_n 0, 0), some (.iconst 4, 0), some (.iushr, 0), some (.iadd, 0), some (.ldc_w 267, 18), none, none],
  [some (.iand, 0), some (.istore_n 0, 0), some (.iload_n 0, 0), some (.iload_n 0, 0), some (.bipush 8, 0), none, some (.iushr, 0), some (.iadd, 0), some (.istore_n 0, 0), some (.iload_n 0, 0), some (.iload_n 0, 0), some (.bipush 16, 0), none, some (.iushr, 0), some (.iadd, 0), some (.istore_n 0, 0)],
  [some (.iload_n 0, 0), some (.bipush 63, 0), none, some (.iand, 0), some (.ireturn, 0)]]
def tb_m226 : ab_M := (⟨"java/lang/Integer", "bitCount", "(I)I"⟩, prog_16_method_49_code, 1, (some .int), 0, 0, (3179, 3178, 1021), tb_t226)
def tb_t227 : ab_T := [
  [some (.aload_n 0, 0), some (.iload_n 1, 0), some (.iconst 0, 0), some (.invokevirtual 633, 196), none, none, some (.ireturn, 0)]]
def tb_m227 : ab_M := (⟨"java/lang/String", "indexOf", "(I)I"⟩, prog_18_method_79_code, 2, (some .int), 0, 0, (3009, 3007, 1015), tb_t227)
def tb_t228 : ab_T := [
  [some (.aload_n 0, 0), some (.invokevirtual 492, 197), none, none, some (.ifCond .eq 19, 23), none, none, some (.aload_n 0, 0), some (.getfield 9, 1012383), none, none, some (.iload_n 1, 0), some (.iload_n 2, 0), some (.aload_n 0, 0), some (.invokevirtual 505, 198), none],
  [none, some (.invokestatic 637, 199), none, none, some (.goto 16, 36), none, none, some (.aload_n 0, 0), some (.getfield 9, 1012383), none, none, some (.iload_n 1, 0), some (.iload_n 2, 0), some (.aload_n 0, 0), some (.invokevirtual 505, 198), none],
  [none, some (.invokestatic 640, 200), none, none, some (.ireturn, 0)]]
def tb_m228 : ab_M := (⟨"java/lang/String", "indexOf", "(II)I"⟩, prog_18_method_80_code, 3, (some .int), 0, 0, (3013, 3011, 1015), tb_t228)
def tb_t229 : ab_T := [
  [some (.getstatic 38, 1003018), none, none, some (.ifCond .eq 14, 17), none, none, some (.aload_n 0, 0), some (.getfield 15, 1012380), none, none, some (.ifCond .ne 7, 17), none, none, some (.iconst 1, 0), some (.goto 4, 18), none],
  [none, some (.iconst 0, 0), some (.ireturn, 0)]]
def tb_m229 : ab_M := (⟨"java/lang/String", "isLatin1", "()Z"⟩, prog_18_method_154_code, 1, (some .boolean), 0, 0, (3017, 3015, 1015), tb_t229)
def tb_t230 : ab_T := [
  [some (.aload_n 0, 0), some (.getfield 9, 1012383), none, none, some (.arraylength, 0), some (.aload_n 0, 0), some (.invokevirtual 335, 201), none, none, some (.ishr, 0), some (.ireturn, 0)]]
def tb_m230 : ab_M := (⟨"java/lang/String", "length", "()I"⟩, prog_18_method_54_code, 1, (some .int), 0, 0, (3023, 3021, 1015), tb_t230)
def tb_t231 : ab_T := [
  [some (.getstatic 38, 1003018), none, none, some (.ifCond .eq 10, 13), none, none, some (.aload_n 0, 0), some (.getfield 15, 1012380), none, none, some (.goto 4, 14), none, none, some (.iconst 1, 0), some (.ireturn, 0)]]
def tb_m231 : ab_M := (⟨"java/lang/String", "coder", "()B"⟩, prog_18_method_152_code, 1, (some .byte), 0, 0, (3027, 3025, 1015), tb_t231)
def tb_t232 : ab_T := [
  [some (.iload_n 1, 0), some (.invokestatic 88, 202), none, none, some (.ifCond .ne 5, 9), none, none, some (.iconst (-1), 0), some (.ireturn, 0), some (.iload_n 2, 0), some (.iconst 0, 0), some (.invokestatic 92, 203), none, none, some (.istore_n 2, 0), some (.iload_n 3, 0)],
  [some (.aload_n 0, 0), some (.arraylength, 0), some (.invokestatic 38, 204), none, none, some (.istore_n 3, 0), some (.iload_n 2, 0), some (.iload_n 3, 0), some (.if_icmp .lt 5, 29), none, none, some (.iconst (-1), 0), some (.ireturn, 0), some (.aload_n 0, 0), some (.iload_n 1, 0), some (.iload_n 2, 0)],
  [some (.iload_n 3, 0), some (.invokestatic 95, 205), none, none, some (.ireturn, 0)]]
def tb_m232 : ab_M := (⟨"java/lang/StringLatin1", "indexOf", "([BIII)I"⟩, prog_19_method_22_code, 4, (some .int), 0, 0, (3030, 3029, 1016), tb_t232)
def tb_t233 : ab_T := [
  [some (.iload_n 0, 0), some (.ifCond .lt 14, 15), none, none, some (.iload_n 0, 0), some (.sipush 255, 0), none, none, some (.if_icmp .gt 7, 15), none, none, some (.iconst 1, 0), some (.goto 4, 16), none, none, some (.iconst 0, 0)],
  [some (.ireturn, 0)]]
def tb_m233 : ab_M := (⟨"java/lang/StringLatin1", "canEncode", "(I)Z"⟩, prog_19_method_4_code, 1, (some .boolean), 0, 0, (3033, 3032, 1016), tb_t233)
def tb_t234 : ab_T := [
  [some (.iload_n 1, 0), some (.i2b, 0), some (.istore 4, 0), none, some (.iload_n 2, 0), some (.istore 5, 0), none, some (.iload 5, 0), none, some (.iload_n 3, 0), some (.if_icmp .ge 21, 31), none, none, some (.aload_n 0, 0), some (.iload 5, 0), none],
  [some (.baload, 0), some (.iload 4, 0), none, some (.if_icmp .ne 6, 25), none, none, some (.iload 5, 0), none, some (.ireturn, 0), some (.iinc 5 1, 0), none, none, some (.goto (-21), 7), none, none, some (.iconst (-1), 0)],
  [some (.ireturn, 0)]]
def tb_m234 : ab_M := (⟨"java/lang/StringLatin1", "indexOfChar", "([BIII)I"⟩, prog_19_method_23_code, 6, (some .int), 0, 0, (3038, 3037, 1016), tb_t234)
def tb_tL : ab_T := [
  [some (.new 7, 12), none, none, some (.dup, 0), some (.invokespecial 9, 206), none, none, some (.astore_n 1, 0), some (.new 10, 13), none, none, some (.dup, 0), some (.invokespecial 12, 207), none, none, some (.astore_n 2, 0)],
  [some (.iconst 0, 0), some (.istore_n 3, 0), some (.iload_n 3, 0), some (.aload_n 0, 0), some (.arraylength, 0), some (.bipush 6, 0), none, some (.isub, 0), some (.if_icmp .gt 1242, 1266), none, none, some (.aload_n 0, 0), some (.iload_n 3, 0), some (.iaload, 0), some (.bipush 63, 0), none],
  [some (.iand, 0), some (.tableswitch 1227 0 35 #[159, 202, 235, 278, 311, 344, 377, 440, 463, 516, 539, 562, 585, 608, 631, 654, 677, 710, 723, 756, 769, 802, 835, 858, 901, 924, 967, 1010, 1073, 1096, 1119, 1132, 1145, 1168, 1181, 1204], 0), none, none, none, none, none, none, none, none, none, none, none, none, none, none],
  [none, none, none, none, none, none, none, none, none, none, none, none, none, none, none, none],
  [none, none, none, none, none, none, none, none, none, none, none, none, none, none, none, none],
  [none, none, none, none, none, none, none, none, none, none, none, none, none, none, none, none],
  [none, none, none, none, none, none, none, none, none, none, none, none, none, none, none, none],
  [none, none, none, none, none, none, none, none, none, none, none, none, none, none, none, none],
  [none, none, none, none, none, none, none, none, none, none, none, none, none, none, none, none],
  [none, none, none, none, none, none, none, none, none, none, none, none, none, none, none, none],
  [none, none, none, none, none, none, none, none, none, none, none, none, none, none, none, none],
  [none, none, none, none, none, none, none, none, none, none, none, none, none, none, none, none],
  [some (.aload_n 1, 0), some (.aload_n 0, 0), some (.iload_n 3, 0), some (.iconst 1, 0), some (.iadd, 0), some (.iaload, 0), some (.aload_n 0, 0), some (.iload_n 3, 0), some (.iconst 2, 0), some (.iadd, 0), some (.iaload, 0), some (.aload_n 0, 0), some (.iload_n 3, 0), some (.iconst 3, 0), some (.iadd, 0), some (.iaload, 0)],
  [some (.invokevirtual 13, 208), none, none, some (.pop, 0), some (.aload_n 2, 0), some (.aload_n 0, 0), some (.iload_n 3, 0), some (.iconst 1, 0), some (.iadd, 0), some (.iaload, 0), some (.aload_n 0, 0), some (.iload_n 3, 0), some (.iconst 2, 0), some (.iadd, 0), some (.iaload, 0), some (.aload_n 0, 0)],
  [some (.iload_n 3, 0), some (.iconst 3, 0), some (.iadd, 0), some (.iaload, 0), some (.invokevirtual 17, 209), none, none, some (.pop, 0), some (.goto 1028, 1260), none, none, some (.aload_n 1, 0), some (.aload_n 0, 0), some (.iload_n 3, 0), some (.iconst 1, 0), some (.iadd, 0)],
  [some (.iaload, 0), some (.aload_n 0, 0), some (.iload_n 3, 0), some (.iconst 2, 0), some (.iadd, 0), some (.iaload, 0), some (.invokevirtual 18, 210), none, none, some (.pop, 0), some (.aload_n 2, 0), some (.aload_n 0, 0), some (.iload_n 3, 0), some (.iconst 1, 0), some (.iadd, 0), some (.iaload, 0)],
  [some (.aload_n 0, 0), some (.iload_n 3, 0), some (.iconst 2, 0), some (.iadd, 0), some (.iaload, 0), some (.invokevirtual 22, 211), none, none, some (.pop, 0), some (.goto 995, 1260), none, none, some (.aload_n 1, 0), some (.aload_n 0, 0), some (.iload_n 3, 0), some (.iconst 1, 0)],
  [some (.iadd, 0), some (.iaload, 0), some (.aload_n 0, 0), some (.iload_n 3, 0), some (.iconst 2, 0), some (.iadd, 0), some (.iaload, 0), some (.aload_n 0, 0), some (.iload_n 3, 0), some (.iconst 3, 0), some (.iadd, 0), some (.iaload, 0), some (.invokevirtual 23, 212), none, none, some (.pop, 0)],
  [some (.aload_n 2, 0), some (.aload_n 0, 0), some (.iload_n 3, 0), some (.iconst 1, 0), some (.iadd, 0), some (.iaload, 0), some (.aload_n 0, 0), some (.iload_n 3, 0), some (.iconst 2, 0), some (.iadd, 0), some (.iaload, 0), some (.aload_n 0, 0), some (.iload_n 3, 0), some (.iconst 3, 0), some (.iadd, 0), some (.iaload, 0)],
  [some (.invokevirtual 26, 213), none, none, some (.pop, 0), some (.goto 952, 1260), none, none, some (.aload_n 1, 0), some (.aload_n 0, 0), some (.iload_n 3, 0), some (.iconst 1, 0), some (.iadd, 0), some (.iaload, 0), some (.aload_n 0, 0), some (.iload_n 3, 0), some (.iconst 2, 0)],
  [some (.iadd, 0), some (.iaload, 0), some (.invokevirtual 27, 214), none, none, some (.pop, 0), some (.aload_n 2, 0), some (.aload_n 0, 0), some (.iload_n 3, 0), some (.iconst 1, 0), some (.iadd, 0), some (.iaload, 0), some (.aload_n 0, 0), some (.iload_n 3, 0), some (.iconst 2, 0), some (.iadd, 0)],
  [some (.iaload, 0), some (.invokevirtual 30, 215), none, none, some (.pop, 0), some (.goto 919, 1260), none, none, some (.aload_n 1, 0), some (.aload_n 0, 0), some (.iload_n 3, 0), some (.iconst 1, 0), some (.iadd, 0), some (.iaload, 0), some (.aload_n 0, 0), some (.iload_n 3, 0)],
  [some (.iconst 2, 0), some (.iadd, 0), some (.iaload, 0), some (.invokevirtual 31, 216), none, none, some (.pop, 0), some (.aload_n 2, 0), some (.aload_n 0, 0), some (.iload_n 3, 0), some (.iconst 1, 0), some (.iadd, 0), some (.iaload, 0), some (.aload_n 0, 0), some (.iload_n 3, 0), some (.iconst 2, 0)],
  [some (.iadd, 0), some (.iaload, 0), some (.invokevirtual 34, 217), none, none, some (.pop, 0), some (.goto 886, 1260), none, none, some (.aload_n 1, 0), some (.aload_n 0, 0), some (.iload_n 3, 0), some (.iconst 1, 0), some (.iadd, 0), some (.iaload, 0), some (.aload_n 0, 0)],
  [some (.iload_n 3, 0), some (.iconst 2, 0), some (.iadd, 0), some (.iaload, 0), some (.invokevirtual 35, 218), none, none, some (.pop, 0), some (.aload_n 2, 0), some (.aload_n 0, 0), some (.iload_n 3, 0), some (.iconst 1, 0), some (.iadd, 0), some (.iaload, 0), some (.aload_n 0, 0), some (.iload_n 3, 0)],
  [some (.iconst 2, 0), some (.iadd, 0), some (.iaload, 0), some (.invokevirtual 38, 219), none, none, some (.pop, 0), some (.goto 853, 1260), none, none, some (.aload_n 1, 0), some (.aload_n 0, 0), some (.iload_n 3, 0), some (.iconst 1, 0), some (.iadd, 0), some (.iaload, 0)],
  [some (.i2l, 0), some (.bipush 32, 0), none, some (.lshl, 0), some (.aload_n 0, 0), some (.iload_n 3, 0), some (.iconst 2, 0), some (.iadd, 0), some (.iaload, 0), some (.i2l, 0), some (.ldc2_w 39, 19), none, none, some (.land, 0), some (.lor, 0), some (.aload_n 0, 0)],
  [some (.iload_n 3, 0), some (.iconst 3, 0), some (.iadd, 0), some (.iaload, 0), some (.invokevirtual 41, 220), none, none, some (.pop, 0), some (.aload_n 2, 0), some (.aload_n 0, 0), some (.iload_n 3, 0), some (.iconst 1, 0), some (.iadd, 0), some (.iaload, 0), some (.i2l, 0), some (.bipush 32, 0)],
  [none, some (.lshl, 0), some (.aload_n 0, 0), some (.iload_n 3, 0), some (.iconst 2, 0), some (.iadd, 0), some (.iaload, 0), some (.i2l, 0), some (.ldc2_w 39, 19), none, none, some (.land, 0), some (.lor, 0), some (.aload_n 0, 0), some (.iload_n 3, 0), some (.iconst 3, 0)],
  [some (.iadd, 0), some (.iaload, 0), some (.invokevirtual 45, 221), none, none, some (.pop, 0), some (.goto 790, 1260), none, none, some (.aload_n 1, 0), some (.aload_n 0, 0), some (.iload_n 3, 0), some (.iconst 1, 0), some (.iadd, 0), some (.iaload, 0), some (.invokevirtual 46, 222)],
  [none, none, some (.pop, 0), some (.aload_n 2, 0), some (.aload_n 0, 0), some (.iload_n 3, 0), some (.iconst 1, 0), some (.iadd, 0), some (.iaload, 0), some (.invokevirtual 50, 223), none, none, some (.pop, 0), some (.goto 767, 1260), none, none],
  [some (.aload_n 1, 0), some (.aload_n 0, 0), some (.iload_n 3, 0), some (.iconst 1, 0), some (.iadd, 0), some (.iaload, 0), some (.aload_n 0, 0), some (.iload_n 3, 0), some (.iconst 2, 0), some (.iadd, 0), some (.iaload, 0), some (.aload_n 0, 0), some (.iload_n 3, 0), some (.iconst 3, 0), some (.iadd, 0), some (.iaload, 0)],
  [some (.aload_n 0, 0), some (.iload_n 3, 0), some (.iconst 4, 0), some (.iadd, 0), some (.iaload, 0), some (.invokevirtual 51, 224), none, none, some (.pop, 0), some (.aload_n 2, 0), some (.aload_n 0, 0), some (.iload_n 3, 0), some (.iconst 1, 0), some (.iadd, 0), some (.iaload, 0), some (.aload_n 0, 0)],
  [some (.iload_n 3, 0), some (.iconst 2, 0), some (.iadd, 0), some (.iaload, 0), some (.aload_n 0, 0), some (.iload_n 3, 0), some (.iconst 3, 0), some (.iadd, 0), some (.iaload, 0), some (.aload_n 0, 0), some (.iload_n 3, 0), some (.iconst 4, 0), some (.iadd, 0), some (.iaload, 0), some (.invokevirtual 55, 225), none],
  [none, some (.pop, 0), some (.goto 714, 1260), none, none, some (.aload_n 1, 0), some (.aload_n 0, 0), some (.iload_n 3, 0), some (.iconst 1, 0), some (.iadd, 0), some (.iaload, 0), some (.invokevirtual 56, 226), none, none, some (.pop, 0), some (.aload_n 2, 0)],
  [some (.aload_n 0, 0), some (.iload_n 3, 0), some (.iconst 1, 0), some (.iadd, 0), some (.iaload, 0), some (.invokevirtual 59, 227), none, none, some (.pop, 0), some (.goto 691, 1260), none, none, some (.aload_n 1, 0), some (.aload_n 0, 0), some (.iload_n 3, 0), some (.iconst 1, 0)],
  [some (.iadd, 0), some (.iaload, 0), some (.invokevirtual 60, 228), none, none, some (.pop, 0), some (.aload_n 2, 0), some (.aload_n 0, 0), some (.iload_n 3, 0), some (.iconst 1, 0), some (.iadd, 0), some (.iaload, 0), some (.invokevirtual 63, 229), none, none, some (.pop, 0)],
  [some (.goto 668, 1260), none, none, some (.aload_n 1, 0), some (.aload_n 0, 0), some (.iload_n 3, 0), some (.iconst 1, 0), some (.iadd, 0), some (.iaload, 0), some (.invokevirtual 64, 230), none, none, some (.pop, 0), some (.aload_n 2, 0), some (.aload_n 0, 0), some (.iload_n 3, 0)],
  [some (.iconst 1, 0), some (.iadd, 0), some (.iaload, 0), some (.invokevirtual 67, 231), none, none, some (.pop, 0), some (.goto 645, 1260), none, none, some (.aload_n 1, 0), some (.aload_n 0, 0), some (.iload_n 3, 0), some (.iconst 1, 0), some (.iadd, 0), some (.iaload, 0)],
  [some (.invokevirtual 68, 232), none, none, some (.pop, 0), some (.aload_n 2, 0), some (.aload_n 0, 0), some (.iload_n 3, 0), some (.iconst 1, 0), some (.iadd, 0), some (.iaload, 0), some (.invokevirtual 71, 233), none, none, some (.pop, 0), some (.goto 622, 1260), none],
  [none, some (.aload_n 1, 0), some (.aload_n 0, 0), some (.iload_n 3, 0), some (.iconst 1, 0), some (.iadd, 0), some (.iaload, 0), some (.invokevirtual 72, 234), none, none, some (.pop, 0), some (.aload_n 2, 0), some (.aload_n 0, 0), some (.iload_n 3, 0), some (.iconst 1, 0), some (.iadd, 0)],
  [some (.iaload, 0), some (.invokevirtual 75, 235), none, none, some (.pop, 0), some (.goto 599, 1260), none, none, some (.aload_n 1, 0), some (.aload_n 0, 0), some (.iload_n 3, 0), some (.iconst 1, 0), some (.iadd, 0), some (.iaload, 0), some (.invokevirtual 76, 236), none],
  [none, some (.pop, 0), some (.aload_n 2, 0), some (.aload_n 0, 0), some (.iload_n 3, 0), some (.iconst 1, 0), some (.iadd, 0), some (.iaload, 0), some (.invokevirtual 79, 237), none, none, some (.pop, 0), some (.goto 576, 1260), none, none, some (.aload_n 1, 0)],
  [some (.aload_n 0, 0), some (.iload_n 3, 0), some (.iconst 1, 0), some (.iadd, 0), some (.iaload, 0), some (.invokevirtual 80, 238), none, none, some (.pop, 0), some (.aload_n 2, 0), some (.aload_n 0, 0), some (.iload_n 3, 0), some (.iconst 1, 0), some (.iadd, 0), some (.iaload, 0), some (.invokevirtual 83, 239)],
  [none, none, some (.pop, 0), some (.goto 553, 1260), none, none, some (.aload_n 1, 0), some (.aload_n 0, 0), some (.iload_n 3, 0), some (.iconst 1, 0), some (.iadd, 0), some (.iaload, 0), some (.aload_n 0, 0), some (.iload_n 3, 0), some (.iconst 2, 0), some (.iadd, 0)],
  [some (.iaload, 0), some (.invokevirtual 84, 240), none, none, some (.pop, 0), some (.aload_n 2, 0), some (.aload_n 0, 0), some (.iload_n 3, 0), some (.iconst 1, 0), some (.iadd, 0), some (.iaload, 0), some (.aload_n 0, 0), some (.iload_n 3, 0), some (.iconst 2, 0), some (.iadd, 0), some (.iaload, 0)],
  [some (.invokevirtual 87, 241), none, none, some (.pop, 0), some (.goto 520, 1260), none, none, some (.aload_n 1, 0), some (.invokevirtual 88, 242), none, none, some (.pop, 0), some (.aload_n 2, 0), some (.invokevirtual 92, 243), none, none],
  [some (.pop, 0), some (.goto 507, 1260), none, none, some (.aload_n 1, 0), some (.aload_n 0, 0), some (.iload_n 3, 0), some (.iconst 1, 0), some (.iadd, 0), some (.iaload, 0), some (.aload_n 0, 0), some (.iload_n 3, 0), some (.iconst 2, 0), some (.iadd, 0), some (.iaload, 0), some (.invokevirtual 93, 244)],
  [none, none, some (.pop, 0), some (.aload_n 2, 0), some (.aload_n 0, 0), some (.iload_n 3, 0), some (.iconst 1, 0), some (.iadd, 0), some (.iaload, 0), some (.aload_n 0, 0), some (.iload_n 3, 0), some (.iconst 2, 0), some (.iadd, 0), some (.iaload, 0), some (.invokevirtual 96, 245), none],
  [none, some (.pop, 0), some (.goto 474, 1260), none, none, some (.aload_n 1, 0), some (.invokevirtual 97, 246), none, none, some (.pop, 0), some (.aload_n 2, 0), some (.invokevirtual 100, 247), none, none, some (.pop, 0), some (.goto 461, 1260)],
  [none, none, some (.aload_n 1, 0), some (.aload_n 0, 0), some (.iload_n 3, 0), some (.iconst 1, 0), some (.iadd, 0), some (.iaload, 0), some (.aload_n 0, 0), some (.iload_n 3, 0), some (.iconst 2, 0), some (.iadd, 0), some (.iaload, 0), some (.invokevirtual 101, 248), none, none],
  [some (.pop, 0), some (.aload_n 2, 0), some (.aload_n 0, 0), some (.iload_n 3, 0), some (.iconst 1, 0), some (.iadd, 0), some (.iaload, 0), some (.aload_n 0, 0), some (.iload_n 3, 0), some (.iconst 2, 0), some (.iadd, 0), some (.iaload, 0), some (.invokevirtual 104, 249), none, none, some (.pop, 0)],
  [some (.goto 428, 1260), none, none, some (.aload_n 1, 0), some (.aload_n 0, 0), some (.iload_n 3, 0), some (.iconst 1, 0), some (.iadd, 0), some (.iaload, 0), some (.aload_n 0, 0), some (.iload_n 3, 0), some (.iconst 2, 0), some (.iadd, 0), some (.iaload, 0), some (.invokevirtual 105, 250), none],
  [none, some (.pop, 0), some (.aload_n 2, 0), some (.aload_n 0, 0), some (.iload_n 3, 0), some (.iconst 1, 0), some (.iadd, 0), some (.iaload, 0), some (.aload_n 0, 0), some (.iload_n 3, 0), some (.iconst 2, 0), some (.iadd, 0), some (.iaload, 0), some (.invokevirtual 108, 251), none, none],
  [some (.pop, 0), some (.goto 395, 1260), none, none, some (.aload_n 1, 0), some (.aload_n 0, 0), some (.iload_n 3, 0), some (.iconst 1, 0), some (.iadd, 0), some (.iaload, 0), some (.invokevirtual 109, 252), none, none, some (.pop, 0), some (.aload_n 2, 0), some (.aload_n 0, 0)],
  [some (.iload_n 3, 0), some (.iconst 1, 0), some (.iadd, 0), some (.iaload, 0), some (.invokevirtual 112, 253), none, none, some (.pop, 0), some (.goto 372, 1260), none, none, some (.aload_n 1, 0), some (.aload_n 0, 0), some (.iload_n 3, 0), some (.iconst 1, 0), some (.iadd, 0)],
  [some (.iaload, 0), some (.aload_n 0, 0), some (.iload_n 3, 0), some (.iconst 2, 0), some (.iadd, 0), some (.iaload, 0), some (.aload_n 0, 0), some (.iload_n 3, 0), some (.iconst 3, 0), some (.iadd, 0), some (.iaload, 0), some (.invokevirtual 113, 254), none, none, some (.pop, 0), some (.aload_n 2, 0)],
  [some (.aload_n 0, 0), some (.iload_n 3, 0), some (.iconst 1, 0), some (.iadd, 0), some (.iaload, 0), some (.aload_n 0, 0), some (.iload_n 3, 0), some (.iconst 2, 0), some (.iadd, 0), some (.iaload, 0), some (.aload_n 0, 0), some (.iload_n 3, 0), some (.iconst 3, 0), some (.iadd, 0), some (.iaload, 0), some (.invokevirtual 116, 255)],
  [none, none, some (.pop, 0), some (.goto 329, 1260), none, none, some (.aload_n 1, 0), some (.aload_n 0, 0), some (.iload_n 3, 0), some (.iconst 1, 0), some (.iadd, 0), some (.iaload, 0), some (.invokevirtual 117, 256), none, none, some (.pop, 0)],
  [some (.aload_n 2, 0), some (.aload_n 0, 0), some (.iload_n 3, 0), some (.iconst 1, 0), some (.iadd, 0), some (.iaload, 0), some (.invokevirtual 120, 257), none, none, some (.pop, 0), some (.goto 306, 1260), none, none, some (.aload_n 1, 0), some (.aload_n 0, 0), some (.iload_n 3, 0)],
  [some (.iconst 1, 0), some (.iadd, 0), some (.iaload, 0), some (.aload_n 0, 0), some (.iload_n 3, 0), some (.iconst 2, 0), some (.iadd, 0), some (.iaload, 0), some (.aload_n 0, 0), some (.iload_n 3, 0), some (.iconst 3, 0), some (.iadd, 0), some (.iaload, 0), some (.invokevirtual 121, 258), none, none],
  [some (.pop, 0), some (.aload_n 2, 0), some (.aload_n 0, 0), some (.iload_n 3, 0), some (.iconst 1, 0), some (.iadd, 0), some (.iaload, 0), some (.aload_n 0, 0), some (.iload_n 3, 0), some (.iconst 2, 0), some (.iadd, 0), some (.iaload, 0), some (.aload_n 0, 0), some (.iload_n 3, 0), some (.iconst 3, 0), some (.iadd, 0)],
  [some (.iaload, 0), some (.invokevirtual 124, 259), none, none, some (.pop, 0), some (.goto 263, 1260), none, none, some (.aload_n 1, 0), some (.aload_n 0, 0), some (.iload_n 3, 0), some (.iconst 1, 0), some (.iadd, 0), some (.iaload, 0), some (.aload_n 0, 0), some (.iload_n 3, 0)],
  [some (.iconst 2, 0), some (.iadd, 0), some (.iaload, 0), some (.aload_n 0, 0), some (.iload_n 3, 0), some (.iconst 3, 0), some (.iadd, 0), some (.iaload, 0), some (.invokevirtual 125, 260), none, none, some (.pop, 0), some (.aload_n 2, 0), some (.aload_n 0, 0), some (.iload_n 3, 0), some (.iconst 1, 0)],
  [some (.iadd, 0), some (.iaload, 0), some (.aload_n 0, 0), some (.iload_n 3, 0), some (.iconst 2, 0), some (.iadd, 0), some (.iaload, 0), some (.aload_n 0, 0), some (.iload_n 3, 0), some (.iconst 3, 0), some (.iadd, 0), some (.iaload, 0), some (.invokevirtual 128, 261), none, none, some (.pop, 0)],
  [some (.goto 220, 1260), none, none, some (.aload_n 1, 0), some (.aload_n 0, 0), some (.iload_n 3, 0), some (.iconst 1, 0), some (.iadd, 0), some (.iaload, 0), some (.aload_n 0, 0), some (.iload_n 3, 0), some (.iconst 2, 0), some (.iadd, 0), some (.iaload, 0), some (.aload_n 0, 0), some (.iload_n 3, 0)],
  [some (.iconst 3, 0), some (.iadd, 0), some (.iaload, 0), some (.aload_n 0, 0), some (.iload_n 3, 0), some (.iconst 4, 0), some (.iadd, 0), some (.iaload, 0), some (.aload_n 0, 0), some (.iload_n 3, 0), some (.iconst 5, 0), some (.iadd, 0), some (.iaload, 0), some (.invokevirtual 129, 262), none, none],
  [some (.pop, 0), some (.aload_n 2, 0), some (.aload_n 0, 0), some (.iload_n 3, 0), some (.iconst 1, 0), some (.iadd, 0), some (.iaload, 0), some (.aload_n 0, 0), some (.iload_n 3, 0), some (.iconst 2, 0), some (.iadd, 0), some (.iaload, 0), some (.aload_n 0, 0), some (.iload_n 3, 0), some (.iconst 3, 0), some (.iadd, 0)],
  [some (.iaload, 0), some (.aload_n 0, 0), some (.iload_n 3, 0), some (.iconst 4, 0), some (.iadd, 0), some (.iaload, 0), some (.aload_n 0, 0), some (.iload_n 3, 0), some (.iconst 5, 0), some (.iadd, 0), some (.iaload, 0), some (.invokevirtual 133, 263), none, none, some (.pop, 0), some (.goto 157, 1260)],
  [none, none, some (.aload_n 1, 0), some (.aload_n 0, 0), some (.iload_n 3, 0), some (.iconst 1, 0), some (.iadd, 0), some (.iaload, 0), some (.invokevirtual 134, 264), none, none, some (.pop, 0), some (.aload_n 2, 0), some (.aload_n 0, 0), some (.iload_n 3, 0), some (.iconst 1, 0)],
  [some (.iadd, 0), some (.iaload, 0), some (.invokevirtual 137, 265), none, none, some (.pop, 0), some (.goto 134, 1260), none, none, some (.aload_n 1, 0), some (.aload_n 0, 0), some (.iload_n 3, 0), some (.iconst 1, 0), some (.iadd, 0), some (.iaload, 0), some (.invokevirtual 138, 266)],
  [none, none, some (.pop, 0), some (.aload_n 2, 0), some (.aload_n 0, 0), some (.iload_n 3, 0), some (.iconst 1, 0), some (.iadd, 0), some (.iaload, 0), some (.invokevirtual 141, 267), none, none, some (.pop, 0), some (.goto 111, 1260), none, none],
  [some (.aload_n 1, 0), some (.invokevirtual 142, 268), none, none, some (.pop, 0), some (.aload_n 2, 0), some (.invokevirtual 145, 269), none, none, some (.pop, 0), some (.goto 98, 1260), none, none, some (.aload_n 1, 0), some (.invokevirtual 146, 270), none],
  [none, some (.pop, 0), some (.aload_n 2, 0), some (.invokevirtual 149, 271), none, none, some (.pop, 0), some (.goto 85, 1260), none, none, some (.aload_n 1, 0), some (.aload_n 0, 0), some (.iload_n 3, 0), some (.iconst 1, 0), some (.iadd, 0), some (.iaload, 0)],
  [some (.invokevirtual 150, 272), none, none, some (.pop, 0), some (.aload_n 2, 0), some (.aload_n 0, 0), some (.iload_n 3, 0), some (.iconst 1, 0), some (.iadd, 0), some (.iaload, 0), some (.invokevirtual 153, 273), none, none, some (.pop, 0), some (.goto 62, 1260), none],
  [none, some (.aload_n 1, 0), some (.invokevirtual 154, 274), none, none, some (.pop, 0), some (.aload_n 2, 0), some (.invokevirtual 157, 275), none, none, some (.pop, 0), some (.goto 49, 1260), none, none, some (.aload_n 1, 0), some (.aload_n 0, 0)],
  [some (.iload_n 3, 0), some (.iconst 1, 0), some (.iadd, 0), some (.iaload, 0), some (.invokevirtual 158, 276), none, none, some (.aload_n 2, 0), some (.aload_n 0, 0), some (.iload_n 3, 0), some (.iconst 1, 0), some (.iadd, 0), some (.iaload, 0), some (.invokevirtual 161, 277), none, none],
  [some (.if_icmp .eq 28, 1260), none, none, some (.iconst 0, 0), some (.ireturn, 0), some (.aload_n 1, 0), some (.aload_n 0, 0), some (.iload_n 3, 0), some (.iconst 1, 0), some (.iadd, 0), some (.iaload, 0), some (.invokevirtual 162, 278), none, none, some (.pop, 0), some (.aload_n 2, 0)],
  [some (.aload_n 0, 0), some (.iload_n 3, 0), some (.iconst 1, 0), some (.iadd, 0), some (.iaload, 0), some (.invokevirtual 165, 279), none, none, some (.pop, 0), some (.goto 3, 1260), none, none, some (.iinc 3 6, 0), none, none, some (.goto (-1245), 18)],
  [none, none, some (.iconst 1, 0), some (.ireturn, 0)]]
def tb_mL : ab_M := (⟨"ScrewLeftLaw", "law", "([I)Z"⟩, code, 4, (some .boolean), 600000, 7302250, (0, 0, 0), tb_tL)
def tb_F : List ab_F := [("ScrewLeft$Step", 13, 10, 2, 1, 0, 1226),
  ("ScrewLeft$Step", 23, 10, 3, 1, 0, 1228),
  ("ScrewLeft$Carried", 21, 10, 2, 1, 0, 1225),
  ("ScrewLeft$Job", 9, 7, 2, 0, 2, 1113),
  ("ScrewLeft$Job", 15, 7, 3, 0, 2, 1115),
  ("ScrewLeft$Job", 18, 7, 4, 0, 2, 1117),
  ("ScrewLeft$Job", 21, 7, 5, 0, 2, 1119),
  ("ScrewLeft$Job", 24, 7, 8, 0, 0, 1125),
  ("ScrewLeft$Job", 28, 7, 9, 0, 0, 1127),
  ("ScrewLeft$Job", 34, 7, 11, 0, 2, 1131),
  ("ScrewLeft$Job", 38, 7, 12, 0, 2, 1133),
  ("ScrewLeft$Job", 41, 7, 13, 0, 2, 1135),
  ("ScrewLeft$Job", 44, 7, 15, 0, 2, 1139),
  ("ScrewLeft$Job", 47, 7, 17, 0, 0, 1143),
  ("ScrewLeft$Job", 50, 7, 0, 0, 2, 1110),
  ("ScrewLeft$Job", 54, 7, 1, 0, 0, 1111),
  ("ScrewLeft$Job", 63, 7, 6, 0, 0, 1121),
  ("ScrewLeft$Job", 66, 7, 7, 0, 0, 1123),
  ("ScrewLeft$Job", 69, 7, 10, 0, 0, 1129),
  ("ScrewLeft$Job", 72, 8, 0, 1, 2, 1098),
  ("ScrewLeft$Job", 75, 8, 2, 1, 0, 1101),
  ("ScrewLeft$Job", 82, 7, 14, 0, 0, 1137),
  ("ScrewLeft$Job", 85, 7, 16, 0, 0, 1141),
  ("ScrewLeft$Text", 9, 8, 0, 0, 2, 1097),
  ("ScrewLeft$Text", 15, 8, 1, 0, 2, 1099),
  ("ScrewLeft$Text", 24, 8, 2, 0, 0, 1100),
  ("ScrewLeft$Reader", 9, 9, 0, 0, 2, 1189),
  ("ScrewLeft$Reader", 17, 9, 2, 0, 2, 1191),
  ("ScrewLeft$Reader", 21, 9, 5, 0, 2, 1194),
  ("ScrewLeft$Reader", 30, 9, 1, 0, 0, 1190),
  ("ScrewLeft$Reader", 34, 9, 3, 0, 0, 1192),
  ("ScrewLeft$Reader", 37, 9, 4, 0, 1, 1193),
  ("ScrewLeft$Reader", 41, 9, 6, 0, 0, 1196),
  ("ScrewLeft$Voice", 7, 10, 0, 0, 2, 1220),
  ("ScrewLeft$Voice", 13, 10, 1, 0, 0, 1222),
  ("ScrewLeft$Voice", 17, 10, 2, 0, 0, 1224),
  ("ScrewLeft$Voice", 20, 10, 3, 0, 0, 1227),
  ("ScrewLeft", 13, 11, 0, 0, 2, 2000),
  ("ScrewLeft", 22, 11, 1, 0, 2, 2001),
  ("ScrewLeft", 26, 11, 2, 0, 2, 2002),
  ("ScrewLeft", 29, 11, 3, 0, 2, 2003),
  ("ScrewLeft", 35, 11, 5, 0, 2, 2005),
  ("ScrewLeft", 42, 11, 6, 0, 2, 2006),
  ("ScrewLeft", 46, 11, 7, 0, 2, 2007),
  ("ScrewLeft", 52, 11, 8, 0, 2, 2008),
  ("ScrewLeft", 55, 11, 9, 0, 2, 2009),
  ("ScrewLeft", 58, 11, 10, 0, 2, 2010),
  ("ScrewLeft", 61, 11, 11, 0, 2, 2011),
  ("ScrewLeft", 64, 11, 12, 0, 2, 2012),
  ("ScrewLeft", 71, 7, 1, 1, 0, 1112),
  ("ScrewLeft", 87, 7, 2, 1, 2, 1114),
  ("ScrewLeft", 90, 7, 3, 1, 2, 1116),
  ("ScrewLeft", 93, 7, 4, 1, 2, 1118),
  ("ScrewLeft", 96, 7, 5, 1, 2, 1120),
  ("ScrewLeft", 121, 7, 7, 1, 0, 1124),
  ("ScrewLeft", 128, 7, 8, 1, 0, 1126),
  ("ScrewLeft", 131, 7, 9, 1, 0, 1128),
  ("ScrewLeft", 135, 7, 10, 1, 0, 1130),
  ("ScrewLeft", 145, 7, 14, 1, 0, 1138),
  ("ScrewLeft", 148, 7, 13, 1, 2, 1136),
  ("ScrewLeft", 162, 7, 11, 1, 2, 1132),
  ("ScrewLeft", 166, 7, 12, 1, 2, 1134),
  ("ScrewLeft", 169, 9, 5, 1, 2, 1195),
  ("ScrewLeft", 172, 9, 6, 1, 0, 1197),
  ("ScrewLeft", 252, 7, 6, 1, 0, 1122),
  ("ScrewLeft", 265, 7, 17, 1, 0, 1144),
  ("ScrewLeft", 285, 10, 1, 1, 0, 1223),
  ("ScrewLeft", 288, 10, 0, 1, 2, 1221),
  ("ScrewLeft", 303, 11, 4, 0, 0, 2004),
  ("ScrewLeft", 306, 7, 16, 1, 0, 1142),
  ("ScrewLeft", 309, 7, 15, 1, 2, 1140),
  ("ScrewLeftModel", 9, 12, 0, 0, 2, 4172),
  ("ScrewLeftModel", 13, 12, 1, 0, 2, 4173),
  ("ScrewLeftModel", 16, 12, 2, 0, 2, 4174),
  ("ScrewLeftModel", 19, 12, 4, 0, 2, 4176),
  ("ScrewLeftModel", 22, 12, 5, 0, 2, 4177),
  ("ScrewLeftModel", 25, 12, 6, 0, 2, 4178),
  ("ScrewLeftModel", 28, 12, 7, 0, 2, 4179),
  ("ScrewLeftModel", 31, 12, 8, 0, 2, 4180),
  ("ScrewLeftModel", 34, 12, 14, 0, 2, 4186),
  ("ScrewLeftModel", 37, 12, 15, 0, 2, 4187),
  ("ScrewLeftModel", 40, 12, 17, 0, 2, 4189),
  ("ScrewLeftModel", 43, 12, 20, 0, 2, 4192),
  ("ScrewLeftModel", 46, 12, 22, 0, 2, 4194),
  ("ScrewLeftModel", 49, 12, 23, 0, 2, 4195),
  ("ScrewLeftModel", 52, 12, 24, 0, 2, 4196),
  ("ScrewLeftModel", 136, 12, 13, 0, 0, 4185),
  ("ScrewLeftModel", 133, 12, 9, 0, 0, 4181),
  ("ScrewLeftModel", 129, 12, 10, 0, 0, 4182),
  ("ScrewLeftModel", 150, 12, 11, 0, 0, 4183),
  ("ScrewLeftModel", 142, 12, 12, 0, 1, 4184),
  ("ScrewLeftModel", 219, 12, 16, 0, 0, 4188),
  ("ScrewLeftModel", 244, 12, 18, 0, 0, 4190),
  ("ScrewLeftModel", 247, 12, 19, 0, 0, 4191),
  ("ScrewLeftModel", 256, 12, 21, 0, 0, 4193),
  ("ScrewLeftModel", 299, 12, 3, 0, 0, 4175)]
def tb_G : List ab_G := [("ScrewLeft$Step", 1, 9, ⟨"java/lang/Object", "<init>", "()V"⟩, 0, (1041, 0, 0), []),
  ("ScrewLeft$Step", 7, 1, ⟨"ScrewLeft$Voice", "begins", "(I)V"⟩, 1, (4040, 0, 0), [(10, 72, 34)]),
  ("ScrewLeft$Step", 17, 10, ⟨"ScrewLeft$Step", "fits", "(LScrewLeft$Voice;I)I"⟩, 2, (4067, 4025, 5), [(0, 5, 4024), (4, 11, 4026), (1, 11, 4034), (6, 5, 4035), (2, 5, 4036), (3, 5, 4037), (5, 5, 4038)]),
  ("ScrewLeft$Step", 26, 10, ⟨"ScrewLeft$Step", "errs", "(LScrewLeft$Voice;I)I"⟩, 2, (4106, 4044, 7), [(0, 7, 4043), (4, 7, 4045), (1, 7, 4046), (6, 7, 4047), (2, 15, 4048), (3, 7, 4060), (5, 25, 4061)]),
  ("ScrewLeft$Step", 29, 10, ⟨"ScrewLeft$Step", "looks", "(LScrewLeft$Voice;I)I"⟩, 2, (4107, 6175, 6), [(4, 6, 6176), (1, 6, 6177), (6, 29, 6178), (2, 6, 6180), (3, 19, 6181), (5, 6, 6182), (0, 6, 6183)]),
  ("ScrewLeft$Board", 1, 5, ⟨"ScrewLeft$Step", "<init>", "()V"⟩, 0, (1048, 0, 0), [(0, 0, 0), (1, 0, 0), (2, 0, 0), (3, 0, 0), (4, 0, 0), (5, 0, 0), (6, 0, 0)]),
  ("ScrewLeft$Board", 7, 1, ⟨"ScrewLeft$Voice", "begins", "(I)V"⟩, 1, (4029, 0, 0), [(10, 72, 34)]),
  ("ScrewLeft$Board", 13, 11, ⟨"ScrewLeft$Step", "fits", "(LScrewLeft$Voice;I)I"⟩, 2, (4033, 4025, 1049), [(1, 5, 0), (4, 5, 0)]),
  ("ScrewLeft$Glued", 1, 5, ⟨"ScrewLeft$Step", "<init>", "()V"⟩, 0, (1055, 0, 0), [(0, 0, 0), (1, 0, 0), (2, 0, 0), (3, 0, 0), (4, 0, 0), (5, 0, 0), (6, 0, 0)]),
  ("ScrewLeft$Glued", 7, 1, ⟨"ScrewLeft$Voice", "begins", "(I)V"⟩, 1, (4051, 0, 0), [(10, 72, 34)]),
  ("ScrewLeft$Glued", 13, 11, ⟨"ScrewLeft$Step", "errs", "(LScrewLeft$Voice;I)I"⟩, 2, (4052, 4044, 1056), [(2, 7, 0), (5, 7, 0)]),
  ("ScrewLeft$Glued", 17, 10, ⟨"ScrewLeft$Glued", "looks", "(LScrewLeft$Voice;I)I"⟩, 2, (4053, 4054, 6), [(2, 6, 4056), (5, 6, 4057)]),
  ("ScrewLeft$Held", 1, 5, ⟨"ScrewLeft$Step", "<init>", "()V"⟩, 0, (1062, 0, 0), [(0, 0, 0), (1, 0, 0), (2, 0, 0), (3, 0, 0), (4, 0, 0), (5, 0, 0), (6, 0, 0)]),
  ("ScrewLeft$Held", 7, 1, ⟨"ScrewLeft$Voice", "begins", "(I)V"⟩, 1, (4075, 0, 0), [(10, 72, 34)]),
  ("ScrewLeft$Held", 13, 11, ⟨"ScrewLeft$Step", "looks", "(LScrewLeft$Voice;I)I"⟩, 2, (4076, 6175, 1063), [(3, 6, 0), (6, 6, 0)]),
  ("ScrewLeft$Alike", 1, 5, ⟨"ScrewLeft$Board", "<init>", "()V"⟩, 0, (1069, 0, 0), [(1, 9, 0), (4, 9, 0)]),
  ("ScrewLeft$Alike", 7, 11, ⟨"ScrewLeft$Board", "lasting", "(IIII)I"⟩, 4, (2120, 6171, 1070), [(4, 10, 0)]),
  ("ScrewLeft$Alike", 11, 1, ⟨"ScrewLeft$Voice", "begins", "(I)V"⟩, 1, (4084, 0, 0), [(10, 72, 34)]),
  ("ScrewLeft$Alike", 17, 13, ⟨"ScrewLeft$Board", "undoes", "(LScrewLeft$Voice;I)I"⟩, 2, (4085, 4086, 1070), [(4, 8, 1049)]),
  ("ScrewLeft$Alike", 21, 10, ⟨"ScrewLeft$Alike", "fits", "(LScrewLeft$Voice;I)I"⟩, 2, (4088, 4089, 11), [(4, 11, 4091)]),
  ("ScrewLeft$Sealed", 1, 5, ⟨"ScrewLeft$Glued", "<init>", "()V"⟩, 0, (1076, 0, 0), [(2, 12, 0), (5, 12, 0)]),
  ("ScrewLeft$Sealed", 7, 11, ⟨"ScrewLeft$Glued", "lasting", "(IIII)I"⟩, 4, (2137, 6173, 1077), [(5, 13, 0)]),
  ("ScrewLeft$Sealed", 11, 1, ⟨"ScrewLeft$Voice", "begins", "(I)V"⟩, 1, (4064, 0, 0), [(10, 72, 34)]),
  ("ScrewLeft$Sealed", 17, 11, ⟨"ScrewLeft$Glued", "errs", "(LScrewLeft$Voice;I)I"⟩, 2, (4065, 6174, 1077), [(5, 15, 0)]),
  ("ScrewLeft$Carried", 1, 5, ⟨"ScrewLeft$Held", "<init>", "()V"⟩, 0, (1083, 0, 0), [(3, 16, 0), (6, 16, 0)]),
  ("ScrewLeft$Carried", 7, 11, ⟨"ScrewLeft$Held", "lasting", "(IIII)I"⟩, 4, (2127, 6172, 1084), [(6, 17, 0)]),
  ("ScrewLeft$Carried", 11, 1, ⟨"ScrewLeft$Voice", "begins", "(I)V"⟩, 1, (4071, 0, 0), [(10, 72, 34)]),
  ("ScrewLeft$Carried", 17, 11, ⟨"ScrewLeft$Held", "looks", "(LScrewLeft$Voice;I)I"⟩, 2, (4072, 6179, 1084), [(6, 19, 0)]),
  ("ScrewLeft$Carried", 25, 10, ⟨"ScrewLeft$Carried", "errs", "(LScrewLeft$Voice;I)I"⟩, 2, (4096, 4097, 7), [(6, 7, 4099)]),
  ("ScrewLeft$Carried", 30, 13, ⟨"ScrewLeft$Held", "undoes", "(LScrewLeft$Voice;I)I"⟩, 2, (4100, 4101, 1084), [(6, 8, 1063)]),
  ("ScrewLeft$Job", 3, 9, ⟨"java/lang/Object", "<init>", "()V"⟩, 0, (1090, 0, 0), []),
  ("ScrewLeft$Job", 33, 5, ⟨"ScrewLeft$Text", "<init>", "()V"⟩, 0, (1093, 0, 0), [(8, 54, 0)]),
  ("ScrewLeft$Job", 96, 3, ⟨"ScrewLeft", "isIn", "(II)Z"⟩, 2, (2068, 0, 0), [(0, 79, 0)]),
  ("ScrewLeft$Job", 88, 0, ⟨"ScrewLeft$Job", "has", "(I)Z"⟩, 1, (2079, 0, 0), [(7, 33, 2)]),
  ("ScrewLeft$Job", 123, 0, ⟨"ScrewLeft$Job", "tired", "()I"⟩, 0, (2080, 0, 0), [(7, 37, 6)]),
  ("ScrewLeft$Job", 127, 0, ⟨"ScrewLeft$Job", "lastsBy", "(III)I"⟩, 3, (2087, 0, 0), [(7, 38, 7)]),
  ("ScrewLeft$Job", 130, 0, ⟨"ScrewLeft$Job", "kindOf", "(I)LScrewLeft$Step;"⟩, 1, (2108, 0, 0), [(7, 39, 10)]),
  ("ScrewLeft$Job", 134, 10, ⟨"ScrewLeft$Step", "lasting", "(IIII)I"⟩, 4, (2113, 2116, 1), [(0, 1, 2115), (4, 21, 2117), (1, 10, 2123), (6, 27, 2124), (2, 13, 2130), (3, 17, 2133), (5, 24, 2134)]),
  ("ScrewLeft$Job", 106, 8, ⟨"java/lang/Math", "min", "(II)I"⟩, 2, (2084, 0, 0), []),
  ("ScrewLeft$Job", 112, 1, ⟨"ScrewLeft$Text", "isGiven", "()Z"⟩, 0, (2091, 0, 0), [(8, 55, 8)]),
  ("ScrewLeft$Job", 116, 1, ⟨"ScrewLeft$Text", "workedOut", "(III)I"⟩, 3, (2095, 0, 0), [(8, 56, 9)]),
  ("ScrewLeft$Job", 120, 7, ⟨"java/lang/Math", "max", "(II)I"⟩, 2, (2105, 0, 0), []),
  ("ScrewLeft$Job", 92, 3, ⟨"ScrewLeft", "within", "(III)Z"⟩, 3, (2112, 0, 0), [(0, 76, 0)]),
  ("ScrewLeft$Job", 140, 0, ⟨"ScrewLeft$Job", "lasts", "(I)I"⟩, 1, (2143, 0, 0), [(7, 36, 5)]),
  ("ScrewLeft$Job", 143, 10, ⟨"ScrewLeft$Step", "back", "(I)I"⟩, 1, (2144, 2147, 2), [(0, 2, 2146), (4, 2, 2148), (1, 2, 2149), (6, 18, 2150), (2, 2, 2153), (3, 18, 2154), (5, 2, 2155)]),
  ("ScrewLeft$Job", 146, 0, ⟨"ScrewLeft$Job", "isDone", "(I)Z"⟩, 1, (2161, 0, 0), [(7, 34, 3)]),
  ("ScrewLeft$Job", 149, 10, ⟨"ScrewLeft$Step", "handsNeeded", "()I"⟩, 0, (2162, 2165, 3), [(0, 3, 2164), (4, 3, 2166), (1, 3, 2167), (6, 28, 2168), (2, 3, 2171), (3, 3, 2172), (5, 3, 2173)]),
  ("ScrewLeft$Job", 152, 10, ⟨"ScrewLeft$Step", "never", "()Z"⟩, 0, (2179, 2182, 4), [(0, 4, 2181), (4, 4, 2183), (1, 4, 2184), (6, 4, 2185), (2, 14, 2186), (3, 4, 2189), (5, 14, 2190)]),
  ("ScrewLeft$Job", 158, 0, ⟨"ScrewLeft$Job", "errsBy", "(III)I"⟩, 3, (3130, 0, 0), [(7, 43, 20)]),
  ("ScrewLeft$Job", 161, 3, ⟨"ScrewLeft", "with", "(IIZ)I"⟩, 3, (3131, 0, 0), [(0, 82, 0)]),
  ("ScrewLeft$Job", 165, 0, ⟨"ScrewLeft$Job", "pass", "(I)V"⟩, 1, (3132, 0, 0), [(7, 45, 22)]),
  ("ScrewLeft$Job", 169, 0, ⟨"ScrewLeft$Job", "takesBack", "(I)I"⟩, 1, (3144, 0, 0), [(7, 40, 11)]),
  ("ScrewLeft$Job", 57, 6, ⟨"java/lang/System", "arraycopy", "(Ljava/lang/Object;ILjava/lang/Object;II)V"⟩, 5, (3166, 0, 0), []),
  ("ScrewLeft$Job", 78, 1, ⟨"ScrewLeft$Text", "hold", "([II)V"⟩, 2, (3167, 0, 0), [(8, 59, 19)]),
  ("ScrewLeft$Job", 155, 0, ⟨"ScrewLeft$Job", "mayBeDone", "(I)Z"⟩, 1, (3172, 0, 0), [(7, 41, 12)]),
  ("ScrewLeft$Job", 100, 2, ⟨"java/lang/Integer", "bitCount", "(I)I"⟩, 1, (3177, 0, 0), [(0, 226, 0)]),
  ("ScrewLeft$Text", 3, 9, ⟨"java/lang/Object", "<init>", "()V"⟩, 0, (1096, 0, 0), []),
  ("ScrewLeft$Text", 28, 2, ⟨"ScrewLeft$Text", "valueOf", "(IIII)I"⟩, 4, (2099, 0, 0), [(0, 57, 0)]),
  ("ScrewLeft$Text", 32, 2, ⟨"ScrewLeft$Text", "joined", "(III)I"⟩, 3, (2102, 0, 0), [(0, 58, 0)]),
  ("ScrewLeft$Text", 18, 6, ⟨"java/lang/System", "arraycopy", "(Ljava/lang/Object;ILjava/lang/Object;II)V"⟩, 5, (3110, 0, 0), []),
  ("ScrewLeft$Reader", 3, 9, ⟨"java/lang/Object", "<init>", "()V"⟩, 0, (1187, 0, 0), []),
  ("ScrewLeft$Reader", 24, 8, ⟨"java/lang/Math", "min", "(II)I"⟩, 2, (2235, 0, 0), []),
  ("ScrewLeft$Reader", 44, 2, ⟨"ScrewLeft$Reader", "readRank", "(LScrewLeft$Reader;II)V"⟩, 3, (2236, 0, 0), [(0, 62, 0)]),
  ("ScrewLeft$Reader", 48, 2, ⟨"ScrewLeft$Reader", "readPart", "(LScrewLeft$Reader;I)V"⟩, 2, (2239, 0, 0), [(0, 63, 0)]),
  ("ScrewLeft$Reader", 52, 0, ⟨"ScrewLeft$Reader", "ahead", "()I"⟩, 0, (3002, 0, 0), [(9, 64, 15)]),
  ("ScrewLeft$Reader", 56, 2, ⟨"ScrewLeft$Reader", "joins", "(II)Z"⟩, 2, (3103, 0, 0), [(0, 69, 0)]),
  ("ScrewLeft$Reader", 60, 0, ⟨"ScrewLeft$Reader", "write", "(I)V"⟩, 1, (3095, 0, 0), [(9, 67, 17)]),
  ("ScrewLeft$Reader", 64, 12, ⟨"java/lang/String", "indexOf", "(I)I"⟩, 1, (3006, 0, 0), [(0, 227, 3008)]),
  ("ScrewLeft$Reader", 70, 2, ⟨"ScrewLeft$Reader", "isDigit", "(I)Z"⟩, 1, (3088, 0, 0), [(0, 65, 0)]),
  ("ScrewLeft$Reader", 74, 0, ⟨"ScrewLeft$Reader", "readNumber", "()V"⟩, 0, (3091, 0, 0), [(9, 66, 16)]),
  ("ScrewLeft$Reader", 77, 0, ⟨"ScrewLeft$Reader", "close", "()V"⟩, 0, (3099, 0, 0), [(9, 68, 18)]),
  ("ScrewLeft$Voice", 1, 9, ⟨"java/lang/Object", "<init>", "()V"⟩, 0, (1219, 0, 0), []),
  ("ScrewLeft", 1, 9, ⟨"java/lang/Object", "<init>", "()V"⟩, 0, (1027, 0, 0), []),
  ("ScrewLeft", 7, 2, ⟨"ScrewLeft", "allKinds", "()[LScrewLeft$Step;"⟩, 0, (1030, 0, 0), [(0, 74, 0)]),
  ("ScrewLeft", 19, 5, ⟨"ScrewLeft$Job", "<init>", "([LScrewLeft$Step;)V"⟩, 1, (1087, 0, 0), [(7, 31, 0)]),
  ("ScrewLeft", 34, 5, ⟨"ScrewLeft$Reader", "<init>", "()V"⟩, 0, (1184, 0, 0), [(9, 60, 0)]),
  ("ScrewLeft", 41, 5, ⟨"ScrewLeft$Voice", "<init>", "()V"⟩, 0, (1216, 0, 0), [(10, 70, 0)]),
  ("ScrewLeft", 316, 5, ⟨"ScrewLeft$Step", "<init>", "()V"⟩, 0, (1038, 0, 0), [(0, 0, 0), (1, 0, 0), (2, 0, 0), (3, 0, 0), (4, 0, 0), (5, 0, 0), (6, 0, 0)]),
  ("ScrewLeft", 319, 5, ⟨"ScrewLeft$Board", "<init>", "()V"⟩, 0, (1045, 0, 0), [(1, 9, 0), (4, 9, 0)]),
  ("ScrewLeft", 322, 5, ⟨"ScrewLeft$Glued", "<init>", "()V"⟩, 0, (1052, 0, 0), [(2, 12, 0), (5, 12, 0)]),
  ("ScrewLeft", 325, 5, ⟨"ScrewLeft$Held", "<init>", "()V"⟩, 0, (1059, 0, 0), [(3, 16, 0), (6, 16, 0)]),
  ("ScrewLeft", 328, 5, ⟨"ScrewLeft$Alike", "<init>", "()V"⟩, 0, (1066, 0, 0), [(4, 20, 0)]),
  ("ScrewLeft", 331, 5, ⟨"ScrewLeft$Sealed", "<init>", "()V"⟩, 0, (1073, 0, 0), [(5, 23, 0)]),
  ("ScrewLeft", 334, 5, ⟨"ScrewLeft$Carried", "<init>", "()V"⟩, 0, (1080, 0, 0), [(6, 26, 0)]),
  ("ScrewLeft", 67, 2, ⟨"ScrewLeft", "within", "(III)Z"⟩, 3, (2044, 0, 0), [(0, 76, 0)]),
  ("ScrewLeft", 75, 0, ⟨"ScrewLeft", "error", "(I)I"⟩, 1, (2047, 0, 0), [(11, 77, 0)]),
  ("ScrewLeft", 79, 1, ⟨"ScrewLeft$Job", "add", "(III)I"⟩, 3, (2052, 0, 0), [(7, 32, 1)]),
  ("ScrewLeft", 83, 1, ⟨"ScrewLeft$Job", "has", "(I)Z"⟩, 1, (2060, 0, 0), [(7, 33, 2)]),
  ("ScrewLeft", 99, 1, ⟨"ScrewLeft$Job", "isDone", "(I)Z"⟩, 1, (2064, 0, 0), [(7, 34, 3)]),
  ("ScrewLeft", 102, 1, ⟨"ScrewLeft$Job", "isWrong", "(I)Z"⟩, 1, (2071, 0, 0), [(7, 35, 4)]),
  ("ScrewLeft", 105, 1, ⟨"ScrewLeft$Job", "lasts", "(I)I"⟩, 1, (2075, 0, 0), [(7, 36, 5)]),
  ("ScrewLeft", 108, 1, ⟨"ScrewLeft$Job", "takesBack", "(I)I"⟩, 1, (2139, 0, 0), [(7, 40, 11)]),
  ("ScrewLeft", 111, 1, ⟨"ScrewLeft$Job", "mayBeDone", "(I)Z"⟩, 1, (2157, 0, 0), [(7, 41, 12)]),
  ("ScrewLeft", 114, 1, ⟨"ScrewLeft$Job", "mayBeUndone", "(I)Z"⟩, 1, (2175, 0, 0), [(7, 42, 13)]),
  ("ScrewLeft", 117, 2, ⟨"ScrewLeft", "mostToChange", "(II)I"⟩, 2, (2196, 0, 0), [(0, 81, 0)]),
  ("ScrewLeft", 124, 2, ⟨"ScrewLeft", "with", "(IIZ)I"⟩, 3, (2199, 0, 0), [(0, 82, 0)]),
  ("ScrewLeft", 141, 2, ⟨"ScrewLeft", "isOf", "(II)Z"⟩, 2, (2215, 0, 0), [(0, 86, 0)]),
  ("ScrewLeft", 151, 2, ⟨"ScrewLeft", "isUse", "(I)Z"⟩, 1, (2226, 0, 0), [(0, 89, 0)]),
  ("ScrewLeft", 158, 1, ⟨"ScrewLeft$Reader", "read", "([IILjava/lang/String;)I"⟩, 3, (2231, 0, 0), [(9, 61, 14)]),
  ("ScrewLeft", 175, 1, ⟨"ScrewLeft$Text", "hold", "([II)V"⟩, 2, (3106, 0, 0), [(8, 59, 19)]),
  ("ScrewLeft", 181, 1, ⟨"ScrewLeft$Job", "lastsBy", "(III)I"⟩, 3, (3117, 0, 0), [(7, 38, 7)]),
  ("ScrewLeft", 184, 1, ⟨"ScrewLeft$Job", "errsBy", "(III)I"⟩, 3, (3118, 0, 0), [(7, 43, 20)]),
  ("ScrewLeft", 187, 1, ⟨"ScrewLeft$Job", "finish", "(I)V"⟩, 1, (3126, 0, 0), [(7, 44, 21)]),
  ("ScrewLeft", 191, 1, ⟨"ScrewLeft$Job", "takeApart", "(I)V"⟩, 1, (3140, 0, 0), [(7, 46, 23)]),
  ("ScrewLeft", 194, 1, ⟨"ScrewLeft$Job", "draw", "()I"⟩, 0, (3149, 0, 0), [(7, 47, 24)]),
  ("ScrewLeft", 198, 1, ⟨"ScrewLeft$Job", "take", "(LScrewLeft$Job;)V"⟩, 1, (3162, 0, 0), [(7, 48, 25)]),
  ("ScrewLeft", 202, 1, ⟨"ScrewLeft$Job", "leastThatMay", "()I"⟩, 0, (3168, 0, 0), [(7, 49, 26)]),
  ("ScrewLeft", 205, 1, ⟨"ScrewLeft$Job", "howManyOpen", "()I"⟩, 0, (3173, 0, 0), [(7, 50, 27)]),
  ("ScrewLeft", 208, 2, ⟨"java/lang/Integer", "bitCount", "(I)I"⟩, 1, (3183, 0, 0), [(0, 226, 0)]),
  ("ScrewLeft", 213, 2, ⟨"ScrewLeft", "seekBest", "(LScrewLeft$Job;[I[III)I"⟩, 5, (3188, 0, 0), [(0, 97, 0)]),
  ("ScrewLeft", 217, 6, ⟨"java/lang/System", "arraycopy", "(Ljava/lang/Object;ILjava/lang/Object;II)V"⟩, 5, (3191, 0, 0), []),
  ("ScrewLeft", 223, 1, ⟨"ScrewLeft$Job", "pass", "(I)V"⟩, 1, (3192, 0, 0), [(7, 45, 22)]),
  ("ScrewLeft", 226, 1, ⟨"ScrewLeft$Job", "unpass", "(III)V"⟩, 3, (3193, 0, 0), [(7, 51, 28)]),
  ("ScrewLeft", 230, 1, ⟨"ScrewLeft$Job", "restingOn", "(I)I"⟩, 1, (3201, 0, 0), [(7, 52, 29)]),
  ("ScrewLeft", 233, 0, ⟨"ScrewLeft", "minutesBackTo", "(I)I"⟩, 1, (3209, 0, 0), [(11, 100, 30)]),
  ("ScrewLeft", 236, 0, ⟨"ScrewLeft", "isBlocked", "(I)Z"⟩, 1, (3214, 0, 0), [(11, 101, 31)]),
  ("ScrewLeft", 239, 2, ⟨"ScrewLeft", "isIn", "(II)Z"⟩, 2, (3213, 0, 0), [(0, 79, 0)]),
  ("ScrewLeft", 242, 1, ⟨"ScrewLeft$Job", "kindOf", "(I)LScrewLeft$Step;"⟩, 1, (3218, 0, 0), [(7, 39, 10)]),
  ("ScrewLeft", 246, 10, ⟨"ScrewLeft$Step", "never", "()Z"⟩, 0, (3219, 2182, 4), [(0, 4, 2181), (4, 4, 2183), (1, 4, 2184), (6, 4, 2185), (2, 14, 2186), (3, 4, 2189), (5, 14, 2190)]),
  ("ScrewLeft", 255, 1, ⟨"ScrewLeft$Job", "screwsOf", "(I)I"⟩, 1, (3228, 0, 0), [(7, 53, 32)]),
  ("ScrewLeft", 258, 2, ⟨"ScrewLeft", "isSheet", "(I)Z"⟩, 1, (4000, 0, 0), [(0, 106, 0)]),
  ("ScrewLeft", 261, 2, ⟨"ScrewLeft", "ordersFrom", "(LScrewLeft$Job;I[III)I"⟩, 5, (4003, 0, 0), [(0, 107, 0)]),
  ("ScrewLeft", 268, 1, ⟨"ScrewLeft$Voice", "start", "(II)V"⟩, 2, (4018, 0, 0), [(10, 71, 33)]),
  ("ScrewLeft", 272, 10, ⟨"ScrewLeft$Step", "fits", "(LScrewLeft$Voice;I)I"⟩, 2, (4022, 4025, 5), [(0, 5, 4024), (4, 11, 4026), (1, 11, 4034), (6, 5, 4035), (2, 5, 4036), (3, 5, 4037), (5, 5, 4038)]),
  ("ScrewLeft", 276, 10, ⟨"ScrewLeft$Step", "errs", "(LScrewLeft$Voice;I)I"⟩, 2, (4041, 4044, 7), [(0, 7, 4043), (4, 7, 4045), (1, 7, 4046), (6, 7, 4047), (2, 15, 4048), (3, 7, 4060), (5, 25, 4061)]),
  ("ScrewLeft", 279, 10, ⟨"ScrewLeft$Step", "looks", "(LScrewLeft$Voice;I)I"⟩, 2, (4068, 6175, 6), [(4, 6, 6176), (1, 6, 6177), (6, 29, 6178), (2, 6, 6180), (3, 19, 6181), (5, 6, 6182), (0, 6, 6183)]),
  ("ScrewLeft", 282, 10, ⟨"ScrewLeft$Step", "undoes", "(LScrewLeft$Voice;I)I"⟩, 2, (4077, 4080, 8), [(0, 8, 4079), (4, 22, 4081), (1, 8, 4092), (6, 30, 4093), (2, 8, 4102), (3, 8, 4103), (5, 8, 4104)]),
  ("ScrewLeft", 291, 2, ⟨"ScrewLeft", "lowestBits", "(II)I"⟩, 2, (4120, 0, 0), [(0, 114, 0)]),
  ("ScrewLeft", 295, 0, ⟨"ScrewLeft", "standThere", "(III)Z"⟩, 3, (4128, 0, 0), [(11, 116, 35)]),
  ("ScrewLeft", 298, 8, ⟨"java/lang/Math", "min", "(II)I"⟩, 2, (4136, 0, 0), []),
  ("ScrewLeft", 312, 1, ⟨"ScrewLeft$Job", "tired", "()I"⟩, 0, (4161, 0, 0), [(7, 37, 6)]),
  ("ScrewLeftModel", 3, 9, ⟨"java/lang/Object", "<init>", "()V"⟩, 0, (4171, 0, 0), []),
  ("ScrewLeftModel", 104, 2, ⟨"ScrewLeftModel", "isKm", "(I)Z"⟩, 1, (5012, 0, 0), [(0, 127, 0)]),
  ("ScrewLeftModel", 60, 2, ⟨"ScrewLeftModel", "in", "(III)Z"⟩, 3, (5015, 0, 0), [(0, 128, 0)]),
  ("ScrewLeftModel", 108, 0, ⟨"ScrewLeftModel", "error", "(I)I"⟩, 1, (5019, 0, 0), [(12, 129, 36)]),
  ("ScrewLeftModel", 97, 0, ⟨"ScrewLeftModel", "lets", "(III)V"⟩, 3, (5025, 0, 0), [(12, 130, 37)]),
  ("ScrewLeftModel", 112, 0, ⟨"ScrewLeftModel", "isStep", "(I)Z"⟩, 1, (5033, 0, 0), [(12, 132, 38)]),
  ("ScrewLeftModel", 68, 0, ⟨"ScrewLeftModel", "of", "(II)I"⟩, 2, (5037, 0, 0), [(12, 133, 39)]),
  ("ScrewLeftModel", 115, 0, ⟨"ScrewLeftModel", "mayBeDone", "(I)Z"⟩, 1, (5041, 0, 0), [(12, 134, 40)]),
  ("ScrewLeftModel", 118, 0, ⟨"ScrewLeftModel", "mayBeUndone", "(I)Z"⟩, 1, (5049, 0, 0), [(12, 136, 42)]),
  ("ScrewLeftModel", 80, 0, ⟨"ScrewLeftModel", "lastsOf", "(I)I"⟩, 1, (5061, 0, 0), [(12, 139, 45)]),
  ("ScrewLeftModel", 101, 0, ⟨"ScrewLeftModel", "backOf", "(I)I"⟩, 1, (5083, 0, 0), [(12, 145, 49)]),
  ("ScrewLeftModel", 84, 0, ⟨"ScrewLeftModel", "done", "()I"⟩, 0, (5045, 0, 0), [(12, 135, 41)]),
  ("ScrewLeftModel", 87, 0, ⟨"ScrewLeftModel", "isNever", "(I)Z"⟩, 1, (5053, 0, 0), [(12, 137, 43)]),
  ("ScrewLeftModel", 91, 0, ⟨"ScrewLeftModel", "needing", "(I)I"⟩, 1, (5057, 0, 0), [(12, 138, 44)]),
  ("ScrewLeftModel", 72, 0, ⟨"ScrewLeftModel", "tired", "()I"⟩, 0, (5065, 0, 0), [(12, 140, 46)]),
  ("ScrewLeftModel", 76, 0, ⟨"ScrewLeftModel", "gives", "(IIII)I"⟩, 4, (5072, 0, 0), [(12, 142, 47)]),
  ("ScrewLeftModel", 64, 2, ⟨"ScrewLeftModel", "held", "(III)I"⟩, 3, (5069, 0, 0), [(0, 141, 0)]),
  ("ScrewLeftModel", 184, 0, ⟨"ScrewLeftModel", "works", "(I)I"⟩, 1, (5076, 0, 0), [(12, 143, 48)]),
  ("ScrewLeftModel", 181, 2, ⟨"ScrewLeftModel", "twoOf", "(III)I"⟩, 3, (5080, 0, 0), [(0, 144, 0)]),
  ("ScrewLeftModel", 122, 0, ⟨"ScrewLeftModel", "becomes", "(II)I"⟩, 2, (5092, 0, 0), [(12, 147, 50)]),
  ("ScrewLeftModel", 156, 0, ⟨"ScrewLeftModel", "ored", "()V"⟩, 0, (5119, 0, 0), [(12, 153, 51)]),
  ("ScrewLeftModel", 178, 0, ⟨"ScrewLeftModel", "anded", "()V"⟩, 0, (5123, 0, 0), [(12, 154, 52)]),
  ("ScrewLeftModel", 139, 0, ⟨"ScrewLeftModel", "byteHere", "()I"⟩, 0, (5143, 0, 0), [(12, 159, 57)]),
  ("ScrewLeftModel", 146, 0, ⟨"ScrewLeftModel", "lays", "(II)V"⟩, 2, (5151, 0, 0), [(12, 161, 59)]),
  ("ScrewLeftModel", 175, 0, ⟨"ScrewLeftModel", "compares", "()V"⟩, 0, (5127, 0, 0), [(12, 155, 53)]),
  ("ScrewLeftModel", 172, 0, ⟨"ScrewLeftModel", "sum", "()V"⟩, 0, (5131, 0, 0), [(12, 156, 54)]),
  ("ScrewLeftModel", 169, 0, ⟨"ScrewLeftModel", "times", "()V"⟩, 0, (5135, 0, 0), [(12, 157, 55)]),
  ("ScrewLeftModel", 153, 0, ⟨"ScrewLeftModel", "pieceHere", "()V"⟩, 0, (5139, 0, 0), [(12, 158, 56)]),
  ("ScrewLeftModel", 159, 0, ⟨"ScrewLeftModel", "nameOf", "(I)I"⟩, 1, (5147, 0, 0), [(12, 160, 58)]),
  ("ScrewLeftModel", 162, 0, ⟨"ScrewLeftModel", "opensBy", "(I)V"⟩, 1, (5155, 0, 0), [(12, 162, 60)]),
  ("ScrewLeftModel", 166, 0, ⟨"ScrewLeftModel", "number", "()V"⟩, 0, (5159, 0, 0), [(12, 163, 61)]),
  ("ScrewLeftModel", 187, 0, ⟨"ScrewLeftModel", "isDone", "(I)V"⟩, 1, (5171, 0, 0), [(12, 166, 62)]),
  ("ScrewLeftModel", 94, 0, ⟨"ScrewLeftModel", "errsOf", "(II)I"⟩, 2, (5175, 0, 0), [(12, 167, 63)]),
  ("ScrewLeftModel", 190, 0, ⟨"ScrewLeftModel", "isUndone", "(I)V"⟩, 1, (5183, 0, 0), [(12, 169, 64)]),
  ("ScrewLeftModel", 197, 0, ⟨"ScrewLeftModel", "drawn", "()I"⟩, 0, (5191, 0, 0), [(12, 171, 65)]),
  ("ScrewLeftModel", 194, 0, ⟨"ScrewLeftModel", "draw", "()I"⟩, 0, (5195, 0, 0), [(12, 172, 66)]),
  ("ScrewLeftModel", 200, 0, ⟨"ScrewLeftModel", "mays", "()I"⟩, 0, (5204, 0, 0), [(12, 174, 67)]),
  ("ScrewLeftModel", 203, 0, ⟨"ScrewLeftModel", "thinks", "()V"⟩, 0, (5212, 0, 0), [(12, 176, 68)]),
  ("ScrewLeftModel", 206, 0, ⟨"ScrewLeftModel", "doesNext", "()Z"⟩, 0, (5219, 0, 0), [(12, 178, 69)]),
  ("ScrewLeftModel", 210, 2, ⟨"ScrewLeftModel", "bits", "(I)I"⟩, 1, (5223, 0, 0), [(0, 179, 0)]),
  ("ScrewLeftModel", 213, 0, ⟨"ScrewLeftModel", "wrongs", "()I"⟩, 0, (5226, 0, 0), [(12, 180, 70)]),
  ("ScrewLeftModel", 216, 0, ⟨"ScrewLeftModel", "putsBack", "()V"⟩, 0, (5230, 0, 0), [(12, 181, 71)]),
  ("ScrewLeftModel", 56, 2, ⟨"ScrewLeftModel", "copyAll", "([I[I)V"⟩, 2, (5216, 0, 0), [(0, 177, 0)]),
  ("ScrewLeftModel", 225, 0, ⟨"ScrewLeftModel", "tries", "(II)V"⟩, 2, (5238, 0, 0), [(12, 183, 72)]),
  ("ScrewLeftModel", 222, 0, ⟨"ScrewLeftModel", "laysAside", "(I)V"⟩, 1, (6002, 0, 0), [(12, 184, 73)]),
  ("ScrewLeftModel", 228, 0, ⟨"ScrewLeftModel", "takesBack", "(I)V"⟩, 1, (6006, 0, 0), [(12, 185, 74)]),
  ("ScrewLeftModel", 232, 0, ⟨"ScrewLeftModel", "underOf", "(I)I"⟩, 1, (6015, 0, 0), [(12, 187, 75)]),
  ("ScrewLeftModel", 235, 0, ⟨"ScrewLeftModel", "goingBack", "(I)I"⟩, 1, (6023, 0, 0), [(12, 189, 76)]),
  ("ScrewLeftModel", 238, 0, ⟨"ScrewLeftModel", "isBlocked", "(I)Z"⟩, 1, (6027, 0, 0), [(12, 190, 77)]),
  ("ScrewLeftModel", 241, 0, ⟨"ScrewLeftModel", "screwsOf", "(I)I"⟩, 1, (6039, 0, 0), [(12, 193, 78)]),
  ("ScrewLeftModel", 253, 2, ⟨"ScrewLeftModel", "isSheet", "(I)Z"⟩, 1, (6051, 0, 0), [(0, 196, 0)]),
  ("ScrewLeftModel", 250, 0, ⟨"ScrewLeftModel", "fitsOn", "(II)V"⟩, 2, (6054, 0, 0), [(12, 197, 79)]),
  ("ScrewLeftModel", 265, 0, ⟨"ScrewLeftModel", "fits", "(II)I"⟩, 2, (6070, 0, 0), [(12, 201, 80)]),
  ("ScrewLeftModel", 283, 0, ⟨"ScrewLeftModel", "errs", "(II)I"⟩, 2, (6082, 0, 0), [(12, 204, 83)]),
  ("ScrewLeftModel", 271, 0, ⟨"ScrewLeftModel", "looks", "(II)I"⟩, 2, (6094, 0, 0), [(12, 207, 86)]),
  ("ScrewLeftModel", 289, 0, ⟨"ScrewLeftModel", "undoes", "(II)I"⟩, 2, (6106, 0, 0), [(12, 210, 89)]),
  ("ScrewLeftModel", 259, 0, ⟨"ScrewLeftModel", "begins", "(I)V"⟩, 1, (6074, 0, 0), [(12, 202, 81)]),
  ("ScrewLeftModel", 262, 0, ⟨"ScrewLeftModel", "plainFits", "(II)I"⟩, 2, (6078, 0, 0), [(12, 203, 82)]),
  ("ScrewLeftModel", 274, 0, ⟨"ScrewLeftModel", "gluedErrs", "(II)I"⟩, 2, (6086, 0, 0), [(12, 205, 84)]),
  ("ScrewLeftModel", 268, 0, ⟨"ScrewLeftModel", "plainErrs", "(II)I"⟩, 2, (6090, 0, 0), [(12, 206, 85)]),
  ("ScrewLeftModel", 280, 0, ⟨"ScrewLeftModel", "heldLooks", "(II)I"⟩, 2, (6098, 0, 0), [(12, 208, 87)]),
  ("ScrewLeftModel", 277, 0, ⟨"ScrewLeftModel", "plainLooks", "(II)I"⟩, 2, (6102, 0, 0), [(12, 209, 88)]),
  ("ScrewLeftModel", 286, 0, ⟨"ScrewLeftModel", "plainUndoes", "(II)I"⟩, 2, (6110, 0, 0), [(12, 211, 90)]),
  ("ScrewLeftModel", 292, 0, ⟨"ScrewLeftModel", "notThere", "(I)I"⟩, 1, (6126, 0, 0), [(12, 215, 91)]),
  ("ScrewLeftModel", 295, 0, ⟨"ScrewLeftModel", "notMoved", "(IIIII)I"⟩, 5, (6134, 0, 0), [(12, 217, 92)]),
  ("java/lang/String", 633, 12, ⟨"java/lang/String", "indexOf", "(II)I"⟩, 2, (3010, 0, 0), [(0, 228, 3012)]),
  ("java/lang/String", 492, 12, ⟨"java/lang/String", "isLatin1", "()Z"⟩, 0, (3014, 0, 0), [(0, 229, 3016)]),
  ("java/lang/String", 505, 12, ⟨"java/lang/String", "length", "()I"⟩, 0, (3020, 0, 0), [(0, 230, 3022)]),
  ("java/lang/String", 637, 2, ⟨"java/lang/StringLatin1", "indexOf", "([BIII)I"⟩, 4, (3028, 0, 0), [(0, 232, 0)]),
  ("java/lang/String", 640, 99, ⟨"java/lang/StringUTF16", "indexOf", "([BIII)I"⟩, 4, (3039, 0, 0), []),
  ("java/lang/String", 335, 12, ⟨"java/lang/String", "coder", "()B"⟩, 0, (3024, 0, 0), [(0, 231, 3026)]),
  ("java/lang/StringLatin1", 88, 2, ⟨"java/lang/StringLatin1", "canEncode", "(I)Z"⟩, 1, (3031, 0, 0), [(0, 233, 0)]),
  ("java/lang/StringLatin1", 92, 7, ⟨"java/lang/Math", "max", "(II)I"⟩, 2, (3034, 0, 0), []),
  ("java/lang/StringLatin1", 38, 8, ⟨"java/lang/Math", "min", "(II)I"⟩, 2, (3035, 0, 0), []),
  ("java/lang/StringLatin1", 95, 2, ⟨"java/lang/StringLatin1", "indexOfChar", "([BIII)I"⟩, 4, (3036, 0, 0), [(0, 234, 0)]),
  ("ScrewLeftLaw", 9, 4, ⟨"ScrewLeft", "<init>", "()V"⟩, 0, (1024, 0, 0), [(11, 73, 0)]),
  ("ScrewLeftLaw", 12, 4, ⟨"ScrewLeftModel", "<init>", "()V"⟩, 0, (4168, 0, 0), [(12, 125, 0)]),
  ("ScrewLeftLaw", 13, 0, ⟨"ScrewLeft", "step", "(III)I"⟩, 3, (2040, 0, 0), [(11, 75, 2042)]),
  ("ScrewLeftLaw", 17, 0, ⟨"ScrewLeftModel", "step", "(III)I"⟩, 3, (5008, 0, 0), [(12, 126, 5010)]),
  ("ScrewLeftLaw", 18, 0, ⟨"ScrewLeft", "ofStep", "(II)I"⟩, 2, (2056, 0, 0), [(11, 78, 2058)]),
  ("ScrewLeftLaw", 22, 0, ⟨"ScrewLeftModel", "ofStep", "(II)I"⟩, 2, (5029, 0, 0), [(12, 131, 5031)]),
  ("ScrewLeftLaw", 23, 0, ⟨"ScrewLeft", "change", "(III)I"⟩, 3, (2192, 0, 0), [(11, 80, 2194)]),
  ("ScrewLeftLaw", 26, 0, ⟨"ScrewLeftModel", "change", "(III)I"⟩, 3, (5087, 0, 0), [(12, 146, 5089)]),
  ("ScrewLeftLaw", 27, 0, ⟨"ScrewLeft", "set", "(II)I"⟩, 2, (2202, 0, 0), [(11, 83, 2204)]),
  ("ScrewLeftLaw", 30, 0, ⟨"ScrewLeftModel", "set", "(II)I"⟩, 2, (5096, 0, 0), [(12, 148, 5098)]),
  ("ScrewLeftLaw", 31, 0, ⟨"ScrewLeft", "become", "(II)I"⟩, 2, (2207, 0, 0), [(11, 84, 2209)]),
  ("ScrewLeftLaw", 34, 0, ⟨"ScrewLeftModel", "become", "(II)I"⟩, 2, (5101, 0, 0), [(12, 149, 5103)]),
  ("ScrewLeftLaw", 35, 0, ⟨"ScrewLeft", "as", "(II)I"⟩, 2, (2211, 0, 0), [(11, 85, 2213)]),
  ("ScrewLeftLaw", 38, 0, ⟨"ScrewLeftModel", "as", "(II)I"⟩, 2, (5105, 0, 0), [(12, 150, 5107)]),
  ("ScrewLeftLaw", 41, 0, ⟨"ScrewLeft", "feed", "(JI)I"⟩, 2, (2218, 0, 0), [(11, 87, 2220)]),
  ("ScrewLeftLaw", 45, 0, ⟨"ScrewLeftModel", "feed", "(JI)I"⟩, 2, (5110, 0, 0), [(12, 151, 5112)]),
  ("ScrewLeftLaw", 46, 0, ⟨"ScrewLeft", "text", "(I)I"⟩, 1, (2222, 0, 0), [(11, 88, 2224)]),
  ("ScrewLeftLaw", 50, 0, ⟨"ScrewLeftModel", "text", "(I)I"⟩, 1, (5115, 0, 0), [(12, 152, 5117)]),
  ("ScrewLeftLaw", 51, 0, ⟨"ScrewLeft", "law", "(IIII)I"⟩, 4, (3113, 0, 0), [(11, 90, 3115)]),
  ("ScrewLeftLaw", 55, 0, ⟨"ScrewLeftModel", "law", "(IIII)I"⟩, 4, (5163, 0, 0), [(12, 164, 5165)]),
  ("ScrewLeftLaw", 56, 0, ⟨"ScrewLeft", "does", "(I)I"⟩, 1, (3122, 0, 0), [(11, 91, 3124)]),
  ("ScrewLeftLaw", 59, 0, ⟨"ScrewLeftModel", "does", "(I)I"⟩, 1, (5167, 0, 0), [(12, 165, 5169)]),
  ("ScrewLeftLaw", 60, 0, ⟨"ScrewLeft", "undo", "(I)I"⟩, 1, (3136, 0, 0), [(11, 92, 3138)]),
  ("ScrewLeftLaw", 63, 0, ⟨"ScrewLeftModel", "undo", "(I)I"⟩, 1, (5179, 0, 0), [(12, 168, 5181)]),
  ("ScrewLeftLaw", 64, 0, ⟨"ScrewLeft", "loose", "(I)I"⟩, 1, (3145, 0, 0), [(11, 93, 3147)]),
  ("ScrewLeftLaw", 67, 0, ⟨"ScrewLeftModel", "loose", "(I)I"⟩, 1, (5187, 0, 0), [(12, 170, 5189)]),
  ("ScrewLeftLaw", 68, 0, ⟨"ScrewLeft", "next", "(I)I"⟩, 1, (3154, 0, 0), [(11, 94, 3156)]),
  ("ScrewLeftLaw", 71, 0, ⟨"ScrewLeftModel", "next", "(I)I"⟩, 1, (5200, 0, 0), [(12, 173, 5202)]),
  ("ScrewLeftLaw", 72, 0, ⟨"ScrewLeft", "all", "(I)I"⟩, 1, (3158, 0, 0), [(11, 95, 3160)]),
  ("ScrewLeftLaw", 75, 0, ⟨"ScrewLeftModel", "all", "(I)I"⟩, 1, (5208, 0, 0), [(12, 175, 5210)]),
  ("ScrewLeftLaw", 76, 0, ⟨"ScrewLeft", "order", "(I)I"⟩, 1, (3184, 0, 0), [(11, 96, 3186)]),
  ("ScrewLeftLaw", 79, 0, ⟨"ScrewLeftModel", "order", "(I)I"⟩, 1, (5234, 0, 0), [(12, 182, 5236)]),
  ("ScrewLeftLaw", 80, 0, ⟨"ScrewLeft", "under", "(I)I"⟩, 1, (3197, 0, 0), [(11, 98, 3199)]),
  ("ScrewLeftLaw", 83, 0, ⟨"ScrewLeftModel", "under", "(I)I"⟩, 1, (6011, 0, 0), [(12, 186, 6013)]),
  ("ScrewLeftLaw", 84, 0, ⟨"ScrewLeft", "goBack", "(II)I"⟩, 2, (3205, 0, 0), [(11, 99, 3207)]),
  ("ScrewLeftLaw", 87, 0, ⟨"ScrewLeftModel", "goBack", "(II)I"⟩, 2, (6019, 0, 0), [(12, 188, 6021)]),
  ("ScrewLeftLaw", 88, 0, ⟨"ScrewLeft", "left", "()I"⟩, 0, (3220, 0, 0), [(11, 102, 3222)]),
  ("ScrewLeftLaw", 92, 0, ⟨"ScrewLeftModel", "left", "()I"⟩, 0, (6031, 0, 0), [(12, 191, 6033)]),
  ("ScrewLeftLaw", 93, 0, ⟨"ScrewLeft", "whose", "(II)I"⟩, 2, (3224, 0, 0), [(11, 103, 3226)]),
  ("ScrewLeftLaw", 96, 0, ⟨"ScrewLeftModel", "whose", "(II)I"⟩, 2, (6035, 0, 0), [(12, 192, 6037)]),
  ("ScrewLeftLaw", 97, 0, ⟨"ScrewLeft", "lookAt", "()I"⟩, 0, (3232, 0, 0), [(11, 104, 3234)]),
  ("ScrewLeftLaw", 100, 0, ⟨"ScrewLeftModel", "lookAt", "()I"⟩, 0, (6043, 0, 0), [(12, 194, 6045)]),
  ("ScrewLeftLaw", 101, 0, ⟨"ScrewLeft", "orders", "(II)I"⟩, 2, (3236, 0, 0), [(11, 105, 3238)]),
  ("ScrewLeftLaw", 104, 0, ⟨"ScrewLeftModel", "orders", "(II)I"⟩, 2, (6047, 0, 0), [(12, 195, 6049)]),
  ("ScrewLeftLaw", 105, 0, ⟨"ScrewLeft", "odds", "(II)I"⟩, 2, (4006, 0, 0), [(11, 108, 4008)]),
  ("ScrewLeftLaw", 108, 0, ⟨"ScrewLeftModel", "odds", "(II)I"⟩, 2, (6058, 0, 0), [(12, 198, 6060)]),
  ("ScrewLeftLaw", 109, 0, ⟨"ScrewLeft", "seed", "(I)I"⟩, 1, (4010, 0, 0), [(11, 109, 4012)]),
  ("ScrewLeftLaw", 112, 0, ⟨"ScrewLeftModel", "seed", "(I)I"⟩, 1, (6062, 0, 0), [(12, 199, 6064)]),
  ("ScrewLeftLaw", 113, 0, ⟨"ScrewLeft", "voice", "(III)I"⟩, 3, (4014, 0, 0), [(11, 110, 4016)]),
  ("ScrewLeftLaw", 116, 0, ⟨"ScrewLeftModel", "voice", "(III)I"⟩, 3, (6066, 0, 0), [(12, 200, 6068)]),
  ("ScrewLeftLaw", 117, 0, ⟨"ScrewLeft", "trace", "(I)I"⟩, 1, (4108, 0, 0), [(11, 111, 4110)]),
  ("ScrewLeftLaw", 120, 0, ⟨"ScrewLeftModel", "trace", "(I)I"⟩, 1, (6114, 0, 0), [(12, 212, 6116)]),
  ("ScrewLeftLaw", 121, 0, ⟨"ScrewLeft", "sheet", "(III)I"⟩, 3, (4112, 0, 0), [(11, 112, 4114)]),
  ("ScrewLeftLaw", 124, 0, ⟨"ScrewLeftModel", "sheet", "(III)I"⟩, 3, (6118, 0, 0), [(12, 213, 6120)]),
  ("ScrewLeftLaw", 125, 0, ⟨"ScrewLeft", "put", "(III)I"⟩, 3, (4116, 0, 0), [(11, 113, 4118)]),
  ("ScrewLeftLaw", 128, 0, ⟨"ScrewLeftModel", "put", "(III)I"⟩, 3, (6122, 0, 0), [(12, 214, 6124)]),
  ("ScrewLeftLaw", 129, 0, ⟨"ScrewLeft", "move", "(IIIII)I"⟩, 5, (4124, 0, 0), [(11, 115, 4126)]),
  ("ScrewLeftLaw", 133, 0, ⟨"ScrewLeftModel", "move", "(IIIII)I"⟩, 5, (6130, 0, 0), [(12, 216, 6132)]),
  ("ScrewLeftLaw", 134, 0, ⟨"ScrewLeft", "screws", "(I)I"⟩, 1, (4132, 0, 0), [(11, 117, 4134)]),
  ("ScrewLeftLaw", 137, 0, ⟨"ScrewLeftModel", "screws", "(I)I"⟩, 1, (6138, 0, 0), [(12, 218, 6140)]),
  ("ScrewLeftLaw", 138, 0, ⟨"ScrewLeft", "judge", "(I)I"⟩, 1, (4137, 0, 0), [(11, 118, 4139)]),
  ("ScrewLeftLaw", 141, 0, ⟨"ScrewLeftModel", "judge", "(I)I"⟩, 1, (6142, 0, 0), [(12, 219, 6144)]),
  ("ScrewLeftLaw", 142, 0, ⟨"ScrewLeft", "image", "()I"⟩, 0, (4141, 0, 0), [(11, 119, 4143)]),
  ("ScrewLeftLaw", 145, 0, ⟨"ScrewLeftModel", "image", "()I"⟩, 0, (6146, 0, 0), [(12, 220, 6148)]),
  ("ScrewLeftLaw", 146, 0, ⟨"ScrewLeft", "restore", "()I"⟩, 0, (4145, 0, 0), [(11, 120, 4147)]),
  ("ScrewLeftLaw", 149, 0, ⟨"ScrewLeftModel", "restore", "()I"⟩, 0, (6150, 0, 0), [(12, 221, 6152)]),
  ("ScrewLeftLaw", 150, 0, ⟨"ScrewLeft", "tell", "(I)I"⟩, 1, (4149, 0, 0), [(11, 121, 4151)]),
  ("ScrewLeftLaw", 153, 0, ⟨"ScrewLeftModel", "tell", "(I)I"⟩, 1, (6154, 0, 0), [(12, 222, 6156)]),
  ("ScrewLeftLaw", 154, 0, ⟨"ScrewLeft", "check", "()I"⟩, 0, (4153, 0, 0), [(11, 122, 4155)]),
  ("ScrewLeftLaw", 157, 0, ⟨"ScrewLeftModel", "check", "()I"⟩, 0, (6158, 0, 0), [(12, 223, 6160)]),
  ("ScrewLeftLaw", 158, 0, ⟨"ScrewLeft", "count", "(I)I"⟩, 1, (4157, 0, 0), [(11, 123, 4159)]),
  ("ScrewLeftLaw", 161, 0, ⟨"ScrewLeftModel", "count", "(I)I"⟩, 1, (6162, 0, 0), [(12, 224, 6164)]),
  ("ScrewLeftLaw", 162, 0, ⟨"ScrewLeft", "told", "(I)I"⟩, 1, (4162, 0, 0), [(11, 124, 4164)]),
  ("ScrewLeftLaw", 165, 0, ⟨"ScrewLeftModel", "told", "(I)I"⟩, 1, (6166, 0, 0), [(12, 225, 6168)])]
def tb_K : List ab_K := [("ScrewLeft$Job", 172, .int (1103515245), 3153),
  ("ScrewLeft$Reader", 15, .ref 1000100, 1188),
  ("ScrewLeft", 315, .int (-1000000000), 2051),
  ("ScrewLeft", 134, .int (99999), 2206),
  ("ScrewLeft", 154, .ref 1000101, 2229),
  ("ScrewLeft", 156, .ref 1000102, 2230),
  ("ScrewLeft", 294, .int (65535), 4123),
  ("ScrewLeftModel", 107, .int (-1000000001), 5018),
  ("ScrewLeftModel", 111, .int (-1000000004), 5024),
  ("ScrewLeftModel", 55, .int (-1000000000), 5023),
  ("ScrewLeftModel", 121, .int (-1000000003), 5091),
  ("ScrewLeftModel", 125, .int (99999), 5100),
  ("ScrewLeftModel", 126, .int (-1000000005), 5109),
  ("ScrewLeftModel", 127, .long (255), 5114),
  ("ScrewLeftModel", 193, .int (1103515245), 5199),
  ("ScrewLeftModel", 231, .int (-1000000002), 6010),
  ("java/lang/Integer", 265, .int (1431655765), 3180),
  ("java/lang/Integer", 266, .int (858993459), 3181),
  ("java/lang/Integer", 267, .int (252645135), 3182),
  ("ScrewLeftLaw", 39, .long (4294967295), 6170)]
def tb_N : List ab_N := [("ScrewLeft$Job", 31, 8, 1091, 1092),
  ("ScrewLeft", 17, 7, 1085, 1086),
  ("ScrewLeft", 32, 9, 1182, 1183),
  ("ScrewLeft", 39, 10, 1214, 1215),
  ("ScrewLeft", 50, 1, 1238, 0),
  ("ScrewLeft", 247, 0, 1035, 0),
  ("ScrewLeft", 317, 1, 1043, 1044),
  ("ScrewLeft", 320, 2, 1050, 1051),
  ("ScrewLeft", 323, 3, 1057, 1058),
  ("ScrewLeft", 326, 4, 1064, 1065),
  ("ScrewLeft", 329, 5, 1071, 1072),
  ("ScrewLeft", 332, 6, 1078, 1079),
  ("ScrewLeftLaw", 7, 11, 1022, 1023),
  ("ScrewLeftLaw", 10, 12, 4166, 4167)]
def tb_M : List ab_M := [tb_m0, tb_m1, tb_m2, tb_m3, tb_m4, tb_m5, tb_m6, tb_m7, tb_m8, tb_m9, tb_m10, tb_m11, tb_m12, tb_m13, tb_m14, tb_m15, tb_m16, tb_m17, tb_m18, tb_m19, tb_m20, tb_m21, tb_m22, tb_m23, tb_m24, tb_m25, tb_m26, tb_m27, tb_m28, tb_m29, tb_m30, tb_m31, tb_m32, tb_m33, tb_m34, tb_m35, tb_m36, tb_m37, tb_m38, tb_m39, tb_m40, tb_m41, tb_m42, tb_m43, tb_m44, tb_m45, tb_m46, tb_m47, tb_m48, tb_m49, tb_m50, tb_m51, tb_m52, tb_m53, tb_m54, tb_m55, tb_m56, tb_m57, tb_m58, tb_m59, tb_m60, tb_m61, tb_m62, tb_m63, tb_m64, tb_m65, tb_m66, tb_m67, tb_m68, tb_m69, tb_m70, tb_m71, tb_m72, tb_m73, tb_m74, tb_m75, tb_m76, tb_m77, tb_m78, tb_m79, tb_m80, tb_m81, tb_m82, tb_m83, tb_m84, tb_m85, tb_m86, tb_m87, tb_m88, tb_m89, tb_m90, tb_m91, tb_m92, tb_m93, tb_m94, tb_m95, tb_m96, tb_m97, tb_m98, tb_m99, tb_m100, tb_m101, tb_m102, tb_m103, tb_m104, tb_m105, tb_m106, tb_m107, tb_m108, tb_m109, tb_m110, tb_m111, tb_m112, tb_m113, tb_m114, tb_m115, tb_m116, tb_m117, tb_m118, tb_m119, tb_m120, tb_m121, tb_m122, tb_m123, tb_m124, tb_m125, tb_m126, tb_m127, tb_m128, tb_m129, tb_m130, tb_m131, tb_m132, tb_m133, tb_m134, tb_m135, tb_m136, tb_m137, tb_m138, tb_m139, tb_m140, tb_m141, tb_m142, tb_m143, tb_m144, tb_m145, tb_m146, tb_m147, tb_m148, tb_m149, tb_m150, tb_m151, tb_m152, tb_m153, tb_m154, tb_m155, tb_m156, tb_m157, tb_m158, tb_m159, tb_m160, tb_m161, tb_m162, tb_m163, tb_m164, tb_m165, tb_m166, tb_m167, tb_m168, tb_m169, tb_m170, tb_m171, tb_m172, tb_m173, tb_m174, tb_m175, tb_m176, tb_m177, tb_m178, tb_m179, tb_m180, tb_m181, tb_m182, tb_m183, tb_m184, tb_m185, tb_m186, tb_m187, tb_m188, tb_m189, tb_m190, tb_m191, tb_m192, tb_m193, tb_m194, tb_m195, tb_m196, tb_m197, tb_m198, tb_m199, tb_m200, tb_m201, tb_m202, tb_m203, tb_m204, tb_m205, tb_m206, tb_m207, tb_m208, tb_m209, tb_m210, tb_m211, tb_m212, tb_m213, tb_m214, tb_m215, tb_m216, tb_m217, tb_m218, tb_m219, tb_m220, tb_m221, tb_m222, tb_m223, tb_m224, tb_m225, tb_m226, tb_m227, tb_m228, tb_m229, tb_m230, tb_m231, tb_m232, tb_m233, tb_m234]
def tb : ab_TB := (tb_F, tb_G, tb_K, tb_N, tb_M, tb_cl, tb_df)
def lw_tw : List (List Cond) := [k2_sels lw_privs, tables_1_1, tables_1_2, tables_1_3, tables_1_4, tables_1_5, tables_1_6]
theorem lw_tw_eq : lw_tw.flatten = lw_tbl := by simp [lw_tw, lw_tbl, tables_1]

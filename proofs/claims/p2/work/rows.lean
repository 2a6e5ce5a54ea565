section
-- ===== PART A: goes FIRST, ahead of the names: the tables' words, and 'selects' of the private methods out of them =====
/-- a private method of a class that the tables say can be made, by its rows of tables_1 -/
def lw_okq (q : MethodName × Nat) : Prop := (q.1.cls ≠ "java/lang/invoke/MethodHandle" ∧ q.1.cls ≠ "java/lang/invoke/VarHandle") ∧ Cond.instantiable q.1.cls q.2 ∈ tables_1 ∧ Cond.privateMethod q.1 ∈ tables_1 ∧ Cond.instanceMethod q.1 ∈ tables_1
theorem lw_p0 : lw_okq (⟨"ScrewLeft", "error", "(I)I"⟩, 13) := ⟨⟨by decide +kernel, by decide +kernel⟩, List.mem_of_getElem? (i := 23) (by decide +kernel), List.mem_of_getElem? (i := 288) (by decide +kernel), List.mem_of_getElem? (i := 289) (by decide +kernel)⟩
theorem lw_p1 : lw_okq (⟨"ScrewLeft$Job", "add", "(III)I"⟩, 18) := ⟨⟨by decide +kernel, by decide +kernel⟩, List.mem_of_getElem? (i := 86) (by decide +kernel), List.mem_of_getElem? (i := 293) (by decide +kernel), List.mem_of_getElem? (i := 294) (by decide +kernel)⟩
theorem lw_p2 : lw_okq (⟨"ScrewLeft$Job", "has", "(I)Z"⟩, 18) := ⟨⟨by decide +kernel, by decide +kernel⟩, List.mem_of_getElem? (i := 86) (by decide +kernel), List.mem_of_getElem? (i := 301) (by decide +kernel), List.mem_of_getElem? (i := 302) (by decide +kernel)⟩
theorem lw_p3 : lw_okq (⟨"ScrewLeft$Job", "isDone", "(I)Z"⟩, 18) := ⟨⟨by decide +kernel, by decide +kernel⟩, List.mem_of_getElem? (i := 86) (by decide +kernel), List.mem_of_getElem? (i := 305) (by decide +kernel), List.mem_of_getElem? (i := 306) (by decide +kernel)⟩
theorem lw_p4 : lw_okq (⟨"ScrewLeft$Job", "isWrong", "(I)Z"⟩, 18) := ⟨⟨by decide +kernel, by decide +kernel⟩, List.mem_of_getElem? (i := 86) (by decide +kernel), List.mem_of_getElem? (i := 312) (by decide +kernel), List.mem_of_getElem? (i := 313) (by decide +kernel)⟩
theorem lw_p5 : lw_okq (⟨"ScrewLeft$Job", "lasts", "(I)I"⟩, 18) := ⟨⟨by decide +kernel, by decide +kernel⟩, List.mem_of_getElem? (i := 86) (by decide +kernel), List.mem_of_getElem? (i := 316) (by decide +kernel), List.mem_of_getElem? (i := 317) (by decide +kernel)⟩
theorem lw_p6 : lw_okq (⟨"ScrewLeft$Job", "tired", "()I"⟩, 18) := ⟨⟨by decide +kernel, by decide +kernel⟩, List.mem_of_getElem? (i := 86) (by decide +kernel), List.mem_of_getElem? (i := 321) (by decide +kernel), List.mem_of_getElem? (i := 322) (by decide +kernel)⟩
theorem lw_p7 : lw_okq (⟨"ScrewLeft$Job", "lastsBy", "(III)I"⟩, 18) := ⟨⟨by decide +kernel, by decide +kernel⟩, List.mem_of_getElem? (i := 86) (by decide +kernel), List.mem_of_getElem? (i := 328) (by decide +kernel), List.mem_of_getElem? (i := 329) (by decide +kernel)⟩
theorem lw_p8 : lw_okq (⟨"ScrewLeft$Text", "isGiven", "()Z"⟩, 3) := ⟨⟨by decide +kernel, by decide +kernel⟩, List.mem_of_getElem? (i := 92) (by decide +kernel), List.mem_of_getElem? (i := 332) (by decide +kernel), List.mem_of_getElem? (i := 333) (by decide +kernel)⟩
theorem lw_p9 : lw_okq (⟨"ScrewLeft$Text", "workedOut", "(III)I"⟩, 3) := ⟨⟨by decide +kernel, by decide +kernel⟩, List.mem_of_getElem? (i := 92) (by decide +kernel), List.mem_of_getElem? (i := 336) (by decide +kernel), List.mem_of_getElem? (i := 337) (by decide +kernel)⟩
theorem lw_p10 : lw_okq (⟨"ScrewLeft$Job", "kindOf", "(I)LScrewLeft$Step;"⟩, 18) := ⟨⟨by decide +kernel, by decide +kernel⟩, List.mem_of_getElem? (i := 86) (by decide +kernel), List.mem_of_getElem? (i := 349) (by decide +kernel), List.mem_of_getElem? (i := 350) (by decide +kernel)⟩
theorem lw_p11 : lw_okq (⟨"ScrewLeft$Job", "takesBack", "(I)I"⟩, 18) := ⟨⟨by decide +kernel, by decide +kernel⟩, List.mem_of_getElem? (i := 86) (by decide +kernel), List.mem_of_getElem? (i := 380) (by decide +kernel), List.mem_of_getElem? (i := 381) (by decide +kernel)⟩
theorem lw_p12 : lw_okq (⟨"ScrewLeft$Job", "mayBeDone", "(I)Z"⟩, 18) := ⟨⟨by decide +kernel, by decide +kernel⟩, List.mem_of_getElem? (i := 86) (by decide +kernel), List.mem_of_getElem? (i := 398) (by decide +kernel), List.mem_of_getElem? (i := 399) (by decide +kernel)⟩
theorem lw_p13 : lw_okq (⟨"ScrewLeft$Job", "mayBeUndone", "(I)Z"⟩, 18) := ⟨⟨by decide +kernel, by decide +kernel⟩, List.mem_of_getElem? (i := 86) (by decide +kernel), List.mem_of_getElem? (i := 416) (by decide +kernel), List.mem_of_getElem? (i := 417) (by decide +kernel)⟩
theorem lw_p14 : lw_okq (⟨"ScrewLeft$Reader", "read", "([IILjava/lang/String;)I"⟩, 7) := ⟨⟨by decide +kernel, by decide +kernel⟩, List.mem_of_getElem? (i := 183) (by decide +kernel), List.mem_of_getElem? (i := 472) (by decide +kernel), List.mem_of_getElem? (i := 473) (by decide +kernel)⟩
theorem lw_p15 : lw_okq (⟨"ScrewLeft$Reader", "ahead", "()I"⟩, 7) := ⟨⟨by decide +kernel, by decide +kernel⟩, List.mem_of_getElem? (i := 183) (by decide +kernel), List.mem_of_getElem? (i := 483) (by decide +kernel), List.mem_of_getElem? (i := 484) (by decide +kernel)⟩
def lw_privs_1 : List (MethodName × Nat) := [(⟨"ScrewLeft", "error", "(I)I"⟩, 13), (⟨"ScrewLeft$Job", "add", "(III)I"⟩, 18), (⟨"ScrewLeft$Job", "has", "(I)Z"⟩, 18), (⟨"ScrewLeft$Job", "isDone", "(I)Z"⟩, 18), (⟨"ScrewLeft$Job", "isWrong", "(I)Z"⟩, 18), (⟨"ScrewLeft$Job", "lasts", "(I)I"⟩, 18), (⟨"ScrewLeft$Job", "tired", "()I"⟩, 18), (⟨"ScrewLeft$Job", "lastsBy", "(III)I"⟩, 18), (⟨"ScrewLeft$Text", "isGiven", "()Z"⟩, 3), (⟨"ScrewLeft$Text", "workedOut", "(III)I"⟩, 3), (⟨"ScrewLeft$Job", "kindOf", "(I)LScrewLeft$Step;"⟩, 18), (⟨"ScrewLeft$Job", "takesBack", "(I)I"⟩, 18), (⟨"ScrewLeft$Job", "mayBeDone", "(I)Z"⟩, 18), (⟨"ScrewLeft$Job", "mayBeUndone", "(I)Z"⟩, 18), (⟨"ScrewLeft$Reader", "read", "([IILjava/lang/String;)I"⟩, 7), (⟨"ScrewLeft$Reader", "ahead", "()I"⟩, 7)]
theorem lw_r1 : ∀ q ∈ lw_privs_1, lw_okq q := List.forall_mem_cons.mpr ⟨lw_p0, List.forall_mem_cons.mpr ⟨lw_p1, List.forall_mem_cons.mpr ⟨lw_p2, List.forall_mem_cons.mpr ⟨lw_p3, List.forall_mem_cons.mpr ⟨lw_p4, List.forall_mem_cons.mpr ⟨lw_p5, List.forall_mem_cons.mpr ⟨lw_p6, List.forall_mem_cons.mpr ⟨lw_p7, List.forall_mem_cons.mpr ⟨lw_p8, List.forall_mem_cons.mpr ⟨lw_p9, List.forall_mem_cons.mpr ⟨lw_p10, List.forall_mem_cons.mpr ⟨lw_p11, List.forall_mem_cons.mpr ⟨lw_p12, List.forall_mem_cons.mpr ⟨lw_p13, List.forall_mem_cons.mpr ⟨lw_p14, List.forall_mem_cons.mpr ⟨lw_p15, fun _ h => absurd h List.not_mem_nil⟩⟩⟩⟩⟩⟩⟩⟩⟩⟩⟩⟩⟩⟩⟩⟩
theorem lw_p16 : lw_okq (⟨"ScrewLeft$Reader", "readNumber", "()V"⟩, 7) := ⟨⟨by decide +kernel, by decide +kernel⟩, List.mem_of_getElem? (i := 183) (by decide +kernel), List.mem_of_getElem? (i := 572) (by decide +kernel), List.mem_of_getElem? (i := 573) (by decide +kernel)⟩
theorem lw_p17 : lw_okq (⟨"ScrewLeft$Reader", "write", "(I)V"⟩, 7) := ⟨⟨by decide +kernel, by decide +kernel⟩, List.mem_of_getElem? (i := 183) (by decide +kernel), List.mem_of_getElem? (i := 576) (by decide +kernel), List.mem_of_getElem? (i := 577) (by decide +kernel)⟩
theorem lw_p18 : lw_okq (⟨"ScrewLeft$Reader", "close", "()V"⟩, 7) := ⟨⟨by decide +kernel, by decide +kernel⟩, List.mem_of_getElem? (i := 183) (by decide +kernel), List.mem_of_getElem? (i := 580) (by decide +kernel), List.mem_of_getElem? (i := 581) (by decide +kernel)⟩
theorem lw_p19 : lw_okq (⟨"ScrewLeft$Text", "hold", "([II)V"⟩, 3) := ⟨⟨by decide +kernel, by decide +kernel⟩, List.mem_of_getElem? (i := 92) (by decide +kernel), List.mem_of_getElem? (i := 587) (by decide +kernel), List.mem_of_getElem? (i := 588) (by decide +kernel)⟩
theorem lw_p20 : lw_okq (⟨"ScrewLeft$Job", "errsBy", "(III)I"⟩, 18) := ⟨⟨by decide +kernel, by decide +kernel⟩, List.mem_of_getElem? (i := 86) (by decide +kernel), List.mem_of_getElem? (i := 599) (by decide +kernel), List.mem_of_getElem? (i := 600) (by decide +kernel)⟩
theorem lw_p21 : lw_okq (⟨"ScrewLeft$Job", "finish", "(I)V"⟩, 18) := ⟨⟨by decide +kernel, by decide +kernel⟩, List.mem_of_getElem? (i := 86) (by decide +kernel), List.mem_of_getElem? (i := 607) (by decide +kernel), List.mem_of_getElem? (i := 608) (by decide +kernel)⟩
theorem lw_p22 : lw_okq (⟨"ScrewLeft$Job", "pass", "(I)V"⟩, 18) := ⟨⟨by decide +kernel, by decide +kernel⟩, List.mem_of_getElem? (i := 86) (by decide +kernel), List.mem_of_getElem? (i := 613) (by decide +kernel), List.mem_of_getElem? (i := 614) (by decide +kernel)⟩
theorem lw_p23 : lw_okq (⟨"ScrewLeft$Job", "takeApart", "(I)V"⟩, 18) := ⟨⟨by decide +kernel, by decide +kernel⟩, List.mem_of_getElem? (i := 86) (by decide +kernel), List.mem_of_getElem? (i := 621) (by decide +kernel), List.mem_of_getElem? (i := 622) (by decide +kernel)⟩
theorem lw_p24 : lw_okq (⟨"ScrewLeft$Job", "draw", "()I"⟩, 18) := ⟨⟨by decide +kernel, by decide +kernel⟩, List.mem_of_getElem? (i := 86) (by decide +kernel), List.mem_of_getElem? (i := 630) (by decide +kernel), List.mem_of_getElem? (i := 631) (by decide +kernel)⟩
theorem lw_p25 : lw_okq (⟨"ScrewLeft$Job", "take", "(LScrewLeft$Job;)V"⟩, 18) := ⟨⟨by decide +kernel, by decide +kernel⟩, List.mem_of_getElem? (i := 86) (by decide +kernel), List.mem_of_getElem? (i := 643) (by decide +kernel), List.mem_of_getElem? (i := 644) (by decide +kernel)⟩
theorem lw_p26 : lw_okq (⟨"ScrewLeft$Job", "leastThatMay", "()I"⟩, 18) := ⟨⟨by decide +kernel, by decide +kernel⟩, List.mem_of_getElem? (i := 86) (by decide +kernel), List.mem_of_getElem? (i := 649) (by decide +kernel), List.mem_of_getElem? (i := 650) (by decide +kernel)⟩
theorem lw_p27 : lw_okq (⟨"ScrewLeft$Job", "howManyOpen", "()I"⟩, 18) := ⟨⟨by decide +kernel, by decide +kernel⟩, List.mem_of_getElem? (i := 86) (by decide +kernel), List.mem_of_getElem? (i := 654) (by decide +kernel), List.mem_of_getElem? (i := 655) (by decide +kernel)⟩
theorem lw_p28 : lw_okq (⟨"ScrewLeft$Job", "unpass", "(III)V"⟩, 18) := ⟨⟨by decide +kernel, by decide +kernel⟩, List.mem_of_getElem? (i := 86) (by decide +kernel), List.mem_of_getElem? (i := 674) (by decide +kernel), List.mem_of_getElem? (i := 675) (by decide +kernel)⟩
theorem lw_p29 : lw_okq (⟨"ScrewLeft$Job", "restingOn", "(I)I"⟩, 18) := ⟨⟨by decide +kernel, by decide +kernel⟩, List.mem_of_getElem? (i := 86) (by decide +kernel), List.mem_of_getElem? (i := 682) (by decide +kernel), List.mem_of_getElem? (i := 683) (by decide +kernel)⟩
theorem lw_p30 : lw_okq (⟨"ScrewLeft", "minutesBackTo", "(I)I"⟩, 13) := ⟨⟨by decide +kernel, by decide +kernel⟩, List.mem_of_getElem? (i := 23) (by decide +kernel), List.mem_of_getElem? (i := 690) (by decide +kernel), List.mem_of_getElem? (i := 691) (by decide +kernel)⟩
theorem lw_p31 : lw_okq (⟨"ScrewLeft", "isBlocked", "(I)Z"⟩, 13) := ⟨⟨by decide +kernel, by decide +kernel⟩, List.mem_of_getElem? (i := 23) (by decide +kernel), List.mem_of_getElem? (i := 695) (by decide +kernel), List.mem_of_getElem? (i := 696) (by decide +kernel)⟩
def lw_privs_2 : List (MethodName × Nat) := [(⟨"ScrewLeft$Reader", "readNumber", "()V"⟩, 7), (⟨"ScrewLeft$Reader", "write", "(I)V"⟩, 7), (⟨"ScrewLeft$Reader", "close", "()V"⟩, 7), (⟨"ScrewLeft$Text", "hold", "([II)V"⟩, 3), (⟨"ScrewLeft$Job", "errsBy", "(III)I"⟩, 18), (⟨"ScrewLeft$Job", "finish", "(I)V"⟩, 18), (⟨"ScrewLeft$Job", "pass", "(I)V"⟩, 18), (⟨"ScrewLeft$Job", "takeApart", "(I)V"⟩, 18), (⟨"ScrewLeft$Job", "draw", "()I"⟩, 18), (⟨"ScrewLeft$Job", "take", "(LScrewLeft$Job;)V"⟩, 18), (⟨"ScrewLeft$Job", "leastThatMay", "()I"⟩, 18), (⟨"ScrewLeft$Job", "howManyOpen", "()I"⟩, 18), (⟨"ScrewLeft$Job", "unpass", "(III)V"⟩, 18), (⟨"ScrewLeft$Job", "restingOn", "(I)I"⟩, 18), (⟨"ScrewLeft", "minutesBackTo", "(I)I"⟩, 13), (⟨"ScrewLeft", "isBlocked", "(I)Z"⟩, 13)]
theorem lw_r2 : ∀ q ∈ lw_privs_2, lw_okq q := List.forall_mem_cons.mpr ⟨lw_p16, List.forall_mem_cons.mpr ⟨lw_p17, List.forall_mem_cons.mpr ⟨lw_p18, List.forall_mem_cons.mpr ⟨lw_p19, List.forall_mem_cons.mpr ⟨lw_p20, List.forall_mem_cons.mpr ⟨lw_p21, List.forall_mem_cons.mpr ⟨lw_p22, List.forall_mem_cons.mpr ⟨lw_p23, List.forall_mem_cons.mpr ⟨lw_p24, List.forall_mem_cons.mpr ⟨lw_p25, List.forall_mem_cons.mpr ⟨lw_p26, List.forall_mem_cons.mpr ⟨lw_p27, List.forall_mem_cons.mpr ⟨lw_p28, List.forall_mem_cons.mpr ⟨lw_p29, List.forall_mem_cons.mpr ⟨lw_p30, List.forall_mem_cons.mpr ⟨lw_p31, fun _ h => absurd h List.not_mem_nil⟩⟩⟩⟩⟩⟩⟩⟩⟩⟩⟩⟩⟩⟩⟩⟩
theorem lw_p32 : lw_okq (⟨"ScrewLeft$Job", "screwsOf", "(I)I"⟩, 18) := ⟨⟨by decide +kernel, by decide +kernel⟩, List.mem_of_getElem? (i := 86) (by decide +kernel), List.mem_of_getElem? (i := 709) (by decide +kernel), List.mem_of_getElem? (i := 710) (by decide +kernel)⟩
theorem lw_p33 : lw_okq (⟨"ScrewLeft$Voice", "start", "(II)V"⟩, 4) := ⟨⟨by decide +kernel, by decide +kernel⟩, List.mem_of_getElem? (i := 215) (by decide +kernel), List.mem_of_getElem? (i := 739) (by decide +kernel), List.mem_of_getElem? (i := 740) (by decide +kernel)⟩
theorem lw_p34 : lw_okq (⟨"ScrewLeft$Voice", "begins", "(I)V"⟩, 4) := ⟨⟨by decide +kernel, by decide +kernel⟩, List.mem_of_getElem? (i := 215) (by decide +kernel), List.mem_of_getElem? (i := 750) (by decide +kernel), List.mem_of_getElem? (i := 751) (by decide +kernel)⟩
theorem lw_p35 : lw_okq (⟨"ScrewLeft", "standThere", "(III)Z"⟩, 13) := ⟨⟨by decide +kernel, by decide +kernel⟩, List.mem_of_getElem? (i := 23) (by decide +kernel), List.mem_of_getElem? (i := 849) (by decide +kernel), List.mem_of_getElem? (i := 850) (by decide +kernel)⟩
theorem lw_p36 : lw_okq (⟨"ScrewLeftModel", "error", "(I)I"⟩, 25) := ⟨⟨by decide +kernel, by decide +kernel⟩, List.mem_of_getElem? (i := 887) (by decide +kernel), List.mem_of_getElem? (i := 980) (by decide +kernel), List.mem_of_getElem? (i := 981) (by decide +kernel)⟩
theorem lw_p37 : lw_okq (⟨"ScrewLeftModel", "lets", "(III)V"⟩, 25) := ⟨⟨by decide +kernel, by decide +kernel⟩, List.mem_of_getElem? (i := 887) (by decide +kernel), List.mem_of_getElem? (i := 986) (by decide +kernel), List.mem_of_getElem? (i := 987) (by decide +kernel)⟩
theorem lw_p38 : lw_okq (⟨"ScrewLeftModel", "isStep", "(I)Z"⟩, 25) := ⟨⟨by decide +kernel, by decide +kernel⟩, List.mem_of_getElem? (i := 887) (by decide +kernel), List.mem_of_getElem? (i := 994) (by decide +kernel), List.mem_of_getElem? (i := 995) (by decide +kernel)⟩
theorem lw_p39 : lw_okq (⟨"ScrewLeftModel", "of", "(II)I"⟩, 25) := ⟨⟨by decide +kernel, by decide +kernel⟩, List.mem_of_getElem? (i := 887) (by decide +kernel), List.mem_of_getElem? (i := 998) (by decide +kernel), List.mem_of_getElem? (i := 999) (by decide +kernel)⟩
theorem lw_p40 : lw_okq (⟨"ScrewLeftModel", "mayBeDone", "(I)Z"⟩, 25) := ⟨⟨by decide +kernel, by decide +kernel⟩, List.mem_of_getElem? (i := 887) (by decide +kernel), List.mem_of_getElem? (i := 1002) (by decide +kernel), List.mem_of_getElem? (i := 1003) (by decide +kernel)⟩
theorem lw_p41 : lw_okq (⟨"ScrewLeftModel", "done", "()I"⟩, 25) := ⟨⟨by decide +kernel, by decide +kernel⟩, List.mem_of_getElem? (i := 887) (by decide +kernel), List.mem_of_getElem? (i := 1006) (by decide +kernel), List.mem_of_getElem? (i := 1007) (by decide +kernel)⟩
theorem lw_p42 : lw_okq (⟨"ScrewLeftModel", "mayBeUndone", "(I)Z"⟩, 25) := ⟨⟨by decide +kernel, by decide +kernel⟩, List.mem_of_getElem? (i := 887) (by decide +kernel), List.mem_of_getElem? (i := 1010) (by decide +kernel), List.mem_of_getElem? (i := 1011) (by decide +kernel)⟩
theorem lw_p43 : lw_okq (⟨"ScrewLeftModel", "isNever", "(I)Z"⟩, 25) := ⟨⟨by decide +kernel, by decide +kernel⟩, List.mem_of_getElem? (i := 887) (by decide +kernel), List.mem_of_getElem? (i := 1014) (by decide +kernel), List.mem_of_getElem? (i := 1015) (by decide +kernel)⟩
theorem lw_p44 : lw_okq (⟨"ScrewLeftModel", "needing", "(I)I"⟩, 25) := ⟨⟨by decide +kernel, by decide +kernel⟩, List.mem_of_getElem? (i := 887) (by decide +kernel), List.mem_of_getElem? (i := 1018) (by decide +kernel), List.mem_of_getElem? (i := 1019) (by decide +kernel)⟩
theorem lw_p45 : lw_okq (⟨"ScrewLeftModel", "lastsOf", "(I)I"⟩, 25) := ⟨⟨by decide +kernel, by decide +kernel⟩, List.mem_of_getElem? (i := 887) (by decide +kernel), List.mem_of_getElem? (i := 1022) (by decide +kernel), List.mem_of_getElem? (i := 1023) (by decide +kernel)⟩
theorem lw_p46 : lw_okq (⟨"ScrewLeftModel", "tired", "()I"⟩, 25) := ⟨⟨by decide +kernel, by decide +kernel⟩, List.mem_of_getElem? (i := 887) (by decide +kernel), List.mem_of_getElem? (i := 1026) (by decide +kernel), List.mem_of_getElem? (i := 1027) (by decide +kernel)⟩
theorem lw_p47 : lw_okq (⟨"ScrewLeftModel", "gives", "(IIII)I"⟩, 25) := ⟨⟨by decide +kernel, by decide +kernel⟩, List.mem_of_getElem? (i := 887) (by decide +kernel), List.mem_of_getElem? (i := 1033) (by decide +kernel), List.mem_of_getElem? (i := 1034) (by decide +kernel)⟩
def lw_privs_3 : List (MethodName × Nat) := [(⟨"ScrewLeft$Job", "screwsOf", "(I)I"⟩, 18), (⟨"ScrewLeft$Voice", "start", "(II)V"⟩, 4), (⟨"ScrewLeft$Voice", "begins", "(I)V"⟩, 4), (⟨"ScrewLeft", "standThere", "(III)Z"⟩, 13), (⟨"ScrewLeftModel", "error", "(I)I"⟩, 25), (⟨"ScrewLeftModel", "lets", "(III)V"⟩, 25), (⟨"ScrewLeftModel", "isStep", "(I)Z"⟩, 25), (⟨"ScrewLeftModel", "of", "(II)I"⟩, 25), (⟨"ScrewLeftModel", "mayBeDone", "(I)Z"⟩, 25), (⟨"ScrewLeftModel", "done", "()I"⟩, 25), (⟨"ScrewLeftModel", "mayBeUndone", "(I)Z"⟩, 25), (⟨"ScrewLeftModel", "isNever", "(I)Z"⟩, 25), (⟨"ScrewLeftModel", "needing", "(I)I"⟩, 25), (⟨"ScrewLeftModel", "lastsOf", "(I)I"⟩, 25), (⟨"ScrewLeftModel", "tired", "()I"⟩, 25), (⟨"ScrewLeftModel", "gives", "(IIII)I"⟩, 25)]
theorem lw_r3 : ∀ q ∈ lw_privs_3, lw_okq q := List.forall_mem_cons.mpr ⟨lw_p32, List.forall_mem_cons.mpr ⟨lw_p33, List.forall_mem_cons.mpr ⟨lw_p34, List.forall_mem_cons.mpr ⟨lw_p35, List.forall_mem_cons.mpr ⟨lw_p36, List.forall_mem_cons.mpr ⟨lw_p37, List.forall_mem_cons.mpr ⟨lw_p38, List.forall_mem_cons.mpr ⟨lw_p39, List.forall_mem_cons.mpr ⟨lw_p40, List.forall_mem_cons.mpr ⟨lw_p41, List.forall_mem_cons.mpr ⟨lw_p42, List.forall_mem_cons.mpr ⟨lw_p43, List.forall_mem_cons.mpr ⟨lw_p44, List.forall_mem_cons.mpr ⟨lw_p45, List.forall_mem_cons.mpr ⟨lw_p46, List.forall_mem_cons.mpr ⟨lw_p47, fun _ h => absurd h List.not_mem_nil⟩⟩⟩⟩⟩⟩⟩⟩⟩⟩⟩⟩⟩⟩⟩⟩
theorem lw_p48 : lw_okq (⟨"ScrewLeftModel", "works", "(I)I"⟩, 25) := ⟨⟨by decide +kernel, by decide +kernel⟩, List.mem_of_getElem? (i := 887) (by decide +kernel), List.mem_of_getElem? (i := 1037) (by decide +kernel), List.mem_of_getElem? (i := 1038) (by decide +kernel)⟩
theorem lw_p49 : lw_okq (⟨"ScrewLeftModel", "backOf", "(I)I"⟩, 25) := ⟨⟨by decide +kernel, by decide +kernel⟩, List.mem_of_getElem? (i := 887) (by decide +kernel), List.mem_of_getElem? (i := 1044) (by decide +kernel), List.mem_of_getElem? (i := 1045) (by decide +kernel)⟩
theorem lw_p50 : lw_okq (⟨"ScrewLeftModel", "becomes", "(II)I"⟩, 25) := ⟨⟨by decide +kernel, by decide +kernel⟩, List.mem_of_getElem? (i := 887) (by decide +kernel), List.mem_of_getElem? (i := 1053) (by decide +kernel), List.mem_of_getElem? (i := 1054) (by decide +kernel)⟩
theorem lw_p51 : lw_okq (⟨"ScrewLeftModel", "ored", "()V"⟩, 25) := ⟨⟨by decide +kernel, by decide +kernel⟩, List.mem_of_getElem? (i := 887) (by decide +kernel), List.mem_of_getElem? (i := 1080) (by decide +kernel), List.mem_of_getElem? (i := 1081) (by decide +kernel)⟩
theorem lw_p52 : lw_okq (⟨"ScrewLeftModel", "anded", "()V"⟩, 25) := ⟨⟨by decide +kernel, by decide +kernel⟩, List.mem_of_getElem? (i := 887) (by decide +kernel), List.mem_of_getElem? (i := 1084) (by decide +kernel), List.mem_of_getElem? (i := 1085) (by decide +kernel)⟩
theorem lw_p53 : lw_okq (⟨"ScrewLeftModel", "compares", "()V"⟩, 25) := ⟨⟨by decide +kernel, by decide +kernel⟩, List.mem_of_getElem? (i := 887) (by decide +kernel), List.mem_of_getElem? (i := 1088) (by decide +kernel), List.mem_of_getElem? (i := 1089) (by decide +kernel)⟩
theorem lw_p54 : lw_okq (⟨"ScrewLeftModel", "sum", "()V"⟩, 25) := ⟨⟨by decide +kernel, by decide +kernel⟩, List.mem_of_getElem? (i := 887) (by decide +kernel), List.mem_of_getElem? (i := 1092) (by decide +kernel), List.mem_of_getElem? (i := 1093) (by decide +kernel)⟩
theorem lw_p55 : lw_okq (⟨"ScrewLeftModel", "times", "()V"⟩, 25) := ⟨⟨by decide +kernel, by decide +kernel⟩, List.mem_of_getElem? (i := 887) (by decide +kernel), List.mem_of_getElem? (i := 1096) (by decide +kernel), List.mem_of_getElem? (i := 1097) (by decide +kernel)⟩
theorem lw_p56 : lw_okq (⟨"ScrewLeftModel", "pieceHere", "()V"⟩, 25) := ⟨⟨by decide +kernel, by decide +kernel⟩, List.mem_of_getElem? (i := 887) (by decide +kernel), List.mem_of_getElem? (i := 1100) (by decide +kernel), List.mem_of_getElem? (i := 1101) (by decide +kernel)⟩
theorem lw_p57 : lw_okq (⟨"ScrewLeftModel", "byteHere", "()I"⟩, 25) := ⟨⟨by decide +kernel, by decide +kernel⟩, List.mem_of_getElem? (i := 887) (by decide +kernel), List.mem_of_getElem? (i := 1104) (by decide +kernel), List.mem_of_getElem? (i := 1105) (by decide +kernel)⟩
theorem lw_p58 : lw_okq (⟨"ScrewLeftModel", "nameOf", "(I)I"⟩, 25) := ⟨⟨by decide +kernel, by decide +kernel⟩, List.mem_of_getElem? (i := 887) (by decide +kernel), List.mem_of_getElem? (i := 1108) (by decide +kernel), List.mem_of_getElem? (i := 1109) (by decide +kernel)⟩
theorem lw_p59 : lw_okq (⟨"ScrewLeftModel", "lays", "(II)V"⟩, 25) := ⟨⟨by decide +kernel, by decide +kernel⟩, List.mem_of_getElem? (i := 887) (by decide +kernel), List.mem_of_getElem? (i := 1112) (by decide +kernel), List.mem_of_getElem? (i := 1113) (by decide +kernel)⟩
theorem lw_p60 : lw_okq (⟨"ScrewLeftModel", "opensBy", "(I)V"⟩, 25) := ⟨⟨by decide +kernel, by decide +kernel⟩, List.mem_of_getElem? (i := 887) (by decide +kernel), List.mem_of_getElem? (i := 1116) (by decide +kernel), List.mem_of_getElem? (i := 1117) (by decide +kernel)⟩
theorem lw_p61 : lw_okq (⟨"ScrewLeftModel", "number", "()V"⟩, 25) := ⟨⟨by decide +kernel, by decide +kernel⟩, List.mem_of_getElem? (i := 887) (by decide +kernel), List.mem_of_getElem? (i := 1120) (by decide +kernel), List.mem_of_getElem? (i := 1121) (by decide +kernel)⟩
theorem lw_p62 : lw_okq (⟨"ScrewLeftModel", "isDone", "(I)V"⟩, 25) := ⟨⟨by decide +kernel, by decide +kernel⟩, List.mem_of_getElem? (i := 887) (by decide +kernel), List.mem_of_getElem? (i := 1132) (by decide +kernel), List.mem_of_getElem? (i := 1133) (by decide +kernel)⟩
theorem lw_p63 : lw_okq (⟨"ScrewLeftModel", "errsOf", "(II)I"⟩, 25) := ⟨⟨by decide +kernel, by decide +kernel⟩, List.mem_of_getElem? (i := 887) (by decide +kernel), List.mem_of_getElem? (i := 1136) (by decide +kernel), List.mem_of_getElem? (i := 1137) (by decide +kernel)⟩
def lw_privs_4 : List (MethodName × Nat) := [(⟨"ScrewLeftModel", "works", "(I)I"⟩, 25), (⟨"ScrewLeftModel", "backOf", "(I)I"⟩, 25), (⟨"ScrewLeftModel", "becomes", "(II)I"⟩, 25), (⟨"ScrewLeftModel", "ored", "()V"⟩, 25), (⟨"ScrewLeftModel", "anded", "()V"⟩, 25), (⟨"ScrewLeftModel", "compares", "()V"⟩, 25), (⟨"ScrewLeftModel", "sum", "()V"⟩, 25), (⟨"ScrewLeftModel", "times", "()V"⟩, 25), (⟨"ScrewLeftModel", "pieceHere", "()V"⟩, 25), (⟨"ScrewLeftModel", "byteHere", "()I"⟩, 25), (⟨"ScrewLeftModel", "nameOf", "(I)I"⟩, 25), (⟨"ScrewLeftModel", "lays", "(II)V"⟩, 25), (⟨"ScrewLeftModel", "opensBy", "(I)V"⟩, 25), (⟨"ScrewLeftModel", "number", "()V"⟩, 25), (⟨"ScrewLeftModel", "isDone", "(I)V"⟩, 25), (⟨"ScrewLeftModel", "errsOf", "(II)I"⟩, 25)]
theorem lw_r4 : ∀ q ∈ lw_privs_4, lw_okq q := List.forall_mem_cons.mpr ⟨lw_p48, List.forall_mem_cons.mpr ⟨lw_p49, List.forall_mem_cons.mpr ⟨lw_p50, List.forall_mem_cons.mpr ⟨lw_p51, List.forall_mem_cons.mpr ⟨lw_p52, List.forall_mem_cons.mpr ⟨lw_p53, List.forall_mem_cons.mpr ⟨lw_p54, List.forall_mem_cons.mpr ⟨lw_p55, List.forall_mem_cons.mpr ⟨lw_p56, List.forall_mem_cons.mpr ⟨lw_p57, List.forall_mem_cons.mpr ⟨lw_p58, List.forall_mem_cons.mpr ⟨lw_p59, List.forall_mem_cons.mpr ⟨lw_p60, List.forall_mem_cons.mpr ⟨lw_p61, List.forall_mem_cons.mpr ⟨lw_p62, List.forall_mem_cons.mpr ⟨lw_p63, fun _ h => absurd h List.not_mem_nil⟩⟩⟩⟩⟩⟩⟩⟩⟩⟩⟩⟩⟩⟩⟩⟩
theorem lw_p64 : lw_okq (⟨"ScrewLeftModel", "isUndone", "(I)V"⟩, 25) := ⟨⟨by decide +kernel, by decide +kernel⟩, List.mem_of_getElem? (i := 887) (by decide +kernel), List.mem_of_getElem? (i := 1144) (by decide +kernel), List.mem_of_getElem? (i := 1145) (by decide +kernel)⟩
theorem lw_p65 : lw_okq (⟨"ScrewLeftModel", "drawn", "()I"⟩, 25) := ⟨⟨by decide +kernel, by decide +kernel⟩, List.mem_of_getElem? (i := 887) (by decide +kernel), List.mem_of_getElem? (i := 1152) (by decide +kernel), List.mem_of_getElem? (i := 1153) (by decide +kernel)⟩
theorem lw_p66 : lw_okq (⟨"ScrewLeftModel", "draw", "()I"⟩, 25) := ⟨⟨by decide +kernel, by decide +kernel⟩, List.mem_of_getElem? (i := 887) (by decide +kernel), List.mem_of_getElem? (i := 1156) (by decide +kernel), List.mem_of_getElem? (i := 1157) (by decide +kernel)⟩
theorem lw_p67 : lw_okq (⟨"ScrewLeftModel", "mays", "()I"⟩, 25) := ⟨⟨by decide +kernel, by decide +kernel⟩, List.mem_of_getElem? (i := 887) (by decide +kernel), List.mem_of_getElem? (i := 1165) (by decide +kernel), List.mem_of_getElem? (i := 1166) (by decide +kernel)⟩
theorem lw_p68 : lw_okq (⟨"ScrewLeftModel", "thinks", "()V"⟩, 25) := ⟨⟨by decide +kernel, by decide +kernel⟩, List.mem_of_getElem? (i := 887) (by decide +kernel), List.mem_of_getElem? (i := 1173) (by decide +kernel), List.mem_of_getElem? (i := 1174) (by decide +kernel)⟩
theorem lw_p69 : lw_okq (⟨"ScrewLeftModel", "doesNext", "()Z"⟩, 25) := ⟨⟨by decide +kernel, by decide +kernel⟩, List.mem_of_getElem? (i := 887) (by decide +kernel), List.mem_of_getElem? (i := 1180) (by decide +kernel), List.mem_of_getElem? (i := 1181) (by decide +kernel)⟩
theorem lw_p70 : lw_okq (⟨"ScrewLeftModel", "wrongs", "()I"⟩, 25) := ⟨⟨by decide +kernel, by decide +kernel⟩, List.mem_of_getElem? (i := 887) (by decide +kernel), List.mem_of_getElem? (i := 1187) (by decide +kernel), List.mem_of_getElem? (i := 1188) (by decide +kernel)⟩
theorem lw_p71 : lw_okq (⟨"ScrewLeftModel", "putsBack", "()V"⟩, 25) := ⟨⟨by decide +kernel, by decide +kernel⟩, List.mem_of_getElem? (i := 887) (by decide +kernel), List.mem_of_getElem? (i := 1191) (by decide +kernel), List.mem_of_getElem? (i := 1192) (by decide +kernel)⟩
theorem lw_p72 : lw_okq (⟨"ScrewLeftModel", "tries", "(II)V"⟩, 25) := ⟨⟨by decide +kernel, by decide +kernel⟩, List.mem_of_getElem? (i := 887) (by decide +kernel), List.mem_of_getElem? (i := 1199) (by decide +kernel), List.mem_of_getElem? (i := 1200) (by decide +kernel)⟩
theorem lw_p73 : lw_okq (⟨"ScrewLeftModel", "laysAside", "(I)V"⟩, 25) := ⟨⟨by decide +kernel, by decide +kernel⟩, List.mem_of_getElem? (i := 887) (by decide +kernel), List.mem_of_getElem? (i := 1203) (by decide +kernel), List.mem_of_getElem? (i := 1204) (by decide +kernel)⟩
theorem lw_p74 : lw_okq (⟨"ScrewLeftModel", "takesBack", "(I)V"⟩, 25) := ⟨⟨by decide +kernel, by decide +kernel⟩, List.mem_of_getElem? (i := 887) (by decide +kernel), List.mem_of_getElem? (i := 1207) (by decide +kernel), List.mem_of_getElem? (i := 1208) (by decide +kernel)⟩
theorem lw_p75 : lw_okq (⟨"ScrewLeftModel", "underOf", "(I)I"⟩, 25) := ⟨⟨by decide +kernel, by decide +kernel⟩, List.mem_of_getElem? (i := 887) (by decide +kernel), List.mem_of_getElem? (i := 1216) (by decide +kernel), List.mem_of_getElem? (i := 1217) (by decide +kernel)⟩
theorem lw_p76 : lw_okq (⟨"ScrewLeftModel", "goingBack", "(I)I"⟩, 25) := ⟨⟨by decide +kernel, by decide +kernel⟩, List.mem_of_getElem? (i := 887) (by decide +kernel), List.mem_of_getElem? (i := 1224) (by decide +kernel), List.mem_of_getElem? (i := 1225) (by decide +kernel)⟩
theorem lw_p77 : lw_okq (⟨"ScrewLeftModel", "isBlocked", "(I)Z"⟩, 25) := ⟨⟨by decide +kernel, by decide +kernel⟩, List.mem_of_getElem? (i := 887) (by decide +kernel), List.mem_of_getElem? (i := 1228) (by decide +kernel), List.mem_of_getElem? (i := 1229) (by decide +kernel)⟩
theorem lw_p78 : lw_okq (⟨"ScrewLeftModel", "screwsOf", "(I)I"⟩, 25) := ⟨⟨by decide +kernel, by decide +kernel⟩, List.mem_of_getElem? (i := 887) (by decide +kernel), List.mem_of_getElem? (i := 1240) (by decide +kernel), List.mem_of_getElem? (i := 1241) (by decide +kernel)⟩
theorem lw_p79 : lw_okq (⟨"ScrewLeftModel", "fitsOn", "(II)V"⟩, 25) := ⟨⟨by decide +kernel, by decide +kernel⟩, List.mem_of_getElem? (i := 887) (by decide +kernel), List.mem_of_getElem? (i := 1255) (by decide +kernel), List.mem_of_getElem? (i := 1256) (by decide +kernel)⟩
def lw_privs_5 : List (MethodName × Nat) := [(⟨"ScrewLeftModel", "isUndone", "(I)V"⟩, 25), (⟨"ScrewLeftModel", "drawn", "()I"⟩, 25), (⟨"ScrewLeftModel", "draw", "()I"⟩, 25), (⟨"ScrewLeftModel", "mays", "()I"⟩, 25), (⟨"ScrewLeftModel", "thinks", "()V"⟩, 25), (⟨"ScrewLeftModel", "doesNext", "()Z"⟩, 25), (⟨"ScrewLeftModel", "wrongs", "()I"⟩, 25), (⟨"ScrewLeftModel", "putsBack", "()V"⟩, 25), (⟨"ScrewLeftModel", "tries", "(II)V"⟩, 25), (⟨"ScrewLeftModel", "laysAside", "(I)V"⟩, 25), (⟨"ScrewLeftModel", "takesBack", "(I)V"⟩, 25), (⟨"ScrewLeftModel", "underOf", "(I)I"⟩, 25), (⟨"ScrewLeftModel", "goingBack", "(I)I"⟩, 25), (⟨"ScrewLeftModel", "isBlocked", "(I)Z"⟩, 25), (⟨"ScrewLeftModel", "screwsOf", "(I)I"⟩, 25), (⟨"ScrewLeftModel", "fitsOn", "(II)V"⟩, 25)]
theorem lw_r5 : ∀ q ∈ lw_privs_5, lw_okq q := List.forall_mem_cons.mpr ⟨lw_p64, List.forall_mem_cons.mpr ⟨lw_p65, List.forall_mem_cons.mpr ⟨lw_p66, List.forall_mem_cons.mpr ⟨lw_p67, List.forall_mem_cons.mpr ⟨lw_p68, List.forall_mem_cons.mpr ⟨lw_p69, List.forall_mem_cons.mpr ⟨lw_p70, List.forall_mem_cons.mpr ⟨lw_p71, List.forall_mem_cons.mpr ⟨lw_p72, List.forall_mem_cons.mpr ⟨lw_p73, List.forall_mem_cons.mpr ⟨lw_p74, List.forall_mem_cons.mpr ⟨lw_p75, List.forall_mem_cons.mpr ⟨lw_p76, List.forall_mem_cons.mpr ⟨lw_p77, List.forall_mem_cons.mpr ⟨lw_p78, List.forall_mem_cons.mpr ⟨lw_p79, fun _ h => absurd h List.not_mem_nil⟩⟩⟩⟩⟩⟩⟩⟩⟩⟩⟩⟩⟩⟩⟩⟩
theorem lw_p80 : lw_okq (⟨"ScrewLeftModel", "fits", "(II)I"⟩, 25) := ⟨⟨by decide +kernel, by decide +kernel⟩, List.mem_of_getElem? (i := 887) (by decide +kernel), List.mem_of_getElem? (i := 1271) (by decide +kernel), List.mem_of_getElem? (i := 1272) (by decide +kernel)⟩
theorem lw_p81 : lw_okq (⟨"ScrewLeftModel", "begins", "(I)V"⟩, 25) := ⟨⟨by decide +kernel, by decide +kernel⟩, List.mem_of_getElem? (i := 887) (by decide +kernel), List.mem_of_getElem? (i := 1275) (by decide +kernel), List.mem_of_getElem? (i := 1276) (by decide +kernel)⟩
theorem lw_p82 : lw_okq (⟨"ScrewLeftModel", "plainFits", "(II)I"⟩, 25) := ⟨⟨by decide +kernel, by decide +kernel⟩, List.mem_of_getElem? (i := 887) (by decide +kernel), List.mem_of_getElem? (i := 1279) (by decide +kernel), List.mem_of_getElem? (i := 1280) (by decide +kernel)⟩
theorem lw_p83 : lw_okq (⟨"ScrewLeftModel", "errs", "(II)I"⟩, 25) := ⟨⟨by decide +kernel, by decide +kernel⟩, List.mem_of_getElem? (i := 887) (by decide +kernel), List.mem_of_getElem? (i := 1283) (by decide +kernel), List.mem_of_getElem? (i := 1284) (by decide +kernel)⟩
theorem lw_p84 : lw_okq (⟨"ScrewLeftModel", "gluedErrs", "(II)I"⟩, 25) := ⟨⟨by decide +kernel, by decide +kernel⟩, List.mem_of_getElem? (i := 887) (by decide +kernel), List.mem_of_getElem? (i := 1287) (by decide +kernel), List.mem_of_getElem? (i := 1288) (by decide +kernel)⟩
theorem lw_p85 : lw_okq (⟨"ScrewLeftModel", "plainErrs", "(II)I"⟩, 25) := ⟨⟨by decide +kernel, by decide +kernel⟩, List.mem_of_getElem? (i := 887) (by decide +kernel), List.mem_of_getElem? (i := 1291) (by decide +kernel), List.mem_of_getElem? (i := 1292) (by decide +kernel)⟩
theorem lw_p86 : lw_okq (⟨"ScrewLeftModel", "looks", "(II)I"⟩, 25) := ⟨⟨by decide +kernel, by decide +kernel⟩, List.mem_of_getElem? (i := 887) (by decide +kernel), List.mem_of_getElem? (i := 1295) (by decide +kernel), List.mem_of_getElem? (i := 1296) (by decide +kernel)⟩
theorem lw_p87 : lw_okq (⟨"ScrewLeftModel", "heldLooks", "(II)I"⟩, 25) := ⟨⟨by decide +kernel, by decide +kernel⟩, List.mem_of_getElem? (i := 887) (by decide +kernel), List.mem_of_getElem? (i := 1299) (by decide +kernel), List.mem_of_getElem? (i := 1300) (by decide +kernel)⟩
theorem lw_p88 : lw_okq (⟨"ScrewLeftModel", "plainLooks", "(II)I"⟩, 25) := ⟨⟨by decide +kernel, by decide +kernel⟩, List.mem_of_getElem? (i := 887) (by decide +kernel), List.mem_of_getElem? (i := 1303) (by decide +kernel), List.mem_of_getElem? (i := 1304) (by decide +kernel)⟩
theorem lw_p89 : lw_okq (⟨"ScrewLeftModel", "undoes", "(II)I"⟩, 25) := ⟨⟨by decide +kernel, by decide +kernel⟩, List.mem_of_getElem? (i := 887) (by decide +kernel), List.mem_of_getElem? (i := 1307) (by decide +kernel), List.mem_of_getElem? (i := 1308) (by decide +kernel)⟩
theorem lw_p90 : lw_okq (⟨"ScrewLeftModel", "plainUndoes", "(II)I"⟩, 25) := ⟨⟨by decide +kernel, by decide +kernel⟩, List.mem_of_getElem? (i := 887) (by decide +kernel), List.mem_of_getElem? (i := 1311) (by decide +kernel), List.mem_of_getElem? (i := 1312) (by decide +kernel)⟩
theorem lw_p91 : lw_okq (⟨"ScrewLeftModel", "notThere", "(I)I"⟩, 25) := ⟨⟨by decide +kernel, by decide +kernel⟩, List.mem_of_getElem? (i := 887) (by decide +kernel), List.mem_of_getElem? (i := 1327) (by decide +kernel), List.mem_of_getElem? (i := 1328) (by decide +kernel)⟩
theorem lw_p92 : lw_okq (⟨"ScrewLeftModel", "notMoved", "(IIIII)I"⟩, 25) := ⟨⟨by decide +kernel, by decide +kernel⟩, List.mem_of_getElem? (i := 887) (by decide +kernel), List.mem_of_getElem? (i := 1335) (by decide +kernel), List.mem_of_getElem? (i := 1336) (by decide +kernel)⟩
def lw_privs_6 : List (MethodName × Nat) := [(⟨"ScrewLeftModel", "fits", "(II)I"⟩, 25), (⟨"ScrewLeftModel", "begins", "(I)V"⟩, 25), (⟨"ScrewLeftModel", "plainFits", "(II)I"⟩, 25), (⟨"ScrewLeftModel", "errs", "(II)I"⟩, 25), (⟨"ScrewLeftModel", "gluedErrs", "(II)I"⟩, 25), (⟨"ScrewLeftModel", "plainErrs", "(II)I"⟩, 25), (⟨"ScrewLeftModel", "looks", "(II)I"⟩, 25), (⟨"ScrewLeftModel", "heldLooks", "(II)I"⟩, 25), (⟨"ScrewLeftModel", "plainLooks", "(II)I"⟩, 25), (⟨"ScrewLeftModel", "undoes", "(II)I"⟩, 25), (⟨"ScrewLeftModel", "plainUndoes", "(II)I"⟩, 25), (⟨"ScrewLeftModel", "notThere", "(I)I"⟩, 25), (⟨"ScrewLeftModel", "notMoved", "(IIIII)I"⟩, 25)]
theorem lw_r6 : ∀ q ∈ lw_privs_6, lw_okq q := List.forall_mem_cons.mpr ⟨lw_p80, List.forall_mem_cons.mpr ⟨lw_p81, List.forall_mem_cons.mpr ⟨lw_p82, List.forall_mem_cons.mpr ⟨lw_p83, List.forall_mem_cons.mpr ⟨lw_p84, List.forall_mem_cons.mpr ⟨lw_p85, List.forall_mem_cons.mpr ⟨lw_p86, List.forall_mem_cons.mpr ⟨lw_p87, List.forall_mem_cons.mpr ⟨lw_p88, List.forall_mem_cons.mpr ⟨lw_p89, List.forall_mem_cons.mpr ⟨lw_p90, List.forall_mem_cons.mpr ⟨lw_p91, List.forall_mem_cons.mpr ⟨lw_p92, fun _ h => absurd h List.not_mem_nil⟩⟩⟩⟩⟩⟩⟩⟩⟩⟩⟩⟩⟩
def lw_privs : List (MethodName × Nat) := lw_privs_1 ++ (lw_privs_2 ++ (lw_privs_3 ++ (lw_privs_4 ++ (lw_privs_5 ++ (lw_privs_6)))))
def lw_tbl : List Cond := k2_sels lw_privs ++ tables_1
theorem lw_privs_ok : ∀ q ∈ lw_privs, lw_okq q := by
  show ∀ q ∈ lw_privs_1 ++ (lw_privs_2 ++ (lw_privs_3 ++ (lw_privs_4 ++ (lw_privs_5 ++ (lw_privs_6))))), lw_okq q
  exact List.forall_mem_append.mpr ⟨lw_r1, List.forall_mem_append.mpr ⟨lw_r2, List.forall_mem_append.mpr ⟨lw_r3, List.forall_mem_append.mpr ⟨lw_r4, List.forall_mem_append.mpr ⟨lw_r5, lw_r6⟩⟩⟩⟩⟩
end
section
/-! THE ABSTRACT MACHINE: a state is (pc, locals, stack, world, cells made, slots made); references are places in the world, or special ones from ab_B on; a call is one step -/
abbrev ab_C : Type := (Nat × List Value) ⊕ (List Int32 ⊕ (Nat × List (Option Nat)))
abbrev ab_W : Type := List ab_C
abbrev ab_Lo : Type := List (Nat × Value)
abbrev ab_I : Type := Instr × Nat
abbrev ab_T : Type := List (List (Option ab_I))
/-- name, code, locals, answer, cells made, slots made, places of its words, instructions -/
abbrev ab_M : Type := MethodName × ByteArray × Nat × Option FieldType × Nat × Nat × (Nat × Nat × Nat) × ab_T
/-- a field: own class, index, class, place, mode (0 own, 1 nest mate), type (0 int, 1 boolean, 2 reference), place of its word -/
abbrev ab_F : Type := String × Nat × Nat × Nat × Nat × Nat × Nat
/-- a call: own class, index, kind, name, arguments, places (its word, 'sameMethod', the declarer's method), targets (class, method, place of 'selects') -/
abbrev ab_G : Type := String × Nat × Nat × MethodName × Nat × (Nat × Nat × Nat) × List (Nat × Nat × Nat)
/-- a constant: own class, index, value, place of its word -/
abbrev ab_K : Type := String × Nat × Value × Nat
/-- a class named: own class, index, class (or type of array), place of its word, place of 'instantiable' -/
abbrev ab_N : Type := String × Nat × Nat × Nat × Nat
abbrev ab_TB : Type := List ab_F × List ab_G × List ab_K × List ab_N × List ab_M × List vw_C × List (List Value)
abbrev ab_St : Type := Nat × ab_Lo × List Value × ab_W × Nat × Nat
abbrev ab_R : Type := Option Value × ab_W
abbrev ab_Cf : Type := Nat → List Value → ab_W → Option ab_R
def ab_B : Nat := 1000000
def ab_nth {α : Type} : List α → Nat → Option α
  | [], _ => none
  | a :: _, 0 => some a
  | _ :: l, n + 1 => ab_nth l n
theorem ab_nth_eq {α : Type} (l : List α) (n : Nat) : ab_nth l n = l[n]? := by
  induction l generalizing n with
  | nil => simp [ab_nth]
  | cons a l ih =>
    cases n with
    | zero => simp [ab_nth]
    | succ n => simp [ab_nth, ih]
def ab_fetch (t : ab_T) (pc : Nat) : Option ab_I := match ab_nth t (pc / 16) with
  | none => none
  | some c => match ab_nth c (pc % 16) with
    | none => none
    | some x => x
def ab_len (ins : Instr) : Nat := match ins with
  | .bipush _ => 2
  | .sipush _ => 3
  | .ldc _ => 2
  | .ldc_w _ => 3
  | .ldc2_w _ => 3
  | .iload _ => 2
  | .aload _ => 2
  | .istore _ => 2
  | .astore _ => 2
  | .iinc _ _ => 3
  | .ifCond _ _ => 3
  | .if_icmp _ _ => 3
  | .goto _ => 3
  | .getfield _ => 3
  | .putfield _ => 3
  | .getstatic _ => 3
  | .invokevirtual _ => 3
  | .invokespecial _ => 3
  | .invokestatic _ => 3
  | .new _ => 3
  | .newarray _ => 2
  | .anewarray _ => 3
  | .multianewarray _ _ => 4
  | _ => 1
-- what needs the stack alone
def ab_i1 (f : Int32 → Value) (st : List Value) : Option (List Value) := match st with
  | .int x :: r => some (f x :: r)
  | _ => none
def ab_i2 (f : Int32 → Int32 → Value) (st : List Value) : Option (List Value) := match st with
  | .int y :: .int x :: r => some (f x y :: r)
  | _ => none
def ab_d2 (f : Int32 → Int32 → Value) (st : List Value) : Option (List Value) := match st with
  | .int y :: .int x :: r => cond (decide (y = 0)) none (some (f x y :: r))
  | _ => none
def ab_l2 (f : Int64 → Int64 → Value) (st : List Value) : Option (List Value) := match st with
  | .long y :: .long x :: r => some (f x y :: r)
  | _ => none
def ab_ls (f : Int64 → Int32 → Value) (st : List Value) : Option (List Value) := match st with
  | .int y :: .long x :: r => some (f x y :: r)
  | _ => none
def ab_l1 (f : Int64 → Value) (st : List Value) : Option (List Value) := match st with
  | .long x :: r => some (f x :: r)
  | _ => none
def ab_one (v : Value) : Bool := match v with
  | .long _ => false
  | .double _ => false
  | _ => true
def ab_pure (ins : Instr) (st : List Value) : Option (List Value) := match ins with
  | .iconst n => some (.int (Int32.ofInt n) :: st)
  | .bipush n => some (.int (Int8.ofInt n).toInt32 :: st)
  | .sipush n => some (.int (Int16.ofInt n).toInt32 :: st)
  | .dup => match st with
    | v :: r => cond (ab_one v) (some (v :: v :: r)) none
    | _ => none
  | .pop => match st with
    | v :: r => cond (ab_one v) (some r) none
    | _ => none
  | .dup2 => match st with
    | v :: u :: r => cond (ab_one v && ab_one u) (some (v :: u :: v :: u :: r)) none
    | _ => none
  | .iadd => ab_i2 (fun x y => .int (x + y)) st
  | .isub => ab_i2 (fun x y => .int (x - y)) st
  | .imul => ab_i2 (fun x y => .int (x * y)) st
  | .idiv => ab_d2 (fun x y => .int (x / y)) st
  | .irem => ab_d2 (fun x y => .int (x - x / y * y)) st
  | .ineg => ab_i1 (fun x => .int (-x)) st
  | .iand => ab_i2 (fun x y => .int (x &&& y)) st
  | .ior => ab_i2 (fun x y => .int (x ||| y)) st
  | .ixor => ab_i2 (fun x y => .int (x ^^^ y)) st
  | .ishl => ab_i2 (fun x y => .int (x <<< (y &&& 31))) st
  | .ishr => ab_i2 (fun x y => .int (x >>> (y &&& 31))) st
  | .iushr => ab_i2 (fun x y => .int ((x.toUInt32 >>> (y.toUInt32 &&& Int32.toUInt32 31)).toInt32)) st
  | .i2l => ab_i1 (fun x => .long x.toInt64) st
  | .l2i => ab_l1 (fun x => .int x.toInt32) st
  | .i2b => ab_i1 (fun x => .int x.toInt8.toInt32) st
  | .i2s => ab_i1 (fun x => .int x.toInt16.toInt32) st
  | .i2c => ab_i1 (fun x => .int ((x.toUInt32 % 65536).toInt32)) st
  | .land => ab_l2 (fun x y => .long (x &&& y)) st
  | .lor => ab_l2 (fun x y => .long (x ||| y)) st
  | .lshl => ab_ls (fun x y => .long (x <<< (y.toInt64 &&& 63))) st
  | .lshr => ab_ls (fun x y => .long (x >>> (y.toInt64 &&& 63))) st
  | .lushr => ab_ls (fun x y => .long ((x.toUInt64 >>> (y.toInt64.toUInt64 &&& Int64.toUInt64 63)).toInt64)) st
  | _ => none
-- locals
def ab_get (L : ab_Lo) (i : Nat) : Option Value := match L with
  | [] => none
  | q :: L' => cond (Nat.beq q.1 i) (some q.2) (ab_get L' i)
def ab_up (L : ab_Lo) (i : Nat) (v : Value) : ab_Lo := (i, v) :: L.filter (fun q => !(q.1 == i) && !(q.1 + 1 == i && q.2.category == 2))
def ab_ldi (L : ab_Lo) (i : Nat) (st : List Value) : Option (ab_Lo × List Value) := match ab_get L i with
  | some (.int x) => some (L, .int x :: st)
  | _ => none
def ab_lda (L : ab_Lo) (i : Nat) (st : List Value) : Option (ab_Lo × List Value) := match ab_get L i with
  | some (.ref x) => some (L, .ref x :: st)
  | _ => none
def ab_ldl (L : ab_Lo) (i : Nat) (st : List Value) : Option (ab_Lo × List Value) := match ab_get L i with
  | some (.long x) => some (L, .long x :: st)
  | _ => none
def ab_sti (n : Nat) (L : ab_Lo) (i : Nat) (st : List Value) : Option (ab_Lo × List Value) := match st with
  | .int x :: r => cond (Nat.blt i n) (some (ab_up L i (.int x), r)) none
  | _ => none
def ab_sta (n : Nat) (L : ab_Lo) (i : Nat) (st : List Value) : Option (ab_Lo × List Value) := match st with
  | .ref x :: r => cond (Nat.blt i n) (some (ab_up L i (.ref x), r)) none
  | _ => none
def ab_loc (n : Nat) (ins : Instr) (L : ab_Lo) (st : List Value) : Option (ab_Lo × List Value) := match ins with
  | .iload i => ab_ldi L i st
  | .iload_n i => ab_ldi L i st
  | .aload i => ab_lda L i st
  | .aload_n i => ab_lda L i st
  | .lload_n i => ab_ldl L i st
  | .istore i => ab_sti n L i st
  | .istore_n i => ab_sti n L i st
  | .astore i => ab_sta n L i st
  | .astore_n i => ab_sta n L i st
  | .iinc i k => match ab_get L i with
    | some (.int x) => cond (Nat.blt i n) (some (ab_up L i (.int (x + Int32.ofInt k)), st)) none
    | _ => none
  | _ => none
-- branches
def ab_c1 (c : ClassFile.Cond) (x : Int32) : Bool := match c with
  | .eq => decide (x = 0)
  | .ne => !decide (x = 0)
  | .lt => decide (x < 0)
  | .ge => decide (0 ≤ x)
  | .gt => decide (0 < x)
  | .le => decide (x ≤ 0)
def ab_c2 (c : ClassFile.Cond) (x y : Int32) : Bool := match c with
  | .eq => decide (x = y)
  | .ne => !decide (x = y)
  | .lt => decide (x < y)
  | .ge => decide (y ≤ x)
  | .gt => decide (y < x)
  | .le => decide (x ≤ y)
def ab_tgt (pc : Nat) (off : Int) (r : List Value) : Option (Nat × List Value) :=
  cond (decide ((pc : Int) + off = (((pc : Int) + off).toNat : Int))) (some (((pc : Int) + off).toNat, r)) none
def ab_br (ins : Instr) (pc lk : Nat) (st : List Value) : Option (Nat × List Value) := match ins with
  | .goto _ => some (lk, st)
  | .ifCond c _ => match st with
    | .int x :: r => some (cond (ab_c1 c x) lk (pc + 3), r)
    | _ => none
  | .if_icmp c _ => match st with
    | .int y :: .int x :: r => some (cond (ab_c2 c x y) lk (pc + 3), r)
    | _ => none
  | .tableswitch d lo hi offs => match st with
    | .int x :: r => cond (decide (x.toInt < lo) || decide (hi < x.toInt)) (ab_tgt pc d r) (match offs[(x.toInt - lo).toNat]? with
      | some off => ab_tgt pc off r
      | none => none)
    | _ => none
  | .lookupswitch d ps => match st with
    | .int x :: r => cond ((ps.toList.zip (ps.toList.drop 1)).all (fun (a, next) => a.1 < next.1)) (ab_tgt pc (Op.lookupswitch.offset ps.toList d x.toInt) r) none
    | _ => none
  | _ => none
-- the world
def ab_cell (w : ab_W) (r : Nat) : Option ab_C := cond (Nat.ble ab_B r) none (ab_nth w r)
def ab_arr (sp : List (List Int32)) (w : ab_W) (r : Nat) : Option (List Int32) := cond (Nat.ble ab_B r) (ab_nth sp (r - ab_B)) (match ab_nth w r with
  | some (.inr (.inl xs)) => some xs
  | _ => none)
def ab_ix {α : Type} (xs : List α) (i : Int32) : Option α := cond (decide (i < 0)) none (ab_nth xs i.toNatClampNeg)
def ab_fit (tc : Nat) (v : Value) : Bool := match tc, v with
  | 0, .int _ => true
  | 1, .int x => decide (x = 0) || decide (x = 1)
  | 2, .ref _ => true
  | 2, .null => true
  | _, _ => false
/-- the bytes of the texts that are named -/
def ab_sb (i : Nat) : List Int32 := match i with
  | 0 => []
  | 1 => [115, 109, 116]
  | _ => [109, 116, 107]
def ab_isS (r : Nat) : Bool := Nat.ble (ab_B + 100) r && Nat.ble r (ab_B + 102)
def ab_isV (r : Nat) : Bool := Nat.ble (ab_B + 200) r && Nat.ble r (ab_B + 202)
def ab_heap (tb : ab_TB) (sp : List (List Int32)) (ins : Instr) (lk : Nat) (st : List Value) (w : ab_W) : Option (List Value × ab_W) := match ins with
  | .getfield _ => match st with
    | .ref r :: rest => match ab_nth tb.1 lk with
      | some f => match ab_cell w r with
        | some (.inl o) => cond (Nat.beq o.1 f.2.2.1) (match ab_nth o.2 f.2.2.2.1 with
          | some v => some (v :: rest, w)
          | none => none) none
        | _ => none
      | none => cond (ab_isS r) (some (cond (Nat.beq (lk % 2) 0) (.int 0) (.ref (r + 100)) :: rest, w)) none
    | _ => none
  | .putfield _ => match st with
    | v :: .ref r :: rest => match ab_nth tb.1 lk with
      | some f => match ab_cell w r with
        | some (.inl o) => cond (Nat.beq o.1 f.2.2.1 && ab_fit f.2.2.2.2.2.1 v) (match ab_nth o.2 f.2.2.2.1 with
          | some _ => some (rest, w.set r (.inl (o.1, o.2.set f.2.2.2.1 v)))
          | none => none) none
        | _ => none
      | none => none
    | _ => none
  | .iaload => match st with
    | .int i :: .ref r :: rest => match ab_arr sp w r with
      | some xs => match ab_ix xs i with
        | some v => some (.int v :: rest, w)
        | none => none
      | none => none
    | _ => none
  | .baload => match st with
    | .int i :: .ref r :: rest => cond (ab_isV r) (match ab_ix (ab_sb (r - (ab_B + 200))) i with
      | some v => some (.int v :: rest, w)
      | none => none) none
    | _ => none
  | .iastore => match st with
    | .int x :: .int i :: .ref r :: rest => match ab_cell w r with
      | some (.inr (.inl xs)) => match ab_ix xs i with
        | some _ => some (rest, w.set r (.inr (.inl (xs.set i.toNatClampNeg x))))
        | none => none
      | _ => none
    | _ => none
  | .aaload => match st with
    | .int i :: .ref r :: rest => match ab_cell w r with
      | some (.inr (.inr t)) => cond (Nat.blt t.1 2) (match ab_ix t.2 i with
        | some v => some (va_rf v :: rest, w)
        | none => none) none
      | _ => none
    | _ => none
  | .aastore => match st with
    | .ref v :: .int i :: .ref r :: rest => match ab_cell w r with
      | some (.inr (.inr t)) => match ab_cell w v with
        | some (.inl o) => cond (Nat.beq t.1 0 && Nat.ble o.1 6) (match ab_ix t.2 i with
          | some _ => some (rest, w.set r (.inr (.inr (t.1, t.2.set i.toNatClampNeg (some v)))))
          | none => none) none
        | _ => none
      | _ => none
    | _ => none
  | .arraylength => match st with
    | .ref r :: rest => cond (Nat.ble ab_B r) (match ab_nth sp (r - ab_B) with
      | some xs => some (.int (Int32.ofNat xs.length) :: rest, w)
      | none => cond (ab_isV r) (some (.int (Int32.ofNat (ab_sb (r - (ab_B + 200))).length) :: rest, w)) none) (match ab_nth w r with
      | some (.inr (.inl xs)) => some (.int (Int32.ofNat xs.length) :: rest, w)
      | some (.inr (.inr t)) => cond (Nat.blt t.1 2) (some (.int (Int32.ofNat t.2.length) :: rest, w)) none
      | _ => none)
    | _ => none
  | .getstatic _ => some (cond (Nat.ble ab_B lk) (.int 1) (.ref ab_B) :: st, w)
  | .ldc _ => match ab_nth tb.2.2.1 lk with
    | some k => some (k.2.2.1 :: st, w)
    | none => none
  | .ldc_w _ => match ab_nth tb.2.2.1 lk with
    | some k => some (k.2.2.1 :: st, w)
    | none => none
  | .ldc2_w _ => match ab_nth tb.2.2.1 lk with
    | some k => some (k.2.2.1 :: st, w)
    | none => none
  | _ => none
-- calls
def ab_room (st : List Value) : Bool := Nat.ble ((st.map fun v => v.category).sum) 8
def ab_okv (n : Nat) (v : Value) : Bool := match v with
  | .ref k => Nat.blt k n || Nat.ble ab_B k
  | _ => true
def ab_okc (n : Nat) (c : ab_C) : Bool := match c with
  | .inl o => o.2.all (ab_okv n)
  | .inr (.inl _) => true
  | .inr (.inr t) => t.2.all (fun o => match o with
    | some k => Nat.blt k n
    | none => true)
def ab_okL (n : Nat) (L : ab_Lo) : Bool := L.all (fun q => ab_okv n q.2)
def ab_inv (tb : ab_TB) (cf : ab_Cf) (M : ab_M) (j : Nat) (As : List Value) (L : ab_Lo) (rest : List Value) (w : ab_W) (cn sn : Nat) : Option (List Value × ab_W × Nat × Nat) := match ab_nth tb.2.2.2.2.1 j with
  | none => none
  | some Mj => cond (ab_room rest && Nat.ble (cn + Mj.2.2.2.2.1) M.2.2.2.2.1 && Nat.ble (sn + Mj.2.2.2.2.2.1) M.2.2.2.2.2.1 && (Nat.beq Mj.2.2.2.2.1 0 || (ab_okL w.length L && rest.all (ab_okv w.length)))) (match cf j As w with
    | some r => some (r.1.toList ++ rest, r.2, cn + Mj.2.2.2.2.1, sn + Mj.2.2.2.2.2.1)
    | none => none) none
def ab_look (l : List (Nat × Nat × Nat)) (c : Nat) : Option (Nat × Nat × Nat) := match l with
  | [] => none
  | q :: l' => cond (Nat.beq q.1 c) (some q) (ab_look l' c)
def ab_cpy (f g : List Int32) (sp dp n : Nat) : List Int32 := g.take dp ++ ((f.drop sp).take n ++ g.drop (dp + n))
def ab_stat (tb : ab_TB) (cf : ab_Cf) (M : ab_M) (g : ab_G) (L : ab_Lo) (st : List Value) (w : ab_W) (cn sn : Nat) : Option (List Value × ab_W × Nat × Nat) := match g.2.2.2.2.2.2 with
  | q :: _ => cond (Nat.beq (st.take g.2.2.2.2.1).length g.2.2.2.2.1) (ab_inv tb cf M q.2.1 (st.take g.2.2.2.2.1).reverse L (st.drop g.2.2.2.2.1) w cn sn) none
  | [] => none
def ab_inst (tb : ab_TB) (cf : ab_Cf) (M : ab_M) (g : ab_G) (L : ab_Lo) (st : List Value) (w : ab_W) (cn sn : Nat) : Option (List Value × ab_W × Nat × Nat) := match st.drop g.2.2.2.2.1 with
  | .ref r :: rest => match ab_cell w r with
    | some (.inl o) => match ab_look g.2.2.2.2.2.2 o.1 with
      | some q => cond (Nat.beq (st.take g.2.2.2.2.1).length g.2.2.2.2.1) (ab_inv tb cf M q.2.1 (.ref r :: (st.take g.2.2.2.2.1).reverse) L rest w cn sn) none
      | none => none
    | _ => none
  | _ => none
def ab_sinst (tb : ab_TB) (cf : ab_Cf) (M : ab_M) (g : ab_G) (L : ab_Lo) (st : List Value) (w : ab_W) (cn sn : Nat) : Option (List Value × ab_W × Nat × Nat) := match st.drop g.2.2.2.2.1 with
  | .ref r :: rest => match g.2.2.2.2.2.2 with
    | q :: _ => cond (ab_isS r && Nat.beq (st.take g.2.2.2.2.1).length g.2.2.2.2.1) (ab_inv tb cf M q.2.1 (.ref r :: (st.take g.2.2.2.2.1).reverse) L rest w cn sn) none
    | [] => none
  | _ => none
def ab_go (tb : ab_TB) (cf : ab_Cf) (M : ab_M) (lk : Nat) (L : ab_Lo) (st : List Value) (w : ab_W) (cn sn : Nat) : Option (List Value × ab_W × Nat × Nat) := match ab_nth tb.2.1 lk with
  | none => none
  | some g => match g.2.2.1 with
    | 2 => ab_stat tb cf M g L st w cn sn
    | 3 => ab_stat tb cf M g L st w cn sn
    | 6 => match st with
      | .int n :: .int dp :: .ref a :: .int sp :: .ref b :: rest => match ab_cell w a with
        | some (.inr (.inl ys)) => match ab_cell w b with
          | some (.inr (.inl xs)) => cond (ab_room rest && !decide (sp < 0) && !decide (dp < 0) && !decide (n < 0) && Nat.ble (sp.toNatClampNeg + n.toNatClampNeg) xs.length && Nat.ble (dp.toNatClampNeg + n.toNatClampNeg) ys.length)
              (some (rest, w.set a (.inr (.inl (ab_cpy xs ys sp.toNatClampNeg dp.toNatClampNeg n.toNatClampNeg))), cn, sn)) none
          | _ => none
        | _ => none
      | _ => none
    | 7 => match st with
      | .int y :: .int x :: rest => cond (ab_room rest && Nat.ble cn M.2.2.2.2.1 && Nat.ble sn M.2.2.2.2.2.1) (some (.int (if x < y then y else x) :: rest, w, cn, sn)) none
      | _ => none
    | 8 => match st with
      | .int y :: .int x :: rest => cond (ab_room rest && Nat.ble cn M.2.2.2.2.1 && Nat.ble sn M.2.2.2.2.2.1) (some (.int (if y < x then y else x) :: rest, w, cn, sn)) none
      | _ => none
    | 9 => match st with
      | .ref _ :: rest => cond (ab_room rest) (some (rest, w, cn, sn)) none
      | _ => none
    | 12 => ab_sinst tb cf M g L st w cn sn
    | 99 => none
    | _ => ab_inst tb cf M g L st w cn sn
def ab_call1 (tb : ab_TB) (cf : ab_Cf) (M : ab_M) (ins : Instr) (lk : Nat) (L : ab_Lo) (st : List Value) (w : ab_W) (cn sn : Nat) : Option (List Value × ab_W × Nat × Nat) := match ins with
  | .invokevirtual _ => ab_go tb cf M lk L st w cn sn
  | .invokespecial _ => ab_go tb cf M lk L st w cn sn
  | .invokestatic _ => ab_go tb cf M lk L st w cn sn
  | _ => none
-- making
def ab_wf (L : ab_Lo) (st : List Value) (w : ab_W) : Bool := Nat.blt (w.length + 8) ab_B && ab_okL w.length L && st.all (ab_okv w.length) && w.all (ab_okc w.length)
def ab_new (tb : ab_TB) (M : ab_M) (ins : Instr) (lk : Nat) (L : ab_Lo) (st : List Value) (w : ab_W) (cn sn : Nat) : Option (List Value × ab_W × Nat × Nat) := match ins with
  | .new _ => match ab_nth tb.2.2.2.1 lk with
    | some q => match ab_nth tb.2.2.2.2.2.2 q.2.2.1 with
      | some fs => cond (ab_wf L st w && Nat.ble (cn + 1) M.2.2.2.2.1 && Nat.ble (sn + fs.length) M.2.2.2.2.2.1) (some (.ref w.length :: st, w ++ [.inl (q.2.2.1, fs)], cn + 1, sn + fs.length)) none
      | none => none
    | none => none
  | .newarray .int => match st with
    | .int n :: r => cond (!decide (n < 0) && Nat.ble n.toNatClampNeg 100000 && ab_wf L r w && Nat.ble (cn + 1) M.2.2.2.2.1 && Nat.ble (sn + n.toNatClampNeg) M.2.2.2.2.2.1) (some (.ref w.length :: r, w ++ [.inr (.inl (List.replicate n.toNatClampNeg 0))], cn + 1, sn + n.toNatClampNeg)) none
    | _ => none
  | .anewarray _ => match st with
    | .int n :: r => cond (!decide (n < 0) && Nat.ble n.toNatClampNeg 100000 && ab_wf L r w && Nat.ble (cn + 1) M.2.2.2.2.1 && Nat.ble (sn + n.toNatClampNeg) M.2.2.2.2.2.1) (some (.ref w.length :: r, w ++ [.inr (.inr (0, List.replicate n.toNatClampNeg none))], cn + 1, sn + n.toNatClampNeg)) none
    | _ => none
  | .multianewarray _ d => match st with
    | .int k :: .int n :: r => cond (decide (k = 40) && decide (n = 4) && Nat.beq d 2 && ab_wf L r w && Nat.ble (cn + 5) M.2.2.2.2.1 && Nat.ble (sn + 164) M.2.2.2.2.2.1)
        (some (.ref w.length :: r, w ++ [.inr (.inr (1, [some (w.length + 1), some (w.length + 2), some (w.length + 3), some (w.length + 4)])), .inr (.inl (List.replicate 40 0)), .inr (.inl (List.replicate 40 0)), .inr (.inl (List.replicate 40 0)), .inr (.inl (List.replicate 40 0))], cn + 5, sn + 164)) none
    | _ => none
  | _ => none
-- the end
def ab_ret (ret : Option FieldType) (ins : Instr) (st : List Value) : Option (Option Value) := match ins with
  | .ireturn => match st with
    | [.int v] => match ret with
      | some .int => some (some (.int v))
      | some .boolean => cond (decide (v = 0) || decide (v = 1)) (some (some (.int v))) none
      | some .byte => cond (decide (v = 0)) (some (some (.int v))) none
      | _ => none
    | _ => none
  | .return_ => match st with
    | [] => match ret with
      | none => some none
      | _ => none
    | _ => none
  | .areturn => match st with
    | [.ref v] => match ret with
      | some (.object _) => some (some (.ref v))
      | some (.array _) => some (some (.ref v))
      | _ => none
    | _ => none
  | _ => none
def ab_exec (tb : ab_TB) (cf : ab_Cf) (sp : List (List Int32)) (M : ab_M) (ins : Instr) (lk pc : Nat) (L : ab_Lo) (st : List Value) (w : ab_W) (cn sn : Nat) : Option (ab_St ⊕ ab_R) :=
  match ab_pure ins st with
  | some st' => some (.inl (pc + ab_len ins, L, st', w, cn, sn))
  | none => match ab_loc M.2.2.1 ins L st with
    | some q => some (.inl (pc + ab_len ins, q.1, q.2, w, cn, sn))
    | none => match ab_br ins pc lk st with
      | some q => some (.inl (q.1, L, q.2, w, cn, sn))
      | none => match ab_heap tb sp ins lk st w with
        | some q => some (.inl (pc + ab_len ins, L, q.1, q.2, cn, sn))
        | none => match ab_call1 tb cf M ins lk L st w cn sn with
          | some q => some (.inl (pc + 3, L, q.1, q.2.1, q.2.2.1, q.2.2.2))
          | none => match ab_ret M.2.2.2.1 ins st with
            | some v => some (.inr (v, w))
            | none => match ab_new tb M ins lk L st w cn sn with
              | some q => some (.inl (pc + ab_len ins, L, q.1, q.2.1, q.2.2.1, q.2.2.2))
              | none => none
def ab_step (tb : ab_TB) (cf : ab_Cf) (sp : List (List Int32)) (M : ab_M) (σ : ab_St) : Option (ab_St ⊕ ab_R) :=
  match ab_fetch M.2.2.2.2.2.2.2 σ.1 with
  | none => none
  | some x => ab_exec tb cf sp M x.1 x.2 σ.1 σ.2.1 σ.2.2.1 σ.2.2.2.1 σ.2.2.2.2.1 σ.2.2.2.2.2
def ab_run (tb : ab_TB) (cf : ab_Cf) (sp : List (List Int32)) (M : ab_M) : Nat → ab_St → Option ab_R
  | 0, _ => none
  | n + 1, σ => match ab_step tb cf sp M σ with
    | none => none
    | some (.inl σ') => ab_run tb cf sp M n σ'
    | some (.inr r) => some r
def ab_call (tb : ab_TB) (sp : List (List Int32)) (n : Nat) : Nat → Nat → List Value → ab_W → Option ab_R
  | 0, _, _, _ => none
  | d + 1, j, As, w => match ab_nth tb.2.2.2.2.1 j with
    | none => none
    | some M => cond (Nat.ble ((As.map fun v => v.category).sum) M.2.2.1) (ab_run tb (ab_call tb sp n d) sp M n (0, lv_args 0 As, [], w, 0, 0)) none
end
section
/-! THE TABLES of the abstract machine, by program (wip/gen/gen.py) out of the claim's printed text -/
def tb_f0 : List (String × String × String × Bool) := []
def tb_f1 : List (String × String × String × Bool) := []
def tb_f2 : List (String × String × String × Bool) := []
def tb_f3 : List (String × String × String × Bool) := []
def tb_f4 : List (String × String × String × Bool) := []
def tb_f5 : List (String × String × String × Bool) := []
def tb_f6 : List (String × String × String × Bool) := []
def tb_f7 : List (String × String × String × Bool) := [("ScrewLeft$Job", "kinds", "[LScrewLeft$Step;", true), ("ScrewLeft$Job", "steps", "I", false), ("ScrewLeft$Job", "kindNumbers", "[I", true), ("ScrewLeft$Job", "numbers", "[I", true), ("ScrewLeft$Job", "screws", "[I", true), ("ScrewLeft$Job", "needs", "[I", true), ("ScrewLeft$Job", "done", "I", false), ("ScrewLeft$Job", "wrong", "I", false), ("ScrewLeft$Job", "hands", "I", false), ("ScrewLeft$Job", "bag", "I", false), ("ScrewLeft$Job", "minute", "I", false), ("ScrewLeft$Job", "lastsText", "LScrewLeft$Text;", true), ("ScrewLeft$Job", "errsText", "LScrewLeft$Text;", true), ("ScrewLeft$Job", "tape", "[I", true), ("ScrewLeft$Job", "fed", "I", false), ("ScrewLeft$Job", "waiting", "[I", true), ("ScrewLeft$Job", "waits", "I", false), ("ScrewLeft$Job", "z", "I", false)]
def tb_f8 : List (String × String × String × Bool) := [("ScrewLeft$Text", "code", "[I", true), ("ScrewLeft$Text", "stack", "[I", true), ("ScrewLeft$Text", "length", "I", false)]
def tb_f9 : List (String × String × String × Bool) := [("ScrewLeft$Reader", "tape", "[I", false), ("ScrewLeft$Reader", "end", "I", false), ("ScrewLeft$Reader", "names", "Ljava/lang/String;", false), ("ScrewLeft$Reader", "place", "I", false), ("ScrewLeft$Reader", "faulty", "Z", false), ("ScrewLeft$Reader", "code", "[I", true), ("ScrewLeft$Reader", "written", "I", false)]
def tb_f10 : List (String × String × String × Bool) := [("ScrewLeft$Voice", "bodies", "[I", true), ("ScrewLeft$Voice", "begun", "I", false), ("ScrewLeft$Voice", "n", "I", false), ("ScrewLeft$Voice", "m", "I", false)]
def tb_f11 : List (String × String × String × Bool) := [("ScrewLeft", "kinds", "[LScrewLeft$Step;", true), ("ScrewLeft", "now", "LScrewLeft$Job;", true), ("ScrewLeft", "image", "LScrewLeft$Job;", true), ("ScrewLeft", "thought", "LScrewLeft$Job;", true), ("ScrewLeft", "images", "I", false), ("ScrewLeft", "reader", "LScrewLeft$Reader;", true), ("ScrewLeft", "voice", "LScrewLeft$Voice;", true), ("ScrewLeft", "told", "[I", true), ("ScrewLeft", "cells", "[[I", true), ("ScrewLeft", "lengths", "[I", true), ("ScrewLeft", "bits", "[I", true), ("ScrewLeft", "path", "[I", true), ("ScrewLeft", "best", "[I", true)]
def tb_f12 : List (String × String × String × Bool) := [("ScrewLeftModel", "row", "[I", true), ("ScrewLeftModel", "kept", "[I", true), ("ScrewLeftModel", "before", "[I", true), ("ScrewLeftModel", "images", "I", false), ("ScrewLeftModel", "errors", "[I", true), ("ScrewLeftModel", "act", "[I", true), ("ScrewLeftModel", "with", "[I", true), ("ScrewLeftModel", "facts", "[I", true), ("ScrewLeftModel", "pile", "[I", true), ("ScrewLeftModel", "laid", "I", false), ("ScrewLeftModel", "here", "I", false), ("ScrewLeftModel", "opened", "I", false), ("ScrewLeftModel", "bad", "Z", false), ("ScrewLeftModel", "using", "I", false), ("ScrewLeftModel", "tried", "[I", true), ("ScrewLeftModel", "found", "[I", true), ("ScrewLeftModel", "least", "I", false), ("ScrewLeftModel", "aheads", "[I", true), ("ScrewLeftModel", "ordersFound", "I", false), ("ScrewLeftModel", "firstFound", "I", false), ("ScrewLeftModel", "trace", "[I", true), ("ScrewLeftModel", "traced", "I", false), ("ScrewLeftModel", "bitsOf", "[I", true), ("ScrewLeftModel", "sizeOf", "[I", true), ("ScrewLeftModel", "cells", "[I", true)]
def tb_T (l : List (String × String × String × Bool)) : u_T := fun k => (ab_nth l k).getD ("", "", "", false)
def tb_cl : List vw_C := [("ScrewLeft$Step", tb_T tb_f0, 0), ("ScrewLeft$Board", tb_T tb_f1, 0), ("ScrewLeft$Glued", tb_T tb_f2, 0), ("ScrewLeft$Held", tb_T tb_f3, 0), ("ScrewLeft$Alike", tb_T tb_f4, 0), ("ScrewLeft$Sealed", tb_T tb_f5, 0), ("ScrewLeft$Carried", tb_T tb_f6, 0), ("ScrewLeft$Job", tb_T tb_f7, 18), ("ScrewLeft$Text", tb_T tb_f8, 3), ("ScrewLeft$Reader", tb_T tb_f9, 7), ("ScrewLeft$Voice", tb_T tb_f10, 4), ("ScrewLeft", tb_T tb_f11, 13), ("ScrewLeftModel", tb_T tb_f12, 25)]
def tb_df : List (List Value) := [[], [], [], [], [], [], [], [.null, .int 0, .null, .null, .null, .null, .int 0, .int 0, .int 0, .int 0, .int 0, .null, .null, .null, .int 0, .null, .int 0, .int 0], [.null, .null, .int 0], [.null, .int 0, .null, .int 0, .int 0, .null, .int 0], [.null, .int 0, .int 0, .int 0], [.null, .null, .null, .null, .int 0, .null, .null, .null, .null, .null, .null, .null, .null], [.null, .null, .null, .int 0, .null, .null, .null, .null, .null, .int 0, .int 0, .int 0, .int 0, .int 0, .null, .null, .int 0, .null, .int 0, .int 0, .null, .int 0, .null, .null, .null]]
def tb_t0 : ab_T := [
  [some (.aload_n 0, 0), some (.invokespecial 1, 0), none, none, some (.return_, 0)]]
def tb_m0 : ab_M := (⟨"ScrewLeft$Step", "<init>", "()V"⟩, prog_10_method_1_code, 1, none, 0, 0, (1040, 1039, 1002), tb_t0)
def tb_t1 : ab_T := [
  [some (.iload_n 1, 0), some (.ireturn, 0)]]
def tb_m1 : ab_M := (⟨"ScrewLeft$Step", "lasting", "(IIII)I"⟩, prog_10_method_2_code, 5, (some .int), 0, 0, (2138, 2114, 1002), tb_t1)
def tb_t2 : ab_T := [
  [some (.iload_n 1, 0), some (.iconst 2, 0), some (.idiv, 0), some (.ireturn, 0)]]
def tb_m2 : ab_M := (⟨"ScrewLeft$Step", "back", "(I)I"⟩, prog_10_method_3_code, 2, (some .int), 0, 0, (2156, 2145, 1002), tb_t2)
def tb_t3 : ab_T := [
  [some (.iconst 1, 0), some (.ireturn, 0)]]
def tb_m3 : ab_M := (⟨"ScrewLeft$Step", "handsNeeded", "()I"⟩, prog_10_method_5_code, 1, (some .int), 0, 0, (2174, 2163, 1002), tb_t3)
def tb_t4 : ab_T := [
  [some (.iconst 0, 0), some (.ireturn, 0)]]
def tb_m4 : ab_M := (⟨"ScrewLeft$Step", "never", "()Z"⟩, prog_10_method_4_code, 1, (some .boolean), 0, 0, (2191, 2180, 1002), tb_t4)
def tb_t5 : ab_T := [
  [some (.aload_n 1, 0), some (.bipush 10, 0), none, some (.invokevirtual 7, 1), none, none, some (.iload_n 2, 0), some (.aload_n 1, 0), some (.getfield 13, 0), none, none, some (.iadd, 0), some (.ireturn, 0)]]
def tb_m5 : ab_M := (⟨"ScrewLeft$Step", "fits", "(LScrewLeft$Voice;I)I"⟩, prog_10_method_6_code, 3, (some .int), 0, 0, (4039, 4023, 1002), tb_t5)
def tb_t6 : ab_T := [
  [some (.aload_n 1, 0), some (.bipush 12, 0), none, some (.invokevirtual 7, 1), none, none, some (.iload_n 2, 0), some (.aload_n 1, 0), some (.getfield 23, 1), none, none, some (.isub, 0), some (.ireturn, 0)]]
def tb_m6 : ab_M := (⟨"ScrewLeft$Step", "looks", "(LScrewLeft$Voice;I)I"⟩, prog_10_method_8_code, 3, (some .int), 0, 0, (4059, 4058, 1002), tb_t6)
def tb_t7 : ab_T := [
  [some (.aload_n 1, 0), some (.bipush 11, 0), none, some (.invokevirtual 7, 1), none, none, some (.aload_n 0, 0), some (.aload_n 1, 0), some (.iload_n 2, 0), some (.invokevirtual 17, 2), none, none, some (.iconst 2, 0), some (.imul, 0), some (.ireturn, 0)]]
def tb_m7 : ab_M := (⟨"ScrewLeft$Step", "errs", "(LScrewLeft$Voice;I)I"⟩, prog_10_method_7_code, 3, (some .int), 0, 0, (4066, 4042, 1002), tb_t7)
def tb_t8 : ab_T := [
  [some (.aload_n 1, 0), some (.bipush 13, 0), none, some (.invokevirtual 7, 1), none, none, some (.aload_n 0, 0), some (.aload_n 1, 0), some (.iload_n 2, 0), some (.invokevirtual 26, 3), none, none, some (.aload_n 0, 0), some (.aload_n 1, 0), some (.iload_n 2, 0), some (.invokevirtual 29, 4)],
  [none, none, some (.ixor, 0), some (.ireturn, 0)]]
def tb_m8 : ab_M := (⟨"ScrewLeft$Step", "undoes", "(LScrewLeft$Voice;I)I"⟩, prog_10_method_9_code, 3, (some .int), 0, 0, (4105, 4078, 1002), tb_t8)
def tb_t9 : ab_T := [
  [some (.aload_n 0, 0), some (.invokespecial 1, 5), none, none, some (.return_, 0)]]
def tb_m9 : ab_M := (⟨"ScrewLeft$Board", "<init>", "()V"⟩, prog_3_method_1_code, 1, none, 0, 0, (1047, 1046, 1003), tb_t9)
def tb_t10 : ab_T := [
  [some (.iload_n 1, 0), some (.iconst 1, 0), some (.iadd, 0), some (.ireturn, 0)]]
def tb_m10 : ab_M := (⟨"ScrewLeft$Board", "lasting", "(IIII)I"⟩, prog_3_method_2_code, 5, (some .int), 0, 0, (2122, 2121, 1003), tb_t10)
def tb_t11 : ab_T := [
  [some (.aload_n 1, 0), some (.bipush 20, 0), none, some (.invokevirtual 7, 6), none, none, some (.aload_n 0, 0), some (.aload_n 1, 0), some (.iload_n 2, 0), some (.invokespecial 13, 7), none, none, some (.iconst 3, 0), some (.imul, 0), some (.ireturn, 0)]]
def tb_m11 : ab_M := (⟨"ScrewLeft$Board", "fits", "(LScrewLeft$Voice;I)I"⟩, prog_3_method_3_code, 3, (some .int), 0, 0, (4028, 4027, 1003), tb_t11)
def tb_t12 : ab_T := [
  [some (.aload_n 0, 0), some (.invokespecial 1, 8), none, none, some (.return_, 0)]]
def tb_m12 : ab_M := (⟨"ScrewLeft$Glued", "<init>", "()V"⟩, prog_5_method_1_code, 1, none, 0, 0, (1054, 1053, 1004), tb_t12)
def tb_t13 : ab_T := [
  [some (.iload_n 1, 0), some (.iconst 2, 0), some (.iadd, 0), some (.ireturn, 0)]]
def tb_m13 : ab_M := (⟨"ScrewLeft$Glued", "lasting", "(IIII)I"⟩, prog_5_method_2_code, 5, (some .int), 0, 0, (2132, 2131, 1004), tb_t13)
def tb_t14 : ab_T := [
  [some (.iconst 1, 0), some (.ireturn, 0)]]
def tb_m14 : ab_M := (⟨"ScrewLeft$Glued", "never", "()Z"⟩, prog_5_method_3_code, 1, (some .boolean), 0, 0, (2188, 2187, 1004), tb_t14)
def tb_t15 : ab_T := [
  [some (.aload_n 1, 0), some (.bipush 30, 0), none, some (.invokevirtual 7, 9), none, none, some (.aload_n 0, 0), some (.aload_n 1, 0), some (.iload_n 2, 0), some (.invokespecial 13, 10), none, none, some (.aload_n 0, 0), some (.aload_n 1, 0), some (.iconst 1, 0), some (.invokevirtual 17, 11)],
  [none, none, some (.isub, 0), some (.ireturn, 0)]]
def tb_m15 : ab_M := (⟨"ScrewLeft$Glued", "errs", "(LScrewLeft$Voice;I)I"⟩, prog_5_method_4_code, 3, (some .int), 0, 0, (4050, 4049, 1004), tb_t15)
def tb_t16 : ab_T := [
  [some (.aload_n 0, 0), some (.invokespecial 1, 12), none, none, some (.return_, 0)]]
def tb_m16 : ab_M := (⟨"ScrewLeft$Held", "<init>", "()V"⟩, prog_6_method_1_code, 1, none, 0, 0, (1061, 1060, 1005), tb_t16)
def tb_t17 : ab_T := [
  [some (.iload_n 2, 0), some (.iconst 1, 0), some (.if_icmp .ne 9, 11), none, none, some (.iload_n 1, 0), some (.iconst 2, 0), some (.imul, 0), some (.goto 4, 12), none, none, some (.iload_n 1, 0), some (.ireturn, 0)]]
def tb_m17 : ab_M := (⟨"ScrewLeft$Held", "lasting", "(IIII)I"⟩, prog_6_method_2_code, 5, (some .int), 0, 0, (2129, 2128, 1005), tb_t17)
def tb_t18 : ab_T := [
  [some (.iload_n 1, 0), some (.ireturn, 0)]]
def tb_m18 : ab_M := (⟨"ScrewLeft$Held", "back", "(I)I"⟩, prog_6_method_3_code, 2, (some .int), 0, 0, (2152, 2151, 1005), tb_t18)
def tb_t19 : ab_T := [
  [some (.aload_n 1, 0), some (.bipush 40, 0), none, some (.invokevirtual 7, 13), none, none, some (.aload_n 0, 0), some (.aload_n 1, 0), some (.iload_n 2, 0), some (.invokespecial 13, 14), none, none, some (.ineg, 0), some (.ireturn, 0)]]
def tb_m19 : ab_M := (⟨"ScrewLeft$Held", "looks", "(LScrewLeft$Voice;I)I"⟩, prog_6_method_4_code, 3, (some .int), 0, 0, (4074, 4073, 1005), tb_t19)
def tb_t20 : ab_T := [
  [some (.aload_n 0, 0), some (.invokespecial 1, 15), none, none, some (.return_, 0)]]
def tb_m20 : ab_M := (⟨"ScrewLeft$Alike", "<init>", "()V"⟩, prog_2_method_1_code, 1, none, 0, 0, (1068, 1067, 1006), tb_t20)
def tb_t21 : ab_T := [
  [some (.aload_n 0, 0), some (.iload_n 1, 0), some (.iload_n 2, 0), some (.iload_n 3, 0), some (.iload 4, 0), none, some (.invokespecial 7, 16), none, none, some (.iload_n 3, 0), some (.iconst 3, 0), some (.irem, 0), some (.iadd, 0), some (.ireturn, 0)]]
def tb_m21 : ab_M := (⟨"ScrewLeft$Alike", "lasting", "(IIII)I"⟩, prog_2_method_2_code, 5, (some .int), 0, 0, (2119, 2118, 1006), tb_t21)
def tb_t22 : ab_T := [
  [some (.aload_n 1, 0), some (.bipush 50, 0), none, some (.invokevirtual 11, 17), none, none, some (.aload_n 0, 0), some (.aload_n 1, 0), some (.iload_n 2, 0), some (.invokespecial 17, 18), none, none, some (.aload_n 0, 0), some (.aload_n 1, 0), some (.iconst 2, 0), some (.invokevirtual 21, 19)],
  [none, none, some (.isub, 0), some (.ireturn, 0)]]
def tb_m22 : ab_M := (⟨"ScrewLeft$Alike", "undoes", "(LScrewLeft$Voice;I)I"⟩, prog_2_method_3_code, 3, (some .int), 0, 0, (4083, 4082, 1006), tb_t22)
def tb_t23 : ab_T := [
  [some (.aload_n 0, 0), some (.invokespecial 1, 20), none, none, some (.return_, 0)]]
def tb_m23 : ab_M := (⟨"ScrewLeft$Sealed", "<init>", "()V"⟩, prog_9_method_1_code, 1, none, 0, 0, (1075, 1074, 1007), tb_t23)
def tb_t24 : ab_T := [
  [some (.aload_n 0, 0), some (.iload_n 1, 0), some (.iload_n 2, 0), some (.iload_n 3, 0), some (.iload 4, 0), none, some (.invokespecial 7, 21), none, none, some (.iload 4, 0), none, some (.iadd, 0), some (.ireturn, 0)]]
def tb_m24 : ab_M := (⟨"ScrewLeft$Sealed", "lasting", "(IIII)I"⟩, prog_9_method_2_code, 5, (some .int), 0, 0, (2136, 2135, 1007), tb_t24)
def tb_t25 : ab_T := [
  [some (.aload_n 1, 0), some (.bipush 60, 0), none, some (.invokevirtual 11, 22), none, none, some (.aload_n 0, 0), some (.aload_n 1, 0), some (.iload_n 2, 0), some (.iconst 1, 0), some (.iadd, 0), some (.invokespecial 17, 23), none, none, some (.ireturn, 0)]]
def tb_m25 : ab_M := (⟨"ScrewLeft$Sealed", "errs", "(LScrewLeft$Voice;I)I"⟩, prog_9_method_3_code, 3, (some .int), 0, 0, (4063, 4062, 1007), tb_t25)
def tb_t26 : ab_T := [
  [some (.aload_n 0, 0), some (.invokespecial 1, 24), none, none, some (.return_, 0)]]
def tb_m26 : ab_M := (⟨"ScrewLeft$Carried", "<init>", "()V"⟩, prog_4_method_1_code, 1, none, 0, 0, (1082, 1081, 1008), tb_t26)
def tb_t27 : ab_T := [
  [some (.aload_n 0, 0), some (.iload_n 1, 0), some (.iload_n 2, 0), some (.iload_n 3, 0), some (.iload 4, 0), none, some (.invokespecial 7, 25), none, none, some (.iload_n 3, 0), some (.iadd, 0), some (.ireturn, 0)]]
def tb_m27 : ab_M := (⟨"ScrewLeft$Carried", "lasting", "(IIII)I"⟩, prog_4_method_2_code, 5, (some .int), 0, 0, (2126, 2125, 1008), tb_t27)
def tb_t28 : ab_T := [
  [some (.iconst 2, 0), some (.ireturn, 0)]]
def tb_m28 : ab_M := (⟨"ScrewLeft$Carried", "handsNeeded", "()I"⟩, prog_4_method_3_code, 1, (some .int), 0, 0, (2170, 2169, 1008), tb_t28)
def tb_t29 : ab_T := [
  [some (.aload_n 1, 0), some (.bipush 70, 0), none, some (.invokevirtual 11, 26), none, none, some (.aload_n 0, 0), some (.aload_n 1, 0), some (.iload_n 2, 0), some (.invokespecial 17, 27), none, none, some (.aload_n 1, 0), some (.getfield 21, 2), none, none],
  [some (.ixor, 0), some (.ireturn, 0)]]
def tb_m29 : ab_M := (⟨"ScrewLeft$Carried", "looks", "(LScrewLeft$Voice;I)I"⟩, prog_4_method_4_code, 3, (some .int), 0, 0, (4070, 4069, 1008), tb_t29)
def tb_t30 : ab_T := [
  [some (.aload_n 1, 0), some (.bipush 71, 0), none, some (.invokevirtual 11, 26), none, none, some (.aload_n 0, 0), some (.aload_n 1, 0), some (.iload_n 2, 0), some (.invokevirtual 25, 28), none, none, some (.aload_n 0, 0), some (.aload_n 1, 0), some (.iload_n 2, 0), some (.invokespecial 30, 29)],
  [none, none, some (.isub, 0), some (.ireturn, 0)]]
def tb_m30 : ab_M := (⟨"ScrewLeft$Carried", "undoes", "(LScrewLeft$Voice;I)I"⟩, prog_4_method_5_code, 3, (some .int), 0, 0, (4095, 4094, 1008), tb_t30)
def tb_t31 : ab_T := [
  [some (.aload_n 0, 0), some (.invokespecial 3, 30), none, none, some (.aload_n 0, 0), some (.bipush 8, 0), none, some (.newarray .int, 0), none, some (.putfield 9, 3), none, none, some (.aload_n 0, 0), some (.bipush 8, 0), none, some (.newarray .int, 0)],
  [none, some (.putfield 15, 4), none, none, some (.aload_n 0, 0), some (.bipush 8, 0), none, some (.newarray .int, 0), none, some (.putfield 18, 5), none, none, some (.aload_n 0, 0), some (.bipush 8, 0), none, some (.newarray .int, 0)],
  [none, some (.putfield 21, 6), none, none, some (.aload_n 0, 0), some (.iconst 1, 0), some (.putfield 24, 7), none, none, some (.aload_n 0, 0), some (.bipush 50, 0), none, some (.putfield 28, 8), none, none, some (.aload_n 0, 0)],
  [some (.new 31, 0), none, none, some (.dup, 0), some (.invokespecial 33, 31), none, none, some (.putfield 34, 9), none, none, some (.aload_n 0, 0), some (.new 31, 0), none, none, some (.dup, 0), some (.invokespecial 33, 31)],
  [none, none, some (.putfield 38, 10), none, none, some (.aload_n 0, 0), some (.bipush 50, 0), none, some (.newarray .int, 0), none, some (.putfield 41, 11), none, none, some (.aload_n 0, 0), some (.bipush 20, 0), none],
  [some (.newarray .int, 0), none, some (.putfield 44, 12), none, none, some (.aload_n 0, 0), some (.iconst 1, 0), some (.putfield 47, 13), none, none, some (.aload_n 0, 0), some (.aload_n 1, 0), some (.putfield 50, 14), none, none, some (.return_, 0)]]
def tb_m31 : ab_M := (⟨"ScrewLeft$Job", "<init>", "([LScrewLeft$Step;)V"⟩, prog_7_method_1_code, 2, none, 12, 308, (1089, 1088, 1009), tb_t31)
def tb_t32 : ab_T := [
  [some (.aload_n 0, 0), some (.getfield 54, 15), none, none, some (.istore 4, 0), none, some (.iload 4, 0), none, some (.bipush 8, 0), none, some (.if_icmp .ge 51, 61), none, none, some (.aload_n 0, 0), some (.getfield 9, 3), none],
  [none, some (.iload 4, 0), none, some (.iload_n 1, 0), some (.bipush 10, 0), none, some (.idiv, 0), some (.iastore, 0), some (.aload_n 0, 0), some (.getfield 15, 4), none, none, some (.iload 4, 0), none, some (.iload_n 1, 0), some (.bipush 10, 0)],
  [none, some (.irem, 0), some (.iastore, 0), some (.aload_n 0, 0), some (.getfield 18, 5), none, none, some (.iload 4, 0), none, some (.iload_n 2, 0), some (.iastore, 0), some (.aload_n 0, 0), some (.getfield 21, 6), none, none, some (.iload 4, 0)],
  [none, some (.iload_n 3, 0), some (.iastore, 0), some (.aload_n 0, 0), some (.dup, 0), some (.getfield 54, 15), none, none, some (.iconst 1, 0), some (.iadd, 0), some (.putfield 54, 15), none, none, some (.iload 4, 0), none, some (.ireturn, 0)]]
def tb_m32 : ab_M := (⟨"ScrewLeft$Job", "add", "(III)I"⟩, prog_7_method_3_code, 5, (some .int), 0, 0, (2055, 2054, 1009), tb_t32)
def tb_t33 : ab_T := [
  [some (.iload_n 1, 0), some (.ifCond .lt 15, 16), none, none, some (.iload_n 1, 0), some (.aload_n 0, 0), some (.getfield 54, 15), none, none, some (.if_icmp .ge 7, 16), none, none, some (.iconst 1, 0), some (.goto 4, 17), none, none],
  [some (.iconst 0, 0), some (.ireturn, 0)]]
def tb_m33 : ab_M := (⟨"ScrewLeft$Job", "has", "(I)Z"⟩, prog_7_method_4_code, 2, (some .boolean), 0, 0, (2063, 2062, 1009), tb_t33)
def tb_t34 : ab_T := [
  [some (.aload_n 0, 0), some (.getfield 63, 16), none, none, some (.iload_n 1, 0), some (.invokestatic 96, 32), none, none, some (.ireturn, 0)]]
def tb_m34 : ab_M := (⟨"ScrewLeft$Job", "isDone", "(I)Z"⟩, prog_7_method_6_code, 2, (some .boolean), 0, 0, (2067, 2066, 1009), tb_t34)
def tb_t35 : ab_T := [
  [some (.aload_n 0, 0), some (.getfield 66, 17), none, none, some (.iload_n 1, 0), some (.invokestatic 96, 32), none, none, some (.ireturn, 0)]]
def tb_m35 : ab_M := (⟨"ScrewLeft$Job", "isWrong", "(I)Z"⟩, prog_7_method_7_code, 2, (some .boolean), 0, 0, (2074, 2073, 1009), tb_t35)
def tb_t36 : ab_T := [
  [some (.aload_n 0, 0), some (.iload_n 1, 0), some (.invokevirtual 88, 33), none, none, some (.ifCond .ne 5, 10), none, none, some (.iconst 0, 0), some (.ireturn, 0), some (.aload_n 0, 0), some (.aload_n 0, 0), some (.getfield 18, 5), none, none, some (.iload_n 1, 0)],
  [some (.iaload, 0), some (.aload_n 0, 0), some (.getfield 15, 4), none, none, some (.iload_n 1, 0), some (.iaload, 0), some (.aload_n 0, 0), some (.invokevirtual 123, 34), none, none, some (.invokevirtual 127, 35), none, none, some (.istore_n 2, 0), some (.aload_n 0, 0)],
  [some (.iload_n 1, 0), some (.invokevirtual 130, 36), none, none, some (.iload_n 2, 0), some (.aload_n 0, 0), some (.getfield 24, 7), none, none, some (.aload_n 0, 0), some (.getfield 15, 4), none, none, some (.iload_n 1, 0), some (.iaload, 0), some (.aload_n 0, 0)],
  [some (.getfield 18, 5), none, none, some (.iload_n 1, 0), some (.iaload, 0), some (.invokevirtual 134, 37), none, none, some (.ireturn, 0)]]
def tb_m36 : ab_M := (⟨"ScrewLeft$Job", "lasts", "(I)I"⟩, prog_7_method_12_code, 3, (some .int), 0, 0, (2078, 2077, 1009), tb_t36)
def tb_t37 : ab_T := [
  [some (.bipush 9, 0), none, some (.aload_n 0, 0), some (.getfield 69, 18), none, none, some (.bipush 30, 0), none, some (.idiv, 0), some (.invokestatic 106, 38), none, none, some (.ireturn, 0)]]
def tb_m37 : ab_M := (⟨"ScrewLeft$Job", "tired", "()I"⟩, prog_7_method_9_code, 1, (some .int), 0, 0, (2083, 2082, 1009), tb_t37)
def tb_t38 : ab_T := [
  [some (.aload_n 0, 0), some (.getfield 34, 9), none, none, some (.invokevirtual 112, 39), none, none, some (.ifCond .eq 16, 23), none, none, some (.aload_n 0, 0), some (.getfield 34, 9), none, none, some (.iload_n 1, 0), some (.iload_n 2, 0)],
  [some (.iload_n 3, 0), some (.invokevirtual 116, 40), none, none, some (.goto 8, 28), none, none, some (.iconst 1, 0), some (.iload_n 1, 0), some (.iadd, 0), some (.iload_n 3, 0), some (.iadd, 0), some (.istore 4, 0), none, some (.iconst 1, 0), some (.bipush 99, 0)],
  [none, some (.iload 4, 0), none, some (.invokestatic 106, 38), none, none, some (.invokestatic 120, 41), none, none, some (.ireturn, 0)]]
def tb_m38 : ab_M := (⟨"ScrewLeft$Job", "lastsBy", "(III)I"⟩, prog_7_method_10_code, 5, (some .int), 0, 0, (2090, 2089, 1009), tb_t38)
def tb_t39 : ab_T := [
  [some (.aload_n 0, 0), some (.iload_n 1, 0), some (.invokevirtual 88, 33), none, none, some (.ifCond .eq 12, 17), none, none, some (.aload_n 0, 0), some (.getfield 9, 3), none, none, some (.iload_n 1, 0), some (.iaload, 0), some (.goto 4, 18), none],
  [none, some (.iconst 0, 0), some (.istore_n 2, 0), some (.aload_n 0, 0), some (.getfield 50, 14), none, none, some (.iload_n 2, 0), some (.iconst 0, 0), some (.aload_n 0, 0), some (.getfield 50, 14), none, none, some (.arraylength, 0), some (.iconst 1, 0), some (.isub, 0)],
  [some (.invokestatic 92, 42), none, none, some (.ifCond .eq 7, 42), none, none, some (.iload_n 2, 0), some (.goto 4, 43), none, none, some (.iconst 0, 0), some (.aaload, 0), some (.areturn, 0)]]
def tb_m39 : ab_M := (⟨"ScrewLeft$Job", "kindOf", "(I)LScrewLeft$Step;"⟩, prog_7_method_5_code, 3, (some (.object "ScrewLeft$Step")), 0, 0, (2111, 2110, 1009), tb_t39)
def tb_t40 : ab_T := [
  [some (.aload_n 0, 0), some (.iload_n 1, 0), some (.invokevirtual 130, 36), none, none, some (.aload_n 0, 0), some (.iload_n 1, 0), some (.invokevirtual 140, 43), none, none, some (.invokevirtual 143, 44), none, none, some (.ireturn, 0)]]
def tb_m40 : ab_M := (⟨"ScrewLeft$Job", "takesBack", "(I)I"⟩, prog_7_method_13_code, 2, (some .int), 0, 0, (2142, 2141, 1009), tb_t40)
def tb_t41 : ab_T := [
  [some (.aload_n 0, 0), some (.iload_n 1, 0), some (.invokevirtual 88, 33), none, none, some (.ifCond .eq 11, 16), none, none, some (.aload_n 0, 0), some (.iload_n 1, 0), some (.invokevirtual 146, 45), none, none, some (.ifCond .eq 5, 18), none, none],
  [some (.iconst 0, 0), some (.ireturn, 0), some (.aload_n 0, 0), some (.getfield 21, 6), none, none, some (.iload_n 1, 0), some (.iaload, 0), some (.aload_n 0, 0), some (.getfield 63, 16), none, none, some (.iconst (-1), 0), some (.ixor, 0), some (.iand, 0), some (.ifCond .ne 20, 51)],
  [none, none, some (.aload_n 0, 0), some (.getfield 28, 8), none, none, some (.aload_n 0, 0), some (.getfield 18, 5), none, none, some (.iload_n 1, 0), some (.iaload, 0), some (.if_icmp .lt 7, 51), none, none, some (.iconst 1, 0)],
  [some (.goto 4, 52), none, none, some (.iconst 0, 0), some (.istore_n 2, 0), some (.iload_n 2, 0), some (.ifCond .eq 22, 76), none, none, some (.aload_n 0, 0), some (.getfield 24, 7), none, none, some (.aload_n 0, 0), some (.iload_n 1, 0), some (.invokevirtual 130, 36)],
  [none, none, some (.invokevirtual 149, 46), none, none, some (.if_icmp .lt 7, 76), none, none, some (.iconst 1, 0), some (.goto 4, 77), none, none, some (.iconst 0, 0), some (.ireturn, 0)]]
def tb_m41 : ab_M := (⟨"ScrewLeft$Job", "mayBeDone", "(I)Z"⟩, prog_7_method_14_code, 3, (some .boolean), 0, 0, (2160, 2159, 1009), tb_t41)
def tb_t42 : ab_T := [
  [some (.aload_n 0, 0), some (.iload_n 1, 0), some (.invokevirtual 88, 33), none, none, some (.ifCond .eq 22, 27), none, none, some (.aload_n 0, 0), some (.iload_n 1, 0), some (.invokevirtual 146, 45), none, none, some (.ifCond .eq 14, 27), none, none],
  [some (.aload_n 0, 0), some (.iload_n 1, 0), some (.invokevirtual 130, 36), none, none, some (.invokevirtual 152, 47), none, none, some (.ifCond .eq 5, 29), none, none, some (.iconst 0, 0), some (.ireturn, 0), some (.iconst 0, 0), some (.istore_n 2, 0), some (.iload_n 1, 0)],
  [some (.iconst 1, 0), some (.iadd, 0), some (.istore_n 3, 0), some (.iload_n 3, 0), some (.aload_n 0, 0), some (.getfield 54, 15), none, none, some (.if_icmp .ge 40, 80), none, none, some (.iload_n 2, 0), some (.ifCond .ne 24, 68), none, none, some (.aload_n 0, 0)],
  [some (.iload_n 3, 0), some (.invokevirtual 146, 45), none, none, some (.ifCond .eq 20, 72), none, none, some (.aload_n 0, 0), some (.getfield 21, 6), none, none, some (.iload_n 3, 0), some (.iaload, 0), some (.iload_n 1, 0), some (.invokestatic 96, 32), none],
  [none, some (.ifCond .eq 7, 72), none, none, some (.iconst 1, 0), some (.goto 4, 73), none, none, some (.iconst 0, 0), some (.istore_n 2, 0), some (.iinc 3 1, 0), none, none, some (.goto (-42), 35), none, none],
  [some (.iload_n 2, 0), some (.ifCond .ne 7, 88), none, none, some (.iconst 1, 0), some (.goto 4, 89), none, none, some (.iconst 0, 0), some (.ireturn, 0)]]
def tb_m42 : ab_M := (⟨"ScrewLeft$Job", "mayBeUndone", "(I)Z"⟩, prog_7_method_15_code, 4, (some .boolean), 0, 0, (2178, 2177, 1009), tb_t42)
def tb_t43 : ab_T := [
  [some (.aload_n 0, 0), some (.getfield 38, 10), none, none, some (.invokevirtual 112, 39), none, none, some (.ifCond .eq 22, 29), none, none, some (.iconst 0, 0), some (.iconst 1, 0), some (.aload_n 0, 0), some (.getfield 38, 10), none, none],
  [some (.iload_n 1, 0), some (.iload_n 2, 0), some (.iload_n 3, 0), some (.invokevirtual 116, 40), none, none, some (.invokestatic 106, 38), none, none, some (.invokestatic 120, 41), none, none, some (.ireturn, 0), some (.iload_n 1, 0), some (.iload_n 2, 0), some (.iadd, 0)],
  [some (.bipush 9, 0), none, some (.if_icmp .le 7, 41), none, none, some (.iconst 1, 0), some (.goto 4, 42), none, none, some (.iconst 0, 0), some (.ireturn, 0)]]
def tb_m43 : ab_M := (⟨"ScrewLeft$Job", "errsBy", "(III)I"⟩, prog_7_method_11_code, 4, (some .int), 0, 0, (3121, 3120, 1009), tb_t43)
def tb_t44 : ab_T := [
  [some (.aload_n 0, 0), some (.iload_n 1, 0), some (.invokevirtual 88, 33), none, none, some (.ifCond .eq 50, 55), none, none, some (.aload_n 0, 0), some (.aload_n 0, 0), some (.getfield 15, 4), none, none, some (.iload_n 1, 0), some (.iaload, 0), some (.aload_n 0, 0)],
  [some (.invokevirtual 123, 34), none, none, some (.aload_n 0, 0), some (.getfield 9, 3), none, none, some (.iload_n 1, 0), some (.iaload, 0), some (.invokevirtual 158, 48), none, none, some (.istore_n 2, 0), some (.aload_n 0, 0), some (.aload_n 0, 0), some (.getfield 66, 17)],
  [none, none, some (.iload_n 1, 0), some (.iload_n 2, 0), some (.ifCond .eq 7, 43), none, none, some (.iconst 1, 0), some (.goto 4, 44), none, none, some (.iconst 0, 0), some (.invokestatic 161, 49), none, none, some (.putfield 66, 17)],
  [none, none, some (.aload_n 0, 0), some (.iload_n 1, 0), some (.invokevirtual 165, 50), none, none, some (.return_, 0)]]
def tb_m44 : ab_M := (⟨"ScrewLeft$Job", "finish", "(I)V"⟩, prog_7_method_17_code, 3, none, 0, 0, (3129, 3128, 1009), tb_t44)
def tb_t45 : ab_T := [
  [some (.aload_n 0, 0), some (.iload_n 1, 0), some (.invokevirtual 88, 33), none, none, some (.ifCond .eq 45, 50), none, none, some (.aload_n 0, 0), some (.dup, 0), some (.getfield 69, 18), none, none, some (.aload_n 0, 0), some (.iload_n 1, 0), some (.invokevirtual 140, 43)],
  [none, none, some (.iadd, 0), some (.putfield 69, 18), none, none, some (.aload_n 0, 0), some (.dup, 0), some (.getfield 28, 8), none, none, some (.aload_n 0, 0), some (.getfield 18, 5), none, none, some (.iload_n 1, 0)],
  [some (.iaload, 0), some (.isub, 0), some (.putfield 28, 8), none, none, some (.aload_n 0, 0), some (.aload_n 0, 0), some (.getfield 63, 16), none, none, some (.iload_n 1, 0), some (.iconst 1, 0), some (.invokestatic 161, 49), none, none, some (.putfield 63, 16)],
  [none, none, some (.return_, 0)]]
def tb_m45 : ab_M := (⟨"ScrewLeft$Job", "pass", "(I)V"⟩, prog_7_method_18_code, 2, none, 0, 0, (3135, 3134, 1009), tb_t45)
def tb_t46 : ab_T := [
  [some (.aload_n 0, 0), some (.iload_n 1, 0), some (.invokevirtual 88, 33), none, none, some (.ifCond .eq 70, 75), none, none, some (.aload_n 0, 0), some (.dup, 0), some (.getfield 69, 18), none, none, some (.aload_n 0, 0), some (.iload_n 1, 0), some (.invokevirtual 169, 51)],
  [none, none, some (.iadd, 0), some (.putfield 69, 18), none, none, some (.aload_n 0, 0), some (.sipush 999, 0), none, none, some (.aload_n 0, 0), some (.getfield 28, 8), none, none, some (.iconst 0, 0), some (.aload_n 0, 0)],
  [some (.getfield 18, 5), none, none, some (.iload_n 1, 0), some (.iaload, 0), some (.iconst 1, 0), some (.isub, 0), some (.invokestatic 120, 41), none, none, some (.iadd, 0), some (.invokestatic 106, 38), none, none, some (.putfield 28, 8), none],
  [none, some (.aload_n 0, 0), some (.aload_n 0, 0), some (.getfield 63, 16), none, none, some (.iload_n 1, 0), some (.iconst 0, 0), some (.invokestatic 161, 49), none, none, some (.putfield 63, 16), none, none, some (.aload_n 0, 0), some (.aload_n 0, 0)],
  [some (.getfield 66, 17), none, none, some (.iload_n 1, 0), some (.iconst 0, 0), some (.invokestatic 161, 49), none, none, some (.putfield 66, 17), none, none, some (.return_, 0)]]
def tb_m46 : ab_M := (⟨"ScrewLeft$Job", "takeApart", "(I)V"⟩, prog_7_method_20_code, 2, none, 0, 0, (3143, 3142, 1009), tb_t46)
def tb_t47 : ab_T := [
  [some (.aload_n 0, 0), some (.aload_n 0, 0), some (.getfield 47, 13), none, none, some (.ldc 172, 0), none, some (.imul, 0), some (.sipush 12345, 0), none, none, some (.iadd, 0), some (.putfield 47, 13), none, none, some (.aload_n 0, 0)],
  [some (.getfield 47, 13), none, none, some (.bipush 8, 0), none, some (.iushr, 0), some (.ireturn, 0)]]
def tb_m47 : ab_M := (⟨"ScrewLeft$Job", "draw", "()I"⟩, prog_7_method_23_code, 1, (some .int), 0, 0, (3152, 3151, 1009), tb_t47)
def tb_t48 : ab_T := [
  [some (.aload_n 0, 0), some (.aload_n 1, 0), some (.getfield 54, 15), none, none, some (.putfield 54, 15), none, none, some (.aload_n 1, 0), some (.getfield 9, 3), none, none, some (.iconst 0, 0), some (.aload_n 0, 0), some (.getfield 9, 3), none],
  [none, some (.iconst 0, 0), some (.bipush 8, 0), none, some (.invokestatic 57, 52), none, none, some (.aload_n 1, 0), some (.getfield 15, 4), none, none, some (.iconst 0, 0), some (.aload_n 0, 0), some (.getfield 15, 4), none, none],
  [some (.iconst 0, 0), some (.bipush 8, 0), none, some (.invokestatic 57, 52), none, none, some (.aload_n 1, 0), some (.getfield 18, 5), none, none, some (.iconst 0, 0), some (.aload_n 0, 0), some (.getfield 18, 5), none, none, some (.iconst 0, 0)],
  [some (.bipush 8, 0), none, some (.invokestatic 57, 52), none, none, some (.aload_n 1, 0), some (.getfield 21, 6), none, none, some (.iconst 0, 0), some (.aload_n 0, 0), some (.getfield 21, 6), none, none, some (.iconst 0, 0), some (.bipush 8, 0)],
  [none, some (.invokestatic 57, 52), none, none, some (.aload_n 0, 0), some (.aload_n 1, 0), some (.getfield 63, 16), none, none, some (.putfield 63, 16), none, none, some (.aload_n 0, 0), some (.aload_n 1, 0), some (.getfield 66, 17), none],
  [none, some (.putfield 66, 17), none, none, some (.aload_n 0, 0), some (.aload_n 1, 0), some (.getfield 24, 7), none, none, some (.putfield 24, 7), none, none, some (.aload_n 0, 0), some (.aload_n 1, 0), some (.getfield 28, 8), none],
  [none, some (.putfield 28, 8), none, none, some (.aload_n 0, 0), some (.aload_n 1, 0), some (.getfield 69, 18), none, none, some (.putfield 69, 18), none, none, some (.aload_n 0, 0), some (.getfield 34, 9), none, none],
  [some (.aload_n 1, 0), some (.getfield 34, 9), none, none, some (.getfield 72, 19), none, none, some (.aload_n 1, 0), some (.getfield 34, 9), none, none, some (.getfield 75, 20), none, none, some (.invokevirtual 78, 53), none],
  [none, some (.aload_n 0, 0), some (.getfield 38, 10), none, none, some (.aload_n 1, 0), some (.getfield 38, 10), none, none, some (.getfield 72, 19), none, none, some (.aload_n 1, 0), some (.getfield 38, 10), none, none],
  [some (.getfield 75, 20), none, none, some (.invokevirtual 78, 53), none, none, some (.aload_n 1, 0), some (.getfield 41, 11), none, none, some (.iconst 0, 0), some (.aload_n 0, 0), some (.getfield 41, 11), none, none, some (.iconst 0, 0)],
  [some (.bipush 50, 0), none, some (.invokestatic 57, 52), none, none, some (.aload_n 0, 0), some (.aload_n 1, 0), some (.getfield 82, 21), none, none, some (.putfield 82, 21), none, none, some (.aload_n 1, 0), some (.getfield 44, 12), none],
  [none, some (.iconst 0, 0), some (.aload_n 0, 0), some (.getfield 44, 12), none, none, some (.iconst 0, 0), some (.bipush 20, 0), none, some (.invokestatic 57, 52), none, none, some (.aload_n 0, 0), some (.aload_n 1, 0), some (.getfield 85, 22), none],
  [none, some (.putfield 85, 22), none, none, some (.aload_n 0, 0), some (.aload_n 1, 0), some (.getfield 47, 13), none, none, some (.putfield 47, 13), none, none, some (.return_, 0)]]
def tb_m48 : ab_M := (⟨"ScrewLeft$Job", "take", "(LScrewLeft$Job;)V"⟩, prog_7_method_2_code, 2, none, 0, 0, (3165, 3164, 1009), tb_t48)
def tb_t49 : ab_T := [
  [some (.iconst 0, 0), some (.istore_n 1, 0), some (.iload_n 1, 0), some (.aload_n 0, 0), some (.getfield 54, 15), none, none, some (.if_icmp .ge 19, 26), none, none, some (.aload_n 0, 0), some (.iload_n 1, 0), some (.invokevirtual 155, 54), none, none, some (.ifCond .eq 5, 20)],
  [none, none, some (.iload_n 1, 0), some (.ireturn, 0), some (.iinc 1 1, 0), none, none, some (.goto (-21), 2), none, none, some (.iconst (-1), 0), some (.ireturn, 0)]]
def tb_m49 : ab_M := (⟨"ScrewLeft$Job", "leastThatMay", "()I"⟩, prog_7_method_16_code, 2, (some .int), 0, 0, (3171, 3170, 1009), tb_t49)
def tb_t50 : ab_T := [
  [some (.aload_n 0, 0), some (.getfield 54, 15), none, none, some (.aload_n 0, 0), some (.getfield 63, 16), none, none, some (.invokestatic 100, 55), none, none, some (.isub, 0), some (.ireturn, 0)]]
def tb_m50 : ab_M := (⟨"ScrewLeft$Job", "howManyOpen", "()I"⟩, prog_7_method_8_code, 1, (some .int), 0, 0, (3176, 3175, 1009), tb_t50)
def tb_t51 : ab_T := [
  [some (.aload_n 0, 0), some (.aload_n 0, 0), some (.getfield 63, 16), none, none, some (.iload_n 1, 0), some (.iconst 0, 0), some (.invokestatic 161, 49), none, none, some (.putfield 63, 16), none, none, some (.aload_n 0, 0), some (.iload_n 2, 0), some (.putfield 28, 8)],
  [none, none, some (.aload_n 0, 0), some (.iload_n 3, 0), some (.putfield 69, 18), none, none, some (.return_, 0)]]
def tb_m51 : ab_M := (⟨"ScrewLeft$Job", "unpass", "(III)V"⟩, prog_7_method_19_code, 4, none, 0, 0, (3196, 3195, 1009), tb_t51)
def tb_t52 : ab_T := [
  [some (.iconst 0, 0), some (.istore_n 2, 0), some (.iload_n 1, 0), some (.iconst 1, 0), some (.iadd, 0), some (.istore_n 3, 0), some (.iload_n 3, 0), some (.aload_n 0, 0), some (.getfield 54, 15), none, none, some (.if_icmp .ge 56, 67), none, none, some (.aload_n 0, 0), some (.getfield 21, 6)],
  [none, none, some (.iload_n 3, 0), some (.iaload, 0), some (.iload_n 2, 0), some (.iload_n 1, 0), some (.iconst 1, 0), some (.invokestatic 161, 49), none, none, some (.iand, 0), some (.ifCond .eq 7, 34), none, none, some (.iconst 1, 0), some (.goto 4, 35)],
  [none, none, some (.iconst 0, 0), some (.istore 4, 0), none, some (.iload_n 2, 0), some (.iload_n 3, 0), some (.iload 4, 0), none, some (.ifCond .eq 15, 56), none, none, some (.aload_n 0, 0), some (.iload_n 3, 0), some (.invokevirtual 146, 45), none],
  [none, some (.ifCond .eq 7, 56), none, none, some (.iconst 1, 0), some (.goto 4, 57), none, none, some (.iconst 0, 0), some (.invokestatic 161, 49), none, none, some (.istore_n 2, 0), some (.iinc 3 1, 0), none, none],
  [some (.goto (-58), 6), none, none, some (.iload_n 2, 0), some (.ireturn, 0)]]
def tb_m52 : ab_M := (⟨"ScrewLeft$Job", "restingOn", "(I)I"⟩, prog_7_method_21_code, 5, (some .int), 0, 0, (3204, 3203, 1009), tb_t52)
def tb_t53 : ab_T := [
  [some (.iconst 0, 0), some (.istore_n 2, 0), some (.iconst 0, 0), some (.istore_n 3, 0), some (.iload_n 3, 0), some (.aload_n 0, 0), some (.getfield 54, 15), none, none, some (.if_icmp .ge 30, 39), none, none, some (.iload_n 2, 0), some (.iload_n 1, 0), some (.iload_n 3, 0), some (.invokestatic 96, 32)],
  [none, none, some (.ifCond .eq 12, 30), none, none, some (.aload_n 0, 0), some (.getfield 18, 5), none, none, some (.iload_n 3, 0), some (.iaload, 0), some (.goto 4, 31), none, none, some (.iconst 0, 0), some (.iadd, 0)],
  [some (.istore_n 2, 0), some (.iinc 3 1, 0), none, none, some (.goto (-32), 4), none, none, some (.iload_n 2, 0), some (.ireturn, 0)]]
def tb_m53 : ab_M := (⟨"ScrewLeft$Job", "screwsOf", "(I)I"⟩, prog_7_method_22_code, 4, (some .int), 0, 0, (3231, 3230, 1009), tb_t53)
def tb_t54 : ab_T := [
  [some (.aload_n 0, 0), some (.invokespecial 3, 56), none, none, some (.aload_n 0, 0), some (.bipush 50, 0), none, some (.newarray .int, 0), none, some (.putfield 9, 23), none, none, some (.aload_n 0, 0), some (.bipush 50, 0), none, some (.newarray .int, 0)],
  [none, some (.putfield 15, 24), none, none, some (.return_, 0)]]
def tb_m54 : ab_M := (⟨"ScrewLeft$Text", "<init>", "()V"⟩, prog_11_method_1_code, 1, none, 2, 100, (1095, 1094, 1010), tb_t54)
def tb_t55 : ab_T := [
  [some (.aload_n 0, 0), some (.getfield 24, 25), none, none, some (.ifCond .le 7, 11), none, none, some (.iconst 1, 0), some (.goto 4, 12), none, none, some (.iconst 0, 0), some (.ireturn, 0)]]
def tb_m55 : ab_M := (⟨"ScrewLeft$Text", "isGiven", "()Z"⟩, prog_11_method_3_code, 1, (some .boolean), 0, 0, (2094, 2093, 1010), tb_t55)
def tb_t56 : ab_T := [
  [some (.iconst 0, 0), some (.istore 4, 0), none, some (.iconst 0, 0), some (.istore 5, 0), none, some (.iload 5, 0), none, some (.aload_n 0, 0), some (.getfield 24, 25), none, none, some (.if_icmp .ge 138, 150), none, none, some (.aload_n 0, 0)],
  [some (.getfield 9, 23), none, none, some (.iload 5, 0), none, some (.iaload, 0), some (.istore 6, 0), none, some (.iload 6, 0), none, some (.bipush (-3), 0), none, some (.if_icmp .lt 34, 62), none, none, some (.iload 4, 0)],
  [none, some (.aload_n 0, 0), some (.getfield 15, 24), none, none, some (.arraylength, 0), some (.if_icmp .ge 24, 62), none, none, some (.aload_n 0, 0), some (.getfield 15, 24), none, none, some (.iload 4, 0), none, some (.iload 6, 0)],
  [none, some (.iload_n 1, 0), some (.iload_n 2, 0), some (.iload_n 3, 0), some (.invokestatic 28, 57), none, none, some (.iastore, 0), some (.iinc 4 1, 0), none, none, some (.goto 85, 144), none, none, some (.iload 6, 0), none],
  [some (.bipush (-33), 0), none, some (.if_icmp .ne 38, 104), none, none, some (.iload 4, 0), none, some (.iconst 1, 0), some (.if_icmp .lt 32, 104), none, none, some (.aload_n 0, 0), some (.getfield 15, 24), none, none, some (.iload 4, 0)],
  [none, some (.iconst 1, 0), some (.isub, 0), some (.aload_n 0, 0), some (.getfield 15, 24), none, none, some (.iload 4, 0), none, some (.iconst 1, 0), some (.isub, 0), some (.iaload, 0), some (.ifCond .ne 7, 99), none, none, some (.iconst 1, 0)],
  [some (.goto 4, 100), none, none, some (.iconst 0, 0), some (.iastore, 0), some (.goto 43, 144), none, none, some (.iload 4, 0), none, some (.iconst 2, 0), some (.if_icmp .lt 37, 144), none, none, some (.iinc 4 (-1), 0), none],
  [none, some (.aload_n 0, 0), some (.getfield 15, 24), none, none, some (.iload 4, 0), none, some (.iconst 1, 0), some (.isub, 0), some (.iload 6, 0), none, some (.ineg, 0), some (.aload_n 0, 0), some (.getfield 15, 24), none, none],
  [some (.iload 4, 0), none, some (.iconst 1, 0), some (.isub, 0), some (.iaload, 0), some (.aload_n 0, 0), some (.getfield 15, 24), none, none, some (.iload 4, 0), none, some (.iaload, 0), some (.invokestatic 32, 58), none, none, some (.iastore, 0)],
  [some (.iinc 5 1, 0), none, none, some (.goto (-141), 6), none, none, some (.aload_n 0, 0), some (.getfield 15, 24), none, none, some (.iconst 0, 0), some (.iaload, 0), some (.ireturn, 0)]]
def tb_m56 : ab_M := (⟨"ScrewLeft$Text", "workedOut", "(III)I"⟩, prog_11_method_4_code, 7, (some .int), 0, 0, (2098, 2097, 1010), tb_t56)
def tb_t57 : ab_T := [
  [some (.iload_n 0, 0), some (.tableswitch 33 (-3) (-1) #[31, 29, 27], 0), none, none, none, none, none, none, none, none, none, none, none, none, none, none],
  [none, none, none, none, none, none, none, none, none, none, none, none, some (.iload_n 1, 0), some (.ireturn, 0), some (.iload_n 2, 0), some (.ireturn, 0)],
  [some (.iload_n 3, 0), some (.ireturn, 0), some (.iload_n 0, 0), some (.ireturn, 0)]]
def tb_m57 : ab_M := (⟨"ScrewLeft$Text", "valueOf", "(IIII)I"⟩, prog_11_method_5_code, 4, (some .int), 0, 0, (2101, 2100, 1010), tb_t57)
def tb_t58 : ab_T := [
  [some (.iload_n 0, 0), some (.lookupswitch 168 #[(38, 97), (42, 152), (43, 144), (45, 148), (47, 156), (60, 111), (61, 122), (62, 133), (124, 83)], 0), none, none, none, none, none, none, none, none, none, none, none, none, none, none],
  [none, none, none, none, none, none, none, none, none, none, none, none, none, none, none, none],
  [none, none, none, none, none, none, none, none, none, none, none, none, none, none, none, none],
  [none, none, none, none, none, none, none, none, none, none, none, none, none, none, none, none],
  [none, none, none, none, none, none, none, none, none, none, none, none, none, none, none, none],
  [none, none, none, none, some (.iload_n 1, 0), some (.ifCond .ne 7, 92), none, none, some (.iload_n 2, 0), some (.ifCond .eq 7, 96), none, none, some (.iconst 1, 0), some (.goto 4, 97), none, none],
  [some (.iconst 0, 0), some (.ireturn, 0), some (.iload_n 1, 0), some (.ifCond .eq 11, 110), none, none, some (.iload_n 2, 0), some (.ifCond .eq 7, 110), none, none, some (.iconst 1, 0), some (.goto 4, 111), none, none, some (.iconst 0, 0), some (.ireturn, 0)],
  [some (.iload_n 1, 0), some (.iload_n 2, 0), some (.if_icmp .ge 7, 121), none, none, some (.iconst 1, 0), some (.goto 4, 122), none, none, some (.iconst 0, 0), some (.ireturn, 0), some (.iload_n 1, 0), some (.iload_n 2, 0), some (.if_icmp .ne 7, 132), none, none],
  [some (.iconst 1, 0), some (.goto 4, 133), none, none, some (.iconst 0, 0), some (.ireturn, 0), some (.iload_n 1, 0), some (.iload_n 2, 0), some (.if_icmp .le 7, 143), none, none, some (.iconst 1, 0), some (.goto 4, 144), none, none, some (.iconst 0, 0)],
  [some (.ireturn, 0), some (.iload_n 1, 0), some (.iload_n 2, 0), some (.iadd, 0), some (.ireturn, 0), some (.iload_n 1, 0), some (.iload_n 2, 0), some (.isub, 0), some (.ireturn, 0), some (.iload_n 1, 0), some (.iload_n 2, 0), some (.imul, 0), some (.ireturn, 0), some (.iload_n 2, 0), some (.ifCond .ne 7, 165), none],
  [none, some (.iconst 0, 0), some (.goto 6, 168), none, none, some (.iload_n 1, 0), some (.iload_n 2, 0), some (.idiv, 0), some (.ireturn, 0), some (.iload_n 2, 0), some (.ifCond .ne 7, 177), none, none, some (.iconst 0, 0), some (.goto 6, 180), none],
  [none, some (.iload_n 1, 0), some (.iload_n 2, 0), some (.irem, 0), some (.ireturn, 0)]]
def tb_m58 : ab_M := (⟨"ScrewLeft$Text", "joined", "(III)I"⟩, prog_11_method_6_code, 3, (some .int), 0, 0, (2104, 2103, 1010), tb_t58)
def tb_t59 : ab_T := [
  [some (.iload_n 2, 0), some (.ifCond .lt 34, 35), none, none, some (.iload_n 2, 0), some (.aload_n 0, 0), some (.getfield 9, 23), none, none, some (.arraylength, 0), some (.if_icmp .gt 25, 35), none, none, some (.iload_n 2, 0), some (.aload_n 1, 0), some (.arraylength, 0)],
  [some (.if_icmp .gt 19, 35), none, none, some (.aload_n 1, 0), some (.iconst 0, 0), some (.aload_n 0, 0), some (.getfield 9, 23), none, none, some (.iconst 0, 0), some (.iload_n 2, 0), some (.invokestatic 18, 59), none, none, some (.aload_n 0, 0), some (.iload_n 2, 0)],
  [some (.putfield 24, 25), none, none, some (.return_, 0)]]
def tb_m59 : ab_M := (⟨"ScrewLeft$Text", "hold", "([II)V"⟩, prog_11_method_2_code, 3, none, 0, 0, (3109, 3108, 1010), tb_t59)
def tb_t60 : ab_T := [
  [some (.aload_n 0, 0), some (.invokespecial 3, 60), none, none, some (.aload_n 0, 0), some (.iconst 0, 0), some (.newarray .int, 0), none, some (.putfield 9, 26), none, none, some (.aload_n 0, 0), some (.ldc 15, 1), none, some (.putfield 17, 27), none],
  [none, some (.aload_n 0, 0), some (.bipush 50, 0), none, some (.newarray .int, 0), none, some (.putfield 21, 28), none, none, some (.return_, 0)]]
def tb_m60 : ab_M := (⟨"ScrewLeft$Reader", "<init>", "()V"⟩, prog_8_method_1_code, 1, none, 2, 50, (1186, 1185, 1011), tb_t60)
def tb_t61 : ab_T := [
  [some (.aload_n 0, 0), some (.aload_n 1, 0), some (.putfield 9, 26), none, none, some (.aload_n 0, 0), some (.iload_n 2, 0), some (.aload_n 1, 0), some (.arraylength, 0), some (.invokestatic 24, 61), none, none, some (.putfield 30, 29), none, none, some (.aload_n 0, 0)],
  [some (.aload_n 3, 0), some (.putfield 17, 27), none, none, some (.aload_n 0, 0), some (.iconst 0, 0), some (.putfield 34, 30), none, none, some (.aload_n 0, 0), some (.iconst 0, 0), some (.putfield 37, 31), none, none, some (.aload_n 0, 0), some (.iconst 0, 0)],
  [some (.putfield 41, 32), none, none, some (.aload_n 0, 0), some (.iconst 0, 0), some (.iconst 0, 0), some (.invokestatic 44, 62), none, none, some (.aload_n 0, 0), some (.getfield 37, 31), none, none, some (.ifCond .ne 14, 59), none, none],
  [some (.aload_n 0, 0), some (.getfield 34, 30), none, none, some (.aload_n 0, 0), some (.getfield 30, 29), none, none, some (.if_icmp .ge 10, 66), none, none, some (.aload_n 0, 0), some (.getfield 34, 30), none, none, some (.goto 4, 67)],
  [none, none, some (.iconst (-1), 0), some (.ireturn, 0)]]
def tb_m61 : ab_M := (⟨"ScrewLeft$Reader", "read", "([IILjava/lang/String;)I"⟩, prog_8_method_2_code, 4, (some .int), 0, 0, (2234, 2233, 1011), tb_t61)
def tb_t62 : ab_T := [
  [some (.iload_n 1, 0), some (.iconst 5, 0), some (.if_icmp .lt 9, 11), none, none, some (.aload_n 0, 0), some (.iload_n 2, 0), some (.invokestatic 48, 63), none, none, some (.return_, 0), some (.aload_n 0, 0), some (.iload_n 1, 0), some (.iconst 1, 0), some (.iadd, 0), some (.iload_n 2, 0)],
  [some (.invokestatic 44, 62), none, none, some (.iload_n 1, 0), some (.iconst 2, 0), some (.if_icmp .ne 7, 28), none, none, some (.iconst 1, 0), some (.goto 5, 30), none, none, some (.bipush 50, 0), none, some (.istore_n 3, 0), some (.iconst 0, 0)],
  [some (.istore 4, 0), none, some (.iload 4, 0), none, some (.iload_n 3, 0), some (.if_icmp .ge 51, 88), none, none, some (.iload_n 1, 0), some (.aload_n 0, 0), some (.invokevirtual 52, 64), none, none, some (.invokestatic 56, 65), none, none],
  [some (.ifCond .eq 40, 88), none, none, some (.aload_n 0, 0), some (.invokevirtual 52, 64), none, none, some (.istore 5, 0), none, some (.aload_n 0, 0), some (.dup, 0), some (.getfield 34, 30), none, none, some (.iconst 1, 0), some (.iadd, 0)],
  [some (.putfield 34, 30), none, none, some (.aload_n 0, 0), some (.iload_n 1, 0), some (.iconst 1, 0), some (.iadd, 0), some (.iload_n 2, 0), some (.invokestatic 44, 62), none, none, some (.aload_n 0, 0), some (.iload 5, 0), none, some (.ineg, 0), some (.invokevirtual 60, 66)],
  [none, none, some (.iinc 4 1, 0), none, none, some (.goto (-51), 34), none, none, some (.return_, 0)]]
def tb_m62 : ab_M := (⟨"ScrewLeft$Reader", "readRank", "(LScrewLeft$Reader;II)V"⟩, prog_8_method_5_code, 6, none, 0, 0, (2238, 2237, 1011), tb_t62)
def tb_t63 : ab_T := [
  [some (.aload_n 0, 0), some (.invokevirtual 52, 64), none, none, some (.istore_n 2, 0), some (.iload_n 2, 0), some (.ifCond .ge 7, 13), none, none, some (.iconst (-1), 0), some (.goto 12, 22), none, none, some (.aload_n 0, 0), some (.getfield 17, 27), none],
  [none, some (.iload_n 2, 0), some (.i2c, 0), some (.invokevirtual 64, 67), none, none, some (.istore_n 3, 0), some (.iload_n 2, 0), some (.invokestatic 70, 68), none, none, some (.ifCond .eq 10, 37), none, none, some (.aload_n 0, 0), some (.invokevirtual 74, 69)],
  [none, none, some (.goto 105, 139), none, none, some (.iload_n 3, 0), some (.ifCond .lt 23, 61), none, none, some (.aload_n 0, 0), some (.dup, 0), some (.getfield 34, 30), none, none, some (.iconst 1, 0), some (.iadd, 0)],
  [some (.putfield 34, 30), none, none, some (.aload_n 0, 0), some (.iconst (-1), 0), some (.iload_n 3, 0), some (.isub, 0), some (.invokevirtual 60, 66), none, none, some (.goto 81, 139), none, none, some (.iload_n 2, 0), some (.bipush 33, 0), none],
  [some (.if_icmp .ne 34, 98), none, none, some (.iload_n 1, 0), some (.iconst 5, 0), some (.if_icmp .ge 29, 98), none, none, some (.aload_n 0, 0), some (.dup, 0), some (.getfield 34, 30), none, none, some (.iconst 1, 0), some (.iadd, 0), some (.putfield 34, 30)],
  [none, none, some (.aload_n 0, 0), some (.iload_n 1, 0), some (.iconst 1, 0), some (.iadd, 0), some (.invokestatic 48, 63), none, none, some (.aload_n 0, 0), some (.bipush (-33), 0), none, some (.invokevirtual 60, 66), none, none, some (.goto 44, 139)],
  [none, none, some (.iload_n 2, 0), some (.bipush 40, 0), none, some (.if_icmp .ne 33, 134), none, none, some (.iload_n 1, 0), some (.iconst 5, 0), some (.if_icmp .ge 28, 134), none, none, some (.aload_n 0, 0), some (.dup, 0), some (.getfield 34, 30)],
  [none, none, some (.iconst 1, 0), some (.iadd, 0), some (.putfield 34, 30), none, none, some (.aload_n 0, 0), some (.iconst 0, 0), some (.iload_n 1, 0), some (.iconst 1, 0), some (.iadd, 0), some (.invokestatic 44, 62), none, none, some (.aload_n 0, 0)],
  [some (.invokevirtual 77, 70), none, none, some (.goto 8, 139), none, none, some (.aload_n 0, 0), some (.iconst 1, 0), some (.putfield 37, 31), none, none, some (.return_, 0)]]
def tb_m63 : ab_M := (⟨"ScrewLeft$Reader", "readPart", "(LScrewLeft$Reader;I)V"⟩, prog_8_method_7_code, 4, none, 0, 0, (3001, 3000, 1011), tb_t63)
def tb_t64 : ab_T := [
  [some (.aload_n 0, 0), some (.getfield 37, 31), none, none, some (.ifCond .ne 14, 18), none, none, some (.aload_n 0, 0), some (.getfield 34, 30), none, none, some (.aload_n 0, 0), some (.getfield 30, 29), none, none, some (.if_icmp .lt 7, 22)],
  [none, none, some (.iconst (-1), 0), some (.goto 12, 31), none, none, some (.aload_n 0, 0), some (.getfield 9, 26), none, none, some (.aload_n 0, 0), some (.getfield 34, 30), none, none, some (.iaload, 0), some (.ireturn, 0)]]
def tb_m64 : ab_M := (⟨"ScrewLeft$Reader", "ahead", "()I"⟩, prog_8_method_3_code, 1, (some .int), 0, 0, (3005, 3004, 1011), tb_t64)
def tb_t65 : ab_T := [
  [some (.iload_n 0, 0), some (.bipush 48, 0), none, some (.if_icmp .lt 13, 16), none, none, some (.iload_n 0, 0), some (.bipush 57, 0), none, some (.if_icmp .gt 7, 16), none, none, some (.iconst 1, 0), some (.goto 4, 17), none, none],
  [some (.iconst 0, 0), some (.ireturn, 0)]]
def tb_m65 : ab_M := (⟨"ScrewLeft$Reader", "isDigit", "(I)Z"⟩, prog_8_method_10_code, 1, (some .boolean), 0, 0, (3090, 3089, 1011), tb_t65)
def tb_t66 : ab_T := [
  [some (.iconst 0, 0), some (.istore_n 1, 0), some (.iconst 0, 0), some (.istore_n 2, 0), some (.iload_n 2, 0), some (.iconst 4, 0), some (.if_icmp .ge 42, 48), none, none, some (.aload_n 0, 0), some (.invokevirtual 52, 64), none, none, some (.invokestatic 70, 68), none, none],
  [some (.ifCond .eq 32, 48), none, none, some (.iload_n 1, 0), some (.bipush 10, 0), none, some (.imul, 0), some (.aload_n 0, 0), some (.invokevirtual 52, 64), none, none, some (.iadd, 0), some (.bipush 48, 0), none, some (.isub, 0), some (.istore_n 1, 0)],
  [some (.aload_n 0, 0), some (.dup, 0), some (.getfield 34, 30), none, none, some (.iconst 1, 0), some (.iadd, 0), some (.putfield 34, 30), none, none, some (.iinc 2 1, 0), none, none, some (.goto (-41), 4), none, none],
  [some (.aload_n 0, 0), some (.iload_n 1, 0), some (.invokevirtual 60, 66), none, none, some (.return_, 0)]]
def tb_m66 : ab_M := (⟨"ScrewLeft$Reader", "readNumber", "()V"⟩, prog_8_method_9_code, 3, none, 0, 0, (3094, 3093, 1011), tb_t66)
def tb_t67 : ab_T := [
  [some (.aload_n 0, 0), some (.getfield 41, 32), none, none, some (.aload_n 0, 0), some (.getfield 21, 28), none, none, some (.arraylength, 0), some (.if_icmp .ge 23, 32), none, none, some (.aload_n 0, 0), some (.getfield 21, 28), none, none],
  [some (.aload_n 0, 0), some (.getfield 41, 32), none, none, some (.iload_n 1, 0), some (.iastore, 0), some (.aload_n 0, 0), some (.dup, 0), some (.getfield 41, 32), none, none, some (.iconst 1, 0), some (.iadd, 0), some (.putfield 41, 32), none, none],
  [some (.return_, 0)]]
def tb_m67 : ab_M := (⟨"ScrewLeft$Reader", "write", "(I)V"⟩, prog_8_method_4_code, 2, none, 0, 0, (3098, 3097, 1011), tb_t67)
def tb_t68 : ab_T := [
  [some (.aload_n 0, 0), some (.invokevirtual 52, 64), none, none, some (.bipush 41, 0), none, some (.if_icmp .ne 16, 22), none, none, some (.aload_n 0, 0), some (.dup, 0), some (.getfield 34, 30), none, none, some (.iconst 1, 0), some (.iadd, 0)],
  [some (.putfield 34, 30), none, none, some (.goto 8, 27), none, none, some (.aload_n 0, 0), some (.iconst 1, 0), some (.putfield 37, 31), none, none, some (.return_, 0)]]
def tb_m68 : ab_M := (⟨"ScrewLeft$Reader", "close", "()V"⟩, prog_8_method_8_code, 1, none, 0, 0, (3102, 3101, 1011), tb_t68)
def tb_t69 : ab_T := [
  [some (.iload_n 0, 0), some (.tableswitch 97 0 3 #[31, 43, 55, 79], 0), none, none, none, none, none, none, none, none, none, none, none, none, none, none],
  [none, none, none, none, none, none, none, none, none, none, none, none, none, none, none, none],
  [some (.iload_n 1, 0), some (.bipush 124, 0), none, some (.if_icmp .ne 7, 42), none, none, some (.iconst 1, 0), some (.goto 4, 43), none, none, some (.iconst 0, 0), some (.ireturn, 0), some (.iload_n 1, 0), some (.bipush 38, 0), none, some (.if_icmp .ne 7, 54)],
  [none, none, some (.iconst 1, 0), some (.goto 4, 55), none, none, some (.iconst 0, 0), some (.ireturn, 0), some (.iload_n 1, 0), some (.bipush 60, 0), none, some (.if_icmp .eq 15, 74), none, none, some (.iload_n 1, 0), some (.bipush 61, 0)],
  [none, some (.if_icmp .eq 9, 74), none, none, some (.iload_n 1, 0), some (.bipush 62, 0), none, some (.if_icmp .ne 7, 78), none, none, some (.iconst 1, 0), some (.goto 4, 79), none, none, some (.iconst 0, 0), some (.ireturn, 0)],
  [some (.iload_n 1, 0), some (.bipush 43, 0), none, some (.if_icmp .eq 9, 92), none, none, some (.iload_n 1, 0), some (.bipush 45, 0), none, some (.if_icmp .ne 7, 96), none, none, some (.iconst 1, 0), some (.goto 4, 97), none, none],
  [some (.iconst 0, 0), some (.ireturn, 0), some (.iload_n 1, 0), some (.bipush 42, 0), none, some (.if_icmp .eq 15, 116), none, none, some (.iload_n 1, 0), some (.bipush 47, 0), none, some (.if_icmp .eq 9, 116), none, none, some (.iload_n 1, 0), some (.bipush 37, 0)],
  [none, some (.if_icmp .ne 7, 120), none, none, some (.iconst 1, 0), some (.goto 4, 121), none, none, some (.iconst 0, 0), some (.ireturn, 0)]]
def tb_m69 : ab_M := (⟨"ScrewLeft$Reader", "joins", "(II)Z"⟩, prog_8_method_6_code, 2, (some .boolean), 0, 0, (3105, 3104, 1011), tb_t69)
def tb_t70 : ab_T := [
  [some (.aload_n 0, 0), some (.invokespecial 1, 71), none, none, some (.aload_n 0, 0), some (.bipush 40, 0), none, some (.newarray .int, 0), none, some (.putfield 7, 33), none, none, some (.return_, 0)]]
def tb_m70 : ab_M := (⟨"ScrewLeft$Voice", "<init>", "()V"⟩, prog_12_method_1_code, 1, none, 1, 40, (1218, 1217, 1012), tb_t70)
def tb_t71 : ab_T := [
  [some (.aload_n 0, 0), some (.iconst 0, 0), some (.putfield 13, 34), none, none, some (.aload_n 0, 0), some (.iload_n 1, 0), some (.putfield 17, 35), none, none, some (.aload_n 0, 0), some (.iload_n 2, 0), some (.putfield 20, 36), none, none, some (.return_, 0)]]
def tb_m71 : ab_M := (⟨"ScrewLeft$Voice", "start", "(II)V"⟩, prog_12_method_2_code, 3, none, 0, 0, (4021, 4020, 1012), tb_t71)
def tb_t72 : ab_T := [
  [some (.aload_n 0, 0), some (.getfield 13, 34), none, none, some (.aload_n 0, 0), some (.getfield 7, 33), none, none, some (.arraylength, 0), some (.if_icmp .ge 23, 32), none, none, some (.aload_n 0, 0), some (.getfield 7, 33), none, none],
  [some (.aload_n 0, 0), some (.getfield 13, 34), none, none, some (.iload_n 1, 0), some (.iastore, 0), some (.aload_n 0, 0), some (.dup, 0), some (.getfield 13, 34), none, none, some (.iconst 1, 0), some (.iadd, 0), some (.putfield 13, 34), none, none],
  [some (.return_, 0)]]
def tb_m72 : ab_M := (⟨"ScrewLeft$Voice", "begins", "(I)V"⟩, prog_12_method_3_code, 2, none, 0, 0, (4032, 4031, 1012), tb_t72)
def tb_t73 : ab_T := [
  [some (.aload_n 0, 0), some (.invokespecial 1, 72), none, none, some (.aload_n 0, 0), some (.invokestatic 7, 73), none, none, some (.putfield 13, 37), none, none, some (.aload_n 0, 0), some (.new 17, 1), none, none, some (.dup, 0)],
  [some (.aload_n 0, 0), some (.getfield 13, 37), none, none, some (.invokespecial 19, 74), none, none, some (.putfield 22, 38), none, none, some (.aload_n 0, 0), some (.new 17, 1), none, none, some (.dup, 0), some (.aload_n 0, 0)],
  [some (.getfield 13, 37), none, none, some (.invokespecial 19, 74), none, none, some (.putfield 26, 39), none, none, some (.aload_n 0, 0), some (.new 17, 1), none, none, some (.dup, 0), some (.aload_n 0, 0), some (.getfield 13, 37)],
  [none, none, some (.invokespecial 19, 74), none, none, some (.putfield 29, 40), none, none, some (.aload_n 0, 0), some (.new 32, 2), none, none, some (.dup, 0), some (.invokespecial 34, 75), none, none],
  [some (.putfield 35, 41), none, none, some (.aload_n 0, 0), some (.new 39, 3), none, none, some (.dup, 0), some (.invokespecial 41, 76), none, none, some (.putfield 42, 42), none, none, some (.aload_n 0, 0), some (.bipush 6, 0)],
  [none, some (.newarray .int, 0), none, some (.putfield 46, 43), none, none, some (.aload_n 0, 0), some (.iconst 4, 0), some (.bipush 40, 0), none, some (.multianewarray 50 2, 4), none, none, none, some (.putfield 52, 44), none],
  [none, some (.aload_n 0, 0), some (.iconst 4, 0), some (.newarray .int, 0), none, some (.putfield 55, 45), none, none, some (.aload_n 0, 0), some (.iconst 4, 0), some (.newarray .int, 0), none, some (.putfield 58, 46), none, none, some (.aload_n 0, 0)],
  [some (.iconst 5, 0), some (.newarray .int, 0), none, some (.putfield 61, 47), none, none, some (.aload_n 0, 0), some (.iconst 5, 0), some (.newarray .int, 0), none, some (.putfield 64, 48), none, none, some (.return_, 0)]]
def tb_m73 : ab_M := (⟨"ScrewLeft", "<init>", "()V"⟩, prog_1_method_1_code, 1, none, 62, 1274, (1026, 1025, 1001), tb_t73)
def tb_t74 : ab_T := [
  [some (.getstatic 138, 1033), none, none, some (.arraylength, 0), some (.anewarray 247, 5), none, none, some (.astore_n 0, 0), some (.aload_n 0, 0), some (.iconst 0, 0), some (.new 247, 5), none, none, some (.dup, 0), some (.invokespecial 316, 77), none],
  [none, some (.aastore, 0), some (.aload_n 0, 0), some (.iconst 1, 0), some (.new 317, 6), none, none, some (.dup, 0), some (.invokespecial 319, 78), none, none, some (.aastore, 0), some (.aload_n 0, 0), some (.iconst 2, 0), some (.new 320, 7), none],
  [none, some (.dup, 0), some (.invokespecial 322, 79), none, none, some (.aastore, 0), some (.aload_n 0, 0), some (.iconst 3, 0), some (.new 323, 8), none, none, some (.dup, 0), some (.invokespecial 325, 80), none, none, some (.aastore, 0)],
  [some (.aload_n 0, 0), some (.iconst 4, 0), some (.new 326, 9), none, none, some (.dup, 0), some (.invokespecial 328, 81), none, none, some (.aastore, 0), some (.aload_n 0, 0), some (.iconst 5, 0), some (.new 329, 10), none, none, some (.dup, 0)],
  [some (.invokespecial 331, 82), none, none, some (.aastore, 0), some (.aload_n 0, 0), some (.bipush 6, 0), none, some (.new 332, 11), none, none, some (.dup, 0), some (.invokespecial 334, 83), none, none, some (.aastore, 0), some (.aload_n 0, 0)],
  [some (.areturn, 0)]]
def tb_m74 : ab_M := (⟨"ScrewLeft", "allKinds", "()[LScrewLeft$Step;"⟩, prog_1_method_52_code, 1, (some (.array (.object "ScrewLeft$Step"))), 8, 7, (1032, 1031, 1001), tb_t74)
def tb_t75 : ab_T := [
  [some (.iload_n 1, 0), some (.iconst 0, 0), some (.bipush 69, 0), none, some (.invokestatic 67, 84), none, none, some (.ifCond .eq 17, 24), none, none, some (.iload_n 2, 0), some (.iconst 0, 0), some (.bipush 9, 0), none, some (.invokestatic 67, 84), none],
  [none, some (.ifCond .eq 7, 24), none, none, some (.iconst 1, 0), some (.goto 4, 25), none, none, some (.iconst 0, 0), some (.istore 4, 0), none, some (.iload 4, 0), none, some (.ifCond .eq 22, 51), none, none],
  [some (.iload_n 3, 0), some (.iconst 0, 0), some (.iconst 1, 0), some (.aload_n 0, 0), some (.getfield 22, 38), none, none, some (.getfield 71, 49), none, none, some (.ishl, 0), some (.iconst 1, 0), some (.isub, 0), some (.invokestatic 67, 84), none, none],
  [some (.ifCond .ne 9, 57), none, none, some (.aload_n 0, 0), some (.iconst 1, 0), some (.invokevirtual 75, 85), none, none, some (.ireturn, 0), some (.aload_n 0, 0), some (.getfield 22, 38), none, none, some (.getfield 71, 49), none, none],
  [some (.bipush 8, 0), none, some (.if_icmp .lt 9, 75), none, none, some (.aload_n 0, 0), some (.iconst 4, 0), some (.invokevirtual 75, 85), none, none, some (.ireturn, 0), some (.aload_n 0, 0), some (.getfield 22, 38), none, none, some (.iload_n 1, 0)],
  [some (.iload_n 2, 0), some (.iload_n 3, 0), some (.invokevirtual 79, 86), none, none, some (.ireturn, 0)]]
def tb_m75 : ab_M := (⟨"ScrewLeft", "step", "(III)I"⟩, prog_1_method_2_code, 5, (some .int), 0, 0, (2043, 2041, 1001), tb_t75)
def tb_t76 : ab_T := [
  [some (.iload_n 0, 0), some (.iload_n 1, 0), some (.if_icmp .lt 12, 14), none, none, some (.iload_n 0, 0), some (.iload_n 2, 0), some (.if_icmp .gt 7, 14), none, none, some (.iconst 1, 0), some (.goto 4, 15), none, none, some (.iconst 0, 0), some (.ireturn, 0)]]
def tb_m76 : ab_M := (⟨"ScrewLeft", "within", "(III)Z"⟩, prog_1_method_49_code, 3, (some .boolean), 0, 0, (2046, 2045, 1001), tb_t76)
def tb_t77 : ab_T := [
  [some (.iload_n 1, 0), some (.iconst 1, 0), some (.iconst 5, 0), some (.invokestatic 67, 84), none, none, some (.ifCond .eq 13, 19), none, none, some (.aload_n 0, 0), some (.getfield 46, 43), none, none, some (.iload_n 1, 0), some (.dup2, 0), some (.iaload, 0)],
  [some (.iconst 1, 0), some (.iadd, 0), some (.iastore, 0), some (.ldc_w 315, 2), none, none, some (.iload_n 1, 0), some (.isub, 0), some (.ireturn, 0)]]
def tb_m77 : ab_M := (⟨"ScrewLeft", "error", "(I)I"⟩, prog_1_method_48_code, 2, (some .int), 0, 0, (2050, 2049, 1001), tb_t77)
def tb_t78 : ab_T := [
  [some (.aload_n 0, 0), some (.getfield 22, 38), none, none, some (.iload_n 1, 0), some (.invokevirtual 83, 87), none, none, some (.ifCond .ne 9, 17), none, none, some (.aload_n 0, 0), some (.iconst 1, 0), some (.invokevirtual 75, 85), none, none],
  [some (.ireturn, 0), some (.iload_n 2, 0), some (.tableswitch 180 0 9 #[54, 64, 74, 84, 94, 111, 128, 137, 146, 163], 0), none, none, none, none, none, none, none, none, none, none, none, none, none],
  [none, none, none, none, none, none, none, none, none, none, none, none, none, none, none, none],
  [none, none, none, none, none, none, none, none, none, none, none, none, none, none, none, none],
  [none, none, none, none, none, none, none, none, some (.aload_n 0, 0), some (.getfield 22, 38), none, none, some (.getfield 87, 50), none, none, some (.iload_n 1, 0)],
  [some (.iaload, 0), some (.ireturn, 0), some (.aload_n 0, 0), some (.getfield 22, 38), none, none, some (.getfield 90, 51), none, none, some (.iload_n 1, 0), some (.iaload, 0), some (.ireturn, 0), some (.aload_n 0, 0), some (.getfield 22, 38), none, none],
  [some (.getfield 93, 52), none, none, some (.iload_n 1, 0), some (.iaload, 0), some (.ireturn, 0), some (.aload_n 0, 0), some (.getfield 22, 38), none, none, some (.getfield 96, 53), none, none, some (.iload_n 1, 0), some (.iaload, 0), some (.ireturn, 0)],
  [some (.aload_n 0, 0), some (.getfield 22, 38), none, none, some (.iload_n 1, 0), some (.invokevirtual 99, 88), none, none, some (.ifCond .eq 7, 127), none, none, some (.iconst 1, 0), some (.goto 4, 128), none, none, some (.iconst 0, 0)],
  [some (.ireturn, 0), some (.aload_n 0, 0), some (.getfield 22, 38), none, none, some (.iload_n 1, 0), some (.invokevirtual 102, 89), none, none, some (.ifCond .eq 7, 144), none, none, some (.iconst 1, 0), some (.goto 4, 145), none, none],
  [some (.iconst 0, 0), some (.ireturn, 0), some (.aload_n 0, 0), some (.getfield 22, 38), none, none, some (.iload_n 1, 0), some (.invokevirtual 105, 90), none, none, some (.ireturn, 0), some (.aload_n 0, 0), some (.getfield 22, 38), none, none, some (.iload_n 1, 0)],
  [some (.invokevirtual 108, 91), none, none, some (.ireturn, 0), some (.aload_n 0, 0), some (.getfield 22, 38), none, none, some (.iload_n 1, 0), some (.invokevirtual 111, 92), none, none, some (.ifCond .eq 7, 179), none, none, some (.iconst 1, 0)],
  [some (.goto 4, 180), none, none, some (.iconst 0, 0), some (.ireturn, 0), some (.aload_n 0, 0), some (.getfield 22, 38), none, none, some (.iload_n 1, 0), some (.invokevirtual 114, 93), none, none, some (.ifCond .eq 7, 196), none, none],
  [some (.iconst 1, 0), some (.goto 4, 197), none, none, some (.iconst 0, 0), some (.ireturn, 0), some (.aload_n 0, 0), some (.iconst 1, 0), some (.invokevirtual 75, 85), none, none, some (.ireturn, 0)]]
def tb_m78 : ab_M := (⟨"ScrewLeft", "ofStep", "(II)I"⟩, prog_1_method_3_code, 3, (some .int), 0, 0, (2059, 2057, 1001), tb_t78)
def tb_t79 : ab_T := [
  [some (.iload_n 0, 0), some (.iload_n 1, 0), some (.iushr, 0), some (.iconst 1, 0), some (.iand, 0), some (.iconst 1, 0), some (.if_icmp .ne 7, 13), none, none, some (.iconst 1, 0), some (.goto 4, 14), none, none, some (.iconst 0, 0), some (.ireturn, 0)]]
def tb_m79 : ab_M := (⟨"ScrewLeft", "isIn", "(II)Z"⟩, prog_1_method_50_code, 2, (some .boolean), 0, 0, (2070, 2069, 1001), tb_t79)
def tb_t80 : ab_T := [
  [some (.aload_n 0, 0), some (.getfield 22, 38), none, none, some (.iload_n 1, 0), some (.invokevirtual 83, 87), none, none, some (.ifCond .eq 16, 24), none, none, some (.iload_n 3, 0), some (.iconst 0, 0), some (.iload_n 1, 0), some (.iload_n 2, 0), some (.invokestatic 117, 94)],
  [none, none, some (.invokestatic 67, 84), none, none, some (.ifCond .ne 9, 30), none, none, some (.aload_n 0, 0), some (.iconst 1, 0), some (.invokevirtual 75, 85), none, none, some (.ireturn, 0), some (.iload_n 2, 0), some (.ifCond .ne 27, 58)],
  [none, none, some (.aload_n 0, 0), some (.getfield 22, 38), none, none, some (.getfield 93, 52), none, none, some (.iload_n 1, 0), some (.iaload, 0), some (.istore 4, 0), none, some (.aload_n 0, 0), some (.getfield 22, 38), none],
  [none, some (.getfield 93, 52), none, none, some (.iload_n 1, 0), some (.iload_n 3, 0), some (.iastore, 0), some (.goto 95, 150), none, none, some (.iload_n 2, 0), some (.iconst 1, 0), some (.if_icmp .ne 27, 87), none, none, some (.aload_n 0, 0)],
  [some (.getfield 22, 38), none, none, some (.getfield 96, 53), none, none, some (.iload_n 1, 0), some (.iaload, 0), some (.istore 4, 0), none, some (.aload_n 0, 0), some (.getfield 22, 38), none, none, some (.getfield 96, 53), none],
  [none, some (.iload_n 1, 0), some (.iload_n 3, 0), some (.iastore, 0), some (.goto 66, 150), none, none, some (.aload_n 0, 0), some (.getfield 22, 38), none, none, some (.iload_n 1, 0), some (.invokevirtual 99, 88), none, none, some (.ifCond .ne 9, 104)],
  [none, none, some (.aload_n 0, 0), some (.iconst 3, 0), some (.invokevirtual 75, 85), none, none, some (.ireturn, 0), some (.aload_n 0, 0), some (.getfield 22, 38), none, none, some (.iload_n 1, 0), some (.invokevirtual 102, 89), none, none],
  [some (.ifCond .eq 7, 119), none, none, some (.iconst 1, 0), some (.goto 4, 120), none, none, some (.iconst 0, 0), some (.istore 4, 0), none, some (.aload_n 0, 0), some (.getfield 22, 38), none, none, some (.aload_n 0, 0), some (.getfield 22, 38)],
  [none, none, some (.getfield 121, 54), none, none, some (.iload_n 1, 0), some (.iload_n 3, 0), some (.iconst 1, 0), some (.if_icmp .ne 7, 143), none, none, some (.iconst 1, 0), some (.goto 4, 144), none, none, some (.iconst 0, 0)],
  [some (.invokestatic 124, 95), none, none, some (.putfield 121, 54), none, none, some (.iload 4, 0), none, some (.ireturn, 0)]]
def tb_m80 : ab_M := (⟨"ScrewLeft", "change", "(III)I"⟩, prog_1_method_4_code, 5, (some .int), 0, 0, (2195, 2193, 1001), tb_t80)
def tb_t81 : ab_T := [
  [some (.iload_n 1, 0), some (.tableswitch 38 0 2 #[27, 30, 36], 0), none, none, none, none, none, none, none, none, none, none, none, none, none, none],
  [none, none, none, none, none, none, none, none, none, none, none, none, some (.bipush 9, 0), none, some (.ireturn, 0), some (.iconst 1, 0)],
  [some (.iload_n 0, 0), some (.ishl, 0), some (.iconst 1, 0), some (.isub, 0), some (.ireturn, 0), some (.iconst 1, 0), some (.ireturn, 0), some (.iconst (-1), 0), some (.ireturn, 0)]]
def tb_m81 : ab_M := (⟨"ScrewLeft", "mostToChange", "(II)I"⟩, prog_1_method_5_code, 2, (some .int), 0, 0, (2198, 2197, 1001), tb_t81)
def tb_t82 : ab_T := [
  [some (.iload_n 2, 0), some (.ifCond .eq 11, 12), none, none, some (.iload_n 0, 0), some (.iconst 1, 0), some (.iload_n 1, 0), some (.ishl, 0), some (.ior, 0), some (.goto 10, 19), none, none, some (.iload_n 0, 0), some (.iconst 1, 0), some (.iload_n 1, 0), some (.ishl, 0)],
  [some (.iconst (-1), 0), some (.ixor, 0), some (.iand, 0), some (.ireturn, 0)]]
def tb_m82 : ab_M := (⟨"ScrewLeft", "with", "(IIZ)I"⟩, prog_1_method_51_code, 3, (some .int), 0, 0, (2201, 2200, 1001), tb_t82)
def tb_t83 : ab_T := [
  [some (.iload_n 1, 0), some (.ifCond .ne 31, 32), none, none, some (.iload_n 2, 0), some (.iconst 1, 0), some (.iconst 2, 0), some (.invokestatic 67, 84), none, none, some (.ifCond .eq 22, 32), none, none, some (.aload_n 0, 0), some (.getfield 22, 38), none],
  [none, some (.getfield 128, 55), none, none, some (.istore_n 3, 0), some (.aload_n 0, 0), some (.getfield 22, 38), none, none, some (.iload_n 2, 0), some (.putfield 128, 55), none, none, some (.goto 78, 107), none, none],
  [some (.iload_n 1, 0), some (.iconst 1, 0), some (.if_icmp .ne 33, 67), none, none, some (.iload_n 2, 0), some (.iconst 0, 0), some (.sipush 999, 0), none, none, some (.invokestatic 67, 84), none, none, some (.ifCond .eq 22, 67), none, none],
  [some (.aload_n 0, 0), some (.getfield 22, 38), none, none, some (.getfield 131, 56), none, none, some (.istore_n 3, 0), some (.aload_n 0, 0), some (.getfield 22, 38), none, none, some (.iload_n 2, 0), some (.putfield 131, 56), none, none],
  [some (.goto 43, 107), none, none, some (.iload_n 1, 0), some (.iconst 2, 0), some (.if_icmp .ne 32, 101), none, none, some (.iload_n 2, 0), some (.iconst 0, 0), some (.ldc 134, 3), none, some (.invokestatic 67, 84), none, none, some (.ifCond .eq 22, 101)],
  [none, none, some (.aload_n 0, 0), some (.getfield 22, 38), none, none, some (.getfield 135, 57), none, none, some (.istore_n 3, 0), some (.aload_n 0, 0), some (.getfield 22, 38), none, none, some (.iload_n 2, 0), some (.putfield 135, 57)],
  [none, none, some (.goto 9, 107), none, none, some (.aload_n 0, 0), some (.iconst 1, 0), some (.invokevirtual 75, 85), none, none, some (.ireturn, 0), some (.iload_n 3, 0), some (.ireturn, 0)]]
def tb_m83 : ab_M := (⟨"ScrewLeft", "set", "(II)I"⟩, prog_1_method_6_code, 4, (some .int), 0, 0, (2205, 2203, 1001), tb_t83)
def tb_t84 : ab_T := [
  [some (.aload_n 0, 0), some (.getfield 22, 38), none, none, some (.iload_n 1, 0), some (.invokevirtual 83, 87), none, none, some (.ifCond .eq 13, 21), none, none, some (.iload_n 2, 0), some (.iconst 0, 0), some (.bipush 69, 0), none, some (.invokestatic 67, 84)],
  [none, none, some (.ifCond .ne 9, 27), none, none, some (.aload_n 0, 0), some (.iconst 1, 0), some (.invokevirtual 75, 85), none, none, some (.ireturn, 0), some (.aload_n 0, 0), some (.getfield 22, 38), none, none, some (.getfield 87, 50)],
  [none, none, some (.iload_n 1, 0), some (.iaload, 0), some (.istore_n 3, 0), some (.aload_n 0, 0), some (.getfield 22, 38), none, none, some (.getfield 87, 50), none, none, some (.iload_n 1, 0), some (.iload_n 2, 0), some (.bipush 10, 0), none],
  [some (.idiv, 0), some (.iastore, 0), some (.aload_n 0, 0), some (.getfield 22, 38), none, none, some (.getfield 90, 51), none, none, some (.iload_n 1, 0), some (.iload_n 2, 0), some (.bipush 10, 0), none, some (.irem, 0), some (.iastore, 0), some (.iload_n 3, 0)],
  [some (.ireturn, 0)]]
def tb_m84 : ab_M := (⟨"ScrewLeft", "become", "(II)I"⟩, prog_1_method_7_code, 4, (some .int), 0, 0, (2210, 2208, 1001), tb_t84)
def tb_t85 : ab_T := [
  [some (.aload_n 0, 0), some (.getfield 22, 38), none, none, some (.iload_n 1, 0), some (.invokevirtual 83, 87), none, none, some (.ifCond .eq 17, 25), none, none, some (.iload_n 2, 0), some (.iconst 0, 0), some (.getstatic 138, 1033), none, none],
  [some (.arraylength, 0), some (.iconst 1, 0), some (.isub, 0), some (.invokestatic 67, 84), none, none, some (.ifCond .ne 9, 31), none, none, some (.aload_n 0, 0), some (.iconst 1, 0), some (.invokevirtual 75, 85), none, none, some (.ireturn, 0), some (.aload_n 0, 0)],
  [some (.getfield 22, 38), none, none, some (.getfield 87, 50), none, none, some (.iload_n 1, 0), some (.iaload, 0), some (.iload_n 2, 0), some (.invokestatic 141, 96), none, none, some (.ifCond .ne 9, 53), none, none, some (.aload_n 0, 0)],
  [some (.iconst 5, 0), some (.invokevirtual 75, 85), none, none, some (.ireturn, 0), some (.aload_n 0, 0), some (.getfield 22, 38), none, none, some (.getfield 90, 51), none, none, some (.iload_n 1, 0), some (.iaload, 0), some (.ireturn, 0)]]
def tb_m85 : ab_M := (⟨"ScrewLeft", "as", "(II)I"⟩, prog_1_method_8_code, 3, (some .int), 0, 0, (2214, 2212, 1001), tb_t85)
def tb_t86 : ab_T := [
  [some (.iload_n 0, 0), some (.iconst 0, 0), some (.getstatic 138, 1033), none, none, some (.arraylength, 0), some (.iconst 1, 0), some (.isub, 0), some (.invokestatic 67, 84), none, none, some (.ifCond .ne 5, 16), none, none, some (.iconst 0, 0), some (.ireturn, 0)],
  [some (.iload_n 0, 0), some (.iload_n 1, 0), some (.if_icmp .eq 16, 34), none, none, some (.getstatic 138, 1033), none, none, some (.iload_n 0, 0), some (.iaload, 0), some (.iload_n 1, 0), some (.if_icmp .eq 7, 34), none, none, some (.iload_n 1, 0), some (.ifCond .ne 7, 38)],
  [none, none, some (.iconst 1, 0), some (.goto 4, 39), none, none, some (.iconst 0, 0), some (.ireturn, 0)]]
def tb_m86 : ab_M := (⟨"ScrewLeft", "isOf", "(II)Z"⟩, prog_1_method_9_code, 2, (some .boolean), 0, 0, (2217, 2216, 1001), tb_t86)
def tb_t87 : ab_T := [
  [some (.iload_n 3, 0), some (.iconst 1, 0), some (.bipush 8, 0), none, some (.invokestatic 67, 84), none, none, some (.ifCond .ne 9, 16), none, none, some (.aload_n 0, 0), some (.iconst 1, 0), some (.invokevirtual 75, 85), none, none, some (.ireturn, 0)],
  [some (.aload_n 0, 0), some (.getfield 22, 38), none, none, some (.getfield 145, 58), none, none, some (.iload_n 3, 0), some (.iadd, 0), some (.bipush 50, 0), none, some (.if_icmp .le 9, 36), none, none, some (.aload_n 0, 0), some (.iconst 4, 0)],
  [some (.invokevirtual 75, 85), none, none, some (.ireturn, 0), some (.iconst 0, 0), some (.istore 4, 0), none, some (.iload 4, 0), none, some (.iload_n 3, 0), some (.if_icmp .ge 49, 91), none, none, some (.aload_n 0, 0), some (.getfield 22, 38), none],
  [none, some (.getfield 148, 59), none, none, some (.aload_n 0, 0), some (.getfield 22, 38), none, none, some (.getfield 145, 58), none, none, some (.lload_n 1, 0), some (.bipush 8, 0), none, some (.iload 4, 0), none],
  [some (.imul, 0), some (.lushr, 0), some (.l2i, 0), some (.sipush 255, 0), none, none, some (.iand, 0), some (.iastore, 0), some (.aload_n 0, 0), some (.getfield 22, 38), none, none, some (.dup, 0), some (.getfield 145, 58), none, none],
  [some (.iconst 1, 0), some (.iadd, 0), some (.putfield 145, 58), none, none, some (.iinc 4 1, 0), none, none, some (.goto (-49), 39), none, none, some (.aload_n 0, 0), some (.getfield 22, 38), none, none, some (.getfield 145, 58)],
  [none, none, some (.ireturn, 0)]]
def tb_m87 : ab_M := (⟨"ScrewLeft", "feed", "(JI)I"⟩, prog_1_method_10_code, 5, (some .int), 0, 0, (2221, 2219, 1001), tb_t87)
def tb_t88 : ab_T := [
  [some (.iload_n 1, 0), some (.invokestatic 151, 97), none, none, some (.ifCond .ne 9, 13), none, none, some (.aload_n 0, 0), some (.iconst 1, 0), some (.invokevirtual 75, 85), none, none, some (.ireturn, 0), some (.aload_n 0, 0), some (.getfield 35, 41), none],
  [none, some (.aload_n 0, 0), some (.getfield 22, 38), none, none, some (.getfield 148, 59), none, none, some (.aload_n 0, 0), some (.getfield 22, 38), none, none, some (.getfield 145, 58), none, none, some (.iload_n 1, 0)],
  [some (.ifCond .ne 8, 40), none, none, some (.ldc 154, 4), none, some (.goto 5, 42), none, none, some (.ldc 156, 5), none, some (.invokevirtual 158, 98), none, none, some (.istore_n 2, 0), some (.aload_n 0, 0), some (.getfield 22, 38)],
  [none, none, some (.iconst 0, 0), some (.putfield 145, 58), none, none, some (.iload_n 2, 0), some (.ifCond .lt 8, 63), none, none, some (.bipush (-10), 0), none, some (.iload_n 2, 0), some (.isub, 0), some (.ireturn, 0), some (.iload_n 1, 0)],
  [some (.ifCond .ne 13, 77), none, none, some (.aload_n 0, 0), some (.getfield 22, 38), none, none, some (.getfield 162, 60), none, none, some (.goto 10, 84), none, none, some (.aload_n 0, 0), some (.getfield 22, 38), none],
  [none, some (.getfield 166, 61), none, none, some (.astore_n 3, 0), some (.aload_n 3, 0), some (.aload_n 0, 0), some (.getfield 35, 41), none, none, some (.getfield 169, 62), none, none, some (.aload_n 0, 0), some (.getfield 35, 41), none],
  [none, some (.getfield 172, 63), none, none, some (.invokevirtual 175, 99), none, none, some (.iconst 1, 0), some (.ireturn, 0)]]
def tb_m88 : ab_M := (⟨"ScrewLeft", "text", "(I)I"⟩, prog_1_method_11_code, 4, (some .int), 0, 0, (2225, 2223, 1001), tb_t88)
def tb_t89 : ab_T := [
  [some (.iload_n 0, 0), some (.ifCond .eq 8, 9), none, none, some (.iload_n 0, 0), some (.iconst 1, 0), some (.if_icmp .ne 7, 13), none, none, some (.iconst 1, 0), some (.goto 4, 14), none, none, some (.iconst 0, 0), some (.ireturn, 0)]]
def tb_m89 : ab_M := (⟨"ScrewLeft", "isUse", "(I)Z"⟩, prog_1_method_13_code, 1, (some .boolean), 0, 0, (2228, 2227, 1001), tb_t89)
def tb_t90 : ab_T := [
  [some (.iload_n 1, 0), some (.invokestatic 151, 97), none, none, some (.ifCond .ne 9, 13), none, none, some (.aload_n 0, 0), some (.iconst 1, 0), some (.invokevirtual 75, 85), none, none, some (.ireturn, 0), some (.iload_n 1, 0), some (.ifCond .ne 17, 31), none],
  [none, some (.aload_n 0, 0), some (.getfield 22, 38), none, none, some (.iload_n 2, 0), some (.iload_n 3, 0), some (.iload 4, 0), none, some (.invokevirtual 181, 100), none, none, some (.goto 14, 42), none, none, some (.aload_n 0, 0)],
  [some (.getfield 22, 38), none, none, some (.iload_n 2, 0), some (.iload_n 3, 0), some (.iload 4, 0), none, some (.invokevirtual 184, 101), none, none, some (.ireturn, 0)]]
def tb_m90 : ab_M := (⟨"ScrewLeft", "law", "(IIII)I"⟩, prog_1_method_12_code, 5, (some .int), 0, 0, (3116, 3114, 1001), tb_t90)
def tb_t91 : ab_T := [
  [some (.aload_n 0, 0), some (.getfield 22, 38), none, none, some (.iload_n 1, 0), some (.invokevirtual 83, 87), none, none, some (.ifCond .ne 9, 17), none, none, some (.aload_n 0, 0), some (.iconst 1, 0), some (.invokevirtual 75, 85), none, none],
  [some (.ireturn, 0), some (.aload_n 0, 0), some (.getfield 22, 38), none, none, some (.iload_n 1, 0), some (.invokevirtual 111, 92), none, none, some (.ifCond .eq 24, 49), none, none, some (.aload_n 0, 0), some (.getfield 22, 38), none, none],
  [some (.getfield 135, 57), none, none, some (.aload_n 0, 0), some (.getfield 22, 38), none, none, some (.iload_n 1, 0), some (.invokevirtual 105, 90), none, none, some (.iadd, 0), some (.ldc 134, 3), none, some (.if_icmp .le 9, 55), none],
  [none, some (.aload_n 0, 0), some (.iconst 3, 0), some (.invokevirtual 75, 85), none, none, some (.ireturn, 0), some (.aload_n 0, 0), some (.getfield 22, 38), none, none, some (.iload_n 1, 0), some (.invokevirtual 187, 102), none, none, some (.aload_n 0, 0)],
  [some (.getfield 22, 38), none, none, some (.iload_n 1, 0), some (.invokevirtual 102, 89), none, none, some (.ifCond .eq 7, 78), none, none, some (.iconst 1, 0), some (.goto 4, 79), none, none, some (.iconst 0, 0), some (.ireturn, 0)]]
def tb_m91 : ab_M := (⟨"ScrewLeft", "does", "(I)I"⟩, prog_1_method_14_code, 2, (some .int), 0, 0, (3125, 3123, 1001), tb_t91)
def tb_t92 : ab_T := [
  [some (.aload_n 0, 0), some (.getfield 22, 38), none, none, some (.iload_n 1, 0), some (.invokevirtual 83, 87), none, none, some (.ifCond .ne 9, 17), none, none, some (.aload_n 0, 0), some (.iconst 1, 0), some (.invokevirtual 75, 85), none, none],
  [some (.ireturn, 0), some (.aload_n 0, 0), some (.getfield 22, 38), none, none, some (.iload_n 1, 0), some (.invokevirtual 114, 93), none, none, some (.ifCond .eq 24, 49), none, none, some (.aload_n 0, 0), some (.getfield 22, 38), none, none],
  [some (.getfield 135, 57), none, none, some (.aload_n 0, 0), some (.getfield 22, 38), none, none, some (.iload_n 1, 0), some (.invokevirtual 108, 91), none, none, some (.iadd, 0), some (.ldc 134, 3), none, some (.if_icmp .le 9, 55), none],
  [none, some (.aload_n 0, 0), some (.iconst 3, 0), some (.invokevirtual 75, 85), none, none, some (.ireturn, 0), some (.aload_n 0, 0), some (.getfield 22, 38), none, none, some (.iload_n 1, 0), some (.invokevirtual 191, 103), none, none, some (.aload_n 0, 0)],
  [some (.getfield 22, 38), none, none, some (.getfield 131, 56), none, none, some (.ireturn, 0)]]
def tb_m92 : ab_M := (⟨"ScrewLeft", "undo", "(I)I"⟩, prog_1_method_15_code, 2, (some .int), 0, 0, (3139, 3137, 1001), tb_t92)
def tb_t93 : ab_T := [
  [some (.iload_n 1, 0), some (.iconst 1, 0), some (.bipush 40, 0), none, some (.invokestatic 67, 84), none, none, some (.ifCond .ne 9, 16), none, none, some (.aload_n 0, 0), some (.iconst 1, 0), some (.invokevirtual 75, 85), none, none, some (.ireturn, 0)],
  [some (.aload_n 0, 0), some (.getfield 22, 38), none, none, some (.getfield 135, 57), none, none, some (.iload_n 1, 0), some (.sipush 300, 0), none, none, some (.imul, 0), some (.iadd, 0), some (.ldc 134, 3), none, some (.if_icmp .le 9, 40)],
  [none, none, some (.aload_n 0, 0), some (.iconst 3, 0), some (.invokevirtual 75, 85), none, none, some (.ireturn, 0), some (.iconst 0, 0), some (.istore_n 2, 0), some (.iconst 0, 0), some (.istore_n 3, 0), some (.iload_n 3, 0), some (.iload_n 1, 0), some (.if_icmp .ge 85, 131), none],
  [none, some (.aload_n 0, 0), some (.getfield 22, 38), none, none, some (.invokevirtual 194, 104), none, none, some (.bipush 8, 0), none, some (.irem, 0), some (.istore 4, 0), none, some (.aload_n 0, 0), some (.getfield 22, 38), none],
  [none, some (.iload 4, 0), none, some (.invokevirtual 111, 92), none, none, some (.ifCond .eq 18, 88), none, none, some (.aload_n 0, 0), some (.getfield 22, 38), none, none, some (.iload 4, 0), none, some (.invokevirtual 187, 102)],
  [none, none, some (.iinc 2 1, 0), none, none, some (.goto 40, 125), none, none, some (.aload_n 0, 0), some (.getfield 22, 38), none, none, some (.iload 4, 0), none, some (.invokevirtual 114, 93), none],
  [none, some (.ifCond .eq 15, 112), none, none, some (.aload_n 0, 0), some (.getfield 22, 38), none, none, some (.iload 4, 0), none, some (.invokevirtual 191, 103), none, none, some (.goto 16, 125), none, none],
  [some (.aload_n 0, 0), some (.getfield 22, 38), none, none, some (.dup, 0), some (.getfield 135, 57), none, none, some (.iconst 1, 0), some (.iadd, 0), some (.putfield 135, 57), none, none, some (.iinc 3 1, 0), none, none],
  [some (.goto (-84), 44), none, none, some (.iload_n 2, 0), some (.ireturn, 0)]]
def tb_m93 : ab_M := (⟨"ScrewLeft", "loose", "(I)I"⟩, prog_1_method_16_code, 5, (some .int), 0, 0, (3148, 3146, 1001), tb_t93)
def tb_t94 : ab_T := [
  [some (.iload_n 1, 0), some (.iconst 0, 0), some (.iconst 1, 0), some (.invokestatic 67, 84), none, none, some (.ifCond .ne 9, 15), none, none, some (.aload_n 0, 0), some (.iconst 1, 0), some (.invokevirtual 75, 85), none, none, some (.ireturn, 0), some (.iconst 0, 0)],
  [some (.istore_n 2, 0), some (.iconst 0, 0), some (.istore_n 3, 0), some (.iload_n 3, 0), some (.aload_n 0, 0), some (.getfield 22, 38), none, none, some (.getfield 71, 49), none, none, some (.if_icmp .ge 42, 69), none, none, some (.iload_n 1, 0), some (.ifCond .ne 14, 45)],
  [none, none, some (.aload_n 0, 0), some (.getfield 22, 38), none, none, some (.iload_n 3, 0), some (.invokevirtual 111, 92), none, none, some (.goto 11, 53), none, none, some (.aload_n 0, 0), some (.getfield 22, 38), none],
  [none, some (.iload_n 3, 0), some (.invokevirtual 114, 93), none, none, some (.istore 4, 0), none, some (.iload_n 2, 0), some (.iload_n 3, 0), some (.iload 4, 0), none, some (.invokestatic 124, 95), none, none, some (.istore_n 2, 0), some (.iinc 3 1, 0)],
  [none, none, some (.goto (-47), 19), none, none, some (.iload_n 2, 0), some (.ireturn, 0)]]
def tb_m94 : ab_M := (⟨"ScrewLeft", "next", "(I)I"⟩, prog_1_method_17_code, 5, (some .int), 0, 0, (3157, 3155, 1001), tb_t94)
def tb_t95 : ab_T := [
  [some (.iload_n 1, 0), some (.iconst 0, 0), some (.iconst 2, 0), some (.invokestatic 67, 84), none, none, some (.ifCond .ne 9, 15), none, none, some (.aload_n 0, 0), some (.iconst 1, 0), some (.invokevirtual 75, 85), none, none, some (.ireturn, 0), some (.aload_n 0, 0)],
  [some (.getfield 29, 40), none, none, some (.aload_n 0, 0), some (.getfield 22, 38), none, none, some (.invokevirtual 198, 105), none, none, some (.iconst 0, 0), some (.istore_n 2, 0), some (.iload_n 2, 0), some (.bipush 8, 0), none, some (.if_icmp .ge 29, 60)],
  [none, none, some (.aload_n 0, 0), some (.getfield 29, 40), none, none, some (.invokevirtual 202, 106), none, none, some (.istore_n 3, 0), some (.iload_n 3, 0), some (.ifCond .lt 11, 54), none, none, some (.aload_n 0, 0), some (.getfield 29, 40)],
  [none, none, some (.iload_n 3, 0), some (.invokevirtual 187, 102), none, none, some (.iinc 2 1, 0), none, none, some (.goto (-29), 28), none, none, some (.iload_n 1, 0), some (.ifCond .ne 19, 80), none, none],
  [some (.aload_n 0, 0), some (.getfield 29, 40), none, none, some (.getfield 135, 57), none, none, some (.aload_n 0, 0), some (.getfield 22, 38), none, none, some (.getfield 135, 57), none, none, some (.isub, 0), some (.ireturn, 0)],
  [some (.iload_n 1, 0), some (.iconst 1, 0), some (.if_icmp .ne 13, 95), none, none, some (.aload_n 0, 0), some (.getfield 29, 40), none, none, some (.invokevirtual 205, 107), none, none, some (.goto 13, 105), none, none, some (.aload_n 0, 0)],
  [some (.getfield 29, 40), none, none, some (.getfield 121, 54), none, none, some (.invokestatic 208, 108), none, none, some (.ireturn, 0)]]
def tb_m95 : ab_M := (⟨"ScrewLeft", "all", "(I)I"⟩, prog_1_method_18_code, 4, (some .int), 0, 0, (3161, 3159, 1001), tb_t95)
def tb_t96 : ab_T := [
  [some (.iload_n 1, 0), some (.iconst (-1), 0), some (.iconst 4, 0), some (.invokestatic 67, 84), none, none, some (.ifCond .ne 9, 15), none, none, some (.aload_n 0, 0), some (.iconst 1, 0), some (.invokevirtual 75, 85), none, none, some (.ireturn, 0), some (.aload_n 0, 0)],
  [some (.getfield 22, 38), none, none, some (.invokevirtual 205, 107), none, none, some (.istore_n 2, 0), some (.iload_n 2, 0), some (.iconst 5, 0), some (.if_icmp .le 9, 34), none, none, some (.aload_n 0, 0), some (.iconst 3, 0), some (.invokevirtual 75, 85), none],
  [none, some (.ireturn, 0), some (.aload_n 0, 0), some (.getfield 29, 40), none, none, some (.aload_n 0, 0), some (.getfield 22, 38), none, none, some (.invokevirtual 198, 105), none, none, some (.aload_n 0, 0), some (.getfield 29, 40), none],
  [none, some (.aload_n 0, 0), some (.getfield 61, 47), none, none, some (.aload_n 0, 0), some (.getfield 64, 48), none, none, some (.iconst 0, 0), some (.iconst (-1), 0), some (.invokestatic 213, 109), none, none, some (.istore_n 3, 0), some (.iload_n 3, 0)],
  [some (.ifCond .lt 8, 72), none, none, some (.iload_n 1, 0), some (.iload_n 2, 0), some (.if_icmp .lt 9, 78), none, none, some (.aload_n 0, 0), some (.iconst 2, 0), some (.invokevirtual 75, 85), none, none, some (.ireturn, 0), some (.iload_n 1, 0), some (.ifCond .ge 15, 94)],
  [none, none, some (.iload_n 3, 0), some (.aload_n 0, 0), some (.getfield 22, 38), none, none, some (.getfield 135, 57), none, none, some (.isub, 0), some (.goto 9, 100), none, none, some (.aload_n 0, 0), some (.getfield 64, 48)],
  [none, none, some (.iload_n 1, 0), some (.iaload, 0), some (.ireturn, 0)]]
def tb_m96 : ab_M := (⟨"ScrewLeft", "order", "(I)I"⟩, prog_1_method_19_code, 4, (some .int), 0, 0, (3187, 3185, 1001), tb_t96)
def tb_t97 : ab_T := [
  [some (.aload_n 0, 0), some (.invokevirtual 205, 107), none, none, some (.ifCond .ne 34, 38), none, none, some (.iload 4, 0), none, some (.ifCond .lt 15, 24), none, none, some (.aload_n 0, 0), some (.getfield 135, 57), none, none],
  [some (.iload 4, 0), none, some (.if_icmp .lt 6, 24), none, none, some (.iload 4, 0), none, some (.ireturn, 0), some (.aload_n 1, 0), some (.iconst 0, 0), some (.aload_n 2, 0), some (.iconst 0, 0), some (.aload_n 2, 0), some (.arraylength, 0), some (.invokestatic 217, 110), none],
  [none, some (.aload_n 0, 0), some (.getfield 135, 57), none, none, some (.ireturn, 0), some (.iload_n 3, 0), some (.ifCond .lt 9, 48), none, none, some (.iload_n 3, 0), some (.aload_n 1, 0), some (.arraylength, 0), some (.if_icmp .lt 6, 51), none, none],
  [some (.iload 4, 0), none, some (.ireturn, 0), some (.aload_n 0, 0), some (.getfield 131, 56), none, none, some (.istore 5, 0), none, some (.aload_n 0, 0), some (.getfield 135, 57), none, none, some (.istore 6, 0), none, some (.iload 4, 0)],
  [none, some (.istore 7, 0), none, some (.iconst 0, 0), some (.istore 8, 0), none, some (.iload 8, 0), none, some (.aload_n 0, 0), some (.getfield 71, 49), none, none, some (.if_icmp .ge 52, 128), none, none, some (.aload_n 0, 0)],
  [some (.iload 8, 0), none, some (.invokevirtual 111, 92), none, none, some (.ifCond .eq 37, 122), none, none, some (.aload_n 1, 0), some (.iload_n 3, 0), some (.iload 8, 0), none, some (.iastore, 0), some (.aload_n 0, 0), some (.iload 8, 0), none],
  [some (.invokevirtual 223, 111), none, none, some (.aload_n 0, 0), some (.aload_n 1, 0), some (.aload_n 2, 0), some (.iload_n 3, 0), some (.iconst 1, 0), some (.iadd, 0), some (.iload 7, 0), none, some (.invokestatic 213, 109), none, none, some (.istore 7, 0), none],
  [some (.aload_n 0, 0), some (.iload 8, 0), none, some (.iload 5, 0), none, some (.iload 6, 0), none, some (.invokevirtual 226, 112), none, none, some (.iinc 8 1, 0), none, none, some (.goto (-55), 70), none, none],
  [some (.iload 7, 0), none, some (.ireturn, 0)]]
def tb_m97 : ab_M := (⟨"ScrewLeft", "seekBest", "(LScrewLeft$Job;[I[III)I"⟩, prog_1_method_20_code, 9, (some .int), 0, 0, (3190, 3189, 1001), tb_t97)
def tb_t98 : ab_T := [
  [some (.aload_n 0, 0), some (.getfield 22, 38), none, none, some (.iload_n 1, 0), some (.invokevirtual 83, 87), none, none, some (.ifCond .ne 9, 17), none, none, some (.aload_n 0, 0), some (.iconst 1, 0), some (.invokevirtual 75, 85), none, none],
  [some (.ireturn, 0), some (.aload_n 0, 0), some (.getfield 22, 38), none, none, some (.iload_n 1, 0), some (.invokevirtual 99, 88), none, none, some (.ifCond .eq 14, 39), none, none, some (.aload_n 0, 0), some (.getfield 22, 38), none, none],
  [some (.iload_n 1, 0), some (.invokevirtual 230, 113), none, none, some (.goto 8, 44), none, none, some (.aload_n 0, 0), some (.iconst 3, 0), some (.invokevirtual 75, 85), none, none, some (.ireturn, 0)]]
def tb_m98 : ab_M := (⟨"ScrewLeft", "under", "(I)I"⟩, prog_1_method_21_code, 2, (some .int), 0, 0, (3200, 3198, 1001), tb_t98)
def tb_t99 : ab_T := [
  [some (.aload_n 0, 0), some (.getfield 22, 38), none, none, some (.iload_n 1, 0), some (.invokevirtual 83, 87), none, none, some (.ifCond .eq 12, 20), none, none, some (.iload_n 2, 0), some (.iconst 0, 0), some (.iconst 1, 0), some (.invokestatic 67, 84), none],
  [none, some (.ifCond .ne 9, 26), none, none, some (.aload_n 0, 0), some (.iconst 1, 0), some (.invokevirtual 75, 85), none, none, some (.ireturn, 0), some (.aload_n 0, 0), some (.getfield 22, 38), none, none, some (.iload_n 1, 0), some (.invokevirtual 99, 88)],
  [none, none, some (.ifCond .ne 9, 43), none, none, some (.aload_n 0, 0), some (.iconst 3, 0), some (.invokevirtual 75, 85), none, none, some (.ireturn, 0), some (.iload_n 2, 0), some (.ifCond .ne 9, 53), none, none, some (.aload_n 0, 0)],
  [some (.iload_n 1, 0), some (.invokevirtual 233, 114), none, none, some (.ireturn, 0), some (.aload_n 0, 0), some (.iload_n 1, 0), some (.invokevirtual 236, 115), none, none, some (.ifCond .eq 7, 65), none, none, some (.iconst 1, 0), some (.goto 4, 66), none],
  [none, some (.iconst 0, 0), some (.ireturn, 0)]]
def tb_m99 : ab_M := (⟨"ScrewLeft", "goBack", "(II)I"⟩, prog_1_method_22_code, 3, (some .int), 0, 0, (3208, 3206, 1001), tb_t99)
def tb_t100 : ab_T := [
  [some (.aload_n 0, 0), some (.getfield 22, 38), none, none, some (.iload_n 1, 0), some (.invokevirtual 230, 113), none, none, some (.iload_n 1, 0), some (.iconst 1, 0), some (.invokestatic 124, 95), none, none, some (.istore_n 2, 0), some (.aload_n 0, 0), some (.getfield 29, 40)],
  [none, none, some (.aload_n 0, 0), some (.getfield 22, 38), none, none, some (.invokevirtual 198, 105), none, none, some (.aload_n 0, 0), some (.getfield 22, 38), none, none, some (.getfield 71, 49), none, none],
  [some (.iconst 1, 0), some (.isub, 0), some (.istore_n 3, 0), some (.iload_n 3, 0), some (.iload_n 1, 0), some (.if_icmp .lt 37, 74), none, none, some (.iload_n 2, 0), some (.iload_n 3, 0), some (.invokestatic 239, 116), none, none, some (.ifCond .eq 23, 68), none, none],
  [some (.aload_n 0, 0), some (.getfield 29, 40), none, none, some (.dup, 0), some (.getfield 135, 57), none, none, some (.aload_n 0, 0), some (.getfield 29, 40), none, none, some (.iload_n 3, 0), some (.invokevirtual 108, 91), none, none],
  [some (.iadd, 0), some (.putfield 135, 57), none, none, some (.iinc 3 (-1), 0), none, none, some (.goto (-36), 35), none, none, some (.iload_n 1, 0), some (.istore_n 3, 0), some (.iload_n 3, 0), some (.aload_n 0, 0), some (.getfield 22, 38), none],
  [none, some (.getfield 71, 49), none, none, some (.if_icmp .ge 37, 121), none, none, some (.iload_n 2, 0), some (.iload_n 3, 0), some (.invokestatic 239, 116), none, none, some (.ifCond .eq 23, 115), none, none, some (.aload_n 0, 0)],
  [some (.getfield 29, 40), none, none, some (.dup, 0), some (.getfield 135, 57), none, none, some (.aload_n 0, 0), some (.getfield 29, 40), none, none, some (.iload_n 3, 0), some (.invokevirtual 105, 90), none, none, some (.iadd, 0)],
  [some (.putfield 135, 57), none, none, some (.iinc 3 1, 0), none, none, some (.goto (-42), 76), none, none, some (.aload_n 0, 0), some (.getfield 29, 40), none, none, some (.getfield 135, 57), none, none],
  [some (.aload_n 0, 0), some (.getfield 22, 38), none, none, some (.getfield 135, 57), none, none, some (.isub, 0), some (.ireturn, 0)]]
def tb_m100 : ab_M := (⟨"ScrewLeft", "minutesBackTo", "(I)I"⟩, prog_1_method_23_code, 4, (some .int), 0, 0, (3212, 3211, 1001), tb_t100)
def tb_t101 : ab_T := [
  [some (.aload_n 0, 0), some (.getfield 22, 38), none, none, some (.iload_n 1, 0), some (.invokevirtual 230, 113), none, none, some (.iload_n 1, 0), some (.iconst 1, 0), some (.invokestatic 124, 95), none, none, some (.istore_n 2, 0), some (.iconst 0, 0), some (.istore_n 3, 0)],
  [some (.iload_n 1, 0), some (.istore 4, 0), none, some (.iload 4, 0), none, some (.aload_n 0, 0), some (.getfield 22, 38), none, none, some (.getfield 71, 49), none, none, some (.if_icmp .ge 43, 71), none, none, some (.iload_n 3, 0)],
  [some (.ifCond .ne 27, 59), none, none, some (.iload_n 2, 0), some (.iload 4, 0), none, some (.invokestatic 239, 116), none, none, some (.ifCond .eq 22, 63), none, none, some (.aload_n 0, 0), some (.getfield 22, 38), none, none],
  [some (.iload 4, 0), none, some (.invokevirtual 242, 117), none, none, some (.invokevirtual 246, 118), none, none, some (.ifCond .eq 7, 63), none, none, some (.iconst 1, 0), some (.goto 4, 64), none, none, some (.iconst 0, 0)],
  [some (.istore_n 3, 0), some (.iinc 4 1, 0), none, none, some (.goto (-49), 19), none, none, some (.iload_n 3, 0), some (.ireturn, 0)]]
def tb_m101 : ab_M := (⟨"ScrewLeft", "isBlocked", "(I)Z"⟩, prog_1_method_24_code, 5, (some .boolean), 0, 0, (3217, 3216, 1001), tb_t101)
def tb_t102 : ab_T := [
  [some (.aload_n 0, 0), some (.getfield 22, 38), none, none, some (.getfield 131, 56), none, none, some (.istore_n 1, 0), some (.iconst 0, 0), some (.istore_n 2, 0), some (.iload_n 2, 0), some (.aload_n 0, 0), some (.getfield 22, 38), none, none, some (.getfield 71, 49)],
  [none, none, some (.if_icmp .ge 36, 54), none, none, some (.iload_n 1, 0), some (.aload_n 0, 0), some (.getfield 22, 38), none, none, some (.iload_n 2, 0), some (.invokevirtual 99, 88), none, none, some (.ifCond .eq 7, 37), none],
  [none, some (.iconst 0, 0), some (.goto 12, 46), none, none, some (.aload_n 0, 0), some (.getfield 22, 38), none, none, some (.getfield 93, 52), none, none, some (.iload_n 2, 0), some (.iaload, 0), some (.isub, 0), some (.istore_n 1, 0)],
  [some (.iinc 2 1, 0), none, none, some (.goto (-41), 10), none, none, some (.iload_n 1, 0), some (.ireturn, 0)]]
def tb_m102 : ab_M := (⟨"ScrewLeft", "left", "()I"⟩, prog_1_method_25_code, 3, (some .int), 0, 0, (3223, 3221, 1001), tb_t102)
def tb_t103 : ab_T := [
  [some (.iload_n 1, 0), some (.iconst 0, 0), some (.bipush 99, 0), none, some (.invokestatic 67, 84), none, none, some (.ifCond .eq 12, 19), none, none, some (.iload_n 2, 0), some (.iconst 0, 0), some (.iconst 1, 0), some (.invokestatic 67, 84), none, none],
  [some (.ifCond .ne 9, 25), none, none, some (.aload_n 0, 0), some (.iconst 1, 0), some (.invokevirtual 75, 85), none, none, some (.ireturn, 0), some (.iconst 0, 0), some (.istore_n 3, 0), some (.iconst (-1), 0), some (.istore 4, 0), none, some (.iconst 1, 0), some (.aload_n 0, 0)],
  [some (.getfield 22, 38), none, none, some (.getfield 71, 49), none, none, some (.ishl, 0), some (.iconst 1, 0), some (.isub, 0), some (.istore 5, 0), none, some (.iload 5, 0), none, some (.ifCond .lt 44, 89), none, none],
  [some (.iload 5, 0), none, some (.aload_n 0, 0), some (.getfield 22, 38), none, none, some (.getfield 252, 64), none, none, some (.iconst (-1), 0), some (.ixor, 0), some (.iand, 0), some (.ifCond .ne 23, 83), none, none, some (.aload_n 0, 0)],
  [some (.getfield 22, 38), none, none, some (.iload 5, 0), none, some (.invokevirtual 255, 119), none, none, some (.iload_n 1, 0), some (.if_icmp .ne 10, 83), none, none, some (.iinc 3 1, 0), none, none, some (.iload 5, 0)],
  [none, some (.istore 4, 0), none, some (.iinc 5 (-1), 0), none, none, some (.goto (-43), 43), none, none, some (.iload_n 2, 0), some (.ifCond .ne 5, 95), none, none, some (.iload_n 3, 0), some (.ireturn, 0), some (.iload 4, 0)],
  [none, some (.ifCond .lt 8, 105), none, none, some (.iload 4, 0), none, some (.goto 8, 110), none, none, some (.aload_n 0, 0), some (.iconst 2, 0), some (.invokevirtual 75, 85), none, none, some (.ireturn, 0)]]
def tb_m103 : ab_M := (⟨"ScrewLeft", "whose", "(II)I"⟩, prog_1_method_26_code, 6, (some .int), 0, 0, (3227, 3225, 1001), tb_t103)
def tb_t104 : ab_T := [
  [some (.iconst (-1), 0), some (.istore_n 1, 0), some (.iconst 0, 0), some (.istore_n 2, 0), some (.iconst 0, 0), some (.istore_n 3, 0), some (.iload_n 3, 0), some (.aload_n 0, 0), some (.getfield 22, 38), none, none, some (.getfield 71, 49), none, none, some (.if_icmp .ge 50, 64), none],
  [none, some (.aload_n 0, 0), some (.getfield 22, 38), none, none, some (.iload_n 3, 0), some (.invokevirtual 102, 89), none, none, some (.ifCond .eq 33, 58), none, none, some (.aload_n 0, 0), some (.iload_n 3, 0), some (.invokevirtual 236, 115), none],
  [none, some (.ifCond .ne 25, 58), none, none, some (.aload_n 0, 0), some (.iload_n 3, 0), some (.invokevirtual 233, 114), none, none, some (.istore 4, 0), none, some (.iload_n 1, 0), some (.ifCond .lt 9, 53), none, none, some (.iload 4, 0)],
  [none, some (.iload_n 2, 0), some (.if_icmp .ge 8, 58), none, none, some (.iload_n 3, 0), some (.istore_n 1, 0), some (.iload 4, 0), none, some (.istore_n 2, 0), some (.iinc 3 1, 0), none, none, some (.goto (-55), 6), none, none],
  [some (.iload_n 1, 0), some (.ifCond .lt 7, 72), none, none, some (.iload_n 1, 0), some (.goto 8, 77), none, none, some (.aload_n 0, 0), some (.iconst 2, 0), some (.invokevirtual 75, 85), none, none, some (.ireturn, 0)]]
def tb_m104 : ab_M := (⟨"ScrewLeft", "lookAt", "()I"⟩, prog_1_method_27_code, 5, (some .int), 0, 0, (3235, 3233, 1001), tb_t104)
def tb_t105 : ab_T := [
  [some (.iload_n 1, 0), some (.invokestatic 258, 120), none, none, some (.ifCond .eq 12, 16), none, none, some (.iload_n 2, 0), some (.iconst 0, 0), some (.iconst 1, 0), some (.invokestatic 67, 84), none, none, some (.ifCond .ne 9, 22), none, none],
  [some (.aload_n 0, 0), some (.iconst 1, 0), some (.invokevirtual 75, 85), none, none, some (.ireturn, 0), some (.aload_n 0, 0), some (.getfield 58, 46), none, none, some (.iload_n 1, 0), some (.iaload, 0), some (.ifCond .eq 17, 45), none, none, some (.aload_n 0, 0)],
  [some (.getfield 55, 45), none, none, some (.iload_n 1, 0), some (.iaload, 0), some (.iconst 1, 0), some (.iconst 4, 0), some (.invokestatic 67, 84), none, none, some (.ifCond .ne 9, 51), none, none, some (.aload_n 0, 0), some (.iconst 2, 0), some (.invokevirtual 75, 85)],
  [none, none, some (.ireturn, 0), some (.iconst 0, 0), some (.istore_n 3, 0), some (.iconst (-1), 0), some (.istore 4, 0), none, some (.aload_n 0, 0), some (.getfield 29, 40), none, none, some (.aload_n 0, 0), some (.getfield 22, 38), none, none],
  [some (.invokevirtual 198, 105), none, none, some (.iconst 0, 0), some (.istore 5, 0), none, some (.iload 5, 0), none, some (.aload_n 0, 0), some (.getfield 22, 38), none, none, some (.getfield 71, 49), none, none, some (.if_icmp .ge 57, 136)],
  [none, none, some (.aload_n 0, 0), some (.getfield 29, 40), none, none, some (.iload 5, 0), none, some (.aload_n 0, 0), some (.getfield 52, 44), none, none, some (.iload_n 1, 0), some (.aaload, 0), some (.aload_n 0, 0), some (.getfield 55, 45)],
  [none, none, some (.iload_n 1, 0), some (.iaload, 0), some (.iconst 0, 0), some (.invokestatic 261, 121), none, none, some (.istore 6, 0), none, some (.iload 4, 0), none, some (.ifCond .ge 13, 121), none, none, some (.iload 6, 0)],
  [none, some (.ifCond .le 8, 121), none, none, some (.iload 5, 0), none, some (.goto 5, 123), none, none, some (.iload 4, 0), none, some (.istore 4, 0), none, some (.iload_n 3, 0), some (.iload 6, 0), none],
  [some (.iadd, 0), some (.istore_n 3, 0), some (.iinc 5 1, 0), none, none, some (.goto (-63), 70), none, none, some (.iload_n 2, 0), some (.ifCond .ne 5, 142), none, none, some (.iload_n 3, 0), some (.ireturn, 0), some (.iload 4, 0), none],
  [some (.ifCond .lt 8, 152), none, none, some (.iload 4, 0), none, some (.goto 8, 157), none, none, some (.aload_n 0, 0), some (.iconst 2, 0), some (.invokevirtual 75, 85), none, none, some (.ireturn, 0)]]
def tb_m105 : ab_M := (⟨"ScrewLeft", "orders", "(II)I"⟩, prog_1_method_28_code, 7, (some .int), 0, 0, (3239, 3237, 1001), tb_t105)
def tb_t106 : ab_T := [
  [some (.iload_n 0, 0), some (.iconst 0, 0), some (.iconst 3, 0), some (.invokestatic 67, 84), none, none, some (.ireturn, 0)]]
def tb_m106 : ab_M := (⟨"ScrewLeft", "isSheet", "(I)Z"⟩, prog_1_method_41_code, 1, (some .boolean), 0, 0, (4002, 4001, 1001), tb_t106)
def tb_t107 : ab_T := [
  [some (.iload 4, 0), none, some (.ifCond .lt 24, 26), none, none, some (.iload 4, 0), none, some (.iload_n 3, 0), some (.if_icmp .ge 18, 26), none, none, some (.iload 4, 0), none, some (.aload_n 2, 0), some (.arraylength, 0), some (.if_icmp .ge 11, 26)],
  [none, none, some (.aload_n 0, 0), some (.iload_n 1, 0), some (.invokevirtual 111, 92), none, none, some (.ifCond .ne 5, 28), none, none, some (.iconst 0, 0), some (.ireturn, 0), some (.aload_n 0, 0), some (.iload_n 1, 0), some (.invokevirtual 105, 90), none],
  [none, some (.aload_n 2, 0), some (.iload 4, 0), none, some (.iaload, 0), some (.if_icmp .eq 5, 42), none, none, some (.iconst 0, 0), some (.ireturn, 0), some (.iload 4, 0), none, some (.iload_n 3, 0), some (.iconst 1, 0), some (.isub, 0), some (.if_icmp .ne 5, 52)],
  [none, none, some (.iconst 1, 0), some (.ireturn, 0), some (.aload_n 0, 0), some (.getfield 131, 56), none, none, some (.istore 5, 0), none, some (.aload_n 0, 0), some (.getfield 135, 57), none, none, some (.istore 6, 0), none],
  [some (.iconst 0, 0), some (.istore 7, 0), none, some (.aload_n 0, 0), some (.iload_n 1, 0), some (.invokevirtual 223, 111), none, none, some (.iconst 0, 0), some (.istore 8, 0), none, some (.iload 8, 0), none, some (.aload_n 0, 0), some (.getfield 71, 49), none],
  [none, some (.if_icmp .ge 26, 107), none, none, some (.iload 7, 0), none, some (.aload_n 0, 0), some (.iload 8, 0), none, some (.aload_n 2, 0), some (.iload_n 3, 0), some (.iload 4, 0), none, some (.iconst 1, 0), some (.iadd, 0), some (.invokestatic 261, 121)],
  [none, none, some (.iadd, 0), some (.istore 7, 0), none, some (.iinc 8 1, 0), none, none, some (.goto (-29), 75), none, none, some (.aload_n 0, 0), some (.iload_n 1, 0), some (.iload 5, 0), none, some (.iload 6, 0)],
  [none, some (.invokevirtual 226, 112), none, none, some (.iload 7, 0), none, some (.ireturn, 0)]]
def tb_m107 : ab_M := (⟨"ScrewLeft", "ordersFrom", "(LScrewLeft$Job;I[III)I"⟩, prog_1_method_29_code, 9, (some .int), 0, 0, (4005, 4004, 1001), tb_t107)
def tb_t108 : ab_T := [
  [some (.aload_n 0, 0), some (.getfield 22, 38), none, none, some (.iload_n 1, 0), some (.invokevirtual 83, 87), none, none, some (.ifCond .eq 12, 20), none, none, some (.iload_n 2, 0), some (.iconst 0, 0), some (.iconst 1, 0), some (.invokestatic 67, 84), none],
  [none, some (.ifCond .ne 9, 26), none, none, some (.aload_n 0, 0), some (.iconst 1, 0), some (.invokevirtual 75, 85), none, none, some (.ireturn, 0), some (.iconst 0, 0), some (.istore_n 3, 0), some (.iconst 0, 0), some (.istore 4, 0), none, some (.iload 4, 0)],
  [none, some (.bipush 9, 0), none, some (.if_icmp .gt 41, 76), none, none, some (.iload_n 3, 0), some (.iconst 1, 0), some (.aload_n 0, 0), some (.getfield 22, 38), none, none, some (.aload_n 0, 0), some (.getfield 22, 38), none, none],
  [some (.getfield 90, 51), none, none, some (.iload_n 1, 0), some (.iaload, 0), some (.iload 4, 0), none, some (.aload_n 0, 0), some (.getfield 22, 38), none, none, some (.getfield 87, 50), none, none, some (.iload_n 1, 0), some (.iaload, 0)],
  [some (.invokevirtual 184, 101), none, none, some (.isub, 0), some (.iadd, 0), some (.istore_n 3, 0), some (.iinc 4 1, 0), none, none, some (.goto (-42), 31), none, none, some (.bipush 10, 0), none, some (.istore 4, 0), none],
  [some (.iload 4, 0), none, some (.istore 5, 0), none, some (.iload 5, 0), none, some (.iconst 1, 0), some (.if_icmp .le 36, 123), none, none, some (.iload_n 3, 0), some (.iload 5, 0), none, some (.irem, 0), some (.ifCond .ne 23, 117), none],
  [none, some (.iload 4, 0), none, some (.iload 5, 0), none, some (.irem, 0), some (.ifCond .ne 15, 117), none, none, some (.iload_n 3, 0), some (.iload 5, 0), none, some (.idiv, 0), some (.istore_n 3, 0), some (.iload 4, 0), none],
  [some (.iload 5, 0), none, some (.idiv, 0), some (.istore 4, 0), none, some (.iinc 5 (-1), 0), none, none, some (.goto (-36), 84), none, none, some (.iload_n 2, 0), some (.ifCond .ne 7, 131), none, none, some (.iload_n 3, 0)],
  [some (.goto 5, 133), none, none, some (.iload 4, 0), none, some (.ireturn, 0)]]
def tb_m108 : ab_M := (⟨"ScrewLeft", "odds", "(II)I"⟩, prog_1_method_30_code, 6, (some .int), 0, 0, (4009, 4007, 1001), tb_t108)
def tb_t109 : ab_T := [
  [some (.aload_n 0, 0), some (.getfield 22, 38), none, none, some (.getfield 265, 65), none, none, some (.istore_n 2, 0), some (.aload_n 0, 0), some (.getfield 22, 38), none, none, some (.iload_n 1, 0), some (.putfield 265, 65), none, none],
  [some (.iload_n 2, 0), some (.ireturn, 0)]]
def tb_m109 : ab_M := (⟨"ScrewLeft", "seed", "(I)I"⟩, prog_1_method_31_code, 3, (some .int), 0, 0, (4013, 4011, 1001), tb_t109)
def tb_t110 : ab_T := [
  [some (.aload_n 0, 0), some (.getfield 22, 38), none, none, some (.iload_n 1, 0), some (.invokevirtual 83, 87), none, none, some (.ifCond .eq 12, 20), none, none, some (.iload_n 2, 0), some (.iconst 0, 0), some (.iconst 3, 0), some (.invokestatic 67, 84), none],
  [none, some (.ifCond .ne 9, 26), none, none, some (.aload_n 0, 0), some (.iconst 1, 0), some (.invokevirtual 75, 85), none, none, some (.ireturn, 0), some (.aload_n 0, 0), some (.getfield 42, 42), none, none, some (.iload_n 1, 0), some (.aload_n 0, 0)],
  [some (.getfield 22, 38), none, none, some (.getfield 90, 51), none, none, some (.iload_n 1, 0), some (.iaload, 0), some (.invokevirtual 268, 122), none, none, some (.aload_n 0, 0), some (.getfield 22, 38), none, none, some (.iload_n 1, 0)],
  [some (.invokevirtual 242, 117), none, none, some (.astore 4, 0), none, some (.iload_n 2, 0), some (.tableswitch 59 0 2 #[26, 37, 48], 0), none, none, none, none, none, none, none, none, none],
  [none, none, none, none, none, none, none, none, none, none, none, none, none, none, none, none],
  [some (.aload 4, 0), none, some (.aload_n 0, 0), some (.getfield 42, 42), none, none, some (.iload_n 3, 0), some (.invokevirtual 272, 123), none, none, some (.ireturn, 0), some (.aload 4, 0), none, some (.aload_n 0, 0), some (.getfield 42, 42), none],
  [none, some (.iload_n 3, 0), some (.invokevirtual 276, 124), none, none, some (.ireturn, 0), some (.aload 4, 0), none, some (.aload_n 0, 0), some (.getfield 42, 42), none, none, some (.iload_n 3, 0), some (.invokevirtual 279, 125), none, none],
  [some (.ireturn, 0), some (.aload 4, 0), none, some (.aload_n 0, 0), some (.getfield 42, 42), none, none, some (.iload_n 3, 0), some (.invokevirtual 282, 126), none, none, some (.ireturn, 0)]]
def tb_m110 : ab_M := (⟨"ScrewLeft", "voice", "(III)I"⟩, prog_1_method_32_code, 5, (some .int), 0, 0, (4017, 4015, 1001), tb_t110)
def tb_t111 : ab_T := [
  [some (.iload_n 1, 0), some (.iconst 0, 0), some (.aload_n 0, 0), some (.getfield 42, 42), none, none, some (.getfield 285, 66), none, none, some (.iconst 1, 0), some (.isub, 0), some (.invokestatic 67, 84), none, none, some (.ifCond .eq 15, 29), none],
  [none, some (.aload_n 0, 0), some (.getfield 42, 42), none, none, some (.getfield 288, 67), none, none, some (.iload_n 1, 0), some (.iaload, 0), some (.goto 8, 34), none, none, some (.aload_n 0, 0), some (.iconst 2, 0), some (.invokevirtual 75, 85)],
  [none, none, some (.ireturn, 0)]]
def tb_m111 : ab_M := (⟨"ScrewLeft", "trace", "(I)I"⟩, prog_1_method_33_code, 2, (some .int), 0, 0, (4111, 4109, 1001), tb_t111)
def tb_t112 : ab_T := [
  [some (.iload_n 2, 0), some (.ifCond .eq 21, 22), none, none, some (.iload_n 2, 0), some (.bipush 8, 0), none, some (.if_icmp .eq 15, 22), none, none, some (.iload_n 2, 0), some (.bipush 16, 0), none, some (.if_icmp .eq 9, 22), none, none],
  [some (.iload_n 2, 0), some (.bipush 32, 0), none, some (.if_icmp .ne 7, 26), none, none, some (.iconst 1, 0), some (.goto 4, 27), none, none, some (.iconst 0, 0), some (.istore 4, 0), none, some (.iload_n 1, 0), some (.invokestatic 258, 120), none],
  [none, some (.ifCond .eq 8, 41), none, none, some (.iload 4, 0), none, some (.ifCond .ne 9, 47), none, none, some (.aload_n 0, 0), some (.iconst 1, 0), some (.invokevirtual 75, 85), none, none, some (.ireturn, 0), some (.iload_n 2, 0)],
  [some (.ifCond .eq 25, 73), none, none, some (.iload_n 3, 0), some (.ifCond .ge 9, 61), none, none, some (.aload_n 0, 0), some (.iconst 3, 0), some (.invokevirtual 75, 85), none, none, some (.ireturn, 0), some (.iload_n 3, 0), some (.bipush 40, 0), none],
  [some (.if_icmp .le 9, 73), none, none, some (.aload_n 0, 0), some (.iconst 1, 0), some (.invokevirtual 75, 85), none, none, some (.ireturn, 0), some (.aload_n 0, 0), some (.getfield 58, 46), none, none, some (.iload_n 1, 0), some (.iload_n 2, 0), some (.iastore, 0)],
  [some (.aload_n 0, 0), some (.getfield 55, 45), none, none, some (.iload_n 1, 0), some (.iload_n 2, 0), some (.ifCond .ne 7, 93), none, none, some (.iconst 0, 0), some (.goto 4, 94), none, none, some (.iload_n 3, 0), some (.iastore, 0), some (.iconst 0, 0)],
  [some (.istore 5, 0), none, some (.iload 5, 0), none, some (.bipush 40, 0), none, some (.if_icmp .ge 19, 121), none, none, some (.aload_n 0, 0), some (.getfield 52, 44), none, none, some (.iload_n 1, 0), some (.aaload, 0), some (.iload 5, 0)],
  [none, some (.iconst 0, 0), some (.iastore, 0), some (.iinc 5 1, 0), none, none, some (.goto (-20), 98), none, none, some (.iconst 1, 0), some (.ireturn, 0)]]
def tb_m112 : ab_M := (⟨"ScrewLeft", "sheet", "(III)I"⟩, prog_1_method_34_code, 6, (some .int), 0, 0, (4115, 4113, 1001), tb_t112)
def tb_t113 : ab_T := [
  [some (.iload_n 1, 0), some (.invokestatic 258, 120), none, none, some (.ifCond .ne 9, 13), none, none, some (.aload_n 0, 0), some (.iconst 1, 0), some (.invokevirtual 75, 85), none, none, some (.ireturn, 0), some (.aload_n 0, 0), some (.getfield 58, 46), none],
  [none, some (.iload_n 1, 0), some (.iaload, 0), some (.ifCond .ne 9, 28), none, none, some (.aload_n 0, 0), some (.iconst 2, 0), some (.invokevirtual 75, 85), none, none, some (.ireturn, 0), some (.iload_n 2, 0), some (.iconst 0, 0), some (.aload_n 0, 0), some (.getfield 55, 45)],
  [none, none, some (.iload_n 1, 0), some (.iaload, 0), some (.iconst 1, 0), some (.isub, 0), some (.invokestatic 67, 84), none, none, some (.ifCond .ne 9, 50), none, none, some (.aload_n 0, 0), some (.iconst 1, 0), some (.invokevirtual 75, 85), none],
  [none, some (.ireturn, 0), some (.aload_n 0, 0), some (.getfield 52, 44), none, none, some (.iload_n 1, 0), some (.aaload, 0), some (.iload_n 2, 0), some (.iload_n 3, 0), some (.aload_n 0, 0), some (.getfield 58, 46), none, none, some (.iload_n 1, 0), some (.iaload, 0)],
  [some (.invokestatic 291, 127), none, none, some (.iastore, 0), some (.iconst 1, 0), some (.ireturn, 0)]]
def tb_m113 : ab_M := (⟨"ScrewLeft", "put", "(III)I"⟩, prog_1_method_35_code, 4, (some .int), 0, 0, (4119, 4117, 1001), tb_t113)
def tb_t114 : ab_T := [
  [some (.iload_n 1, 0), some (.bipush 8, 0), none, some (.if_icmp .ne 9, 12), none, none, some (.iload_n 0, 0), some (.sipush 255, 0), none, none, some (.iand, 0), some (.ireturn, 0), some (.iload_n 1, 0), some (.bipush 16, 0), none, some (.if_icmp .ne 11, 26)],
  [none, none, some (.iload_n 0, 0), some (.ldc_w 294, 6), none, none, some (.iand, 0), some (.goto 4, 27), none, none, some (.iload_n 0, 0), some (.ireturn, 0)]]
def tb_m114 : ab_M := (⟨"ScrewLeft", "lowestBits", "(II)I"⟩, prog_1_method_36_code, 2, (some .int), 0, 0, (4122, 4121, 1001), tb_t114)
def tb_t115 : ab_T := [
  [some (.iload_n 1, 0), some (.invokestatic 258, 120), none, none, some (.ifCond .eq 10, 14), none, none, some (.iload_n 3, 0), some (.invokestatic 258, 120), none, none, some (.ifCond .ne 9, 20), none, none, some (.aload_n 0, 0), some (.iconst 1, 0)],
  [some (.invokevirtual 75, 85), none, none, some (.ireturn, 0), some (.aload_n 0, 0), some (.getfield 58, 46), none, none, some (.iload_n 1, 0), some (.iaload, 0), some (.ifCond .eq 12, 38), none, none, some (.aload_n 0, 0), some (.getfield 58, 46), none],
  [none, some (.iload_n 3, 0), some (.iaload, 0), some (.ifCond .ne 9, 44), none, none, some (.aload_n 0, 0), some (.iconst 2, 0), some (.invokevirtual 75, 85), none, none, some (.ireturn, 0), some (.aload_n 0, 0), some (.getfield 58, 46), none, none],
  [some (.iload_n 1, 0), some (.iaload, 0), some (.aload_n 0, 0), some (.getfield 58, 46), none, none, some (.iload_n 3, 0), some (.iaload, 0), some (.if_icmp .eq 9, 65), none, none, some (.aload_n 0, 0), some (.iconst 5, 0), some (.invokevirtual 75, 85), none, none],
  [some (.ireturn, 0), some (.aload_n 0, 0), some (.iload_n 1, 0), some (.iload_n 2, 0), some (.iload 5, 0), none, some (.invokevirtual 295, 128), none, none, some (.ifCond .eq 15, 88), none, none, some (.aload_n 0, 0), some (.iload_n 3, 0), some (.iload 4, 0), none],
  [some (.iload 5, 0), none, some (.invokevirtual 295, 128), none, none, some (.ifCond .ne 9, 94), none, none, some (.aload_n 0, 0), some (.iconst 1, 0), some (.invokevirtual 75, 85), none, none, some (.ireturn, 0), some (.aload_n 0, 0), some (.getfield 52, 44)],
  [none, none, some (.iload_n 1, 0), some (.aaload, 0), some (.iload_n 2, 0), some (.aload_n 0, 0), some (.getfield 52, 44), none, none, some (.iload_n 3, 0), some (.aaload, 0), some (.iload 4, 0), none, some (.iload 5, 0), none, some (.invokestatic 217, 110)],
  [none, none, some (.iload 5, 0), none, some (.ireturn, 0)]]
def tb_m115 : ab_M := (⟨"ScrewLeft", "move", "(IIIII)I"⟩, prog_1_method_37_code, 6, (some .int), 0, 0, (4127, 4125, 1001), tb_t115)
def tb_t116 : ab_T := [
  [some (.iload_n 2, 0), some (.iconst 0, 0), some (.aload_n 0, 0), some (.getfield 55, 45), none, none, some (.iload_n 1, 0), some (.iaload, 0), some (.invokestatic 67, 84), none, none, some (.ifCond .eq 23, 34), none, none, some (.iload_n 3, 0), some (.iconst 0, 0)],
  [some (.aload_n 0, 0), some (.getfield 55, 45), none, none, some (.iload_n 1, 0), some (.iaload, 0), some (.iload_n 2, 0), some (.isub, 0), some (.invokestatic 67, 84), none, none, some (.ifCond .eq 7, 34), none, none, some (.iconst 1, 0), some (.goto 4, 35)],
  [none, none, some (.iconst 0, 0), some (.ireturn, 0)]]
def tb_m116 : ab_M := (⟨"ScrewLeft", "standThere", "(III)Z"⟩, prog_1_method_38_code, 4, (some .boolean), 0, 0, (4131, 4130, 1001), tb_t116)
def tb_t117 : ab_T := [
  [some (.iload_n 1, 0), some (.invokestatic 258, 120), none, none, some (.ifCond .ne 9, 13), none, none, some (.aload_n 0, 0), some (.iconst 1, 0), some (.invokevirtual 75, 85), none, none, some (.ireturn, 0), some (.aload_n 0, 0), some (.getfield 58, 46), none],
  [none, some (.iload_n 1, 0), some (.iaload, 0), some (.ifCond .ne 9, 28), none, none, some (.aload_n 0, 0), some (.iconst 2, 0), some (.invokevirtual 75, 85), none, none, some (.ireturn, 0), some (.aload_n 0, 0), some (.getfield 55, 45), none, none],
  [some (.iload_n 1, 0), some (.iaload, 0), some (.aload_n 0, 0), some (.getfield 22, 38), none, none, some (.getfield 71, 49), none, none, some (.invokestatic 298, 129), none, none, some (.istore_n 2, 0), some (.iconst 0, 0), some (.istore_n 3, 0), some (.iload_n 3, 0)],
  [some (.iload_n 2, 0), some (.if_icmp .ge 45, 94), none, none, some (.aload_n 0, 0), some (.getfield 52, 44), none, none, some (.iload_n 1, 0), some (.aaload, 0), some (.iload_n 3, 0), some (.iaload, 0), some (.iconst 0, 0), some (.bipush 9, 0), none, some (.invokestatic 67, 84)],
  [none, none, some (.ifCond .ne 5, 71), none, none, some (.iload_n 3, 0), some (.ireturn, 0), some (.aload_n 0, 0), some (.getfield 22, 38), none, none, some (.getfield 93, 52), none, none, some (.iload_n 3, 0), some (.aload_n 0, 0)],
  [some (.getfield 52, 44), none, none, some (.iload_n 1, 0), some (.aaload, 0), some (.iload_n 3, 0), some (.iaload, 0), some (.iastore, 0), some (.iinc 3 1, 0), none, none, some (.goto (-44), 47), none, none, some (.iload_n 2, 0), some (.ireturn, 0)]]
def tb_m117 : ab_M := (⟨"ScrewLeft", "screws", "(I)I"⟩, prog_1_method_39_code, 4, (some .int), 0, 0, (4135, 4133, 1001), tb_t117)
def tb_t118 : ab_T := [
  [some (.iload_n 1, 0), some (.invokestatic 258, 120), none, none, some (.ifCond .ne 9, 13), none, none, some (.aload_n 0, 0), some (.iconst 1, 0), some (.invokevirtual 75, 85), none, none, some (.ireturn, 0), some (.aload_n 0, 0), some (.getfield 58, 46), none],
  [none, some (.iload_n 1, 0), some (.iaload, 0), some (.ifCond .ne 9, 28), none, none, some (.aload_n 0, 0), some (.iconst 2, 0), some (.invokevirtual 75, 85), none, none, some (.ireturn, 0), some (.aload_n 0, 0), some (.getfield 55, 45), none, none],
  [some (.iload_n 1, 0), some (.iaload, 0), some (.aload_n 0, 0), some (.getfield 22, 38), none, none, some (.getfield 71, 49), none, none, some (.invokestatic 298, 129), none, none, some (.istore_n 2, 0), some (.iconst 0, 0), some (.istore_n 3, 0), some (.iload_n 3, 0)],
  [some (.iload_n 2, 0), some (.if_icmp .ge 30, 79), none, none, some (.aload_n 0, 0), some (.getfield 52, 44), none, none, some (.iload_n 1, 0), some (.aaload, 0), some (.iload_n 3, 0), some (.iaload, 0), some (.aload_n 0, 0), some (.getfield 22, 38), none, none],
  [some (.iload_n 3, 0), some (.invokevirtual 105, 90), none, none, some (.if_icmp .eq 5, 73), none, none, some (.iload_n 3, 0), some (.ireturn, 0), some (.iinc 3 1, 0), none, none, some (.goto (-29), 47), none, none, some (.aload_n 0, 0)],
  [some (.getfield 55, 45), none, none, some (.iload_n 1, 0), some (.iaload, 0), some (.aload_n 0, 0), some (.getfield 22, 38), none, none, some (.getfield 71, 49), none, none, some (.if_icmp .ne 7, 99), none, none, some (.iconst (-1), 0)],
  [some (.goto 4, 100), none, none, some (.iload_n 2, 0), some (.ireturn, 0)]]
def tb_m118 : ab_M := (⟨"ScrewLeft", "judge", "(I)I"⟩, prog_1_method_40_code, 4, (some .int), 0, 0, (4140, 4138, 1001), tb_t118)
def tb_t119 : ab_T := [
  [some (.aload_n 0, 0), some (.getfield 26, 39), none, none, some (.aload_n 0, 0), some (.getfield 22, 38), none, none, some (.invokevirtual 198, 105), none, none, some (.aload_n 0, 0), some (.dup, 0), some (.getfield 303, 68), none, none],
  [some (.iconst 1, 0), some (.iadd, 0), some (.putfield 303, 68), none, none, some (.aload_n 0, 0), some (.getfield 303, 68), none, none, some (.ireturn, 0)]]
def tb_m119 : ab_M := (⟨"ScrewLeft", "image", "()I"⟩, prog_1_method_42_code, 1, (some .int), 0, 0, (4144, 4142, 1001), tb_t119)
def tb_t120 : ab_T := [
  [some (.aload_n 0, 0), some (.getfield 303, 68), none, none, some (.ifCond .ne 9, 13), none, none, some (.aload_n 0, 0), some (.iconst 2, 0), some (.invokevirtual 75, 85), none, none, some (.ireturn, 0), some (.aload_n 0, 0), some (.getfield 22, 38), none],
  [none, some (.aload_n 0, 0), some (.getfield 26, 39), none, none, some (.invokevirtual 198, 105), none, none, some (.aload_n 0, 0), some (.getfield 22, 38), none, none, some (.getfield 135, 57), none, none, some (.ireturn, 0)]]
def tb_m120 : ab_M := (⟨"ScrewLeft", "restore", "()I"⟩, prog_1_method_43_code, 1, (some .int), 0, 0, (4148, 4146, 1001), tb_t120)
def tb_t121 : ab_T := [
  [some (.aload_n 0, 0), some (.getfield 22, 38), none, none, some (.getfield 306, 69), none, none, some (.bipush 20, 0), none, some (.if_icmp .lt 9, 18), none, none, some (.aload_n 0, 0), some (.iconst 4, 0), some (.invokevirtual 75, 85), none],
  [none, some (.ireturn, 0), some (.aload_n 0, 0), some (.getfield 22, 38), none, none, some (.getfield 309, 70), none, none, some (.aload_n 0, 0), some (.getfield 22, 38), none, none, some (.getfield 306, 69), none, none],
  [some (.iload_n 1, 0), some (.iastore, 0), some (.aload_n 0, 0), some (.getfield 22, 38), none, none, some (.dup, 0), some (.getfield 306, 69), none, none, some (.iconst 1, 0), some (.iadd, 0), some (.putfield 306, 69), none, none, some (.aload_n 0, 0)],
  [some (.getfield 22, 38), none, none, some (.getfield 306, 69), none, none, some (.ireturn, 0)]]
def tb_m121 : ab_M := (⟨"ScrewLeft", "tell", "(I)I"⟩, prog_1_method_44_code, 2, (some .int), 0, 0, (4152, 4150, 1001), tb_t121)
def tb_t122 : ab_T := [
  [some (.iconst 0, 0), some (.istore_n 1, 0), some (.aload_n 0, 0), some (.getfield 29, 40), none, none, some (.aload_n 0, 0), some (.getfield 22, 38), none, none, some (.invokevirtual 198, 105), none, none, some (.iconst 0, 0), some (.istore_n 2, 0), some (.iload_n 2, 0)],
  [some (.aload_n 0, 0), some (.getfield 29, 40), none, none, some (.getfield 306, 69), none, none, some (.if_icmp .ge 60, 83), none, none, some (.iload_n 1, 0), some (.ifCond .ne 56, 83), none, none, some (.aload_n 0, 0), some (.getfield 29, 40)],
  [none, none, some (.invokevirtual 202, 106), none, none, some (.istore_n 3, 0), some (.iload_n 3, 0), some (.ifCond .lt 11, 50), none, none, some (.aload_n 0, 0), some (.getfield 29, 40), none, none, some (.iload_n 3, 0), some (.invokevirtual 223, 111)],
  [none, none, some (.iload_n 3, 0), some (.ifCond .lt 22, 73), none, none, some (.aload_n 0, 0), some (.getfield 29, 40), none, none, some (.getfield 135, 57), none, none, some (.aload_n 0, 0), some (.getfield 29, 40), none],
  [none, some (.getfield 309, 70), none, none, some (.iload_n 2, 0), some (.iaload, 0), some (.if_icmp .eq 7, 77), none, none, some (.iconst 1, 0), some (.iload_n 2, 0), some (.iadd, 0), some (.istore_n 1, 0), some (.iinc 2 1, 0), none, none],
  [some (.goto (-65), 15), none, none, some (.aload_n 0, 0), some (.getfield 22, 38), none, none, some (.iconst 0, 0), some (.putfield 306, 69), none, none, some (.iload_n 1, 0), some (.ireturn, 0)]]
def tb_m122 : ab_M := (⟨"ScrewLeft", "check", "()I"⟩, prog_1_method_45_code, 4, (some .int), 0, 0, (4156, 4154, 1001), tb_t122)
def tb_t123 : ab_T := [
  [some (.iload_n 1, 0), some (.tableswitch 153 0 10 #[59, 67, 78, 89, 97, 105, 113, 121, 129, 137, 145], 0), none, none, none, none, none, none, none, none, none, none, none, none, none, none],
  [none, none, none, none, none, none, none, none, none, none, none, none, none, none, none, none],
  [none, none, none, none, none, none, none, none, none, none, none, none, none, none, none, none],
  [none, none, none, none, none, none, none, none, none, none, none, none, some (.aload_n 0, 0), some (.getfield 22, 38), none, none],
  [some (.getfield 71, 49), none, none, some (.ireturn, 0), some (.aload_n 0, 0), some (.getfield 22, 38), none, none, some (.getfield 252, 64), none, none, some (.invokestatic 208, 108), none, none, some (.ireturn, 0), some (.aload_n 0, 0)],
  [some (.getfield 22, 38), none, none, some (.getfield 121, 54), none, none, some (.invokestatic 208, 108), none, none, some (.ireturn, 0), some (.aload_n 0, 0), some (.getfield 22, 38), none, none, some (.getfield 131, 56), none],
  [none, some (.ireturn, 0), some (.aload_n 0, 0), some (.getfield 22, 38), none, none, some (.getfield 128, 55), none, none, some (.ireturn, 0), some (.aload_n 0, 0), some (.getfield 22, 38), none, none, some (.getfield 135, 57), none],
  [none, some (.ireturn, 0), some (.aload_n 0, 0), some (.getfield 22, 38), none, none, some (.invokevirtual 312, 130), none, none, some (.ireturn, 0), some (.aload_n 0, 0), some (.getfield 22, 38), none, none, some (.getfield 145, 58), none],
  [none, some (.ireturn, 0), some (.aload_n 0, 0), some (.getfield 22, 38), none, none, some (.getfield 306, 69), none, none, some (.ireturn, 0), some (.aload_n 0, 0), some (.getfield 42, 42), none, none, some (.getfield 285, 66), none],
  [none, some (.ireturn, 0), some (.aload_n 0, 0), some (.getfield 22, 38), none, none, some (.getfield 265, 65), none, none, some (.ireturn, 0), some (.aload_n 0, 0), some (.iconst 1, 0), some (.invokevirtual 75, 85), none, none, some (.ireturn, 0)]]
def tb_m123 : ab_M := (⟨"ScrewLeft", "count", "(I)I"⟩, prog_1_method_46_code, 2, (some .int), 0, 0, (4160, 4158, 1001), tb_t123)
def tb_t124 : ab_T := [
  [some (.iload_n 1, 0), some (.iconst 1, 0), some (.iconst 5, 0), some (.invokestatic 67, 84), none, none, some (.ifCond .eq 12, 18), none, none, some (.aload_n 0, 0), some (.getfield 46, 43), none, none, some (.iload_n 1, 0), some (.iaload, 0), some (.goto 8, 23)],
  [none, none, some (.aload_n 0, 0), some (.iconst 1, 0), some (.invokevirtual 75, 85), none, none, some (.ireturn, 0)]]
def tb_m124 : ab_M := (⟨"ScrewLeft", "told", "(I)I"⟩, prog_1_method_47_code, 2, (some .int), 0, 0, (4165, 4163, 1001), tb_t124)
def tb_t125 : ab_T := [
  [some (.aload_n 0, 0), some (.invokespecial 3, 131), none, none, some (.aload_n 0, 0), some (.sipush 327, 0), none, none, some (.newarray .int, 0), none, some (.putfield 9, 71), none, none, some (.aload_n 0, 0), some (.sipush 327, 0), none],
  [none, some (.newarray .int, 0), none, some (.putfield 13, 72), none, none, some (.aload_n 0, 0), some (.sipush 327, 0), none, none, some (.newarray .int, 0), none, some (.putfield 16, 73), none, none, some (.aload_n 0, 0)],
  [some (.bipush 6, 0), none, some (.newarray .int, 0), none, some (.putfield 19, 74), none, none, some (.aload_n 0, 0), some (.bipush 50, 0), none, some (.newarray .int, 0), none, some (.putfield 22, 75), none, none, some (.aload_n 0, 0)],
  [some (.bipush 50, 0), none, some (.newarray .int, 0), none, some (.putfield 25, 76), none, none, some (.aload_n 0, 0), some (.iconst 3, 0), some (.newarray .int, 0), none, some (.putfield 28, 77), none, none, some (.aload_n 0, 0), some (.bipush 50, 0)],
  [none, some (.newarray .int, 0), none, some (.putfield 31, 78), none, none, some (.aload_n 0, 0), some (.iconst 5, 0), some (.newarray .int, 0), none, some (.putfield 34, 79), none, none, some (.aload_n 0, 0), some (.iconst 5, 0), some (.newarray .int, 0)],
  [none, some (.putfield 37, 80), none, none, some (.aload_n 0, 0), some (.sipush 625, 0), none, none, some (.newarray .int, 0), none, some (.putfield 40, 81), none, none, some (.aload_n 0, 0), some (.bipush 40, 0), none],
  [some (.newarray .int, 0), none, some (.putfield 43, 82), none, none, some (.aload_n 0, 0), some (.iconst 4, 0), some (.newarray .int, 0), none, some (.putfield 46, 83), none, none, some (.aload_n 0, 0), some (.iconst 4, 0), some (.newarray .int, 0), none],
  [some (.putfield 49, 84), none, none, some (.aload_n 0, 0), some (.sipush 160, 0), none, none, some (.newarray .int, 0), none, some (.putfield 52, 85), none, none, some (.aload_n 0, 0), some (.getfield 9, 71), none, none],
  [some (.iconst 1, 0), some (.iconst 1, 0), some (.iastore, 0), some (.aload_n 0, 0), some (.getfield 9, 71), none, none, some (.iconst 3, 0), some (.iconst 1, 0), some (.iastore, 0), some (.aload_n 0, 0), some (.getfield 9, 71), none, none, some (.iconst 4, 0), some (.bipush 50, 0)],
  [none, some (.iastore, 0), some (.return_, 0)]]
def tb_m125 : ab_M := (⟨"ScrewLeftModel", "<init>", "()V"⟩, prog_14_method_1_code, 1, none, 15, 1983, (4170, 4169, 1013), tb_t125)
def tb_t126 : ab_T := [
  [some (.aload_n 0, 0), some (.getfield 9, 71), none, none, some (.iconst 2, 0), some (.iaload, 0), some (.istore 4, 0), none, some (.iload_n 1, 0), some (.invokestatic 104, 132), none, none, some (.ifCond .eq 27, 39), none, none, some (.iload_n 2, 0)],
  [some (.iconst 0, 0), some (.bipush 9, 0), none, some (.invokestatic 60, 133), none, none, some (.ifCond .eq 17, 39), none, none, some (.iload_n 3, 0), some (.iconst 0, 0), some (.iconst 1, 0), some (.iload 4, 0), none, some (.ishl, 0), some (.iconst 1, 0)],
  [some (.isub, 0), some (.invokestatic 60, 133), none, none, some (.ifCond .ne 10, 46), none, none, some (.aload_n 0, 0), some (.ldc 107, 7), none, some (.invokevirtual 108, 134), none, none, some (.ireturn, 0), some (.iload 4, 0), none],
  [some (.bipush 8, 0), none, some (.if_icmp .ne 10, 60), none, none, some (.aload_n 0, 0), some (.ldc 111, 8), none, some (.invokevirtual 108, 134), none, none, some (.ireturn, 0), some (.aload_n 0, 0), some (.getfield 9, 71), none, none],
  [some (.iconst 2, 0), some (.dup2, 0), some (.iaload, 0), some (.iconst 1, 0), some (.iadd, 0), some (.iastore, 0), some (.aload_n 0, 0), some (.iload 4, 0), none, some (.iconst 0, 0), some (.iload_n 1, 0), some (.bipush 10, 0), none, some (.idiv, 0), some (.invokevirtual 97, 135), none],
  [none, some (.aload_n 0, 0), some (.iload 4, 0), none, some (.iconst 1, 0), some (.iload_n 1, 0), some (.bipush 10, 0), none, some (.irem, 0), some (.invokevirtual 97, 135), none, none, some (.aload_n 0, 0), some (.iload 4, 0), none, some (.iconst 2, 0)],
  [some (.iload_n 2, 0), some (.invokevirtual 97, 135), none, none, some (.aload_n 0, 0), some (.iload 4, 0), none, some (.iconst 3, 0), some (.iload_n 3, 0), some (.invokevirtual 97, 135), none, none, some (.aload_n 0, 0), some (.iload 4, 0), none, some (.iconst 4, 0)],
  [some (.iconst 0, 0), some (.invokevirtual 97, 135), none, none, some (.aload_n 0, 0), some (.iload 4, 0), none, some (.iconst 5, 0), some (.iconst 0, 0), some (.invokevirtual 97, 135), none, none, some (.iload 4, 0), none, some (.ireturn, 0)]]
def tb_m126 : ab_M := (⟨"ScrewLeftModel", "step", "(III)I"⟩, prog_14_method_25_code, 5, (some .int), 0, 0, (5011, 5009, 1013), tb_t126)
def tb_t127 : ab_T := [
  [some (.iload_n 0, 0), some (.iconst 0, 0), some (.bipush 69, 0), none, some (.invokestatic 60, 133), none, none, some (.ireturn, 0)]]
def tb_m127 : ab_M := (⟨"ScrewLeftModel", "isKm", "(I)Z"⟩, prog_14_method_24_code, 1, (some .boolean), 0, 0, (5014, 5013, 1013), tb_t127)
def tb_t128 : ab_T := [
  [some (.iload_n 0, 0), some (.iload_n 1, 0), some (.if_icmp .lt 12, 14), none, none, some (.iload_n 0, 0), some (.iload_n 2, 0), some (.if_icmp .gt 7, 14), none, none, some (.iconst 1, 0), some (.goto 4, 15), none, none, some (.iconst 0, 0), some (.ireturn, 0)]]
def tb_m128 : ab_M := (⟨"ScrewLeftModel", "in", "(III)Z"⟩, prog_14_method_3_code, 3, (some .boolean), 0, 0, (5017, 5016, 1013), tb_t128)
def tb_t129 : ab_T := [
  [some (.aload_n 0, 0), some (.getfield 19, 74), none, none, some (.ldc 55, 9), none, some (.iload_n 1, 0), some (.isub, 0), some (.dup2, 0), some (.iaload, 0), some (.iconst 1, 0), some (.iadd, 0), some (.iastore, 0), some (.iload_n 1, 0), some (.ireturn, 0)]]
def tb_m129 : ab_M := (⟨"ScrewLeftModel", "error", "(I)I"⟩, prog_14_method_2_code, 2, (some .int), 0, 0, (5022, 5021, 1013), tb_t129)
def tb_t130 : ab_T := [
  [some (.aload_n 0, 0), some (.getfield 9, 71), none, none, some (.bipush 7, 0), none, some (.bipush 6, 0), none, some (.iload_n 1, 0), some (.imul, 0), some (.iadd, 0), some (.iload_n 2, 0), some (.iadd, 0), some (.iload_n 3, 0), some (.iastore, 0), some (.return_, 0)]]
def tb_m130 : ab_M := (⟨"ScrewLeftModel", "lets", "(III)V"⟩, prog_14_method_12_code, 4, none, 0, 0, (5028, 5027, 1013), tb_t130)
def tb_t131 : ab_T := [
  [some (.aload_n 0, 0), some (.iload_n 1, 0), some (.invokevirtual 112, 136), none, none, some (.ifCond .eq 13, 18), none, none, some (.iload_n 2, 0), some (.iconst 0, 0), some (.bipush 9, 0), none, some (.invokestatic 60, 133), none, none, some (.ifCond .ne 10, 25)],
  [none, none, some (.aload_n 0, 0), some (.ldc 107, 7), none, some (.invokevirtual 108, 134), none, none, some (.ireturn, 0), some (.iload_n 2, 0), some (.bipush 6, 0), none, some (.if_icmp .ge 10, 38), none, none, some (.aload_n 0, 0)],
  [some (.iload_n 1, 0), some (.iload_n 2, 0), some (.invokevirtual 68, 137), none, none, some (.ireturn, 0), some (.iload_n 2, 0), some (.bipush 8, 0), none, some (.if_icmp .ne 11, 52), none, none, some (.aload_n 0, 0), some (.iload_n 1, 0), some (.invokevirtual 115, 138), none],
  [none, some (.goto 8, 57), none, none, some (.aload_n 0, 0), some (.iload_n 1, 0), some (.invokevirtual 118, 139), none, none, some (.istore_n 3, 0), some (.iload_n 2, 0), some (.bipush 6, 0), none, some (.if_icmp .ne 11, 72), none, none],
  [some (.aload_n 0, 0), some (.iload_n 1, 0), some (.invokevirtual 80, 140), none, none, some (.goto 26, 95), none, none, some (.iload_n 2, 0), some (.bipush 7, 0), none, some (.if_icmp .ne 11, 86), none, none, some (.aload_n 0, 0), some (.iload_n 1, 0)],
  [some (.invokevirtual 101, 141), none, none, some (.goto 12, 95), none, none, some (.iload_n 3, 0), some (.ifCond .eq 7, 94), none, none, some (.iconst 1, 0), some (.goto 4, 95), none, none, some (.iconst 0, 0), some (.ireturn, 0)]]
def tb_m131 : ab_M := (⟨"ScrewLeftModel", "ofStep", "(II)I"⟩, prog_14_method_26_code, 4, (some .int), 0, 0, (5032, 5030, 1013), tb_t131)
def tb_t132 : ab_T := [
  [some (.iload_n 1, 0), some (.iconst 0, 0), some (.aload_n 0, 0), some (.getfield 9, 71), none, none, some (.iconst 2, 0), some (.iaload, 0), some (.iconst 1, 0), some (.isub, 0), some (.invokestatic 60, 133), none, none, some (.ireturn, 0)]]
def tb_m132 : ab_M := (⟨"ScrewLeftModel", "isStep", "(I)Z"⟩, prog_14_method_9_code, 2, (some .boolean), 0, 0, (5036, 5035, 1013), tb_t132)
def tb_t133 : ab_T := [
  [some (.aload_n 0, 0), some (.getfield 9, 71), none, none, some (.bipush 7, 0), none, some (.bipush 6, 0), none, some (.iload_n 1, 0), some (.imul, 0), some (.iadd, 0), some (.iload_n 2, 0), some (.iadd, 0), some (.iaload, 0), some (.ireturn, 0)]]
def tb_m133 : ab_M := (⟨"ScrewLeftModel", "of", "(II)I"⟩, prog_14_method_11_code, 3, (some .int), 0, 0, (5040, 5039, 1013), tb_t133)
def tb_t134 : ab_T := [
  [some (.aload_n 0, 0), some (.iload_n 1, 0), some (.iconst 4, 0), some (.invokevirtual 68, 137), none, none, some (.ifCond .ne 23, 29), none, none, some (.aload_n 0, 0), some (.iload_n 1, 0), some (.iconst 3, 0), some (.invokevirtual 68, 137), none, none, some (.aload_n 0, 0)],
  [some (.invokevirtual 84, 142), none, none, some (.iconst (-1), 0), some (.ixor, 0), some (.iand, 0), some (.ifCond .ne 7, 29), none, none, some (.iconst 1, 0), some (.goto 4, 30), none, none, some (.iconst 0, 0), some (.istore_n 2, 0), some (.iload_n 2, 0)],
  [some (.ifCond .eq 43, 75), none, none, some (.aload_n 0, 0), some (.getfield 9, 71), none, none, some (.iconst 4, 0), some (.iaload, 0), some (.aload_n 0, 0), some (.iload_n 1, 0), some (.iconst 2, 0), some (.invokevirtual 68, 137), none, none, some (.if_icmp .lt 28, 75)],
  [none, none, some (.aload_n 0, 0), some (.iload_n 1, 0), some (.iconst 0, 0), some (.invokevirtual 68, 137), none, none, some (.bipush 6, 0), none, some (.if_icmp .ne 13, 71), none, none, some (.aload_n 0, 0), some (.getfield 9, 71), none],
  [none, some (.iconst 3, 0), some (.iaload, 0), some (.iconst 2, 0), some (.if_icmp .ne 7, 75), none, none, some (.iconst 1, 0), some (.goto 4, 76), none, none, some (.iconst 0, 0), some (.ireturn, 0)]]
def tb_m134 : ab_M := (⟨"ScrewLeftModel", "mayBeDone", "(I)Z"⟩, prog_14_method_18_code, 3, (some .boolean), 0, 0, (5044, 5043, 1013), tb_t134)
def tb_t135 : ab_T := [
  [some (.iconst 0, 0), some (.istore_n 1, 0), some (.iconst 0, 0), some (.istore_n 2, 0), some (.iload_n 2, 0), some (.aload_n 0, 0), some (.getfield 9, 71), none, none, some (.iconst 2, 0), some (.iaload, 0), some (.if_icmp .ge 20, 31), none, none, some (.iload_n 1, 0), some (.aload_n 0, 0)],
  [some (.iload_n 2, 0), some (.iconst 4, 0), some (.invokevirtual 68, 137), none, none, some (.iload_n 2, 0), some (.ishl, 0), some (.ior, 0), some (.istore_n 1, 0), some (.iinc 2 1, 0), none, none, some (.goto (-24), 4), none, none, some (.iload_n 1, 0)],
  [some (.ireturn, 0)]]
def tb_m135 : ab_M := (⟨"ScrewLeftModel", "done", "()I"⟩, prog_14_method_17_code, 3, (some .int), 0, 0, (5048, 5047, 1013), tb_t135)
def tb_t136 : ab_T := [
  [some (.aload_n 0, 0), some (.iload_n 1, 0), some (.iconst 4, 0), some (.invokevirtual 68, 137), none, none, some (.iconst 1, 0), some (.if_icmp .ne 23, 30), none, none, some (.aload_n 0, 0), some (.iload_n 1, 0), some (.invokevirtual 87, 143), none, none, some (.ifCond .ne 15, 30)],
  [none, none, some (.aload_n 0, 0), some (.iload_n 1, 0), some (.invokevirtual 91, 144), none, none, some (.ifCond .ne 7, 30), none, none, some (.iconst 1, 0), some (.goto 4, 31), none, none, some (.iconst 0, 0), some (.ireturn, 0)]]
def tb_m136 : ab_M := (⟨"ScrewLeftModel", "mayBeUndone", "(I)Z"⟩, prog_14_method_20_code, 2, (some .boolean), 0, 0, (5052, 5051, 1013), tb_t136)
def tb_t137 : ab_T := [
  [some (.aload_n 0, 0), some (.iload_n 1, 0), some (.iconst 0, 0), some (.invokevirtual 68, 137), none, none, some (.iconst 2, 0), some (.if_icmp .eq 13, 20), none, none, some (.aload_n 0, 0), some (.iload_n 1, 0), some (.iconst 0, 0), some (.invokevirtual 68, 137), none, none],
  [some (.iconst 5, 0), some (.if_icmp .ne 7, 24), none, none, some (.iconst 1, 0), some (.goto 4, 25), none, none, some (.iconst 0, 0), some (.ireturn, 0)]]
def tb_m137 : ab_M := (⟨"ScrewLeftModel", "isNever", "(I)Z"⟩, prog_14_method_16_code, 2, (some .boolean), 0, 0, (5056, 5055, 1013), tb_t137)
def tb_t138 : ab_T := [
  [some (.iconst 0, 0), some (.istore_n 2, 0), some (.iconst 0, 0), some (.istore_n 3, 0), some (.iload_n 3, 0), some (.aload_n 0, 0), some (.getfield 9, 71), none, none, some (.iconst 2, 0), some (.iaload, 0), some (.if_icmp .ge 43, 54), none, none, some (.iload_n 2, 0), some (.aload_n 0, 0)],
  [some (.iload_n 3, 0), some (.iconst 4, 0), some (.invokevirtual 68, 137), none, none, some (.iconst 1, 0), some (.if_icmp .ne 23, 45), none, none, some (.aload_n 0, 0), some (.iload_n 3, 0), some (.iconst 3, 0), some (.invokevirtual 68, 137), none, none, some (.iload_n 1, 0)],
  [some (.ishr, 0), some (.iconst 1, 0), some (.iand, 0), some (.iconst 1, 0), some (.if_icmp .ne 9, 45), none, none, some (.iconst 1, 0), some (.iload_n 3, 0), some (.ishl, 0), some (.goto 4, 46), none, none, some (.iconst 0, 0), some (.ior, 0), some (.istore_n 2, 0)],
  [some (.iinc 3 1, 0), none, none, some (.goto (-47), 4), none, none, some (.iload_n 2, 0), some (.ireturn, 0)]]
def tb_m138 : ab_M := (⟨"ScrewLeftModel", "needing", "(I)I"⟩, prog_14_method_19_code, 4, (some .int), 0, 0, (5060, 5059, 1013), tb_t138)
def tb_t139 : ab_T := [
  [some (.aload_n 0, 0), some (.iload_n 1, 0), some (.iconst 2, 0), some (.invokevirtual 68, 137), none, none, some (.istore_n 2, 0), some (.aload_n 0, 0), some (.iload_n 1, 0), some (.iconst 1, 0), some (.invokevirtual 68, 137), none, none, some (.istore_n 3, 0), some (.aload_n 0, 0), some (.iconst 0, 0)],
  [some (.iload_n 2, 0), some (.iload_n 3, 0), some (.aload_n 0, 0), some (.invokevirtual 72, 145), none, none, some (.invokevirtual 76, 146), none, none, some (.istore 4, 0), none, some (.aload_n 0, 0), some (.getfield 9, 71), none, none, some (.iconst 3, 0)],
  [some (.iaload, 0), some (.iconst 1, 0), some (.if_icmp .ne 10, 44), none, none, some (.iconst 2, 0), some (.iload 4, 0), none, some (.imul, 0), some (.goto 5, 46), none, none, some (.iload 4, 0), none, some (.istore 5, 0), none],
  [some (.aload_n 0, 0), some (.iload_n 1, 0), some (.iconst 0, 0), some (.invokevirtual 68, 137), none, none, some (.tableswitch 72 1 6 #[38, 43, 48, 51, 60, 67], 0), none, none, none, none, none, none, none, none, none],
  [none, none, none, none, none, none, none, none, none, none, none, none, none, none, none, none],
  [none, none, none, none, none, none, none, none, none, none, none, none, some (.iload 4, 0), none, some (.iconst 1, 0), some (.iadd, 0)],
  [some (.ireturn, 0), some (.iload 4, 0), none, some (.iconst 2, 0), some (.iadd, 0), some (.ireturn, 0), some (.iload 5, 0), none, some (.ireturn, 0), some (.iload 4, 0), none, some (.iconst 1, 0), some (.iadd, 0), some (.iload_n 3, 0), some (.iconst 3, 0), some (.irem, 0)],
  [some (.iadd, 0), some (.ireturn, 0), some (.iload 4, 0), none, some (.iconst 2, 0), some (.iadd, 0), some (.iload_n 2, 0), some (.iadd, 0), some (.ireturn, 0), some (.iload 5, 0), none, some (.iload_n 3, 0), some (.iadd, 0), some (.ireturn, 0), some (.iload 4, 0), none],
  [some (.ireturn, 0)]]
def tb_m139 : ab_M := (⟨"ScrewLeftModel", "lastsOf", "(I)I"⟩, prog_14_method_14_code, 6, (some .int), 0, 0, (5064, 5063, 1013), tb_t139)
def tb_t140 : ab_T := [
  [some (.aload_n 0, 0), some (.getfield 9, 71), none, none, some (.iconst 0, 0), some (.iaload, 0), some (.bipush 30, 0), none, some (.idiv, 0), some (.iconst 0, 0), some (.bipush 9, 0), none, some (.invokestatic 64, 147), none, none, some (.ireturn, 0)]]
def tb_m140 : ab_M := (⟨"ScrewLeftModel", "tired", "()I"⟩, prog_14_method_13_code, 1, (some .int), 0, 0, (5068, 5067, 1013), tb_t140)
def tb_t141 : ab_T := [
  [some (.iload_n 0, 0), some (.iload_n 1, 0), some (.if_icmp .ge 7, 9), none, none, some (.iload_n 1, 0), some (.goto 13, 19), none, none, some (.iload_n 0, 0), some (.iload_n 2, 0), some (.if_icmp .le 7, 18), none, none, some (.iload_n 2, 0), some (.goto 4, 19)],
  [none, none, some (.iload_n 0, 0), some (.ireturn, 0)]]
def tb_m141 : ab_M := (⟨"ScrewLeftModel", "held", "(III)I"⟩, prog_14_method_4_code, 3, (some .int), 0, 0, (5071, 5070, 1013), tb_t141)
def tb_t142 : ab_T := [
  [some (.bipush 125, 0), none, some (.bipush 101, 0), none, some (.iload_n 1, 0), some (.imul, 0), some (.iadd, 0), some (.istore 5, 0), none, some (.aload_n 0, 0), some (.getfield 28, 77), none, none, some (.iconst 0, 0), some (.iload_n 2, 0), some (.iastore, 0)],
  [some (.aload_n 0, 0), some (.getfield 28, 77), none, none, some (.iconst 1, 0), some (.iload_n 3, 0), some (.iastore, 0), some (.aload_n 0, 0), some (.getfield 28, 77), none, none, some (.iconst 2, 0), some (.iload 4, 0), none, some (.iastore, 0), some (.aload_n 0, 0)],
  [some (.getfield 9, 71), none, none, some (.iload 5, 0), none, some (.iaload, 0), some (.ifCond .le 12, 50), none, none, some (.aload_n 0, 0), some (.iload 5, 0), none, some (.invokevirtual 184, 148), none, none, some (.goto 29, 76)],
  [none, none, some (.iload_n 1, 0), some (.ifCond .ne 12, 63), none, none, some (.iconst 1, 0), some (.iload_n 2, 0), some (.iadd, 0), some (.iload 4, 0), none, some (.iadd, 0), some (.goto 16, 76), none, none, some (.iload_n 2, 0)],
  [some (.iload_n 3, 0), some (.iadd, 0), some (.bipush 9, 0), none, some (.if_icmp .le 7, 75), none, none, some (.iconst 1, 0), some (.goto 4, 76), none, none, some (.iconst 0, 0), some (.istore 6, 0), none, some (.iload_n 1, 0), some (.ifCond .ne 14, 93)],
  [none, none, some (.iload 6, 0), none, some (.iconst 1, 0), some (.bipush 99, 0), none, some (.invokestatic 64, 147), none, none, some (.goto 10, 100), none, none, some (.iload 6, 0), none, some (.iconst 0, 0)],
  [some (.iconst 1, 0), some (.invokestatic 64, 147), none, none, some (.ireturn, 0)]]
def tb_m142 : ab_M := (⟨"ScrewLeftModel", "gives", "(IIII)I"⟩, prog_14_method_46_code, 7, (some .int), 0, 0, (5075, 5074, 1013), tb_t142)
def tb_t143 : ab_T := [
  [some (.iconst 0, 0), some (.istore_n 2, 0), some (.iconst 0, 0), some (.istore_n 3, 0), some (.iload_n 3, 0), some (.aload_n 0, 0), some (.getfield 9, 71), none, none, some (.iload_n 1, 0), some (.iaload, 0), some (.if_icmp .ge 144, 155), none, none, some (.aload_n 0, 0), some (.getfield 9, 71)],
  [none, none, some (.iload_n 1, 0), some (.iconst 1, 0), some (.iadd, 0), some (.iload_n 3, 0), some (.iadd, 0), some (.iaload, 0), some (.istore 4, 0), none, some (.iload 4, 0), none, some (.iconst 1, 0), some (.if_icmp .eq 9, 38), none, none],
  [some (.iload 4, 0), none, some (.iconst 2, 0), some (.if_icmp .ne 51, 86), none, none, some (.aload_n 0, 0), some (.getfield 31, 78), none, none, some (.iload_n 2, 0), some (.iload 4, 0), none, some (.iconst 1, 0), some (.if_icmp .ne 17, 63), none],
  [none, some (.aload_n 0, 0), some (.getfield 9, 71), none, none, some (.iload_n 1, 0), some (.bipush 51, 0), none, some (.iadd, 0), some (.iload_n 3, 0), some (.iadd, 0), some (.iaload, 0), some (.goto 19, 79), none, none, some (.aload_n 0, 0)],
  [some (.getfield 28, 77), none, none, some (.aload_n 0, 0), some (.getfield 9, 71), none, none, some (.iload_n 1, 0), some (.bipush 51, 0), none, some (.iadd, 0), some (.iload_n 3, 0), some (.iadd, 0), some (.iaload, 0), some (.iaload, 0), some (.iastore, 0)],
  [some (.iinc 2 1, 0), none, none, some (.goto 66, 149), none, none, some (.iload 4, 0), none, some (.iconst 3, 0), some (.if_icmp .ne 30, 119), none, none, some (.aload_n 0, 0), some (.getfield 31, 78), none, none],
  [some (.iload_n 2, 0), some (.iconst 1, 0), some (.isub, 0), some (.aload_n 0, 0), some (.getfield 31, 78), none, none, some (.iload_n 2, 0), some (.iconst 1, 0), some (.isub, 0), some (.iaload, 0), some (.ifCond .ne 7, 114), none, none, some (.iconst 1, 0), some (.goto 4, 115)],
  [none, none, some (.iconst 0, 0), some (.iastore, 0), some (.goto 33, 149), none, none, some (.iinc 2 (-1), 0), none, none, some (.aload_n 0, 0), some (.getfield 31, 78), none, none, some (.iload_n 2, 0), some (.iconst 1, 0)],
  [some (.isub, 0), some (.iload 4, 0), none, some (.aload_n 0, 0), some (.getfield 31, 78), none, none, some (.iload_n 2, 0), some (.iconst 1, 0), some (.isub, 0), some (.iaload, 0), some (.aload_n 0, 0), some (.getfield 31, 78), none, none, some (.iload_n 2, 0)],
  [some (.iaload, 0), some (.invokestatic 181, 149), none, none, some (.iastore, 0), some (.iinc 3 1, 0), none, none, some (.goto (-148), 4), none, none, some (.aload_n 0, 0), some (.getfield 31, 78), none, none, some (.iconst 0, 0)],
  [some (.iaload, 0), some (.ireturn, 0)]]
def tb_m143 : ab_M := (⟨"ScrewLeftModel", "works", "(I)I"⟩, prog_14_method_45_code, 5, (some .int), 0, 0, (5079, 5078, 1013), tb_t143)
def tb_t144 : ab_T := [
  [some (.iload_n 0, 0), some (.tableswitch 202 37 62 #[143, 188, 202, 202, 202, 127, 119, 202, 123, 202, 131, 202, 202, 202, 202, 202, 202, 202, 202, 202, 202, 202, 202, 155, 166, 177], 0), none, none, none, none, none, none, none, none, none, none, none, none, none, none],
  [none, none, none, none, none, none, none, none, none, none, none, none, none, none, none, none],
  [none, none, none, none, none, none, none, none, none, none, none, none, none, none, none, none],
  [none, none, none, none, none, none, none, none, none, none, none, none, none, none, none, none],
  [none, none, none, none, none, none, none, none, none, none, none, none, none, none, none, none],
  [none, none, none, none, none, none, none, none, none, none, none, none, none, none, none, none],
  [none, none, none, none, none, none, none, none, none, none, none, none, none, none, none, none],
  [none, none, none, none, none, none, none, none, some (.iload_n 1, 0), some (.iload_n 2, 0), some (.iadd, 0), some (.ireturn, 0), some (.iload_n 1, 0), some (.iload_n 2, 0), some (.isub, 0), some (.ireturn, 0)],
  [some (.iload_n 1, 0), some (.iload_n 2, 0), some (.imul, 0), some (.ireturn, 0), some (.iload_n 2, 0), some (.ifCond .ne 7, 140), none, none, some (.iconst 0, 0), some (.goto 6, 143), none, none, some (.iload_n 1, 0), some (.iload_n 2, 0), some (.idiv, 0), some (.ireturn, 0)],
  [some (.iload_n 2, 0), some (.ifCond .ne 7, 152), none, none, some (.iconst 0, 0), some (.goto 6, 155), none, none, some (.iload_n 1, 0), some (.iload_n 2, 0), some (.irem, 0), some (.ireturn, 0), some (.iload_n 1, 0), some (.iload_n 2, 0), some (.if_icmp .ge 7, 165), none],
  [none, some (.iconst 1, 0), some (.goto 4, 166), none, none, some (.iconst 0, 0), some (.ireturn, 0), some (.iload_n 1, 0), some (.iload_n 2, 0), some (.if_icmp .ne 7, 176), none, none, some (.iconst 1, 0), some (.goto 4, 177), none, none],
  [some (.iconst 0, 0), some (.ireturn, 0), some (.iload_n 1, 0), some (.iload_n 2, 0), some (.if_icmp .le 7, 187), none, none, some (.iconst 1, 0), some (.goto 4, 188), none, none, some (.iconst 0, 0), some (.ireturn, 0), some (.iload_n 1, 0), some (.ifCond .eq 11, 201), none],
  [none, some (.iload_n 2, 0), some (.ifCond .eq 7, 201), none, none, some (.iconst 1, 0), some (.goto 4, 202), none, none, some (.iconst 0, 0), some (.ireturn, 0), some (.iload_n 1, 0), some (.ifCond .ne 7, 211), none, none, some (.iload_n 2, 0)],
  [some (.ifCond .eq 7, 215), none, none, some (.iconst 1, 0), some (.goto 4, 216), none, none, some (.iconst 0, 0), some (.ireturn, 0)]]
def tb_m144 : ab_M := (⟨"ScrewLeftModel", "twoOf", "(III)I"⟩, prog_14_method_44_code, 3, (some .int), 0, 0, (5082, 5081, 1013), tb_t144)
def tb_t145 : ab_T := [
  [some (.aload_n 0, 0), some (.iload_n 1, 0), some (.invokevirtual 80, 140), none, none, some (.istore_n 2, 0), some (.aload_n 0, 0), some (.iload_n 1, 0), some (.iconst 0, 0), some (.invokevirtual 68, 137), none, none, some (.iconst 3, 0), some (.if_icmp .eq 14, 27), none, none],
  [some (.aload_n 0, 0), some (.iload_n 1, 0), some (.iconst 0, 0), some (.invokevirtual 68, 137), none, none, some (.bipush 6, 0), none, some (.if_icmp .ne 7, 31), none, none, some (.iload_n 2, 0), some (.goto 6, 34), none, none, some (.iload_n 2, 0)],
  [some (.iconst 2, 0), some (.idiv, 0), some (.ireturn, 0)]]
def tb_m145 : ab_M := (⟨"ScrewLeftModel", "backOf", "(I)I"⟩, prog_14_method_15_code, 3, (some .int), 0, 0, (5086, 5085, 1013), tb_t145)
def tb_t146 : ab_T := [
  [some (.aload_n 0, 0), some (.iload_n 1, 0), some (.invokevirtual 112, 136), none, none, some (.ifCond .eq 43, 48), none, none, some (.iload_n 2, 0), some (.iconst 0, 0), some (.iconst 2, 0), some (.invokestatic 60, 133), none, none, some (.ifCond .eq 34, 48), none],
  [none, some (.iload_n 3, 0), some (.iconst 0, 0), some (.iload_n 2, 0), some (.ifCond .ne 8, 28), none, none, some (.bipush 9, 0), none, some (.goto 17, 42), none, none, some (.iload_n 2, 0), some (.iconst 1, 0), some (.if_icmp .ne 11, 41), none],
  [none, some (.iconst 1, 0), some (.iload_n 1, 0), some (.ishl, 0), some (.iconst 1, 0), some (.isub, 0), some (.goto 4, 42), none, none, some (.iconst 1, 0), some (.invokestatic 60, 133), none, none, some (.ifCond .ne 10, 55), none, none],
  [some (.aload_n 0, 0), some (.ldc 107, 7), none, some (.invokevirtual 108, 134), none, none, some (.ireturn, 0), some (.iload_n 2, 0), some (.iconst 2, 0), some (.if_icmp .ne 19, 76), none, none, some (.aload_n 0, 0), some (.iload_n 1, 0), some (.iconst 4, 0), some (.invokevirtual 68, 137)],
  [none, none, some (.ifCond .ne 10, 76), none, none, some (.aload_n 0, 0), some (.ldc 121, 10), none, some (.invokevirtual 108, 134), none, none, some (.ireturn, 0), some (.aload_n 0, 0), some (.bipush 7, 0), none, some (.bipush 6, 0)],
  [none, some (.iload_n 1, 0), some (.imul, 0), some (.iadd, 0), some (.iload_n 2, 0), some (.iconst 2, 0), some (.if_icmp .ne 7, 93), none, none, some (.iconst 5, 0), some (.goto 6, 96), none, none, some (.iconst 2, 0), some (.iload_n 2, 0), some (.iadd, 0)],
  [some (.iadd, 0), some (.iload_n 3, 0), some (.invokevirtual 122, 150), none, none, some (.ireturn, 0)]]
def tb_m146 : ab_M := (⟨"ScrewLeftModel", "change", "(III)I"⟩, prog_14_method_27_code, 4, (some .int), 0, 0, (5090, 5088, 1013), tb_t146)
def tb_t147 : ab_T := [
  [some (.aload_n 0, 0), some (.getfield 9, 71), none, none, some (.iload_n 1, 0), some (.iaload, 0), some (.istore_n 3, 0), some (.aload_n 0, 0), some (.getfield 9, 71), none, none, some (.iload_n 1, 0), some (.iload_n 2, 0), some (.iastore, 0), some (.iload_n 3, 0), some (.ireturn, 0)]]
def tb_m147 : ab_M := (⟨"ScrewLeftModel", "becomes", "(II)I"⟩, prog_14_method_10_code, 4, (some .int), 0, 0, (5095, 5094, 1013), tb_t147)
def tb_t148 : ab_T := [
  [some (.iload_n 1, 0), some (.tableswitch 105 0 2 #[27, 52, 79], 0), none, none, none, none, none, none, none, none, none, none, none, none, none, none],
  [none, none, none, none, none, none, none, none, none, none, none, none, some (.iload_n 2, 0), some (.iconst 1, 0), some (.iconst 2, 0), some (.invokestatic 60, 133)],
  [none, none, some (.ifCond .eq 12, 46), none, none, some (.aload_n 0, 0), some (.iconst 3, 0), some (.iload_n 2, 0), some (.invokevirtual 122, 150), none, none, some (.goto 9, 52), none, none, some (.aload_n 0, 0), some (.ldc 107, 7)],
  [none, some (.invokevirtual 108, 134), none, none, some (.ireturn, 0), some (.iload_n 2, 0), some (.iconst 0, 0), some (.sipush 999, 0), none, none, some (.invokestatic 60, 133), none, none, some (.ifCond .eq 12, 73), none, none],
  [some (.aload_n 0, 0), some (.iconst 4, 0), some (.iload_n 2, 0), some (.invokevirtual 122, 150), none, none, some (.goto 9, 79), none, none, some (.aload_n 0, 0), some (.ldc 107, 7), none, some (.invokevirtual 108, 134), none, none, some (.ireturn, 0)],
  [some (.iload_n 2, 0), some (.iconst 0, 0), some (.ldc 125, 11), none, some (.invokestatic 60, 133), none, none, some (.ifCond .eq 12, 99), none, none, some (.aload_n 0, 0), some (.iconst 0, 0), some (.iload_n 2, 0), some (.invokevirtual 122, 150), none, none],
  [some (.goto 9, 105), none, none, some (.aload_n 0, 0), some (.ldc 107, 7), none, some (.invokevirtual 108, 134), none, none, some (.ireturn, 0), some (.aload_n 0, 0), some (.ldc 107, 7), none, some (.invokevirtual 108, 134), none, none],
  [some (.ireturn, 0)]]
def tb_m148 : ab_M := (⟨"ScrewLeftModel", "set", "(II)I"⟩, prog_14_method_28_code, 3, (some .int), 0, 0, (5099, 5097, 1013), tb_t148)
def tb_t149 : ab_T := [
  [some (.aload_n 0, 0), some (.iload_n 1, 0), some (.invokevirtual 112, 136), none, none, some (.ifCond .eq 10, 15), none, none, some (.iload_n 2, 0), some (.invokestatic 104, 132), none, none, some (.ifCond .ne 10, 22), none, none, some (.aload_n 0, 0)],
  [some (.ldc 107, 7), none, some (.invokevirtual 108, 134), none, none, some (.ireturn, 0), some (.aload_n 0, 0), some (.iload_n 1, 0), some (.iconst 1, 0), some (.iload_n 2, 0), some (.bipush 10, 0), none, some (.irem, 0), some (.invokevirtual 97, 135), none, none],
  [some (.aload_n 0, 0), some (.bipush 7, 0), none, some (.bipush 6, 0), none, some (.iload_n 1, 0), some (.imul, 0), some (.iadd, 0), some (.iload_n 2, 0), some (.bipush 10, 0), none, some (.idiv, 0), some (.invokevirtual 122, 150), none, none, some (.ireturn, 0)]]
def tb_m149 : ab_M := (⟨"ScrewLeftModel", "become", "(II)I"⟩, prog_14_method_29_code, 3, (some .int), 0, 0, (5104, 5102, 1013), tb_t149)
def tb_t150 : ab_T := [
  [some (.aload_n 0, 0), some (.iload_n 1, 0), some (.invokevirtual 112, 136), none, none, some (.ifCond .eq 13, 18), none, none, some (.iload_n 2, 0), some (.iconst 0, 0), some (.bipush 6, 0), none, some (.invokestatic 60, 133), none, none, some (.ifCond .ne 10, 25)],
  [none, none, some (.aload_n 0, 0), some (.ldc 107, 7), none, some (.invokevirtual 108, 134), none, none, some (.ireturn, 0), some (.aload_n 0, 0), some (.iload_n 1, 0), some (.iconst 0, 0), some (.invokevirtual 68, 137), none, none, some (.istore_n 3, 0)],
  [some (.iload_n 2, 0), some (.ifCond .eq 39, 72), none, none, some (.iload_n 2, 0), some (.iload_n 3, 0), some (.if_icmp .eq 34, 72), none, none, some (.iload_n 2, 0), some (.iconst 1, 0), some (.if_icmp .ne 8, 51), none, none, some (.iload_n 3, 0), some (.iconst 4, 0)],
  [some (.if_icmp .eq 24, 72), none, none, some (.iload_n 2, 0), some (.iconst 2, 0), some (.if_icmp .ne 8, 61), none, none, some (.iload_n 3, 0), some (.iconst 5, 0), some (.if_icmp .eq 14, 72), none, none, some (.iload_n 2, 0), some (.iconst 3, 0), some (.if_icmp .ne 13, 76)],
  [none, none, some (.iload_n 3, 0), some (.bipush 6, 0), none, some (.if_icmp .ne 7, 76), none, none, some (.iconst 1, 0), some (.goto 4, 77), none, none, some (.iconst 0, 0), some (.istore 4, 0), none, some (.iload 4, 0)],
  [none, some (.ifCond .eq 12, 93), none, none, some (.aload_n 0, 0), some (.iload_n 1, 0), some (.iconst 1, 0), some (.invokevirtual 68, 137), none, none, some (.goto 9, 99), none, none, some (.aload_n 0, 0), some (.ldc 126, 12), none],
  [some (.invokevirtual 108, 134), none, none, some (.ireturn, 0)]]
def tb_m150 : ab_M := (⟨"ScrewLeftModel", "as", "(II)I"⟩, prog_14_method_30_code, 5, (some .int), 0, 0, (5108, 5106, 1013), tb_t150)
def tb_t151 : ab_T := [
  [some (.iload_n 3, 0), some (.iconst 1, 0), some (.bipush 8, 0), none, some (.invokestatic 60, 133), none, none, some (.ifCond .ne 10, 17), none, none, some (.aload_n 0, 0), some (.ldc 107, 7), none, some (.invokevirtual 108, 134), none, none],
  [some (.ireturn, 0), some (.aload_n 0, 0), some (.getfield 9, 71), none, none, some (.iconst 5, 0), some (.iaload, 0), some (.iload_n 3, 0), some (.iadd, 0), some (.bipush 50, 0), none, some (.if_icmp .le 10, 37), none, none, some (.aload_n 0, 0), some (.ldc 111, 8)],
  [none, some (.invokevirtual 108, 134), none, none, some (.ireturn, 0), some (.iconst 0, 0), some (.istore 4, 0), none, some (.iload 4, 0), none, some (.iload_n 3, 0), some (.if_icmp .ge 45, 88), none, none, some (.aload_n 0, 0), some (.getfield 9, 71)],
  [none, none, some (.bipush 55, 0), none, some (.aload_n 0, 0), some (.getfield 9, 71), none, none, some (.iconst 5, 0), some (.iaload, 0), some (.iadd, 0), some (.lload_n 1, 0), some (.bipush 8, 0), none, some (.iload 4, 0), none],
  [some (.imul, 0), some (.lshr, 0), some (.ldc2_w 127, 13), none, none, some (.land, 0), some (.l2i, 0), some (.iastore, 0), some (.aload_n 0, 0), some (.getfield 9, 71), none, none, some (.iconst 5, 0), some (.dup2, 0), some (.iaload, 0), some (.iconst 1, 0)],
  [some (.iadd, 0), some (.iastore, 0), some (.iinc 4 1, 0), none, none, some (.goto (-45), 40), none, none, some (.aload_n 0, 0), some (.getfield 9, 71), none, none, some (.iconst 5, 0), some (.iaload, 0), some (.ireturn, 0)]]
def tb_m151 : ab_M := (⟨"ScrewLeftModel", "feed", "(JI)I"⟩, prog_14_method_31_code, 5, (some .int), 0, 0, (5113, 5111, 1013), tb_t151)
def tb_t152 : ab_T := [
  [some (.iload_n 1, 0), some (.iconst 0, 0), some (.iconst 1, 0), some (.invokestatic 60, 133), none, none, some (.ifCond .ne 10, 16), none, none, some (.aload_n 0, 0), some (.ldc 107, 7), none, some (.invokevirtual 108, 134), none, none, some (.ireturn, 0)],
  [some (.aload_n 0, 0), some (.iload_n 1, 0), some (.putfield 136, 86), none, none, some (.aload_n 0, 0), some (.iconst 0, 0), some (.putfield 133, 87), none, none, some (.aload_n 0, 0), some (.iconst 0, 0), some (.putfield 129, 88), none, none, some (.aload_n 0, 0)],
  [some (.iconst 0, 0), some (.putfield 150, 89), none, none, some (.aload_n 0, 0), some (.iconst 0, 0), some (.putfield 142, 90), none, none, some (.aload_n 0, 0), some (.invokevirtual 156, 151), none, none, some (.aload_n 0, 0), some (.aload_n 0, 0), some (.getfield 142, 90)],
  [none, none, some (.ifCond .ne 16, 66), none, none, some (.aload_n 0, 0), some (.getfield 129, 88), none, none, some (.aload_n 0, 0), some (.getfield 9, 71), none, none, some (.iconst 5, 0), some (.iaload, 0), some (.if_icmp .ge 7, 70)],
  [none, none, some (.iconst 1, 0), some (.goto 4, 71), none, none, some (.iconst 0, 0), some (.putfield 142, 90), none, none, some (.aload_n 0, 0), some (.getfield 9, 71), none, none, some (.iconst 5, 0), some (.iconst 0, 0)],
  [some (.iastore, 0), some (.aload_n 0, 0), some (.getfield 142, 90), none, none, some (.ifCond .eq 11, 96), none, none, some (.bipush (-10), 0), none, some (.aload_n 0, 0), some (.getfield 129, 88), none, none, some (.isub, 0), some (.ireturn, 0)],
  [some (.bipush 125, 0), none, some (.bipush 101, 0), none, some (.iload_n 1, 0), some (.imul, 0), some (.iadd, 0), some (.istore_n 2, 0), some (.aload_n 0, 0), some (.getfield 9, 71), none, none, some (.iload_n 2, 0), some (.aload_n 0, 0), some (.getfield 133, 87), none],
  [none, some (.iastore, 0), some (.iconst 0, 0), some (.istore_n 3, 0), some (.iload_n 3, 0), some (.aload_n 0, 0), some (.getfield 133, 87), none, none, some (.if_icmp .ge 42, 163), none, none, some (.aload_n 0, 0), some (.getfield 9, 71), none, none],
  [some (.iload_n 2, 0), some (.iconst 1, 0), some (.iadd, 0), some (.iload_n 3, 0), some (.iadd, 0), some (.aload_n 0, 0), some (.getfield 22, 75), none, none, some (.iload_n 3, 0), some (.iaload, 0), some (.iastore, 0), some (.aload_n 0, 0), some (.getfield 9, 71), none, none],
  [some (.iload_n 2, 0), some (.bipush 51, 0), none, some (.iadd, 0), some (.iload_n 3, 0), some (.iadd, 0), some (.aload_n 0, 0), some (.getfield 25, 76), none, none, some (.iload_n 3, 0), some (.iaload, 0), some (.iastore, 0), some (.iinc 3 1, 0), none, none],
  [some (.goto (-44), 116), none, none, some (.iconst 1, 0), some (.ireturn, 0)]]
def tb_m152 : ab_M := (⟨"ScrewLeftModel", "text", "(I)I"⟩, prog_14_method_43_code, 4, (some .int), 0, 0, (5118, 5116, 1013), tb_t152)
def tb_t153 : ab_T := [
  [some (.aload_n 0, 0), some (.invokevirtual 178, 152), none, none, some (.aload_n 0, 0), some (.getfield 142, 90), none, none, some (.ifCond .ne 36, 44), none, none, some (.aload_n 0, 0), some (.invokevirtual 139, 153), none, none, some (.bipush 124, 0)],
  [none, some (.if_icmp .ne 27, 44), none, none, some (.aload_n 0, 0), some (.dup, 0), some (.getfield 129, 88), none, none, some (.iconst 1, 0), some (.iadd, 0), some (.putfield 129, 88), none, none, some (.aload_n 0, 0), some (.invokevirtual 178, 152)],
  [none, none, some (.aload_n 0, 0), some (.bipush 124, 0), none, some (.iconst 0, 0), some (.invokevirtual 146, 154), none, none, some (.goto (-37), 4), none, none, some (.return_, 0)]]
def tb_m153 : ab_M := (⟨"ScrewLeftModel", "ored", "()V"⟩, prog_14_method_42_code, 1, none, 0, 0, (5122, 5121, 1013), tb_t153)
def tb_t154 : ab_T := [
  [some (.aload_n 0, 0), some (.invokevirtual 175, 155), none, none, some (.aload_n 0, 0), some (.getfield 142, 90), none, none, some (.ifCond .ne 36, 44), none, none, some (.aload_n 0, 0), some (.invokevirtual 139, 153), none, none, some (.bipush 38, 0)],
  [none, some (.if_icmp .ne 27, 44), none, none, some (.aload_n 0, 0), some (.dup, 0), some (.getfield 129, 88), none, none, some (.iconst 1, 0), some (.iadd, 0), some (.putfield 129, 88), none, none, some (.aload_n 0, 0), some (.invokevirtual 175, 155)],
  [none, none, some (.aload_n 0, 0), some (.bipush 38, 0), none, some (.iconst 0, 0), some (.invokevirtual 146, 154), none, none, some (.goto (-37), 4), none, none, some (.return_, 0)]]
def tb_m154 : ab_M := (⟨"ScrewLeftModel", "anded", "()V"⟩, prog_14_method_41_code, 1, none, 0, 0, (5126, 5125, 1013), tb_t154)
def tb_t155 : ab_T := [
  [some (.aload_n 0, 0), some (.invokevirtual 172, 156), none, none, some (.aload_n 0, 0), some (.invokevirtual 139, 153), none, none, some (.istore_n 1, 0), some (.aload_n 0, 0), some (.getfield 142, 90), none, none, some (.ifCond .ne 41, 54), none, none],
  [some (.iload_n 1, 0), some (.bipush 60, 0), none, some (.if_icmp .eq 15, 34), none, none, some (.iload_n 1, 0), some (.bipush 61, 0), none, some (.if_icmp .eq 9, 34), none, none, some (.iload_n 1, 0), some (.bipush 62, 0), none, some (.if_icmp .ne 23, 54)],
  [none, none, some (.aload_n 0, 0), some (.dup, 0), some (.getfield 129, 88), none, none, some (.iconst 1, 0), some (.iadd, 0), some (.putfield 129, 88), none, none, some (.aload_n 0, 0), some (.invokevirtual 172, 156), none, none],
  [some (.aload_n 0, 0), some (.iload_n 1, 0), some (.iconst 0, 0), some (.invokevirtual 146, 154), none, none, some (.return_, 0)]]
def tb_m155 : ab_M := (⟨"ScrewLeftModel", "compares", "()V"⟩, prog_14_method_40_code, 2, none, 0, 0, (5130, 5129, 1013), tb_t155)
def tb_t156 : ab_T := [
  [some (.aload_n 0, 0), some (.invokevirtual 169, 157), none, none, some (.aload_n 0, 0), some (.getfield 142, 90), none, none, some (.ifCond .ne 49, 57), none, none, some (.aload_n 0, 0), some (.invokevirtual 139, 153), none, none, some (.bipush 43, 0)],
  [none, some (.if_icmp .eq 12, 29), none, none, some (.aload_n 0, 0), some (.invokevirtual 139, 153), none, none, some (.bipush 45, 0), none, some (.if_icmp .ne 31, 57), none, none, some (.aload_n 0, 0), some (.invokevirtual 139, 153), none],
  [none, some (.istore_n 1, 0), some (.aload_n 0, 0), some (.dup, 0), some (.getfield 129, 88), none, none, some (.iconst 1, 0), some (.iadd, 0), some (.putfield 129, 88), none, none, some (.aload_n 0, 0), some (.invokevirtual 169, 157), none, none],
  [some (.aload_n 0, 0), some (.iload_n 1, 0), some (.iconst 0, 0), some (.invokevirtual 146, 154), none, none, some (.goto (-50), 4), none, none, some (.return_, 0)]]
def tb_m156 : ab_M := (⟨"ScrewLeftModel", "sum", "()V"⟩, prog_14_method_39_code, 2, none, 0, 0, (5134, 5133, 1013), tb_t156)
def tb_t157 : ab_T := [
  [some (.aload_n 0, 0), some (.invokevirtual 153, 158), none, none, some (.aload_n 0, 0), some (.getfield 142, 90), none, none, some (.ifCond .ne 58, 66), none, none, some (.aload_n 0, 0), some (.invokevirtual 139, 153), none, none, some (.bipush 42, 0)],
  [none, some (.if_icmp .eq 21, 38), none, none, some (.aload_n 0, 0), some (.invokevirtual 139, 153), none, none, some (.bipush 47, 0), none, some (.if_icmp .eq 12, 38), none, none, some (.aload_n 0, 0), some (.invokevirtual 139, 153), none],
  [none, some (.bipush 37, 0), none, some (.if_icmp .ne 31, 66), none, none, some (.aload_n 0, 0), some (.invokevirtual 139, 153), none, none, some (.istore_n 1, 0), some (.aload_n 0, 0), some (.dup, 0), some (.getfield 129, 88), none, none],
  [some (.iconst 1, 0), some (.iadd, 0), some (.putfield 129, 88), none, none, some (.aload_n 0, 0), some (.invokevirtual 153, 158), none, none, some (.aload_n 0, 0), some (.iload_n 1, 0), some (.iconst 0, 0), some (.invokevirtual 146, 154), none, none, some (.goto (-59), 4)],
  [none, none, some (.return_, 0)]]
def tb_m157 : ab_M := (⟨"ScrewLeftModel", "times", "()V"⟩, prog_14_method_38_code, 2, none, 0, 0, (5138, 5137, 1013), tb_t157)
def tb_t158 : ab_T := [
  [some (.aload_n 0, 0), some (.invokevirtual 139, 153), none, none, some (.istore_n 1, 0), some (.aload_n 0, 0), some (.iload_n 1, 0), some (.invokevirtual 159, 159), none, none, some (.istore_n 2, 0), some (.iload_n 2, 0), some (.ifCond .lt 22, 34), none, none, some (.aload_n 0, 0)],
  [some (.dup, 0), some (.getfield 129, 88), none, none, some (.iconst 1, 0), some (.iadd, 0), some (.putfield 129, 88), none, none, some (.aload_n 0, 0), some (.iconst 2, 0), some (.iload_n 2, 0), some (.invokevirtual 146, 154), none, none, some (.goto 27, 58)],
  [none, none, some (.iload_n 1, 0), some (.bipush 33, 0), none, some (.if_icmp .eq 9, 46), none, none, some (.iload_n 1, 0), some (.bipush 40, 0), none, some (.if_icmp .ne 11, 54), none, none, some (.aload_n 0, 0), some (.iload_n 1, 0)],
  [some (.invokevirtual 162, 160), none, none, some (.goto 7, 58), none, none, some (.aload_n 0, 0), some (.invokevirtual 166, 161), none, none, some (.return_, 0)]]
def tb_m158 : ab_M := (⟨"ScrewLeftModel", "pieceHere", "()V"⟩, prog_14_method_37_code, 3, none, 0, 0, (5142, 5141, 1013), tb_t158)
def tb_t159 : ab_T := [
  [some (.aload_n 0, 0), some (.getfield 129, 88), none, none, some (.aload_n 0, 0), some (.getfield 9, 71), none, none, some (.iconst 5, 0), some (.iaload, 0), some (.if_icmp .ge 18, 28), none, none, some (.aload_n 0, 0), some (.getfield 9, 71), none],
  [none, some (.bipush 55, 0), none, some (.aload_n 0, 0), some (.getfield 129, 88), none, none, some (.iadd, 0), some (.iaload, 0), some (.goto 4, 29), none, none, some (.iconst (-1), 0), some (.ireturn, 0)]]
def tb_m159 : ab_M := (⟨"ScrewLeftModel", "byteHere", "()I"⟩, prog_14_method_32_code, 1, (some .int), 0, 0, (5146, 5145, 1013), tb_t159)
def tb_t160 : ab_T := [
  [some (.iload_n 1, 0), some (.tableswitch 108 107 116 #[94, 108, 68, 108, 108, 108, 108, 108, 55, 81], 0), none, none, none, none, none, none, none, none, none, none, none, none, none, none],
  [none, none, none, none, none, none, none, none, none, none, none, none, none, none, none, none],
  [none, none, none, none, none, none, none, none, none, none, none, none, none, none, none, none],
  [none, none, none, none, none, none, none, none, some (.aload_n 0, 0), some (.getfield 136, 86), none, none, some (.ifCond .ne 7, 67), none, none, some (.iconst 0, 0)],
  [some (.goto 4, 68), none, none, some (.iconst (-1), 0), some (.ireturn, 0), some (.aload_n 0, 0), some (.getfield 136, 86), none, none, some (.ifCond .ne 7, 80), none, none, some (.iconst 1, 0), some (.goto 4, 81), none, none],
  [some (.iconst 0, 0), some (.ireturn, 0), some (.aload_n 0, 0), some (.getfield 136, 86), none, none, some (.ifCond .ne 7, 93), none, none, some (.iconst 2, 0), some (.goto 4, 94), none, none, some (.iconst 1, 0), some (.ireturn, 0), some (.aload_n 0, 0)],
  [some (.getfield 136, 86), none, none, some (.iconst 1, 0), some (.if_icmp .ne 7, 107), none, none, some (.iconst 2, 0), some (.goto 4, 108), none, none, some (.iconst (-1), 0), some (.ireturn, 0), some (.iconst (-1), 0), some (.ireturn, 0)]]
def tb_m160 : ab_M := (⟨"ScrewLeftModel", "nameOf", "(I)I"⟩, prog_14_method_34_code, 2, (some .int), 0, 0, (5150, 5149, 1013), tb_t160)
def tb_t161 : ab_T := [
  [some (.aload_n 0, 0), some (.getfield 133, 87), none, none, some (.aload_n 0, 0), some (.getfield 22, 75), none, none, some (.arraylength, 0), some (.if_icmp .ge 33, 42), none, none, some (.aload_n 0, 0), some (.getfield 22, 75), none, none],
  [some (.aload_n 0, 0), some (.getfield 133, 87), none, none, some (.iload_n 1, 0), some (.iastore, 0), some (.aload_n 0, 0), some (.getfield 25, 76), none, none, some (.aload_n 0, 0), some (.getfield 133, 87), none, none, some (.iload_n 2, 0), some (.iastore, 0)],
  [some (.aload_n 0, 0), some (.dup, 0), some (.getfield 133, 87), none, none, some (.iconst 1, 0), some (.iadd, 0), some (.putfield 133, 87), none, none, some (.return_, 0)]]
def tb_m161 : ab_M := (⟨"ScrewLeftModel", "lays", "(II)V"⟩, prog_14_method_33_code, 3, none, 0, 0, (5154, 5153, 1013), tb_t161)
def tb_t162 : ab_T := [
  [some (.aload_n 0, 0), some (.getfield 150, 89), none, none, some (.iconst 5, 0), some (.if_icmp .ne 9, 14), none, none, some (.aload_n 0, 0), some (.iconst 1, 0), some (.putfield 142, 90), none, none, some (.return_, 0), some (.aload_n 0, 0), some (.dup, 0)],
  [some (.getfield 150, 89), none, none, some (.iconst 1, 0), some (.iadd, 0), some (.putfield 150, 89), none, none, some (.aload_n 0, 0), some (.dup, 0), some (.getfield 129, 88), none, none, some (.iconst 1, 0), some (.iadd, 0), some (.putfield 129, 88)],
  [none, none, some (.iload_n 1, 0), some (.bipush 33, 0), none, some (.if_icmp .ne 16, 53), none, none, some (.aload_n 0, 0), some (.invokevirtual 153, 158), none, none, some (.aload_n 0, 0), some (.iconst 3, 0), some (.iconst 0, 0), some (.invokevirtual 146, 154)],
  [none, none, some (.goto 53, 103), none, none, some (.aload_n 0, 0), some (.invokevirtual 156, 151), none, none, some (.aload_n 0, 0), some (.aload_n 0, 0), some (.getfield 142, 90), none, none, some (.ifCond .ne 12, 74), none],
  [none, some (.aload_n 0, 0), some (.invokevirtual 139, 153), none, none, some (.bipush 41, 0), none, some (.if_icmp .eq 7, 78), none, none, some (.iconst 1, 0), some (.goto 4, 79), none, none, some (.iconst 0, 0), some (.putfield 142, 90)],
  [none, none, some (.aload_n 0, 0), some (.dup, 0), some (.getfield 129, 88), none, none, some (.aload_n 0, 0), some (.getfield 142, 90), none, none, some (.ifCond .eq 7, 98), none, none, some (.iconst 0, 0), some (.goto 4, 99)],
  [none, none, some (.iconst 1, 0), some (.iadd, 0), some (.putfield 129, 88), none, none, some (.aload_n 0, 0), some (.dup, 0), some (.getfield 150, 89), none, none, some (.iconst 1, 0), some (.isub, 0), some (.putfield 150, 89), none],
  [none, some (.return_, 0)]]
def tb_m162 : ab_M := (⟨"ScrewLeftModel", "opensBy", "(I)V"⟩, prog_14_method_36_code, 2, none, 0, 0, (5158, 5157, 1013), tb_t162)
def tb_t163 : ab_T := [
  [some (.iconst 0, 0), some (.istore_n 1, 0), some (.iconst 0, 0), some (.istore_n 2, 0), some (.iload_n 2, 0), some (.iconst 4, 0), some (.if_icmp .ge 46, 52), none, none, some (.aload_n 0, 0), some (.invokevirtual 139, 153), none, none, some (.bipush 48, 0), none, some (.bipush 57, 0)],
  [none, some (.invokestatic 60, 133), none, none, some (.ifCond .eq 32, 52), none, none, some (.bipush 10, 0), none, some (.iload_n 1, 0), some (.imul, 0), some (.aload_n 0, 0), some (.invokevirtual 139, 153), none, none, some (.iadd, 0)],
  [some (.bipush 48, 0), none, some (.isub, 0), some (.istore_n 1, 0), some (.aload_n 0, 0), some (.dup, 0), some (.getfield 129, 88), none, none, some (.iconst 1, 0), some (.iadd, 0), some (.putfield 129, 88), none, none, some (.iinc 2 1, 0), none],
  [none, some (.goto (-45), 4), none, none, some (.aload_n 0, 0), some (.iload_n 2, 0), some (.ifCond .ne 7, 61), none, none, some (.iconst 1, 0), some (.goto 4, 62), none, none, some (.iconst 0, 0), some (.putfield 142, 90), none],
  [none, some (.aload_n 0, 0), some (.iconst 1, 0), some (.iload_n 1, 0), some (.invokevirtual 146, 154), none, none, some (.return_, 0)]]
def tb_m163 : ab_M := (⟨"ScrewLeftModel", "number", "()V"⟩, prog_14_method_35_code, 3, none, 0, 0, (5162, 5161, 1013), tb_t163)
def tb_t164 : ab_T := [
  [some (.iload_n 1, 0), some (.iconst 0, 0), some (.iconst 1, 0), some (.invokestatic 60, 133), none, none, some (.ifCond .eq 15, 21), none, none, some (.aload_n 0, 0), some (.iload_n 1, 0), some (.iload_n 2, 0), some (.iload_n 3, 0), some (.iload 4, 0), none, some (.invokevirtual 76, 146)],
  [none, none, some (.goto 9, 27), none, none, some (.aload_n 0, 0), some (.ldc 107, 7), none, some (.invokevirtual 108, 134), none, none, some (.ireturn, 0)]]
def tb_m164 : ab_M := (⟨"ScrewLeftModel", "law", "(IIII)I"⟩, prog_14_method_47_code, 5, (some .int), 0, 0, (5166, 5164, 1013), tb_t164)
def tb_t165 : ab_T := [
  [some (.aload_n 0, 0), some (.iload_n 1, 0), some (.invokevirtual 112, 136), none, none, some (.ifCond .ne 10, 15), none, none, some (.aload_n 0, 0), some (.ldc 107, 7), none, some (.invokevirtual 108, 134), none, none, some (.ireturn, 0), some (.aload_n 0, 0)],
  [some (.iload_n 1, 0), some (.invokevirtual 115, 138), none, none, some (.ifCond .eq 20, 40), none, none, some (.aload_n 0, 0), some (.getfield 9, 71), none, none, some (.iconst 0, 0), some (.iaload, 0), some (.aload_n 0, 0), some (.iload_n 1, 0), some (.invokevirtual 80, 140)],
  [none, none, some (.iadd, 0), some (.ldc 125, 11), none, some (.if_icmp .le 10, 47), none, none, some (.aload_n 0, 0), some (.ldc 121, 10), none, some (.invokevirtual 108, 134), none, none, some (.ireturn, 0), some (.aload_n 0, 0)],
  [some (.iload_n 1, 0), some (.invokevirtual 187, 162), none, none, some (.aload_n 0, 0), some (.iload_n 1, 0), some (.iconst 5, 0), some (.invokevirtual 68, 137), none, none, some (.ireturn, 0)]]
def tb_m165 : ab_M := (⟨"ScrewLeftModel", "does", "(I)I"⟩, prog_14_method_48_code, 2, (some .int), 0, 0, (5170, 5168, 1013), tb_t165)
def tb_t166 : ab_T := [
  [some (.aload_n 0, 0), some (.iload_n 1, 0), some (.aload_n 0, 0), some (.invokevirtual 72, 145), none, none, some (.invokevirtual 94, 163), none, none, some (.istore_n 2, 0), some (.aload_n 0, 0), some (.getfield 9, 71), none, none, some (.iconst 0, 0), some (.dup2, 0)],
  [some (.iaload, 0), some (.aload_n 0, 0), some (.iload_n 1, 0), some (.invokevirtual 80, 140), none, none, some (.iadd, 0), some (.iastore, 0), some (.aload_n 0, 0), some (.getfield 9, 71), none, none, some (.iconst 4, 0), some (.dup2, 0), some (.iaload, 0), some (.aload_n 0, 0)],
  [some (.iload_n 1, 0), some (.iconst 2, 0), some (.invokevirtual 68, 137), none, none, some (.isub, 0), some (.iastore, 0), some (.aload_n 0, 0), some (.iload_n 1, 0), some (.iconst 4, 0), some (.iconst 1, 0), some (.invokevirtual 97, 135), none, none, some (.aload_n 0, 0), some (.iload_n 1, 0)],
  [some (.iconst 5, 0), some (.iload_n 2, 0), some (.invokevirtual 97, 135), none, none, some (.return_, 0)]]
def tb_m166 : ab_M := (⟨"ScrewLeftModel", "isDone", "(I)V"⟩, prog_14_method_22_code, 3, none, 0, 0, (5174, 5173, 1013), tb_t166)
def tb_t167 : ab_T := [
  [some (.aload_n 0, 0), some (.iconst 1, 0), some (.aload_n 0, 0), some (.iload_n 1, 0), some (.iconst 1, 0), some (.invokevirtual 68, 137), none, none, some (.iload_n 2, 0), some (.aload_n 0, 0), some (.iload_n 1, 0), some (.iconst 0, 0), some (.invokevirtual 68, 137), none, none, some (.invokevirtual 76, 146)],
  [none, none, some (.ireturn, 0)]]
def tb_m167 : ab_M := (⟨"ScrewLeftModel", "errsOf", "(II)I"⟩, prog_14_method_21_code, 3, (some .int), 0, 0, (5178, 5177, 1013), tb_t167)
def tb_t168 : ab_T := [
  [some (.aload_n 0, 0), some (.iload_n 1, 0), some (.invokevirtual 112, 136), none, none, some (.ifCond .ne 10, 15), none, none, some (.aload_n 0, 0), some (.ldc 107, 7), none, some (.invokevirtual 108, 134), none, none, some (.ireturn, 0), some (.aload_n 0, 0)],
  [some (.iload_n 1, 0), some (.invokevirtual 118, 139), none, none, some (.ifCond .eq 20, 40), none, none, some (.aload_n 0, 0), some (.getfield 9, 71), none, none, some (.iconst 0, 0), some (.iaload, 0), some (.aload_n 0, 0), some (.iload_n 1, 0), some (.invokevirtual 101, 141)],
  [none, none, some (.iadd, 0), some (.ldc 125, 11), none, some (.if_icmp .le 10, 47), none, none, some (.aload_n 0, 0), some (.ldc 121, 10), none, some (.invokevirtual 108, 134), none, none, some (.ireturn, 0), some (.aload_n 0, 0)],
  [some (.iload_n 1, 0), some (.invokevirtual 190, 164), none, none, some (.aload_n 0, 0), some (.getfield 9, 71), none, none, some (.iconst 4, 0), some (.iaload, 0), some (.ireturn, 0)]]
def tb_m168 : ab_M := (⟨"ScrewLeftModel", "undo", "(I)I"⟩, prog_14_method_49_code, 2, (some .int), 0, 0, (5182, 5180, 1013), tb_t168)
def tb_t169 : ab_T := [
  [some (.aload_n 0, 0), some (.iload_n 1, 0), some (.iconst 2, 0), some (.invokevirtual 68, 137), none, none, some (.istore_n 2, 0), some (.aload_n 0, 0), some (.getfield 9, 71), none, none, some (.iconst 0, 0), some (.dup2, 0), some (.iaload, 0), some (.aload_n 0, 0), some (.iload_n 1, 0)],
  [some (.invokevirtual 101, 141), none, none, some (.iadd, 0), some (.iastore, 0), some (.aload_n 0, 0), some (.getfield 9, 71), none, none, some (.iconst 4, 0), some (.iload_n 2, 0), some (.ifCond .le 16, 43), none, none, some (.aload_n 0, 0), some (.getfield 9, 71)],
  [none, none, some (.iconst 4, 0), some (.iaload, 0), some (.iload_n 2, 0), some (.iadd, 0), some (.iconst 1, 0), some (.isub, 0), some (.goto 9, 49), none, none, some (.aload_n 0, 0), some (.getfield 9, 71), none, none, some (.iconst 4, 0)],
  [some (.iaload, 0), some (.iconst 0, 0), some (.sipush 999, 0), none, none, some (.invokestatic 64, 147), none, none, some (.iastore, 0), some (.aload_n 0, 0), some (.iload_n 1, 0), some (.iconst 4, 0), some (.iconst 0, 0), some (.invokevirtual 97, 135), none, none],
  [some (.aload_n 0, 0), some (.iload_n 1, 0), some (.iconst 5, 0), some (.iconst 0, 0), some (.invokevirtual 97, 135), none, none, some (.return_, 0)]]
def tb_m169 : ab_M := (⟨"ScrewLeftModel", "isUndone", "(I)V"⟩, prog_14_method_23_code, 3, none, 0, 0, (5186, 5185, 1013), tb_t169)
def tb_t170 : ab_T := [
  [some (.iload_n 1, 0), some (.iconst 1, 0), some (.bipush 40, 0), none, some (.invokestatic 60, 133), none, none, some (.ifCond .ne 10, 17), none, none, some (.aload_n 0, 0), some (.ldc 107, 7), none, some (.invokevirtual 108, 134), none, none],
  [some (.ireturn, 0), some (.aload_n 0, 0), some (.getfield 9, 71), none, none, some (.iconst 0, 0), some (.iaload, 0), some (.sipush 300, 0), none, none, some (.iload_n 1, 0), some (.imul, 0), some (.iadd, 0), some (.ldc 125, 11), none, some (.if_icmp .le 10, 41)],
  [none, none, some (.aload_n 0, 0), some (.ldc 121, 10), none, some (.invokevirtual 108, 134), none, none, some (.ireturn, 0), some (.iconst 0, 0), some (.istore_n 2, 0), some (.iconst 0, 0), some (.istore_n 3, 0), some (.iload_n 3, 0), some (.iload_n 1, 0), some (.if_icmp .ge 16, 63)],
  [none, none, some (.iload_n 2, 0), some (.aload_n 0, 0), some (.invokevirtual 197, 165), none, none, some (.iadd, 0), some (.istore_n 2, 0), some (.iinc 3 1, 0), none, none, some (.goto (-15), 45), none, none, some (.iload_n 2, 0)],
  [some (.ireturn, 0)]]
def tb_m170 : ab_M := (⟨"ScrewLeftModel", "loose", "(I)I"⟩, prog_14_method_52_code, 4, (some .int), 0, 0, (5190, 5188, 1013), tb_t170)
def tb_t171 : ab_T := [
  [some (.aload_n 0, 0), some (.invokevirtual 194, 166), none, none, some (.bipush 8, 0), none, some (.irem, 0), some (.istore_n 1, 0), some (.aload_n 0, 0), some (.iload_n 1, 0), some (.invokevirtual 112, 136), none, none, some (.ifCond .eq 18, 31), none, none],
  [some (.aload_n 0, 0), some (.iload_n 1, 0), some (.invokevirtual 115, 138), none, none, some (.ifCond .eq 10, 31), none, none, some (.aload_n 0, 0), some (.iload_n 1, 0), some (.invokevirtual 187, 162), none, none, some (.iconst 1, 0), some (.ireturn, 0), some (.aload_n 0, 0)],
  [some (.iload_n 1, 0), some (.invokevirtual 112, 136), none, none, some (.ifCond .eq 19, 55), none, none, some (.aload_n 0, 0), some (.iload_n 1, 0), some (.invokevirtual 118, 139), none, none, some (.ifCond .eq 11, 55), none, none, some (.aload_n 0, 0)],
  [some (.iload_n 1, 0), some (.invokevirtual 190, 164), none, none, some (.goto 13, 65), none, none, some (.aload_n 0, 0), some (.getfield 9, 71), none, none, some (.iconst 0, 0), some (.dup2, 0), some (.iaload, 0), some (.iconst 1, 0), some (.iadd, 0)],
  [some (.iastore, 0), some (.iconst 0, 0), some (.ireturn, 0)]]
def tb_m171 : ab_M := (⟨"ScrewLeftModel", "drawn", "()I"⟩, prog_14_method_51_code, 2, (some .int), 0, 0, (5194, 5193, 1013), tb_t171)
def tb_t172 : ab_T := [
  [some (.aload_n 0, 0), some (.getfield 9, 71), none, none, some (.iconst 1, 0), some (.aload_n 0, 0), some (.getfield 9, 71), none, none, some (.iconst 1, 0), some (.iaload, 0), some (.ldc 193, 14), none, some (.imul, 0), some (.sipush 12345, 0), none],
  [none, some (.iadd, 0), some (.iastore, 0), some (.aload_n 0, 0), some (.getfield 9, 71), none, none, some (.iconst 1, 0), some (.iaload, 0), some (.bipush 8, 0), none, some (.iushr, 0), some (.ireturn, 0)]]
def tb_m172 : ab_M := (⟨"ScrewLeftModel", "draw", "()I"⟩, prog_14_method_50_code, 1, (some .int), 0, 0, (5198, 5197, 1013), tb_t172)
def tb_t173 : ab_T := [
  [some (.iload_n 1, 0), some (.iconst 0, 0), some (.iconst 1, 0), some (.invokestatic 60, 133), none, none, some (.ifCond .ne 10, 16), none, none, some (.aload_n 0, 0), some (.ldc 107, 7), none, some (.invokevirtual 108, 134), none, none, some (.ireturn, 0)],
  [some (.iconst 0, 0), some (.istore_n 2, 0), some (.iconst 0, 0), some (.istore_n 3, 0), some (.iload_n 3, 0), some (.aload_n 0, 0), some (.getfield 9, 71), none, none, some (.iconst 2, 0), some (.iaload, 0), some (.if_icmp .ge 27, 54), none, none, some (.iload_n 2, 0), some (.aload_n 0, 0)],
  [some (.iload_n 3, 0), some (.invokevirtual 118, 139), none, none, some (.ifCond .eq 9, 45), none, none, some (.iconst 1, 0), some (.iload_n 3, 0), some (.ishl, 0), some (.goto 4, 46), none, none, some (.iconst 0, 0), some (.ior, 0), some (.istore_n 2, 0)],
  [some (.iinc 3 1, 0), none, none, some (.goto (-31), 20), none, none, some (.iload_n 1, 0), some (.ifCond .ne 10, 65), none, none, some (.aload_n 0, 0), some (.invokevirtual 200, 167), none, none, some (.goto 4, 66), none],
  [none, some (.iload_n 2, 0), some (.ireturn, 0)]]
def tb_m173 : ab_M := (⟨"ScrewLeftModel", "next", "(I)I"⟩, prog_14_method_54_code, 4, (some .int), 0, 0, (5203, 5201, 1013), tb_t173)
def tb_t174 : ab_T := [
  [some (.iconst 0, 0), some (.istore_n 1, 0), some (.iconst 0, 0), some (.istore_n 2, 0), some (.iload_n 2, 0), some (.aload_n 0, 0), some (.getfield 9, 71), none, none, some (.iconst 2, 0), some (.iaload, 0), some (.if_icmp .ge 27, 38), none, none, some (.iload_n 1, 0), some (.aload_n 0, 0)],
  [some (.iload_n 2, 0), some (.invokevirtual 115, 138), none, none, some (.ifCond .eq 9, 29), none, none, some (.iconst 1, 0), some (.iload_n 2, 0), some (.ishl, 0), some (.goto 4, 30), none, none, some (.iconst 0, 0), some (.ior, 0), some (.istore_n 1, 0)],
  [some (.iinc 2 1, 0), none, none, some (.goto (-31), 4), none, none, some (.iload_n 1, 0), some (.ireturn, 0)]]
def tb_m174 : ab_M := (⟨"ScrewLeftModel", "mays", "()I"⟩, prog_14_method_53_code, 3, (some .int), 0, 0, (5207, 5206, 1013), tb_t174)
def tb_t175 : ab_T := [
  [some (.iload_n 1, 0), some (.iconst 0, 0), some (.iconst 2, 0), some (.invokestatic 60, 133), none, none, some (.ifCond .ne 10, 16), none, none, some (.aload_n 0, 0), some (.ldc 107, 7), none, some (.invokevirtual 108, 134), none, none, some (.ireturn, 0)],
  [some (.aload_n 0, 0), some (.invokevirtual 203, 168), none, none, some (.iconst 1, 0), some (.istore_n 2, 0), some (.iload_n 2, 0), some (.ifCond .eq 11, 34), none, none, some (.aload_n 0, 0), some (.invokevirtual 206, 169), none, none, some (.istore_n 2, 0), some (.goto (-9), 22)],
  [none, none, some (.iload_n 1, 0), some (.ifCond .ne 19, 54), none, none, some (.aload_n 0, 0), some (.getfield 9, 71), none, none, some (.iconst 0, 0), some (.iaload, 0), some (.aload_n 0, 0), some (.getfield 16, 73), none, none],
  [some (.iconst 0, 0), some (.iaload, 0), some (.isub, 0), some (.goto 29, 80), none, none, some (.iload_n 1, 0), some (.iconst 1, 0), some (.if_icmp .ne 20, 76), none, none, some (.aload_n 0, 0), some (.getfield 9, 71), none, none, some (.iconst 2, 0)],
  [some (.iaload, 0), some (.aload_n 0, 0), some (.invokevirtual 84, 142), none, none, some (.invokestatic 210, 170), none, none, some (.isub, 0), some (.goto 7, 80), none, none, some (.aload_n 0, 0), some (.invokevirtual 213, 171), none, none],
  [some (.istore_n 3, 0), some (.aload_n 0, 0), some (.invokevirtual 216, 172), none, none, some (.iload_n 3, 0), some (.ireturn, 0)]]
def tb_m175 : ab_M := (⟨"ScrewLeftModel", "all", "(I)I"⟩, prog_14_method_57_code, 4, (some .int), 0, 0, (5211, 5209, 1013), tb_t175)
def tb_t176 : ab_T := [
  [some (.aload_n 0, 0), some (.getfield 9, 71), none, none, some (.aload_n 0, 0), some (.getfield 16, 73), none, none, some (.invokestatic 56, 173), none, none, some (.return_, 0)]]
def tb_m176 : ab_M := (⟨"ScrewLeftModel", "thinks", "()V"⟩, prog_14_method_6_code, 1, none, 0, 0, (5215, 5214, 1013), tb_t176)
def tb_t177 : ab_T := [
  [some (.iconst 0, 0), some (.istore_n 2, 0), some (.iload_n 2, 0), some (.sipush 327, 0), none, none, some (.if_icmp .ge 15, 21), none, none, some (.aload_n 1, 0), some (.iload_n 2, 0), some (.aload_n 0, 0), some (.iload_n 2, 0), some (.iaload, 0), some (.iastore, 0), some (.iinc 2 1, 0)],
  [none, none, some (.goto (-16), 2), none, none, some (.return_, 0)]]
def tb_m177 : ab_M := (⟨"ScrewLeftModel", "copyAll", "([I[I)V"⟩, prog_14_method_5_code, 3, none, 0, 0, (5218, 5217, 1013), tb_t177)
def tb_t178 : ab_T := [
  [some (.iconst 0, 0), some (.istore_n 1, 0), some (.iload_n 1, 0), some (.aload_n 0, 0), some (.getfield 9, 71), none, none, some (.iconst 2, 0), some (.iaload, 0), some (.if_icmp .ge 24, 33), none, none, some (.aload_n 0, 0), some (.iload_n 1, 0), some (.invokevirtual 115, 138), none],
  [none, some (.ifCond .eq 10, 27), none, none, some (.aload_n 0, 0), some (.iload_n 1, 0), some (.invokevirtual 187, 162), none, none, some (.iconst 1, 0), some (.ireturn, 0), some (.iinc 1 1, 0), none, none, some (.goto (-28), 2), none],
  [none, some (.iconst 0, 0), some (.ireturn, 0)]]
def tb_m178 : ab_M := (⟨"ScrewLeftModel", "doesNext", "()Z"⟩, prog_14_method_55_code, 2, (some .boolean), 0, 0, (5222, 5221, 1013), tb_t178)
def tb_t179 : ab_T := [
  [some (.iconst 0, 0), some (.istore_n 1, 0), some (.iload_n 0, 0), some (.istore_n 2, 0), some (.iload_n 2, 0), some (.ifCond .eq 15, 20), none, none, some (.iinc 1 1, 0), none, none, some (.iload_n 2, 0), some (.iload_n 2, 0), some (.iconst 1, 0), some (.isub, 0), some (.iand, 0)],
  [some (.istore_n 2, 0), some (.goto (-13), 4), none, none, some (.iload_n 1, 0), some (.ireturn, 0)]]
def tb_m179 : ab_M := (⟨"ScrewLeftModel", "bits", "(I)I"⟩, prog_14_method_8_code, 3, (some .int), 0, 0, (5225, 5224, 1013), tb_t179)
def tb_t180 : ab_T := [
  [some (.iconst 0, 0), some (.istore_n 1, 0), some (.iconst 0, 0), some (.istore_n 2, 0), some (.iload_n 2, 0), some (.aload_n 0, 0), some (.getfield 9, 71), none, none, some (.iconst 2, 0), some (.iaload, 0), some (.if_icmp .ge 18, 29), none, none, some (.iload_n 1, 0), some (.aload_n 0, 0)],
  [some (.iload_n 2, 0), some (.iconst 5, 0), some (.invokevirtual 68, 137), none, none, some (.iadd, 0), some (.istore_n 1, 0), some (.iinc 2 1, 0), none, none, some (.goto (-22), 4), none, none, some (.iload_n 1, 0), some (.ireturn, 0)]]
def tb_m180 : ab_M := (⟨"ScrewLeftModel", "wrongs", "()I"⟩, prog_14_method_56_code, 3, (some .int), 0, 0, (5229, 5228, 1013), tb_t180)
def tb_t181 : ab_T := [
  [some (.aload_n 0, 0), some (.getfield 16, 73), none, none, some (.aload_n 0, 0), some (.getfield 9, 71), none, none, some (.invokestatic 56, 173), none, none, some (.return_, 0)]]
def tb_m181 : ab_M := (⟨"ScrewLeftModel", "putsBack", "()V"⟩, prog_14_method_7_code, 1, none, 0, 0, (5233, 5232, 1013), tb_t181)
def tb_t182 : ab_T := [
  [some (.iload_n 1, 0), some (.iconst (-1), 0), some (.iconst 4, 0), some (.invokestatic 60, 133), none, none, some (.ifCond .ne 10, 16), none, none, some (.aload_n 0, 0), some (.ldc 107, 7), none, some (.invokevirtual 108, 134), none, none, some (.ireturn, 0)],
  [some (.aload_n 0, 0), some (.getfield 9, 71), none, none, some (.iconst 2, 0), some (.iaload, 0), some (.aload_n 0, 0), some (.invokevirtual 84, 142), none, none, some (.invokestatic 210, 170), none, none, some (.isub, 0), some (.istore_n 2, 0), some (.iload_n 2, 0)],
  [some (.iconst 5, 0), some (.if_icmp .le 10, 43), none, none, some (.aload_n 0, 0), some (.ldc 121, 10), none, some (.invokevirtual 108, 134), none, none, some (.ireturn, 0), some (.aload_n 0, 0), some (.invokevirtual 203, 168), none, none, some (.aload_n 0, 0)],
  [some (.iconst (-1), 0), some (.putfield 219, 91), none, none, some (.aload_n 0, 0), some (.iconst 0, 0), some (.iload_n 2, 0), some (.invokevirtual 225, 174), none, none, some (.aload_n 0, 0), some (.invokevirtual 216, 172), none, none, some (.aload_n 0, 0), some (.getfield 219, 91)],
  [none, none, some (.ifCond .lt 8, 74), none, none, some (.iload_n 1, 0), some (.iload_n 2, 0), some (.if_icmp .lt 12, 83), none, none, some (.aload_n 0, 0), some (.ldc 231, 15), none, some (.invokevirtual 108, 134), none, none],
  [some (.goto 20, 100), none, none, some (.iload_n 1, 0), some (.ifCond .ge 10, 94), none, none, some (.aload_n 0, 0), some (.getfield 219, 91), none, none, some (.goto 9, 100), none, none, some (.aload_n 0, 0), some (.getfield 37, 80)],
  [none, none, some (.iload_n 1, 0), some (.iaload, 0), some (.ireturn, 0)]]
def tb_m182 : ab_M := (⟨"ScrewLeftModel", "order", "(I)I"⟩, prog_14_method_61_code, 3, (some .int), 0, 0, (5237, 5235, 1013), tb_t182)
def tb_t183 : ab_T := [
  [some (.iload_n 1, 0), some (.iload_n 2, 0), some (.if_icmp .ne 67, 69), none, none, some (.aload_n 0, 0), some (.getfield 9, 71), none, none, some (.iconst 0, 0), some (.iaload, 0), some (.aload_n 0, 0), some (.getfield 16, 73), none, none, some (.iconst 0, 0)],
  [some (.iaload, 0), some (.isub, 0), some (.istore_n 3, 0), some (.aload_n 0, 0), some (.getfield 219, 91), none, none, some (.ifCond .lt 11, 34), none, none, some (.iload_n 3, 0), some (.aload_n 0, 0), some (.getfield 219, 91), none, none, some (.if_icmp .ge 37, 68)],
  [none, none, some (.aload_n 0, 0), some (.iload_n 3, 0), some (.putfield 219, 91), none, none, some (.iconst 0, 0), some (.istore 4, 0), none, some (.iload 4, 0), none, some (.iload_n 2, 0), some (.if_icmp .ge 23, 68), none, none],
  [some (.aload_n 0, 0), some (.getfield 37, 80), none, none, some (.iload 4, 0), none, some (.aload_n 0, 0), some (.getfield 34, 79), none, none, some (.iload 4, 0), none, some (.iaload, 0), some (.iastore, 0), some (.iinc 4 1, 0), none],
  [none, some (.goto (-23), 42), none, none, some (.return_, 0), some (.aload_n 0, 0), some (.iload_n 1, 0), some (.invokevirtual 222, 175), none, none, some (.iconst 0, 0), some (.istore_n 3, 0), some (.iload_n 3, 0), some (.aload_n 0, 0), some (.getfield 9, 71), none],
  [none, some (.iconst 2, 0), some (.iaload, 0), some (.if_icmp .ge 42, 125), none, none, some (.aload_n 0, 0), some (.iload_n 3, 0), some (.invokevirtual 115, 138), none, none, some (.ifCond .eq 28, 119), none, none, some (.aload_n 0, 0), some (.getfield 34, 79)],
  [none, none, some (.iload_n 1, 0), some (.iload_n 3, 0), some (.iastore, 0), some (.aload_n 0, 0), some (.iload_n 3, 0), some (.invokevirtual 187, 162), none, none, some (.aload_n 0, 0), some (.iload_n 1, 0), some (.iconst 1, 0), some (.iadd, 0), some (.iload_n 2, 0), some (.invokevirtual 225, 174)],
  [none, none, some (.aload_n 0, 0), some (.iload_n 1, 0), some (.invokevirtual 228, 176), none, none, some (.iinc 3 1, 0), none, none, some (.goto (-46), 76), none, none, some (.return_, 0)]]
def tb_m183 : ab_M := (⟨"ScrewLeftModel", "tries", "(II)V"⟩, prog_14_method_60_code, 5, none, 0, 0, (6001, 6000, 1013), tb_t183)
def tb_t184 : ab_T := [
  [some (.iconst 0, 0), some (.istore_n 2, 0), some (.iload_n 2, 0), some (.bipush 125, 0), none, some (.if_icmp .ge 26, 31), none, none, some (.aload_n 0, 0), some (.getfield 40, 81), none, none, some (.bipush 125, 0), none, some (.iload_n 1, 0), some (.imul, 0)],
  [some (.iload_n 2, 0), some (.iadd, 0), some (.aload_n 0, 0), some (.getfield 9, 71), none, none, some (.iload_n 2, 0), some (.iaload, 0), some (.iastore, 0), some (.iinc 2 1, 0), none, none, some (.goto (-26), 2), none, none, some (.return_, 0)]]
def tb_m184 : ab_M := (⟨"ScrewLeftModel", "laysAside", "(I)V"⟩, prog_14_method_58_code, 3, none, 0, 0, (6005, 6004, 1013), tb_t184)
def tb_t185 : ab_T := [
  [some (.iconst 0, 0), some (.istore_n 2, 0), some (.iload_n 2, 0), some (.bipush 125, 0), none, some (.if_icmp .ge 26, 31), none, none, some (.aload_n 0, 0), some (.getfield 9, 71), none, none, some (.iload_n 2, 0), some (.aload_n 0, 0), some (.getfield 40, 81), none],
  [none, some (.bipush 125, 0), none, some (.iload_n 1, 0), some (.imul, 0), some (.iload_n 2, 0), some (.iadd, 0), some (.iaload, 0), some (.iastore, 0), some (.iinc 2 1, 0), none, none, some (.goto (-26), 2), none, none, some (.return_, 0)]]
def tb_m185 : ab_M := (⟨"ScrewLeftModel", "takesBack", "(I)V"⟩, prog_14_method_59_code, 3, none, 0, 0, (6009, 6008, 1013), tb_t185)
def tb_t186 : ab_T := [
  [some (.aload_n 0, 0), some (.iload_n 1, 0), some (.invokevirtual 112, 136), none, none, some (.ifCond .ne 10, 15), none, none, some (.aload_n 0, 0), some (.ldc 107, 7), none, some (.invokevirtual 108, 134), none, none, some (.ireturn, 0), some (.aload_n 0, 0)],
  [some (.iload_n 1, 0), some (.iconst 4, 0), some (.invokevirtual 68, 137), none, none, some (.iconst 1, 0), some (.if_icmp .ne 11, 33), none, none, some (.aload_n 0, 0), some (.iload_n 1, 0), some (.invokevirtual 232, 177), none, none, some (.goto 9, 39), none],
  [none, some (.aload_n 0, 0), some (.ldc 121, 10), none, some (.invokevirtual 108, 134), none, none, some (.ireturn, 0)]]
def tb_m186 : ab_M := (⟨"ScrewLeftModel", "under", "(I)I"⟩, prog_14_method_63_code, 2, (some .int), 0, 0, (6014, 6012, 1013), tb_t186)
def tb_t187 : ab_T := [
  [some (.aload_n 0, 0), some (.iload_n 1, 0), some (.invokevirtual 91, 144), none, none, some (.istore_n 2, 0), some (.iconst 1, 0), some (.istore_n 3, 0), some (.iload_n 3, 0), some (.ifCond .eq 69, 78), none, none, some (.iload_n 2, 0), some (.istore 4, 0), none, some (.iconst 0, 0)],
  [some (.istore 5, 0), none, some (.iload 5, 0), none, some (.aload_n 0, 0), some (.getfield 9, 71), none, none, some (.iconst 2, 0), some (.iaload, 0), some (.if_icmp .ge 34, 60), none, none, some (.iload 4, 0), none, some (.iload_n 2, 0)],
  [some (.iload 5, 0), none, some (.ishr, 0), some (.iconst 1, 0), some (.iand, 0), some (.iconst 1, 0), some (.if_icmp .ne 12, 50), none, none, some (.aload_n 0, 0), some (.iload 5, 0), none, some (.invokevirtual 91, 144), none, none, some (.goto 4, 51)],
  [none, none, some (.iconst 0, 0), some (.ior, 0), some (.istore 4, 0), none, some (.iinc 5 1, 0), none, none, some (.goto (-39), 18), none, none, some (.iload 4, 0), none, some (.iload_n 2, 0), some (.if_icmp .eq 7, 70)],
  [none, none, some (.iconst 1, 0), some (.goto 4, 71), none, none, some (.iconst 0, 0), some (.istore_n 3, 0), some (.iload 4, 0), none, some (.istore_n 2, 0), some (.goto (-67), 8), none, none, some (.iload_n 2, 0), some (.ireturn, 0)]]
def tb_m187 : ab_M := (⟨"ScrewLeftModel", "underOf", "(I)I"⟩, prog_14_method_62_code, 6, (some .int), 0, 0, (6018, 6017, 1013), tb_t187)
def tb_t188 : ab_T := [
  [some (.aload_n 0, 0), some (.iload_n 1, 0), some (.invokevirtual 112, 136), none, none, some (.ifCond .eq 12, 17), none, none, some (.iload_n 2, 0), some (.iconst 0, 0), some (.iconst 1, 0), some (.invokestatic 60, 133), none, none, some (.ifCond .ne 10, 24), none],
  [none, some (.aload_n 0, 0), some (.ldc 107, 7), none, some (.invokevirtual 108, 134), none, none, some (.ireturn, 0), some (.aload_n 0, 0), some (.iload_n 1, 0), some (.iconst 4, 0), some (.invokevirtual 68, 137), none, none, some (.ifCond .ne 10, 40), none],
  [none, some (.aload_n 0, 0), some (.ldc 121, 10), none, some (.invokevirtual 108, 134), none, none, some (.ireturn, 0), some (.iload_n 2, 0), some (.ifCond .ne 11, 52), none, none, some (.aload_n 0, 0), some (.iload_n 1, 0), some (.invokevirtual 235, 178), none],
  [none, some (.goto 16, 65), none, none, some (.aload_n 0, 0), some (.iload_n 1, 0), some (.invokevirtual 238, 179), none, none, some (.ifCond .eq 7, 64), none, none, some (.iconst 1, 0), some (.goto 4, 65), none, none],
  [some (.iconst 0, 0), some (.ireturn, 0)]]
def tb_m188 : ab_M := (⟨"ScrewLeftModel", "goBack", "(II)I"⟩, prog_14_method_66_code, 3, (some .int), 0, 0, (6022, 6020, 1013), tb_t188)
def tb_t189 : ab_T := [
  [some (.aload_n 0, 0), some (.iload_n 1, 0), some (.invokevirtual 232, 177), none, none, some (.istore_n 2, 0), some (.aload_n 0, 0), some (.invokevirtual 203, 168), none, none, some (.aload_n 0, 0), some (.getfield 9, 71), none, none, some (.iconst 2, 0), some (.iaload, 0)],
  [some (.iconst 1, 0), some (.isub, 0), some (.istore_n 3, 0), some (.iload_n 3, 0), some (.ifCond .lt 37, 57), none, none, some (.iload_n 3, 0), some (.iload_n 1, 0), some (.if_icmp .eq 12, 37), none, none, some (.iload_n 2, 0), some (.iload_n 3, 0), some (.ishr, 0), some (.iconst 1, 0)],
  [some (.iand, 0), some (.iconst 1, 0), some (.if_icmp .ne 17, 51), none, none, some (.aload_n 0, 0), some (.getfield 9, 71), none, none, some (.iconst 0, 0), some (.dup2, 0), some (.iaload, 0), some (.aload_n 0, 0), some (.iload_n 3, 0), some (.invokevirtual 101, 141), none],
  [none, some (.iadd, 0), some (.iastore, 0), some (.iinc 3 (-1), 0), none, none, some (.goto (-35), 19), none, none, some (.iconst 0, 0), some (.istore_n 3, 0), some (.iload_n 3, 0), some (.aload_n 0, 0), some (.getfield 9, 71), none, none],
  [some (.iconst 2, 0), some (.iaload, 0), some (.if_icmp .ge 37, 103), none, none, some (.iload_n 3, 0), some (.iload_n 1, 0), some (.if_icmp .eq 12, 83), none, none, some (.iload_n 2, 0), some (.iload_n 3, 0), some (.ishr, 0), some (.iconst 1, 0), some (.iand, 0), some (.iconst 1, 0)],
  [some (.if_icmp .ne 17, 97), none, none, some (.aload_n 0, 0), some (.getfield 9, 71), none, none, some (.iconst 0, 0), some (.dup2, 0), some (.iaload, 0), some (.aload_n 0, 0), some (.iload_n 3, 0), some (.invokevirtual 80, 140), none, none, some (.iadd, 0)],
  [some (.iastore, 0), some (.iinc 3 1, 0), none, none, some (.goto (-41), 59), none, none, some (.aload_n 0, 0), some (.getfield 9, 71), none, none, some (.iconst 0, 0), some (.iaload, 0), some (.aload_n 0, 0), some (.getfield 16, 73), none],
  [none, some (.iconst 0, 0), some (.iaload, 0), some (.isub, 0), some (.istore_n 3, 0), some (.aload_n 0, 0), some (.invokevirtual 216, 172), none, none, some (.iload_n 3, 0), some (.ireturn, 0)]]
def tb_m189 : ab_M := (⟨"ScrewLeftModel", "goingBack", "(I)I"⟩, prog_14_method_64_code, 4, (some .int), 0, 0, (6026, 6025, 1013), tb_t189)
def tb_t190 : ab_T := [
  [some (.aload_n 0, 0), some (.iload_n 1, 0), some (.invokevirtual 232, 177), none, none, some (.iconst 1, 0), some (.iload_n 1, 0), some (.ishl, 0), some (.ior, 0), some (.istore_n 2, 0), some (.iconst 0, 0), some (.istore_n 3, 0), some (.iconst 0, 0), some (.istore 4, 0), none, some (.iload 4, 0)],
  [none, some (.aload_n 0, 0), some (.getfield 9, 71), none, none, some (.iconst 2, 0), some (.iaload, 0), some (.if_icmp .ge 38, 61), none, none, some (.iload_n 3, 0), some (.ifCond .ne 22, 49), none, none, some (.iload_n 2, 0), some (.iload 4, 0)],
  [none, some (.ishr, 0), some (.iconst 1, 0), some (.iand, 0), some (.iconst 1, 0), some (.if_icmp .ne 16, 53), none, none, some (.aload_n 0, 0), some (.iload 4, 0), none, some (.invokevirtual 87, 143), none, none, some (.ifCond .eq 7, 53), none],
  [none, some (.iconst 1, 0), some (.goto 4, 54), none, none, some (.iconst 0, 0), some (.istore_n 3, 0), some (.iinc 4 1, 0), none, none, some (.goto (-43), 15), none, none, some (.iload_n 3, 0), some (.ireturn, 0)]]
def tb_m190 : ab_M := (⟨"ScrewLeftModel", "isBlocked", "(I)Z"⟩, prog_14_method_65_code, 5, (some .boolean), 0, 0, (6030, 6029, 1013), tb_t190)
def tb_t191 : ab_T := [
  [some (.aload_n 0, 0), some (.getfield 9, 71), none, none, some (.iconst 4, 0), some (.iaload, 0), some (.istore_n 1, 0), some (.iconst 0, 0), some (.istore_n 2, 0), some (.iload_n 2, 0), some (.aload_n 0, 0), some (.getfield 9, 71), none, none, some (.iconst 2, 0), some (.iaload, 0)],
  [some (.if_icmp .ge 31, 47), none, none, some (.iload_n 1, 0), some (.aload_n 0, 0), some (.iload_n 2, 0), some (.iconst 4, 0), some (.invokevirtual 68, 137), none, none, some (.ifCond .ne 12, 38), none, none, some (.aload_n 0, 0), some (.iload_n 2, 0), some (.iconst 2, 0)],
  [some (.invokevirtual 68, 137), none, none, some (.goto 4, 39), none, none, some (.iconst 0, 0), some (.isub, 0), some (.istore_n 1, 0), some (.iinc 2 1, 0), none, none, some (.goto (-35), 9), none, none, some (.iload_n 1, 0)],
  [some (.ireturn, 0)]]
def tb_m191 : ab_M := (⟨"ScrewLeftModel", "left", "()I"⟩, prog_14_method_67_code, 3, (some .int), 0, 0, (6034, 6032, 1013), tb_t191)
def tb_t192 : ab_T := [
  [some (.iload_n 1, 0), some (.iconst 0, 0), some (.bipush 99, 0), none, some (.invokestatic 60, 133), none, none, some (.ifCond .eq 12, 19), none, none, some (.iload_n 2, 0), some (.iconst 0, 0), some (.iconst 1, 0), some (.invokestatic 60, 133), none, none],
  [some (.ifCond .ne 10, 26), none, none, some (.aload_n 0, 0), some (.ldc 107, 7), none, some (.invokevirtual 108, 134), none, none, some (.ireturn, 0), some (.aload_n 0, 0), some (.invokevirtual 84, 142), none, none, some (.istore_n 3, 0), some (.iconst 0, 0)],
  [some (.istore 4, 0), none, some (.iconst (-1), 0), some (.istore 5, 0), none, some (.iload_n 3, 0), some (.istore 6, 0), none, some (.iload 6, 0), none, some (.ifCond .lt 64, 106), none, none, some (.iload 6, 0), none, some (.iload_n 3, 0)],
  [some (.iconst (-1), 0), some (.ixor, 0), some (.iand, 0), some (.ifCond .ne 17, 68), none, none, some (.aload_n 0, 0), some (.iload 6, 0), none, some (.invokevirtual 241, 180), none, none, some (.iload_n 1, 0), some (.if_icmp .ne 7, 68), none, none],
  [some (.iconst 1, 0), some (.goto 4, 69), none, none, some (.iconst 0, 0), some (.istore 7, 0), none, some (.iload 4, 0), none, some (.iload 7, 0), none, some (.ifCond .eq 7, 82), none, none, some (.iconst 1, 0), some (.goto 4, 83)],
  [none, none, some (.iconst 0, 0), some (.iadd, 0), some (.istore 4, 0), none, some (.iload 7, 0), none, some (.ifCond .eq 8, 96), none, none, some (.iload 6, 0), none, some (.goto 5, 98), none, none],
  [some (.iload 5, 0), none, some (.istore 5, 0), none, some (.iinc 6 (-1), 0), none, none, some (.goto (-63), 40), none, none, some (.iload_n 2, 0), some (.ifCond .ne 8, 115), none, none, some (.iload 4, 0), none],
  [some (.goto 19, 131), none, none, some (.iload 5, 0), none, some (.ifCond .ge 12, 129), none, none, some (.aload_n 0, 0), some (.ldc 231, 15), none, some (.invokevirtual 108, 134), none, none, some (.goto 5, 131), none],
  [none, some (.iload 5, 0), none, some (.ireturn, 0)]]
def tb_m192 : ab_M := (⟨"ScrewLeftModel", "whose", "(II)I"⟩, prog_14_method_69_code, 8, (some .int), 0, 0, (6038, 6036, 1013), tb_t192)
def tb_t193 : ab_T := [
  [some (.iconst 0, 0), some (.istore_n 2, 0), some (.iconst 0, 0), some (.istore_n 3, 0), some (.iload_n 3, 0), some (.aload_n 0, 0), some (.getfield 9, 71), none, none, some (.iconst 2, 0), some (.iaload, 0), some (.if_icmp .ge 31, 42), none, none, some (.iload_n 2, 0), some (.iload_n 1, 0)],
  [some (.iload_n 3, 0), some (.ishr, 0), some (.iconst 1, 0), some (.iand, 0), some (.iconst 1, 0), some (.if_icmp .ne 12, 33), none, none, some (.aload_n 0, 0), some (.iload_n 3, 0), some (.iconst 2, 0), some (.invokevirtual 68, 137), none, none, some (.goto 4, 34), none],
  [none, some (.iconst 0, 0), some (.iadd, 0), some (.istore_n 2, 0), some (.iinc 3 1, 0), none, none, some (.goto (-35), 4), none, none, some (.iload_n 2, 0), some (.ireturn, 0)]]
def tb_m193 : ab_M := (⟨"ScrewLeftModel", "screwsOf", "(I)I"⟩, prog_14_method_68_code, 4, (some .int), 0, 0, (6042, 6041, 1013), tb_t193)
def tb_t194 : ab_T := [
  [some (.iconst (-1), 0), some (.istore_n 1, 0), some (.iconst 0, 0), some (.istore_n 2, 0), some (.iconst 0, 0), some (.istore_n 3, 0), some (.iload_n 3, 0), some (.aload_n 0, 0), some (.getfield 9, 71), none, none, some (.iconst 2, 0), some (.iaload, 0), some (.if_icmp .ge 74, 87), none, none],
  [some (.aload_n 0, 0), some (.iload_n 3, 0), some (.iconst 5, 0), some (.invokevirtual 68, 137), none, none, some (.iconst 1, 0), some (.if_icmp .ne 58, 81), none, none, some (.aload_n 0, 0), some (.iload_n 3, 0), some (.invokevirtual 238, 179), none, none, some (.ifCond .ne 50, 81)],
  [none, none, some (.aload_n 0, 0), some (.iload_n 3, 0), some (.invokevirtual 235, 178), none, none, some (.istore 4, 0), none, some (.iload_n 1, 0), some (.ifCond .lt 9, 51), none, none, some (.iload 4, 0), none, some (.iload_n 2, 0)],
  [some (.if_icmp .ge 7, 55), none, none, some (.iconst 1, 0), some (.goto 4, 56), none, none, some (.iconst 0, 0), some (.istore 5, 0), none, some (.iload 5, 0), none, some (.ifCond .eq 7, 67), none, none, some (.iload_n 3, 0)],
  [some (.goto 4, 68), none, none, some (.iload_n 1, 0), some (.istore_n 1, 0), some (.iload 5, 0), none, some (.ifCond .eq 8, 79), none, none, some (.iload 4, 0), none, some (.goto 4, 80), none, none, some (.iload_n 2, 0)],
  [some (.istore_n 2, 0), some (.iinc 3 1, 0), none, none, some (.goto (-78), 6), none, none, some (.iload_n 1, 0), some (.ifCond .ge 12, 100), none, none, some (.aload_n 0, 0), some (.ldc 231, 15), none, some (.invokevirtual 108, 134), none],
  [none, some (.goto 4, 101), none, none, some (.iload_n 1, 0), some (.ireturn, 0)]]
def tb_m194 : ab_M := (⟨"ScrewLeftModel", "lookAt", "()I"⟩, prog_14_method_70_code, 6, (some .int), 0, 0, (6046, 6044, 1013), tb_t194)
def tb_t195 : ab_T := [
  [some (.iload_n 1, 0), some (.invokestatic 253, 181), none, none, some (.ifCond .eq 12, 16), none, none, some (.iload_n 2, 0), some (.iconst 0, 0), some (.iconst 1, 0), some (.invokestatic 60, 133), none, none, some (.ifCond .ne 10, 23), none, none],
  [some (.aload_n 0, 0), some (.ldc 107, 7), none, some (.invokevirtual 108, 134), none, none, some (.ireturn, 0), some (.aload_n 0, 0), some (.getfield 46, 83), none, none, some (.iload_n 1, 0), some (.iaload, 0), some (.ifCond .eq 17, 46), none, none],
  [some (.aload_n 0, 0), some (.getfield 49, 84), none, none, some (.iload_n 1, 0), some (.iaload, 0), some (.iconst 1, 0), some (.iconst 4, 0), some (.invokestatic 60, 133), none, none, some (.ifCond .ne 10, 53), none, none, some (.aload_n 0, 0), some (.ldc 231, 15)],
  [none, some (.invokevirtual 108, 134), none, none, some (.ireturn, 0), some (.aload_n 0, 0), some (.iconst 0, 0), some (.putfield 244, 92), none, none, some (.aload_n 0, 0), some (.iconst (-1), 0), some (.putfield 247, 93), none, none, some (.aload_n 0, 0)],
  [some (.iload_n 1, 0), some (.iconst 0, 0), some (.invokevirtual 250, 182), none, none, some (.iload_n 2, 0), some (.ifCond .ne 10, 80), none, none, some (.aload_n 0, 0), some (.getfield 244, 92), none, none, some (.goto 23, 100), none, none],
  [some (.aload_n 0, 0), some (.getfield 247, 93), none, none, some (.ifCond .ge 12, 96), none, none, some (.aload_n 0, 0), some (.ldc 231, 15), none, some (.invokevirtual 108, 134), none, none, some (.goto 7, 100), none, none],
  [some (.aload_n 0, 0), some (.getfield 247, 93), none, none, some (.ireturn, 0)]]
def tb_m195 : ab_M := (⟨"ScrewLeftModel", "orders", "(II)I"⟩, prog_14_method_72_code, 3, (some .int), 0, 0, (6050, 6048, 1013), tb_t195)
def tb_t196 : ab_T := [
  [some (.iload_n 0, 0), some (.iconst 0, 0), some (.iconst 3, 0), some (.invokestatic 60, 133), none, none, some (.ireturn, 0)]]
def tb_m196 : ab_M := (⟨"ScrewLeftModel", "isSheet", "(I)Z"⟩, prog_14_method_88_code, 1, (some .boolean), 0, 0, (6053, 6052, 1013), tb_t196)
def tb_t197 : ab_T := [
  [some (.iload_n 2, 0), some (.aload_n 0, 0), some (.getfield 49, 84), none, none, some (.iload_n 1, 0), some (.iaload, 0), some (.if_icmp .ne 38, 45), none, none, some (.aload_n 0, 0), some (.dup, 0), some (.getfield 244, 92), none, none, some (.iconst 1, 0)],
  [some (.iadd, 0), some (.putfield 244, 92), none, none, some (.aload_n 0, 0), some (.aload_n 0, 0), some (.getfield 247, 93), none, none, some (.ifCond .ge 12, 37), none, none, some (.aload_n 0, 0), some (.getfield 34, 79), none, none],
  [some (.iconst 0, 0), some (.iaload, 0), some (.goto 7, 41), none, none, some (.aload_n 0, 0), some (.getfield 247, 93), none, none, some (.putfield 247, 93), none, none, some (.return_, 0), some (.aload_n 0, 0), some (.iload_n 2, 0), some (.invokevirtual 222, 175)],
  [none, none, some (.iconst 0, 0), some (.istore_n 3, 0), some (.iload_n 3, 0), some (.aload_n 0, 0), some (.getfield 9, 71), none, none, some (.iconst 2, 0), some (.iaload, 0), some (.if_icmp .ge 61, 120), none, none, some (.aload_n 0, 0), some (.iload_n 3, 0)],
  [some (.invokevirtual 115, 138), none, none, some (.ifCond .eq 47, 114), none, none, some (.aload_n 0, 0), some (.iload_n 3, 0), some (.invokevirtual 80, 140), none, none, some (.aload_n 0, 0), some (.getfield 52, 85), none, none, some (.bipush 40, 0)],
  [none, some (.iload_n 1, 0), some (.imul, 0), some (.iload_n 2, 0), some (.iadd, 0), some (.iaload, 0), some (.if_icmp .ne 28, 114), none, none, some (.aload_n 0, 0), some (.getfield 34, 79), none, none, some (.iload_n 2, 0), some (.iload_n 3, 0), some (.iastore, 0)],
  [some (.aload_n 0, 0), some (.iload_n 3, 0), some (.invokevirtual 187, 162), none, none, some (.aload_n 0, 0), some (.iload_n 1, 0), some (.iload_n 2, 0), some (.iconst 1, 0), some (.iadd, 0), some (.invokevirtual 250, 182), none, none, some (.aload_n 0, 0), some (.iload_n 2, 0), some (.invokevirtual 228, 176)],
  [none, none, some (.iinc 3 1, 0), none, none, some (.goto (-65), 52), none, none, some (.return_, 0)]]
def tb_m197 : ab_M := (⟨"ScrewLeftModel", "fitsOn", "(II)V"⟩, prog_14_method_71_code, 4, none, 0, 0, (6057, 6056, 1013), tb_t197)
def tb_t198 : ab_T := [
  [some (.aload_n 0, 0), some (.iload_n 1, 0), some (.invokevirtual 112, 136), none, none, some (.ifCond .eq 12, 17), none, none, some (.iload_n 2, 0), some (.iconst 0, 0), some (.iconst 1, 0), some (.invokestatic 60, 133), none, none, some (.ifCond .ne 10, 24), none],
  [none, some (.aload_n 0, 0), some (.ldc 107, 7), none, some (.invokevirtual 108, 134), none, none, some (.ireturn, 0), some (.iconst 0, 0), some (.istore_n 3, 0), some (.iconst 0, 0), some (.istore 4, 0), none, some (.iload 4, 0), none, some (.bipush 10, 0)],
  [none, some (.if_icmp .ge 27, 60), none, none, some (.iload_n 3, 0), some (.aload_n 0, 0), some (.iload_n 1, 0), some (.iload 4, 0), none, some (.invokevirtual 94, 163), none, none, some (.ifCond .ne 7, 51), none, none, some (.iconst 1, 0)],
  [some (.goto 4, 52), none, none, some (.iconst 0, 0), some (.iadd, 0), some (.istore_n 3, 0), some (.iinc 4 1, 0), none, none, some (.goto (-28), 29), none, none, some (.bipush 10, 0), none, some (.istore 4, 0), none],
  [some (.bipush 10, 0), none, some (.istore 5, 0), none, some (.iload 5, 0), none, some (.iconst 1, 0), some (.if_icmp .le 36, 107), none, none, some (.iload_n 3, 0), some (.iload 5, 0), none, some (.irem, 0), some (.ifCond .ne 23, 101), none],
  [none, some (.iload 4, 0), none, some (.iload 5, 0), none, some (.irem, 0), some (.ifCond .ne 15, 101), none, none, some (.iload_n 3, 0), some (.iload 5, 0), none, some (.idiv, 0), some (.istore_n 3, 0), some (.iload 4, 0), none],
  [some (.iload 5, 0), none, some (.idiv, 0), some (.istore 4, 0), none, some (.iinc 5 (-1), 0), none, none, some (.goto (-36), 68), none, none, some (.iload_n 2, 0), some (.ifCond .ne 7, 115), none, none, some (.iload_n 3, 0)],
  [some (.goto 5, 117), none, none, some (.iload 4, 0), none, some (.ireturn, 0)]]
def tb_m198 : ab_M := (⟨"ScrewLeftModel", "odds", "(II)I"⟩, prog_14_method_73_code, 6, (some .int), 0, 0, (6061, 6059, 1013), tb_t198)
def tb_t199 : ab_T := [
  [some (.aload_n 0, 0), some (.iconst 1, 0), some (.iload_n 1, 0), some (.invokevirtual 122, 150), none, none, some (.ireturn, 0)]]
def tb_m199 : ab_M := (⟨"ScrewLeftModel", "seed", "(I)I"⟩, prog_14_method_74_code, 2, (some .int), 0, 0, (6065, 6063, 1013), tb_t199)
def tb_t200 : ab_T := [
  [some (.aload_n 0, 0), some (.iload_n 1, 0), some (.invokevirtual 112, 136), none, none, some (.ifCond .eq 12, 17), none, none, some (.iload_n 2, 0), some (.iconst 0, 0), some (.iconst 3, 0), some (.invokestatic 60, 133), none, none, some (.ifCond .ne 10, 24), none],
  [none, some (.aload_n 0, 0), some (.ldc 107, 7), none, some (.invokevirtual 108, 134), none, none, some (.ireturn, 0), some (.aload_n 0, 0), some (.iconst 0, 0), some (.putfield 256, 94), none, none, some (.iload_n 2, 0), some (.ifCond .ne 12, 42), none],
  [none, some (.aload_n 0, 0), some (.iload_n 1, 0), some (.iload_n 3, 0), some (.invokevirtual 265, 183), none, none, some (.goto 37, 76), none, none, some (.iload_n 2, 0), some (.iconst 1, 0), some (.if_icmp .ne 12, 56), none, none, some (.aload_n 0, 0)],
  [some (.iload_n 1, 0), some (.iload_n 3, 0), some (.invokevirtual 283, 184), none, none, some (.goto 23, 76), none, none, some (.iload_n 2, 0), some (.iconst 2, 0), some (.if_icmp .ne 12, 70), none, none, some (.aload_n 0, 0), some (.iload_n 1, 0), some (.iload_n 3, 0)],
  [some (.invokevirtual 271, 185), none, none, some (.goto 9, 76), none, none, some (.aload_n 0, 0), some (.iload_n 1, 0), some (.iload_n 3, 0), some (.invokevirtual 289, 186), none, none, some (.ireturn, 0)]]
def tb_m200 : ab_M := (⟨"ScrewLeftModel", "voice", "(III)I"⟩, prog_14_method_86_code, 4, (some .int), 0, 0, (6069, 6067, 1013), tb_t200)
def tb_t201 : ab_T := [
  [some (.aload_n 0, 0), some (.iload_n 1, 0), some (.iconst 0, 0), some (.invokevirtual 68, 137), none, none, some (.iconst 1, 0), some (.if_icmp .eq 13, 20), none, none, some (.aload_n 0, 0), some (.iload_n 1, 0), some (.iconst 0, 0), some (.invokevirtual 68, 137), none, none],
  [some (.iconst 4, 0), some (.if_icmp .ne 18, 35), none, none, some (.aload_n 0, 0), some (.bipush 20, 0), none, some (.invokevirtual 259, 187), none, none, some (.aload_n 0, 0), some (.iload_n 1, 0), some (.iload_n 2, 0), some (.invokevirtual 262, 188), none, none],
  [some (.iconst 3, 0), some (.imul, 0), some (.ireturn, 0), some (.aload_n 0, 0), some (.iload_n 1, 0), some (.iload_n 2, 0), some (.invokevirtual 262, 188), none, none, some (.ireturn, 0)]]
def tb_m201 : ab_M := (⟨"ScrewLeftModel", "fits", "(II)I"⟩, prog_14_method_77_code, 3, (some .int), 0, 0, (6073, 6072, 1013), tb_t201)
def tb_t202 : ab_T := [
  [some (.aload_n 0, 0), some (.getfield 256, 94), none, none, some (.bipush 40, 0), none, some (.if_icmp .ge 23, 29), none, none, some (.aload_n 0, 0), some (.getfield 43, 82), none, none, some (.aload_n 0, 0), some (.getfield 256, 94), none],
  [none, some (.iload_n 1, 0), some (.iastore, 0), some (.aload_n 0, 0), some (.dup, 0), some (.getfield 256, 94), none, none, some (.iconst 1, 0), some (.iadd, 0), some (.putfield 256, 94), none, none, some (.return_, 0)]]
def tb_m202 : ab_M := (⟨"ScrewLeftModel", "begins", "(I)V"⟩, prog_14_method_75_code, 2, none, 0, 0, (6077, 6076, 1013), tb_t202)
def tb_t203 : ab_T := [
  [some (.aload_n 0, 0), some (.bipush 10, 0), none, some (.invokevirtual 259, 187), none, none, some (.iload_n 2, 0), some (.iload_n 1, 0), some (.iadd, 0), some (.ireturn, 0)]]
def tb_m203 : ab_M := (⟨"ScrewLeftModel", "plainFits", "(II)I"⟩, prog_14_method_76_code, 3, (some .int), 0, 0, (6081, 6080, 1013), tb_t203)
def tb_t204 : ab_T := [
  [some (.aload_n 0, 0), some (.iload_n 1, 0), some (.iconst 0, 0), some (.invokevirtual 68, 137), none, none, some (.lookupswitch 48 #[(2, 26), (5, 33)], 0), none, none, none, none, none, none, none, none, none],
  [none, none, none, none, none, none, none, none, none, none, none, none, none, none, none, none],
  [some (.aload_n 0, 0), some (.iload_n 1, 0), some (.iload_n 2, 0), some (.invokevirtual 274, 189), none, none, some (.ireturn, 0), some (.aload_n 0, 0), some (.bipush 60, 0), none, some (.invokevirtual 259, 187), none, none, some (.aload_n 0, 0), some (.iload_n 1, 0), some (.iload_n 2, 0)],
  [some (.iconst 1, 0), some (.iadd, 0), some (.invokevirtual 274, 189), none, none, some (.ireturn, 0), some (.aload_n 0, 0), some (.iload_n 1, 0), some (.iload_n 2, 0), some (.invokevirtual 268, 190), none, none, some (.ireturn, 0)]]
def tb_m204 : ab_M := (⟨"ScrewLeftModel", "errs", "(II)I"⟩, prog_14_method_80_code, 3, (some .int), 0, 0, (6085, 6084, 1013), tb_t204)
def tb_t205 : ab_T := [
  [some (.aload_n 0, 0), some (.bipush 30, 0), none, some (.invokevirtual 259, 187), none, none, some (.aload_n 0, 0), some (.iload_n 1, 0), some (.iload_n 2, 0), some (.invokevirtual 268, 190), none, none, some (.istore_n 3, 0), some (.iload_n 3, 0), some (.aload_n 0, 0), some (.iload_n 1, 0)],
  [some (.iconst 1, 0), some (.invokevirtual 271, 185), none, none, some (.isub, 0), some (.ireturn, 0)]]
def tb_m205 : ab_M := (⟨"ScrewLeftModel", "gluedErrs", "(II)I"⟩, prog_14_method_79_code, 4, (some .int), 0, 0, (6089, 6088, 1013), tb_t205)
def tb_t206 : ab_T := [
  [some (.aload_n 0, 0), some (.bipush 11, 0), none, some (.invokevirtual 259, 187), none, none, some (.aload_n 0, 0), some (.iload_n 1, 0), some (.iload_n 2, 0), some (.invokevirtual 265, 183), none, none, some (.iconst 2, 0), some (.imul, 0), some (.ireturn, 0)]]
def tb_m206 : ab_M := (⟨"ScrewLeftModel", "plainErrs", "(II)I"⟩, prog_14_method_78_code, 3, (some .int), 0, 0, (6093, 6092, 1013), tb_t206)
def tb_t207 : ab_T := [
  [some (.aload_n 0, 0), some (.iload_n 1, 0), some (.iconst 0, 0), some (.invokevirtual 68, 137), none, none, some (.lookupswitch 48 #[(3, 26), (6, 33)], 0), none, none, none, none, none, none, none, none, none],
  [none, none, none, none, none, none, none, none, none, none, none, none, none, none, none, none],
  [some (.aload_n 0, 0), some (.iload_n 1, 0), some (.iload_n 2, 0), some (.invokevirtual 280, 191), none, none, some (.ireturn, 0), some (.aload_n 0, 0), some (.bipush 70, 0), none, some (.invokevirtual 259, 187), none, none, some (.aload_n 0, 0), some (.iload_n 1, 0), some (.iload_n 2, 0)],
  [some (.invokevirtual 280, 191), none, none, some (.iload_n 1, 0), some (.ixor, 0), some (.ireturn, 0), some (.aload_n 0, 0), some (.iload_n 1, 0), some (.iload_n 2, 0), some (.invokevirtual 277, 192), none, none, some (.ireturn, 0)]]
def tb_m207 : ab_M := (⟨"ScrewLeftModel", "looks", "(II)I"⟩, prog_14_method_83_code, 3, (some .int), 0, 0, (6097, 6096, 1013), tb_t207)
def tb_t208 : ab_T := [
  [some (.aload_n 0, 0), some (.bipush 40, 0), none, some (.invokevirtual 259, 187), none, none, some (.aload_n 0, 0), some (.iload_n 1, 0), some (.iload_n 2, 0), some (.invokevirtual 277, 192), none, none, some (.ineg, 0), some (.ireturn, 0)]]
def tb_m208 : ab_M := (⟨"ScrewLeftModel", "heldLooks", "(II)I"⟩, prog_14_method_82_code, 3, (some .int), 0, 0, (6101, 6100, 1013), tb_t208)
def tb_t209 : ab_T := [
  [some (.aload_n 0, 0), some (.bipush 12, 0), none, some (.invokevirtual 259, 187), none, none, some (.iload_n 2, 0), some (.aload_n 0, 0), some (.iload_n 1, 0), some (.iconst 1, 0), some (.invokevirtual 68, 137), none, none, some (.isub, 0), some (.ireturn, 0)]]
def tb_m209 : ab_M := (⟨"ScrewLeftModel", "plainLooks", "(II)I"⟩, prog_14_method_81_code, 3, (some .int), 0, 0, (6105, 6104, 1013), tb_t209)
def tb_t210 : ab_T := [
  [some (.aload_n 0, 0), some (.iload_n 1, 0), some (.iconst 0, 0), some (.invokevirtual 68, 137), none, none, some (.lookupswitch 72 #[(4, 26), (6, 48)], 0), none, none, none, none, none, none, none, none, none],
  [none, none, none, none, none, none, none, none, none, none, none, none, none, none, none, none],
  [some (.aload_n 0, 0), some (.bipush 50, 0), none, some (.invokevirtual 259, 187), none, none, some (.aload_n 0, 0), some (.iload_n 1, 0), some (.iload_n 2, 0), some (.invokevirtual 286, 193), none, none, some (.istore_n 3, 0), some (.iload_n 3, 0), some (.aload_n 0, 0), some (.iload_n 1, 0)],
  [some (.iconst 2, 0), some (.invokevirtual 265, 183), none, none, some (.isub, 0), some (.ireturn, 0), some (.aload_n 0, 0), some (.bipush 71, 0), none, some (.invokevirtual 259, 187), none, none, some (.aload_n 0, 0), some (.iload_n 1, 0), some (.iload_n 2, 0), some (.invokevirtual 283, 184)],
  [none, none, some (.istore 4, 0), none, some (.iload 4, 0), none, some (.aload_n 0, 0), some (.iload_n 1, 0), some (.iload_n 2, 0), some (.invokevirtual 286, 193), none, none, some (.isub, 0), some (.ireturn, 0), some (.aload_n 0, 0), some (.iload_n 1, 0)],
  [some (.iload_n 2, 0), some (.invokevirtual 286, 193), none, none, some (.ireturn, 0)]]
def tb_m210 : ab_M := (⟨"ScrewLeftModel", "undoes", "(II)I"⟩, prog_14_method_85_code, 5, (some .int), 0, 0, (6109, 6108, 1013), tb_t210)
def tb_t211 : ab_T := [
  [some (.aload_n 0, 0), some (.bipush 13, 0), none, some (.invokevirtual 259, 187), none, none, some (.aload_n 0, 0), some (.iload_n 1, 0), some (.iload_n 2, 0), some (.invokevirtual 283, 184), none, none, some (.istore_n 3, 0), some (.iload_n 3, 0), some (.aload_n 0, 0), some (.iload_n 1, 0)],
  [some (.iload_n 2, 0), some (.invokevirtual 271, 185), none, none, some (.ixor, 0), some (.ireturn, 0)]]
def tb_m211 : ab_M := (⟨"ScrewLeftModel", "plainUndoes", "(II)I"⟩, prog_14_method_84_code, 4, (some .int), 0, 0, (6113, 6112, 1013), tb_t211)
def tb_t212 : ab_T := [
  [some (.iload_n 1, 0), some (.iconst 0, 0), some (.aload_n 0, 0), some (.getfield 256, 94), none, none, some (.iconst 1, 0), some (.isub, 0), some (.invokestatic 60, 133), none, none, some (.ifCond .eq 12, 23), none, none, some (.aload_n 0, 0), some (.getfield 43, 82)],
  [none, none, some (.iload_n 1, 0), some (.iaload, 0), some (.goto 9, 29), none, none, some (.aload_n 0, 0), some (.ldc 231, 15), none, some (.invokevirtual 108, 134), none, none, some (.ireturn, 0)]]
def tb_m212 : ab_M := (⟨"ScrewLeftModel", "trace", "(I)I"⟩, prog_14_method_87_code, 2, (some .int), 0, 0, (6117, 6115, 1013), tb_t212)
def tb_t213 : ab_T := [
  [some (.iload_n 1, 0), some (.invokestatic 253, 181), none, none, some (.ifCond .eq 25, 29), none, none, some (.iload_n 2, 0), some (.ifCond .eq 28, 36), none, none, some (.iload_n 2, 0), some (.bipush 8, 0), none, some (.if_icmp .eq 22, 36), none],
  [none, some (.iload_n 2, 0), some (.bipush 16, 0), none, some (.if_icmp .eq 16, 36), none, none, some (.iload_n 2, 0), some (.bipush 32, 0), none, some (.if_icmp .eq 10, 36), none, none, some (.aload_n 0, 0), some (.ldc 107, 7), none],
  [some (.invokevirtual 108, 134), none, none, some (.ireturn, 0), some (.iload_n 2, 0), some (.ifCond .le 14, 51), none, none, some (.iload_n 3, 0), some (.ifCond .ge 10, 51), none, none, some (.aload_n 0, 0), some (.ldc 121, 10), none, some (.invokevirtual 108, 134)],
  [none, none, some (.ireturn, 0), some (.iload_n 2, 0), some (.ifCond .le 16, 68), none, none, some (.iload_n 3, 0), some (.bipush 40, 0), none, some (.if_icmp .le 10, 68), none, none, some (.aload_n 0, 0), some (.ldc 107, 7), none],
  [some (.invokevirtual 108, 134), none, none, some (.ireturn, 0), some (.aload_n 0, 0), some (.getfield 46, 83), none, none, some (.iload_n 1, 0), some (.iload_n 2, 0), some (.iastore, 0), some (.aload_n 0, 0), some (.getfield 49, 84), none, none, some (.iload_n 1, 0)],
  [some (.iload_n 2, 0), some (.ifCond .ne 7, 88), none, none, some (.iconst 0, 0), some (.goto 4, 89), none, none, some (.iload_n 3, 0), some (.iastore, 0), some (.iconst 0, 0), some (.istore 4, 0), none, some (.iload 4, 0), none, some (.bipush 40, 0)],
  [none, some (.if_icmp .ge 22, 119), none, none, some (.aload_n 0, 0), some (.getfield 52, 85), none, none, some (.bipush 40, 0), none, some (.iload_n 1, 0), some (.imul, 0), some (.iload 4, 0), none, some (.iadd, 0), some (.iconst 0, 0)],
  [some (.iastore, 0), some (.iinc 4 1, 0), none, none, some (.goto (-23), 93), none, none, some (.iconst 1, 0), some (.ireturn, 0)]]
def tb_m213 : ab_M := (⟨"ScrewLeftModel", "sheet", "(III)I"⟩, prog_14_method_89_code, 5, (some .int), 0, 0, (6121, 6119, 1013), tb_t213)
def tb_t214 : ab_T := [
  [some (.aload_n 0, 0), some (.iload_n 1, 0), some (.invokevirtual 292, 194), none, none, some (.istore 4, 0), none, some (.iload 4, 0), none, some (.ifCond .ne 24, 33), none, none, some (.iload_n 2, 0), some (.iconst 0, 0), some (.aload_n 0, 0), some (.getfield 49, 84)],
  [none, none, some (.iload_n 1, 0), some (.iaload, 0), some (.iconst 1, 0), some (.isub, 0), some (.invokestatic 60, 133), none, none, some (.ifCond .ne 8, 33), none, none, some (.ldc 107, 7), none, some (.goto 5, 35), none],
  [none, some (.iload 4, 0), none, some (.istore 4, 0), none, some (.iload 4, 0), none, some (.ifCond .eq 10, 49), none, none, some (.aload_n 0, 0), some (.iload 4, 0), none, some (.invokevirtual 108, 134), none, none],
  [some (.ireturn, 0), some (.aload_n 0, 0), some (.getfield 52, 85), none, none, some (.bipush 40, 0), none, some (.iload_n 1, 0), some (.imul, 0), some (.iload_n 2, 0), some (.iadd, 0), some (.aload_n 0, 0), some (.getfield 46, 83), none, none, some (.iload_n 1, 0)],
  [some (.iaload, 0), some (.bipush 8, 0), none, some (.if_icmp .ne 8, 75), none, none, some (.iload_n 3, 0), some (.i2b, 0), some (.goto 20, 92), none, none, some (.aload_n 0, 0), some (.getfield 46, 83), none, none, some (.iload_n 1, 0)],
  [some (.iaload, 0), some (.bipush 16, 0), none, some (.if_icmp .ne 8, 91), none, none, some (.iload_n 3, 0), some (.i2s, 0), some (.goto 4, 92), none, none, some (.iload_n 3, 0), some (.iastore, 0), some (.iconst 1, 0), some (.ireturn, 0)]]
def tb_m214 : ab_M := (⟨"ScrewLeftModel", "put", "(III)I"⟩, prog_14_method_91_code, 5, (some .int), 0, 0, (6125, 6123, 1013), tb_t214)
def tb_t215 : ab_T := [
  [some (.iload_n 1, 0), some (.invokestatic 253, 181), none, none, some (.ifCond .ne 8, 12), none, none, some (.ldc 107, 7), none, some (.goto 18, 27), none, none, some (.aload_n 0, 0), some (.getfield 46, 83), none, none],
  [some (.iload_n 1, 0), some (.iaload, 0), some (.ifCond .ne 8, 26), none, none, some (.ldc 231, 15), none, some (.goto 4, 27), none, none, some (.iconst 0, 0), some (.ireturn, 0)]]
def tb_m215 : ab_M := (⟨"ScrewLeftModel", "notThere", "(I)I"⟩, prog_14_method_90_code, 2, (some .int), 0, 0, (6129, 6128, 1013), tb_t215)
def tb_t216 : ab_T := [
  [some (.aload_n 0, 0), some (.iload_n 1, 0), some (.iload_n 2, 0), some (.iload_n 3, 0), some (.iload 4, 0), none, some (.iload 5, 0), none, some (.invokevirtual 295, 195), none, none, some (.istore 6, 0), none, some (.iload 6, 0), none, some (.ifCond .eq 10, 25)],
  [none, none, some (.aload_n 0, 0), some (.iload 6, 0), none, some (.invokevirtual 108, 134), none, none, some (.ireturn, 0), some (.iconst 0, 0), some (.istore 7, 0), none, some (.iload 7, 0), none, some (.iload 5, 0), none],
  [some (.if_icmp .ge 58, 90), none, none, some (.iload_n 2, 0), some (.iload 4, 0), none, some (.if_icmp .ge 13, 51), none, none, some (.iload 5, 0), none, some (.iconst 1, 0), some (.isub, 0), some (.iload 7, 0), none, some (.isub, 0)],
  [some (.goto 5, 53), none, none, some (.iload 7, 0), none, some (.istore 8, 0), none, some (.aload_n 0, 0), some (.getfield 52, 85), none, none, some (.bipush 40, 0), none, some (.iload_n 3, 0), some (.imul, 0), some (.iload 4, 0)],
  [none, some (.iadd, 0), some (.iload 8, 0), none, some (.iadd, 0), some (.aload_n 0, 0), some (.getfield 52, 85), none, none, some (.bipush 40, 0), none, some (.iload_n 1, 0), some (.imul, 0), some (.iload_n 2, 0), some (.iadd, 0), some (.iload 8, 0)],
  [none, some (.iadd, 0), some (.iaload, 0), some (.iastore, 0), some (.iinc 7 1, 0), none, none, some (.goto (-59), 28), none, none, some (.iload 5, 0), none, some (.ireturn, 0)]]
def tb_m216 : ab_M := (⟨"ScrewLeftModel", "move", "(IIIII)I"⟩, prog_14_method_93_code, 9, (some .int), 0, 0, (6133, 6131, 1013), tb_t216)
def tb_t217 : ab_T := [
  [some (.iload_n 1, 0), some (.invokestatic 253, 181), none, none, some (.ifCond .eq 10, 14), none, none, some (.iload_n 3, 0), some (.invokestatic 253, 181), none, none, some (.ifCond .ne 6, 17), none, none, some (.ldc 107, 7), none],
  [some (.ireturn, 0), some (.aload_n 0, 0), some (.getfield 46, 83), none, none, some (.iload_n 1, 0), some (.iaload, 0), some (.ifCond .eq 12, 35), none, none, some (.aload_n 0, 0), some (.getfield 46, 83), none, none, some (.iload_n 3, 0), some (.iaload, 0)],
  [some (.ifCond .ne 6, 38), none, none, some (.ldc 231, 15), none, some (.ireturn, 0), some (.aload_n 0, 0), some (.getfield 46, 83), none, none, some (.iload_n 1, 0), some (.iaload, 0), some (.aload_n 0, 0), some (.getfield 46, 83), none, none],
  [some (.iload_n 3, 0), some (.iaload, 0), some (.if_icmp .eq 6, 56), none, none, some (.ldc 126, 12), none, some (.ireturn, 0), some (.iload 5, 0), none, some (.ifCond .lt 43, 101), none, none, some (.iload_n 2, 0), some (.ifCond .lt 39, 101), none],
  [none, some (.iload 4, 0), none, some (.ifCond .lt 34, 101), none, none, some (.iload 5, 0), none, some (.aload_n 0, 0), some (.getfield 49, 84), none, none, some (.iload_n 1, 0), some (.iaload, 0), some (.iload_n 2, 0), some (.isub, 0)],
  [some (.if_icmp .gt 21, 101), none, none, some (.iload 5, 0), none, some (.aload_n 0, 0), some (.getfield 49, 84), none, none, some (.iload_n 3, 0), some (.iaload, 0), some (.iload 4, 0), none, some (.isub, 0), some (.if_icmp .gt 7, 101), none],
  [none, some (.iconst 1, 0), some (.goto 4, 102), none, none, some (.iconst 0, 0), some (.istore 6, 0), none, some (.iload 6, 0), none, some (.ifCond .eq 7, 113), none, none, some (.iconst 0, 0), some (.goto 5, 115), none],
  [none, some (.ldc 107, 7), none, some (.ireturn, 0)]]
def tb_m217 : ab_M := (⟨"ScrewLeftModel", "notMoved", "(IIIII)I"⟩, prog_14_method_92_code, 7, (some .int), 0, 0, (6137, 6136, 1013), tb_t217)
def tb_t218 : ab_T := [
  [some (.aload_n 0, 0), some (.iload_n 1, 0), some (.invokevirtual 292, 194), none, none, some (.istore_n 2, 0), some (.iload_n 2, 0), some (.ifCond .eq 9, 16), none, none, some (.aload_n 0, 0), some (.iload_n 2, 0), some (.invokevirtual 108, 134), none, none, some (.ireturn, 0)],
  [some (.iconst 0, 0), some (.istore_n 3, 0), some (.iload_n 3, 0), some (.aload_n 0, 0), some (.getfield 49, 84), none, none, some (.iload_n 1, 0), some (.iaload, 0), some (.if_icmp .ge 56, 81), none, none, some (.iload_n 3, 0), some (.aload_n 0, 0), some (.getfield 9, 71), none],
  [none, some (.iconst 2, 0), some (.iaload, 0), some (.if_icmp .ge 46, 81), none, none, some (.aload_n 0, 0), some (.getfield 52, 85), none, none, some (.bipush 40, 0), none, some (.iload_n 1, 0), some (.imul, 0), some (.iload_n 3, 0), some (.iadd, 0)],
  [some (.iaload, 0), some (.iconst 0, 0), some (.bipush 9, 0), none, some (.invokestatic 60, 133), none, none, some (.ifCond .eq 26, 81), none, none, some (.aload_n 0, 0), some (.iload_n 3, 0), some (.iconst 2, 0), some (.aload_n 0, 0), some (.getfield 52, 85), none],
  [none, some (.bipush 40, 0), none, some (.iload_n 1, 0), some (.imul, 0), some (.iload_n 3, 0), some (.iadd, 0), some (.iaload, 0), some (.invokevirtual 97, 135), none, none, some (.iinc 3 1, 0), none, none, some (.goto (-60), 18), none],
  [none, some (.iload_n 3, 0), some (.ireturn, 0)]]
def tb_m218 : ab_M := (⟨"ScrewLeftModel", "screws", "(I)I"⟩, prog_14_method_94_code, 4, (some .int), 0, 0, (6141, 6139, 1013), tb_t218)
def tb_t219 : ab_T := [
  [some (.aload_n 0, 0), some (.iload_n 1, 0), some (.invokevirtual 292, 194), none, none, some (.istore_n 2, 0), some (.iload_n 2, 0), some (.ifCond .eq 9, 16), none, none, some (.aload_n 0, 0), some (.iload_n 2, 0), some (.invokevirtual 108, 134), none, none, some (.ireturn, 0)],
  [some (.iconst 0, 0), some (.istore_n 3, 0), some (.iload_n 3, 0), some (.aload_n 0, 0), some (.getfield 49, 84), none, none, some (.iload_n 1, 0), some (.iaload, 0), some (.if_icmp .ge 38, 63), none, none, some (.iload_n 3, 0), some (.aload_n 0, 0), some (.getfield 9, 71), none],
  [none, some (.iconst 2, 0), some (.iaload, 0), some (.if_icmp .ge 28, 63), none, none, some (.aload_n 0, 0), some (.getfield 52, 85), none, none, some (.bipush 40, 0), none, some (.iload_n 1, 0), some (.imul, 0), some (.iload_n 3, 0), some (.iadd, 0)],
  [some (.iaload, 0), some (.aload_n 0, 0), some (.iload_n 3, 0), some (.invokevirtual 80, 140), none, none, some (.if_icmp .ne 9, 63), none, none, some (.iinc 3 1, 0), none, none, some (.goto (-42), 18), none, none, some (.iload_n 3, 0)],
  [some (.aload_n 0, 0), some (.getfield 9, 71), none, none, some (.iconst 2, 0), some (.iaload, 0), some (.if_icmp .ne 17, 87), none, none, some (.aload_n 0, 0), some (.getfield 49, 84), none, none, some (.iload_n 1, 0), some (.iaload, 0), some (.iload_n 3, 0)],
  [some (.if_icmp .ne 7, 87), none, none, some (.iconst (-1), 0), some (.goto 4, 88), none, none, some (.iload_n 3, 0), some (.ireturn, 0)]]
def tb_m219 : ab_M := (⟨"ScrewLeftModel", "judge", "(I)I"⟩, prog_14_method_95_code, 4, (some .int), 0, 0, (6145, 6143, 1013), tb_t219)
def tb_t220 : ab_T := [
  [some (.aload_n 0, 0), some (.getfield 9, 71), none, none, some (.aload_n 0, 0), some (.getfield 13, 72), none, none, some (.invokestatic 56, 173), none, none, some (.aload_n 0, 0), some (.dup, 0), some (.getfield 299, 95), none, none],
  [some (.iconst 1, 0), some (.iadd, 0), some (.putfield 299, 95), none, none, some (.aload_n 0, 0), some (.getfield 299, 95), none, none, some (.ireturn, 0)]]
def tb_m220 : ab_M := (⟨"ScrewLeftModel", "image", "()I"⟩, prog_14_method_96_code, 1, (some .int), 0, 0, (6149, 6147, 1013), tb_t220)
def tb_t221 : ab_T := [
  [some (.aload_n 0, 0), some (.getfield 299, 95), none, none, some (.ifCond .ne 10, 14), none, none, some (.aload_n 0, 0), some (.ldc 231, 15), none, some (.invokevirtual 108, 134), none, none, some (.ireturn, 0), some (.aload_n 0, 0), some (.getfield 13, 72)],
  [none, none, some (.aload_n 0, 0), some (.getfield 9, 71), none, none, some (.invokestatic 56, 173), none, none, some (.aload_n 0, 0), some (.getfield 9, 71), none, none, some (.iconst 0, 0), some (.iaload, 0), some (.ireturn, 0)]]
def tb_m221 : ab_M := (⟨"ScrewLeftModel", "restore", "()I"⟩, prog_14_method_97_code, 1, (some .int), 0, 0, (6153, 6151, 1013), tb_t221)
def tb_t222 : ab_T := [
  [some (.aload_n 0, 0), some (.getfield 9, 71), none, none, some (.bipush 6, 0), none, some (.iaload, 0), some (.bipush 20, 0), none, some (.if_icmp .ne 10, 19), none, none, some (.aload_n 0, 0), some (.ldc 111, 8), none, some (.invokevirtual 108, 134)],
  [none, none, some (.ireturn, 0), some (.aload_n 0, 0), some (.getfield 9, 71), none, none, some (.bipush 105, 0), none, some (.aload_n 0, 0), some (.getfield 9, 71), none, none, some (.bipush 6, 0), none, some (.iaload, 0)],
  [some (.iadd, 0), some (.iload_n 1, 0), some (.iastore, 0), some (.aload_n 0, 0), some (.getfield 9, 71), none, none, some (.bipush 6, 0), none, some (.dup2, 0), some (.iaload, 0), some (.iconst 1, 0), some (.iadd, 0), some (.iastore, 0), some (.aload_n 0, 0), some (.getfield 9, 71)],
  [none, none, some (.bipush 6, 0), none, some (.iaload, 0), some (.ireturn, 0)]]
def tb_m222 : ab_M := (⟨"ScrewLeftModel", "tell", "(I)I"⟩, prog_14_method_98_code, 2, (some .int), 0, 0, (6157, 6155, 1013), tb_t222)
def tb_t223 : ab_T := [
  [some (.aload_n 0, 0), some (.getfield 9, 71), none, none, some (.bipush 6, 0), none, some (.iaload, 0), some (.istore_n 1, 0), some (.aload_n 0, 0), some (.getfield 9, 71), none, none, some (.bipush 6, 0), none, some (.iconst 0, 0), some (.iastore, 0)],
  [some (.aload_n 0, 0), some (.invokevirtual 203, 168), none, none, some (.iconst 0, 0), some (.istore_n 2, 0), some (.iconst 0, 0), some (.istore_n 3, 0), some (.iload_n 3, 0), some (.iload_n 1, 0), some (.if_icmp .ge 58, 84), none, none, some (.iload_n 2, 0), some (.ifCond .ne 54, 84), none],
  [none, some (.aload_n 0, 0), some (.invokevirtual 206, 169), none, none, some (.ifCond .eq 25, 62), none, none, some (.aload_n 0, 0), some (.getfield 9, 71), none, none, some (.bipush 105, 0), none, some (.iload_n 3, 0), some (.iadd, 0)],
  [some (.iaload, 0), some (.aload_n 0, 0), some (.getfield 9, 71), none, none, some (.iconst 0, 0), some (.iaload, 0), some (.if_icmp .ne 7, 62), none, none, some (.iconst 1, 0), some (.goto 4, 63), none, none, some (.iconst 0, 0), some (.istore 4, 0)],
  [none, some (.iload 4, 0), none, some (.ifCond .eq 7, 74), none, none, some (.iconst 0, 0), some (.goto 6, 77), none, none, some (.iconst 1, 0), some (.iload_n 3, 0), some (.iadd, 0), some (.istore_n 2, 0), some (.iinc 3 1, 0), none],
  [none, some (.goto (-57), 24), none, none, some (.aload_n 0, 0), some (.invokevirtual 216, 172), none, none, some (.iload_n 2, 0), some (.ireturn, 0)]]
def tb_m223 : ab_M := (⟨"ScrewLeftModel", "check", "()I"⟩, prog_14_method_99_code, 5, (some .int), 0, 0, (6161, 6159, 1013), tb_t223)
def tb_t224 : ab_T := [
  [some (.iload_n 1, 0), some (.tableswitch 132 0 10 #[59, 66, 74, 79, 86, 93, 100, 105, 112, 120, 125], 0), none, none, none, none, none, none, none, none, none, none, none, none, none, none],
  [none, none, none, none, none, none, none, none, none, none, none, none, none, none, none, none],
  [none, none, none, none, none, none, none, none, none, none, none, none, none, none, none, none],
  [none, none, none, none, none, none, none, none, none, none, none, none, some (.aload_n 0, 0), some (.getfield 9, 71), none, none],
  [some (.iconst 2, 0), some (.iaload, 0), some (.ireturn, 0), some (.aload_n 0, 0), some (.invokevirtual 84, 142), none, none, some (.invokestatic 210, 170), none, none, some (.ireturn, 0), some (.aload_n 0, 0), some (.invokevirtual 213, 171), none, none, some (.ireturn, 0)],
  [some (.aload_n 0, 0), some (.getfield 9, 71), none, none, some (.iconst 4, 0), some (.iaload, 0), some (.ireturn, 0), some (.aload_n 0, 0), some (.getfield 9, 71), none, none, some (.iconst 3, 0), some (.iaload, 0), some (.ireturn, 0), some (.aload_n 0, 0), some (.getfield 9, 71)],
  [none, none, some (.iconst 0, 0), some (.iaload, 0), some (.ireturn, 0), some (.aload_n 0, 0), some (.invokevirtual 72, 145), none, none, some (.ireturn, 0), some (.aload_n 0, 0), some (.getfield 9, 71), none, none, some (.iconst 5, 0), some (.iaload, 0)],
  [some (.ireturn, 0), some (.aload_n 0, 0), some (.getfield 9, 71), none, none, some (.bipush 6, 0), none, some (.iaload, 0), some (.ireturn, 0), some (.aload_n 0, 0), some (.getfield 256, 94), none, none, some (.ireturn, 0), some (.aload_n 0, 0), some (.getfield 9, 71)],
  [none, none, some (.iconst 1, 0), some (.iaload, 0), some (.ireturn, 0), some (.aload_n 0, 0), some (.ldc 107, 7), none, some (.invokevirtual 108, 134), none, none, some (.ireturn, 0)]]
def tb_m224 : ab_M := (⟨"ScrewLeftModel", "count", "(I)I"⟩, prog_14_method_100_code, 2, (some .int), 0, 0, (6165, 6163, 1013), tb_t224)
def tb_t225 : ab_T := [
  [some (.iload_n 1, 0), some (.iconst 1, 0), some (.iconst 5, 0), some (.invokestatic 60, 133), none, none, some (.ifCond .eq 12, 18), none, none, some (.aload_n 0, 0), some (.getfield 19, 74), none, none, some (.iload_n 1, 0), some (.iaload, 0), some (.goto 9, 24)],
  [none, none, some (.aload_n 0, 0), some (.ldc 107, 7), none, some (.invokevirtual 108, 134), none, none, some (.ireturn, 0)]]
def tb_m225 : ab_M := (⟨"ScrewLeftModel", "told", "(I)I"⟩, prog_14_method_101_code, 2, (some .int), 0, 0, (6169, 6167, 1013), tb_t225)
def tb_t226 : ab_T := [
  [some (.iload_n 0, 0), some (.iload_n 0, 0), some (.iconst 1, 0), some (.iushr, 0), some (.ldc_w 265, 16), none, none, some (.iand, 0), some (.isub, 0), some (.istore_n 0, 0), some (.iload_n 0, 0), some (.ldc_w 266, 17), none, none, some (.iand, 0), some (.iload_n 0, 0)],
  [some (.iconst 2, 0), some (.iushr, 0), some (.ldc_w 266, 17), none, none, some (.iand, 0), some (.iadd, 0), some (.istore_n 0, 0), some (.iload_n 0, 0), some (.iload_n 0, 0), some (.iconst 4, 0), some (.iushr, 0), some (.iadd, 0), some (.ldc_w 267, 18), none, none],
  [some (.iand, 0), some (.istore_n 0, 0), some (.iload_n 0, 0), some (.iload_n 0, 0), some (.bipush 8, 0), none, some (.iushr, 0), some (.iadd, 0), some (.istore_n 0, 0), some (.iload_n 0, 0), some (.iload_n 0, 0), some (.bipush 16, 0), none, some (.iushr, 0), some (.iadd, 0), some (.istore_n 0, 0)],
  [some (.iload_n 0, 0), some (.bipush 63, 0), none, some (.iand, 0), some (.ireturn, 0)]]
def tb_m226 : ab_M := (⟨"java/lang/Integer", "bitCount", "(I)I"⟩, prog_16_method_49_code, 1, (some .int), 0, 0, (3179, 3178, 1021), tb_t226)
def tb_t227 : ab_T := [
  [some (.aload_n 0, 0), some (.iload_n 1, 0), some (.iconst 0, 0), some (.invokevirtual 633, 196), none, none, some (.ireturn, 0)]]
def tb_m227 : ab_M := (⟨"java/lang/String", "indexOf", "(I)I"⟩, prog_18_method_79_code, 2, (some .int), 0, 0, (3009, 3007, 1015), tb_t227)
def tb_t228 : ab_T := [
  [some (.aload_n 0, 0), some (.invokevirtual 492, 197), none, none, some (.ifCond .eq 19, 23), none, none, some (.aload_n 0, 0), some (.getfield 9, 1012383), none, none, some (.iload_n 1, 0), some (.iload_n 2, 0), some (.aload_n 0, 0), some (.invokevirtual 505, 198), none],
  [none, some (.invokestatic 637, 199), none, none, some (.goto 16, 36), none, none, some (.aload_n 0, 0), some (.getfield 9, 1012383), none, none, some (.iload_n 1, 0), some (.iload_n 2, 0), some (.aload_n 0, 0), some (.invokevirtual 505, 198), none],
  [none, some (.invokestatic 640, 200), none, none, some (.ireturn, 0)]]
def tb_m228 : ab_M := (⟨"java/lang/String", "indexOf", "(II)I"⟩, prog_18_method_80_code, 3, (some .int), 0, 0, (3013, 3011, 1015), tb_t228)
def tb_t229 : ab_T := [
  [some (.getstatic 38, 1003018), none, none, some (.ifCond .eq 14, 17), none, none, some (.aload_n 0, 0), some (.getfield 15, 1012380), none, none, some (.ifCond .ne 7, 17), none, none, some (.iconst 1, 0), some (.goto 4, 18), none],
  [none, some (.iconst 0, 0), some (.ireturn, 0)]]
def tb_m229 : ab_M := (⟨"java/lang/String", "isLatin1", "()Z"⟩, prog_18_method_154_code, 1, (some .boolean), 0, 0, (3017, 3015, 1015), tb_t229)
def tb_t230 : ab_T := [
  [some (.aload_n 0, 0), some (.getfield 9, 1012383), none, none, some (.arraylength, 0), some (.aload_n 0, 0), some (.invokevirtual 335, 201), none, none, some (.ishr, 0), some (.ireturn, 0)]]
def tb_m230 : ab_M := (⟨"java/lang/String", "length", "()I"⟩, prog_18_method_54_code, 1, (some .int), 0, 0, (3023, 3021, 1015), tb_t230)
def tb_t231 : ab_T := [
  [some (.getstatic 38, 1003018), none, none, some (.ifCond .eq 10, 13), none, none, some (.aload_n 0, 0), some (.getfield 15, 1012380), none, none, some (.goto 4, 14), none, none, some (.iconst 1, 0), some (.ireturn, 0)]]
def tb_m231 : ab_M := (⟨"java/lang/String", "coder", "()B"⟩, prog_18_method_152_code, 1, (some .byte), 0, 0, (3027, 3025, 1015), tb_t231)
def tb_t232 : ab_T := [
  [some (.iload_n 1, 0), some (.invokestatic 88, 202), none, none, some (.ifCond .ne 5, 9), none, none, some (.iconst (-1), 0), some (.ireturn, 0), some (.iload_n 2, 0), some (.iconst 0, 0), some (.invokestatic 92, 203), none, none, some (.istore_n 2, 0), some (.iload_n 3, 0)],
  [some (.aload_n 0, 0), some (.arraylength, 0), some (.invokestatic 38, 204), none, none, some (.istore_n 3, 0), some (.iload_n 2, 0), some (.iload_n 3, 0), some (.if_icmp .lt 5, 29), none, none, some (.iconst (-1), 0), some (.ireturn, 0), some (.aload_n 0, 0), some (.iload_n 1, 0), some (.iload_n 2, 0)],
  [some (.iload_n 3, 0), some (.invokestatic 95, 205), none, none, some (.ireturn, 0)]]
def tb_m232 : ab_M := (⟨"java/lang/StringLatin1", "indexOf", "([BIII)I"⟩, prog_19_method_22_code, 4, (some .int), 0, 0, (3030, 3029, 1016), tb_t232)
def tb_t233 : ab_T := [
  [some (.iload_n 0, 0), some (.ifCond .lt 14, 15), none, none, some (.iload_n 0, 0), some (.sipush 255, 0), none, none, some (.if_icmp .gt 7, 15), none, none, some (.iconst 1, 0), some (.goto 4, 16), none, none, some (.iconst 0, 0)],
  [some (.ireturn, 0)]]
def tb_m233 : ab_M := (⟨"java/lang/StringLatin1", "canEncode", "(I)Z"⟩, prog_19_method_4_code, 1, (some .boolean), 0, 0, (3033, 3032, 1016), tb_t233)
def tb_t234 : ab_T := [
  [some (.iload_n 1, 0), some (.i2b, 0), some (.istore 4, 0), none, some (.iload_n 2, 0), some (.istore 5, 0), none, some (.iload 5, 0), none, some (.iload_n 3, 0), some (.if_icmp .ge 21, 31), none, none, some (.aload_n 0, 0), some (.iload 5, 0), none],
  [some (.baload, 0), some (.iload 4, 0), none, some (.if_icmp .ne 6, 25), none, none, some (.iload 5, 0), none, some (.ireturn, 0), some (.iinc 5 1, 0), none, none, some (.goto (-21), 7), none, none, some (.iconst (-1), 0)],
  [some (.ireturn, 0)]]
def tb_m234 : ab_M := (⟨"java/lang/StringLatin1", "indexOfChar", "([BIII)I"⟩, prog_19_method_23_code, 6, (some .int), 0, 0, (3038, 3037, 1016), tb_t234)
def tb_tL : ab_T := [
  [some (.new 7, 12), none, none, some (.dup, 0), some (.invokespecial 9, 206), none, none, some (.astore_n 1, 0), some (.new 10, 13), none, none, some (.dup, 0), some (.invokespecial 12, 207), none, none, some (.astore_n 2, 0)],
  [some (.iconst 0, 0), some (.istore_n 3, 0), some (.iload_n 3, 0), some (.aload_n 0, 0), some (.arraylength, 0), some (.bipush 6, 0), none, some (.isub, 0), some (.if_icmp .gt 1242, 1266), none, none, some (.aload_n 0, 0), some (.iload_n 3, 0), some (.iaload, 0), some (.bipush 63, 0), none],
  [some (.iand, 0), some (.tableswitch 1227 0 35 #[159, 202, 235, 278, 311, 344, 377, 440, 463, 516, 539, 562, 585, 608, 631, 654, 677, 710, 723, 756, 769, 802, 835, 858, 901, 924, 967, 1010, 1073, 1096, 1119, 1132, 1145, 1168, 1181, 1204], 0), none, none, none, none, none, none, none, none, none, none, none, none, none, none],
  [none, none, none, none, none, none, none, none, none, none, none, none, none, none, none, none],
  [none, none, none, none, none, none, none, none, none, none, none, none, none, none, none, none],
  [none, none, none, none, none, none, none, none, none, none, none, none, none, none, none, none],
  [none, none, none, none, none, none, none, none, none, none, none, none, none, none, none, none],
  [none, none, none, none, none, none, none, none, none, none, none, none, none, none, none, none],
  [none, none, none, none, none, none, none, none, none, none, none, none, none, none, none, none],
  [none, none, none, none, none, none, none, none, none, none, none, none, none, none, none, none],
  [none, none, none, none, none, none, none, none, none, none, none, none, none, none, none, none],
  [none, none, none, none, none, none, none, none, none, none, none, none, none, none, none, none],
  [some (.aload_n 1, 0), some (.aload_n 0, 0), some (.iload_n 3, 0), some (.iconst 1, 0), some (.iadd, 0), some (.iaload, 0), some (.aload_n 0, 0), some (.iload_n 3, 0), some (.iconst 2, 0), some (.iadd, 0), some (.iaload, 0), some (.aload_n 0, 0), some (.iload_n 3, 0), some (.iconst 3, 0), some (.iadd, 0), some (.iaload, 0)],
  [some (.invokevirtual 13, 208), none, none, some (.aload_n 2, 0), some (.aload_n 0, 0), some (.iload_n 3, 0), some (.iconst 1, 0), some (.iadd, 0), some (.iaload, 0), some (.aload_n 0, 0), some (.iload_n 3, 0), some (.iconst 2, 0), some (.iadd, 0), some (.iaload, 0), some (.aload_n 0, 0), some (.iload_n 3, 0)],
  [some (.iconst 3, 0), some (.iadd, 0), some (.iaload, 0), some (.invokevirtual 17, 209), none, none, some (.if_icmp .eq 1030, 1260), none, none, some (.iconst 0, 0), some (.ireturn, 0), some (.aload_n 1, 0), some (.aload_n 0, 0), some (.iload_n 3, 0), some (.iconst 1, 0), some (.iadd, 0)],
  [some (.iaload, 0), some (.aload_n 0, 0), some (.iload_n 3, 0), some (.iconst 2, 0), some (.iadd, 0), some (.iaload, 0), some (.invokevirtual 18, 210), none, none, some (.pop, 0), some (.aload_n 2, 0), some (.aload_n 0, 0), some (.iload_n 3, 0), some (.iconst 1, 0), some (.iadd, 0), some (.iaload, 0)],
  [some (.aload_n 0, 0), some (.iload_n 3, 0), some (.iconst 2, 0), some (.iadd, 0), some (.iaload, 0), some (.invokevirtual 22, 211), none, none, some (.pop, 0), some (.goto 995, 1260), none, none, some (.aload_n 1, 0), some (.aload_n 0, 0), some (.iload_n 3, 0), some (.iconst 1, 0)],
  [some (.iadd, 0), some (.iaload, 0), some (.aload_n 0, 0), some (.iload_n 3, 0), some (.iconst 2, 0), some (.iadd, 0), some (.iaload, 0), some (.aload_n 0, 0), some (.iload_n 3, 0), some (.iconst 3, 0), some (.iadd, 0), some (.iaload, 0), some (.invokevirtual 23, 212), none, none, some (.pop, 0)],
  [some (.aload_n 2, 0), some (.aload_n 0, 0), some (.iload_n 3, 0), some (.iconst 1, 0), some (.iadd, 0), some (.iaload, 0), some (.aload_n 0, 0), some (.iload_n 3, 0), some (.iconst 2, 0), some (.iadd, 0), some (.iaload, 0), some (.aload_n 0, 0), some (.iload_n 3, 0), some (.iconst 3, 0), some (.iadd, 0), some (.iaload, 0)],
  [some (.invokevirtual 26, 213), none, none, some (.pop, 0), some (.goto 952, 1260), none, none, some (.aload_n 1, 0), some (.aload_n 0, 0), some (.iload_n 3, 0), some (.iconst 1, 0), some (.iadd, 0), some (.iaload, 0), some (.aload_n 0, 0), some (.iload_n 3, 0), some (.iconst 2, 0)],
  [some (.iadd, 0), some (.iaload, 0), some (.invokevirtual 27, 214), none, none, some (.pop, 0), some (.aload_n 2, 0), some (.aload_n 0, 0), some (.iload_n 3, 0), some (.iconst 1, 0), some (.iadd, 0), some (.iaload, 0), some (.aload_n 0, 0), some (.iload_n 3, 0), some (.iconst 2, 0), some (.iadd, 0)],
  [some (.iaload, 0), some (.invokevirtual 30, 215), none, none, some (.pop, 0), some (.goto 919, 1260), none, none, some (.aload_n 1, 0), some (.aload_n 0, 0), some (.iload_n 3, 0), some (.iconst 1, 0), some (.iadd, 0), some (.iaload, 0), some (.aload_n 0, 0), some (.iload_n 3, 0)],
  [some (.iconst 2, 0), some (.iadd, 0), some (.iaload, 0), some (.invokevirtual 31, 216), none, none, some (.pop, 0), some (.aload_n 2, 0), some (.aload_n 0, 0), some (.iload_n 3, 0), some (.iconst 1, 0), some (.iadd, 0), some (.iaload, 0), some (.aload_n 0, 0), some (.iload_n 3, 0), some (.iconst 2, 0)],
  [some (.iadd, 0), some (.iaload, 0), some (.invokevirtual 34, 217), none, none, some (.pop, 0), some (.goto 886, 1260), none, none, some (.aload_n 1, 0), some (.aload_n 0, 0), some (.iload_n 3, 0), some (.iconst 1, 0), some (.iadd, 0), some (.iaload, 0), some (.aload_n 0, 0)],
  [some (.iload_n 3, 0), some (.iconst 2, 0), some (.iadd, 0), some (.iaload, 0), some (.invokevirtual 35, 218), none, none, some (.pop, 0), some (.aload_n 2, 0), some (.aload_n 0, 0), some (.iload_n 3, 0), some (.iconst 1, 0), some (.iadd, 0), some (.iaload, 0), some (.aload_n 0, 0), some (.iload_n 3, 0)],
  [some (.iconst 2, 0), some (.iadd, 0), some (.iaload, 0), some (.invokevirtual 38, 219), none, none, some (.pop, 0), some (.goto 853, 1260), none, none, some (.aload_n 1, 0), some (.aload_n 0, 0), some (.iload_n 3, 0), some (.iconst 1, 0), some (.iadd, 0), some (.iaload, 0)],
  [some (.i2l, 0), some (.bipush 32, 0), none, some (.lshl, 0), some (.aload_n 0, 0), some (.iload_n 3, 0), some (.iconst 2, 0), some (.iadd, 0), some (.iaload, 0), some (.i2l, 0), some (.ldc2_w 39, 19), none, none, some (.land, 0), some (.lor, 0), some (.aload_n 0, 0)],
  [some (.iload_n 3, 0), some (.iconst 3, 0), some (.iadd, 0), some (.iaload, 0), some (.invokevirtual 41, 220), none, none, some (.pop, 0), some (.aload_n 2, 0), some (.aload_n 0, 0), some (.iload_n 3, 0), some (.iconst 1, 0), some (.iadd, 0), some (.iaload, 0), some (.i2l, 0), some (.bipush 32, 0)],
  [none, some (.lshl, 0), some (.aload_n 0, 0), some (.iload_n 3, 0), some (.iconst 2, 0), some (.iadd, 0), some (.iaload, 0), some (.i2l, 0), some (.ldc2_w 39, 19), none, none, some (.land, 0), some (.lor, 0), some (.aload_n 0, 0), some (.iload_n 3, 0), some (.iconst 3, 0)],
  [some (.iadd, 0), some (.iaload, 0), some (.invokevirtual 45, 221), none, none, some (.pop, 0), some (.goto 790, 1260), none, none, some (.aload_n 1, 0), some (.aload_n 0, 0), some (.iload_n 3, 0), some (.iconst 1, 0), some (.iadd, 0), some (.iaload, 0), some (.invokevirtual 46, 222)],
  [none, none, some (.pop, 0), some (.aload_n 2, 0), some (.aload_n 0, 0), some (.iload_n 3, 0), some (.iconst 1, 0), some (.iadd, 0), some (.iaload, 0), some (.invokevirtual 50, 223), none, none, some (.pop, 0), some (.goto 767, 1260), none, none],
  [some (.aload_n 1, 0), some (.aload_n 0, 0), some (.iload_n 3, 0), some (.iconst 1, 0), some (.iadd, 0), some (.iaload, 0), some (.aload_n 0, 0), some (.iload_n 3, 0), some (.iconst 2, 0), some (.iadd, 0), some (.iaload, 0), some (.aload_n 0, 0), some (.iload_n 3, 0), some (.iconst 3, 0), some (.iadd, 0), some (.iaload, 0)],
  [some (.aload_n 0, 0), some (.iload_n 3, 0), some (.iconst 4, 0), some (.iadd, 0), some (.iaload, 0), some (.invokevirtual 51, 224), none, none, some (.pop, 0), some (.aload_n 2, 0), some (.aload_n 0, 0), some (.iload_n 3, 0), some (.iconst 1, 0), some (.iadd, 0), some (.iaload, 0), some (.aload_n 0, 0)],
  [some (.iload_n 3, 0), some (.iconst 2, 0), some (.iadd, 0), some (.iaload, 0), some (.aload_n 0, 0), some (.iload_n 3, 0), some (.iconst 3, 0), some (.iadd, 0), some (.iaload, 0), some (.aload_n 0, 0), some (.iload_n 3, 0), some (.iconst 4, 0), some (.iadd, 0), some (.iaload, 0), some (.invokevirtual 55, 225), none],
  [none, some (.pop, 0), some (.goto 714, 1260), none, none, some (.aload_n 1, 0), some (.aload_n 0, 0), some (.iload_n 3, 0), some (.iconst 1, 0), some (.iadd, 0), some (.iaload, 0), some (.invokevirtual 56, 226), none, none, some (.pop, 0), some (.aload_n 2, 0)],
  [some (.aload_n 0, 0), some (.iload_n 3, 0), some (.iconst 1, 0), some (.iadd, 0), some (.iaload, 0), some (.invokevirtual 59, 227), none, none, some (.pop, 0), some (.goto 691, 1260), none, none, some (.aload_n 1, 0), some (.aload_n 0, 0), some (.iload_n 3, 0), some (.iconst 1, 0)],
  [some (.iadd, 0), some (.iaload, 0), some (.invokevirtual 60, 228), none, none, some (.pop, 0), some (.aload_n 2, 0), some (.aload_n 0, 0), some (.iload_n 3, 0), some (.iconst 1, 0), some (.iadd, 0), some (.iaload, 0), some (.invokevirtual 63, 229), none, none, some (.pop, 0)],
  [some (.goto 668, 1260), none, none, some (.aload_n 1, 0), some (.aload_n 0, 0), some (.iload_n 3, 0), some (.iconst 1, 0), some (.iadd, 0), some (.iaload, 0), some (.invokevirtual 64, 230), none, none, some (.pop, 0), some (.aload_n 2, 0), some (.aload_n 0, 0), some (.iload_n 3, 0)],
  [some (.iconst 1, 0), some (.iadd, 0), some (.iaload, 0), some (.invokevirtual 67, 231), none, none, some (.pop, 0), some (.goto 645, 1260), none, none, some (.aload_n 1, 0), some (.aload_n 0, 0), some (.iload_n 3, 0), some (.iconst 1, 0), some (.iadd, 0), some (.iaload, 0)],
  [some (.invokevirtual 68, 232), none, none, some (.pop, 0), some (.aload_n 2, 0), some (.aload_n 0, 0), some (.iload_n 3, 0), some (.iconst 1, 0), some (.iadd, 0), some (.iaload, 0), some (.invokevirtual 71, 233), none, none, some (.pop, 0), some (.goto 622, 1260), none],
  [none, some (.aload_n 1, 0), some (.aload_n 0, 0), some (.iload_n 3, 0), some (.iconst 1, 0), some (.iadd, 0), some (.iaload, 0), some (.invokevirtual 72, 234), none, none, some (.pop, 0), some (.aload_n 2, 0), some (.aload_n 0, 0), some (.iload_n 3, 0), some (.iconst 1, 0), some (.iadd, 0)],
  [some (.iaload, 0), some (.invokevirtual 75, 235), none, none, some (.pop, 0), some (.goto 599, 1260), none, none, some (.aload_n 1, 0), some (.aload_n 0, 0), some (.iload_n 3, 0), some (.iconst 1, 0), some (.iadd, 0), some (.iaload, 0), some (.invokevirtual 76, 236), none],
  [none, some (.pop, 0), some (.aload_n 2, 0), some (.aload_n 0, 0), some (.iload_n 3, 0), some (.iconst 1, 0), some (.iadd, 0), some (.iaload, 0), some (.invokevirtual 79, 237), none, none, some (.pop, 0), some (.goto 576, 1260), none, none, some (.aload_n 1, 0)],
  [some (.aload_n 0, 0), some (.iload_n 3, 0), some (.iconst 1, 0), some (.iadd, 0), some (.iaload, 0), some (.invokevirtual 80, 238), none, none, some (.pop, 0), some (.aload_n 2, 0), some (.aload_n 0, 0), some (.iload_n 3, 0), some (.iconst 1, 0), some (.iadd, 0), some (.iaload, 0), some (.invokevirtual 83, 239)],
  [none, none, some (.pop, 0), some (.goto 553, 1260), none, none, some (.aload_n 1, 0), some (.aload_n 0, 0), some (.iload_n 3, 0), some (.iconst 1, 0), some (.iadd, 0), some (.iaload, 0), some (.aload_n 0, 0), some (.iload_n 3, 0), some (.iconst 2, 0), some (.iadd, 0)],
  [some (.iaload, 0), some (.invokevirtual 84, 240), none, none, some (.pop, 0), some (.aload_n 2, 0), some (.aload_n 0, 0), some (.iload_n 3, 0), some (.iconst 1, 0), some (.iadd, 0), some (.iaload, 0), some (.aload_n 0, 0), some (.iload_n 3, 0), some (.iconst 2, 0), some (.iadd, 0), some (.iaload, 0)],
  [some (.invokevirtual 87, 241), none, none, some (.pop, 0), some (.goto 520, 1260), none, none, some (.aload_n 1, 0), some (.invokevirtual 88, 242), none, none, some (.pop, 0), some (.aload_n 2, 0), some (.invokevirtual 92, 243), none, none],
  [some (.pop, 0), some (.goto 507, 1260), none, none, some (.aload_n 1, 0), some (.aload_n 0, 0), some (.iload_n 3, 0), some (.iconst 1, 0), some (.iadd, 0), some (.iaload, 0), some (.aload_n 0, 0), some (.iload_n 3, 0), some (.iconst 2, 0), some (.iadd, 0), some (.iaload, 0), some (.invokevirtual 93, 244)],
  [none, none, some (.pop, 0), some (.aload_n 2, 0), some (.aload_n 0, 0), some (.iload_n 3, 0), some (.iconst 1, 0), some (.iadd, 0), some (.iaload, 0), some (.aload_n 0, 0), some (.iload_n 3, 0), some (.iconst 2, 0), some (.iadd, 0), some (.iaload, 0), some (.invokevirtual 96, 245), none],
  [none, some (.pop, 0), some (.goto 474, 1260), none, none, some (.aload_n 1, 0), some (.invokevirtual 97, 246), none, none, some (.pop, 0), some (.aload_n 2, 0), some (.invokevirtual 100, 247), none, none, some (.pop, 0), some (.goto 461, 1260)],
  [none, none, some (.aload_n 1, 0), some (.aload_n 0, 0), some (.iload_n 3, 0), some (.iconst 1, 0), some (.iadd, 0), some (.iaload, 0), some (.aload_n 0, 0), some (.iload_n 3, 0), some (.iconst 2, 0), some (.iadd, 0), some (.iaload, 0), some (.invokevirtual 101, 248), none, none],
  [some (.pop, 0), some (.aload_n 2, 0), some (.aload_n 0, 0), some (.iload_n 3, 0), some (.iconst 1, 0), some (.iadd, 0), some (.iaload, 0), some (.aload_n 0, 0), some (.iload_n 3, 0), some (.iconst 2, 0), some (.iadd, 0), some (.iaload, 0), some (.invokevirtual 104, 249), none, none, some (.pop, 0)],
  [some (.goto 428, 1260), none, none, some (.aload_n 1, 0), some (.aload_n 0, 0), some (.iload_n 3, 0), some (.iconst 1, 0), some (.iadd, 0), some (.iaload, 0), some (.aload_n 0, 0), some (.iload_n 3, 0), some (.iconst 2, 0), some (.iadd, 0), some (.iaload, 0), some (.invokevirtual 105, 250), none],
  [none, some (.pop, 0), some (.aload_n 2, 0), some (.aload_n 0, 0), some (.iload_n 3, 0), some (.iconst 1, 0), some (.iadd, 0), some (.iaload, 0), some (.aload_n 0, 0), some (.iload_n 3, 0), some (.iconst 2, 0), some (.iadd, 0), some (.iaload, 0), some (.invokevirtual 108, 251), none, none],
  [some (.pop, 0), some (.goto 395, 1260), none, none, some (.aload_n 1, 0), some (.aload_n 0, 0), some (.iload_n 3, 0), some (.iconst 1, 0), some (.iadd, 0), some (.iaload, 0), some (.invokevirtual 109, 252), none, none, some (.pop, 0), some (.aload_n 2, 0), some (.aload_n 0, 0)],
  [some (.iload_n 3, 0), some (.iconst 1, 0), some (.iadd, 0), some (.iaload, 0), some (.invokevirtual 112, 253), none, none, some (.pop, 0), some (.goto 372, 1260), none, none, some (.aload_n 1, 0), some (.aload_n 0, 0), some (.iload_n 3, 0), some (.iconst 1, 0), some (.iadd, 0)],
  [some (.iaload, 0), some (.aload_n 0, 0), some (.iload_n 3, 0), some (.iconst 2, 0), some (.iadd, 0), some (.iaload, 0), some (.aload_n 0, 0), some (.iload_n 3, 0), some (.iconst 3, 0), some (.iadd, 0), some (.iaload, 0), some (.invokevirtual 113, 254), none, none, some (.pop, 0), some (.aload_n 2, 0)],
  [some (.aload_n 0, 0), some (.iload_n 3, 0), some (.iconst 1, 0), some (.iadd, 0), some (.iaload, 0), some (.aload_n 0, 0), some (.iload_n 3, 0), some (.iconst 2, 0), some (.iadd, 0), some (.iaload, 0), some (.aload_n 0, 0), some (.iload_n 3, 0), some (.iconst 3, 0), some (.iadd, 0), some (.iaload, 0), some (.invokevirtual 116, 255)],
  [none, none, some (.pop, 0), some (.goto 329, 1260), none, none, some (.aload_n 1, 0), some (.aload_n 0, 0), some (.iload_n 3, 0), some (.iconst 1, 0), some (.iadd, 0), some (.iaload, 0), some (.invokevirtual 117, 256), none, none, some (.pop, 0)],
  [some (.aload_n 2, 0), some (.aload_n 0, 0), some (.iload_n 3, 0), some (.iconst 1, 0), some (.iadd, 0), some (.iaload, 0), some (.invokevirtual 120, 257), none, none, some (.pop, 0), some (.goto 306, 1260), none, none, some (.aload_n 1, 0), some (.aload_n 0, 0), some (.iload_n 3, 0)],
  [some (.iconst 1, 0), some (.iadd, 0), some (.iaload, 0), some (.aload_n 0, 0), some (.iload_n 3, 0), some (.iconst 2, 0), some (.iadd, 0), some (.iaload, 0), some (.aload_n 0, 0), some (.iload_n 3, 0), some (.iconst 3, 0), some (.iadd, 0), some (.iaload, 0), some (.invokevirtual 121, 258), none, none],
  [some (.pop, 0), some (.aload_n 2, 0), some (.aload_n 0, 0), some (.iload_n 3, 0), some (.iconst 1, 0), some (.iadd, 0), some (.iaload, 0), some (.aload_n 0, 0), some (.iload_n 3, 0), some (.iconst 2, 0), some (.iadd, 0), some (.iaload, 0), some (.aload_n 0, 0), some (.iload_n 3, 0), some (.iconst 3, 0), some (.iadd, 0)],
  [some (.iaload, 0), some (.invokevirtual 124, 259), none, none, some (.pop, 0), some (.goto 263, 1260), none, none, some (.aload_n 1, 0), some (.aload_n 0, 0), some (.iload_n 3, 0), some (.iconst 1, 0), some (.iadd, 0), some (.iaload, 0), some (.aload_n 0, 0), some (.iload_n 3, 0)],
  [some (.iconst 2, 0), some (.iadd, 0), some (.iaload, 0), some (.aload_n 0, 0), some (.iload_n 3, 0), some (.iconst 3, 0), some (.iadd, 0), some (.iaload, 0), some (.invokevirtual 125, 260), none, none, some (.pop, 0), some (.aload_n 2, 0), some (.aload_n 0, 0), some (.iload_n 3, 0), some (.iconst 1, 0)],
  [some (.iadd, 0), some (.iaload, 0), some (.aload_n 0, 0), some (.iload_n 3, 0), some (.iconst 2, 0), some (.iadd, 0), some (.iaload, 0), some (.aload_n 0, 0), some (.iload_n 3, 0), some (.iconst 3, 0), some (.iadd, 0), some (.iaload, 0), some (.invokevirtual 128, 261), none, none, some (.pop, 0)],
  [some (.goto 220, 1260), none, none, some (.aload_n 1, 0), some (.aload_n 0, 0), some (.iload_n 3, 0), some (.iconst 1, 0), some (.iadd, 0), some (.iaload, 0), some (.aload_n 0, 0), some (.iload_n 3, 0), some (.iconst 2, 0), some (.iadd, 0), some (.iaload, 0), some (.aload_n 0, 0), some (.iload_n 3, 0)],
  [some (.iconst 3, 0), some (.iadd, 0), some (.iaload, 0), some (.aload_n 0, 0), some (.iload_n 3, 0), some (.iconst 4, 0), some (.iadd, 0), some (.iaload, 0), some (.aload_n 0, 0), some (.iload_n 3, 0), some (.iconst 5, 0), some (.iadd, 0), some (.iaload, 0), some (.invokevirtual 129, 262), none, none],
  [some (.pop, 0), some (.aload_n 2, 0), some (.aload_n 0, 0), some (.iload_n 3, 0), some (.iconst 1, 0), some (.iadd, 0), some (.iaload, 0), some (.aload_n 0, 0), some (.iload_n 3, 0), some (.iconst 2, 0), some (.iadd, 0), some (.iaload, 0), some (.aload_n 0, 0), some (.iload_n 3, 0), some (.iconst 3, 0), some (.iadd, 0)],
  [some (.iaload, 0), some (.aload_n 0, 0), some (.iload_n 3, 0), some (.iconst 4, 0), some (.iadd, 0), some (.iaload, 0), some (.aload_n 0, 0), some (.iload_n 3, 0), some (.iconst 5, 0), some (.iadd, 0), some (.iaload, 0), some (.invokevirtual 133, 263), none, none, some (.pop, 0), some (.goto 157, 1260)],
  [none, none, some (.aload_n 1, 0), some (.aload_n 0, 0), some (.iload_n 3, 0), some (.iconst 1, 0), some (.iadd, 0), some (.iaload, 0), some (.invokevirtual 134, 264), none, none, some (.pop, 0), some (.aload_n 2, 0), some (.aload_n 0, 0), some (.iload_n 3, 0), some (.iconst 1, 0)],
  [some (.iadd, 0), some (.iaload, 0), some (.invokevirtual 137, 265), none, none, some (.pop, 0), some (.goto 134, 1260), none, none, some (.aload_n 1, 0), some (.aload_n 0, 0), some (.iload_n 3, 0), some (.iconst 1, 0), some (.iadd, 0), some (.iaload, 0), some (.invokevirtual 138, 266)],
  [none, none, some (.pop, 0), some (.aload_n 2, 0), some (.aload_n 0, 0), some (.iload_n 3, 0), some (.iconst 1, 0), some (.iadd, 0), some (.iaload, 0), some (.invokevirtual 141, 267), none, none, some (.pop, 0), some (.goto 111, 1260), none, none],
  [some (.aload_n 1, 0), some (.invokevirtual 142, 268), none, none, some (.pop, 0), some (.aload_n 2, 0), some (.invokevirtual 145, 269), none, none, some (.pop, 0), some (.goto 98, 1260), none, none, some (.aload_n 1, 0), some (.invokevirtual 146, 270), none],
  [none, some (.pop, 0), some (.aload_n 2, 0), some (.invokevirtual 149, 271), none, none, some (.pop, 0), some (.goto 85, 1260), none, none, some (.aload_n 1, 0), some (.aload_n 0, 0), some (.iload_n 3, 0), some (.iconst 1, 0), some (.iadd, 0), some (.iaload, 0)],
  [some (.invokevirtual 150, 272), none, none, some (.pop, 0), some (.aload_n 2, 0), some (.aload_n 0, 0), some (.iload_n 3, 0), some (.iconst 1, 0), some (.iadd, 0), some (.iaload, 0), some (.invokevirtual 153, 273), none, none, some (.pop, 0), some (.goto 62, 1260), none],
  [none, some (.aload_n 1, 0), some (.invokevirtual 154, 274), none, none, some (.pop, 0), some (.aload_n 2, 0), some (.invokevirtual 157, 275), none, none, some (.pop, 0), some (.goto 49, 1260), none, none, some (.aload_n 1, 0), some (.aload_n 0, 0)],
  [some (.iload_n 3, 0), some (.iconst 1, 0), some (.iadd, 0), some (.iaload, 0), some (.invokevirtual 158, 276), none, none, some (.pop, 0), some (.aload_n 2, 0), some (.aload_n 0, 0), some (.iload_n 3, 0), some (.iconst 1, 0), some (.iadd, 0), some (.iaload, 0), some (.invokevirtual 161, 277), none],
  [none, some (.pop, 0), some (.goto 26, 1260), none, none, some (.aload_n 1, 0), some (.aload_n 0, 0), some (.iload_n 3, 0), some (.iconst 1, 0), some (.iadd, 0), some (.iaload, 0), some (.invokevirtual 162, 278), none, none, some (.pop, 0), some (.aload_n 2, 0)],
  [some (.aload_n 0, 0), some (.iload_n 3, 0), some (.iconst 1, 0), some (.iadd, 0), some (.iaload, 0), some (.invokevirtual 165, 279), none, none, some (.pop, 0), some (.goto 3, 1260), none, none, some (.iinc 3 6, 0), none, none, some (.goto (-1245), 18)],
  [none, none, some (.iconst 1, 0), some (.ireturn, 0)]]
def tb_mL : ab_M := (⟨"ScrewLeftLaw", "law", "([I)Z"⟩, code, 4, (some .boolean), 600000, 7302250, (0, 0, 0), tb_tL)
def tb_F : List ab_F := [("ScrewLeft$Step", 13, 10, 2, 1, 0, 1226),
  ("ScrewLeft$Step", 23, 10, 3, 1, 0, 1228),
  ("ScrewLeft$Carried", 21, 10, 2, 1, 0, 1225),
  ("ScrewLeft$Job", 9, 7, 2, 0, 2, 1113),
  ("ScrewLeft$Job", 15, 7, 3, 0, 2, 1115),
  ("ScrewLeft$Job", 18, 7, 4, 0, 2, 1117),
  ("ScrewLeft$Job", 21, 7, 5, 0, 2, 1119),
  ("ScrewLeft$Job", 24, 7, 8, 0, 0, 1125),
  ("ScrewLeft$Job", 28, 7, 9, 0, 0, 1127),
  ("ScrewLeft$Job", 34, 7, 11, 0, 2, 1131),
  ("ScrewLeft$Job", 38, 7, 12, 0, 2, 1133),
  ("ScrewLeft$Job", 41, 7, 13, 0, 2, 1135),
  ("ScrewLeft$Job", 44, 7, 15, 0, 2, 1139),
  ("ScrewLeft$Job", 47, 7, 17, 0, 0, 1143),
  ("ScrewLeft$Job", 50, 7, 0, 0, 2, 1110),
  ("ScrewLeft$Job", 54, 7, 1, 0, 0, 1111),
  ("ScrewLeft$Job", 63, 7, 6, 0, 0, 1121),
  ("ScrewLeft$Job", 66, 7, 7, 0, 0, 1123),
  ("ScrewLeft$Job", 69, 7, 10, 0, 0, 1129),
  ("ScrewLeft$Job", 72, 8, 0, 1, 2, 1098),
  ("ScrewLeft$Job", 75, 8, 2, 1, 0, 1101),
  ("ScrewLeft$Job", 82, 7, 14, 0, 0, 1137),
  ("ScrewLeft$Job", 85, 7, 16, 0, 0, 1141),
  ("ScrewLeft$Text", 9, 8, 0, 0, 2, 1097),
  ("ScrewLeft$Text", 15, 8, 1, 0, 2, 1099),
  ("ScrewLeft$Text", 24, 8, 2, 0, 0, 1100),
  ("ScrewLeft$Reader", 9, 9, 0, 0, 2, 1189),
  ("ScrewLeft$Reader", 17, 9, 2, 0, 2, 1191),
  ("ScrewLeft$Reader", 21, 9, 5, 0, 2, 1194),
  ("ScrewLeft$Reader", 30, 9, 1, 0, 0, 1190),
  ("ScrewLeft$Reader", 34, 9, 3, 0, 0, 1192),
  ("ScrewLeft$Reader", 37, 9, 4, 0, 1, 1193),
  ("ScrewLeft$Reader", 41, 9, 6, 0, 0, 1196),
  ("ScrewLeft$Voice", 7, 10, 0, 0, 2, 1220),
  ("ScrewLeft$Voice", 13, 10, 1, 0, 0, 1222),
  ("ScrewLeft$Voice", 17, 10, 2, 0, 0, 1224),
  ("ScrewLeft$Voice", 20, 10, 3, 0, 0, 1227),
  ("ScrewLeft", 13, 11, 0, 0, 2, 2000),
  ("ScrewLeft", 22, 11, 1, 0, 2, 2001),
  ("ScrewLeft", 26, 11, 2, 0, 2, 2002),
  ("ScrewLeft", 29, 11, 3, 0, 2, 2003),
  ("ScrewLeft", 35, 11, 5, 0, 2, 2005),
  ("ScrewLeft", 42, 11, 6, 0, 2, 2006),
  ("ScrewLeft", 46, 11, 7, 0, 2, 2007),
  ("ScrewLeft", 52, 11, 8, 0, 2, 2008),
  ("ScrewLeft", 55, 11, 9, 0, 2, 2009),
  ("ScrewLeft", 58, 11, 10, 0, 2, 2010),
  ("ScrewLeft", 61, 11, 11, 0, 2, 2011),
  ("ScrewLeft", 64, 11, 12, 0, 2, 2012),
  ("ScrewLeft", 71, 7, 1, 1, 0, 1112),
  ("ScrewLeft", 87, 7, 2, 1, 2, 1114),
  ("ScrewLeft", 90, 7, 3, 1, 2, 1116),
  ("ScrewLeft", 93, 7, 4, 1, 2, 1118),
  ("ScrewLeft", 96, 7, 5, 1, 2, 1120),
  ("ScrewLeft", 121, 7, 7, 1, 0, 1124),
  ("ScrewLeft", 128, 7, 8, 1, 0, 1126),
  ("ScrewLeft", 131, 7, 9, 1, 0, 1128),
  ("ScrewLeft", 135, 7, 10, 1, 0, 1130),
  ("ScrewLeft", 145, 7, 14, 1, 0, 1138),
  ("ScrewLeft", 148, 7, 13, 1, 2, 1136),
  ("ScrewLeft", 162, 7, 11, 1, 2, 1132),
  ("ScrewLeft", 166, 7, 12, 1, 2, 1134),
  ("ScrewLeft", 169, 9, 5, 1, 2, 1195),
  ("ScrewLeft", 172, 9, 6, 1, 0, 1197),
  ("ScrewLeft", 252, 7, 6, 1, 0, 1122),
  ("ScrewLeft", 265, 7, 17, 1, 0, 1144),
  ("ScrewLeft", 285, 10, 1, 1, 0, 1223),
  ("ScrewLeft", 288, 10, 0, 1, 2, 1221),
  ("ScrewLeft", 303, 11, 4, 0, 0, 2004),
  ("ScrewLeft", 306, 7, 16, 1, 0, 1142),
  ("ScrewLeft", 309, 7, 15, 1, 2, 1140),
  ("ScrewLeftModel", 9, 12, 0, 0, 2, 4172),
  ("ScrewLeftModel", 13, 12, 1, 0, 2, 4173),
  ("ScrewLeftModel", 16, 12, 2, 0, 2, 4174),
  ("ScrewLeftModel", 19, 12, 4, 0, 2, 4176),
  ("ScrewLeftModel", 22, 12, 5, 0, 2, 4177),
  ("ScrewLeftModel", 25, 12, 6, 0, 2, 4178),
  ("ScrewLeftModel", 28, 12, 7, 0, 2, 4179),
  ("ScrewLeftModel", 31, 12, 8, 0, 2, 4180),
  ("ScrewLeftModel", 34, 12, 14, 0, 2, 4186),
  ("ScrewLeftModel", 37, 12, 15, 0, 2, 4187),
  ("ScrewLeftModel", 40, 12, 17, 0, 2, 4189),
  ("ScrewLeftModel", 43, 12, 20, 0, 2, 4192),
  ("ScrewLeftModel", 46, 12, 22, 0, 2, 4194),
  ("ScrewLeftModel", 49, 12, 23, 0, 2, 4195),
  ("ScrewLeftModel", 52, 12, 24, 0, 2, 4196),
  ("ScrewLeftModel", 136, 12, 13, 0, 0, 4185),
  ("ScrewLeftModel", 133, 12, 9, 0, 0, 4181),
  ("ScrewLeftModel", 129, 12, 10, 0, 0, 4182),
  ("ScrewLeftModel", 150, 12, 11, 0, 0, 4183),
  ("ScrewLeftModel", 142, 12, 12, 0, 1, 4184),
  ("ScrewLeftModel", 219, 12, 16, 0, 0, 4188),
  ("ScrewLeftModel", 244, 12, 18, 0, 0, 4190),
  ("ScrewLeftModel", 247, 12, 19, 0, 0, 4191),
  ("ScrewLeftModel", 256, 12, 21, 0, 0, 4193),
  ("ScrewLeftModel", 299, 12, 3, 0, 0, 4175)]
def tb_G : List ab_G := [("ScrewLeft$Step", 1, 9, ⟨"java/lang/Object", "<init>", "()V"⟩, 0, (1041, 0, 0), []),
  ("ScrewLeft$Step", 7, 1, ⟨"ScrewLeft$Voice", "begins", "(I)V"⟩, 1, (4040, 0, 0), [(10, 72, 34)]),
  ("ScrewLeft$Step", 17, 10, ⟨"ScrewLeft$Step", "fits", "(LScrewLeft$Voice;I)I"⟩, 2, (4067, 4025, 5), [(0, 5, 4024), (4, 11, 4026), (1, 11, 4034), (6, 5, 4035), (2, 5, 4036), (3, 5, 4037), (5, 5, 4038)]),
  ("ScrewLeft$Step", 26, 10, ⟨"ScrewLeft$Step", "errs", "(LScrewLeft$Voice;I)I"⟩, 2, (4106, 4044, 7), [(0, 7, 4043), (4, 7, 4045), (1, 7, 4046), (6, 7, 4047), (2, 15, 4048), (3, 7, 4060), (5, 25, 4061)]),
  ("ScrewLeft$Step", 29, 10, ⟨"ScrewLeft$Step", "looks", "(LScrewLeft$Voice;I)I"⟩, 2, (4107, 6175, 6), [(4, 6, 6176), (1, 6, 6177), (6, 29, 6178), (2, 6, 6180), (3, 19, 6181), (5, 6, 6182), (0, 6, 6183)]),
  ("ScrewLeft$Board", 1, 5, ⟨"ScrewLeft$Step", "<init>", "()V"⟩, 0, (1048, 0, 0), [(0, 0, 0), (1, 0, 0), (2, 0, 0), (3, 0, 0), (4, 0, 0), (5, 0, 0), (6, 0, 0)]),
  ("ScrewLeft$Board", 7, 1, ⟨"ScrewLeft$Voice", "begins", "(I)V"⟩, 1, (4029, 0, 0), [(10, 72, 34)]),
  ("ScrewLeft$Board", 13, 11, ⟨"ScrewLeft$Step", "fits", "(LScrewLeft$Voice;I)I"⟩, 2, (4033, 4025, 1049), [(1, 5, 0), (4, 5, 0)]),
  ("ScrewLeft$Glued", 1, 5, ⟨"ScrewLeft$Step", "<init>", "()V"⟩, 0, (1055, 0, 0), [(0, 0, 0), (1, 0, 0), (2, 0, 0), (3, 0, 0), (4, 0, 0), (5, 0, 0), (6, 0, 0)]),
  ("ScrewLeft$Glued", 7, 1, ⟨"ScrewLeft$Voice", "begins", "(I)V"⟩, 1, (4051, 0, 0), [(10, 72, 34)]),
  ("ScrewLeft$Glued", 13, 11, ⟨"ScrewLeft$Step", "errs", "(LScrewLeft$Voice;I)I"⟩, 2, (4052, 4044, 1056), [(2, 7, 0), (5, 7, 0)]),
  ("ScrewLeft$Glued", 17, 10, ⟨"ScrewLeft$Glued", "looks", "(LScrewLeft$Voice;I)I"⟩, 2, (4053, 4054, 6), [(2, 6, 4056), (5, 6, 4057)]),
  ("ScrewLeft$Held", 1, 5, ⟨"ScrewLeft$Step", "<init>", "()V"⟩, 0, (1062, 0, 0), [(0, 0, 0), (1, 0, 0), (2, 0, 0), (3, 0, 0), (4, 0, 0), (5, 0, 0), (6, 0, 0)]),
  ("ScrewLeft$Held", 7, 1, ⟨"ScrewLeft$Voice", "begins", "(I)V"⟩, 1, (4075, 0, 0), [(10, 72, 34)]),
  ("ScrewLeft$Held", 13, 11, ⟨"ScrewLeft$Step", "looks", "(LScrewLeft$Voice;I)I"⟩, 2, (4076, 6175, 1063), [(3, 6, 0), (6, 6, 0)]),
  ("ScrewLeft$Alike", 1, 5, ⟨"ScrewLeft$Board", "<init>", "()V"⟩, 0, (1069, 0, 0), [(1, 9, 0), (4, 9, 0)]),
  ("ScrewLeft$Alike", 7, 11, ⟨"ScrewLeft$Board", "lasting", "(IIII)I"⟩, 4, (2120, 6171, 1070), [(4, 10, 0)]),
  ("ScrewLeft$Alike", 11, 1, ⟨"ScrewLeft$Voice", "begins", "(I)V"⟩, 1, (4084, 0, 0), [(10, 72, 34)]),
  ("ScrewLeft$Alike", 17, 13, ⟨"ScrewLeft$Board", "undoes", "(LScrewLeft$Voice;I)I"⟩, 2, (4085, 4086, 1070), [(4, 8, 1049)]),
  ("ScrewLeft$Alike", 21, 10, ⟨"ScrewLeft$Alike", "fits", "(LScrewLeft$Voice;I)I"⟩, 2, (4088, 4089, 11), [(4, 11, 4091)]),
  ("ScrewLeft$Sealed", 1, 5, ⟨"ScrewLeft$Glued", "<init>", "()V"⟩, 0, (1076, 0, 0), [(2, 12, 0), (5, 12, 0)]),
  ("ScrewLeft$Sealed", 7, 11, ⟨"ScrewLeft$Glued", "lasting", "(IIII)I"⟩, 4, (2137, 6173, 1077), [(5, 13, 0)]),
  ("ScrewLeft$Sealed", 11, 1, ⟨"ScrewLeft$Voice", "begins", "(I)V"⟩, 1, (4064, 0, 0), [(10, 72, 34)]),
  ("ScrewLeft$Sealed", 17, 11, ⟨"ScrewLeft$Glued", "errs", "(LScrewLeft$Voice;I)I"⟩, 2, (4065, 6174, 1077), [(5, 15, 0)]),
  ("ScrewLeft$Carried", 1, 5, ⟨"ScrewLeft$Held", "<init>", "()V"⟩, 0, (1083, 0, 0), [(3, 16, 0), (6, 16, 0)]),
  ("ScrewLeft$Carried", 7, 11, ⟨"ScrewLeft$Held", "lasting", "(IIII)I"⟩, 4, (2127, 6172, 1084), [(6, 17, 0)]),
  ("ScrewLeft$Carried", 11, 1, ⟨"ScrewLeft$Voice", "begins", "(I)V"⟩, 1, (4071, 0, 0), [(10, 72, 34)]),
  ("ScrewLeft$Carried", 17, 11, ⟨"ScrewLeft$Held", "looks", "(LScrewLeft$Voice;I)I"⟩, 2, (4072, 6179, 1084), [(6, 19, 0)]),
  ("ScrewLeft$Carried", 25, 10, ⟨"ScrewLeft$Carried", "errs", "(LScrewLeft$Voice;I)I"⟩, 2, (4096, 4097, 7), [(6, 7, 4099)]),
  ("ScrewLeft$Carried", 30, 13, ⟨"ScrewLeft$Held", "undoes", "(LScrewLeft$Voice;I)I"⟩, 2, (4100, 4101, 1084), [(6, 8, 1063)]),
  ("ScrewLeft$Job", 3, 9, ⟨"java/lang/Object", "<init>", "()V"⟩, 0, (1090, 0, 0), []),
  ("ScrewLeft$Job", 33, 5, ⟨"ScrewLeft$Text", "<init>", "()V"⟩, 0, (1093, 0, 0), [(8, 54, 0)]),
  ("ScrewLeft$Job", 96, 3, ⟨"ScrewLeft", "isIn", "(II)Z"⟩, 2, (2068, 0, 0), [(0, 79, 0)]),
  ("ScrewLeft$Job", 88, 0, ⟨"ScrewLeft$Job", "has", "(I)Z"⟩, 1, (2079, 0, 0), [(7, 33, 2)]),
  ("ScrewLeft$Job", 123, 0, ⟨"ScrewLeft$Job", "tired", "()I"⟩, 0, (2080, 0, 0), [(7, 37, 6)]),
  ("ScrewLeft$Job", 127, 0, ⟨"ScrewLeft$Job", "lastsBy", "(III)I"⟩, 3, (2087, 0, 0), [(7, 38, 7)]),
  ("ScrewLeft$Job", 130, 0, ⟨"ScrewLeft$Job", "kindOf", "(I)LScrewLeft$Step;"⟩, 1, (2108, 0, 0), [(7, 39, 10)]),
  ("ScrewLeft$Job", 134, 10, ⟨"ScrewLeft$Step", "lasting", "(IIII)I"⟩, 4, (2113, 2116, 1), [(0, 1, 2115), (4, 21, 2117), (1, 10, 2123), (6, 27, 2124), (2, 13, 2130), (3, 17, 2133), (5, 24, 2134)]),
  ("ScrewLeft$Job", 106, 8, ⟨"java/lang/Math", "min", "(II)I"⟩, 2, (2084, 0, 0), []),
  ("ScrewLeft$Job", 112, 1, ⟨"ScrewLeft$Text", "isGiven", "()Z"⟩, 0, (2091, 0, 0), [(8, 55, 8)]),
  ("ScrewLeft$Job", 116, 1, ⟨"ScrewLeft$Text", "workedOut", "(III)I"⟩, 3, (2095, 0, 0), [(8, 56, 9)]),
  ("ScrewLeft$Job", 120, 7, ⟨"java/lang/Math", "max", "(II)I"⟩, 2, (2105, 0, 0), []),
  ("ScrewLeft$Job", 92, 3, ⟨"ScrewLeft", "within", "(III)Z"⟩, 3, (2112, 0, 0), [(0, 76, 0)]),
  ("ScrewLeft$Job", 140, 0, ⟨"ScrewLeft$Job", "lasts", "(I)I"⟩, 1, (2143, 0, 0), [(7, 36, 5)]),
  ("ScrewLeft$Job", 143, 10, ⟨"ScrewLeft$Step", "back", "(I)I"⟩, 1, (2144, 2147, 2), [(0, 2, 2146), (4, 2, 2148), (1, 2, 2149), (6, 18, 2150), (2, 2, 2153), (3, 18, 2154), (5, 2, 2155)]),
  ("ScrewLeft$Job", 146, 0, ⟨"ScrewLeft$Job", "isDone", "(I)Z"⟩, 1, (2161, 0, 0), [(7, 34, 3)]),
  ("ScrewLeft$Job", 149, 10, ⟨"ScrewLeft$Step", "handsNeeded", "()I"⟩, 0, (2162, 2165, 3), [(0, 3, 2164), (4, 3, 2166), (1, 3, 2167), (6, 28, 2168), (2, 3, 2171), (3, 3, 2172), (5, 3, 2173)]),
  ("ScrewLeft$Job", 152, 10, ⟨"ScrewLeft$Step", "never", "()Z"⟩, 0, (2179, 2182, 4), [(0, 4, 2181), (4, 4, 2183), (1, 4, 2184), (6, 4, 2185), (2, 14, 2186), (3, 4, 2189), (5, 14, 2190)]),
  ("ScrewLeft$Job", 158, 0, ⟨"ScrewLeft$Job", "errsBy", "(III)I"⟩, 3, (3130, 0, 0), [(7, 43, 20)]),
  ("ScrewLeft$Job", 161, 3, ⟨"ScrewLeft", "with", "(IIZ)I"⟩, 3, (3131, 0, 0), [(0, 82, 0)]),
  ("ScrewLeft$Job", 165, 0, ⟨"ScrewLeft$Job", "pass", "(I)V"⟩, 1, (3132, 0, 0), [(7, 45, 22)]),
  ("ScrewLeft$Job", 169, 0, ⟨"ScrewLeft$Job", "takesBack", "(I)I"⟩, 1, (3144, 0, 0), [(7, 40, 11)]),
  ("ScrewLeft$Job", 57, 6, ⟨"java/lang/System", "arraycopy", "(Ljava/lang/Object;ILjava/lang/Object;II)V"⟩, 5, (3166, 0, 0), []),
  ("ScrewLeft$Job", 78, 1, ⟨"ScrewLeft$Text", "hold", "([II)V"⟩, 2, (3167, 0, 0), [(8, 59, 19)]),
  ("ScrewLeft$Job", 155, 0, ⟨"ScrewLeft$Job", "mayBeDone", "(I)Z"⟩, 1, (3172, 0, 0), [(7, 41, 12)]),
  ("ScrewLeft$Job", 100, 2, ⟨"java/lang/Integer", "bitCount", "(I)I"⟩, 1, (3177, 0, 0), [(0, 226, 0)]),
  ("ScrewLeft$Text", 3, 9, ⟨"java/lang/Object", "<init>", "()V"⟩, 0, (1096, 0, 0), []),
  ("ScrewLeft$Text", 28, 2, ⟨"ScrewLeft$Text", "valueOf", "(IIII)I"⟩, 4, (2099, 0, 0), [(0, 57, 0)]),
  ("ScrewLeft$Text", 32, 2, ⟨"ScrewLeft$Text", "joined", "(III)I"⟩, 3, (2102, 0, 0), [(0, 58, 0)]),
  ("ScrewLeft$Text", 18, 6, ⟨"java/lang/System", "arraycopy", "(Ljava/lang/Object;ILjava/lang/Object;II)V"⟩, 5, (3110, 0, 0), []),
  ("ScrewLeft$Reader", 3, 9, ⟨"java/lang/Object", "<init>", "()V"⟩, 0, (1187, 0, 0), []),
  ("ScrewLeft$Reader", 24, 8, ⟨"java/lang/Math", "min", "(II)I"⟩, 2, (2235, 0, 0), []),
  ("ScrewLeft$Reader", 44, 2, ⟨"ScrewLeft$Reader", "readRank", "(LScrewLeft$Reader;II)V"⟩, 3, (2236, 0, 0), [(0, 62, 0)]),
  ("ScrewLeft$Reader", 48, 2, ⟨"ScrewLeft$Reader", "readPart", "(LScrewLeft$Reader;I)V"⟩, 2, (2239, 0, 0), [(0, 63, 0)]),
  ("ScrewLeft$Reader", 52, 0, ⟨"ScrewLeft$Reader", "ahead", "()I"⟩, 0, (3002, 0, 0), [(9, 64, 15)]),
  ("ScrewLeft$Reader", 56, 2, ⟨"ScrewLeft$Reader", "joins", "(II)Z"⟩, 2, (3103, 0, 0), [(0, 69, 0)]),
  ("ScrewLeft$Reader", 60, 0, ⟨"ScrewLeft$Reader", "write", "(I)V"⟩, 1, (3095, 0, 0), [(9, 67, 17)]),
  ("ScrewLeft$Reader", 64, 12, ⟨"java/lang/String", "indexOf", "(I)I"⟩, 1, (3006, 0, 0), [(0, 227, 3008)]),
  ("ScrewLeft$Reader", 70, 2, ⟨"ScrewLeft$Reader", "isDigit", "(I)Z"⟩, 1, (3088, 0, 0), [(0, 65, 0)]),
  ("ScrewLeft$Reader", 74, 0, ⟨"ScrewLeft$Reader", "readNumber", "()V"⟩, 0, (3091, 0, 0), [(9, 66, 16)]),
  ("ScrewLeft$Reader", 77, 0, ⟨"ScrewLeft$Reader", "close", "()V"⟩, 0, (3099, 0, 0), [(9, 68, 18)]),
  ("ScrewLeft$Voice", 1, 9, ⟨"java/lang/Object", "<init>", "()V"⟩, 0, (1219, 0, 0), []),
  ("ScrewLeft", 1, 9, ⟨"java/lang/Object", "<init>", "()V"⟩, 0, (1027, 0, 0), []),
  ("ScrewLeft", 7, 2, ⟨"ScrewLeft", "allKinds", "()[LScrewLeft$Step;"⟩, 0, (1030, 0, 0), [(0, 74, 0)]),
  ("ScrewLeft", 19, 5, ⟨"ScrewLeft$Job", "<init>", "([LScrewLeft$Step;)V"⟩, 1, (1087, 0, 0), [(7, 31, 0)]),
  ("ScrewLeft", 34, 5, ⟨"ScrewLeft$Reader", "<init>", "()V"⟩, 0, (1184, 0, 0), [(9, 60, 0)]),
  ("ScrewLeft", 41, 5, ⟨"ScrewLeft$Voice", "<init>", "()V"⟩, 0, (1216, 0, 0), [(10, 70, 0)]),
  ("ScrewLeft", 316, 5, ⟨"ScrewLeft$Step", "<init>", "()V"⟩, 0, (1038, 0, 0), [(0, 0, 0), (1, 0, 0), (2, 0, 0), (3, 0, 0), (4, 0, 0), (5, 0, 0), (6, 0, 0)]),
  ("ScrewLeft", 319, 5, ⟨"ScrewLeft$Board", "<init>", "()V"⟩, 0, (1045, 0, 0), [(1, 9, 0), (4, 9, 0)]),
  ("ScrewLeft", 322, 5, ⟨"ScrewLeft$Glued", "<init>", "()V"⟩, 0, (1052, 0, 0), [(2, 12, 0), (5, 12, 0)]),
  ("ScrewLeft", 325, 5, ⟨"ScrewLeft$Held", "<init>", "()V"⟩, 0, (1059, 0, 0), [(3, 16, 0), (6, 16, 0)]),
  ("ScrewLeft", 328, 5, ⟨"ScrewLeft$Alike", "<init>", "()V"⟩, 0, (1066, 0, 0), [(4, 20, 0)]),
  ("ScrewLeft", 331, 5, ⟨"ScrewLeft$Sealed", "<init>", "()V"⟩, 0, (1073, 0, 0), [(5, 23, 0)]),
  ("ScrewLeft", 334, 5, ⟨"ScrewLeft$Carried", "<init>", "()V"⟩, 0, (1080, 0, 0), [(6, 26, 0)]),
  ("ScrewLeft", 67, 2, ⟨"ScrewLeft", "within", "(III)Z"⟩, 3, (2044, 0, 0), [(0, 76, 0)]),
  ("ScrewLeft", 75, 0, ⟨"ScrewLeft", "error", "(I)I"⟩, 1, (2047, 0, 0), [(11, 77, 0)]),
  ("ScrewLeft", 79, 1, ⟨"ScrewLeft$Job", "add", "(III)I"⟩, 3, (2052, 0, 0), [(7, 32, 1)]),
  ("ScrewLeft", 83, 1, ⟨"ScrewLeft$Job", "has", "(I)Z"⟩, 1, (2060, 0, 0), [(7, 33, 2)]),
  ("ScrewLeft", 99, 1, ⟨"ScrewLeft$Job", "isDone", "(I)Z"⟩, 1, (2064, 0, 0), [(7, 34, 3)]),
  ("ScrewLeft", 102, 1, ⟨"ScrewLeft$Job", "isWrong", "(I)Z"⟩, 1, (2071, 0, 0), [(7, 35, 4)]),
  ("ScrewLeft", 105, 1, ⟨"ScrewLeft$Job", "lasts", "(I)I"⟩, 1, (2075, 0, 0), [(7, 36, 5)]),
  ("ScrewLeft", 108, 1, ⟨"ScrewLeft$Job", "takesBack", "(I)I"⟩, 1, (2139, 0, 0), [(7, 40, 11)]),
  ("ScrewLeft", 111, 1, ⟨"ScrewLeft$Job", "mayBeDone", "(I)Z"⟩, 1, (2157, 0, 0), [(7, 41, 12)]),
  ("ScrewLeft", 114, 1, ⟨"ScrewLeft$Job", "mayBeUndone", "(I)Z"⟩, 1, (2175, 0, 0), [(7, 42, 13)]),
  ("ScrewLeft", 117, 2, ⟨"ScrewLeft", "mostToChange", "(II)I"⟩, 2, (2196, 0, 0), [(0, 81, 0)]),
  ("ScrewLeft", 124, 2, ⟨"ScrewLeft", "with", "(IIZ)I"⟩, 3, (2199, 0, 0), [(0, 82, 0)]),
  ("ScrewLeft", 141, 2, ⟨"ScrewLeft", "isOf", "(II)Z"⟩, 2, (2215, 0, 0), [(0, 86, 0)]),
  ("ScrewLeft", 151, 2, ⟨"ScrewLeft", "isUse", "(I)Z"⟩, 1, (2226, 0, 0), [(0, 89, 0)]),
  ("ScrewLeft", 158, 1, ⟨"ScrewLeft$Reader", "read", "([IILjava/lang/String;)I"⟩, 3, (2231, 0, 0), [(9, 61, 14)]),
  ("ScrewLeft", 175, 1, ⟨"ScrewLeft$Text", "hold", "([II)V"⟩, 2, (3106, 0, 0), [(8, 59, 19)]),
  ("ScrewLeft", 181, 1, ⟨"ScrewLeft$Job", "lastsBy", "(III)I"⟩, 3, (3117, 0, 0), [(7, 38, 7)]),
  ("ScrewLeft", 184, 1, ⟨"ScrewLeft$Job", "errsBy", "(III)I"⟩, 3, (3118, 0, 0), [(7, 43, 20)]),
  ("ScrewLeft", 187, 1, ⟨"ScrewLeft$Job", "finish", "(I)V"⟩, 1, (3126, 0, 0), [(7, 44, 21)]),
  ("ScrewLeft", 191, 1, ⟨"ScrewLeft$Job", "takeApart", "(I)V"⟩, 1, (3140, 0, 0), [(7, 46, 23)]),
  ("ScrewLeft", 194, 1, ⟨"ScrewLeft$Job", "draw", "()I"⟩, 0, (3149, 0, 0), [(7, 47, 24)]),
  ("ScrewLeft", 198, 1, ⟨"ScrewLeft$Job", "take", "(LScrewLeft$Job;)V"⟩, 1, (3162, 0, 0), [(7, 48, 25)]),
  ("ScrewLeft", 202, 1, ⟨"ScrewLeft$Job", "leastThatMay", "()I"⟩, 0, (3168, 0, 0), [(7, 49, 26)]),
  ("ScrewLeft", 205, 1, ⟨"ScrewLeft$Job", "howManyOpen", "()I"⟩, 0, (3173, 0, 0), [(7, 50, 27)]),
  ("ScrewLeft", 208, 2, ⟨"java/lang/Integer", "bitCount", "(I)I"⟩, 1, (3183, 0, 0), [(0, 226, 0)]),
  ("ScrewLeft", 213, 2, ⟨"ScrewLeft", "seekBest", "(LScrewLeft$Job;[I[III)I"⟩, 5, (3188, 0, 0), [(0, 97, 0)]),
  ("ScrewLeft", 217, 6, ⟨"java/lang/System", "arraycopy", "(Ljava/lang/Object;ILjava/lang/Object;II)V"⟩, 5, (3191, 0, 0), []),
  ("ScrewLeft", 223, 1, ⟨"ScrewLeft$Job", "pass", "(I)V"⟩, 1, (3192, 0, 0), [(7, 45, 22)]),
  ("ScrewLeft", 226, 1, ⟨"ScrewLeft$Job", "unpass", "(III)V"⟩, 3, (3193, 0, 0), [(7, 51, 28)]),
  ("ScrewLeft", 230, 1, ⟨"ScrewLeft$Job", "restingOn", "(I)I"⟩, 1, (3201, 0, 0), [(7, 52, 29)]),
  ("ScrewLeft", 233, 0, ⟨"ScrewLeft", "minutesBackTo", "(I)I"⟩, 1, (3209, 0, 0), [(11, 100, 30)]),
  ("ScrewLeft", 236, 0, ⟨"ScrewLeft", "isBlocked", "(I)Z"⟩, 1, (3214, 0, 0), [(11, 101, 31)]),
  ("ScrewLeft", 239, 2, ⟨"ScrewLeft", "isIn", "(II)Z"⟩, 2, (3213, 0, 0), [(0, 79, 0)]),
  ("ScrewLeft", 242, 1, ⟨"ScrewLeft$Job", "kindOf", "(I)LScrewLeft$Step;"⟩, 1, (3218, 0, 0), [(7, 39, 10)]),
  ("ScrewLeft", 246, 10, ⟨"ScrewLeft$Step", "never", "()Z"⟩, 0, (3219, 2182, 4), [(0, 4, 2181), (4, 4, 2183), (1, 4, 2184), (6, 4, 2185), (2, 14, 2186), (3, 4, 2189), (5, 14, 2190)]),
  ("ScrewLeft", 255, 1, ⟨"ScrewLeft$Job", "screwsOf", "(I)I"⟩, 1, (3228, 0, 0), [(7, 53, 32)]),
  ("ScrewLeft", 258, 2, ⟨"ScrewLeft", "isSheet", "(I)Z"⟩, 1, (4000, 0, 0), [(0, 106, 0)]),
  ("ScrewLeft", 261, 2, ⟨"ScrewLeft", "ordersFrom", "(LScrewLeft$Job;I[III)I"⟩, 5, (4003, 0, 0), [(0, 107, 0)]),
  ("ScrewLeft", 268, 1, ⟨"ScrewLeft$Voice", "start", "(II)V"⟩, 2, (4018, 0, 0), [(10, 71, 33)]),
  ("ScrewLeft", 272, 10, ⟨"ScrewLeft$Step", "fits", "(LScrewLeft$Voice;I)I"⟩, 2, (4022, 4025, 5), [(0, 5, 4024), (4, 11, 4026), (1, 11, 4034), (6, 5, 4035), (2, 5, 4036), (3, 5, 4037), (5, 5, 4038)]),
  ("ScrewLeft", 276, 10, ⟨"ScrewLeft$Step", "errs", "(LScrewLeft$Voice;I)I"⟩, 2, (4041, 4044, 7), [(0, 7, 4043), (4, 7, 4045), (1, 7, 4046), (6, 7, 4047), (2, 15, 4048), (3, 7, 4060), (5, 25, 4061)]),
  ("ScrewLeft", 279, 10, ⟨"ScrewLeft$Step", "looks", "(LScrewLeft$Voice;I)I"⟩, 2, (4068, 6175, 6), [(4, 6, 6176), (1, 6, 6177), (6, 29, 6178), (2, 6, 6180), (3, 19, 6181), (5, 6, 6182), (0, 6, 6183)]),
  ("ScrewLeft", 282, 10, ⟨"ScrewLeft$Step", "undoes", "(LScrewLeft$Voice;I)I"⟩, 2, (4077, 4080, 8), [(0, 8, 4079), (4, 22, 4081), (1, 8, 4092), (6, 30, 4093), (2, 8, 4102), (3, 8, 4103), (5, 8, 4104)]),
  ("ScrewLeft", 291, 2, ⟨"ScrewLeft", "lowestBits", "(II)I"⟩, 2, (4120, 0, 0), [(0, 114, 0)]),
  ("ScrewLeft", 295, 0, ⟨"ScrewLeft", "standThere", "(III)Z"⟩, 3, (4128, 0, 0), [(11, 116, 35)]),
  ("ScrewLeft", 298, 8, ⟨"java/lang/Math", "min", "(II)I"⟩, 2, (4136, 0, 0), []),
  ("ScrewLeft", 312, 1, ⟨"ScrewLeft$Job", "tired", "()I"⟩, 0, (4161, 0, 0), [(7, 37, 6)]),
  ("ScrewLeftModel", 3, 9, ⟨"java/lang/Object", "<init>", "()V"⟩, 0, (4171, 0, 0), []),
  ("ScrewLeftModel", 104, 2, ⟨"ScrewLeftModel", "isKm", "(I)Z"⟩, 1, (5012, 0, 0), [(0, 127, 0)]),
  ("ScrewLeftModel", 60, 2, ⟨"ScrewLeftModel", "in", "(III)Z"⟩, 3, (5015, 0, 0), [(0, 128, 0)]),
  ("ScrewLeftModel", 108, 0, ⟨"ScrewLeftModel", "error", "(I)I"⟩, 1, (5019, 0, 0), [(12, 129, 36)]),
  ("ScrewLeftModel", 97, 0, ⟨"ScrewLeftModel", "lets", "(III)V"⟩, 3, (5025, 0, 0), [(12, 130, 37)]),
  ("ScrewLeftModel", 112, 0, ⟨"ScrewLeftModel", "isStep", "(I)Z"⟩, 1, (5033, 0, 0), [(12, 132, 38)]),
  ("ScrewLeftModel", 68, 0, ⟨"ScrewLeftModel", "of", "(II)I"⟩, 2, (5037, 0, 0), [(12, 133, 39)]),
  ("ScrewLeftModel", 115, 0, ⟨"ScrewLeftModel", "mayBeDone", "(I)Z"⟩, 1, (5041, 0, 0), [(12, 134, 40)]),
  ("ScrewLeftModel", 118, 0, ⟨"ScrewLeftModel", "mayBeUndone", "(I)Z"⟩, 1, (5049, 0, 0), [(12, 136, 42)]),
  ("ScrewLeftModel", 80, 0, ⟨"ScrewLeftModel", "lastsOf", "(I)I"⟩, 1, (5061, 0, 0), [(12, 139, 45)]),
  ("ScrewLeftModel", 101, 0, ⟨"ScrewLeftModel", "backOf", "(I)I"⟩, 1, (5083, 0, 0), [(12, 145, 49)]),
  ("ScrewLeftModel", 84, 0, ⟨"ScrewLeftModel", "done", "()I"⟩, 0, (5045, 0, 0), [(12, 135, 41)]),
  ("ScrewLeftModel", 87, 0, ⟨"ScrewLeftModel", "isNever", "(I)Z"⟩, 1, (5053, 0, 0), [(12, 137, 43)]),
  ("ScrewLeftModel", 91, 0, ⟨"ScrewLeftModel", "needing", "(I)I"⟩, 1, (5057, 0, 0), [(12, 138, 44)]),
  ("ScrewLeftModel", 72, 0, ⟨"ScrewLeftModel", "tired", "()I"⟩, 0, (5065, 0, 0), [(12, 140, 46)]),
  ("ScrewLeftModel", 76, 0, ⟨"ScrewLeftModel", "gives", "(IIII)I"⟩, 4, (5072, 0, 0), [(12, 142, 47)]),
  ("ScrewLeftModel", 64, 2, ⟨"ScrewLeftModel", "held", "(III)I"⟩, 3, (5069, 0, 0), [(0, 141, 0)]),
  ("ScrewLeftModel", 184, 0, ⟨"ScrewLeftModel", "works", "(I)I"⟩, 1, (5076, 0, 0), [(12, 143, 48)]),
  ("ScrewLeftModel", 181, 2, ⟨"ScrewLeftModel", "twoOf", "(III)I"⟩, 3, (5080, 0, 0), [(0, 144, 0)]),
  ("ScrewLeftModel", 122, 0, ⟨"ScrewLeftModel", "becomes", "(II)I"⟩, 2, (5092, 0, 0), [(12, 147, 50)]),
  ("ScrewLeftModel", 156, 0, ⟨"ScrewLeftModel", "ored", "()V"⟩, 0, (5119, 0, 0), [(12, 153, 51)]),
  ("ScrewLeftModel", 178, 0, ⟨"ScrewLeftModel", "anded", "()V"⟩, 0, (5123, 0, 0), [(12, 154, 52)]),
  ("ScrewLeftModel", 139, 0, ⟨"ScrewLeftModel", "byteHere", "()I"⟩, 0, (5143, 0, 0), [(12, 159, 57)]),
  ("ScrewLeftModel", 146, 0, ⟨"ScrewLeftModel", "lays", "(II)V"⟩, 2, (5151, 0, 0), [(12, 161, 59)]),
  ("ScrewLeftModel", 175, 0, ⟨"ScrewLeftModel", "compares", "()V"⟩, 0, (5127, 0, 0), [(12, 155, 53)]),
  ("ScrewLeftModel", 172, 0, ⟨"ScrewLeftModel", "sum", "()V"⟩, 0, (5131, 0, 0), [(12, 156, 54)]),
  ("ScrewLeftModel", 169, 0, ⟨"ScrewLeftModel", "times", "()V"⟩, 0, (5135, 0, 0), [(12, 157, 55)]),
  ("ScrewLeftModel", 153, 0, ⟨"ScrewLeftModel", "pieceHere", "()V"⟩, 0, (5139, 0, 0), [(12, 158, 56)]),
  ("ScrewLeftModel", 159, 0, ⟨"ScrewLeftModel", "nameOf", "(I)I"⟩, 1, (5147, 0, 0), [(12, 160, 58)]),
  ("ScrewLeftModel", 162, 0, ⟨"ScrewLeftModel", "opensBy", "(I)V"⟩, 1, (5155, 0, 0), [(12, 162, 60)]),
  ("ScrewLeftModel", 166, 0, ⟨"ScrewLeftModel", "number", "()V"⟩, 0, (5159, 0, 0), [(12, 163, 61)]),
  ("ScrewLeftModel", 187, 0, ⟨"ScrewLeftModel", "isDone", "(I)V"⟩, 1, (5171, 0, 0), [(12, 166, 62)]),
  ("ScrewLeftModel", 94, 0, ⟨"ScrewLeftModel", "errsOf", "(II)I"⟩, 2, (5175, 0, 0), [(12, 167, 63)]),
  ("ScrewLeftModel", 190, 0, ⟨"ScrewLeftModel", "isUndone", "(I)V"⟩, 1, (5183, 0, 0), [(12, 169, 64)]),
  ("ScrewLeftModel", 197, 0, ⟨"ScrewLeftModel", "drawn", "()I"⟩, 0, (5191, 0, 0), [(12, 171, 65)]),
  ("ScrewLeftModel", 194, 0, ⟨"ScrewLeftModel", "draw", "()I"⟩, 0, (5195, 0, 0), [(12, 172, 66)]),
  ("ScrewLeftModel", 200, 0, ⟨"ScrewLeftModel", "mays", "()I"⟩, 0, (5204, 0, 0), [(12, 174, 67)]),
  ("ScrewLeftModel", 203, 0, ⟨"ScrewLeftModel", "thinks", "()V"⟩, 0, (5212, 0, 0), [(12, 176, 68)]),
  ("ScrewLeftModel", 206, 0, ⟨"ScrewLeftModel", "doesNext", "()Z"⟩, 0, (5219, 0, 0), [(12, 178, 69)]),
  ("ScrewLeftModel", 210, 2, ⟨"ScrewLeftModel", "bits", "(I)I"⟩, 1, (5223, 0, 0), [(0, 179, 0)]),
  ("ScrewLeftModel", 213, 0, ⟨"ScrewLeftModel", "wrongs", "()I"⟩, 0, (5226, 0, 0), [(12, 180, 70)]),
  ("ScrewLeftModel", 216, 0, ⟨"ScrewLeftModel", "putsBack", "()V"⟩, 0, (5230, 0, 0), [(12, 181, 71)]),
  ("ScrewLeftModel", 56, 2, ⟨"ScrewLeftModel", "copyAll", "([I[I)V"⟩, 2, (5216, 0, 0), [(0, 177, 0)]),
  ("ScrewLeftModel", 225, 0, ⟨"ScrewLeftModel", "tries", "(II)V"⟩, 2, (5238, 0, 0), [(12, 183, 72)]),
  ("ScrewLeftModel", 222, 0, ⟨"ScrewLeftModel", "laysAside", "(I)V"⟩, 1, (6002, 0, 0), [(12, 184, 73)]),
  ("ScrewLeftModel", 228, 0, ⟨"ScrewLeftModel", "takesBack", "(I)V"⟩, 1, (6006, 0, 0), [(12, 185, 74)]),
  ("ScrewLeftModel", 232, 0, ⟨"ScrewLeftModel", "underOf", "(I)I"⟩, 1, (6015, 0, 0), [(12, 187, 75)]),
  ("ScrewLeftModel", 235, 0, ⟨"ScrewLeftModel", "goingBack", "(I)I"⟩, 1, (6023, 0, 0), [(12, 189, 76)]),
  ("ScrewLeftModel", 238, 0, ⟨"ScrewLeftModel", "isBlocked", "(I)Z"⟩, 1, (6027, 0, 0), [(12, 190, 77)]),
  ("ScrewLeftModel", 241, 0, ⟨"ScrewLeftModel", "screwsOf", "(I)I"⟩, 1, (6039, 0, 0), [(12, 193, 78)]),
  ("ScrewLeftModel", 253, 2, ⟨"ScrewLeftModel", "isSheet", "(I)Z"⟩, 1, (6051, 0, 0), [(0, 196, 0)]),
  ("ScrewLeftModel", 250, 0, ⟨"ScrewLeftModel", "fitsOn", "(II)V"⟩, 2, (6054, 0, 0), [(12, 197, 79)]),
  ("ScrewLeftModel", 265, 0, ⟨"ScrewLeftModel", "fits", "(II)I"⟩, 2, (6070, 0, 0), [(12, 201, 80)]),
  ("ScrewLeftModel", 283, 0, ⟨"ScrewLeftModel", "errs", "(II)I"⟩, 2, (6082, 0, 0), [(12, 204, 83)]),
  ("ScrewLeftModel", 271, 0, ⟨"ScrewLeftModel", "looks", "(II)I"⟩, 2, (6094, 0, 0), [(12, 207, 86)]),
  ("ScrewLeftModel", 289, 0, ⟨"ScrewLeftModel", "undoes", "(II)I"⟩, 2, (6106, 0, 0), [(12, 210, 89)]),
  ("ScrewLeftModel", 259, 0, ⟨"ScrewLeftModel", "begins", "(I)V"⟩, 1, (6074, 0, 0), [(12, 202, 81)]),
  ("ScrewLeftModel", 262, 0, ⟨"ScrewLeftModel", "plainFits", "(II)I"⟩, 2, (6078, 0, 0), [(12, 203, 82)]),
  ("ScrewLeftModel", 274, 0, ⟨"ScrewLeftModel", "gluedErrs", "(II)I"⟩, 2, (6086, 0, 0), [(12, 205, 84)]),
  ("ScrewLeftModel", 268, 0, ⟨"ScrewLeftModel", "plainErrs", "(II)I"⟩, 2, (6090, 0, 0), [(12, 206, 85)]),
  ("ScrewLeftModel", 280, 0, ⟨"ScrewLeftModel", "heldLooks", "(II)I"⟩, 2, (6098, 0, 0), [(12, 208, 87)]),
  ("ScrewLeftModel", 277, 0, ⟨"ScrewLeftModel", "plainLooks", "(II)I"⟩, 2, (6102, 0, 0), [(12, 209, 88)]),
  ("ScrewLeftModel", 286, 0, ⟨"ScrewLeftModel", "plainUndoes", "(II)I"⟩, 2, (6110, 0, 0), [(12, 211, 90)]),
  ("ScrewLeftModel", 292, 0, ⟨"ScrewLeftModel", "notThere", "(I)I"⟩, 1, (6126, 0, 0), [(12, 215, 91)]),
  ("ScrewLeftModel", 295, 0, ⟨"ScrewLeftModel", "notMoved", "(IIIII)I"⟩, 5, (6134, 0, 0), [(12, 217, 92)]),
  ("java/lang/String", 633, 12, ⟨"java/lang/String", "indexOf", "(II)I"⟩, 2, (3010, 0, 0), [(0, 228, 3012)]),
  ("java/lang/String", 492, 12, ⟨"java/lang/String", "isLatin1", "()Z"⟩, 0, (3014, 0, 0), [(0, 229, 3016)]),
  ("java/lang/String", 505, 12, ⟨"java/lang/String", "length", "()I"⟩, 0, (3020, 0, 0), [(0, 230, 3022)]),
  ("java/lang/String", 637, 2, ⟨"java/lang/StringLatin1", "indexOf", "([BIII)I"⟩, 4, (3028, 0, 0), [(0, 232, 0)]),
  ("java/lang/String", 640, 99, ⟨"java/lang/StringUTF16", "indexOf", "([BIII)I"⟩, 4, (3039, 0, 0), []),
  ("java/lang/String", 335, 12, ⟨"java/lang/String", "coder", "()B"⟩, 0, (3024, 0, 0), [(0, 231, 3026)]),
  ("java/lang/StringLatin1", 88, 2, ⟨"java/lang/StringLatin1", "canEncode", "(I)Z"⟩, 1, (3031, 0, 0), [(0, 233, 0)]),
  ("java/lang/StringLatin1", 92, 7, ⟨"java/lang/Math", "max", "(II)I"⟩, 2, (3034, 0, 0), []),
  ("java/lang/StringLatin1", 38, 8, ⟨"java/lang/Math", "min", "(II)I"⟩, 2, (3035, 0, 0), []),
  ("java/lang/StringLatin1", 95, 2, ⟨"java/lang/StringLatin1", "indexOfChar", "([BIII)I"⟩, 4, (3036, 0, 0), [(0, 234, 0)]),
  ("ScrewLeftLaw", 9, 4, ⟨"ScrewLeft", "<init>", "()V"⟩, 0, (1024, 0, 0), [(11, 73, 0)]),
  ("ScrewLeftLaw", 12, 4, ⟨"ScrewLeftModel", "<init>", "()V"⟩, 0, (4168, 0, 0), [(12, 125, 0)]),
  ("ScrewLeftLaw", 13, 0, ⟨"ScrewLeft", "step", "(III)I"⟩, 3, (2040, 0, 0), [(11, 75, 2042)]),
  ("ScrewLeftLaw", 17, 0, ⟨"ScrewLeftModel", "step", "(III)I"⟩, 3, (5008, 0, 0), [(12, 126, 5010)]),
  ("ScrewLeftLaw", 18, 0, ⟨"ScrewLeft", "ofStep", "(II)I"⟩, 2, (2056, 0, 0), [(11, 78, 2058)]),
  ("ScrewLeftLaw", 22, 0, ⟨"ScrewLeftModel", "ofStep", "(II)I"⟩, 2, (5029, 0, 0), [(12, 131, 5031)]),
  ("ScrewLeftLaw", 23, 0, ⟨"ScrewLeft", "change", "(III)I"⟩, 3, (2192, 0, 0), [(11, 80, 2194)]),
  ("ScrewLeftLaw", 26, 0, ⟨"ScrewLeftModel", "change", "(III)I"⟩, 3, (5087, 0, 0), [(12, 146, 5089)]),
  ("ScrewLeftLaw", 27, 0, ⟨"ScrewLeft", "set", "(II)I"⟩, 2, (2202, 0, 0), [(11, 83, 2204)]),
  ("ScrewLeftLaw", 30, 0, ⟨"ScrewLeftModel", "set", "(II)I"⟩, 2, (5096, 0, 0), [(12, 148, 5098)]),
  ("ScrewLeftLaw", 31, 0, ⟨"ScrewLeft", "become", "(II)I"⟩, 2, (2207, 0, 0), [(11, 84, 2209)]),
  ("ScrewLeftLaw", 34, 0, ⟨"ScrewLeftModel", "become", "(II)I"⟩, 2, (5101, 0, 0), [(12, 149, 5103)]),
  ("ScrewLeftLaw", 35, 0, ⟨"ScrewLeft", "as", "(II)I"⟩, 2, (2211, 0, 0), [(11, 85, 2213)]),
  ("ScrewLeftLaw", 38, 0, ⟨"ScrewLeftModel", "as", "(II)I"⟩, 2, (5105, 0, 0), [(12, 150, 5107)]),
  ("ScrewLeftLaw", 41, 0, ⟨"ScrewLeft", "feed", "(JI)I"⟩, 2, (2218, 0, 0), [(11, 87, 2220)]),
  ("ScrewLeftLaw", 45, 0, ⟨"ScrewLeftModel", "feed", "(JI)I"⟩, 2, (5110, 0, 0), [(12, 151, 5112)]),
  ("ScrewLeftLaw", 46, 0, ⟨"ScrewLeft", "text", "(I)I"⟩, 1, (2222, 0, 0), [(11, 88, 2224)]),
  ("ScrewLeftLaw", 50, 0, ⟨"ScrewLeftModel", "text", "(I)I"⟩, 1, (5115, 0, 0), [(12, 152, 5117)]),
  ("ScrewLeftLaw", 51, 0, ⟨"ScrewLeft", "law", "(IIII)I"⟩, 4, (3113, 0, 0), [(11, 90, 3115)]),
  ("ScrewLeftLaw", 55, 0, ⟨"ScrewLeftModel", "law", "(IIII)I"⟩, 4, (5163, 0, 0), [(12, 164, 5165)]),
  ("ScrewLeftLaw", 56, 0, ⟨"ScrewLeft", "does", "(I)I"⟩, 1, (3122, 0, 0), [(11, 91, 3124)]),
  ("ScrewLeftLaw", 59, 0, ⟨"ScrewLeftModel", "does", "(I)I"⟩, 1, (5167, 0, 0), [(12, 165, 5169)]),
  ("ScrewLeftLaw", 60, 0, ⟨"ScrewLeft", "undo", "(I)I"⟩, 1, (3136, 0, 0), [(11, 92, 3138)]),
  ("ScrewLeftLaw", 63, 0, ⟨"ScrewLeftModel", "undo", "(I)I"⟩, 1, (5179, 0, 0), [(12, 168, 5181)]),
  ("ScrewLeftLaw", 64, 0, ⟨"ScrewLeft", "loose", "(I)I"⟩, 1, (3145, 0, 0), [(11, 93, 3147)]),
  ("ScrewLeftLaw", 67, 0, ⟨"ScrewLeftModel", "loose", "(I)I"⟩, 1, (5187, 0, 0), [(12, 170, 5189)]),
  ("ScrewLeftLaw", 68, 0, ⟨"ScrewLeft", "next", "(I)I"⟩, 1, (3154, 0, 0), [(11, 94, 3156)]),
  ("ScrewLeftLaw", 71, 0, ⟨"ScrewLeftModel", "next", "(I)I"⟩, 1, (5200, 0, 0), [(12, 173, 5202)]),
  ("ScrewLeftLaw", 72, 0, ⟨"ScrewLeft", "all", "(I)I"⟩, 1, (3158, 0, 0), [(11, 95, 3160)]),
  ("ScrewLeftLaw", 75, 0, ⟨"ScrewLeftModel", "all", "(I)I"⟩, 1, (5208, 0, 0), [(12, 175, 5210)]),
  ("ScrewLeftLaw", 76, 0, ⟨"ScrewLeft", "order", "(I)I"⟩, 1, (3184, 0, 0), [(11, 96, 3186)]),
  ("ScrewLeftLaw", 79, 0, ⟨"ScrewLeftModel", "order", "(I)I"⟩, 1, (5234, 0, 0), [(12, 182, 5236)]),
  ("ScrewLeftLaw", 80, 0, ⟨"ScrewLeft", "under", "(I)I"⟩, 1, (3197, 0, 0), [(11, 98, 3199)]),
  ("ScrewLeftLaw", 83, 0, ⟨"ScrewLeftModel", "under", "(I)I"⟩, 1, (6011, 0, 0), [(12, 186, 6013)]),
  ("ScrewLeftLaw", 84, 0, ⟨"ScrewLeft", "goBack", "(II)I"⟩, 2, (3205, 0, 0), [(11, 99, 3207)]),
  ("ScrewLeftLaw", 87, 0, ⟨"ScrewLeftModel", "goBack", "(II)I"⟩, 2, (6019, 0, 0), [(12, 188, 6021)]),
  ("ScrewLeftLaw", 88, 0, ⟨"ScrewLeft", "left", "()I"⟩, 0, (3220, 0, 0), [(11, 102, 3222)]),
  ("ScrewLeftLaw", 92, 0, ⟨"ScrewLeftModel", "left", "()I"⟩, 0, (6031, 0, 0), [(12, 191, 6033)]),
  ("ScrewLeftLaw", 93, 0, ⟨"ScrewLeft", "whose", "(II)I"⟩, 2, (3224, 0, 0), [(11, 103, 3226)]),
  ("ScrewLeftLaw", 96, 0, ⟨"ScrewLeftModel", "whose", "(II)I"⟩, 2, (6035, 0, 0), [(12, 192, 6037)]),
  ("ScrewLeftLaw", 97, 0, ⟨"ScrewLeft", "lookAt", "()I"⟩, 0, (3232, 0, 0), [(11, 104, 3234)]),
  ("ScrewLeftLaw", 100, 0, ⟨"ScrewLeftModel", "lookAt", "()I"⟩, 0, (6043, 0, 0), [(12, 194, 6045)]),
  ("ScrewLeftLaw", 101, 0, ⟨"ScrewLeft", "orders", "(II)I"⟩, 2, (3236, 0, 0), [(11, 105, 3238)]),
  ("ScrewLeftLaw", 104, 0, ⟨"ScrewLeftModel", "orders", "(II)I"⟩, 2, (6047, 0, 0), [(12, 195, 6049)]),
  ("ScrewLeftLaw", 105, 0, ⟨"ScrewLeft", "odds", "(II)I"⟩, 2, (4006, 0, 0), [(11, 108, 4008)]),
  ("ScrewLeftLaw", 108, 0, ⟨"ScrewLeftModel", "odds", "(II)I"⟩, 2, (6058, 0, 0), [(12, 198, 6060)]),
  ("ScrewLeftLaw", 109, 0, ⟨"ScrewLeft", "seed", "(I)I"⟩, 1, (4010, 0, 0), [(11, 109, 4012)]),
  ("ScrewLeftLaw", 112, 0, ⟨"ScrewLeftModel", "seed", "(I)I"⟩, 1, (6062, 0, 0), [(12, 199, 6064)]),
  ("ScrewLeftLaw", 113, 0, ⟨"ScrewLeft", "voice", "(III)I"⟩, 3, (4014, 0, 0), [(11, 110, 4016)]),
  ("ScrewLeftLaw", 116, 0, ⟨"ScrewLeftModel", "voice", "(III)I"⟩, 3, (6066, 0, 0), [(12, 200, 6068)]),
  ("ScrewLeftLaw", 117, 0, ⟨"ScrewLeft", "trace", "(I)I"⟩, 1, (4108, 0, 0), [(11, 111, 4110)]),
  ("ScrewLeftLaw", 120, 0, ⟨"ScrewLeftModel", "trace", "(I)I"⟩, 1, (6114, 0, 0), [(12, 212, 6116)]),
  ("ScrewLeftLaw", 121, 0, ⟨"ScrewLeft", "sheet", "(III)I"⟩, 3, (4112, 0, 0), [(11, 112, 4114)]),
  ("ScrewLeftLaw", 124, 0, ⟨"ScrewLeftModel", "sheet", "(III)I"⟩, 3, (6118, 0, 0), [(12, 213, 6120)]),
  ("ScrewLeftLaw", 125, 0, ⟨"ScrewLeft", "put", "(III)I"⟩, 3, (4116, 0, 0), [(11, 113, 4118)]),
  ("ScrewLeftLaw", 128, 0, ⟨"ScrewLeftModel", "put", "(III)I"⟩, 3, (6122, 0, 0), [(12, 214, 6124)]),
  ("ScrewLeftLaw", 129, 0, ⟨"ScrewLeft", "move", "(IIIII)I"⟩, 5, (4124, 0, 0), [(11, 115, 4126)]),
  ("ScrewLeftLaw", 133, 0, ⟨"ScrewLeftModel", "move", "(IIIII)I"⟩, 5, (6130, 0, 0), [(12, 216, 6132)]),
  ("ScrewLeftLaw", 134, 0, ⟨"ScrewLeft", "screws", "(I)I"⟩, 1, (4132, 0, 0), [(11, 117, 4134)]),
  ("ScrewLeftLaw", 137, 0, ⟨"ScrewLeftModel", "screws", "(I)I"⟩, 1, (6138, 0, 0), [(12, 218, 6140)]),
  ("ScrewLeftLaw", 138, 0, ⟨"ScrewLeft", "judge", "(I)I"⟩, 1, (4137, 0, 0), [(11, 118, 4139)]),
  ("ScrewLeftLaw", 141, 0, ⟨"ScrewLeftModel", "judge", "(I)I"⟩, 1, (6142, 0, 0), [(12, 219, 6144)]),
  ("ScrewLeftLaw", 142, 0, ⟨"ScrewLeft", "image", "()I"⟩, 0, (4141, 0, 0), [(11, 119, 4143)]),
  ("ScrewLeftLaw", 145, 0, ⟨"ScrewLeftModel", "image", "()I"⟩, 0, (6146, 0, 0), [(12, 220, 6148)]),
  ("ScrewLeftLaw", 146, 0, ⟨"ScrewLeft", "restore", "()I"⟩, 0, (4145, 0, 0), [(11, 120, 4147)]),
  ("ScrewLeftLaw", 149, 0, ⟨"ScrewLeftModel", "restore", "()I"⟩, 0, (6150, 0, 0), [(12, 221, 6152)]),
  ("ScrewLeftLaw", 150, 0, ⟨"ScrewLeft", "tell", "(I)I"⟩, 1, (4149, 0, 0), [(11, 121, 4151)]),
  ("ScrewLeftLaw", 153, 0, ⟨"ScrewLeftModel", "tell", "(I)I"⟩, 1, (6154, 0, 0), [(12, 222, 6156)]),
  ("ScrewLeftLaw", 154, 0, ⟨"ScrewLeft", "check", "()I"⟩, 0, (4153, 0, 0), [(11, 122, 4155)]),
  ("ScrewLeftLaw", 157, 0, ⟨"ScrewLeftModel", "check", "()I"⟩, 0, (6158, 0, 0), [(12, 223, 6160)]),
  ("ScrewLeftLaw", 158, 0, ⟨"ScrewLeft", "count", "(I)I"⟩, 1, (4157, 0, 0), [(11, 123, 4159)]),
  ("ScrewLeftLaw", 161, 0, ⟨"ScrewLeftModel", "count", "(I)I"⟩, 1, (6162, 0, 0), [(12, 224, 6164)]),
  ("ScrewLeftLaw", 162, 0, ⟨"ScrewLeft", "told", "(I)I"⟩, 1, (4162, 0, 0), [(11, 124, 4164)]),
  ("ScrewLeftLaw", 165, 0, ⟨"ScrewLeftModel", "told", "(I)I"⟩, 1, (6166, 0, 0), [(12, 225, 6168)])]
def tb_K : List ab_K := [("ScrewLeft$Job", 172, .int (1103515245), 3153),
  ("ScrewLeft$Reader", 15, .ref 1000100, 1188),
  ("ScrewLeft", 315, .int (-1000000000), 2051),
  ("ScrewLeft", 134, .int (99999), 2206),
  ("ScrewLeft", 154, .ref 1000101, 2229),
  ("ScrewLeft", 156, .ref 1000102, 2230),
  ("ScrewLeft", 294, .int (65535), 4123),
  ("ScrewLeftModel", 107, .int (-1000000001), 5018),
  ("ScrewLeftModel", 111, .int (-1000000004), 5024),
  ("ScrewLeftModel", 55, .int (-1000000000), 5023),
  ("ScrewLeftModel", 121, .int (-1000000003), 5091),
  ("ScrewLeftModel", 125, .int (99999), 5100),
  ("ScrewLeftModel", 126, .int (-1000000005), 5109),
  ("ScrewLeftModel", 127, .long (255), 5114),
  ("ScrewLeftModel", 193, .int (1103515245), 5199),
  ("ScrewLeftModel", 231, .int (-1000000002), 6010),
  ("java/lang/Integer", 265, .int (1431655765), 3180),
  ("java/lang/Integer", 266, .int (858993459), 3181),
  ("java/lang/Integer", 267, .int (252645135), 3182),
  ("ScrewLeftLaw", 39, .long (4294967295), 6170)]
def tb_N : List ab_N := [("ScrewLeft$Job", 31, 8, 1091, 1092),
  ("ScrewLeft", 17, 7, 1085, 1086),
  ("ScrewLeft", 32, 9, 1182, 1183),
  ("ScrewLeft", 39, 10, 1214, 1215),
  ("ScrewLeft", 50, 1, 1238, 0),
  ("ScrewLeft", 247, 0, 1035, 0),
  ("ScrewLeft", 317, 1, 1043, 1044),
  ("ScrewLeft", 320, 2, 1050, 1051),
  ("ScrewLeft", 323, 3, 1057, 1058),
  ("ScrewLeft", 326, 4, 1064, 1065),
  ("ScrewLeft", 329, 5, 1071, 1072),
  ("ScrewLeft", 332, 6, 1078, 1079),
  ("ScrewLeftLaw", 7, 11, 1022, 1023),
  ("ScrewLeftLaw", 10, 12, 4166, 4167)]
def tb_M : List ab_M := [tb_m0, tb_m1, tb_m2, tb_m3, tb_m4, tb_m5, tb_m6, tb_m7, tb_m8, tb_m9, tb_m10, tb_m11, tb_m12, tb_m13, tb_m14, tb_m15, tb_m16, tb_m17, tb_m18, tb_m19, tb_m20, tb_m21, tb_m22, tb_m23, tb_m24, tb_m25, tb_m26, tb_m27, tb_m28, tb_m29, tb_m30, tb_m31, tb_m32, tb_m33, tb_m34, tb_m35, tb_m36, tb_m37, tb_m38, tb_m39, tb_m40, tb_m41, tb_m42, tb_m43, tb_m44, tb_m45, tb_m46, tb_m47, tb_m48, tb_m49, tb_m50, tb_m51, tb_m52, tb_m53, tb_m54, tb_m55, tb_m56, tb_m57, tb_m58, tb_m59, tb_m60, tb_m61, tb_m62, tb_m63, tb_m64, tb_m65, tb_m66, tb_m67, tb_m68, tb_m69, tb_m70, tb_m71, tb_m72, tb_m73, tb_m74, tb_m75, tb_m76, tb_m77, tb_m78, tb_m79, tb_m80, tb_m81, tb_m82, tb_m83, tb_m84, tb_m85, tb_m86, tb_m87, tb_m88, tb_m89, tb_m90, tb_m91, tb_m92, tb_m93, tb_m94, tb_m95, tb_m96, tb_m97, tb_m98, tb_m99, tb_m100, tb_m101, tb_m102, tb_m103, tb_m104, tb_m105, tb_m106, tb_m107, tb_m108, tb_m109, tb_m110, tb_m111, tb_m112, tb_m113, tb_m114, tb_m115, tb_m116, tb_m117, tb_m118, tb_m119, tb_m120, tb_m121, tb_m122, tb_m123, tb_m124, tb_m125, tb_m126, tb_m127, tb_m128, tb_m129, tb_m130, tb_m131, tb_m132, tb_m133, tb_m134, tb_m135, tb_m136, tb_m137, tb_m138, tb_m139, tb_m140, tb_m141, tb_m142, tb_m143, tb_m144, tb_m145, tb_m146, tb_m147, tb_m148, tb_m149, tb_m150, tb_m151, tb_m152, tb_m153, tb_m154, tb_m155, tb_m156, tb_m157, tb_m158, tb_m159, tb_m160, tb_m161, tb_m162, tb_m163, tb_m164, tb_m165, tb_m166, tb_m167, tb_m168, tb_m169, tb_m170, tb_m171, tb_m172, tb_m173, tb_m174, tb_m175, tb_m176, tb_m177, tb_m178, tb_m179, tb_m180, tb_m181, tb_m182, tb_m183, tb_m184, tb_m185, tb_m186, tb_m187, tb_m188, tb_m189, tb_m190, tb_m191, tb_m192, tb_m193, tb_m194, tb_m195, tb_m196, tb_m197, tb_m198, tb_m199, tb_m200, tb_m201, tb_m202, tb_m203, tb_m204, tb_m205, tb_m206, tb_m207, tb_m208, tb_m209, tb_m210, tb_m211, tb_m212, tb_m213, tb_m214, tb_m215, tb_m216, tb_m217, tb_m218, tb_m219, tb_m220, tb_m221, tb_m222, tb_m223, tb_m224, tb_m225, tb_m226, tb_m227, tb_m228, tb_m229, tb_m230, tb_m231, tb_m232, tb_m233, tb_m234]
def tb : ab_TB := (tb_F, tb_G, tb_K, tb_N, tb_M, tb_cl, tb_df)
def lw_tw : List (List Cond) := [k2_sels lw_privs, tables_1_1, tables_1_2, tables_1_3, tables_1_4, tables_1_5, tables_1_6]
theorem lw_tw_eq : lw_tw.flatten = lw_tbl := by simp [lw_tw, lw_tbl, tables_1]
end
section
/-! THE ABSTRACT MACHINE: fewer rows outside, more fuel, more depth; runs, step by step -/
section EV
variable {tb : ab_TB} {M : ab_M} {L L' : ab_Lo} {st st' rest : List Value} {w w' : ab_W} {cn sn : Nat} {cf cf' : ab_Cf} {sp sp0 : List (List Int32)}
theorem ev_inv_mono (hm : ∀ j As w r, cf j As w = some r → cf' j As w = some r) {j : Nat} {As : List Value} {q : List Value × ab_W × Nat × Nat} (h : ab_inv tb cf M j As L rest w cn sn = some q) : ab_inv tb cf' M j As L rest w cn sn = some q := by
  unfold ab_inv at h ⊢
  split at h
  · cases h
  · rename_i Mj hj
    try rw [hj]
    try dsimp only
    cases hb : (ab_room rest && Nat.ble (cn + Mj.2.2.2.2.1) M.2.2.2.2.1 && Nat.ble (sn + Mj.2.2.2.2.2.1) M.2.2.2.2.2.1 && (Nat.beq Mj.2.2.2.2.1 0 || (ab_okL w.length L && rest.all (ab_okv w.length)))) with
    | false => rw [hb] at h; cases h
    | true =>
      rw [hb] at h
      simp only [cond_true] at h ⊢
      split at h
      · rename_i r hr
        rw [hm _ _ _ _ hr]
        exact h
      · cases h
theorem ev_go_mono (hm : ∀ j As w r, cf j As w = some r → cf' j As w = some r) {lk : Nat} {q : List Value × ab_W × Nat × Nat} (h : ab_go tb cf M lk L st w cn sn = some q) : ab_go tb cf' M lk L st w cn sn = some q := by
  have hst : ∀ {g : ab_G}, ab_stat tb cf M g L st w cn sn = some q → ab_stat tb cf' M g L st w cn sn = some q := by
    intro g hi
    unfold ab_stat at hi ⊢
    split at hi
    · rename_i q0 qs hq
      cases hb : Nat.beq (st.take g.2.2.2.2.1).length g.2.2.2.2.1 with
      | false => rw [hb] at hi; cases hi
      | true => rw [hb] at hi; exact ev_inv_mono hm hi
    · cases hi
  have hin : ∀ {g : ab_G}, ab_inst tb cf M g L st w cn sn = some q → ab_inst tb cf' M g L st w cn sn = some q := by
    intro g hi
    unfold ab_inst at hi ⊢
    split at hi
    · rename_i r rest hst
      try rw [hst]
      try dsimp only
      split at hi
      · rename_i o ho
        try rw [ho]
        try dsimp only
        split at hi
        · rename_i q0 hq0
          try rw [hq0]
          try dsimp only
          cases hb : Nat.beq (st.take g.2.2.2.2.1).length g.2.2.2.2.1 with
          | false => rw [hb] at hi; cases hi
          | true => rw [hb] at hi; exact ev_inv_mono hm hi
        · cases hi
      · cases hi
    · cases hi
  have hsi : ∀ {g : ab_G}, ab_sinst tb cf M g L st w cn sn = some q → ab_sinst tb cf' M g L st w cn sn = some q := by
    intro g hi
    unfold ab_sinst at hi ⊢
    split at hi
    · rename_i r rest hst
      try rw [hst]
      try dsimp only
      split at hi
      · rename_i q0 l0 hq0
        try rw [hq0]
        try dsimp only
        cases hb : (ab_isS r && Nat.beq (st.take g.2.2.2.2.1).length g.2.2.2.2.1) with
        | false => rw [hb] at hi; cases hi
        | true => rw [hb] at hi; exact ev_inv_mono hm hi
      · cases hi
    · cases hi
  unfold ab_go at h ⊢
  split at h
  · cases h
  · rename_i g hg
    try rw [hg]
    try dsimp only
    split at h <;> first | exact hst h | exact hsi h | exact hin h | exact h
theorem ev_call1_mono (hm : ∀ j As w r, cf j As w = some r → cf' j As w = some r) {ins : Instr} {lk : Nat} {q : List Value × ab_W × Nat × Nat} (h : ab_call1 tb cf M ins lk L st w cn sn = some q) : ab_call1 tb cf' M ins lk L st w cn sn = some q := by
  cases ins <;> first | exact ev_go_mono hm h | cases h
/-- an instruction is of one sort -/
theorem ev_sorts {ins : Instr} : ((∀ L st w cn sn lk, ab_call1 tb cf M ins lk L st w cn sn = none) ∧ (∀ L st w cn sn lk, ab_call1 tb cf' M ins lk L st w cn sn = none)) ∨ ((∀ r st, ab_ret r ins st = none) ∧ ∀ lk L st w cn sn, ab_new tb M ins lk L st w cn sn = none) := by
  cases ins <;> first | (exact Or.inl ⟨fun _ _ _ _ _ _ => rfl, fun _ _ _ _ _ _ => rfl⟩) | (exact Or.inr ⟨fun _ _ => rfl, fun _ _ _ _ _ _ => rfl⟩)
theorem ev_exec_mono (hm : ∀ j As w r, cf j As w = some r → cf' j As w = some r) {ins : Instr} {lk pc : Nat} {x : ab_St ⊕ ab_R} (h : ab_exec tb cf sp M ins lk pc L st w cn sn = some x) : ab_exec tb cf' sp M ins lk pc L st w cn sn = some x := by
  unfold ab_exec at h ⊢
  cases h1 : ab_pure ins st with
  | some _ => rw [h1] at h; exact h
  | none =>
    rw [h1] at h
    dsimp only at h ⊢
    cases h2 : ab_loc M.2.2.1 ins L st with
    | some _ => rw [h2] at h; exact h
    | none =>
      rw [h2] at h
      dsimp only at h ⊢
      cases h3 : ab_br ins pc lk st with
      | some _ => rw [h3] at h; exact h
      | none =>
        rw [h3] at h
        dsimp only at h ⊢
        cases h4 : ab_heap tb sp ins lk st w with
        | some _ => rw [h4] at h; exact h
        | none =>
          rw [h4] at h
          dsimp only at h ⊢
          cases h5 : ab_call1 tb cf M ins lk L st w cn sn with
          | some q =>
            rw [h5] at h
            rw [ev_call1_mono hm h5]
            exact h
          | none =>
            rw [h5] at h
            rcases ev_sorts (tb := tb) (M := M) (cf := cf) (cf' := cf') (ins := ins) with ⟨-, k2⟩ | ⟨k1, k2⟩
            · rw [k2]; exact h
            · rw [k1, k2] at h; cases h
theorem ev_run_mono (hm : ∀ j As w r, cf j As w = some r → cf' j As w = some r) {r : ab_R} : ∀ (n n' : Nat) (σ : ab_St), n ≤ n' → ab_run tb cf sp M n σ = some r → ab_run tb cf' sp M n' σ = some r
  | 0, _, _, _, h => by cases h
  | n + 1, 0, _, hn, _ => by omega
  | n + 1, n' + 1, σ, hn, h => by
    unfold ab_run at h ⊢
    cases hs : ab_step tb cf sp M σ with
    | none => rw [hs] at h; cases h
    | some x =>
      rw [hs] at h
      have hs' : ab_step tb cf' sp M σ = some x := by
        unfold ab_step at hs ⊢
        split at hs
        · cases hs
        · rename_i y hy
          try rw [hy]
          exact ev_exec_mono hm hs
      rw [hs']
      cases x with
      | inl σ' => exact ev_run_mono hm n n' σ' (by omega) h
      | inr r0 => exact h
theorem ev_call_mono {n n' : Nat} (hn : n ≤ n') : ∀ (d d' : Nat), d ≤ d' → ∀ j As w r, ab_call tb sp n d j As w = some r → ab_call tb sp n' d' j As w = some r
  | 0, _, _, _, _, _, _, h => by cases h
  | d + 1, 0, hd, _, _, _, _, _ => by omega
  | d + 1, d' + 1, hd, j, As, w, r, h => by
    unfold ab_call at h ⊢
    split at h
    · cases h
    · rename_i M hM
      try rw [hM]
      try dsimp only
      cases hb : Nat.ble ((As.map fun v => v.category).sum) M.2.2.1 with
      | false => rw [hb] at h; cases h
      | true =>
        rw [hb] at h
        exact ev_run_mono (fun j As w r => ev_call_mono hn d d' (by omega) j As w r) n n' _ hn h
/-- from some fuel on, a frame comes to its end -/
def ev_Run (tb : ab_TB) (sp0 sp : List (List Int32)) (d : Nat) (M : ab_M) (σ : ab_St) (r : ab_R) : Prop := ∃ N, ab_run tb (ab_call tb sp0 N d) sp M N σ = some r
def ev_Call (tb : ab_TB) (sp0 : List (List Int32)) (d j : Nat) (As : List Value) (w : ab_W) (r : ab_R) : Prop := ∃ N, ab_call tb sp0 N d j As w = some r
theorem ev_more {d N N' : Nat} {σ : ab_St} {r : ab_R} (hn : N ≤ N') (h : ab_run tb (ab_call tb sp0 N d) sp M N σ = some r) : ab_run tb (ab_call tb sp0 N' d) sp M N' σ = some r :=
  ev_run_mono (fun j As w r => ev_call_mono hn d d (Nat.le_refl _) j As w r) N N' σ hn h
theorem ev_step {d : Nat} {σ σ' : ab_St} {r : ab_R} (h : ∀ cf : ab_Cf, ab_step tb cf sp M σ = some (.inl σ')) (k : ev_Run tb sp0 sp d M σ' r) : ev_Run tb sp0 sp d M σ r := by
  obtain ⟨N, hN⟩ := k
  refine ⟨N + 1, ?_⟩
  unfold ab_run
  rw [h]
  exact ev_run_mono (fun j As w r => ev_call_mono (Nat.le_succ N) d d (Nat.le_refl _) j As w r) N N σ' (Nat.le_refl _) hN
variable {d pc lk : Nat} {ins : Instr} {r : ab_R}
theorem ev_pure (hf : ab_fetch M.2.2.2.2.2.2.2 pc = some (ins, lk)) (h : ab_pure ins st = some st') (k : ev_Run tb sp0 sp d M (pc + ab_len ins, L, st', w, cn, sn) r) : ev_Run tb sp0 sp d M (pc, L, st, w, cn, sn) r :=
  ev_step (fun cf => by unfold ab_step; dsimp only; rw [hf]; dsimp only; unfold ab_exec; rw [h]) k
theorem ev_loc (hf : ab_fetch M.2.2.2.2.2.2.2 pc = some (ins, lk)) (h : ab_loc M.2.2.1 ins L st = some (L', st')) (k : ev_Run tb sp0 sp d M (pc + ab_len ins, L', st', w, cn, sn) r) : ev_Run tb sp0 sp d M (pc, L, st, w, cn, sn) r := by
  have h1 : ab_pure ins st = none := by cases ins <;> first | rfl | cases h
  exact ev_step (fun cf => by unfold ab_step; dsimp only; rw [hf]; dsimp only; unfold ab_exec; rw [h1]; dsimp only; rw [h]) k
theorem ev_br {pc' : Nat} (hf : ab_fetch M.2.2.2.2.2.2.2 pc = some (ins, lk)) (h : ab_br ins pc lk st = some (pc', st')) (k : ev_Run tb sp0 sp d M (pc', L, st', w, cn, sn) r) : ev_Run tb sp0 sp d M (pc, L, st, w, cn, sn) r := by
  have h1 : ab_pure ins st = none := by cases ins <;> first | rfl | cases h
  have h2 : ab_loc M.2.2.1 ins L st = none := by cases ins <;> first | rfl | cases h
  exact ev_step (fun cf => by unfold ab_step; dsimp only; rw [hf]; dsimp only; unfold ab_exec; rw [h1]; dsimp only; rw [h2]; dsimp only; rw [h]) k
theorem ev_goto {off : Int} (hf : ab_fetch M.2.2.2.2.2.2.2 pc = some (.goto off, lk)) (k : ev_Run tb sp0 sp d M (lk, L, st, w, cn, sn) r) : ev_Run tb sp0 sp d M (pc, L, st, w, cn, sn) r := ev_br hf rfl k
theorem ev_ifT {c : ClassFile.Cond} {off : Int} {x : Int32} (hf : ab_fetch M.2.2.2.2.2.2.2 pc = some (.ifCond c off, lk)) (h : ab_c1 c x = true) (k : ev_Run tb sp0 sp d M (lk, L, st, w, cn, sn) r) : ev_Run tb sp0 sp d M (pc, L, .int x :: st, w, cn, sn) r := ev_br hf (by show some (cond (ab_c1 c x) lk (pc + 3), st) = _; rw [h]; rfl) k
theorem ev_ifF {c : ClassFile.Cond} {off : Int} {x : Int32} (hf : ab_fetch M.2.2.2.2.2.2.2 pc = some (.ifCond c off, lk)) (h : ab_c1 c x = false) (k : ev_Run tb sp0 sp d M (pc + 3, L, st, w, cn, sn) r) : ev_Run tb sp0 sp d M (pc, L, .int x :: st, w, cn, sn) r := ev_br hf (by show some (cond (ab_c1 c x) lk (pc + 3), st) = _; rw [h]; rfl) k
theorem ev_cmT {c : ClassFile.Cond} {off : Int} {x y : Int32} (hf : ab_fetch M.2.2.2.2.2.2.2 pc = some (.if_icmp c off, lk)) (h : ab_c2 c x y = true) (k : ev_Run tb sp0 sp d M (lk, L, st, w, cn, sn) r) : ev_Run tb sp0 sp d M (pc, L, .int y :: .int x :: st, w, cn, sn) r := ev_br hf (by show some (cond (ab_c2 c x y) lk (pc + 3), st) = _; rw [h]; rfl) k
theorem ev_cmF {c : ClassFile.Cond} {off : Int} {x y : Int32} (hf : ab_fetch M.2.2.2.2.2.2.2 pc = some (.if_icmp c off, lk)) (h : ab_c2 c x y = false) (k : ev_Run tb sp0 sp d M (pc + 3, L, st, w, cn, sn) r) : ev_Run tb sp0 sp d M (pc, L, .int y :: .int x :: st, w, cn, sn) r := ev_br hf (by show some (cond (ab_c2 c x y) lk (pc + 3), st) = _; rw [h]; rfl) k
theorem ev_heap (hf : ab_fetch M.2.2.2.2.2.2.2 pc = some (ins, lk)) (h : ab_heap tb sp ins lk st w = some (st', w')) (k : ev_Run tb sp0 sp d M (pc + ab_len ins, L, st', w', cn, sn) r) : ev_Run tb sp0 sp d M (pc, L, st, w, cn, sn) r := by
  have h1 : ab_pure ins st = none := by cases ins <;> first | rfl | cases h
  have h2 : ab_loc M.2.2.1 ins L st = none := by cases ins <;> first | rfl | cases h
  have h3 : ab_br ins pc lk st = none := by cases ins <;> first | rfl | cases h
  exact ev_step (fun cf => by unfold ab_step; dsimp only; rw [hf]; dsimp only; unfold ab_exec; rw [h1]; dsimp only; rw [h2]; dsimp only; rw [h3]; dsimp only; rw [h]) k
theorem ev_bi {q : List Value × ab_W × Nat × Nat} (hf : ab_fetch M.2.2.2.2.2.2.2 pc = some (ins, lk)) (h : ∀ cf : ab_Cf, ab_call1 tb cf M ins lk L st w cn sn = some q) (k : ev_Run tb sp0 sp d M (pc + 3, L, q.1, q.2.1, q.2.2.1, q.2.2.2) r) : ev_Run tb sp0 sp d M (pc, L, st, w, cn, sn) r := by
  have h0 := h (fun _ _ _ => none)
  have h1 : ab_pure ins st = none := by cases ins <;> first | rfl | cases h0
  have h2 : ab_loc M.2.2.1 ins L st = none := by cases ins <;> first | rfl | cases h0
  have h3 : ab_br ins pc lk st = none := by cases ins <;> first | rfl | cases h0
  have h4 : ab_heap tb sp ins lk st w = none := by cases ins <;> first | rfl | cases h0
  exact ev_step (fun cf => by unfold ab_step; dsimp only; rw [hf]; dsimp only; unfold ab_exec; rw [h1]; dsimp only; rw [h2]; dsimp only; rw [h3]; dsimp only; rw [h4]; dsimp only; rw [h]) k
theorem ev_new {q : List Value × ab_W × Nat × Nat} (hf : ab_fetch M.2.2.2.2.2.2.2 pc = some (ins, lk)) (h : ab_new tb M ins lk L st w cn sn = some q) (k : ev_Run tb sp0 sp d M (pc + ab_len ins, L, q.1, q.2.1, q.2.2.1, q.2.2.2) r) : ev_Run tb sp0 sp d M (pc, L, st, w, cn, sn) r := by
  have h1 : ab_pure ins st = none := by cases ins <;> first | rfl | cases h
  have h2 : ab_loc M.2.2.1 ins L st = none := by cases ins <;> first | rfl | cases h
  have h3 : ab_br ins pc lk st = none := by cases ins <;> first | rfl | cases h
  have h4 : ab_heap tb sp ins lk st w = none := by cases ins <;> first | rfl | cases h
  have h5 : ∀ cf : ab_Cf, ab_call1 tb cf M ins lk L st w cn sn = none := by intro cf; cases ins <;> first | rfl | cases h
  have h6 : ab_ret M.2.2.2.1 ins st = none := by cases ins <;> first | rfl | cases h
  exact ev_step (fun cf => by unfold ab_step; dsimp only; rw [hf]; dsimp only; unfold ab_exec; rw [h1]; dsimp only; rw [h2]; dsimp only; rw [h3]; dsimp only; rw [h4]; dsimp only; rw [h5]; dsimp only; rw [h6]; dsimp only; rw [h]) k
theorem ev_ret {v : Option Value} (hf : ab_fetch M.2.2.2.2.2.2.2 pc = some (ins, lk)) (h : ab_ret M.2.2.2.1 ins st = some v) : ev_Run tb sp0 sp d M (pc, L, st, w, cn, sn) (v, w) := by
  have h1 : ab_pure ins st = none := by cases ins <;> first | rfl | cases h
  have h2 : ab_loc M.2.2.1 ins L st = none := by cases ins <;> first | rfl | cases h
  have h3 : ab_br ins pc lk st = none := by cases ins <;> first | rfl | cases h
  have h4 : ab_heap tb sp ins lk st w = none := by cases ins <;> first | rfl | cases h
  have h5 : ∀ cf : ab_Cf, ab_call1 tb cf M ins lk L st w cn sn = none := by intro cf; cases ins <;> first | rfl | cases h
  refine ⟨1, ?_⟩
  unfold ab_run ab_step
  dsimp only
  rw [hf]
  dsimp only
  unfold ab_exec
  rw [h1]; dsimp only; rw [h2]; dsimp only; rw [h3]; dsimp only; rw [h4]; dsimp only; rw [h5]; dsimp only; rw [h]
/-- a call that an instruction asks for: method, arguments, what stays -/
def ab_req (tb : ab_TB) (M : ab_M) (ins : Instr) (lk : Nat) (L : ab_Lo) (st : List Value) (w : ab_W) (cn sn : Nat) : Option (Nat × List Value × List Value × Nat × Nat) := match ab_call1 tb (fun j As _ => some (some (.ref j), [.inl (0, As)])) M ins lk L st w cn sn with
  | some (.ref j :: rest, [.inl (_, As)], cn', sn') => some (j, As, rest, cn', sn')
  | _ => none
theorem ev_inv_req {j : Nat} {As : List Value} {r1 : ab_R} {Mj : ab_M} (hj : ab_nth tb.2.2.2.2.1 j = some Mj) (h : ab_inv tb (fun j As _ => some (some (.ref j), [.inl (0, As)])) M j As L rest w cn sn ≠ none) (hc : cf j As w = some r1) : ab_inv tb cf M j As L rest w cn sn = some (r1.1.toList ++ rest, r1.2, cn + Mj.2.2.2.2.1, sn + Mj.2.2.2.2.2.1) := by
  unfold ab_inv at h ⊢
  rw [hj] at h ⊢
  dsimp only at h ⊢
  cases hb : (ab_room rest && Nat.ble (cn + Mj.2.2.2.2.1) M.2.2.2.2.1 && Nat.ble (sn + Mj.2.2.2.2.2.1) M.2.2.2.2.2.1 && (Nat.beq Mj.2.2.2.2.1 0 || (ab_okL w.length L && rest.all (ab_okv w.length)))) with
  | false => rw [hb] at h; exact absurd rfl h
  | true => simp only [cond_true]; rw [hc]
/-- a call, its callee known -/
theorem ev_call {j cn' sn' : Nat} {As rest : List Value} {r1 : ab_R} (hf : ab_fetch M.2.2.2.2.2.2.2 pc = some (ins, lk)) (hq : ∀ cf : ab_Cf, ab_call1 tb cf M ins lk L st w cn sn = match cf j As w with
    | some r => some (r.1.toList ++ rest, r.2, cn', sn')
    | none => none) (hc : ev_Call tb sp0 d j As w r1) (k : ev_Run tb sp0 sp d M (pc + 3, L, r1.1.toList ++ rest, r1.2, cn', sn') r) : ev_Run tb sp0 sp d M (pc, L, st, w, cn, sn) r := by
  obtain ⟨N1, h1⟩ := hc
  obtain ⟨N2, h2⟩ := k
  have e : ab_call1 tb (ab_call tb sp0 (N1 + N2 + 1) d) M ins lk L st w cn sn = some (r1.1.toList ++ rest, r1.2, cn', sn') := by
    rw [hq, ev_call_mono (show N1 ≤ N1 + N2 + 1 by omega) d d (Nat.le_refl _) _ _ _ _ h1]
  have p1 : ab_pure ins st = none := by cases ins <;> first | rfl | cases e
  have p2 : ab_loc M.2.2.1 ins L st = none := by cases ins <;> first | rfl | cases e
  have p3 : ab_br ins pc lk st = none := by cases ins <;> first | rfl | cases e
  have p4 : ab_heap tb sp ins lk st w = none := by cases ins <;> first | rfl | cases e
  refine ⟨N1 + N2 + 1, ?_⟩
  unfold ab_run ab_step
  dsimp only
  rw [hf]
  dsimp only
  unfold ab_exec
  rw [p1]; dsimp only; rw [p2]; dsimp only; rw [p3]; dsimp only; rw [p4]; dsimp only; rw [e]; dsimp only
  exact ev_run_mono (fun j As w r => ev_call_mono (by omega) d d (Nat.le_refl _) j As w r) N2 (N1 + N2) _ (by omega) h2
theorem ev_enter {j : Nat} {As : List Value} {Mj : ab_M} (hM : ab_nth tb.2.2.2.2.1 j = some Mj) (hs : Nat.ble ((As.map fun v => v.category).sum) Mj.2.2.1 = true) (k : ev_Run tb sp0 sp0 d Mj (0, lv_args 0 As, [], w, 0, 0) r) : ev_Call tb sp0 (d + 1) j As w r := by
  obtain ⟨N, h⟩ := k
  refine ⟨N, ?_⟩
  unfold ab_call
  rw [hM]
  dsimp only
  rw [hs]
  exact h
theorem ev_closed {n j : Nat} {As : List Value} (h : ab_call tb sp0 n d j As w = some r) {d' : Nat} (hd : d ≤ d') : ev_Call tb sp0 d' j As w r := ⟨n, ev_call_mono (Nat.le_refl _) d d' hd _ _ _ _ h⟩
theorem ev_up {j : Nat} {As : List Value} {d' : Nat} (hd : d ≤ d') (h : ev_Call tb sp0 d j As w r) : ev_Call tb sp0 d' j As w r := by
  obtain ⟨n, h⟩ := h
  exact ev_closed h hd
end EV
end
section
/-! which call an instruction asks for, without its callee -/
section EY
variable {tb : ab_TB} {M : ab_M} {L : ab_Lo} {st rest : List Value} {w : ab_W} {cn sn : Nat} {sp sp0 : List (List Int32)} {d pc lk : Nat} {r : ab_R} {ins : Instr}
abbrev ab_A : Type := Nat × List Value × List Value × Nat × Nat
def ask_inv (tb : ab_TB) (M : ab_M) (j : Nat) (As : List Value) (L : ab_Lo) (rest : List Value) (w : ab_W) (cn sn : Nat) : Option ab_A := match ab_nth tb.2.2.2.2.1 j with
  | none => none
  | some Mj => cond (ab_room rest && Nat.ble (cn + Mj.2.2.2.2.1) M.2.2.2.2.1 && Nat.ble (sn + Mj.2.2.2.2.2.1) M.2.2.2.2.2.1 && (Nat.beq Mj.2.2.2.2.1 0 || (ab_okL w.length L && rest.all (ab_okv w.length)))) (some (j, As, rest, cn + Mj.2.2.2.2.1, sn + Mj.2.2.2.2.2.1)) none
def ask_stat (tb : ab_TB) (M : ab_M) (g : ab_G) (L : ab_Lo) (st : List Value) (w : ab_W) (cn sn : Nat) : Option ab_A := match g.2.2.2.2.2.2 with
  | q :: _ => cond (Nat.beq (st.take g.2.2.2.2.1).length g.2.2.2.2.1) (ask_inv tb M q.2.1 (st.take g.2.2.2.2.1).reverse L (st.drop g.2.2.2.2.1) w cn sn) none
  | [] => none
def ask_inst (tb : ab_TB) (M : ab_M) (g : ab_G) (L : ab_Lo) (st : List Value) (w : ab_W) (cn sn : Nat) : Option ab_A := match st.drop g.2.2.2.2.1 with
  | .ref r :: rest => match ab_cell w r with
    | some (.inl o) => match ab_look g.2.2.2.2.2.2 o.1 with
      | some q => cond (Nat.beq (st.take g.2.2.2.2.1).length g.2.2.2.2.1) (ask_inv tb M q.2.1 (.ref r :: (st.take g.2.2.2.2.1).reverse) L rest w cn sn) none
      | none => none
    | _ => none
  | _ => none
def ask_sinst (tb : ab_TB) (M : ab_M) (g : ab_G) (L : ab_Lo) (st : List Value) (w : ab_W) (cn sn : Nat) : Option ab_A := match st.drop g.2.2.2.2.1 with
  | .ref r :: rest => match g.2.2.2.2.2.2 with
    | q :: _ => cond (ab_isS r && Nat.beq (st.take g.2.2.2.2.1).length g.2.2.2.2.1) (ask_inv tb M q.2.1 (.ref r :: (st.take g.2.2.2.2.1).reverse) L rest w cn sn) none
    | [] => none
  | _ => none
def ask_go (tb : ab_TB) (M : ab_M) (lk : Nat) (L : ab_Lo) (st : List Value) (w : ab_W) (cn sn : Nat) : Option ab_A := match ab_nth tb.2.1 lk with
  | none => none
  | some g => match g.2.2.1 with
    | 2 => ask_stat tb M g L st w cn sn
    | 3 => ask_stat tb M g L st w cn sn
    | 6 => none
    | 7 => none
    | 8 => none
    | 9 => none
    | 12 => ask_sinst tb M g L st w cn sn
    | 99 => none
    | _ => ask_inst tb M g L st w cn sn
def ask (tb : ab_TB) (M : ab_M) (ins : Instr) (lk : Nat) (L : ab_Lo) (st : List Value) (w : ab_W) (cn sn : Nat) : Option ab_A := match ins with
  | .invokevirtual _ => ask_go tb M lk L st w cn sn
  | .invokespecial _ => ask_go tb M lk L st w cn sn
  | .invokestatic _ => ask_go tb M lk L st w cn sn
  | _ => none
theorem ask_inv_of {j : Nat} {As : List Value} {x : ab_A} (h : ask_inv tb M j As L rest w cn sn = some x) (cf : ab_Cf) : ab_inv tb cf M j As L rest w cn sn = match cf x.1 x.2.1 w with
    | some r => some (r.1.toList ++ x.2.2.1, r.2, x.2.2.2.1, x.2.2.2.2)
    | none => none := by
  unfold ask_inv at h
  unfold ab_inv
  cases hj : ab_nth tb.2.2.2.2.1 j with
  | none => rw [hj] at h; cases h
  | some Mj =>
    rw [hj] at h
    dsimp only at h ⊢
    cases hb : (ab_room rest && Nat.ble (cn + Mj.2.2.2.2.1) M.2.2.2.2.1 && Nat.ble (sn + Mj.2.2.2.2.2.1) M.2.2.2.2.2.1 && (Nat.beq Mj.2.2.2.2.1 0 || (ab_okL w.length L && rest.all (ab_okv w.length)))) with
    | false => rw [hb] at h; cases h
    | true => rw [hb] at h; cases h; rfl
theorem ask_stat_of {g : ab_G} {x : ab_A} (h : ask_stat tb M g L st w cn sn = some x) (cf : ab_Cf) : ab_stat tb cf M g L st w cn sn = match cf x.1 x.2.1 w with
    | some r => some (r.1.toList ++ x.2.2.1, r.2, x.2.2.2.1, x.2.2.2.2)
    | none => none := by
  unfold ask_stat at h
  unfold ab_stat
  cases hg : g.2.2.2.2.2.2 with
  | nil => rw [hg] at h; cases h
  | cons q l =>
    rw [hg] at h
    dsimp only at h ⊢
    cases hb : Nat.beq (st.take g.2.2.2.2.1).length g.2.2.2.2.1 with
    | false => rw [hb] at h; cases h
    | true => rw [hb] at h; exact ask_inv_of h cf
theorem ask_inst_of {g : ab_G} {x : ab_A} (h : ask_inst tb M g L st w cn sn = some x) (cf : ab_Cf) : ab_inst tb cf M g L st w cn sn = match cf x.1 x.2.1 w with
    | some r => some (r.1.toList ++ x.2.2.1, r.2, x.2.2.2.1, x.2.2.2.2)
    | none => none := by
  unfold ask_inst at h
  unfold ab_inst
  generalize st.drop g.2.2.2.2.1 = z at h ⊢
  match z, h with
  | .ref r :: rest, h =>
    dsimp only at h ⊢
    cases hc : ab_cell w r with
    | none => rw [hc] at h; cases h
    | some c =>
      rw [hc] at h
      match c, h with
      | .inl o, h =>
        dsimp only at h ⊢
        cases hl : ab_look g.2.2.2.2.2.2 o.1 with
        | none => rw [hl] at h; cases h
        | some q =>
          rw [hl] at h
          dsimp only at h ⊢
          cases hb : Nat.beq (st.take g.2.2.2.2.1).length g.2.2.2.2.1 with
          | false => rw [hb] at h; cases h
          | true => rw [hb] at h; exact ask_inv_of h cf
theorem ask_sinst_of {g : ab_G} {x : ab_A} (h : ask_sinst tb M g L st w cn sn = some x) (cf : ab_Cf) : ab_sinst tb cf M g L st w cn sn = match cf x.1 x.2.1 w with
    | some r => some (r.1.toList ++ x.2.2.1, r.2, x.2.2.2.1, x.2.2.2.2)
    | none => none := by
  unfold ask_sinst at h
  unfold ab_sinst
  generalize st.drop g.2.2.2.2.1 = z at h ⊢
  match z, h with
  | .ref r :: rest, h =>
    dsimp only at h ⊢
    cases hl : g.2.2.2.2.2.2 with
    | nil => rw [hl] at h; cases h
    | cons q l =>
      rw [hl] at h
      dsimp only at h ⊢
      cases hb : (ab_isS r && Nat.beq (st.take g.2.2.2.2.1).length g.2.2.2.2.1) with
      | false => rw [hb] at h; cases h
      | true => rw [hb] at h; exact ask_inv_of h cf
theorem ask_go_of {x : ab_A} (h : ask_go tb M lk L st w cn sn = some x) (cf : ab_Cf) : ab_go tb cf M lk L st w cn sn = match cf x.1 x.2.1 w with
    | some r => some (r.1.toList ++ x.2.2.1, r.2, x.2.2.2.1, x.2.2.2.2)
    | none => none := by
  unfold ask_go at h
  unfold ab_go
  cases hg : ab_nth tb.2.1 lk with
  | none => rw [hg] at h; cases h
  | some g =>
    rw [hg] at h
    dsimp only at h ⊢
    generalize g.2.2.1 = kd at h ⊢
    split at h <;> first | exact ask_stat_of h cf | exact ask_sinst_of h cf | (cases h; done) | (split <;> first | exact ask_inst_of h cf | (exfalso; simp_all))
theorem ev_ask {j cn' sn' : Nat} {As rest : List Value} {r1 : ab_R} (hf : ab_fetch M.2.2.2.2.2.2.2 pc = some (ins, lk)) (h : ask tb M ins lk L st w cn sn = some (j, As, rest, cn', sn')) (hc : ev_Call tb sp0 d j As w r1) (k : ev_Run tb sp0 sp d M (pc + 3, L, r1.1.toList ++ rest, r1.2, cn', sn') r) : ev_Run tb sp0 sp d M (pc, L, st, w, cn, sn) r := by
  refine ev_call hf (fun cf => ?_) hc k
  cases ins with
  | invokevirtual i => exact ask_go_of (x := (j, As, rest, cn', sn')) h cf
  | invokespecial i => exact ask_go_of (x := (j, As, rest, cn', sn')) h cf
  | invokestatic i => exact ask_go_of (x := (j, As, rest, cn', sn')) h cf
  | _ => cases h
theorem ev_askE {j cn' sn' : Nat} {As rest : List Value} (hf : ab_fetch M.2.2.2.2.2.2.2 pc = some (ins, lk)) (h : ask tb M ins lk L st w cn sn = some (j, As, rest, cn', sn')) (he : ∃ (v : Option Value) (w1 : ab_W), ev_Call tb sp0 d j As w (v, w1) ∧ ev_Run tb sp0 sp d M (pc + 3, L, v.toList ++ rest, w1, cn', sn') r) : ev_Run tb sp0 sp d M (pc, L, st, w, cn, sn) r := by
  obtain ⟨v, w1, h1, h2⟩ := he
  exact ev_ask hf h h1 h2
end EY
end
section
/-! THE WORLD AS A FUNCTION: numbers by cell and place; x what stays from call to call, z what is written before it is read -/
def qa (n : Nat) (f : Nat → Int32) : List Int32 := (List.range n).map f
def cO0 (c : Nat) (x z : Nat → Int32) : ab_C := match c with
  | 0 => .inl (11, [.ref 1, .ref 9, .ref 22, .ref 35, .int (x 4), .ref 48, .ref 51, .ref 53, .ref 54, .ref 59, .ref 60, .ref 61, .ref 62])
  | 1 => .inr (.inr (0, (List.range 7).map (fun k => some (2 + k))))
  | 2 => .inl (0, [])
  | 3 => .inl (1, [])
  | 4 => .inl (2, [])
  | 5 => .inl (3, [])
  | 6 => .inl (4, [])
  | 7 => .inl (5, [])
  | 8 => .inl (6, [])
  | _ => .inl (7, [.ref 1, .int (x 1), .ref 10, .ref 11, .ref 12, .ref 13, .int (x 6), .int (x 7), .int (x 8), .int (x 9), .int (x 10), .ref 14, .ref 17, .ref 20, .int (x 14), .ref 21, .int (x 16), .int (x 17)])
def cO1 (c : Nat) (x z : Nat → Int32) : ab_C := match c with
  | 0 => .inr (.inl (qa 8 x))
  | 1 => .inr (.inl (qa 8 x))
  | 2 => .inr (.inl (qa 8 x))
  | 3 => .inr (.inl (qa 8 x))
  | 4 => .inl (8, [.ref 15, .ref 16, .int (x 2)])
  | 5 => .inr (.inl (qa 50 x))
  | 6 => .inr (.inl (qa 50 z))
  | 7 => .inl (8, [.ref 18, .ref 19, .int (x 2)])
  | 8 => .inr (.inl (qa 50 x))
  | _ => .inr (.inl (qa 50 z))
def cO2 (c : Nat) (x z : Nat → Int32) : ab_C := match c with
  | 0 => .inr (.inl (qa 50 x))
  | 1 => .inr (.inl (qa 20 x))
  | 2 => .inl (7, [.ref 1, .int (x 1), .ref 23, .ref 24, .ref 25, .ref 26, .int (x 6), .int (x 7), .int (x 8), .int (x 9), .int (x 10), .ref 27, .ref 30, .ref 33, .int (x 14), .ref 34, .int (x 16), .int (x 17)])
  | 3 => .inr (.inl (qa 8 x))
  | 4 => .inr (.inl (qa 8 x))
  | 5 => .inr (.inl (qa 8 x))
  | 6 => .inr (.inl (qa 8 x))
  | 7 => .inl (8, [.ref 28, .ref 29, .int (x 2)])
  | 8 => .inr (.inl (qa 50 x))
  | _ => .inr (.inl (qa 50 z))
def cO3 (c : Nat) (x z : Nat → Int32) : ab_C := match c with
  | 0 => .inl (8, [.ref 31, .ref 32, .int (x 2)])
  | 1 => .inr (.inl (qa 50 x))
  | 2 => .inr (.inl (qa 50 z))
  | 3 => .inr (.inl (qa 50 x))
  | 4 => .inr (.inl (qa 20 x))
  | 5 => .inl (7, [.ref 1, .int (x 1), .ref 36, .ref 37, .ref 38, .ref 39, .int (x 6), .int (x 7), .int (x 8), .int (x 9), .int (x 10), .ref 40, .ref 43, .ref 46, .int (x 14), .ref 47, .int (x 16), .int (x 17)])
  | 6 => .inr (.inl (qa 8 x))
  | 7 => .inr (.inl (qa 8 x))
  | 8 => .inr (.inl (qa 8 x))
  | _ => .inr (.inl (qa 8 x))
def cO4 (c : Nat) (x z : Nat → Int32) : ab_C := match c with
  | 0 => .inl (8, [.ref 41, .ref 42, .int (x 2)])
  | 1 => .inr (.inl (qa 50 x))
  | 2 => .inr (.inl (qa 50 z))
  | 3 => .inl (8, [.ref 44, .ref 45, .int (x 2)])
  | 4 => .inr (.inl (qa 50 x))
  | 5 => .inr (.inl (qa 50 z))
  | 6 => .inr (.inl (qa 50 x))
  | 7 => .inr (.inl (qa 20 x))
  | 8 => .inl (9, [.ref (z 0).toNatClampNeg, .int (z 1), .ref (z 2).toNatClampNeg, .int (z 3), .int (z 4), .ref 50, .int (z 6)])
  | _ => .inr (.inl (qa 0 z))
def cO5 (c : Nat) (x z : Nat → Int32) : ab_C := match c with
  | 0 => .inr (.inl (qa 50 z))
  | 1 => .inl (10, [.ref 52, .int (x 1), .int (x 2), .int (x 3)])
  | 2 => .inr (.inl (qa 40 x))
  | 3 => .inr (.inl (qa 6 x))
  | 4 => .inr (.inr (1, (List.range 4).map (fun k => some (55 + k))))
  | 5 => .inr (.inl (qa 40 x))
  | 6 => .inr (.inl (qa 40 x))
  | 7 => .inr (.inl (qa 40 x))
  | 8 => .inr (.inl (qa 40 x))
  | _ => .inr (.inl (qa 4 x))
def cO6 (c : Nat) (x z : Nat → Int32) : ab_C := match c with
  | 0 => .inr (.inl (qa 4 x))
  | 1 => .inr (.inl (qa 5 x))
  | 2 => .inr (.inl (qa 5 x))
  | 3 => .inl (12, [.ref 64, .ref 65, .ref 66, .int (x 3), .ref 67, .ref 68, .ref 69, .ref 70, .ref 71, .int (z 9), .int (z 10), .int (z 11), .int (z 12), .int (z 13), .ref 72, .ref 73, .int (x 16), .ref 74, .int (x 18), .int (x 19), .ref 75, .int (x 21), .ref 76, .ref 77, .ref 78])
  | 4 => .inr (.inl (qa 327 x))
  | 5 => .inr (.inl (qa 327 x))
  | 6 => .inr (.inl (qa 327 x))
  | 7 => .inr (.inl (qa 6 x))
  | 8 => .inr (.inl (qa 50 z))
  | _ => .inr (.inl (qa 50 z))
def cO7 (c : Nat) (x z : Nat → Int32) : ab_C := match c with
  | 0 => .inr (.inl (qa 3 z))
  | 1 => .inr (.inl (qa 50 z))
  | 2 => .inr (.inl (qa 5 x))
  | 3 => .inr (.inl (qa 5 x))
  | 4 => .inr (.inl (qa 625 x))
  | 5 => .inr (.inl (qa 40 x))
  | 6 => .inr (.inl (qa 4 x))
  | 7 => .inr (.inl (qa 4 x))
  | 8 => .inr (.inl (qa 160 x))
  | _ => .inr (.inl [])
def cO (c : Nat) (x z : Nat → Int32) : ab_C := match c / 10 with
  | 0 => cO0 (c % 10) x z
  | 1 => cO1 (c % 10) x z
  | 2 => cO2 (c % 10) x z
  | 3 => cO3 (c % 10) x z
  | 4 => cO4 (c % 10) x z
  | 5 => cO5 (c % 10) x z
  | 6 => cO6 (c % 10) x z
  | _ => cO7 (c % 10) x z
def Wd (X Z : Nat → Nat → Int32) : ab_W := (List.range 79).map (fun c => cO c (X c) (Z c))
def u1 (f : Nat → Int32) (k : Nat) (v : Int32) : Nat → Int32 := fun i => if i = k then v else f i
def uc (X : Nat → Nat → Int32) (c : Nat) (f : Nat → Int32) : Nat → Nat → Int32 := fun i => if i = c then f else X i
def ud (X : Nat → Nat → Int32) (c k : Nat) (v : Int32) : Nat → Nat → Int32 := uc X c (u1 (X c) k v)
def bI (b : Bool) : Int32 := cond b (nI 1) (nI 0)
def SP : List (List Int32) := [[0, 0, 0, 0, 1, 2, 3]]
def EC (d j : Nat) (As : List Value) (w : ab_W) (P : ab_R → Prop) : Prop := ∃ r, ev_Call tb SP d j As w r ∧ P r
def ER (d : Nat) (M : ab_M) (pc : Nat) (L : ab_Lo) (st : List Value) (w : ab_W) (P : ab_R → Prop) : Prop := ∃ r, ev_Run tb SP SP d M (pc, L, st, w, 0, 0) r ∧ P r
theorem u1_same (f : Nat → Int32) (k : Nat) (v : Int32) : u1 f k v k = v := if_pos rfl
theorem u1_ne {f : Nat → Int32} {k i : Nat} {v : Int32} (h : i ≠ k) : u1 f k v i = f i := if_neg h
theorem u1_at (f : Nat → Int32) (k : Nat) (v : Int32) (i : Nat) : u1 f k v i = if i = k then v else f i := rfl
theorem uc_same (X : Nat → Nat → Int32) (c : Nat) (f : Nat → Int32) : uc X c f c = f := if_pos rfl
theorem uc_ne {X : Nat → Nat → Int32} {c i : Nat} {f : Nat → Int32} (h : i ≠ c) : uc X c f i = X i := if_neg h
theorem u1_id (f : Nat → Int32) (k : Nat) : u1 f k (f k) = f := by
  funext i
  unfold u1
  split
  · rename_i h; rw [h]
  · rfl
theorem uc_id (X : Nat → Nat → Int32) (c : Nat) : uc X c (X c) = X := by
  funext i
  unfold uc
  split
  · rename_i h; rw [h]
  · rfl
theorem uc_uc (X : Nat → Nat → Int32) (c : Nat) (f g : Nat → Int32) : uc (uc X c f) c g = uc X c g := by
  funext i
  unfold uc
  split <;> rfl
theorem ud_same (X : Nat → Nat → Int32) (c k : Nat) (v : Int32) : ud X c k v c = u1 (X c) k v := if_pos rfl
theorem ud_ne {X : Nat → Nat → Int32} {c i k : Nat} {v : Int32} (h : i ≠ c) : ud X c k v i = X i := if_neg h
theorem qa_len (n : Nat) (f : Nat → Int32) : (qa n f).length = n := by simp [qa]
theorem qa_at (n : Nat) (f : Nat → Int32) (k : Nat) (h : k < n) : (qa n f)[k]? = some (f k) := by
  unfold qa
  rw [List.getElem?_map, List.getElem?_range h]
  rfl
theorem qa_set (n : Nat) (f : Nat → Int32) (k : Nat) (v : Int32) : (qa n f).set k v = qa n (u1 f k v) := by
  apply List.ext_getElem?
  intro i
  rw [List.getElem?_set, qa_len]
  by_cases hi : i < n
  · rw [qa_at n f i hi, qa_at n (u1 f k v) i hi]
    unfold u1
    by_cases hk : k = i
    · subst hk; simp [hi]
    · rw [if_neg hk, if_neg (Ne.symm hk)]
  · rw [List.getElem?_eq_none (by rw [qa_len]; omega)]
    by_cases hk : k = i
    · subst hk; simp [hi, qa_len]
    · rw [if_neg hk, List.getElem?_eq_none (by rw [qa_len]; omega)]
theorem qa_cong {n : Nat} {f g : Nat → Int32} (h : ∀ i, i < n → f i = g i) : qa n f = qa n g := by
  unfold qa
  exact List.map_congr_left (fun i hi => h i (List.mem_range.mp hi))
theorem qa_ix {n : Nat} {f : Nat → Int32} {k : Nat} (h : k < n) (hn : n < 2 ^ 31) : ab_ix (qa n f) (nI k) = some (f k) := by
  unfold ab_ix
  rw [decide_eq_false (nI_pos (by omega)), nI_clamp (by omega), ab_nth_eq, qa_at n f k h]
  rfl
theorem Wd_cell {X Z : Nat → Nat → Int32} {c : Nat} (h : Nat.blt c 79 = true) : ab_cell (Wd X Z) c = some (cO c (X c) (Z c)) := by
  have h1 : c < 79 := Nat.le_of_ble_eq_true h
  unfold ab_cell Wd
  rw [show Nat.ble ab_B c = false from by
    cases hb : Nat.ble ab_B c with
    | false => rfl
    | true => have := Nat.le_of_ble_eq_true hb; simp only [ab_B] at this; omega]
  rw [ab_nth_eq, List.getElem?_map, List.getElem?_range h1]
  rfl
theorem Wd_set {X Z X' Z' : Nat → Nat → Int32} {c : Nat} {e : ab_C} (h : Nat.blt c 79 = true) (he : e = cO c (X' c) (Z' c)) (hX : ∀ i, i ≠ c → X' i = X i) (hZ : ∀ i, i ≠ c → Z' i = Z i) : (Wd X Z).set c e = Wd X' Z' := by
  have h1 : c < 79 := Nat.le_of_ble_eq_true h
  apply List.ext_getElem?
  intro i
  rw [List.getElem?_set]
  unfold Wd
  by_cases hi : c = i
  · subst hi
    rw [if_pos rfl, if_pos (by simp; exact h1), List.getElem?_map, List.getElem?_range h1, he]
    rfl
  · rw [if_neg hi, List.getElem?_map, List.getElem?_map]
    by_cases h2 : i < 79
    · rw [List.getElem?_range h2]
      simp only [Option.map_some]
      rw [hX i (Ne.symm hi), hZ i (Ne.symm hi)]
    · rw [List.getElem?_eq_none (by simp; omega)]
      rfl
theorem Wd_setX {X Z : Nat → Nat → Int32} {c : Nat} {e : ab_C} {g : Nat → Int32} (h : Nat.blt c 79 = true) (he : e = cO c g (Z c)) : (Wd X Z).set c e = Wd (uc X c g) Z :=
  Wd_set h (by rw [uc_same]; exact he) (fun _ hi => uc_ne hi) (fun _ _ => rfl)
theorem Wd_setZ {X Z : Nat → Nat → Int32} {c : Nat} {e : ab_C} {g : Nat → Int32} (h : Nat.blt c 79 = true) (he : e = cO c (X c) g) : (Wd X Z).set c e = Wd X (uc Z c g) :=
  Wd_set h (by rw [uc_same]; exact he) (fun _ _ => rfl) (fun _ hi => uc_ne hi)
theorem EC.mono {d j : Nat} {As : List Value} {w : ab_W} {P Q : ab_R → Prop} (h : EC d j As w P) (hpq : ∀ r, P r → Q r) : EC d j As w Q := by
  obtain ⟨r, h1, h2⟩ := h
  exact ⟨r, h1, hpq r h2⟩
theorem EC.up {d d' j : Nat} {As : List Value} {w : ab_W} {P : ab_R → Prop} (h : EC d j As w P) (hd : d ≤ d') : EC d' j As w P := by
  obtain ⟨r, h1, h2⟩ := h
  exact ⟨r, ev_up hd h1, h2⟩
theorem ER.mono {d pc : Nat} {M : ab_M} {L : ab_Lo} {st : List Value} {w : ab_W} {P Q : ab_R → Prop} (h : ER d M pc L st w P) (hpq : ∀ r, P r → Q r) : ER d M pc L st w Q := by
  obtain ⟨r, h1, h2⟩ := h
  exact ⟨r, h1, hpq r h2⟩
section ERS
variable {d pc pc' lk : Nat} {M : ab_M} {L L' : ab_Lo} {st : List Value} {w : ab_W} {P : ab_R → Prop} {X Z : Nat → Nat → Int32}
theorem er_of {st' : List Value} {w' : ab_W} {r0 : ab_R → Prop} (h : ∀ r, ev_Run tb SP SP d M (pc', L', st', w', 0, 0) r → ev_Run tb SP SP d M (pc, L, st, w, 0, 0) r) (k : ER d M pc' L' st' w' P) : ER d M pc L st w P := by
  obtain ⟨r, h1, h2⟩ := k
  exact ⟨r, h r h1, h2⟩
theorem er_enter {j : Nat} {As : List Value} (hM : ab_nth tb.2.2.2.2.1 j = some M) (hs : Nat.ble ((As.map fun v => v.category).sum) M.2.2.1 = true) (hL : lv_args 0 As = L) (k : ER d M 0 L [] w P) : EC (d + 1) j As w P := by
  obtain ⟨r, h1, h2⟩ := k
  subst hL
  exact ⟨r, ev_enter hM hs h1, h2⟩
theorem er_pure {st st' : List Value} {ins : Instr} (hf : ab_fetch M.2.2.2.2.2.2.2 pc = some (ins, lk)) (h : ab_pure ins st = some st') (hp : pc + ab_len ins = pc') (k : ER d M pc' L st' w P) : ER d M pc L st w P := by
  obtain ⟨r, h1, h2⟩ := k
  subst hp
  exact ⟨r, ev_pure hf h h1, h2⟩
theorem er_loc {st st' : List Value} {ins : Instr} (hf : ab_fetch M.2.2.2.2.2.2.2 pc = some (ins, lk)) (h : ab_loc M.2.2.1 ins L st = some (L', st')) (hp : pc + ab_len ins = pc') (k : ER d M pc' L' st' w P) : ER d M pc L st w P := by
  obtain ⟨r, h1, h2⟩ := k
  subst hp
  exact ⟨r, ev_loc hf h h1, h2⟩
theorem er_goto {off : Int} (hf : ab_fetch M.2.2.2.2.2.2.2 pc = some (.goto off, lk)) (k : ER d M lk L st w P) : ER d M pc L st w P := by
  obtain ⟨r, h1, h2⟩ := k
  exact ⟨r, ev_goto hf h1, h2⟩
theorem er_br {st st' : List Value} {ins : Instr} (hf : ab_fetch M.2.2.2.2.2.2.2 pc = some (ins, lk)) (h : ab_br ins pc lk st = some (pc', st')) (k : ER d M pc' L st' w P) : ER d M pc L st w P := by
  obtain ⟨r, h1, h2⟩ := k
  exact ⟨r, ev_br hf h h1, h2⟩
theorem er_iadd {x y : Int32} (hf : ab_fetch M.2.2.2.2.2.2.2 pc = some (.iadd, lk)) (hp : pc + 1 = pc') (k : ER d M pc' L (.int (x + y) :: st) w P) : ER d M pc L (.int y :: .int x :: st) w P := er_pure hf (by rfl) hp k
theorem er_isub {x y : Int32} (hf : ab_fetch M.2.2.2.2.2.2.2 pc = some (.isub, lk)) (hp : pc + 1 = pc') (k : ER d M pc' L (.int (x - y) :: st) w P) : ER d M pc L (.int y :: .int x :: st) w P := er_pure hf (by rfl) hp k
theorem er_imul {x y : Int32} (hf : ab_fetch M.2.2.2.2.2.2.2 pc = some (.imul, lk)) (hp : pc + 1 = pc') (k : ER d M pc' L (.int (x * y) :: st) w P) : ER d M pc L (.int y :: .int x :: st) w P := er_pure hf (by rfl) hp k
theorem er_iand {x y : Int32} (hf : ab_fetch M.2.2.2.2.2.2.2 pc = some (.iand, lk)) (hp : pc + 1 = pc') (k : ER d M pc' L (.int (x &&& y) :: st) w P) : ER d M pc L (.int y :: .int x :: st) w P := er_pure hf (by rfl) hp k
theorem er_ior {x y : Int32} (hf : ab_fetch M.2.2.2.2.2.2.2 pc = some (.ior, lk)) (hp : pc + 1 = pc') (k : ER d M pc' L (.int (x ||| y) :: st) w P) : ER d M pc L (.int y :: .int x :: st) w P := er_pure hf (by rfl) hp k
theorem er_ixor {x y : Int32} (hf : ab_fetch M.2.2.2.2.2.2.2 pc = some (.ixor, lk)) (hp : pc + 1 = pc') (k : ER d M pc' L (.int (x ^^^ y) :: st) w P) : ER d M pc L (.int y :: .int x :: st) w P := er_pure hf (by rfl) hp k
theorem er_ishl {x y : Int32} (hf : ab_fetch M.2.2.2.2.2.2.2 pc = some (.ishl, lk)) (hp : pc + 1 = pc') (k : ER d M pc' L (.int (x <<< (y &&& 31)) :: st) w P) : ER d M pc L (.int y :: .int x :: st) w P := er_pure hf (by rfl) hp k
theorem er_ishr {x y : Int32} (hf : ab_fetch M.2.2.2.2.2.2.2 pc = some (.ishr, lk)) (hp : pc + 1 = pc') (k : ER d M pc' L (.int (x >>> (y &&& 31)) :: st) w P) : ER d M pc L (.int y :: .int x :: st) w P := er_pure hf (by rfl) hp k
theorem er_iushr {x y : Int32} (hf : ab_fetch M.2.2.2.2.2.2.2 pc = some (.iushr, lk)) (hp : pc + 1 = pc') (k : ER d M pc' L (.int ((x.toUInt32 >>> (y.toUInt32 &&& Int32.toUInt32 31)).toInt32) :: st) w P) : ER d M pc L (.int y :: .int x :: st) w P := er_pure hf (by rfl) hp k
theorem er_ineg {x : Int32} (hf : ab_fetch M.2.2.2.2.2.2.2 pc = some (.ineg, lk)) (hp : pc + 1 = pc') (k : ER d M pc' L (.int (-x) :: st) w P) : ER d M pc L (.int x :: st) w P := er_pure hf (by rfl) hp k
theorem er_i2b {x : Int32} (hf : ab_fetch M.2.2.2.2.2.2.2 pc = some (.i2b, lk)) (hp : pc + 1 = pc') (k : ER d M pc' L (.int x.toInt8.toInt32 :: st) w P) : ER d M pc L (.int x :: st) w P := er_pure hf (by rfl) hp k
theorem er_i2s {x : Int32} (hf : ab_fetch M.2.2.2.2.2.2.2 pc = some (.i2s, lk)) (hp : pc + 1 = pc') (k : ER d M pc' L (.int x.toInt16.toInt32 :: st) w P) : ER d M pc L (.int x :: st) w P := er_pure hf (by rfl) hp k
theorem er_i2c {x : Int32} (hf : ab_fetch M.2.2.2.2.2.2.2 pc = some (.i2c, lk)) (hp : pc + 1 = pc') (k : ER d M pc' L (.int ((x.toUInt32 % 65536).toInt32) :: st) w P) : ER d M pc L (.int x :: st) w P := er_pure hf (by rfl) hp k
theorem er_idiv {x y : Int32} (hf : ab_fetch M.2.2.2.2.2.2.2 pc = some (.idiv, lk)) (hp : pc + 1 = pc') (h0 : ¬ y = 0) (k : ER d M pc' L (.int (x / y) :: st) w P) : ER d M pc L (.int y :: .int x :: st) w P := er_pure hf (by simp only [ab_pure, ab_d2, decide_eq_false h0, cond_false]) hp k
theorem er_irem {x y : Int32} (hf : ab_fetch M.2.2.2.2.2.2.2 pc = some (.irem, lk)) (hp : pc + 1 = pc') (h0 : ¬ y = 0) (k : ER d M pc' L (.int (x - x / y * y) :: st) w P) : ER d M pc L (.int y :: .int x :: st) w P := er_pure hf (by simp only [ab_pure, ab_d2, decide_eq_false h0, cond_false]) hp k
def kv (ins : Instr) : Option Int32 := match ins with
  | .iconst n => some (Int32.ofInt n)
  | .bipush n => some (Int8.ofInt n).toInt32
  | .sipush n => some (Int16.ofInt n).toInt32
  | _ => none
theorem er_k (v : Int32) {ins : Instr} (hf : ab_fetch M.2.2.2.2.2.2.2 pc = some (ins, lk)) (hv : kv ins = some v) (hp : pc + ab_len ins = pc') (k : ER d M pc' L (.int v :: st) w P) : ER d M pc L st w P := by
  refine er_pure hf ?_ hp k
  cases ins <;> cases hv <;> rfl
theorem er_ldc (v : Int32) {ins : Instr} {q : ab_K} (hf : ab_fetch M.2.2.2.2.2.2.2 pc = some (ins, lk)) (hq : ab_nth tb.2.2.1 lk = some q) (hv : q.2.2.1 = .int v) (hi : (match ins with
    | .ldc _ => true
    | .ldc_w _ => true
    | _ => false) = true) (hp : pc + ab_len ins = pc') (k : ER d M pc' L (.int v :: st) w P) : ER d M pc L st w P := by
  obtain ⟨r, h1, h2⟩ := k
  subst hp
  refine ⟨r, ev_heap hf ?_ h1, h2⟩
  rw [← hv]
  cases ins <;> first | (simp only [ab_heap, hq]; done) | (cases hi; done)
theorem er_ret (v : Option Value) {ins : Instr} (hf : ab_fetch M.2.2.2.2.2.2.2 pc = some (ins, lk)) (h : ab_ret M.2.2.2.1 ins st = some v) (hP : P (v, w)) : ER d M pc L st w P := ⟨_, ev_ret hf h, hP⟩
theorem er_iret {v : Int32} (hf : ab_fetch M.2.2.2.2.2.2.2 pc = some (.ireturn, lk)) (ht : M.2.2.2.1 = some .int) (hP : P (some (.int v), w)) : ER d M pc L [.int v] w P := er_ret _ hf (by rw [ht]; rfl) hP
theorem er_zret {b : Bool} (hf : ab_fetch M.2.2.2.2.2.2.2 pc = some (.ireturn, lk)) (ht : M.2.2.2.1 = some .boolean) (hP : P (some (.int (bI b)), w)) : ER d M pc L [.int (bI b)] w P := er_ret _ hf (by rw [ht]; cases b <;> rfl) hP
theorem er_vret (hf : ab_fetch M.2.2.2.2.2.2.2 pc = some (.return_, lk)) (ht : M.2.2.2.1 = none) (hP : P (none, w)) : ER d M pc L [] w P := er_ret _ hf (by rw [ht]; rfl) hP
theorem er_cm_eqT {x y : Int32} {off : Int} (hf : ab_fetch M.2.2.2.2.2.2.2 pc = some (.if_icmp .eq off, lk)) (h : x = y) (k : ER d M lk L st w P) : ER d M pc L (.int y :: .int x :: st) w P := by
  have e : ab_c2 .eq x y = true := by simp only [ab_c1, ab_c2]; simp [h, ← Int32.not_lt]
  refine er_br hf ?_ k
  show some (cond (ab_c2 .eq x y) lk (pc + 3), st) = _
  rw [e]; rfl
theorem er_cm_eqF {x y : Int32} {off : Int} (hf : ab_fetch M.2.2.2.2.2.2.2 pc = some (.if_icmp .eq off, lk)) (h : ¬ x = y) (hp : pc + 3 = pc') (k : ER d M pc' L st w P) : ER d M pc L (.int y :: .int x :: st) w P := by
  have e : ab_c2 .eq x y = false := by simp only [ab_c1, ab_c2]; simp [h, ← Int32.not_lt]
  subst hp
  refine er_br hf ?_ k
  show some (cond (ab_c2 .eq x y) lk (pc + 3), st) = _
  rw [e]; rfl
theorem er_cm_eq {x y : Int32} {off : Int} (hf : ab_fetch M.2.2.2.2.2.2.2 pc = some (.if_icmp .eq off, lk)) (hp : pc + 3 = pc') (k1 : x = y → ER d M lk L st w P) (k2 : ¬ x = y → ER d M pc' L st w P) : ER d M pc L (.int y :: .int x :: st) w P := by
  by_cases h : x = y
  · exact er_cm_eqT hf h (k1 h)
  · exact er_cm_eqF hf h hp (k2 h)
theorem er_if_eqT {x : Int32} {off : Int} (hf : ab_fetch M.2.2.2.2.2.2.2 pc = some (.ifCond .eq off, lk)) (h : x = 0) (k : ER d M lk L st w P) : ER d M pc L (.int x :: st) w P := by
  have e : ab_c1 .eq x = true := by simp only [ab_c1, ab_c2]; simp [h, ← Int32.not_lt]
  refine er_br hf ?_ k
  show some (cond (ab_c1 .eq x) lk (pc + 3), st) = _
  rw [e]; rfl
theorem er_if_eqF {x : Int32} {off : Int} (hf : ab_fetch M.2.2.2.2.2.2.2 pc = some (.ifCond .eq off, lk)) (h : ¬ x = 0) (hp : pc + 3 = pc') (k : ER d M pc' L st w P) : ER d M pc L (.int x :: st) w P := by
  have e : ab_c1 .eq x = false := by simp only [ab_c1, ab_c2]; simp [h, ← Int32.not_lt]
  subst hp
  refine er_br hf ?_ k
  show some (cond (ab_c1 .eq x) lk (pc + 3), st) = _
  rw [e]; rfl
theorem er_if_eq {x : Int32} {off : Int} (hf : ab_fetch M.2.2.2.2.2.2.2 pc = some (.ifCond .eq off, lk)) (hp : pc + 3 = pc') (k1 : x = 0 → ER d M lk L st w P) (k2 : ¬ x = 0 → ER d M pc' L st w P) : ER d M pc L (.int x :: st) w P := by
  by_cases h : x = 0
  · exact er_if_eqT hf h (k1 h)
  · exact er_if_eqF hf h hp (k2 h)
theorem er_cm_neT {x y : Int32} {off : Int} (hf : ab_fetch M.2.2.2.2.2.2.2 pc = some (.if_icmp .ne off, lk)) (h : ¬ x = y) (k : ER d M lk L st w P) : ER d M pc L (.int y :: .int x :: st) w P := by
  have e : ab_c2 .ne x y = true := by simp only [ab_c1, ab_c2]; simp [h, ← Int32.not_lt]
  refine er_br hf ?_ k
  show some (cond (ab_c2 .ne x y) lk (pc + 3), st) = _
  rw [e]; rfl
theorem er_cm_neF {x y : Int32} {off : Int} (hf : ab_fetch M.2.2.2.2.2.2.2 pc = some (.if_icmp .ne off, lk)) (h : x = y) (hp : pc + 3 = pc') (k : ER d M pc' L st w P) : ER d M pc L (.int y :: .int x :: st) w P := by
  have e : ab_c2 .ne x y = false := by simp only [ab_c1, ab_c2]; simp [h, ← Int32.not_lt]
  subst hp
  refine er_br hf ?_ k
  show some (cond (ab_c2 .ne x y) lk (pc + 3), st) = _
  rw [e]; rfl
theorem er_cm_ne {x y : Int32} {off : Int} (hf : ab_fetch M.2.2.2.2.2.2.2 pc = some (.if_icmp .ne off, lk)) (hp : pc + 3 = pc') (k1 : ¬ x = y → ER d M lk L st w P) (k2 : x = y → ER d M pc' L st w P) : ER d M pc L (.int y :: .int x :: st) w P := by
  by_cases h : x = y
  · exact er_cm_neF hf h hp (k2 h)
  · exact er_cm_neT hf h (k1 h)
theorem er_if_neT {x : Int32} {off : Int} (hf : ab_fetch M.2.2.2.2.2.2.2 pc = some (.ifCond .ne off, lk)) (h : ¬ x = 0) (k : ER d M lk L st w P) : ER d M pc L (.int x :: st) w P := by
  have e : ab_c1 .ne x = true := by simp only [ab_c1, ab_c2]; simp [h, ← Int32.not_lt]
  refine er_br hf ?_ k
  show some (cond (ab_c1 .ne x) lk (pc + 3), st) = _
  rw [e]; rfl
theorem er_if_neF {x : Int32} {off : Int} (hf : ab_fetch M.2.2.2.2.2.2.2 pc = some (.ifCond .ne off, lk)) (h : x = 0) (hp : pc + 3 = pc') (k : ER d M pc' L st w P) : ER d M pc L (.int x :: st) w P := by
  have e : ab_c1 .ne x = false := by simp only [ab_c1, ab_c2]; simp [h, ← Int32.not_lt]
  subst hp
  refine er_br hf ?_ k
  show some (cond (ab_c1 .ne x) lk (pc + 3), st) = _
  rw [e]; rfl
theorem er_if_ne {x : Int32} {off : Int} (hf : ab_fetch M.2.2.2.2.2.2.2 pc = some (.ifCond .ne off, lk)) (hp : pc + 3 = pc') (k1 : ¬ x = 0 → ER d M lk L st w P) (k2 : x = 0 → ER d M pc' L st w P) : ER d M pc L (.int x :: st) w P := by
  by_cases h : x = 0
  · exact er_if_neF hf h hp (k2 h)
  · exact er_if_neT hf h (k1 h)
theorem er_cm_ltT {x y : Int32} {off : Int} (hf : ab_fetch M.2.2.2.2.2.2.2 pc = some (.if_icmp .lt off, lk)) (h : x < y) (k : ER d M lk L st w P) : ER d M pc L (.int y :: .int x :: st) w P := by
  have e : ab_c2 .lt x y = true := by simp only [ab_c1, ab_c2]; simp [h, ← Int32.not_lt]
  refine er_br hf ?_ k
  show some (cond (ab_c2 .lt x y) lk (pc + 3), st) = _
  rw [e]; rfl
theorem er_cm_ltF {x y : Int32} {off : Int} (hf : ab_fetch M.2.2.2.2.2.2.2 pc = some (.if_icmp .lt off, lk)) (h : ¬ x < y) (hp : pc + 3 = pc') (k : ER d M pc' L st w P) : ER d M pc L (.int y :: .int x :: st) w P := by
  have e : ab_c2 .lt x y = false := by simp only [ab_c1, ab_c2]; simp [h, ← Int32.not_lt]
  subst hp
  refine er_br hf ?_ k
  show some (cond (ab_c2 .lt x y) lk (pc + 3), st) = _
  rw [e]; rfl
theorem er_cm_lt {x y : Int32} {off : Int} (hf : ab_fetch M.2.2.2.2.2.2.2 pc = some (.if_icmp .lt off, lk)) (hp : pc + 3 = pc') (k1 : x < y → ER d M lk L st w P) (k2 : ¬ x < y → ER d M pc' L st w P) : ER d M pc L (.int y :: .int x :: st) w P := by
  by_cases h : x < y
  · exact er_cm_ltT hf h (k1 h)
  · exact er_cm_ltF hf h hp (k2 h)
theorem er_if_ltT {x : Int32} {off : Int} (hf : ab_fetch M.2.2.2.2.2.2.2 pc = some (.ifCond .lt off, lk)) (h : x < 0) (k : ER d M lk L st w P) : ER d M pc L (.int x :: st) w P := by
  have e : ab_c1 .lt x = true := by simp only [ab_c1, ab_c2]; simp [h, ← Int32.not_lt]
  refine er_br hf ?_ k
  show some (cond (ab_c1 .lt x) lk (pc + 3), st) = _
  rw [e]; rfl
theorem er_if_ltF {x : Int32} {off : Int} (hf : ab_fetch M.2.2.2.2.2.2.2 pc = some (.ifCond .lt off, lk)) (h : ¬ x < 0) (hp : pc + 3 = pc') (k : ER d M pc' L st w P) : ER d M pc L (.int x :: st) w P := by
  have e : ab_c1 .lt x = false := by simp only [ab_c1, ab_c2]; simp [h, ← Int32.not_lt]
  subst hp
  refine er_br hf ?_ k
  show some (cond (ab_c1 .lt x) lk (pc + 3), st) = _
  rw [e]; rfl
theorem er_if_lt {x : Int32} {off : Int} (hf : ab_fetch M.2.2.2.2.2.2.2 pc = some (.ifCond .lt off, lk)) (hp : pc + 3 = pc') (k1 : x < 0 → ER d M lk L st w P) (k2 : ¬ x < 0 → ER d M pc' L st w P) : ER d M pc L (.int x :: st) w P := by
  by_cases h : x < 0
  · exact er_if_ltT hf h (k1 h)
  · exact er_if_ltF hf h hp (k2 h)
theorem er_cm_geT {x y : Int32} {off : Int} (hf : ab_fetch M.2.2.2.2.2.2.2 pc = some (.if_icmp .ge off, lk)) (h : ¬ x < y) (k : ER d M lk L st w P) : ER d M pc L (.int y :: .int x :: st) w P := by
  have e : ab_c2 .ge x y = true := by simp only [ab_c1, ab_c2]; simp [h, ← Int32.not_lt]
  refine er_br hf ?_ k
  show some (cond (ab_c2 .ge x y) lk (pc + 3), st) = _
  rw [e]; rfl
theorem er_cm_geF {x y : Int32} {off : Int} (hf : ab_fetch M.2.2.2.2.2.2.2 pc = some (.if_icmp .ge off, lk)) (h : x < y) (hp : pc + 3 = pc') (k : ER d M pc' L st w P) : ER d M pc L (.int y :: .int x :: st) w P := by
  have e : ab_c2 .ge x y = false := by simp only [ab_c1, ab_c2]; simp [h, ← Int32.not_lt]
  subst hp
  refine er_br hf ?_ k
  show some (cond (ab_c2 .ge x y) lk (pc + 3), st) = _
  rw [e]; rfl
theorem er_cm_ge {x y : Int32} {off : Int} (hf : ab_fetch M.2.2.2.2.2.2.2 pc = some (.if_icmp .ge off, lk)) (hp : pc + 3 = pc') (k1 : ¬ x < y → ER d M lk L st w P) (k2 : x < y → ER d M pc' L st w P) : ER d M pc L (.int y :: .int x :: st) w P := by
  by_cases h : x < y
  · exact er_cm_geF hf h hp (k2 h)
  · exact er_cm_geT hf h (k1 h)
theorem er_if_geT {x : Int32} {off : Int} (hf : ab_fetch M.2.2.2.2.2.2.2 pc = some (.ifCond .ge off, lk)) (h : ¬ x < 0) (k : ER d M lk L st w P) : ER d M pc L (.int x :: st) w P := by
  have e : ab_c1 .ge x = true := by simp only [ab_c1, ab_c2]; simp [h, ← Int32.not_lt]
  refine er_br hf ?_ k
  show some (cond (ab_c1 .ge x) lk (pc + 3), st) = _
  rw [e]; rfl
theorem er_if_geF {x : Int32} {off : Int} (hf : ab_fetch M.2.2.2.2.2.2.2 pc = some (.ifCond .ge off, lk)) (h : x < 0) (hp : pc + 3 = pc') (k : ER d M pc' L st w P) : ER d M pc L (.int x :: st) w P := by
  have e : ab_c1 .ge x = false := by simp only [ab_c1, ab_c2]; simp [h, ← Int32.not_lt]
  subst hp
  refine er_br hf ?_ k
  show some (cond (ab_c1 .ge x) lk (pc + 3), st) = _
  rw [e]; rfl
theorem er_if_ge {x : Int32} {off : Int} (hf : ab_fetch M.2.2.2.2.2.2.2 pc = some (.ifCond .ge off, lk)) (hp : pc + 3 = pc') (k1 : ¬ x < 0 → ER d M lk L st w P) (k2 : x < 0 → ER d M pc' L st w P) : ER d M pc L (.int x :: st) w P := by
  by_cases h : x < 0
  · exact er_if_geF hf h hp (k2 h)
  · exact er_if_geT hf h (k1 h)
theorem er_cm_gtT {x y : Int32} {off : Int} (hf : ab_fetch M.2.2.2.2.2.2.2 pc = some (.if_icmp .gt off, lk)) (h : y < x) (k : ER d M lk L st w P) : ER d M pc L (.int y :: .int x :: st) w P := by
  have e : ab_c2 .gt x y = true := by simp only [ab_c1, ab_c2]; simp [h, ← Int32.not_lt]
  refine er_br hf ?_ k
  show some (cond (ab_c2 .gt x y) lk (pc + 3), st) = _
  rw [e]; rfl
theorem er_cm_gtF {x y : Int32} {off : Int} (hf : ab_fetch M.2.2.2.2.2.2.2 pc = some (.if_icmp .gt off, lk)) (h : ¬ y < x) (hp : pc + 3 = pc') (k : ER d M pc' L st w P) : ER d M pc L (.int y :: .int x :: st) w P := by
  have e : ab_c2 .gt x y = false := by simp only [ab_c1, ab_c2]; simp [h, ← Int32.not_lt]
  subst hp
  refine er_br hf ?_ k
  show some (cond (ab_c2 .gt x y) lk (pc + 3), st) = _
  rw [e]; rfl
theorem er_cm_gt {x y : Int32} {off : Int} (hf : ab_fetch M.2.2.2.2.2.2.2 pc = some (.if_icmp .gt off, lk)) (hp : pc + 3 = pc') (k1 : y < x → ER d M lk L st w P) (k2 : ¬ y < x → ER d M pc' L st w P) : ER d M pc L (.int y :: .int x :: st) w P := by
  by_cases h : y < x
  · exact er_cm_gtT hf h (k1 h)
  · exact er_cm_gtF hf h hp (k2 h)
theorem er_if_gtT {x : Int32} {off : Int} (hf : ab_fetch M.2.2.2.2.2.2.2 pc = some (.ifCond .gt off, lk)) (h : 0 < x) (k : ER d M lk L st w P) : ER d M pc L (.int x :: st) w P := by
  have e : ab_c1 .gt x = true := by simp only [ab_c1, ab_c2]; simp [h, ← Int32.not_lt]
  refine er_br hf ?_ k
  show some (cond (ab_c1 .gt x) lk (pc + 3), st) = _
  rw [e]; rfl
theorem er_if_gtF {x : Int32} {off : Int} (hf : ab_fetch M.2.2.2.2.2.2.2 pc = some (.ifCond .gt off, lk)) (h : ¬ 0 < x) (hp : pc + 3 = pc') (k : ER d M pc' L st w P) : ER d M pc L (.int x :: st) w P := by
  have e : ab_c1 .gt x = false := by simp only [ab_c1, ab_c2]; simp [h, ← Int32.not_lt]
  subst hp
  refine er_br hf ?_ k
  show some (cond (ab_c1 .gt x) lk (pc + 3), st) = _
  rw [e]; rfl
theorem er_if_gt {x : Int32} {off : Int} (hf : ab_fetch M.2.2.2.2.2.2.2 pc = some (.ifCond .gt off, lk)) (hp : pc + 3 = pc') (k1 : 0 < x → ER d M lk L st w P) (k2 : ¬ 0 < x → ER d M pc' L st w P) : ER d M pc L (.int x :: st) w P := by
  by_cases h : 0 < x
  · exact er_if_gtT hf h (k1 h)
  · exact er_if_gtF hf h hp (k2 h)
theorem er_cm_leT {x y : Int32} {off : Int} (hf : ab_fetch M.2.2.2.2.2.2.2 pc = some (.if_icmp .le off, lk)) (h : ¬ y < x) (k : ER d M lk L st w P) : ER d M pc L (.int y :: .int x :: st) w P := by
  have e : ab_c2 .le x y = true := by simp only [ab_c1, ab_c2]; simp [h, ← Int32.not_lt]
  refine er_br hf ?_ k
  show some (cond (ab_c2 .le x y) lk (pc + 3), st) = _
  rw [e]; rfl
theorem er_cm_leF {x y : Int32} {off : Int} (hf : ab_fetch M.2.2.2.2.2.2.2 pc = some (.if_icmp .le off, lk)) (h : y < x) (hp : pc + 3 = pc') (k : ER d M pc' L st w P) : ER d M pc L (.int y :: .int x :: st) w P := by
  have e : ab_c2 .le x y = false := by simp only [ab_c1, ab_c2]; simp [h, ← Int32.not_lt]
  subst hp
  refine er_br hf ?_ k
  show some (cond (ab_c2 .le x y) lk (pc + 3), st) = _
  rw [e]; rfl
theorem er_cm_le {x y : Int32} {off : Int} (hf : ab_fetch M.2.2.2.2.2.2.2 pc = some (.if_icmp .le off, lk)) (hp : pc + 3 = pc') (k1 : ¬ y < x → ER d M lk L st w P) (k2 : y < x → ER d M pc' L st w P) : ER d M pc L (.int y :: .int x :: st) w P := by
  by_cases h : y < x
  · exact er_cm_leF hf h hp (k2 h)
  · exact er_cm_leT hf h (k1 h)
theorem er_if_leT {x : Int32} {off : Int} (hf : ab_fetch M.2.2.2.2.2.2.2 pc = some (.ifCond .le off, lk)) (h : ¬ 0 < x) (k : ER d M lk L st w P) : ER d M pc L (.int x :: st) w P := by
  have e : ab_c1 .le x = true := by simp only [ab_c1, ab_c2]; simp [h, ← Int32.not_lt]
  refine er_br hf ?_ k
  show some (cond (ab_c1 .le x) lk (pc + 3), st) = _
  rw [e]; rfl
theorem er_if_leF {x : Int32} {off : Int} (hf : ab_fetch M.2.2.2.2.2.2.2 pc = some (.ifCond .le off, lk)) (h : 0 < x) (hp : pc + 3 = pc') (k : ER d M pc' L st w P) : ER d M pc L (.int x :: st) w P := by
  have e : ab_c1 .le x = false := by simp only [ab_c1, ab_c2]; simp [h, ← Int32.not_lt]
  subst hp
  refine er_br hf ?_ k
  show some (cond (ab_c1 .le x) lk (pc + 3), st) = _
  rw [e]; rfl
theorem er_if_le {x : Int32} {off : Int} (hf : ab_fetch M.2.2.2.2.2.2.2 pc = some (.ifCond .le off, lk)) (hp : pc + 3 = pc') (k1 : ¬ 0 < x → ER d M lk L st w P) (k2 : 0 < x → ER d M pc' L st w P) : ER d M pc L (.int x :: st) w P := by
  by_cases h : 0 < x
  · exact er_if_leF hf h hp (k2 h)
  · exact er_if_leT hf h (k1 h)
theorem er_if_eqb {b : Bool} {off : Int} (hf : ab_fetch M.2.2.2.2.2.2.2 pc = some (.ifCond .eq off, lk)) (hp : pc + 3 = pc') (k1 : b = false → ER d M lk L st w P) (k2 : b = true → ER d M pc' L st w P) : ER d M pc L (.int (bI b) :: st) w P := by
  cases hb : b with
  | false => exact er_if_eqT hf (by decide +kernel) (k1 hb)
  | true => exact er_if_eqF hf (by show ¬ nI 1 = 0; decide +kernel) hp (k2 hb)
theorem er_if_neb {b : Bool} {off : Int} (hf : ab_fetch M.2.2.2.2.2.2.2 pc = some (.ifCond .ne off, lk)) (hp : pc + 3 = pc') (k1 : b = true → ER d M lk L st w P) (k2 : b = false → ER d M pc' L st w P) : ER d M pc L (.int (bI b) :: st) w P := by
  cases hb : b with
  | true => exact er_if_neT hf (by show ¬ nI 1 = 0; decide +kernel) (k1 hb)
  | false => exact er_if_neF hf (by decide +kernel) hp (k2 hb)
def gfO (lk : Nat) (e : ab_C) : Option Value := match ab_nth tb.1 lk with
  | some f => match e with
    | .inl o => cond (Nat.beq o.1 f.2.2.1) (ab_nth o.2 f.2.2.2.1) none
    | _ => none
  | none => none
theorem er_gf (v : Value) {c : Nat} {i : Nat} {e : ab_C} (hf : ab_fetch M.2.2.2.2.2.2.2 pc = some (.getfield i, lk)) (hc : Nat.blt c 79 = true) (he : cO c (X c) (Z c) = e) (hv : gfO lk e = some v) (hp : pc + 3 = pc') (k : ER d M pc' L (v :: st) (Wd X Z) P) : ER d M pc L (.ref c :: st) (Wd X Z) P := by
  obtain ⟨r, h1, h2⟩ := k
  subst hp
  refine ⟨r, ev_heap hf ?_ h1, h2⟩
  subst he
  unfold gfO at hv
  simp only [ab_heap]
  split at hv
  · rename_i f hq
    rw [hq, Wd_cell hc]
    dsimp only
    split at hv
    · rename_i o ho
      rw [ho]
      dsimp only
      cases hb : Nat.beq o.1 f.2.2.1 with
      | false => rw [hb] at hv; cases hv
      | true =>
        rw [hb] at hv
        simp only [cond_true] at hv ⊢
        rw [hv]
    · cases hv
  · cases hv
def pfO (lk : Nat) (v : Value) (e : ab_C) : Option ab_C := match ab_nth tb.1 lk with
  | some f => match e with
    | .inl o => cond (Nat.beq o.1 f.2.2.1 && ab_fit f.2.2.2.2.2.1 v && Nat.blt f.2.2.2.1 o.2.length) (some (.inl (o.1, o.2.set f.2.2.2.1 v))) none
    | _ => none
  | none => none
theorem er_pf {v : Value} {c i : Nat} {e e' : ab_C} {X' Z' : Nat → Nat → Int32} (hf : ab_fetch M.2.2.2.2.2.2.2 pc = some (.putfield i, lk)) (hc : Nat.blt c 79 = true) (he : cO c (X c) (Z c) = e) (hv : pfO lk v e = some e') (hw : (Wd X Z).set c e' = Wd X' Z') (hp : pc + 3 = pc') (k : ER d M pc' L st (Wd X' Z') P) : ER d M pc L (v :: .ref c :: st) (Wd X Z) P := by
  obtain ⟨r, h1, h2⟩ := k
  subst hp
  refine ⟨r, ev_heap hf ?_ h1, h2⟩
  subst he
  unfold pfO at hv
  simp only [ab_heap]
  split at hv
  · rename_i f hq
    rw [hq, Wd_cell hc]
    dsimp only
    split at hv
    · rename_i o ho
      rw [ho]
      dsimp only
      cases hb : (Nat.beq o.1 f.2.2.1 && ab_fit f.2.2.2.2.2.1 v && Nat.blt f.2.2.2.1 o.2.length) with
      | false => rw [hb] at hv; cases hv
      | true =>
        rw [hb] at hv
        simp only [cond_true, Option.some.injEq] at hv
        rw [Bool.and_eq_true] at hb
        rw [hb.1]
        have hlt : f.2.2.2.1 < o.2.length := Nat.le_of_ble_eq_true hb.2
        simp only [cond_true]
        rw [ab_nth_eq, List.getElem?_eq_getElem hlt]
        dsimp only
        rw [hv, hw]
    · cases hv
  · cases hv
theorem er_pfX {v : Value} {c i : Nat} {e e' : ab_C} (g : Nat → Int32) (hf : ab_fetch M.2.2.2.2.2.2.2 pc = some (.putfield i, lk)) (hc : Nat.blt c 79 = true) (he : cO c (X c) (Z c) = e) (hv : pfO lk v e = some e') (hg : e' = cO c g (Z c)) (hp : pc + 3 = pc') (k : ER d M pc' L st (Wd (uc X c g) Z) P) : ER d M pc L (v :: .ref c :: st) (Wd X Z) P :=
  er_pf hf hc he hv (Wd_setX hc hg) hp k
theorem er_pfZ {v : Value} {c i : Nat} {e e' : ab_C} (g : Nat → Int32) (hf : ab_fetch M.2.2.2.2.2.2.2 pc = some (.putfield i, lk)) (hc : Nat.blt c 79 = true) (he : cO c (X c) (Z c) = e) (hv : pfO lk v e = some e') (hg : e' = cO c (X c) g) (hp : pc + 3 = pc') (k : ER d M pc' L st (Wd X (uc Z c g)) P) : ER d M pc L (v :: .ref c :: st) (Wd X Z) P :=
  er_pf hf hc he hv (Wd_setZ hc hg) hp k
theorem ab_arr_cell {sp : List (List Int32)} {w : ab_W} {c : Nat} {xs : List Int32} (h : ab_cell w c = some (.inr (.inl xs))) : ab_arr sp w c = some xs := by
  have h1 := h
  unfold ab_cell at h
  cases hb : Nat.ble ab_B c with
  | true => rw [hb] at h; cases h
  | false =>
    rw [hb] at h
    simp only [cond_false] at h
    unfold ab_arr
    rw [hb, h]
    rfl
theorem er_ia (k : Nat) {c n : Nat} {i : Int32} {f : Nat → Int32} (hf : ab_fetch M.2.2.2.2.2.2.2 pc = some (.iaload, lk)) (hc : Nat.blt c 79 = true) (he : cO c (X c) (Z c) = .inr (.inl (qa n f))) (hi : i = nI k) (hk : k < n) (hn : Nat.ble n 1000 = true) (hp : pc + 1 = pc') (kk : ER d M pc' L (.int (f k) :: st) (Wd X Z) P) : ER d M pc L (.int i :: .ref c :: st) (Wd X Z) P := by
  obtain ⟨r, h1, h2⟩ := kk
  subst hp
  subst hi
  refine ⟨r, ev_heap hf ?_ h1, h2⟩
  have hn' := Nat.le_of_ble_eq_true hn
  simp only [ab_heap]
  rw [ab_arr_cell ((Wd_cell hc).trans (congrArg some he))]
  dsimp only
  rw [qa_ix hk (by omega)]
theorem er_is (k : Nat) {c n : Nat} {i v : Int32} {f : Nat → Int32} {X' Z' : Nat → Nat → Int32} (hf : ab_fetch M.2.2.2.2.2.2.2 pc = some (.iastore, lk)) (hc : Nat.blt c 79 = true) (he : cO c (X c) (Z c) = .inr (.inl (qa n f))) (hi : i = nI k) (hk : k < n) (hn : Nat.ble n 1000 = true) (hw : (Wd X Z).set c (.inr (.inl (qa n (u1 f k v)))) = Wd X' Z') (hp : pc + 1 = pc') (kk : ER d M pc' L st (Wd X' Z') P) : ER d M pc L (.int v :: .int i :: .ref c :: st) (Wd X Z) P := by
  obtain ⟨r, h1, h2⟩ := kk
  subst hp
  subst hi
  refine ⟨r, ev_heap hf ?_ h1, h2⟩
  have hn' := Nat.le_of_ble_eq_true hn
  simp only [ab_heap]
  rw [Wd_cell hc, he]
  dsimp only
  rw [qa_ix hk (by omega)]
  dsimp only
  rw [nI_clamp (by omega), qa_set, hw]
theorem er_isX (k : Nat) {c n : Nat} {i v : Int32} (hf : ab_fetch M.2.2.2.2.2.2.2 pc = some (.iastore, lk)) (hc : Nat.blt c 79 = true) (he : ∀ f, cO c f (Z c) = .inr (.inl (qa n f))) (hi : i = nI k) (hk : k < n) (hn : Nat.ble n 1000 = true) (hp : pc + 1 = pc') (kk : ER d M pc' L st (Wd (ud X c k v) Z) P) : ER d M pc L (.int v :: .int i :: .ref c :: st) (Wd X Z) P :=
  er_is k hf hc (he _) hi hk hn (Wd_setX hc (he _).symm) hp kk
theorem er_isZ (k : Nat) {c n : Nat} {i v : Int32} (hf : ab_fetch M.2.2.2.2.2.2.2 pc = some (.iastore, lk)) (hc : Nat.blt c 79 = true) (he : ∀ f, cO c (X c) f = .inr (.inl (qa n f))) (hi : i = nI k) (hk : k < n) (hn : Nat.ble n 1000 = true) (hp : pc + 1 = pc') (kk : ER d M pc' L st (Wd X (ud Z c k v)) P) : ER d M pc L (.int v :: .int i :: .ref c :: st) (Wd X Z) P :=
  er_is k hf hc (he _) hi hk hn (Wd_setZ hc (he _).symm) hp kk
theorem er_al {c n : Nat} {f : Nat → Int32} (hf : ab_fetch M.2.2.2.2.2.2.2 pc = some (.arraylength, lk)) (hc : Nat.blt c 79 = true) (he : cO c (X c) (Z c) = .inr (.inl (qa n f))) (hp : pc + 1 = pc') (kk : ER d M pc' L (.int (nI n) :: st) (Wd X Z) P) : ER d M pc L (.ref c :: st) (Wd X Z) P := by
  obtain ⟨r, h1, h2⟩ := kk
  subst hp
  refine ⟨r, ev_heap hf ?_ h1, h2⟩
  have hcell := (Wd_cell (X := X) (Z := Z) hc).trans (congrArg some he)
  have hcell0 := hcell
  unfold ab_cell at hcell
  simp only [ab_heap]
  cases hb : Nat.ble ab_B c with
  | true => rw [hb] at hcell; cases hcell
  | false =>
    rw [hb] at hcell
    simp only [cond_false] at hcell ⊢
    rw [hcell]
    dsimp only
    rw [qa_len]
    rfl
theorem er_aa (k : Nat) {c t n : Nat} {i : Int32} {g : Nat → Option Nat} (hf : ab_fetch M.2.2.2.2.2.2.2 pc = some (.aaload, lk)) (hc : Nat.blt c 79 = true) (he : cO c (X c) (Z c) = .inr (.inr (t, (List.range n).map g))) (ht : Nat.blt t 2 = true) (hi : i = nI k) (hk : k < n) (hn : Nat.ble n 1000 = true) (hp : pc + 1 = pc') (kk : ER d M pc' L (va_rf (g k) :: st) (Wd X Z) P) : ER d M pc L (.int i :: .ref c :: st) (Wd X Z) P := by
  obtain ⟨r, h1, h2⟩ := kk
  subst hp
  subst hi
  refine ⟨r, ev_heap hf ?_ h1, h2⟩
  have hn' := Nat.le_of_ble_eq_true hn
  simp only [ab_heap]
  rw [Wd_cell hc, he]
  dsimp only
  rw [ht]
  simp only [cond_true]
  have e : ab_ix ((List.range n).map g) (nI k) = some (g k) := by
    unfold ab_ix
    rw [decide_eq_false (nI_pos (by omega)), nI_clamp (by omega), ab_nth_eq, List.getElem?_map, List.getElem?_range hk]
    rfl
  rw [e]
def isCI (ins : Instr) : Bool := match ins with
  | .invokevirtual _ => true
  | .invokespecial _ => true
  | _ => false
def qOK (j : Nat) : Bool := match ab_nth tb.2.2.2.2.1 j with
  | some Mj => Nat.beq Mj.2.2.2.2.1 0 && Nat.beq Mj.2.2.2.2.2.1 0
  | none => false
def qS (lk : Nat) (st : List Value) : Option (Nat × List Value × List Value) := match ab_nth tb.2.1 lk with
  | none => none
  | some g => cond (Nat.beq g.2.2.1 2 || Nat.beq g.2.2.1 3) (match g.2.2.2.2.2.2 with
    | q :: _ => cond (Nat.beq (st.take g.2.2.2.2.1).length g.2.2.2.2.1 && (ab_room (st.drop g.2.2.2.2.1) && qOK q.2.1)) (some (q.2.1, (st.take g.2.2.2.2.1).reverse, st.drop g.2.2.2.2.1)) none
    | [] => none) none
def qI (lk cls : Nat) (st : List Value) : Option (Nat × Nat × List Value × List Value) := match ab_nth tb.2.1 lk with
  | none => none
  | some g => cond (Nat.beq g.2.2.1 0 || (Nat.beq g.2.2.1 1 || (Nat.beq g.2.2.1 10 || (Nat.beq g.2.2.1 11 || Nat.beq g.2.2.1 13)))) (match st.drop g.2.2.2.2.1 with
    | .ref r :: rest => match ab_look g.2.2.2.2.2.2 cls with
      | some q => cond (Nat.beq (st.take g.2.2.2.2.1).length g.2.2.2.2.1 && (ab_room rest && qOK q.2.1)) (some (r, q.2.1, .ref r :: (st.take g.2.2.2.2.1).reverse, rest)) none
      | none => none
    | _ => none) none
theorem ask_inv_q {j : Nat} {As rest : List Value} (h1 : ab_room rest = true) (h2 : qOK j = true) : ask_inv tb M j As L rest w 0 0 = some (j, As, rest, 0, 0) := by
  unfold qOK at h2
  unfold ask_inv
  split at h2
  · rename_i Mj hj
    rw [hj]
    dsimp only
    rw [Bool.and_eq_true] at h2
    have e1 := Nat.eq_of_beq_eq_true h2.1
    have e2 := Nat.eq_of_beq_eq_true h2.2
    have hz : ∀ n, Nat.ble 0 n = true := fun n => by cases n <;> rfl
    rw [e1, e2, h1]
    simp [hz]
  · cases h2
theorem ask_qS {j : Nat} {As rest : List Value} {i : Nat} (h : qS lk st = some (j, As, rest)) : ask tb M (.invokestatic i) lk L st w 0 0 = some (j, As, rest, 0, 0) := by
  unfold qS at h
  show ask_go tb M lk L st w 0 0 = _
  unfold ask_go
  split at h
  · cases h
  · rename_i g hg
    rw [hg]
    dsimp only
    have key : ask_stat tb M g L st w 0 0 = some (j, As, rest, 0, 0) := by
      unfold ask_stat
      cases hk : (Nat.beq g.2.2.1 2 || Nat.beq g.2.2.1 3) with
      | false => rw [hk] at h; cases h
      | true =>
        rw [hk] at h
        simp only [cond_true] at h
        split at h
        · rename_i q l hq
          rw [hq]
          dsimp only
          cases hb : (Nat.beq (st.take g.2.2.2.2.1).length g.2.2.2.2.1 && (ab_room (st.drop g.2.2.2.2.1) && qOK q.2.1)) with
          | false => rw [hb] at h; cases h
          | true =>
            rw [hb] at h
            cases h
            simp only [Bool.and_eq_true] at hb
            rw [hb.1]
            exact ask_inv_q hb.2.1 hb.2.2
        · cases h
    cases hk : (Nat.beq g.2.2.1 2 || Nat.beq g.2.2.1 3) with
    | false => rw [hk] at h; cases h
    | true =>
      rw [Bool.or_eq_true] at hk
      rcases hk with hk | hk
      · rw [Nat.eq_of_beq_eq_true hk]; exact key
      · rw [Nat.eq_of_beq_eq_true hk]; exact key
theorem ask_qI {c cls j : Nat} {fs As rest : List Value} {ins : Instr} (hi : isCI ins = true) (h : qI lk cls st = some (c, j, As, rest)) (hcell : ab_cell w c = some (.inl (cls, fs))) : ask tb M ins lk L st w 0 0 = some (j, As, rest, 0, 0) := by
  have hgo : ask tb M ins lk L st w 0 0 = ask_go tb M lk L st w 0 0 := by cases ins <;> first | rfl | (cases hi; done)
  rw [hgo]
  unfold qI at h
  unfold ask_go
  split at h
  · cases h
  · rename_i g hg
    rw [hg]
    dsimp only
    cases hk : (Nat.beq g.2.2.1 0 || (Nat.beq g.2.2.1 1 || (Nat.beq g.2.2.1 10 || (Nat.beq g.2.2.1 11 || Nat.beq g.2.2.1 13)))) with
    | false => rw [hk] at h; cases h
    | true =>
      rw [hk] at h
      simp only [cond_true] at h
      have key : ask_inst tb M g L st w 0 0 = some (j, As, rest, 0, 0) := by
        unfold ask_inst
        split at h
        · rename_i r rest0 hst
          rw [hst]
          dsimp only
          split at h
          · rename_i q hq
            cases hb : (Nat.beq (st.take g.2.2.2.2.1).length g.2.2.2.2.1 && (ab_room rest0 && qOK q.2.1)) with
            | false => rw [hb] at h; cases h
            | true =>
              rw [hb] at h
              cases h
              rw [hcell]
              dsimp only
              rw [hq]
              dsimp only
              simp only [Bool.and_eq_true] at hb
              rw [hb.1]
              exact ask_inv_q hb.2.1 hb.2.2
          · cases h
        · cases h
      simp only [Bool.or_eq_true] at hk
      rcases hk with hk | hk | hk | hk | hk <;> (rw [Nat.eq_of_beq_eq_true hk]; exact key)
theorem er_cS {j i : Nat} {As rest : List Value} {Q : ab_R → Prop} (hf : ab_fetch M.2.2.2.2.2.2.2 pc = some (.invokestatic i, lk)) (hq : qS lk st = some (j, As, rest)) (hp : pc + 3 = pc') (h : EC d j As w Q) (k : ∀ r, Q r → ER d M pc' L (r.1.toList ++ rest) r.2 P) : ER d M pc L st w P := by
  obtain ⟨r1, h1, h2⟩ := h
  obtain ⟨r, h3, h4⟩ := k r1 h2
  subst hp
  exact ⟨r, ev_ask hf (ask_qS hq) h1 h3, h4⟩
theorem er_cI (cls : Nat) {c j : Nat} {ins : Instr} {fs As rest : List Value} {Q : ab_R → Prop} (hf : ab_fetch M.2.2.2.2.2.2.2 pc = some (ins, lk)) (hi : isCI ins = true) (hq : qI lk cls st = some (c, j, As, rest)) (hc : Nat.blt c 79 = true) (ho : cO c (X c) (Z c) = .inl (cls, fs)) (hp : pc + 3 = pc') (h : EC d j As (Wd X Z) Q) (k : ∀ r, Q r → ER d M pc' L (r.1.toList ++ rest) r.2 P) : ER d M pc L st (Wd X Z) P := by
  obtain ⟨r1, h1, h2⟩ := h
  obtain ⟨r, h3, h4⟩ := k r1 h2
  subst hp
  exact ⟨r, ev_ask hf (ask_qI hi hq ((Wd_cell hc).trans (congrArg some ho))) h1 h3, h4⟩
theorem er_max {x y : Int32} {i : Nat} (hf : ab_fetch M.2.2.2.2.2.2.2 pc = some (.invokestatic i, lk)) (hg : (ab_nth tb.2.1 lk).map (fun g => g.2.2.1) = some 7) (hr : ab_room st = true) (hp : pc + 3 = pc') (k : ER d M pc' L (.int (if x < y then y else x) :: st) w P) : ER d M pc L (.int y :: .int x :: st) w P := by
  obtain ⟨r, h1, h2⟩ := k
  subst hp
  refine ⟨r, ev_bi (q := (.int (if x < y then y else x) :: st, w, 0, 0)) hf (fun cf => ?_) h1, h2⟩
  show ab_go tb cf M lk L (.int y :: .int x :: st) w 0 0 = _
  unfold ab_go
  cases hq : ab_nth tb.2.1 lk with
  | none => rw [hq] at hg; cases hg
  | some g =>
    rw [hq] at hg
    have e : g.2.2.1 = 7 := Option.some.inj hg
    have hz : ∀ n, Nat.ble 0 n = true := fun n => by cases n <;> rfl
    simp only [e, hr, hz]
    rfl
theorem er_min {x y : Int32} {i : Nat} (hf : ab_fetch M.2.2.2.2.2.2.2 pc = some (.invokestatic i, lk)) (hg : (ab_nth tb.2.1 lk).map (fun g => g.2.2.1) = some 8) (hr : ab_room st = true) (hp : pc + 3 = pc') (k : ER d M pc' L (.int (if y < x then y else x) :: st) w P) : ER d M pc L (.int y :: .int x :: st) w P := by
  obtain ⟨r, h1, h2⟩ := k
  subst hp
  refine ⟨r, ev_bi (q := (.int (if y < x then y else x) :: st, w, 0, 0)) hf (fun cf => ?_) h1, h2⟩
  show ab_go tb cf M lk L (.int y :: .int x :: st) w 0 0 = _
  unfold ab_go
  cases hq : ab_nth tb.2.1 lk with
  | none => rw [hq] at hg; cases hg
  | some g =>
    rw [hq] at hg
    have e : g.2.2.1 = 8 := Option.some.inj hg
    have hz : ∀ n, Nat.ble 0 n = true := fun n => by cases n <;> rfl
    simp only [e, hr, hz]
    rfl
end ERS
def PI (v : Int32) (w : ab_W) : ab_R → Prop := fun r => r = (some (.int v), w)
def PR (c : Nat) (w : ab_W) : ab_R → Prop := fun r => r = (some (.ref c), w)
def RI (v : Int32) (X : Nat → Nat → Int32) : ab_R → Prop := fun r => ∃ Z, r = (some (.int v), Wd X Z)
def RV (X : Nat → Nat → Int32) : ab_R → Prop := fun r => ∃ Z, r = (none, Wd X Z)
theorem PI_of {v x : Int32} {w : ab_W} (h : x = v) : PI v w (some (.int x), w) := by rw [h]; rfl
theorem RI_of {v x : Int32} {X X' Z : Nat → Nat → Int32} (h : x = v) (hX : X' = X) : RI v X (some (.int x), Wd X' Z) := ⟨Z, by rw [h, hX]⟩
theorem RV_of {X X' Z : Nat → Nat → Int32} (hX : X' = X) : RV X (none, Wd X' Z) := ⟨Z, by rw [hX]⟩
section ERT
variable {d pc pc' lk : Nat} {M : ab_M} {L L' : ab_Lo} {st : List Value} {w : ab_W} {P : ab_R → Prop} {X Z : Nat → Nat → Int32}
theorem er_cSi {j i : Nat} {v : Int32} {As rest : List Value} (hf : ab_fetch M.2.2.2.2.2.2.2 pc = some (.invokestatic i, lk)) (hq : qS lk st = some (j, As, rest)) (hp : pc + 3 = pc') (h : EC d j As w (PI v w)) (k : ER d M pc' L (.int v :: rest) w P) : ER d M pc L st w P :=
  er_cS hf hq hp h (fun r hr => by cases hr; exact k)
theorem er_cIi (cls : Nat) {c j : Nat} {v : Int32} {ins : Instr} {fs As rest : List Value} (hf : ab_fetch M.2.2.2.2.2.2.2 pc = some (ins, lk)) (hi : isCI ins = true) (hq : qI lk cls st = some (c, j, As, rest)) (hc : Nat.blt c 79 = true) (ho : cO c (X c) (Z c) = .inl (cls, fs)) (hp : pc + 3 = pc') (h : EC d j As (Wd X Z) (PI v (Wd X Z))) (k : ER d M pc' L (.int v :: rest) (Wd X Z) P) : ER d M pc L st (Wd X Z) P :=
  er_cI cls hf hi hq hc ho hp h (fun r hr => by cases hr; exact k)
theorem er_cIr (cls : Nat) {c j q : Nat} {ins : Instr} {fs As rest : List Value} (hf : ab_fetch M.2.2.2.2.2.2.2 pc = some (ins, lk)) (hi : isCI ins = true) (hq : qI lk cls st = some (c, j, As, rest)) (hc : Nat.blt c 79 = true) (ho : cO c (X c) (Z c) = .inl (cls, fs)) (hp : pc + 3 = pc') (h : EC d j As (Wd X Z) (PR q (Wd X Z))) (k : ER d M pc' L (.ref q :: rest) (Wd X Z) P) : ER d M pc L st (Wd X Z) P :=
  er_cI cls hf hi hq hc ho hp h (fun r hr => by cases hr; exact k)
theorem er_cIz (cls : Nat) {c j : Nat} {v : Int32} {X' : Nat → Nat → Int32} {ins : Instr} {fs As rest : List Value} (hf : ab_fetch M.2.2.2.2.2.2.2 pc = some (ins, lk)) (hi : isCI ins = true) (hq : qI lk cls st = some (c, j, As, rest)) (hc : Nat.blt c 79 = true) (ho : cO c (X c) (Z c) = .inl (cls, fs)) (hp : pc + 3 = pc') (h : EC d j As (Wd X Z) (RI v X')) (k : ∀ Z', ER d M pc' L (.int v :: rest) (Wd X' Z') P) : ER d M pc L st (Wd X Z) P :=
  er_cI cls hf hi hq hc ho hp h (fun r hr => by obtain ⟨Z', rfl⟩ := hr; exact k Z')
theorem er_cSz {j i : Nat} {v : Int32} {X' : Nat → Nat → Int32} {As rest : List Value} (hf : ab_fetch M.2.2.2.2.2.2.2 pc = some (.invokestatic i, lk)) (hq : qS lk st = some (j, As, rest)) (hp : pc + 3 = pc') (h : EC d j As (Wd X Z) (RI v X')) (k : ∀ Z', ER d M pc' L (.int v :: rest) (Wd X' Z') P) : ER d M pc L st (Wd X Z) P :=
  er_cS hf hq hp h (fun r hr => by obtain ⟨Z', rfl⟩ := hr; exact k Z')
theorem er_cIv (cls : Nat) {c j : Nat} {X' : Nat → Nat → Int32} {ins : Instr} {fs As rest : List Value} (hf : ab_fetch M.2.2.2.2.2.2.2 pc = some (ins, lk)) (hi : isCI ins = true) (hq : qI lk cls st = some (c, j, As, rest)) (hc : Nat.blt c 79 = true) (ho : cO c (X c) (Z c) = .inl (cls, fs)) (hp : pc + 3 = pc') (h : EC d j As (Wd X Z) (RV X')) (k : ∀ Z', ER d M pc' L rest (Wd X' Z') P) : ER d M pc L st (Wd X Z) P :=
  er_cI cls hf hi hq hc ho hp h (fun r hr => by obtain ⟨Z', rfl⟩ := hr; exact k Z')
theorem er_pfIX (q : Nat) {v : Int32} {c i : Nat} {e e' : ab_C} (hf : ab_fetch M.2.2.2.2.2.2.2 pc = some (.putfield i, lk)) (hc : Nat.blt c 79 = true) (he : cO c (X c) (Z c) = e) (hv : pfO lk (.int v) e = some e') (hg : cO c (u1 (X c) q v) (Z c) = e') (hp : pc + 3 = pc') (k : ER d M pc' L st (Wd (ud X c q v) Z) P) : ER d M pc L (.int v :: .ref c :: st) (Wd X Z) P := er_pfX _ hf hc he hv hg.symm hp k
theorem er_pfIZ (q : Nat) {v : Int32} {c i : Nat} {e e' : ab_C} (hf : ab_fetch M.2.2.2.2.2.2.2 pc = some (.putfield i, lk)) (hc : Nat.blt c 79 = true) (he : cO c (X c) (Z c) = e) (hv : pfO lk (.int v) e = some e') (hg : cO c (X c) (u1 (Z c) q v) = e') (hp : pc + 3 = pc') (k : ER d M pc' L st (Wd X (ud Z c q v)) P) : ER d M pc L (.int v :: .ref c :: st) (Wd X Z) P := er_pfZ _ hf hc he hv hg.symm hp k
end ERT
theorem nI_mul (a b : Nat) : nI a * nI b = nI (a * b) := (Int32.ofNat_mul a b).symm
theorem bI_eq1 {b : Bool} (h : b = true) : nI 1 = bI b := by rw [h]; rfl
theorem bI_eq0 {b : Bool} (h : b = false) : nI 0 = bI b := by rw [h]; rfl
def jb (b : Nat) : Prop := b = 9 ∨ b = 22 ∨ b = 35
def tx (t : Nat) : Prop := t = 14 ∨ t = 17 ∨ t = 27 ∨ t = 30 ∨ t = 40 ∨ t = 43
theorem cO_J0 {b : Nat} (hb : jb b) (x z : Nat → Int32) : cO b x z = .inl (7, [.ref 1, .int (x 1), .ref (b + 1), .ref (b + 2), .ref (b + 3), .ref (b + 4), .int (x 6), .int (x 7), .int (x 8), .int (x 9), .int (x 10), .ref (b + 5), .ref (b + 8), .ref (b + 11), .int (x 14), .ref (b + 12), .int (x 16), .int (x 17)]) := by
  rcases hb with rfl | rfl | rfl <;> rfl
theorem cO_J1 {b : Nat} (hb : jb b) (x z : Nat → Int32) : cO (b + 1) x z = .inr (.inl (qa 8 x)) := by
  rcases hb with rfl | rfl | rfl <;> rfl
theorem cO_J2 {b : Nat} (hb : jb b) (x z : Nat → Int32) : cO (b + 2) x z = .inr (.inl (qa 8 x)) := by
  rcases hb with rfl | rfl | rfl <;> rfl
theorem cO_J3 {b : Nat} (hb : jb b) (x z : Nat → Int32) : cO (b + 3) x z = .inr (.inl (qa 8 x)) := by
  rcases hb with rfl | rfl | rfl <;> rfl
theorem cO_J4 {b : Nat} (hb : jb b) (x z : Nat → Int32) : cO (b + 4) x z = .inr (.inl (qa 8 x)) := by
  rcases hb with rfl | rfl | rfl <;> rfl
theorem cO_J6 {b : Nat} (hb : jb b) (x z : Nat → Int32) : cO (b + 6) x z = .inr (.inl (qa 50 x)) := by
  rcases hb with rfl | rfl | rfl <;> rfl
theorem cO_J9 {b : Nat} (hb : jb b) (x z : Nat → Int32) : cO (b + 9) x z = .inr (.inl (qa 50 x)) := by
  rcases hb with rfl | rfl | rfl <;> rfl
theorem cO_J11 {b : Nat} (hb : jb b) (x z : Nat → Int32) : cO (b + 11) x z = .inr (.inl (qa 50 x)) := by
  rcases hb with rfl | rfl | rfl <;> rfl
theorem cO_J7 {b : Nat} (hb : jb b) (x z : Nat → Int32) : cO (b + 7) x z = .inr (.inl (qa 50 z)) := by
  rcases hb with rfl | rfl | rfl <;> rfl
theorem cO_J10 {b : Nat} (hb : jb b) (x z : Nat → Int32) : cO (b + 10) x z = .inr (.inl (qa 50 z)) := by
  rcases hb with rfl | rfl | rfl <;> rfl
theorem cO_J12 {b : Nat} (hb : jb b) (x z : Nat → Int32) : cO (b + 12) x z = .inr (.inl (qa 20 x)) := by
  rcases hb with rfl | rfl | rfl <;> rfl
theorem cO_J5 {b : Nat} (hb : jb b) (x z : Nat → Int32) : cO (b + 5) x z = .inl (8, [.ref (b + 6), .ref (b + 7), .int (x 2)]) := by
  rcases hb with rfl | rfl | rfl <;> rfl
theorem cO_J8 {b : Nat} (hb : jb b) (x z : Nat → Int32) : cO (b + 8) x z = .inl (8, [.ref (b + 9), .ref (b + 10), .int (x 2)]) := by
  rcases hb with rfl | rfl | rfl <;> rfl
theorem cO_T0 {t : Nat} (ht : tx t) (x z : Nat → Int32) : cO t x z = .inl (8, [.ref (t + 1), .ref (t + 2), .int (x 2)]) := by
  rcases ht with rfl | rfl | rfl | rfl | rfl | rfl <;> rfl
theorem cO_T1 {t : Nat} (ht : tx t) (x z : Nat → Int32) : cO (t + 1) x z = .inr (.inl (qa 50 x)) := by
  rcases ht with rfl | rfl | rfl | rfl | rfl | rfl <;> rfl
theorem cO_T2 {t : Nat} (ht : tx t) (x z : Nat → Int32) : cO (t + 2) x z = .inr (.inl (qa 50 z)) := by
  rcases ht with rfl | rfl | rfl | rfl | rfl | rfl <;> rfl
theorem blt_J {b : Nat} (hb : jb b) (i : Nat) (hi : Nat.ble i 12 = true) : Nat.blt (b + i) 79 = true := by
  have := Nat.le_of_ble_eq_true hi
  exact Nat.ble_eq_true_of_le (by rcases hb with rfl | rfl | rfl <;> omega)
theorem blt_T {t : Nat} (ht : tx t) (i : Nat) (hi : Nat.ble i 2 = true) : Nat.blt (t + i) 79 = true := by
  have := Nat.le_of_ble_eq_true hi
  exact Nat.ble_eq_true_of_le (by rcases ht with rfl | rfl | rfl | rfl | rfl | rfl <;> omega)
end
section
/-! MORE RULES: switches, copies, texts, the row ABOVE -/
def cpf (f g : Nat → Int32) (sp dp n : Nat) : Nat → Int32 := fun i => if dp ≤ i ∧ i < dp + n then f (i - dp + sp) else g i
theorem qa_cpy {n1 n2 sp dp n : Nat} {f g : Nat → Int32} (h1 : sp + n ≤ n1) (h2 : dp + n ≤ n2) : ab_cpy (qa n1 f) (qa n2 g) sp dp n = qa n2 (cpf f g sp dp n) := by
  apply List.ext_getElem?
  intro i
  unfold ab_cpy
  by_cases hi : i < n2
  · rw [qa_at n2 (cpf f g sp dp n) i hi]
    unfold cpf
    by_cases ha : i < dp
    · rw [List.getElem?_append_left (by rw [List.length_take, qa_len]; omega), List.getElem?_take, if_pos ha, qa_at n2 g i hi, if_neg (by omega)]
    · rw [List.getElem?_append_right (by rw [List.length_take, qa_len]; omega), List.length_take, qa_len]
      have hm : min dp n2 = dp := by omega
      rw [hm]
      by_cases hb : i < dp + n
      · rw [List.getElem?_append_left (by rw [List.length_take, List.length_drop, qa_len]; omega), List.getElem?_take, if_pos (by omega), List.getElem?_drop, qa_at n1 f _ (by omega), if_pos (by omega), show sp + (i - dp) = i - dp + sp by omega]
      · rw [List.getElem?_append_right (by rw [List.length_take, List.length_drop, qa_len]; omega), List.length_take, List.length_drop, qa_len, List.getElem?_drop, qa_at n2 g _ (by omega), if_neg (by omega)]
        congr 2
        omega
  · rw [List.getElem?_eq_none (l := qa n2 (cpf f g sp dp n)) (by rw [qa_len]; omega)]
    apply List.getElem?_eq_none
    rw [List.length_append, List.length_append, List.length_take, List.length_take, List.length_drop, List.length_drop, qa_len, qa_len]
    omega
theorem ne_toInt {x v : Int32} {k : Int} (h : ¬ x = v) (hk : v.toInt = k) : x.toInt ≠ k := fun e => h (Int32.toInt_inj.mp (by rw [e, hk]))
section ERU
variable {d pc pc' lk : Nat} {M : ab_M} {L L' : ab_Lo} {st : List Value} {w : ab_W} {P : ab_R → Prop} {X Z : Nat → Nat → Int32}
theorem er_swT (v : Int32) {x : Int32} {ins : Instr} (hf : ab_fetch M.2.2.2.2.2.2.2 pc = some (ins, lk)) (hx : x = v) (h : ab_br ins pc lk (.int v :: st) = some (pc', st)) (k : ER d M pc' L st w P) : ER d M pc L (.int x :: st) w P := by
  subst hx
  exact er_br hf h k
theorem ab_tgt_eq {pc pc' : Nat} {off : Int} {r : List Value} (h : (pc : Int) + off = (pc' : Int)) : ab_tgt pc off r = some (pc', r) := by
  unfold ab_tgt
  rw [h]
  simp
def tsOK (vs : List Int) (lo : Int) (dd : Int) : List Int → Bool
  | [] => true
  | a :: l => (decide (a = dd) || vs.contains lo) && tsOK vs (lo + 1) dd l
theorem tsOK_at {vs : List Int} {dd : Int} : ∀ {l : List Int} {lo : Int} {i : Nat} {a : Int}, tsOK vs lo dd l = true → l[i]? = some a → a = dd ∨ (lo + (i : Int)) ∈ vs
  | [], _, _, _, _, h => by simp at h
  | b :: l, lo, 0, a, h, e => by
    simp only [tsOK, Bool.and_eq_true, Bool.or_eq_true, decide_eq_true_eq, List.contains_iff_mem] at h
    simp at e
    subst e
    simpa using h.1
  | b :: l, lo, i + 1, a, h, e => by
    simp only [tsOK, Bool.and_eq_true] at h
    have := tsOK_at (i := i) h.2 (by simpa using e)
    rcases this with h1 | h1
    · exact Or.inl h1
    · right
      have e2 : lo + ((i + 1 : Nat) : Int) = lo + 1 + (i : Int) := by omega
      rw [e2]; exact h1
theorem er_tsD (vs : List Int) {x : Int32} {dd lo hi : Int} {offs : Array Int} (hf : ab_fetch M.2.2.2.2.2.2.2 pc = some (.tableswitch dd lo hi offs, lk)) (hd : (pc : Int) + dd = (pc' : Int)) (hv : tsOK vs lo dd offs.toList = true) (hs : (offs.size : Int) = hi - lo + 1) (hx : ∀ v ∈ vs, x.toInt ≠ v) (k : ER d M pc' L st w P) : ER d M pc L (.int x :: st) w P := by
  refine er_br hf ?_ k
  unfold ab_br
  dsimp only
  by_cases ho : x.toInt < lo ∨ hi < x.toInt
  · have e : (decide (x.toInt < lo) || decide (hi < x.toInt)) = true := by simpa using ho
    rw [e]
    exact ab_tgt_eq hd
  · have e : (decide (x.toInt < lo) || decide (hi < x.toInt)) = false := by
      cases hb : (decide (x.toInt < lo) || decide (hi < x.toInt)) with
      | false => rfl
      | true => exact absurd (by simpa using hb) ho
    rw [e]
    simp only [cond_false]
    have hlt : (x.toInt - lo).toNat < offs.size := by omega
    have e2 : offs[(x.toInt - lo).toNat]? = some offs[(x.toInt - lo).toNat] := Array.getElem?_eq_getElem hlt
    rw [e2]
    dsimp only
    rcases tsOK_at hv (by rw [← Array.getElem?_toList] at e2; exact e2) with h1 | h1
    · rw [h1]; exact ab_tgt_eq hd
    · exact absurd (by omega) (hx _ h1)
theorem er_lsD {x : Int32} {dd : Int} {ps : Array (Int × Int)} (hf : ab_fetch M.2.2.2.2.2.2.2 pc = some (.lookupswitch dd ps, lk)) (hd : (pc : Int) + dd = (pc' : Int)) (hs : ((ps.toList.zip (ps.toList.drop 1)).all (fun (a, next) => a.1 < next.1)) = true) (hx : ∀ v ∈ ps.toList.map (fun q => q.1), x.toInt ≠ v) (k : ER d M pc' L st w P) : ER d M pc L (.int x :: st) w P := by
  refine er_br hf ?_ k
  unfold ab_br
  dsimp only
  rw [hs]
  simp only [cond_true]
  have e : Op.lookupswitch.offset ps.toList dd x.toInt = dd := by
    generalize ps.toList = l at hx
    induction l with
    | nil => rfl
    | cons q l ih =>
      have h1 := hx q.1 (by simp)
      have h2 := ih (fun v hv => hx v (by simp only [List.map_cons, List.mem_cons]; exact Or.inr hv))
      rw [show q = (q.1, q.2) from rfl, Op.lookupswitch.offset_cons, if_neg (Ne.symm h1)]
      exact h2
  rw [e]
  exact ab_tgt_eq hd
theorem er_cp {c1 c2 n1 n2 i : Nat} {f g : Nat → Int32} {sp dp n : Nat} {x1 x2 x3 : Int32} {X' Z' : Nat → Nat → Int32} (hf : ab_fetch M.2.2.2.2.2.2.2 pc = some (.invokestatic i, lk)) (hg : (ab_nth tb.2.1 lk).map (fun g => g.2.2.1) = some 6) (hr : ab_room st = true) (hc1 : Nat.blt c1 79 = true) (hc2 : Nat.blt c2 79 = true) (he1 : cO c1 (X c1) (Z c1) = .inr (.inl (qa n1 f))) (he2 : cO c2 (X c2) (Z c2) = .inr (.inl (qa n2 g))) (h1 : x1 = nI sp) (h2 : x2 = nI dp) (h3 : x3 = nI n) (hb1 : sp + n ≤ n1) (hb2 : dp + n ≤ n2) (hn : (Nat.ble n1 1000 && Nat.ble n2 1000) = true)
    (hw : (Wd X Z).set c2 (.inr (.inl (qa n2 (cpf f g sp dp n)))) = Wd X' Z') (hp : pc + 3 = pc') (k : ER d M pc' L st (Wd X' Z') P) : ER d M pc L (.int x3 :: .int x2 :: .ref c2 :: .int x1 :: .ref c1 :: st) (Wd X Z) P := by
  obtain ⟨r, k1, k2⟩ := k
  subst hp
  subst h1
  subst h2
  subst h3
  rw [Bool.and_eq_true] at hn
  have hn1 := Nat.le_of_ble_eq_true hn.1
  have hn2 := Nat.le_of_ble_eq_true hn.2
  refine ⟨r, ev_bi (q := (st, Wd X' Z', 0, 0)) hf (fun cf => ?_) k1, k2⟩
  show ab_go tb cf M lk L _ _ 0 0 = _
  unfold ab_go
  cases hq : ab_nth tb.2.1 lk with
  | none => rw [hq] at hg; cases hg
  | some g0 =>
    rw [hq] at hg
    have e : g0.2.2.1 = 6 := Option.some.inj hg
    simp only [e]
    rw [Wd_cell hc2, Wd_cell hc1, he1, he2]
    dsimp only
    rw [hr, decide_eq_false (nI_pos (by omega)), decide_eq_false (nI_pos (by omega)), decide_eq_false (nI_pos (by omega)), nI_clamp (by omega), nI_clamp (by omega), nI_clamp (by omega), qa_len, qa_len, qa_cpy hb1 hb2, hw]
    rw [show Nat.ble (sp + n) n1 = true from Nat.ble_eq_true_of_le hb1, show Nat.ble (dp + n) n2 = true from Nat.ble_eq_true_of_le hb2]
    rfl
theorem er_cpX {c1 c2 n1 n2 i : Nat} {f : Nat → Int32} (sp dp n : Nat) {x1 x2 x3 : Int32} (hf : ab_fetch M.2.2.2.2.2.2.2 pc = some (.invokestatic i, lk)) (hg : (ab_nth tb.2.1 lk).map (fun g => g.2.2.1) = some 6) (hr : ab_room st = true) (hc1 : Nat.blt c1 79 = true) (hc2 : Nat.blt c2 79 = true) (he1 : cO c1 (X c1) (Z c1) = .inr (.inl (qa n1 f))) (he2 : ∀ f, cO c2 f (Z c2) = .inr (.inl (qa n2 f))) (h1 : x1 = nI sp) (h2 : x2 = nI dp) (h3 : x3 = nI n) (hb1 : sp + n ≤ n1) (hb2 : dp + n ≤ n2) (hn : (Nat.ble n1 1000 && Nat.ble n2 1000) = true)
    (hp : pc + 3 = pc') (k : ER d M pc' L st (Wd (uc X c2 (cpf f (X c2) sp dp n)) Z) P) : ER d M pc L (.int x3 :: .int x2 :: .ref c2 :: .int x1 :: .ref c1 :: st) (Wd X Z) P :=
  er_cp hf hg hr hc1 hc2 he1 (he2 _) h1 h2 h3 hb1 hb2 hn (Wd_setX hc2 (he2 _).symm) hp k
theorem er_cpZ {c1 c2 n1 n2 i : Nat} {f : Nat → Int32} (sp dp n : Nat) {x1 x2 x3 : Int32} (hf : ab_fetch M.2.2.2.2.2.2.2 pc = some (.invokestatic i, lk)) (hg : (ab_nth tb.2.1 lk).map (fun g => g.2.2.1) = some 6) (hr : ab_room st = true) (hc1 : Nat.blt c1 79 = true) (hc2 : Nat.blt c2 79 = true) (he1 : cO c1 (X c1) (Z c1) = .inr (.inl (qa n1 f))) (he2 : ∀ f, cO c2 (X c2) f = .inr (.inl (qa n2 f))) (h1 : x1 = nI sp) (h2 : x2 = nI dp) (h3 : x3 = nI n) (hb1 : sp + n ≤ n1) (hb2 : dp + n ≤ n2) (hn : (Nat.ble n1 1000 && Nat.ble n2 1000) = true)
    (hp : pc + 3 = pc') (k : ER d M pc' L st (Wd X (uc Z c2 (cpf f (Z c2) sp dp n))) P) : ER d M pc L (.int x3 :: .int x2 :: .ref c2 :: .int x1 :: .ref c1 :: st) (Wd X Z) P :=
  er_cp hf hg hr hc1 hc2 he1 (he2 _) h1 h2 h3 hb1 hb2 hn (Wd_setZ hc2 (he2 _).symm) hp k
theorem er_ldcR (v : Nat) {i : Nat} {q : ab_K} (hf : ab_fetch M.2.2.2.2.2.2.2 pc = some (.ldc i, lk)) (hq : ab_nth tb.2.2.1 lk = some q) (hv : q.2.2.1 = .ref v) (hp : pc + 2 = pc') (k : ER d M pc' L (.ref v :: st) w P) : ER d M pc L st w P := by
  obtain ⟨r, h1, h2⟩ := k
  subst hp
  refine ⟨r, ev_heap hf ?_ h1, h2⟩
  simp only [ab_heap, hq, hv]
theorem er_ldc2 (v : Int64) {i : Nat} {q : ab_K} (hf : ab_fetch M.2.2.2.2.2.2.2 pc = some (.ldc2_w i, lk)) (hq : ab_nth tb.2.2.1 lk = some q) (hv : q.2.2.1 = .long v) (hp : pc + 3 = pc') (k : ER d M pc' L (.long v :: st) w P) : ER d M pc L st w P := by
  obtain ⟨r, h1, h2⟩ := k
  subst hp
  refine ⟨r, ev_heap hf ?_ h1, h2⟩
  simp only [ab_heap, hq, hv]
theorem er_heap {st' : List Value} {w' : ab_W} {ins : Instr} (hf : ab_fetch M.2.2.2.2.2.2.2 pc = some (ins, lk)) (h : ab_heap tb SP ins lk st w = some (st', w')) (hp : pc + ab_len ins = pc') (k : ER d M pc' L st' w' P) : ER d M pc L st w P := by
  obtain ⟨r, h1, h2⟩ := k
  subst hp
  exact ⟨r, ev_heap hf h h1, h2⟩
theorem er_cT {c j i : Nat} {v : Int32} {As rest : List Value} (hf : ab_fetch M.2.2.2.2.2.2.2 pc = some (.invokevirtual i, lk)) (hq : ask tb M (.invokevirtual i) lk L st w 0 0 = some (j, As, rest, 0, 0)) (hp : pc + 3 = pc') (h : EC d j As w (PI v w)) (k : ER d M pc' L (.int v :: rest) w P) : ER d M pc L st w P := by
  obtain ⟨r1, h1, h2⟩ := h
  obtain ⟨r, h3, h4⟩ := k
  subst hp
  cases h2
  exact ⟨r, ev_ask hf hq h1 h3, h4⟩
theorem er_alq {c n t : Nat} {g : Nat → Option Nat} (hf : ab_fetch M.2.2.2.2.2.2.2 pc = some (.arraylength, lk)) (hc : Nat.blt c 79 = true) (he : cO c (X c) (Z c) = .inr (.inr (t, (List.range n).map g))) (ht : Nat.blt t 2 = true) (hp : pc + 1 = pc') (kk : ER d M pc' L (.int (nI n) :: st) (Wd X Z) P) : ER d M pc L (.ref c :: st) (Wd X Z) P := by
  obtain ⟨r, h1, h2⟩ := kk
  subst hp
  refine ⟨r, ev_heap hf ?_ h1, h2⟩
  have hcell := (Wd_cell (X := X) (Z := Z) hc).trans (congrArg some he)
  unfold ab_cell at hcell
  simp only [ab_heap]
  cases hb : Nat.ble ab_B c with
  | true => rw [hb] at hcell; cases hcell
  | false =>
    rw [hb] at hcell
    simp only [cond_false] at hcell ⊢
    rw [hcell]
    dsimp only
    rw [ht]
    simp only [cond_true, List.length_map, List.length_range]
    rfl
end ERU
end
section
/-! LOCALS: what a run needs of them; a run goes on with more -/
def ndL : ab_Lo → Bool
  | [] => true
  | q :: L => L.all (fun p => !(Nat.beq p.1 q.1)) && ndL L
theorem ab_get_none {L : ab_Lo} {i : Nat} (h : ∀ q ∈ L, q.1 ≠ i) : ab_get L i = none := by
  induction L with
  | nil => rfl
  | cons q L ih =>
    unfold ab_get
    have h1 := h q List.mem_cons_self
    rw [show Nat.beq q.1 i = false from by
      cases hb : Nat.beq q.1 i with
      | false => rfl
      | true => exact absurd (Nat.eq_of_beq_eq_true hb) h1]
    exact ih (fun p hp => h p (List.mem_cons_of_mem _ hp))
theorem ab_get_mem2 {L : ab_Lo} {i : Nat} {v : Value} (h : ab_get L i = some v) : (i, v) ∈ L := by
  induction L with
  | nil => cases h
  | cons q L ih =>
    unfold ab_get at h
    cases hb : Nat.beq q.1 i with
    | true =>
      rw [hb] at h
      cases h
      have : q.1 = i := Nat.eq_of_beq_eq_true hb
      subst this
      exact List.mem_cons_self
    | false => rw [hb] at h; exact List.mem_cons_of_mem _ (ih h)
theorem ab_get_of {L : ab_Lo} {i : Nat} {v : Value} (hn : ndL L = true) (h : (i, v) ∈ L) : ab_get L i = some v := by
  induction L with
  | nil => cases h
  | cons q L ih =>
    unfold ndL at hn
    rw [Bool.and_eq_true] at hn
    unfold ab_get
    rcases List.mem_cons.mp h with rfl | h1
    · rw [show Nat.beq i i = true from Nat.beq_refl i]
      rfl
    · have h2 := List.all_eq_true.mp hn.1 _ h1
      rw [show Nat.beq q.1 i = false from by
        cases hb : Nat.beq q.1 i with
        | false => rfl
        | true =>
          have e := Nat.eq_of_beq_eq_true hb
          simp only [Bool.not_eq_true'] at h2
          rw [← e, Nat.beq_refl] at h2
          cases h2]
      exact ih hn.2 h1
theorem ndL_filter {f : Nat × Value → Bool} {L : ab_Lo} (h : ndL L = true) : ndL (L.filter f) = true := by
  induction L with
  | nil => rfl
  | cons q L ih =>
    unfold ndL at h
    rw [Bool.and_eq_true] at h
    rw [List.filter_cons]
    split
    · unfold ndL
      rw [Bool.and_eq_true]
      exact ⟨List.all_eq_true.mpr (fun p hp => List.all_eq_true.mp h.1 p (List.mem_filter.mp hp).1), ih h.2⟩
    · exact ih h.2
theorem ndL_up {L : ab_Lo} {i : Nat} {v : Value} (h : ndL L = true) : ndL (ab_up L i v) = true := by
  unfold ab_up ndL
  rw [Bool.and_eq_true]
  refine ⟨List.all_eq_true.mpr (fun p hp => ?_), ndL_filter h⟩
  have := (List.mem_filter.mp hp).2
  rw [Bool.and_eq_true] at this
  have h1 := this.1
  simp only [Bool.not_eq_true', beq_eq_false_iff_ne] at h1 ⊢
  cases hb : Nat.beq p.1 i with
  | false => rfl
  | true => exact absurd (Nat.eq_of_beq_eq_true hb) h1
def SubL (L L' : ab_Lo) : Prop := ∀ i v, ab_get L i = some v → ab_get L' i = some v
theorem SubL_up {L L' : ab_Lo} {i : Nat} {v : Value} (h : SubL L L') (hn : ndL L = true) (hn' : ndL L' = true) : SubL (ab_up L i v) (ab_up L' i v) := by
  intro j u hj
  have hm := ab_get_mem2 hj
  refine ab_get_of (ndL_up hn') ?_
  unfold ab_up at hm ⊢
  rcases List.mem_cons.mp hm with h1 | h1
  · rw [h1]; exact List.mem_cons_self
  · obtain ⟨h2, h3⟩ := List.mem_filter.mp h1
    exact List.mem_cons_of_mem _ (List.mem_filter.mpr ⟨ab_get_mem2 (h _ _ (ab_get_of hn h2)), h3⟩)
theorem SubL.of {L L' : ab_Lo} (h : ∀ q ∈ L, ab_get L' q.1 = some q.2) : SubL L L' := fun _ _ hj => h _ (ab_get_mem2 hj)
section LM
variable {tb : ab_TB} {M : ab_M} {L L' : ab_Lo} {st : List Value} {w : ab_W} {cn sn : Nat} {cf : ab_Cf} {sp : List (List Int32)}
theorem loc_mono {n : Nat} {ins : Instr} {q : ab_Lo × List Value} (hs : SubL L L') (hn : ndL L = true) (hn' : ndL L' = true) (h : ab_loc n ins L st = some q) : ∃ L1', ab_loc n ins L' st = some (L1', q.2) ∧ SubL q.1 L1' ∧ ndL q.1 = true ∧ ndL L1' = true := by
  have kI : ∀ i, ab_ldi L i st = some q → ∃ L1', ab_ldi L' i st = some (L1', q.2) ∧ SubL q.1 L1' ∧ ndL q.1 = true ∧ ndL L1' = true := by
    intro i h
    unfold ab_ldi at h ⊢
    split at h
    · rename_i x hx
      cases h
      rw [hs _ _ hx]
      exact ⟨L', rfl, hs, hn, hn'⟩
    · cases h
  have kA : ∀ i, ab_lda L i st = some q → ∃ L1', ab_lda L' i st = some (L1', q.2) ∧ SubL q.1 L1' ∧ ndL q.1 = true ∧ ndL L1' = true := by
    intro i h
    unfold ab_lda at h ⊢
    split at h
    · rename_i x hx
      cases h
      rw [hs _ _ hx]
      exact ⟨L', rfl, hs, hn, hn'⟩
    · cases h
  have kS : ∀ i, ab_sti n L i st = some q → ∃ L1', ab_sti n L' i st = some (L1', q.2) ∧ SubL q.1 L1' ∧ ndL q.1 = true ∧ ndL L1' = true := by
    intro i h
    unfold ab_sti at h ⊢
    split at h
    · rename_i x r
      cases hb : Nat.blt i n with
      | false => rw [hb] at h; cases h
      | true =>
        rw [hb] at h
        cases h
        exact ⟨_, rfl, SubL_up hs hn hn', ndL_up hn, ndL_up hn'⟩
    · cases h
  have kT : ∀ i, ab_sta n L i st = some q → ∃ L1', ab_sta n L' i st = some (L1', q.2) ∧ SubL q.1 L1' ∧ ndL q.1 = true ∧ ndL L1' = true := by
    intro i h
    unfold ab_sta at h ⊢
    split at h
    · rename_i x r
      cases hb : Nat.blt i n with
      | false => rw [hb] at h; cases h
      | true =>
        rw [hb] at h
        cases h
        exact ⟨_, rfl, SubL_up hs hn hn', ndL_up hn, ndL_up hn'⟩
    · cases h
  cases ins with
  | iload i => exact kI i h
  | iload_n i => exact kI i h
  | aload i => exact kA i h
  | aload_n i => exact kA i h
  | lload_n i =>
    simp only [ab_loc] at h ⊢
    unfold ab_ldl at h ⊢
    split at h
    · rename_i x hx
      cases h
      rw [hs _ _ hx]
      exact ⟨L', rfl, hs, hn, hn'⟩
    · cases h
  | istore i => exact kS i h
  | istore_n i => exact kS i h
  | astore i => exact kT i h
  | astore_n i => exact kT i h
  | iinc i k =>
    simp only [ab_loc] at h ⊢
    split at h
    · rename_i x hx
      rw [hs _ _ hx]
      dsimp only
      cases hb : Nat.blt i n with
      | false => rw [hb] at h; cases h
      | true =>
        rw [hb] at h
        cases h
        exact ⟨_, rfl, SubL_up hs hn hn', ndL_up hn, ndL_up hn'⟩
    · cases h
  | _ => cases h
theorem inv_locs (hM : M.2.2.2.2.1 = 0) {j : Nat} {As rest : List Value} {q : List Value × ab_W × Nat × Nat} (h : ab_inv tb cf M j As L rest w cn sn = some q) : ab_inv tb cf M j As L' rest w cn sn = some q := by
  unfold ab_inv at h ⊢
  split at h
  · cases h
  · rename_i Mj hj
    try rw [hj]
    try dsimp only
    cases hb : (ab_room rest && Nat.ble (cn + Mj.2.2.2.2.1) M.2.2.2.2.1 && Nat.ble (sn + Mj.2.2.2.2.2.1) M.2.2.2.2.2.1 && (Nat.beq Mj.2.2.2.2.1 0 || (ab_okL w.length L && rest.all (ab_okv w.length)))) with
    | false => rw [hb] at h; cases h
    | true =>
      rw [hb] at h
      simp only [Bool.and_eq_true] at hb
      have e : Mj.2.2.2.2.1 = 0 := by
        have := Nat.le_of_ble_eq_true hb.1.1.2
        omega
      have hz : (ab_room rest && Nat.ble (cn + Mj.2.2.2.2.1) M.2.2.2.2.1 && Nat.ble (sn + Mj.2.2.2.2.2.1) M.2.2.2.2.2.1 && (Nat.beq Mj.2.2.2.2.1 0 || (ab_okL w.length L' && rest.all (ab_okv w.length)))) = true := by
        simp only [Bool.and_eq_true]
        refine ⟨hb.1, ?_⟩
        rw [e]
        rfl
      rw [hz]
      exact h
theorem go_locs (hM : M.2.2.2.2.1 = 0) {lk : Nat} {q : List Value × ab_W × Nat × Nat} (h : ab_go tb cf M lk L st w cn sn = some q) : ab_go tb cf M lk L' st w cn sn = some q := by
  have hst : ∀ {g : ab_G}, ab_stat tb cf M g L st w cn sn = some q → ab_stat tb cf M g L' st w cn sn = some q := by
    intro g hi
    unfold ab_stat at hi ⊢
    split at hi
    · rename_i q0 qs hq
      cases hb : Nat.beq (st.take g.2.2.2.2.1).length g.2.2.2.2.1 with
      | false => rw [hb] at hi; cases hi
      | true => rw [hb] at hi; exact inv_locs hM hi
    · cases hi
  have hin : ∀ {g : ab_G}, ab_inst tb cf M g L st w cn sn = some q → ab_inst tb cf M g L' st w cn sn = some q := by
    intro g hi
    unfold ab_inst at hi ⊢
    split at hi
    · rename_i r rest hst
      try rw [hst]
      try dsimp only
      split at hi
      · rename_i o ho
        try rw [ho]
        try dsimp only
        split at hi
        · rename_i q0 hq0
          try rw [hq0]
          try dsimp only
          cases hb : Nat.beq (st.take g.2.2.2.2.1).length g.2.2.2.2.1 with
          | false => rw [hb] at hi; cases hi
          | true => rw [hb] at hi; exact inv_locs hM hi
        · cases hi
      · cases hi
    · cases hi
  have hsi : ∀ {g : ab_G}, ab_sinst tb cf M g L st w cn sn = some q → ab_sinst tb cf M g L' st w cn sn = some q := by
    intro g hi
    unfold ab_sinst at hi ⊢
    split at hi
    · rename_i r rest hst
      try rw [hst]
      try dsimp only
      split at hi
      · rename_i q0 l0 hq0
        try rw [hq0]
        try dsimp only
        cases hb : (ab_isS r && Nat.beq (st.take g.2.2.2.2.1).length g.2.2.2.2.1) with
        | false => rw [hb] at hi; cases hi
        | true => rw [hb] at hi; exact inv_locs hM hi
      · cases hi
    · cases hi
  unfold ab_go at h ⊢
  split at h
  · cases h
  · rename_i g hg
    try rw [hg]
    try dsimp only
    split at h <;> first | exact hst h | exact hsi h | exact hin h | exact h
theorem call1_locs (hM : M.2.2.2.2.1 = 0) {ins : Instr} {lk : Nat} {q : List Value × ab_W × Nat × Nat} (h : ab_call1 tb cf M ins lk L st w cn sn = some q) : ab_call1 tb cf M ins lk L' st w cn sn = some q := by
  cases ins <;> first | exact go_locs hM h | cases h
theorem new_locs (hM : M.2.2.2.2.1 = 0) {ins : Instr} {lk : Nat} : ab_new tb M ins lk L st w cn sn = none := by
  have hz : ∀ k, Nat.ble (cn + (k + 1)) M.2.2.2.2.1 = false := by
    intro k
    rw [hM]
    cases hb : Nat.ble (cn + (k + 1)) 0 with
    | false => rfl
    | true => have := Nat.le_of_ble_eq_true hb; omega
  cases hx : ab_new tb M ins lk L st w cn sn with
  | none => rfl
  | some q =>
    exfalso
    cases ins with
    | new i =>
      simp only [ab_new] at hx
      split at hx
      · split at hx
        · rw [hz 0] at hx; simp at hx
        · cases hx
      · cases hx
    | newarray t =>
      cases t <;> simp only [ab_new] at hx <;> first | (cases hx; done) | (split at hx <;> first | (cases hx; done) | (rw [hz 0] at hx; simp at hx))
    | anewarray i =>
      simp only [ab_new] at hx
      split at hx
      · rw [hz 0] at hx; simp at hx
      · cases hx
    | multianewarray i d =>
      simp only [ab_new] at hx
      split at hx
      · rw [hz 4] at hx; simp at hx
      · cases hx
    | _ => cases hx
def exQ (y : Option (ab_St ⊕ ab_R)) (x : ab_St ⊕ ab_R) : Prop := match x with
  | .inl σ => ∃ L1', y = some (.inl (σ.1, L1', σ.2.2)) ∧ SubL σ.2.1 L1' ∧ ndL σ.2.1 = true ∧ ndL L1' = true
  | .inr r => y = some (.inr r)
theorem exec_locs (hM : M.2.2.2.2.1 = 0) {ins : Instr} {lk pc : Nat} {x : ab_St ⊕ ab_R} (hs : SubL L L') (hn : ndL L = true) (hn' : ndL L' = true) (h : ab_exec tb cf sp M ins lk pc L st w cn sn = some x) : exQ (ab_exec tb cf sp M ins lk pc L' st w cn sn) x := by
  unfold ab_exec at h ⊢
  cases h1 : ab_pure ins st with
  | some _ => rw [h1] at h; cases h; exact ⟨L', rfl, hs, hn, hn'⟩
  | none =>
    rw [h1] at h
    dsimp only at h ⊢
    cases h2 : ab_loc M.2.2.1 ins L st with
    | some q =>
      rw [h2] at h
      cases h
      obtain ⟨L1', e, k⟩ := loc_mono hs hn hn' h2
      rw [e]
      exact ⟨L1', rfl, k⟩
    | none =>
      rw [h2] at h
      dsimp only at h
      have h2' : (∃ q, ab_br ins pc lk st = some q) ∨ (∃ q, ab_heap tb sp ins lk st w = some q) ∨ (∃ q, ab_call1 tb cf M ins lk L st w cn sn = some q) ∨ (∃ q, ab_ret M.2.2.2.1 ins st = some q) → ab_loc M.2.2.1 ins L' st = none := by
        rintro (⟨q, hq⟩ | ⟨q, hq⟩ | ⟨q, hq⟩ | ⟨q, hq⟩) <;> cases ins <;> first | rfl | (cases hq; done)
      cases h3 : ab_br ins pc lk st with
      | some q =>
        rw [h3] at h
        cases h
        rw [h2' (Or.inl ⟨_, h3⟩)]
        exact ⟨L', rfl, hs, hn, hn'⟩
      | none =>
        rw [h3] at h
        dsimp only at h
        cases h4 : ab_heap tb sp ins lk st w with
        | some q =>
          rw [h4] at h
          cases h
          rw [h2' (Or.inr (Or.inl ⟨_, h4⟩))]
          exact ⟨L', rfl, hs, hn, hn'⟩
        | none =>
          rw [h4] at h
          dsimp only at h
          cases h5 : ab_call1 tb cf M ins lk L st w cn sn with
          | some q =>
            rw [h5] at h
            cases h
            rw [h2' (Or.inr (Or.inr (Or.inl ⟨_, h5⟩)))]
            dsimp only
            rw [call1_locs hM h5]
            exact ⟨L', rfl, hs, hn, hn'⟩
          | none =>
            rw [h5] at h
            dsimp only at h
            cases h6 : ab_ret M.2.2.2.1 ins st with
            | some v =>
              rw [h6] at h
              cases h
              rw [h2' (Or.inr (Or.inr (Or.inr ⟨_, h6⟩)))]
              dsimp only
              have h5' : ab_call1 tb cf M ins lk L' st w cn sn = none := by cases ins <;> first | rfl | (cases h6; done)
              rw [h5']
              rfl
            | none =>
              rw [h6, new_locs hM] at h
              cases h
theorem run_locs (hM : M.2.2.2.2.1 = 0) {r : ab_R} : ∀ (n : Nat) {pc : Nat} {L L' : ab_Lo} {st : List Value} {w : ab_W} {cn sn : Nat}, SubL L L' → ndL L = true → ndL L' = true → ab_run tb cf sp M n (pc, L, st, w, cn, sn) = some r → ab_run tb cf sp M n (pc, L', st, w, cn, sn) = some r
  | 0, _, _, _, _, _, _, _, _, _, _, h => by cases h
  | n + 1, pc, L, L', st, w, cn, sn, hs, hn, hn', h => by
    unfold ab_run at h ⊢
    unfold ab_step at h ⊢
    dsimp only at h ⊢
    cases hf : ab_fetch M.2.2.2.2.2.2.2 pc with
    | none => rw [hf] at h; cases h
    | some x =>
      rw [hf] at h
      dsimp only at h ⊢
      cases he : ab_exec tb cf sp M x.1 x.2 pc L st w cn sn with
      | none => rw [he] at h; cases h
      | some y =>
        rw [he] at h
        have k := exec_locs hM hs hn hn' he
        cases y with
        | inl σ =>
          obtain ⟨L1', e, s1, s2, s3⟩ := k
          rw [e]
          dsimp only at h ⊢
          exact run_locs hM n (pc := σ.1) (L := σ.2.1) (st := σ.2.2.1) (w := σ.2.2.2.1) (cn := σ.2.2.2.2.1) (sn := σ.2.2.2.2.2) s1 s2 s3 h
        | inr r0 =>
          have k' : ab_exec tb cf sp M x.1 x.2 pc L' st w cn sn = some (.inr r0) := k
          rw [k']
          exact h
end LM
theorem ER_loc {d pc : Nat} {M : ab_M} (L : ab_Lo) {L' : ab_Lo} {st : List Value} {w : ab_W} {P : ab_R → Prop} (hM : M.2.2.2.2.1 = 0) (hs : ∀ q ∈ L, ab_get L' q.1 = some q.2) (hn : ndL L = true) (hn' : ndL L' = true) (k : ER d M pc L st w P) : ER d M pc L' st w P := by
  obtain ⟨r, ⟨N, h1⟩, h2⟩ := k
  exact ⟨r, ⟨N, run_locs hM N (SubL.of hs) hn hn' h1⟩, h2⟩
theorem er_sw (v : Int32) {d pc pc' lk : Nat} {M : ab_M} {L : ab_Lo} {st : List Value} {w : ab_W} {P : ab_R → Prop} {x : Int32} {ins : Instr} (hf : ab_fetch M.2.2.2.2.2.2.2 pc = some (ins, lk)) (h : ab_br ins pc lk (.int v :: st) = some (pc', st)) (k1 : x = v → ER d M pc' L st w P) (k2 : ¬ x = v → ER d M pc L (.int x :: st) w P) : ER d M pc L (.int x :: st) w P := by
  by_cases hx : x = v
  · exact er_swT v hf hx h (k1 hx)
  · exact k2 hx
end
section
/-! STATIC FUNCTIONS OF NUMBERS, on both sides -/
def sIn (v a b : Int32) : Bool := !decide (v < a) && !decide (b < v)
def sHeld (v a b : Int32) : Int32 := if v < a then a else if b < v then b else v
def sErr (k : Nat) : Int32 := (-1000000000) - nI k
set_option maxRecDepth 100000 in
set_option maxHeartbeats 4000000 in
theorem l_within (d : Nat) (v a b : Int32) (w : ab_W) : EC (d + 1) 76 [.int v, .int a, .int b] w (PI (bI (sIn v a b)) w) := by
  refine er_enter (L := [(0, _), (1, _), (2, _)]) rfl rfl rfl ?_
  refine er_loc (pc' := 1) rfl rfl rfl ?_
  refine er_loc (pc' := 2) rfl rfl rfl ?_
  refine er_cm_lt (pc' := 5) rfl rfl (fun h2 => ?_) (fun h2 => ?_)
  · refine er_k (pc' := 15) (nI 0) rfl rfl rfl ?_
    refine er_ret _ rfl rfl ?_
    exact PI_of (bI_eq0 (by simp [sIn, *]))
  · refine er_loc (pc' := 6) rfl rfl rfl ?_
    refine er_loc (pc' := 7) rfl rfl rfl ?_
    refine er_cm_gt (pc' := 10) rfl rfl (fun h7 => ?_) (fun h7 => ?_)
    · refine er_k (pc' := 15) (nI 0) rfl rfl rfl ?_
      refine er_ret _ rfl rfl ?_
      exact PI_of (bI_eq0 (by simp [sIn, *]))
    · refine er_k (pc' := 11) (nI 1) rfl rfl rfl ?_
      refine er_goto rfl ?_
      refine er_ret _ rfl rfl ?_
      exact PI_of (bI_eq1 (by simp [sIn, *]))
set_option maxRecDepth 100000 in
set_option maxHeartbeats 4000000 in
theorem l_in (d : Nat) (v a b : Int32) (w : ab_W) : EC (d + 1) 128 [.int v, .int a, .int b] w (PI (bI (sIn v a b)) w) := by
  refine er_enter (L := [(0, _), (1, _), (2, _)]) rfl rfl rfl ?_
  refine er_loc (pc' := 1) rfl rfl rfl ?_
  refine er_loc (pc' := 2) rfl rfl rfl ?_
  refine er_cm_lt (pc' := 5) rfl rfl (fun h2 => ?_) (fun h2 => ?_)
  · refine er_k (pc' := 15) (nI 0) rfl rfl rfl ?_
    refine er_ret _ rfl rfl ?_
    exact PI_of (bI_eq0 (by simp [sIn, *]))
  · refine er_loc (pc' := 6) rfl rfl rfl ?_
    refine er_loc (pc' := 7) rfl rfl rfl ?_
    refine er_cm_gt (pc' := 10) rfl rfl (fun h7 => ?_) (fun h7 => ?_)
    · refine er_k (pc' := 15) (nI 0) rfl rfl rfl ?_
      refine er_ret _ rfl rfl ?_
      exact PI_of (bI_eq0 (by simp [sIn, *]))
    · refine er_k (pc' := 11) (nI 1) rfl rfl rfl ?_
      refine er_goto rfl ?_
      refine er_ret _ rfl rfl ?_
      exact PI_of (bI_eq1 (by simp [sIn, *]))
set_option maxRecDepth 100000 in
set_option maxHeartbeats 4000000 in
theorem l_held (d : Nat) (v a b : Int32) (w : ab_W) : EC (d + 1) 141 [.int v, .int a, .int b] w (PI (sHeld v a b) w) := by
  refine er_enter (L := [(0, _), (1, _), (2, _)]) rfl rfl rfl ?_
  refine er_loc (pc' := 1) rfl rfl rfl ?_
  refine er_loc (pc' := 2) rfl rfl rfl ?_
  refine er_cm_ge (pc' := 5) rfl rfl (fun h2 => ?_) (fun h2 => ?_)
  · refine er_loc (pc' := 10) rfl rfl rfl ?_
    refine er_loc (pc' := 11) rfl rfl rfl ?_
    refine er_cm_le (pc' := 14) rfl rfl (fun h11 => ?_) (fun h11 => ?_)
    · refine er_loc (pc' := 19) rfl rfl rfl ?_
      refine er_iret rfl rfl ?_
      exact PI_of (by first | rfl | (simp [sHeld, *]; done) | (simp only [sHeld, Int32.lt_iff_toInt_lt, Int32.le_iff_toInt_le] at *; (repeat' split) <;> first | rfl | omega))
    · refine er_loc (pc' := 15) rfl rfl rfl ?_
      refine er_goto rfl ?_
      refine er_iret rfl rfl ?_
      exact PI_of (by first | rfl | (simp [sHeld, *]; done) | (simp only [sHeld, Int32.lt_iff_toInt_lt, Int32.le_iff_toInt_le] at *; (repeat' split) <;> first | rfl | omega))
  · refine er_loc (pc' := 6) rfl rfl rfl ?_
    refine er_goto rfl ?_
    refine er_iret rfl rfl ?_
    exact PI_of (by first | rfl | (simp [sHeld, *]; done) | (simp only [sHeld, Int32.lt_iff_toInt_lt, Int32.le_iff_toInt_le] at *; (repeat' split) <;> first | rfl | omega))
set_option maxRecDepth 100000 in
set_option maxHeartbeats 4000000 in
theorem l_xSheet (d : Nat) (v : Int32) (w : ab_W) : EC (d + 2) 106 [.int v] w (PI (bI (sIn v (nI 0) (nI 3))) w) := by
  refine er_enter (L := [(0, _)]) rfl rfl rfl ?_
  refine er_loc (pc' := 1) rfl rfl rfl ?_
  refine er_k (pc' := 2) (nI 0) rfl rfl rfl ?_
  refine er_k (pc' := 3) (nI 3) rfl rfl rfl ?_
  refine er_cSi (pc' := 6) (rest := []) rfl rfl rfl (l_within _ _ _ _ _) ?_
  refine er_zret rfl rfl ?_
  exact PI_of rfl
set_option maxRecDepth 100000 in
set_option maxHeartbeats 4000000 in
theorem l_mSheet (d : Nat) (v : Int32) (w : ab_W) : EC (d + 2) 196 [.int v] w (PI (bI (sIn v (nI 0) (nI 3))) w) := by
  refine er_enter (L := [(0, _)]) rfl rfl rfl ?_
  refine er_loc (pc' := 1) rfl rfl rfl ?_
  refine er_k (pc' := 2) (nI 0) rfl rfl rfl ?_
  refine er_k (pc' := 3) (nI 3) rfl rfl rfl ?_
  refine er_cSi (pc' := 6) (rest := []) rfl rfl rfl (l_in _ _ _ _ _) ?_
  refine er_zret rfl rfl ?_
  exact PI_of rfl
set_option maxRecDepth 100000 in
set_option maxHeartbeats 4000000 in
theorem l_isKm (d : Nat) (v : Int32) (w : ab_W) : EC (d + 2) 127 [.int v] w (PI (bI (sIn v (nI 0) (nI 69))) w) := by
  refine er_enter (L := [(0, _)]) rfl rfl rfl ?_
  refine er_loc (pc' := 1) rfl rfl rfl ?_
  refine er_k (pc' := 2) (nI 0) rfl rfl rfl ?_
  refine er_k (pc' := 4) (nI 69) rfl rfl rfl ?_
  refine er_cSi (pc' := 7) (rest := []) rfl rfl rfl (l_in _ _ _ _ _) ?_
  refine er_zret rfl rfl ?_
  exact PI_of rfl
def sBit (x s : Int32) : Bool := decide (((x.toUInt32 >>> (s.toUInt32 &&& Int32.toUInt32 31)).toInt32 &&& nI 1) = nI 1)
def sWith (x s : Int32) (b : Bool) : Int32 := cond b (x ||| (nI 1 <<< (s &&& 31))) (x &&& ((nI 1 <<< (s &&& 31)) ^^^ (-1)))
def sUse (u : Int32) : Bool := decide (u = 0) || decide (u = nI 1)
set_option maxRecDepth 100000 in
set_option maxHeartbeats 4000000 in
theorem l_isIn (d : Nat) (x s : Int32) (w : ab_W) : EC (d + 1) 79 [.int x, .int s] w (PI (bI (sBit x s)) w) := by
  refine er_enter (L := [(0, _), (1, _)]) rfl rfl rfl ?_
  refine er_loc (pc' := 1) rfl rfl rfl ?_
  refine er_loc (pc' := 2) rfl rfl rfl ?_
  refine er_iushr (pc' := 3) rfl rfl ?_
  refine er_k (pc' := 4) (nI 1) rfl rfl rfl ?_
  refine er_iand (pc' := 5) rfl rfl ?_
  refine er_k (pc' := 6) (nI 1) rfl rfl rfl ?_
  refine er_cm_ne (pc' := 9) rfl rfl (fun h6 => ?_) (fun h6 => ?_)
  · refine er_k (pc' := 14) (nI 0) rfl rfl rfl ?_
    refine er_ret _ rfl rfl ?_
    exact PI_of (bI_eq0 (by simp [sBit, *]))
  · refine er_k (pc' := 10) (nI 1) rfl rfl rfl ?_
    refine er_goto rfl ?_
    refine er_ret _ rfl rfl ?_
    exact PI_of (bI_eq1 (by simp [sBit, *]))
set_option maxRecDepth 100000 in
set_option maxHeartbeats 4000000 in
theorem l_with (d : Nat) (x s : Int32) (b : Bool) (w : ab_W) : EC (d + 1) 82 [.int x, .int s, .int (bI b)] w (PI (sWith x s b) w) := by
  refine er_enter (L := [(0, _), (1, _), (2, _)]) rfl rfl rfl ?_
  refine er_loc (pc' := 1) rfl rfl rfl ?_
  refine er_if_eqb (pc' := 4) rfl rfl (fun h1 => ?_) (fun h1 => ?_)
  · refine er_loc (pc' := 13) rfl rfl rfl ?_
    refine er_k (pc' := 14) (nI 1) rfl rfl rfl ?_
    refine er_loc (pc' := 15) rfl rfl rfl ?_
    refine er_ishl (pc' := 16) rfl rfl ?_
    refine er_k (pc' := 17) (-1) rfl rfl rfl ?_
    refine er_ixor (pc' := 18) rfl rfl ?_
    refine er_iand (pc' := 19) rfl rfl ?_
    refine er_iret rfl rfl ?_
    exact PI_of (by simp [sWith, *])
  · refine er_loc (pc' := 5) rfl rfl rfl ?_
    refine er_k (pc' := 6) (nI 1) rfl rfl rfl ?_
    refine er_loc (pc' := 7) rfl rfl rfl ?_
    refine er_ishl (pc' := 8) rfl rfl ?_
    refine er_ior (pc' := 9) rfl rfl ?_
    refine er_goto rfl ?_
    refine er_iret rfl rfl ?_
    exact PI_of (by simp [sWith, *])
set_option maxRecDepth 100000 in
set_option maxHeartbeats 4000000 in
theorem l_isUse (d : Nat) (u : Int32) (w : ab_W) : EC (d + 1) 89 [.int u] w (PI (bI (sUse u)) w) := by
  refine er_enter (L := [(0, _)]) rfl rfl rfl ?_
  refine er_loc (pc' := 1) rfl rfl rfl ?_
  refine er_if_eq (pc' := 4) rfl rfl (fun h1 => ?_) (fun h1 => ?_)
  · refine er_k (pc' := 10) (nI 1) rfl rfl rfl ?_
    refine er_goto rfl ?_
    refine er_ret _ rfl rfl ?_
    exact PI_of (bI_eq1 (by simp [sUse, *]))
  · refine er_loc (pc' := 5) rfl rfl rfl ?_
    refine er_k (pc' := 6) (nI 1) rfl rfl rfl ?_
    refine er_cm_ne (pc' := 9) rfl rfl (fun h6 => ?_) (fun h6 => ?_)
    · refine er_k (pc' := 14) (nI 0) rfl rfl rfl ?_
      refine er_ret _ rfl rfl ?_
      exact PI_of (bI_eq0 (by simp [sUse, *]))
    · refine er_k (pc' := 10) (nI 1) rfl rfl rfl ?_
      refine er_goto rfl ?_
      refine er_ret _ rfl rfl ?_
      exact PI_of (bI_eq1 (by simp [sUse, *]))
end
section
/-! KINDS: what they do otherwise; the JOB as a row of numbers by cell and place -/
def nN (x : Int32) : Nat := x.toNatClampNeg
theorem nN_nI {n : Nat} (h : n < 2 ^ 31) : nN (nI n) = n := nI_clamp h
theorem lt7 {q : Nat} (h : q < 7) : q = 0 ∨ q = 1 ∨ q = 2 ∨ q = 3 ∨ q = 4 ∨ q = 5 ∨ q = 6 := by omega
theorem lt8 {q : Nat} (h : q < 8) : q = 0 ∨ q = 1 ∨ q = 2 ∨ q = 3 ∨ q = 4 ∨ q = 5 ∨ q = 6 ∨ q = 7 := by omega
theorem cO_S {q : Nat} (h : q < 7) (x z : Nat → Int32) : cO (2 + q) x z = .inl (q, []) := by
  rcases lt7 h with rfl | rfl | rfl | rfl | rfl | rfl | rfl <;> rfl
theorem blt_S {q : Nat} (h : q < 7) : Nat.blt (2 + q) 79 = true := Nat.ble_eq_true_of_le (by omega)
def sLasting (q : Nat) (v h m s : Int32) : Int32 := match q with
  | 0 => v
  | 1 => v + nI 1
  | 2 => v + nI 2
  | 3 => if h = nI 1 then v * nI 2 else v
  | 4 => v + nI 1 + (m - m / nI 3 * nI 3)
  | 5 => v + nI 2 + s
  | _ => (if h = nI 1 then v * nI 2 else v) + m
def sBackOf (q : Nat) (v : Int32) : Int32 := if q = 3 ∨ q = 6 then v else v / nI 2
def sNever (q : Nat) : Bool := decide (q = 2) || decide (q = 5)
def sHands (q : Nat) : Int32 := if q = 6 then nI 2 else nI 1
def tgL (q : Nat) : Nat := match q with
  | 0 => 1
  | 1 => 10
  | 2 => 13
  | 3 => 17
  | 4 => 21
  | 5 => 24
  | _ => 27
def tgB (q : Nat) : Nat := if q = 3 ∨ q = 6 then 18 else 2
def tgN (q : Nat) : Nat := if q = 2 ∨ q = 5 then 14 else 4
def tgH (q : Nat) : Nat := if q = 6 then 28 else 3
set_option maxRecDepth 100000 in
set_option maxHeartbeats 4000000 in
theorem l_lasting0 (d c : Nat) (v h m s : Int32) (X Z : Nat → Nat → Int32) (hc : Nat.blt c 79 = true) (ho : ∃ k, k < 7 ∧ c = 2 + k) : EC (d + 1) 1 [.ref c, .int v, .int h, .int m, .int s] (Wd X Z) (PI (sLasting 0 v h m s) (Wd X Z)) := by
  refine er_enter (L := [(0, _), (1, _), (2, _), (3, _), (4, _)]) rfl rfl rfl ?_
  refine er_loc (pc' := 1) rfl rfl rfl ?_
  refine er_iret rfl rfl ?_
  exact PI_of (by simp [sLasting, *])
set_option maxRecDepth 100000 in
set_option maxHeartbeats 4000000 in
theorem l_lasting1 (d c : Nat) (v h m s : Int32) (X Z : Nat → Nat → Int32) (hc : Nat.blt c 79 = true) (ho : ∃ k, k < 7 ∧ c = 2 + k) : EC (d + 1) 10 [.ref c, .int v, .int h, .int m, .int s] (Wd X Z) (PI (sLasting 1 v h m s) (Wd X Z)) := by
  refine er_enter (L := [(0, _), (1, _), (2, _), (3, _), (4, _)]) rfl rfl rfl ?_
  refine er_loc (pc' := 1) rfl rfl rfl ?_
  refine er_k (pc' := 2) (nI 1) rfl rfl rfl ?_
  refine er_iadd (pc' := 3) rfl rfl ?_
  refine er_iret rfl rfl ?_
  exact PI_of (by simp [sLasting, *])
set_option maxRecDepth 100000 in
set_option maxHeartbeats 4000000 in
theorem l_lasting2 (d c : Nat) (v h m s : Int32) (X Z : Nat → Nat → Int32) (hc : Nat.blt c 79 = true) (ho : ∃ k, k < 7 ∧ c = 2 + k) : EC (d + 1) 13 [.ref c, .int v, .int h, .int m, .int s] (Wd X Z) (PI (sLasting 2 v h m s) (Wd X Z)) := by
  refine er_enter (L := [(0, _), (1, _), (2, _), (3, _), (4, _)]) rfl rfl rfl ?_
  refine er_loc (pc' := 1) rfl rfl rfl ?_
  refine er_k (pc' := 2) (nI 2) rfl rfl rfl ?_
  refine er_iadd (pc' := 3) rfl rfl ?_
  refine er_iret rfl rfl ?_
  exact PI_of (by simp [sLasting, *])
set_option maxRecDepth 100000 in
set_option maxHeartbeats 4000000 in
theorem l_lasting3 (d c : Nat) (v h m s : Int32) (X Z : Nat → Nat → Int32) (hc : Nat.blt c 79 = true) (ho : ∃ k, k < 7 ∧ c = 2 + k) : EC (d + 1) 17 [.ref c, .int v, .int h, .int m, .int s] (Wd X Z) (PI (sLasting 3 v h m s) (Wd X Z)) := by
  refine er_enter (L := [(0, _), (1, _), (2, _), (3, _), (4, _)]) rfl rfl rfl ?_
  refine er_loc (pc' := 1) rfl rfl rfl ?_
  refine er_k (pc' := 2) (nI 1) rfl rfl rfl ?_
  refine er_cm_ne (pc' := 5) rfl rfl (fun h2 => ?_) (fun h2 => ?_)
  · refine er_loc (pc' := 12) rfl rfl rfl ?_
    refine er_iret rfl rfl ?_
    exact PI_of (by simp [sLasting, *])
  · refine er_loc (pc' := 6) rfl rfl rfl ?_
    refine er_k (pc' := 7) (nI 2) rfl rfl rfl ?_
    refine er_imul (pc' := 8) rfl rfl ?_
    refine er_goto rfl ?_
    refine er_iret rfl rfl ?_
    exact PI_of (by simp [sLasting, *])
set_option maxRecDepth 100000 in
set_option maxHeartbeats 4000000 in
theorem l_lasting4 (d c : Nat) (v h m s : Int32) (X Z : Nat → Nat → Int32) (hc : c = 2 + 4) : EC (d + 2) 21 [.ref c, .int v, .int h, .int m, .int s] (Wd X Z) (PI (sLasting 4 v h m s) (Wd X Z)) := by
  refine er_enter (L := [(0, _), (1, _), (2, _), (3, _), (4, _)]) rfl rfl rfl ?_
  subst hc
  refine er_loc (pc' := 1) rfl rfl rfl ?_
  refine er_loc (pc' := 2) rfl rfl rfl ?_
  refine er_loc (pc' := 3) rfl rfl rfl ?_
  refine er_loc (pc' := 4) rfl rfl rfl ?_
  refine er_loc (pc' := 6) rfl rfl rfl ?_
  refine er_cIi (pc' := 9) (rest := []) 4 rfl rfl rfl rfl rfl rfl (l_lasting1 _ _ _ _ _ _ _ _ rfl ⟨_, by omega, rfl⟩) ?_
  refine er_loc (pc' := 10) rfl rfl rfl ?_
  refine er_k (pc' := 11) (nI 3) rfl rfl rfl ?_
  refine er_irem (pc' := 12) rfl rfl (by decide) ?_
  refine er_iadd (pc' := 13) rfl rfl ?_
  refine er_iret rfl rfl ?_
  exact PI_of (by simp [sLasting, *])
set_option maxRecDepth 100000 in
set_option maxHeartbeats 4000000 in
theorem l_lasting5 (d c : Nat) (v h m s : Int32) (X Z : Nat → Nat → Int32) (hc : c = 2 + 5) : EC (d + 2) 24 [.ref c, .int v, .int h, .int m, .int s] (Wd X Z) (PI (sLasting 5 v h m s) (Wd X Z)) := by
  refine er_enter (L := [(0, _), (1, _), (2, _), (3, _), (4, _)]) rfl rfl rfl ?_
  subst hc
  refine er_loc (pc' := 1) rfl rfl rfl ?_
  refine er_loc (pc' := 2) rfl rfl rfl ?_
  refine er_loc (pc' := 3) rfl rfl rfl ?_
  refine er_loc (pc' := 4) rfl rfl rfl ?_
  refine er_loc (pc' := 6) rfl rfl rfl ?_
  refine er_cIi (pc' := 9) (rest := []) 5 rfl rfl rfl rfl rfl rfl (l_lasting2 _ _ _ _ _ _ _ _ rfl ⟨_, by omega, rfl⟩) ?_
  refine er_loc (pc' := 11) rfl rfl rfl ?_
  refine er_iadd (pc' := 12) rfl rfl ?_
  refine er_iret rfl rfl ?_
  exact PI_of (by simp [sLasting, *])
set_option maxRecDepth 100000 in
set_option maxHeartbeats 4000000 in
theorem l_lasting6 (d c : Nat) (v h m s : Int32) (X Z : Nat → Nat → Int32) (hc : c = 2 + 6) : EC (d + 2) 27 [.ref c, .int v, .int h, .int m, .int s] (Wd X Z) (PI (sLasting 6 v h m s) (Wd X Z)) := by
  refine er_enter (L := [(0, _), (1, _), (2, _), (3, _), (4, _)]) rfl rfl rfl ?_
  subst hc
  refine er_loc (pc' := 1) rfl rfl rfl ?_
  refine er_loc (pc' := 2) rfl rfl rfl ?_
  refine er_loc (pc' := 3) rfl rfl rfl ?_
  refine er_loc (pc' := 4) rfl rfl rfl ?_
  refine er_loc (pc' := 6) rfl rfl rfl ?_
  refine er_cIi (pc' := 9) (rest := []) 6 rfl rfl rfl rfl rfl rfl (l_lasting3 _ _ _ _ _ _ _ _ rfl ⟨_, by omega, rfl⟩) ?_
  refine er_loc (pc' := 10) rfl rfl rfl ?_
  refine er_iadd (pc' := 11) rfl rfl ?_
  refine er_iret rfl rfl ?_
  exact PI_of (by simp [sLasting, *])
theorem l_lasting (d q : Nat) (v h m s : Int32) (X Z : Nat → Nat → Int32) (hq : q < 7) : EC (d + 2) (tgL q) [.ref (2 + q), .int v, .int h, .int m, .int s] (Wd X Z) (PI (sLasting q v h m s) (Wd X Z)) := by
  rcases lt7 hq with rfl | rfl | rfl | rfl | rfl | rfl | rfl
  · exact l_lasting0 (d + 1) _ _ _ _ _ _ _ rfl ⟨0, by omega, rfl⟩
  · exact l_lasting1 (d + 1) _ _ _ _ _ _ _ rfl ⟨1, by omega, rfl⟩
  · exact l_lasting2 (d + 1) _ _ _ _ _ _ _ rfl ⟨2, by omega, rfl⟩
  · exact l_lasting3 (d + 1) _ _ _ _ _ _ _ rfl ⟨3, by omega, rfl⟩
  · exact l_lasting4 d _ _ _ _ _ _ _ rfl
  · exact l_lasting5 d _ _ _ _ _ _ _ rfl
  · exact l_lasting6 d _ _ _ _ _ _ _ rfl
set_option maxRecDepth 100000 in
set_option maxHeartbeats 4000000 in
theorem l_back (d c : Nat) (v : Int32) (w : ab_W) : EC (d + 1) 2 [.ref c, .int v] w (PI (v / nI 2) w) := by
  refine er_enter (L := [(0, _), (1, _)]) rfl rfl rfl ?_
  refine er_loc (pc' := 1) rfl rfl rfl ?_
  refine er_k (pc' := 2) (nI 2) rfl rfl rfl ?_
  refine er_idiv (pc' := 3) rfl rfl (by decide) ?_
  refine er_iret rfl rfl ?_
  exact PI_of rfl
set_option maxRecDepth 100000 in
set_option maxHeartbeats 4000000 in
theorem l_back3 (d c : Nat) (v : Int32) (w : ab_W) : EC (d + 1) 18 [.ref c, .int v] w (PI (v) w) := by
  refine er_enter (L := [(0, _), (1, _)]) rfl rfl rfl ?_
  refine er_loc (pc' := 1) rfl rfl rfl ?_
  refine er_iret rfl rfl ?_
  exact PI_of rfl
set_option maxRecDepth 100000 in
set_option maxHeartbeats 4000000 in
theorem l_never (d c : Nat) (w : ab_W) : EC (d + 1) 4 [.ref c] w (PI (bI false) w) := by
  refine er_enter (L := [(0, _)]) rfl rfl rfl ?_
  refine er_k (pc' := 1) (nI 0) rfl rfl rfl ?_
  refine er_ret _ rfl rfl ?_
  exact PI_of rfl
set_option maxRecDepth 100000 in
set_option maxHeartbeats 4000000 in
theorem l_never2 (d c : Nat) (w : ab_W) : EC (d + 1) 14 [.ref c] w (PI (bI true) w) := by
  refine er_enter (L := [(0, _)]) rfl rfl rfl ?_
  refine er_k (pc' := 1) (nI 1) rfl rfl rfl ?_
  refine er_ret _ rfl rfl ?_
  exact PI_of rfl
set_option maxRecDepth 100000 in
set_option maxHeartbeats 4000000 in
theorem l_hands (d c : Nat) (w : ab_W) : EC (d + 1) 3 [.ref c] w (PI (nI 1) w) := by
  refine er_enter (L := [(0, _)]) rfl rfl rfl ?_
  refine er_k (pc' := 1) (nI 1) rfl rfl rfl ?_
  refine er_iret rfl rfl ?_
  exact PI_of rfl
set_option maxRecDepth 100000 in
set_option maxHeartbeats 4000000 in
theorem l_hands6 (d c : Nat) (w : ab_W) : EC (d + 1) 28 [.ref c] w (PI (nI 2) w) := by
  refine er_enter (L := [(0, _)]) rfl rfl rfl ?_
  refine er_k (pc' := 1) (nI 2) rfl rfl rfl ?_
  refine er_iret rfl rfl ?_
  exact PI_of rfl
theorem l_backOf (d q : Nat) (v : Int32) (w : ab_W) (hq : q < 7) : EC (d + 1) (tgB q) [.ref (2 + q), .int v] w (PI (sBackOf q v) w) := by
  rcases lt7 hq with rfl | rfl | rfl | rfl | rfl | rfl | rfl
  · exact l_back d _ v w
  · exact l_back d _ v w
  · exact l_back d _ v w
  · exact l_back3 d _ v w
  · exact l_back d _ v w
  · exact l_back d _ v w
  · exact l_back3 d _ v w
theorem l_neverOf (d q : Nat) (w : ab_W) (hq : q < 7) : EC (d + 1) (tgN q) [.ref (2 + q)] w (PI (bI (sNever q)) w) := by
  rcases lt7 hq with rfl | rfl | rfl | rfl | rfl | rfl | rfl
  · exact l_never d _ w
  · exact l_never d _ w
  · exact l_never2 d _ w
  · exact l_never d _ w
  · exact l_never d _ w
  · exact l_never2 d _ w
  · exact l_never d _ w
theorem l_handsOf (d q : Nat) (w : ab_W) (hq : q < 7) : EC (d + 1) (tgH q) [.ref (2 + q)] w (PI (sHands q) w) := by
  rcases lt7 hq with rfl | rfl | rfl | rfl | rfl | rfl | rfl
  · exact l_hands d _ w
  · exact l_hands d _ w
  · exact l_hands d _ w
  · exact l_hands d _ w
  · exact l_hands d _ w
  · exact l_hands d _ w
  · exact l_hands6 d _ w
end
section
/-! TEXTS: what their code gives, on a pile; the class's side -/
def sVal (g a b c : Int32) : Int32 := if g = -3 then c else if g = -2 then b else if g = -1 then a else g
def sJoin (g x y : Int32) : Int32 :=
  if g = 38 then bI (!decide (x = 0) && !decide (y = 0))
  else if g = 42 then x * y
  else if g = 43 then x + y
  else if g = 45 then x - y
  else if g = 47 then (if y = 0 then nI 0 else x / y)
  else if g = 60 then bI (decide (x < y))
  else if g = 61 then bI (decide (x = y))
  else if g = 62 then bI (decide (y < x))
  else if g = 124 then bI (!decide (x = 0) || !decide (y = 0))
  else (if y = 0 then nI 0 else x - x / y * y)
def sStep (g a b c : Int32) (l : List Int32) : List Int32 :=
  if g < -3 then (if g = -33 then (match l with
    | x :: r => bI (decide (x = 0)) :: r
    | [] => []) else (match l with
    | y :: x :: r => sJoin (-g) x y :: r
    | l => l)) else sVal g a b c :: l
def sEv (f : Nat → Int32) (a b c : Int32) : Nat → List Int32
  | 0 => []
  | n + 1 => sStep (f n) a b c (sEv f a b c n)
def sDp (f : Nat → Int32) : Nat → Nat
  | 0 => 0
  | n + 1 => if f n < -3 then (if f n = -33 then sDp f n else sDp f n - 1) else sDp f n + 1
/-- a code that never takes from an empty pile, and leaves one number -/
def wfC (f : Nat → Int32) (n : Nat) : Prop := n ≤ 50 ∧ (0 < n → sDp f n = 1) ∧ ∀ i, i < n → (¬ f i < -3 → sDp f i < 50) ∧ (f i = -33 → 1 ≤ sDp f i) ∧ (f i < -3 → f i ≠ -33 → 2 ≤ sDp f i)
def Stk (z : Nat → Int32) : List Int32 → Prop
  | [] => True
  | x :: r => z r.length = x ∧ Stk z r
theorem Stk_up {z : Nat → Int32} {k : Nat} {v : Int32} : ∀ {l : List Int32}, l.length ≤ k → Stk z l → Stk (u1 z k v) l
  | [], _, _ => trivial
  | x :: r, h, hs => by
    simp only [List.length_cons] at h
    exact ⟨by rw [u1_ne (by omega)]; exact hs.1, Stk_up (by omega) hs.2⟩
theorem Stk_push {z : Nat → Int32} {l : List Int32} (v : Int32) (h : Stk z l) : Stk (u1 z l.length v) (v :: l) := ⟨u1_same _ _ _, Stk_up (Nat.le_refl _) h⟩
theorem sEv_len {f : Nat → Int32} {a b c : Int32} {n : Nat} (hw : wfC f n) : ∀ i, i ≤ n → (sEv f a b c i).length = sDp f i
  | 0, _ => rfl
  | i + 1, h => by
    have ih := sEv_len (a := a) (b := b) (c := c) hw i (by omega)
    obtain ⟨w1, w2, w3⟩ := hw.2.2 i (by omega)
    unfold sEv sDp sStep
    by_cases h1 : f i < -3
    · rw [if_pos h1, if_pos h1]
      by_cases h2 : f i = -33
      · rw [if_pos h2, if_pos h2]
        have := w2 h2
        match hl : sEv f a b c i, ih with
        | [], ih => simp at ih; omega
        | x :: r, ih => simpa using ih
      · rw [if_neg h2, if_neg h2]
        have := w3 h1 h2
        match hl : sEv f a b c i, ih with
        | [], ih => simp at ih; omega
        | [x], ih => simp at ih; omega
        | y :: x :: r, ih => simp at ih ⊢; omega
    · rw [if_neg h1, if_neg h1]
      simp [ih]
theorem bI_1 : bI true = nI 1 := rfl
theorem bI_0 : bI false = nI 0 := rfl
set_option maxRecDepth 100000 in
set_option maxHeartbeats 4000000 in
theorem l_valueOf (d : Nat) (g a b c : Int32) (w : ab_W) : EC (d + 1) 57 [.int g, .int a, .int b, .int c] w (PI (sVal g a b c) w) := by
  refine er_enter (L := [(0, _), (1, _), (2, _), (3, _)]) rfl rfl rfl ?_
  refine er_loc (pc' := 1) rfl rfl rfl ?_
  refine er_sw (-3) rfl rfl (fun s1_m3 => ?_) (fun s1_m3 => ?_)
  · refine er_loc (pc' := 33) rfl rfl rfl ?_
    refine er_iret rfl rfl ?_
    exact PI_of (by simp [sVal, *])
  refine er_sw (-2) rfl rfl (fun s1_m2 => ?_) (fun s1_m2 => ?_)
  · refine er_loc (pc' := 31) rfl rfl rfl ?_
    refine er_iret rfl rfl ?_
    exact PI_of (by simp [sVal, *])
  refine er_sw (-1) rfl rfl (fun s1_m1 => ?_) (fun s1_m1 => ?_)
  · refine er_loc (pc' := 29) rfl rfl rfl ?_
    refine er_iret rfl rfl ?_
    exact PI_of (by simp [sVal, *])
  refine er_tsD [-3, -2, -1] rfl rfl rfl rfl (List.forall_mem_cons.mpr ⟨ne_toInt s1_m3 rfl, List.forall_mem_cons.mpr ⟨ne_toInt s1_m2 rfl, List.forall_mem_cons.mpr ⟨ne_toInt s1_m1 rfl, fun _ h => absurd h List.not_mem_nil⟩⟩⟩) ?_
  refine er_loc (pc' := 35) rfl rfl rfl ?_
  refine er_iret rfl rfl ?_
  exact PI_of (by simp [sVal, *])
set_option maxRecDepth 100000 in
set_option maxHeartbeats 4000000 in
theorem l_joined (d : Nat) (g x y : Int32) (w : ab_W) : EC (d + 1) 58 [.int g, .int x, .int y] w (PI (sJoin g x y) w) := by
  refine er_enter (L := [(0, _), (1, _), (2, _)]) rfl rfl rfl ?_
  refine er_loc (pc' := 1) rfl rfl rfl ?_
  refine er_sw (38) rfl rfl (fun s1_38 => ?_) (fun s1_38 => ?_)
  · refine er_loc (pc' := 99) rfl rfl rfl ?_
    refine er_if_eq (pc' := 102) rfl rfl (fun h99 => ?_) (fun h99 => ?_)
    · refine er_k (pc' := 111) (nI 0) rfl rfl rfl ?_
      refine er_iret rfl rfl ?_
      exact PI_of (by simp [sJoin, bI, *])
    · refine er_loc (pc' := 103) rfl rfl rfl ?_
      refine er_if_eq (pc' := 106) rfl rfl (fun h103 => ?_) (fun h103 => ?_)
      · refine er_k (pc' := 111) (nI 0) rfl rfl rfl ?_
        refine er_iret rfl rfl ?_
        exact PI_of (by simp [sJoin, bI, *])
      · refine er_k (pc' := 107) (nI 1) rfl rfl rfl ?_
        refine er_goto rfl ?_
        refine er_iret rfl rfl ?_
        exact PI_of (by simp [sJoin, bI, *])
  refine er_sw (42) rfl rfl (fun s1_42 => ?_) (fun s1_42 => ?_)
  · refine er_loc (pc' := 154) rfl rfl rfl ?_
    refine er_loc (pc' := 155) rfl rfl rfl ?_
    refine er_imul (pc' := 156) rfl rfl ?_
    refine er_iret rfl rfl ?_
    exact PI_of (by simp [sJoin, bI, *])
  refine er_sw (43) rfl rfl (fun s1_43 => ?_) (fun s1_43 => ?_)
  · refine er_loc (pc' := 146) rfl rfl rfl ?_
    refine er_loc (pc' := 147) rfl rfl rfl ?_
    refine er_iadd (pc' := 148) rfl rfl ?_
    refine er_iret rfl rfl ?_
    exact PI_of (by simp [sJoin, bI, *])
  refine er_sw (45) rfl rfl (fun s1_45 => ?_) (fun s1_45 => ?_)
  · refine er_loc (pc' := 150) rfl rfl rfl ?_
    refine er_loc (pc' := 151) rfl rfl rfl ?_
    refine er_isub (pc' := 152) rfl rfl ?_
    refine er_iret rfl rfl ?_
    exact PI_of (by simp [sJoin, bI, *])
  refine er_sw (47) rfl rfl (fun s1_47 => ?_) (fun s1_47 => ?_)
  · refine er_loc (pc' := 158) rfl rfl rfl ?_
    refine er_if_ne (pc' := 161) rfl rfl (fun h158 => ?_) (fun h158 => ?_)
    · refine er_loc (pc' := 166) rfl rfl rfl ?_
      refine er_loc (pc' := 167) rfl rfl rfl ?_
      refine er_idiv (pc' := 168) rfl rfl h158 ?_
      refine er_iret rfl rfl ?_
      exact PI_of (by simp [sJoin, bI, *])
    · refine er_k (pc' := 162) (nI 0) rfl rfl rfl ?_
      refine er_goto rfl ?_
      refine er_iret rfl rfl ?_
      exact PI_of (by simp [sJoin, bI, *])
  refine er_sw (60) rfl rfl (fun s1_60 => ?_) (fun s1_60 => ?_)
  · refine er_loc (pc' := 113) rfl rfl rfl ?_
    refine er_loc (pc' := 114) rfl rfl rfl ?_
    refine er_cm_ge (pc' := 117) rfl rfl (fun h114 => ?_) (fun h114 => ?_)
    · refine er_k (pc' := 122) (nI 0) rfl rfl rfl ?_
      refine er_iret rfl rfl ?_
      exact PI_of (by simp [sJoin, bI, *])
    · refine er_k (pc' := 118) (nI 1) rfl rfl rfl ?_
      refine er_goto rfl ?_
      refine er_iret rfl rfl ?_
      exact PI_of (by simp [sJoin, bI, *])
  refine er_sw (61) rfl rfl (fun s1_61 => ?_) (fun s1_61 => ?_)
  · refine er_loc (pc' := 124) rfl rfl rfl ?_
    refine er_loc (pc' := 125) rfl rfl rfl ?_
    refine er_cm_ne (pc' := 128) rfl rfl (fun h125 => ?_) (fun h125 => ?_)
    · refine er_k (pc' := 133) (nI 0) rfl rfl rfl ?_
      refine er_iret rfl rfl ?_
      exact PI_of (by simp [sJoin, bI, *])
    · refine er_k (pc' := 129) (nI 1) rfl rfl rfl ?_
      refine er_goto rfl ?_
      refine er_iret rfl rfl ?_
      exact PI_of (by simp [sJoin, bI, *])
  refine er_sw (62) rfl rfl (fun s1_62 => ?_) (fun s1_62 => ?_)
  · refine er_loc (pc' := 135) rfl rfl rfl ?_
    refine er_loc (pc' := 136) rfl rfl rfl ?_
    refine er_cm_le (pc' := 139) rfl rfl (fun h136 => ?_) (fun h136 => ?_)
    · refine er_k (pc' := 144) (nI 0) rfl rfl rfl ?_
      refine er_iret rfl rfl ?_
      exact PI_of (by simp [sJoin, bI, *])
    · refine er_k (pc' := 140) (nI 1) rfl rfl rfl ?_
      refine er_goto rfl ?_
      refine er_iret rfl rfl ?_
      exact PI_of (by simp [sJoin, bI, *])
  refine er_sw (124) rfl rfl (fun s1_124 => ?_) (fun s1_124 => ?_)
  · refine er_loc (pc' := 85) rfl rfl rfl ?_
    refine er_if_ne (pc' := 88) rfl rfl (fun h85 => ?_) (fun h85 => ?_)
    · refine er_k (pc' := 93) (nI 1) rfl rfl rfl ?_
      refine er_goto rfl ?_
      refine er_iret rfl rfl ?_
      exact PI_of (by simp [sJoin, bI, *])
    · refine er_loc (pc' := 89) rfl rfl rfl ?_
      refine er_if_eq (pc' := 92) rfl rfl (fun h89 => ?_) (fun h89 => ?_)
      · refine er_k (pc' := 97) (nI 0) rfl rfl rfl ?_
        refine er_iret rfl rfl ?_
        exact PI_of (by simp [sJoin, bI, *])
      · refine er_k (pc' := 93) (nI 1) rfl rfl rfl ?_
        refine er_goto rfl ?_
        refine er_iret rfl rfl ?_
        exact PI_of (by simp [sJoin, bI, *])
  refine er_lsD rfl rfl rfl (List.forall_mem_cons.mpr ⟨ne_toInt s1_38 rfl, List.forall_mem_cons.mpr ⟨ne_toInt s1_42 rfl, List.forall_mem_cons.mpr ⟨ne_toInt s1_43 rfl, List.forall_mem_cons.mpr ⟨ne_toInt s1_45 rfl, List.forall_mem_cons.mpr ⟨ne_toInt s1_47 rfl, List.forall_mem_cons.mpr ⟨ne_toInt s1_60 rfl, List.forall_mem_cons.mpr ⟨ne_toInt s1_61 rfl, List.forall_mem_cons.mpr ⟨ne_toInt s1_62 rfl, List.forall_mem_cons.mpr ⟨ne_toInt s1_124 rfl, fun _ h => absurd h List.not_mem_nil⟩⟩⟩⟩⟩⟩⟩⟩⟩) ?_
  refine er_loc (pc' := 170) rfl rfl rfl ?_
  refine er_if_ne (pc' := 173) rfl rfl (fun h170 => ?_) (fun h170 => ?_)
  · refine er_loc (pc' := 178) rfl rfl rfl ?_
    refine er_loc (pc' := 179) rfl rfl rfl ?_
    refine er_irem (pc' := 180) rfl rfl h170 ?_
    refine er_iret rfl rfl ?_
    exact PI_of (by simp [sJoin, bI, *])
  · refine er_k (pc' := 174) (nI 0) rfl rfl rfl ?_
    refine er_goto rfl ?_
    refine er_iret rfl rfl ?_
    exact PI_of (by simp [sJoin, bI, *])
def okSg (g : Int32) : Prop := g = 38 ∨ g = 42 ∨ g = 43 ∨ g = 45 ∨ g = 47 ∨ g = 60 ∨ g = 61 ∨ g = 62 ∨ g = 124 ∨ g = 37
set_option maxRecDepth 100000 in
set_option maxHeartbeats 4000000 in
theorem l_twoOf (d : Nat) (g x y : Int32) (w : ab_W) (hg : okSg g) : EC (d + 1) 144 [.int g, .int x, .int y] w (PI (sJoin g x y) w) := by
  refine er_enter (L := [(0, _), (1, _), (2, _)]) rfl rfl rfl ?_
  refine er_loc (pc' := 1) rfl rfl rfl ?_
  refine er_sw (37) rfl rfl (fun s1_37 => ?_) (fun s1_37 => ?_)
  · refine er_loc (pc' := 145) rfl rfl rfl ?_
    refine er_if_ne (pc' := 148) rfl rfl (fun h145 => ?_) (fun h145 => ?_)
    · refine er_loc (pc' := 153) rfl rfl rfl ?_
      refine er_loc (pc' := 154) rfl rfl rfl ?_
      refine er_irem (pc' := 155) rfl rfl h145 ?_
      refine er_iret rfl rfl ?_
      exact PI_of (by simp [sJoin, bI, *])
    · refine er_k (pc' := 149) (nI 0) rfl rfl rfl ?_
      refine er_goto rfl ?_
      refine er_iret rfl rfl ?_
      exact PI_of (by simp [sJoin, bI, *])
  refine er_sw (38) rfl rfl (fun s1_38 => ?_) (fun s1_38 => ?_)
  · refine er_loc (pc' := 190) rfl rfl rfl ?_
    refine er_if_eq (pc' := 193) rfl rfl (fun h190 => ?_) (fun h190 => ?_)
    · refine er_k (pc' := 202) (nI 0) rfl rfl rfl ?_
      refine er_iret rfl rfl ?_
      exact PI_of (by simp [sJoin, bI, *])
    · refine er_loc (pc' := 194) rfl rfl rfl ?_
      refine er_if_eq (pc' := 197) rfl rfl (fun h194 => ?_) (fun h194 => ?_)
      · refine er_k (pc' := 202) (nI 0) rfl rfl rfl ?_
        refine er_iret rfl rfl ?_
        exact PI_of (by simp [sJoin, bI, *])
      · refine er_k (pc' := 198) (nI 1) rfl rfl rfl ?_
        refine er_goto rfl ?_
        refine er_iret rfl rfl ?_
        exact PI_of (by simp [sJoin, bI, *])
  refine er_sw (42) rfl rfl (fun s1_42 => ?_) (fun s1_42 => ?_)
  · refine er_loc (pc' := 129) rfl rfl rfl ?_
    refine er_loc (pc' := 130) rfl rfl rfl ?_
    refine er_imul (pc' := 131) rfl rfl ?_
    refine er_iret rfl rfl ?_
    exact PI_of (by simp [sJoin, bI, *])
  refine er_sw (43) rfl rfl (fun s1_43 => ?_) (fun s1_43 => ?_)
  · refine er_loc (pc' := 121) rfl rfl rfl ?_
    refine er_loc (pc' := 122) rfl rfl rfl ?_
    refine er_iadd (pc' := 123) rfl rfl ?_
    refine er_iret rfl rfl ?_
    exact PI_of (by simp [sJoin, bI, *])
  refine er_sw (45) rfl rfl (fun s1_45 => ?_) (fun s1_45 => ?_)
  · refine er_loc (pc' := 125) rfl rfl rfl ?_
    refine er_loc (pc' := 126) rfl rfl rfl ?_
    refine er_isub (pc' := 127) rfl rfl ?_
    refine er_iret rfl rfl ?_
    exact PI_of (by simp [sJoin, bI, *])
  refine er_sw (47) rfl rfl (fun s1_47 => ?_) (fun s1_47 => ?_)
  · refine er_loc (pc' := 133) rfl rfl rfl ?_
    refine er_if_ne (pc' := 136) rfl rfl (fun h133 => ?_) (fun h133 => ?_)
    · refine er_loc (pc' := 141) rfl rfl rfl ?_
      refine er_loc (pc' := 142) rfl rfl rfl ?_
      refine er_idiv (pc' := 143) rfl rfl h133 ?_
      refine er_iret rfl rfl ?_
      exact PI_of (by simp [sJoin, bI, *])
    · refine er_k (pc' := 137) (nI 0) rfl rfl rfl ?_
      refine er_goto rfl ?_
      refine er_iret rfl rfl ?_
      exact PI_of (by simp [sJoin, bI, *])
  refine er_sw (60) rfl rfl (fun s1_60 => ?_) (fun s1_60 => ?_)
  · refine er_loc (pc' := 157) rfl rfl rfl ?_
    refine er_loc (pc' := 158) rfl rfl rfl ?_
    refine er_cm_ge (pc' := 161) rfl rfl (fun h158 => ?_) (fun h158 => ?_)
    · refine er_k (pc' := 166) (nI 0) rfl rfl rfl ?_
      refine er_iret rfl rfl ?_
      exact PI_of (by simp [sJoin, bI, *])
    · refine er_k (pc' := 162) (nI 1) rfl rfl rfl ?_
      refine er_goto rfl ?_
      refine er_iret rfl rfl ?_
      exact PI_of (by simp [sJoin, bI, *])
  refine er_sw (61) rfl rfl (fun s1_61 => ?_) (fun s1_61 => ?_)
  · refine er_loc (pc' := 168) rfl rfl rfl ?_
    refine er_loc (pc' := 169) rfl rfl rfl ?_
    refine er_cm_ne (pc' := 172) rfl rfl (fun h169 => ?_) (fun h169 => ?_)
    · refine er_k (pc' := 177) (nI 0) rfl rfl rfl ?_
      refine er_iret rfl rfl ?_
      exact PI_of (by simp [sJoin, bI, *])
    · refine er_k (pc' := 173) (nI 1) rfl rfl rfl ?_
      refine er_goto rfl ?_
      refine er_iret rfl rfl ?_
      exact PI_of (by simp [sJoin, bI, *])
  refine er_sw (62) rfl rfl (fun s1_62 => ?_) (fun s1_62 => ?_)
  · refine er_loc (pc' := 179) rfl rfl rfl ?_
    refine er_loc (pc' := 180) rfl rfl rfl ?_
    refine er_cm_le (pc' := 183) rfl rfl (fun h180 => ?_) (fun h180 => ?_)
    · refine er_k (pc' := 188) (nI 0) rfl rfl rfl ?_
      refine er_iret rfl rfl ?_
      exact PI_of (by simp [sJoin, bI, *])
    · refine er_k (pc' := 184) (nI 1) rfl rfl rfl ?_
      refine er_goto rfl ?_
      refine er_iret rfl rfl ?_
      exact PI_of (by simp [sJoin, bI, *])
  refine er_tsD [37, 38, 42, 43, 45, 47, 60, 61, 62] rfl rfl rfl rfl (List.forall_mem_cons.mpr ⟨ne_toInt s1_37 rfl, List.forall_mem_cons.mpr ⟨ne_toInt s1_38 rfl, List.forall_mem_cons.mpr ⟨ne_toInt s1_42 rfl, List.forall_mem_cons.mpr ⟨ne_toInt s1_43 rfl, List.forall_mem_cons.mpr ⟨ne_toInt s1_45 rfl, List.forall_mem_cons.mpr ⟨ne_toInt s1_47 rfl, List.forall_mem_cons.mpr ⟨ne_toInt s1_60 rfl, List.forall_mem_cons.mpr ⟨ne_toInt s1_61 rfl, List.forall_mem_cons.mpr ⟨ne_toInt s1_62 rfl, fun _ h => absurd h List.not_mem_nil⟩⟩⟩⟩⟩⟩⟩⟩⟩) ?_
  have hq : g = 124 := by simp_all [okSg]
  refine er_loc (pc' := 204) rfl rfl rfl ?_
  refine er_if_ne (pc' := 207) rfl rfl (fun h204 => ?_) (fun h204 => ?_)
  · refine er_k (pc' := 212) (nI 1) rfl rfl rfl ?_
    refine er_goto rfl ?_
    refine er_iret rfl rfl ?_
    exact PI_of (by simp [sJoin, bI, *])
  · refine er_loc (pc' := 208) rfl rfl rfl ?_
    refine er_if_eq (pc' := 211) rfl rfl (fun h208 => ?_) (fun h208 => ?_)
    · refine er_k (pc' := 216) (nI 0) rfl rfl rfl ?_
      refine er_iret rfl rfl ?_
      exact PI_of (by simp [sJoin, bI, *])
    · refine er_k (pc' := 212) (nI 1) rfl rfl rfl ?_
      refine er_goto rfl ?_
      refine er_iret rfl rfl ?_
      exact PI_of (by simp [sJoin, bI, *])
end
section
/-! TEXTS: their code worked out, by loops over a pile -/
theorem nI_sub {a b : Nat} (h : b ≤ a) : nI a - nI b = nI (a - b) := by
  have e : nI a = nI (a - b) + nI b := by rw [nI_add]; congr 1; omega
  rw [e, Int32.add_sub_cancel]
theorem nI_addm1 {a : Nat} (h : 1 ≤ a) : nI a + (-1) = nI (a - 1) := by
  rw [← nI_sub h]
  exact (Int32.sub_eq_add_neg (a := nI a) (b := nI 1)).symm ▸ rfl
theorem sDp_le (f : Nat → Int32) : ∀ i, sDp f i ≤ i
  | 0 => Nat.le_refl _
  | i + 1 => by
    have := sDp_le f i
    unfold sDp
    split
    · split <;> omega
    · omega
theorem sEv_push {f : Nat → Int32} {a b c : Int32} {i : Nat} (h : ¬ f i < -3) : sEv f a b c (i + 1) = sVal (f i) a b c :: sEv f a b c i := by
  show sStep _ _ _ _ _ = _
  unfold sStep
  rw [if_neg h]
theorem sDp_push {f : Nat → Int32} {i : Nat} (h : ¬ f i < -3) : sDp f (i + 1) = sDp f i + 1 := by
  show (if _ then _ else _) = _
  rw [if_neg h]
theorem sEv_deny {f : Nat → Int32} {a b c x : Int32} {r : List Int32} {i : Nat} (h : f i < -3) (h2 : f i = -33) (hl : sEv f a b c i = x :: r) : sEv f a b c (i + 1) = bI (decide (x = 0)) :: r := by
  show sStep _ _ _ _ _ = _
  unfold sStep
  rw [if_pos h, if_pos h2, hl]
theorem sDp_deny {f : Nat → Int32} {i : Nat} (h : f i < -3) (h2 : f i = -33) : sDp f (i + 1) = sDp f i := by
  show (if _ then _ else _) = _
  rw [if_pos h, if_pos h2]
theorem sEv_join {f : Nat → Int32} {a b c x y : Int32} {r : List Int32} {i : Nat} (h : f i < -3) (h2 : ¬ f i = -33) (hl : sEv f a b c i = y :: x :: r) : sEv f a b c (i + 1) = sJoin (-f i) x y :: r := by
  show sStep _ _ _ _ _ = _
  unfold sStep
  rw [if_pos h, if_neg h2, hl]
theorem sDp_join {f : Nat → Int32} {i : Nat} (h : f i < -3) (h2 : ¬ f i = -33) : sDp f (i + 1) = sDp f i - 1 := by
  show (if _ then _ else _) = _
  rw [if_pos h, if_neg h2]
theorem ne_nil {l : List Int32} {n : Nat} (h : l.length = n) (hn : 1 ≤ n) : ∃ x r, l = x :: r ∧ r.length = n - 1 := by
  match l, h with
  | [], h => simp at h; omega
  | x :: r, h => exact ⟨x, r, rfl, by simp at h; omega⟩
theorem ne_nil2 {l : List Int32} {n : Nat} (h : l.length = n) (hn : 2 ≤ n) : ∃ y x r, l = y :: x :: r ∧ r.length = n - 2 := by
  match l, h with
  | [], h => simp at h; omega
  | [x], h => simp at h; omega
  | y :: x :: r, h => exact ⟨y, x, r, rfl, by simp at h; omega⟩
theorem Stk_one {z : Nat → Int32} {l : List Int32} (h : Stk z l) (hl : l.length = 1) : z 0 = l.headD 0 := by
  match l, hl with
  | [x], _ => exact h.1
def sVl (f : Nat → Int32) (n : Nat) (a b c : Int32) : Int32 := (sEv f a b c n).headD 0
set_option maxRecDepth 100000 in
set_option maxHeartbeats 4000000 in
theorem l_wo_loop (d : Nat) {t : Nat} (ht : tx t) (X : Nat → Nat → Int32) (a b c : Int32) (len : Nat) (hl : X t 2 = nI len) (hw : wfC (X (t + 1)) len) (h0 : 0 < len) : ∀ (m i : Nat) (Z : Nat → Nat → Int32), i + m = len → Stk (Z (t + 2)) (sEv (X (t + 1)) a b c i) → ER (d + 1) tb_m56 6 [(0, .ref t), (1, .int a), (2, .int b), (3, .int c), (4, .int (nI (sDp (X (t + 1)) i))), (5, .int (nI i))] [] (Wd X Z) (RI (sVl (X (t + 1)) len a b c) X)
  | 0, i, Z, hi, hs => by
    have hi : i = len := by omega
    subst hi
    have h50 := hw.1
    refine er_loc (pc' := 8) rfl rfl rfl ?_
    refine er_loc (pc' := 9) rfl rfl rfl ?_
    refine er_gf (pc' := 12) (_) rfl (blt_T ht 0 rfl) (cO_T0 ht _ _) rfl rfl ?_
    rw [hl]
    refine er_cm_geT rfl (nI_nlt (by omega) (by omega)) ?_
    refine er_loc (pc' := 151) rfl rfl rfl ?_
    refine er_gf (pc' := 154) (_) rfl (blt_T ht 0 rfl) (cO_T0 ht _ _) rfl rfl ?_
    refine er_k (pc' := 155) (nI 0) rfl rfl rfl ?_
    refine er_ia (pc' := 156) (0) rfl (blt_T ht 2 rfl) (cO_T2 ht _ _) rfl (by omega) rfl rfl ?_
    refine er_iret rfl rfl ?_
    exact ⟨_, by rw [Stk_one hs (by rw [sEv_len hw _ (Nat.le_refl _)]; exact hw.2.1 h0)]; rfl⟩
  | m + 1, i, Z, hi, hs => by
    have h50 := hw.1
    obtain ⟨w1, w2, w3⟩ := hw.2.2 i (by omega)
    have hlen := sEv_len (a := a) (b := b) (c := c) hw i (by omega)
    have hd50 : sDp (X (t + 1)) i ≤ 50 := Nat.le_trans (sDp_le _ i) (by omega)
    refine er_loc (pc' := 8) rfl rfl rfl ?_
    refine er_loc (pc' := 9) rfl rfl rfl ?_
    refine er_gf (pc' := 12) (_) rfl (blt_T ht 0 rfl) (cO_T0 ht _ _) rfl rfl ?_
    rw [hl]
    refine er_cm_geF (pc' := 15) rfl (nI_lt (by omega) (by omega)) rfl ?_
    refine er_loc (pc' := 16) rfl rfl rfl ?_
    refine er_gf (pc' := 19) (_) rfl (blt_T ht 0 rfl) (cO_T0 ht _ _) rfl rfl ?_
    refine er_loc (pc' := 21) rfl rfl rfl ?_
    refine er_ia (pc' := 22) (i) rfl (blt_T ht 1 rfl) (cO_T1 ht _ _) rfl (by omega) rfl rfl ?_
    refine er_loc (pc' := 24) (L' := [(6, _), (0, _), (1, _), (2, _), (3, _), (4, _), (5, _)]) rfl rfl rfl ?_
    refine er_loc (pc' := 26) rfl rfl rfl ?_
    refine er_k (pc' := 28) (-3) rfl rfl rfl ?_
    refine er_cm_lt (pc' := 31) rfl rfl (fun h28 => ?_) (fun h28 => ?_)
    · refine er_loc (pc' := 64) rfl rfl rfl ?_
      refine er_k (pc' := 66) (-33) rfl rfl rfl ?_
      refine er_cm_ne (pc' := 69) rfl rfl (fun h66 => ?_) (fun h66 => ?_)
      · have d1 := w3 h28 h66
        obtain ⟨y0, x0, r0, hl0, hr0⟩ := ne_nil2 hlen d1
        have hz0 := hs
        rw [hl0] at hz0
        refine er_loc (pc' := 106) rfl rfl rfl ?_
        refine er_k (pc' := 107) (nI 2) rfl rfl rfl ?_
        refine er_cm_ltF (pc' := 110) rfl (nI_nlt d1 (by omega)) rfl ?_
        refine er_loc (pc' := 113) (L' := [(4, .int (_ + (-1))), (6, _), (0, _), (1, _), (2, _), (3, _), (5, _)]) rfl rfl rfl ?_
        rw [nI_addm1 (by omega)]
        refine er_loc (pc' := 114) rfl rfl rfl ?_
        refine er_gf (pc' := 117) (_) rfl (blt_T ht 0 rfl) (cO_T0 ht _ _) rfl rfl ?_
        refine er_loc (pc' := 119) rfl rfl rfl ?_
        refine er_k (pc' := 120) (nI 1) rfl rfl rfl ?_
        refine er_isub rfl rfl ?_
        refine er_loc (pc' := 123) rfl rfl rfl ?_
        refine er_ineg (pc' := 124) rfl rfl ?_
        refine er_loc (pc' := 125) rfl rfl rfl ?_
        refine er_gf (pc' := 128) (_) rfl (blt_T ht 0 rfl) (cO_T0 ht _ _) rfl rfl ?_
        refine er_loc (pc' := 130) rfl rfl rfl ?_
        refine er_k (pc' := 131) (nI 1) rfl rfl rfl ?_
        refine er_isub (pc' := 132) rfl rfl ?_
        refine er_ia (pc' := 133) (sDp (X (t + 1)) i - 2) rfl (blt_T ht 2 rfl) (cO_T2 ht _ _) ((nI_sub (by omega)).trans (congrArg nI (by omega))) (by omega) rfl rfl ?_
        refine er_loc (pc' := 134) rfl rfl rfl ?_
        refine er_gf (pc' := 137) (_) rfl (blt_T ht 0 rfl) (cO_T0 ht _ _) rfl rfl ?_
        refine er_loc (pc' := 139) rfl rfl rfl ?_
        refine er_ia (pc' := 140) (sDp (X (t + 1)) i - 1) rfl (blt_T ht 2 rfl) (cO_T2 ht _ _) rfl (by omega) rfl rfl ?_
        refine er_cSi (pc' := 143) (rest := [_, _]) rfl rfl rfl (l_joined _ _ _ _ _) ?_
        refine er_isZ (pc' := 144) (sDp (X (t + 1)) i - 2) rfl (blt_T ht 2 rfl) (fun f => cO_T2 ht _ f) ((nI_sub (by omega)).trans (congrArg nI (by omega))) (by omega) rfl rfl ?_
        refine er_loc (L' := [(5, .int (_ + nI 1)), (4, _), (6, _), (0, _), (1, _), (2, _), (3, _)]) rfl rfl rfl ?_
        refine er_goto rfl ?_
        rw [nI_add]
        refine ER_loc [(0, _), (1, _), (2, _), (3, _), (4, _), (5, _)] rfl (List.forall_mem_cons.mpr ⟨rfl, List.forall_mem_cons.mpr ⟨rfl, List.forall_mem_cons.mpr ⟨rfl, List.forall_mem_cons.mpr ⟨rfl, List.forall_mem_cons.mpr ⟨rfl, List.forall_mem_cons.mpr ⟨rfl, fun _ h => absurd h List.not_mem_nil⟩⟩⟩⟩⟩⟩) rfl rfl ?_
        have ih := fun Z1 => l_wo_loop d ht X a b c len hl hw h0 m (i + 1) Z1 (by omega)
        rw [sDp_join h28 h66] at ih
        refine ih _ ?_
        rw [ud_same]
        rw [sEv_join h28 h66 hl0, show Z (t + 2) (sDp (X (t + 1)) i - 2) = x0 from by rw [← hr0]; exact hz0.2.1, show Z (t + 2) (sDp (X (t + 1)) i - 1) = y0 from by rw [show sDp (X (t + 1)) i - 1 = (x0 :: r0).length from by simp only [List.length_cons]; omega]; exact hz0.1, ← hr0]
        exact Stk_push _ hz0.2.2
      · have d1 := w2 h66
        obtain ⟨x0, r0, hl0, hr0⟩ := ne_nil hlen d1
        have hz0 := hs
        rw [hl0] at hz0
        refine er_loc (pc' := 71) rfl rfl rfl ?_
        refine er_k (pc' := 72) (nI 1) rfl rfl rfl ?_
        refine er_cm_ltF (pc' := 75) rfl (nI_nlt d1 (by omega)) rfl ?_
        refine er_loc (pc' := 76) rfl rfl rfl ?_
        refine er_gf (pc' := 79) (_) rfl (blt_T ht 0 rfl) (cO_T0 ht _ _) rfl rfl ?_
        refine er_loc (pc' := 81) rfl rfl rfl ?_
        refine er_k (pc' := 82) (nI 1) rfl rfl rfl ?_
        refine er_isub (pc' := 83) rfl rfl ?_
        refine er_loc (pc' := 84) rfl rfl rfl ?_
        refine er_gf (pc' := 87) (_) rfl (blt_T ht 0 rfl) (cO_T0 ht _ _) rfl rfl ?_
        refine er_loc (pc' := 89) rfl rfl rfl ?_
        refine er_k (pc' := 90) (nI 1) rfl rfl rfl ?_
        refine er_isub (pc' := 91) rfl rfl ?_
        refine er_ia (pc' := 92) (sDp (X (t + 1)) i - 1) rfl (blt_T ht 2 rfl) (cO_T2 ht _ _) (nI_sub d1) (by omega) rfl rfl ?_
        rw [show Z (t + 2) (sDp (X (t + 1)) i - 1) = x0 from by rw [← hr0]; exact hz0.1]
        refine er_if_ne (pc' := 95) rfl rfl (fun h92 => ?_) (fun h92 => ?_)
        · refine er_k (nI 0) rfl rfl rfl ?_
          refine er_isZ (pc' := 101) (sDp (X (t + 1)) i - 1) rfl (blt_T ht 2 rfl) (fun f => cO_T2 ht _ f) (nI_sub d1) (by omega) rfl rfl ?_
          refine er_goto rfl ?_
          refine er_loc (L' := [(5, .int (_ + nI 1)), (6, _), (0, _), (1, _), (2, _), (3, _), (4, _)]) rfl rfl rfl ?_
          refine er_goto rfl ?_
          rw [nI_add]
          refine ER_loc [(0, _), (1, _), (2, _), (3, _), (4, _), (5, _)] rfl (List.forall_mem_cons.mpr ⟨rfl, List.forall_mem_cons.mpr ⟨rfl, List.forall_mem_cons.mpr ⟨rfl, List.forall_mem_cons.mpr ⟨rfl, List.forall_mem_cons.mpr ⟨rfl, List.forall_mem_cons.mpr ⟨rfl, fun _ h => absurd h List.not_mem_nil⟩⟩⟩⟩⟩⟩) rfl rfl ?_
          have ih := fun Z1 => l_wo_loop d ht X a b c len hl hw h0 m (i + 1) Z1 (by omega)
          rw [sDp_deny h28 h66] at ih
          refine ih _ ?_
          rw [ud_same]
          rw [sEv_deny h28 h66 hl0, decide_eq_false h92, ← hr0]
          exact Stk_push _ hz0.2
        · refine er_k (nI 1) rfl rfl rfl ?_
          refine er_goto rfl ?_
          refine er_isZ (pc' := 101) (sDp (X (t + 1)) i - 1) rfl (blt_T ht 2 rfl) (fun f => cO_T2 ht _ f) (nI_sub d1) (by omega) rfl rfl ?_
          refine er_goto rfl ?_
          refine er_loc (L' := [(5, .int (_ + nI 1)), (6, _), (0, _), (1, _), (2, _), (3, _), (4, _)]) rfl rfl rfl ?_
          refine er_goto rfl ?_
          rw [nI_add]
          refine ER_loc [(0, _), (1, _), (2, _), (3, _), (4, _), (5, _)] rfl (List.forall_mem_cons.mpr ⟨rfl, List.forall_mem_cons.mpr ⟨rfl, List.forall_mem_cons.mpr ⟨rfl, List.forall_mem_cons.mpr ⟨rfl, List.forall_mem_cons.mpr ⟨rfl, List.forall_mem_cons.mpr ⟨rfl, fun _ h => absurd h List.not_mem_nil⟩⟩⟩⟩⟩⟩) rfl rfl ?_
          have ih := fun Z1 => l_wo_loop d ht X a b c len hl hw h0 m (i + 1) Z1 (by omega)
          rw [sDp_deny h28 h66] at ih
          refine ih _ ?_
          rw [ud_same]
          rw [sEv_deny h28 h66 hl0, decide_eq_true h92, ← hr0]
          exact Stk_push _ hz0.2
    · refine er_loc (pc' := 33) rfl rfl rfl ?_
      refine er_loc (pc' := 34) rfl rfl rfl ?_
      refine er_gf (pc' := 37) (_) rfl (blt_T ht 0 rfl) (cO_T0 ht _ _) rfl rfl ?_
      refine er_al (pc' := 38) rfl (blt_T ht 2 rfl) (cO_T2 ht _ _) rfl ?_
      refine er_cm_geF (pc' := 41) rfl (nI_lt (w1 h28) (by omega)) rfl ?_
      refine er_loc (pc' := 42) rfl rfl rfl ?_
      refine er_gf (pc' := 45) (_) rfl (blt_T ht 0 rfl) (cO_T0 ht _ _) rfl rfl ?_
      refine er_loc (pc' := 47) rfl rfl rfl ?_
      refine er_loc (pc' := 49) rfl rfl rfl ?_
      refine er_loc (pc' := 50) rfl rfl rfl ?_
      refine er_loc (pc' := 51) rfl rfl rfl ?_
      refine er_loc (pc' := 52) rfl rfl rfl ?_
      refine er_cSi (pc' := 55) (rest := [_, _]) rfl rfl rfl (l_valueOf _ _ _ _ _ _) ?_
      refine er_isZ (sDp (X (t + 1)) i) rfl (blt_T ht 2 rfl) (fun f => cO_T2 ht _ f) rfl (w1 h28) rfl rfl ?_
      refine er_loc (pc' := 59) (L' := [(4, .int (_ + nI 1)), (6, _), (0, _), (1, _), (2, _), (3, _), (5, _)]) rfl rfl rfl ?_
      refine er_goto rfl ?_
      refine er_loc (L' := [(5, .int (_ + nI 1)), (4, _), (6, _), (0, _), (1, _), (2, _), (3, _)]) rfl rfl rfl ?_
      refine er_goto rfl ?_
      rw [nI_add, nI_add]
      refine ER_loc [(0, _), (1, _), (2, _), (3, _), (4, _), (5, _)] rfl (List.forall_mem_cons.mpr ⟨rfl, List.forall_mem_cons.mpr ⟨rfl, List.forall_mem_cons.mpr ⟨rfl, List.forall_mem_cons.mpr ⟨rfl, List.forall_mem_cons.mpr ⟨rfl, List.forall_mem_cons.mpr ⟨rfl, fun _ h => absurd h List.not_mem_nil⟩⟩⟩⟩⟩⟩) rfl rfl ?_
      have ih := fun Z1 => l_wo_loop d ht X a b c len hl hw h0 m (i + 1) Z1 (by omega)
      rw [sDp_push h28] at ih
      refine ih _ ?_
      rw [ud_same]
      rw [sEv_push h28, ← hlen]
      exact Stk_push _ hs
set_option maxRecDepth 100000 in
set_option maxHeartbeats 4000000 in
theorem l_workedOut (d : Nat) {t : Nat} (ht : tx t) (X Z : Nat → Nat → Int32) (a b c : Int32) (len : Nat) (hl : X t 2 = nI len) (hw : wfC (X (t + 1)) len) (h0 : 0 < len) : EC (d + 2) 56 [.ref t, .int a, .int b, .int c] (Wd X Z) (RI (sVl (X (t + 1)) len a b c) X) := by
  refine er_enter (L := [(0, _), (1, _), (2, _), (3, _)]) rfl rfl rfl ?_
  refine er_k (pc' := 1) (nI 0) rfl rfl rfl ?_
  refine er_loc (pc' := 3) (L' := [(4, _), (0, _), (1, _), (2, _), (3, _)]) rfl rfl rfl ?_
  refine er_k (pc' := 4) (nI 0) rfl rfl rfl ?_
  refine er_loc (pc' := 6) (L' := [(5, _), (4, _), (0, _), (1, _), (2, _), (3, _)]) rfl rfl rfl ?_
  refine ER_loc [(0, _), (1, _), (2, _), (3, _), (4, _), (5, _)] rfl (List.forall_mem_cons.mpr ⟨rfl, List.forall_mem_cons.mpr ⟨rfl, List.forall_mem_cons.mpr ⟨rfl, List.forall_mem_cons.mpr ⟨rfl, List.forall_mem_cons.mpr ⟨rfl, List.forall_mem_cons.mpr ⟨rfl, fun _ h => absurd h List.not_mem_nil⟩⟩⟩⟩⟩⟩) rfl rfl ?_
  exact l_wo_loop d ht X a b c len hl hw h0 len 0 _ (by omega) trivial
set_option maxRecDepth 100000 in
set_option maxHeartbeats 4000000 in
theorem l_isGiven (d : Nat) {t : Nat} (ht : tx t) (X Z : Nat → Nat → Int32) (len : Nat) (hl : X t 2 = nI len) (h50 : len ≤ 50) : EC (d + 1) 55 [.ref t] (Wd X Z) (PI (bI (decide (0 < len))) (Wd X Z)) := by
  refine er_enter (L := [(0, _)]) rfl rfl rfl ?_
  refine er_loc (pc' := 1) rfl rfl rfl ?_
  refine er_gf (pc' := 4) (_) rfl (blt_T ht 0 rfl) (cO_T0 ht _ _) rfl rfl ?_
  rw [hl]
  refine er_if_le (pc' := 7) rfl rfl (fun h4 => ?_) (fun h4 => ?_)
  · have hq : len = 0 := by
      rcases Nat.eq_zero_or_pos len with h | h
      · exact h
      · exact absurd (nI_lt h (by omega)) h4
    refine er_k (pc' := 12) (nI 0) rfl rfl rfl ?_
    refine er_ret _ rfl rfl ?_
    exact PI_of (bI_eq0 (by simp [hq]))
  · have hq : 0 < len := by
      rcases Nat.eq_zero_or_pos len with h | h
      · subst h; exact absurd h4 (by decide +kernel)
      · exact h
    refine er_k (pc' := 8) (nI 1) rfl rfl rfl ?_
    refine er_goto rfl ?_
    refine er_ret _ rfl rfl ?_
    exact PI_of (bI_eq1 (by simp [hq]))
end
section
/-! JOBS: what a JOB holds, as numbers; what follows from it; the first methods over it -/
def okF (k : Nat) : Bool := k == 1 || k == 6 || k == 7 || k == 8 || k == 9 || k == 10 || k == 14 || k == 16 || k == 17
def jx (X : Nat → Nat → Int32) (b : Nat) : Nat → Nat → Int32 := fun i k => match i with
  | 0 => if okF k = true then X b k else 0
  | 1 => if k < 8 then X (b + 1) k else 0
  | 2 => if k < 8 then X (b + 2) k else 0
  | 3 => if k < 8 then X (b + 3) k else 0
  | 4 => if k < 8 then X (b + 4) k else 0
  | 5 => if k = 0 then X (b + 5) 2 else 0
  | 6 => if k < nN (X (b + 5) 2) then X (b + 6) k else 0
  | 7 => if k = 0 then X (b + 8) 2 else 0
  | 8 => if k < nN (X (b + 8) 2) then X (b + 9) k else 0
  | 9 => if k < 50 then X (b + 11) k else 0
  | 10 => if k < 20 then X (b + 12) k else 0
  | _ => 0
section JX
variable {X : Nat → Nat → Int32} {b k : Nat}
theorem jx0 (h : okF k = true) : jx X b 0 k = X b k := if_pos h
theorem jx1 (h : k < 8) : jx X b 1 k = X (b + 1) k := if_pos h
theorem jx2 (h : k < 8) : jx X b 2 k = X (b + 2) k := if_pos h
theorem jx3 (h : k < 8) : jx X b 3 k = X (b + 3) k := if_pos h
theorem jx4 (h : k < 8) : jx X b 4 k = X (b + 4) k := if_pos h
theorem jx5 : jx X b 5 0 = X (b + 5) 2 := id rfl
theorem jx6 (h : k < nN (X (b + 5) 2)) : jx X b 6 k = X (b + 6) k := if_pos h
theorem jx7 : jx X b 7 0 = X (b + 8) 2 := id rfl
theorem jx8 (h : k < nN (X (b + 8) 2)) : jx X b 8 k = X (b + 9) k := if_pos h
theorem jx9 (h : k < 50) : jx X b 9 k = X (b + 11) k := if_pos h
theorem jx10 (h : k < 20) : jx X b 10 k = X (b + 12) k := if_pos h
theorem jx01 : jx X b 0 1 = X b 1 := jx0 rfl
theorem jx06 : jx X b 0 6 = X b 6 := jx0 rfl
theorem jx07 : jx X b 0 7 = X b 7 := jx0 rfl
theorem jx08 : jx X b 0 8 = X b 8 := jx0 rfl
theorem jx09 : jx X b 0 9 = X b 9 := jx0 rfl
theorem jx010 : jx X b 0 10 = X b 10 := jx0 rfl
theorem jx014 : jx X b 0 14 = X b 14 := jx0 rfl
theorem jx016 : jx X b 0 16 = X b 16 := jx0 rfl
theorem jx017 : jx X b 0 17 = X b 17 := jx0 rfl
end JX
def bt (x : Int32) (i : Nat) : Bool := x.toBitVec.getLsbD i
def isN (v : Int32) (B : Nat) : Prop := v = nI (nN v) ∧ nN v ≤ B
theorem isN.of {n B : Nat} (h : n ≤ B) (hB : B < 2 ^ 31) : isN (nI n) B := by
  unfold isN
  rw [nN_nI (by omega)]
  exact ⟨rfl, h⟩
abbrev jn (J : Nat → Nat → Int32) : Nat := nN (J 0 1)
abbrev jl (J : Nat → Nat → Int32) : Nat := nN (J 5 0)
abbrev je (J : Nat → Nat → Int32) : Nat := nN (J 7 0)
def IJ (T : Nat) (J : Nat → Nat → Int32) : Prop :=
  isN (J 0 1) 8 ∧ (∀ k, isN (J 1 k) 6) ∧ (∀ k, isN (J 2 k) 9) ∧ (∀ k, isN (J 3 k) 9) ∧ (∀ k i, bt (J 4 k) i = true → i < k) ∧ (∀ i, bt (J 0 6) i = true → i < jn J) ∧ (∀ i, bt (J 0 7) i = true → i < jn J)
  ∧ (J 0 8 = nI 1 ∨ J 0 8 = nI 2) ∧ isN (J 0 9) 999 ∧ isN (J 0 10) T ∧ (isN (J 5 0) 50 ∧ wfC (J 6) (jl J)) ∧ (isN (J 7 0) 50 ∧ wfC (J 8) (je J)) ∧ isN (J 0 14) 50 ∧ isN (J 0 16) 20 ∧ (∀ k, isN (J 9 k) 255)
section IJS
variable {T : Nat} {J : Nat → Nat → Int32}
theorem IJ.n (h : IJ T J) : isN (J 0 1) 8 := h.1
theorem IJ.kind (h : IJ T J) : ∀ k, isN (J 1 k) 6 := h.2.1
theorem IJ.m (h : IJ T J) : ∀ k, isN (J 2 k) 9 := h.2.2.1
theorem IJ.sc (h : IJ T J) : ∀ k, isN (J 3 k) 9 := h.2.2.2.1
theorem IJ.needs (h : IJ T J) : ∀ k i, bt (J 4 k) i = true → i < k := h.2.2.2.2.1
theorem IJ.done (h : IJ T J) : ∀ i, bt (J 0 6) i = true → i < jn J := h.2.2.2.2.2.1
theorem IJ.wrong (h : IJ T J) : ∀ i, bt (J 0 7) i = true → i < jn J := h.2.2.2.2.2.2.1
theorem IJ.hands (h : IJ T J) : J 0 8 = nI 1 ∨ J 0 8 = nI 2 := h.2.2.2.2.2.2.2.1
theorem IJ.bag (h : IJ T J) : isN (J 0 9) 999 := h.2.2.2.2.2.2.2.2.1
theorem IJ.minute (h : IJ T J) : isN (J 0 10) T := h.2.2.2.2.2.2.2.2.2.1
theorem IJ.tl (h : IJ T J) : isN (J 5 0) 50 ∧ wfC (J 6) (jl J) := h.2.2.2.2.2.2.2.2.2.2.1
theorem IJ.te (h : IJ T J) : isN (J 7 0) 50 ∧ wfC (J 8) (je J) := h.2.2.2.2.2.2.2.2.2.2.2.1
theorem IJ.fed (h : IJ T J) : isN (J 0 14) 50 := h.2.2.2.2.2.2.2.2.2.2.2.2.1
theorem IJ.waits (h : IJ T J) : isN (J 0 16) 20 := h.2.2.2.2.2.2.2.2.2.2.2.2.2.1
theorem IJ.tape (h : IJ T J) : ∀ k, isN (J 9 k) 255 := h.2.2.2.2.2.2.2.2.2.2.2.2.2.2
end IJS
def sTired (J : Nat → Nat → Int32) : Int32 := if J 0 10 / nI 30 < nI 9 then J 0 10 / nI 30 else nI 9
def sLastsBy (J : Nat → Nat → Int32) (s m t : Int32) : Int32 := sHeld (if 0 < jl J then sVl (J 6) (jl J) s m t else nI 1 + s + t) (nI 1) (nI 99)
def sErrsBy (J : Nat → Nat → Int32) (m t k : Int32) : Int32 := sHeld (if 0 < je J then sVl (J 8) (je J) m t k else (if nI 9 < m + t then nI 1 else nI 0)) (nI 0) (nI 1)
def sKind (J : Nat → Nat → Int32) (k : Nat) : Nat := nN (J 1 k)
def sLasts (J : Nat → Nat → Int32) (k : Nat) : Int32 := sLasting (sKind J k) (sLastsBy J (J 3 k) (J 2 k) (sTired J)) (J 0 8) (J 2 k) (J 3 k)
def sBack (J : Nat → Nat → Int32) (k : Nat) : Int32 := sBackOf (sKind J k) (sLasts J k)
def sErrs (J : Nat → Nat → Int32) (k : Nat) : Int32 := sErrsBy J (J 2 k) (sTired J) (J 1 k)
def sDone (J : Nat → Nat → Int32) (k : Nat) : Bool := sBit (J 0 6) (nI k)
def sReady (J : Nat → Nat → Int32) (k : Nat) : Bool := decide ((J 4 k &&& (J 0 6 ^^^ (-1))) = 0) && !decide (J 0 9 < J 3 k)
def sMayDo (J : Nat → Nat → Int32) (k : Nat) : Bool := decide (k < jn J) && !sDone J k && sReady J k && !decide (J 0 8 < sHands (sKind J k))
theorem sDp_cong {f g : Nat → Int32} : ∀ {n : Nat}, (∀ i, i < n → f i = g i) → sDp f n = sDp g n
  | 0, _ => rfl
  | n + 1, h => by
    unfold sDp
    rw [sDp_cong (fun i hi => h i (by omega)), h n (by omega)]
theorem sEv_cong {f g : Nat → Int32} {a b c : Int32} : ∀ {n : Nat}, (∀ i, i < n → f i = g i) → sEv f a b c n = sEv g a b c n
  | 0, _ => rfl
  | n + 1, h => by
    unfold sEv
    rw [sEv_cong (fun i hi => h i (by omega)), h n (by omega)]
theorem sVl_cong {f g : Nat → Int32} {a b c : Int32} {n : Nat} (h : ∀ i, i < n → f i = g i) : sVl f n a b c = sVl g n a b c := by
  unfold sVl
  rw [sEv_cong h]
theorem wfC_cong {f g : Nat → Int32} {n : Nat} (h : ∀ i, i < n → f i = g i) (hw : wfC f n) : wfC g n := by
  obtain ⟨h1, h2, h3⟩ := hw
  refine ⟨h1, fun h0 => by rw [← sDp_cong h]; exact h2 h0, fun i hi => ?_⟩
  rw [← h i hi, ← sDp_cong (fun j hj => h j (by omega))]
  exact h3 i hi
theorem tx5 {b : Nat} (hb : jb b) : tx (b + 5) := by rcases hb with rfl | rfl | rfl <;> simp [tx]
theorem tx8 {b : Nat} (hb : jb b) : tx (b + 8) := by rcases hb with rfl | rfl | rfl <;> simp [tx]
theorem min_max_held {v a b : Int32} (hab : ¬ b < a) : (if a < (if v < b then v else b) then (if v < b then v else b) else a) = sHeld v a b := by
  unfold sHeld
  simp only [Int32.lt_iff_toInt_lt] at *
  by_cases h1 : v.toInt < a.toInt
  · rw [if_pos h1, if_pos (show v.toInt < b.toInt by omega), if_neg (by omega)]
  · rw [if_neg h1]
    by_cases h2 : b.toInt < v.toInt
    · rw [if_pos h2, if_neg (show ¬ v.toInt < b.toInt by omega)]
      by_cases h3 : a.toInt < b.toInt
      · rw [if_pos h3]
      · rw [if_neg h3]; exact Int32.toInt_inj.mp (by omega)
    · rw [if_neg h2]
      by_cases h4 : v.toInt < b.toInt
      · rw [if_pos h4]
        by_cases h3 : a.toInt < v.toInt
        · rw [if_pos h3]
        · rw [if_neg h3]; exact Int32.toInt_inj.mp (by omega)
      · rw [if_neg h4]
        by_cases h3 : a.toInt < b.toInt
        · rw [if_pos h3]; exact Int32.toInt_inj.mp (by omega)
        · rw [if_neg h3]; exact Int32.toInt_inj.mp (by omega)
set_option maxRecDepth 100000 in
set_option maxHeartbeats 4000000 in
theorem l_has (d : Nat) {b : Nat} (hb : jb b) (X Z : Nat → Nat → Int32) (s : Int32) : EC (d + 1) 33 [.ref b, .int s] (Wd X Z) (PI (bI (!decide (s < 0) && decide (s < X b 1))) (Wd X Z)) := by
  refine er_enter (L := [(0, _), (1, _)]) rfl rfl rfl ?_
  refine er_loc (pc' := 1) rfl rfl rfl ?_
  refine er_if_lt (pc' := 4) rfl rfl (fun h1 => ?_) (fun h1 => ?_)
  · refine er_k (pc' := 17) (nI 0) rfl rfl rfl ?_
    refine er_ret _ rfl rfl ?_
    exact PI_of (bI_eq0 (by simp [*]))
  · refine er_loc (pc' := 5) rfl rfl rfl ?_
    refine er_loc (pc' := 6) rfl rfl rfl ?_
    refine er_gf (pc' := 9) (_) rfl (blt_J hb 0 rfl) (cO_J0 hb _ _) rfl rfl ?_
    refine er_cm_ge (pc' := 12) rfl rfl (fun h9 => ?_) (fun h9 => ?_)
    · refine er_k (pc' := 17) (nI 0) rfl rfl rfl ?_
      refine er_ret _ rfl rfl ?_
      exact PI_of (bI_eq0 (by simp [*]))
    · refine er_k (pc' := 13) (nI 1) rfl rfl rfl ?_
      refine er_goto rfl ?_
      refine er_ret _ rfl rfl ?_
      exact PI_of (bI_eq1 (by simp [*]))
theorem l_has_t (d : Nat) {b : Nat} (hb : jb b) (X Z : Nat → Nat → Int32) {T k : Nat} (hI : IJ T (jx X b)) (hk : k < jn (jx X b)) : EC (d + 1) 33 [.ref b, .int (nI k)] (Wd X Z) (PI (bI true) (Wd X Z)) := by
  have h := l_has d hb X Z (nI k)
  have h8 := hI.n
  have h9 : jn (jx X b) ≤ 8 := h8.2
  have e : (!decide (nI k < 0) && decide (nI k < X b 1)) = true := by
    have e1 : X b 1 = nI (jn (jx X b)) := h8.1
    rw [e1, decide_eq_false (nI_pos (by omega)), decide_eq_true (nI_lt hk (by omega))]
    rfl
  rw [e] at h
  exact h
theorem l_has_f (d : Nat) {b : Nat} (hb : jb b) (X Z : Nat → Nat → Int32) {T k : Nat} (hI : IJ T (jx X b)) (hk : ¬ k < jn (jx X b)) (h100 : k < 100) : EC (d + 1) 33 [.ref b, .int (nI k)] (Wd X Z) (PI (bI false) (Wd X Z)) := by
  have h := l_has d hb X Z (nI k)
  have h8 := hI.n
  have e : (!decide (nI k < 0) && decide (nI k < X b 1)) = false := by
    have e1 : X b 1 = nI (jn (jx X b)) := h8.1
    have h9 := h8.2
    rw [e1, decide_eq_false (nI_nlt (a := k) (b := jn (jx X b)) (by omega) (by omega))]
    simp
  rw [e] at h
  exact h
set_option maxRecDepth 100000 in
set_option maxHeartbeats 4000000 in
theorem l_isDone (d : Nat) {b : Nat} (hb : jb b) (X Z : Nat → Nat → Int32) (k : Int32) : EC (d + 2) 34 [.ref b, .int k] (Wd X Z) (PI (bI (sBit (X b 6) k)) (Wd X Z)) := by
  refine er_enter (L := [(0, _), (1, _)]) rfl rfl rfl ?_
  refine er_loc (pc' := 1) rfl rfl rfl ?_
  refine er_gf (pc' := 4) (_) rfl (blt_J hb 0 rfl) (cO_J0 hb _ _) rfl rfl ?_
  refine er_loc (pc' := 5) rfl rfl rfl ?_
  refine er_cSi (pc' := 8) (rest := []) rfl rfl rfl (l_isIn _ _ _ _) ?_
  refine er_zret rfl rfl ?_
  exact PI_of rfl
set_option maxRecDepth 100000 in
set_option maxHeartbeats 4000000 in
theorem l_isWrong (d : Nat) {b : Nat} (hb : jb b) (X Z : Nat → Nat → Int32) (k : Int32) : EC (d + 2) 35 [.ref b, .int k] (Wd X Z) (PI (bI (sBit (X b 7) k)) (Wd X Z)) := by
  refine er_enter (L := [(0, _), (1, _)]) rfl rfl rfl ?_
  refine er_loc (pc' := 1) rfl rfl rfl ?_
  refine er_gf (pc' := 4) (_) rfl (blt_J hb 0 rfl) (cO_J0 hb _ _) rfl rfl ?_
  refine er_loc (pc' := 5) rfl rfl rfl ?_
  refine er_cSi (pc' := 8) (rest := []) rfl rfl rfl (l_isIn _ _ _ _) ?_
  refine er_zret rfl rfl ?_
  exact PI_of rfl
set_option maxRecDepth 100000 in
set_option maxHeartbeats 4000000 in
theorem l_tired (d : Nat) {b : Nat} (hb : jb b) (X Z : Nat → Nat → Int32) : EC (d + 1) 37 [.ref b] (Wd X Z) (PI (sTired (jx X b)) (Wd X Z)) := by
  refine er_enter (L := [(0, _)]) rfl rfl rfl ?_
  refine er_k (pc' := 2) (nI 9) rfl rfl rfl ?_
  refine er_loc (pc' := 3) rfl rfl rfl ?_
  refine er_gf (pc' := 6) (_) rfl (blt_J hb 0 rfl) (cO_J0 hb _ _) rfl rfl ?_
  refine er_k (pc' := 8) (nI 30) rfl rfl rfl ?_
  refine er_idiv (pc' := 9) rfl rfl (by decide) ?_
  refine er_min (pc' := 12) rfl rfl rfl rfl ?_
  refine er_iret rfl rfl ?_
  exact PI_of rfl
theorem wf6 {T b : Nat} {X : Nat → Nat → Int32} (hI : IJ T (jx X b)) : wfC (X (b + 5 + 1)) (jl (jx X b)) := wfC_cong (fun _ hi => jx6 hi) hI.tl.2
theorem wf8 {T b : Nat} {X : Nat → Nat → Int32} (hI : IJ T (jx X b)) : wfC (X (b + 8 + 1)) (je (jx X b)) := wfC_cong (fun _ hi => jx8 hi) hI.te.2
theorem vl6 {b : Nat} {X : Nat → Nat → Int32} {p q r : Int32} : sVl (X (b + 5 + 1)) (jl (jx X b)) p q r = sVl (jx X b 6) (jl (jx X b)) p q r := sVl_cong (fun _ hi => (jx6 hi).symm)
theorem vl8 {b : Nat} {X : Nat → Nat → Int32} {p q r : Int32} : sVl (X (b + 8 + 1)) (je (jx X b)) p q r = sVl (jx X b 8) (je (jx X b)) p q r := sVl_cong (fun _ hi => (jx8 hi).symm)
set_option maxRecDepth 100000 in
set_option maxHeartbeats 4000000 in
theorem l_lastsBy (d : Nat) {b : Nat} (hb : jb b) (X Z : Nat → Nat → Int32) {T : Nat} (hI : IJ T (jx X b)) (p q r : Int32) : EC (d + 3) 38 [.ref b, .int p, .int q, .int r] (Wd X Z) (RI (sLastsBy (jx X b) p q r) X) := by
  refine er_enter (L := [(0, _), (1, _), (2, _), (3, _)]) rfl rfl rfl ?_
  refine er_loc (pc' := 1) rfl rfl rfl ?_
  refine er_gf (pc' := 4) (_) rfl (blt_J hb 0 rfl) (cO_J0 hb _ _) rfl rfl ?_
  refine er_cIi (pc' := 7) (rest := []) 8 rfl rfl rfl (blt_J hb 5 rfl) (cO_J5 hb _ _) rfl (l_isGiven _ (tx5 hb) _ _ (jl (jx X b)) hI.tl.1.1 hI.tl.1.2) ?_
  refine er_if_eqb (pc' := 10) rfl rfl (fun h7 => ?_) (fun h7 => ?_)
  · refine er_k (pc' := 24) (nI 1) rfl rfl rfl ?_
    refine er_loc (pc' := 25) rfl rfl rfl ?_
    refine er_iadd (pc' := 26) rfl rfl ?_
    refine er_loc (pc' := 27) rfl rfl rfl ?_
    refine er_iadd (pc' := 28) rfl rfl ?_
    refine er_loc (pc' := 30) (L' := [(4, _), (0, _), (1, _), (2, _), (3, _)]) rfl rfl rfl ?_
    refine er_k (pc' := 31) (nI 1) rfl rfl rfl ?_
    refine er_k (pc' := 33) (nI 99) rfl rfl rfl ?_
    refine er_loc (pc' := 35) rfl rfl rfl ?_
    refine er_min (pc' := 38) rfl rfl rfl rfl ?_
    refine er_max (pc' := 41) rfl rfl rfl rfl ?_
    refine er_iret rfl rfl ?_
    refine RI_of ?_ rfl
    rw [min_max_held (by decide +kernel)]
    unfold sLastsBy
    first | rw [if_pos (of_decide_eq_true h7), vl6] | rw [if_neg (of_decide_eq_false h7)]
  · refine er_loc (pc' := 11) rfl rfl rfl ?_
    refine er_gf (pc' := 14) (_) rfl (blt_J hb 0 rfl) (cO_J0 hb _ _) rfl rfl ?_
    refine er_loc (pc' := 15) rfl rfl rfl ?_
    refine er_loc (pc' := 16) rfl rfl rfl ?_
    refine er_loc (pc' := 17) rfl rfl rfl ?_
    refine er_cIz (pc' := 20) (rest := []) 8 rfl rfl rfl (blt_J hb 5 rfl) (cO_J5 hb _ _) rfl (l_workedOut _ (tx5 hb) _ _ _ _ _ (jl (jx X b)) hI.tl.1.1 (wf6 hI) (of_decide_eq_true h7)) ?_
    intro Z1
    refine er_goto rfl ?_
    refine er_loc (pc' := 30) (L' := [(4, _), (0, _), (1, _), (2, _), (3, _)]) rfl rfl rfl ?_
    refine er_k (pc' := 31) (nI 1) rfl rfl rfl ?_
    refine er_k (pc' := 33) (nI 99) rfl rfl rfl ?_
    refine er_loc (pc' := 35) rfl rfl rfl ?_
    refine er_min (pc' := 38) rfl rfl rfl rfl ?_
    refine er_max (pc' := 41) rfl rfl rfl rfl ?_
    refine er_iret rfl rfl ?_
    refine RI_of ?_ rfl
    rw [min_max_held (by decide +kernel)]
    unfold sLastsBy
    first | rw [if_pos (of_decide_eq_true h7), vl6] | rw [if_neg (of_decide_eq_false h7)]
set_option maxRecDepth 100000 in
set_option maxHeartbeats 4000000 in
theorem l_errsBy (d : Nat) {b : Nat} (hb : jb b) (X Z : Nat → Nat → Int32) {T : Nat} (hI : IJ T (jx X b)) (p q r : Int32) : EC (d + 3) 43 [.ref b, .int p, .int q, .int r] (Wd X Z) (RI (sErrsBy (jx X b) p q r) X) := by
  refine er_enter (L := [(0, _), (1, _), (2, _), (3, _)]) rfl rfl rfl ?_
  refine er_loc (pc' := 1) rfl rfl rfl ?_
  refine er_gf (pc' := 4) (_) rfl (blt_J hb 0 rfl) (cO_J0 hb _ _) rfl rfl ?_
  refine er_cIi (pc' := 7) (rest := []) 8 rfl rfl rfl (blt_J hb 8 rfl) (cO_J8 hb _ _) rfl (l_isGiven _ (tx8 hb) _ _ (je (jx X b)) hI.te.1.1 hI.te.1.2) ?_
  refine er_if_eqb (pc' := 10) rfl rfl (fun h7 => ?_) (fun h7 => ?_)
  · refine er_loc (pc' := 30) rfl rfl rfl ?_
    refine er_loc (pc' := 31) rfl rfl rfl ?_
    refine er_iadd (pc' := 32) rfl rfl ?_
    refine er_k (pc' := 34) (nI 9) rfl rfl rfl ?_
    refine er_cm_le (pc' := 37) rfl rfl (fun h34 => ?_) (fun h34 => ?_)
    · refine er_k (pc' := 42) (nI 0) rfl rfl rfl ?_
      refine er_iret rfl rfl ?_
      refine RI_of ?_ rfl
      unfold sErrsBy
      rw [if_neg (of_decide_eq_false h7)]
      first | rw [if_pos h34] | rw [if_neg h34]
      decide +kernel
    · refine er_k (pc' := 38) (nI 1) rfl rfl rfl ?_
      refine er_goto rfl ?_
      refine er_iret rfl rfl ?_
      refine RI_of ?_ rfl
      unfold sErrsBy
      rw [if_neg (of_decide_eq_false h7)]
      first | rw [if_pos h34] | rw [if_neg h34]
      decide +kernel
  · refine er_k (pc' := 11) (nI 0) rfl rfl rfl ?_
    refine er_k (pc' := 12) (nI 1) rfl rfl rfl ?_
    refine er_loc (pc' := 13) rfl rfl rfl ?_
    refine er_gf (pc' := 16) (_) rfl (blt_J hb 0 rfl) (cO_J0 hb _ _) rfl rfl ?_
    refine er_loc (pc' := 17) rfl rfl rfl ?_
    refine er_loc (pc' := 18) rfl rfl rfl ?_
    refine er_loc (pc' := 19) rfl rfl rfl ?_
    refine er_cIz (pc' := 22) (rest := [_, _]) 8 rfl rfl rfl (blt_J hb 8 rfl) (cO_J8 hb _ _) rfl (l_workedOut _ (tx8 hb) _ _ _ _ _ (je (jx X b)) hI.te.1.1 (wf8 hI) (of_decide_eq_true h7)) ?_
    intro Z1
    refine er_min (pc' := 25) rfl rfl rfl rfl ?_
    refine er_max (pc' := 28) rfl rfl rfl rfl ?_
    refine er_iret rfl rfl ?_
    refine RI_of ?_ rfl
    rw [min_max_held (by decide +kernel)]
    unfold sErrsBy
    rw [if_pos (of_decide_eq_true h7), vl8]
end
section
/-! JOBS: kinds, how long, what may be -/
theorem jn8 {T : Nat} {J : Nat → Nat → Int32} (hI : IJ T J) : jn J ≤ 8 := hI.n.2
theorem kind7 {T : Nat} {J : Nat → Nat → Int32} (hI : IJ T J) (k : Nat) : sKind J k < 7 := Nat.lt_succ_of_le (hI.kind k).2
theorem kindX {T b k : Nat} {X : Nat → Nat → Int32} (hI : IJ T (jx X b)) (h : k < 8) : X (b + 1) k = nI (sKind (jx X b) k) := by
  rw [← jx1 (X := X) h]
  exact (hI.kind k).1
theorem sIn_nI {a b c : Nat} (ha : a < 2 ^ 31) (hb : b < 2 ^ 31) (hc : c < 2 ^ 31) : sIn (nI a) (nI b) (nI c) = (decide (b ≤ a) && decide (a ≤ c)) := by
  unfold sIn
  have e1 : decide (nI a < nI b) = decide (a < b) := decide_eq_decide.mpr (nI_ltI ha hb)
  have e2 : decide (nI c < nI a) = decide (c < a) := decide_eq_decide.mpr (nI_ltI hc ha)
  rw [e1, e2]
  simp only [← decide_not, Nat.not_lt]
set_option maxRecDepth 100000 in
set_option maxHeartbeats 4000000 in
theorem l_kindOf (d : Nat) {b : Nat} (hb : jb b) (X Z : Nat → Nat → Int32) {T : Nat} (hI : IJ T (jx X b)) {k : Nat} (hk : k < jn (jx X b)) : EC (d + 2) 39 [.ref b, .int (nI k)] (Wd X Z) (PR (2 + sKind (jx X b) k) (Wd X Z)) := by
  refine er_enter (L := [(0, _), (1, _)]) rfl rfl rfl ?_
  have h8 := jn8 hI
  have hk8 : k < 8 := by omega
  have hq := kind7 hI k
  refine er_loc (pc' := 1) rfl rfl rfl ?_
  refine er_loc (pc' := 2) rfl rfl rfl ?_
  refine er_cIi (pc' := 5) (rest := []) 7 rfl rfl rfl (blt_J hb 0 rfl) (cO_J0 hb _ _) rfl (l_has_t _ hb _ _ hI hk) ?_
  refine er_if_eqF (pc' := 8) rfl (by decide +kernel) rfl ?_
  refine er_loc (pc' := 9) rfl rfl rfl ?_
  refine er_gf (pc' := 12) (_) rfl (blt_J hb 0 rfl) (cO_J0 hb _ _) rfl rfl ?_
  refine er_loc (pc' := 13) rfl rfl rfl ?_
  refine er_ia (pc' := 14) (k) rfl (blt_J hb 1 rfl) (cO_J1 hb _ _) rfl (by omega) rfl rfl ?_
  rw [kindX hI hk8]
  refine er_goto rfl ?_
  refine er_loc (pc' := 19) (L' := [(2, _), (0, _), (1, _)]) rfl rfl rfl ?_
  refine er_loc (pc' := 20) rfl rfl rfl ?_
  refine er_gf (pc' := 23) (_) rfl (blt_J hb 0 rfl) (cO_J0 hb _ _) rfl rfl ?_
  refine er_loc (pc' := 24) rfl rfl rfl ?_
  refine er_k (pc' := 25) (nI 0) rfl rfl rfl ?_
  refine er_loc (pc' := 26) rfl rfl rfl ?_
  refine er_gf (pc' := 29) (_) rfl (blt_J hb 0 rfl) (cO_J0 hb _ _) rfl rfl ?_
  refine er_alq (pc' := 30) rfl rfl rfl rfl rfl ?_
  refine er_k (pc' := 31) (nI 1) rfl rfl rfl ?_
  refine er_isub (pc' := 32) rfl rfl ?_
  refine er_cSi (pc' := 35) (rest := [_]) rfl rfl rfl (l_within _ _ _ _ _) ?_
  rw [show nI 7 - nI 1 = nI 6 from by decide +kernel, sIn_nI (by omega) (by omega) (by omega), decide_eq_true (Nat.zero_le _), decide_eq_true (show sKind (jx X b) k ≤ 6 by omega)]
  refine er_if_eqF (pc' := 38) rfl (by decide +kernel) rfl ?_
  refine er_loc (pc' := 39) rfl rfl rfl ?_
  refine er_goto rfl ?_
  refine er_aa (pc' := 44) ((sKind (jx X b) k)) rfl rfl rfl rfl rfl hq rfl rfl ?_
  refine er_ret _ rfl rfl ?_
  exact rfl
set_option maxRecDepth 100000 in
set_option maxHeartbeats 4000000 in
theorem l_lasts (d : Nat) {b : Nat} (hb : jb b) (X Z : Nat → Nat → Int32) {T : Nat} (hI : IJ T (jx X b)) {k : Nat} (hk : k < jn (jx X b)) : EC (d + 4) 36 [.ref b, .int (nI k)] (Wd X Z) (RI (sLasts (jx X b) k) X) := by
  refine er_enter (L := [(0, _), (1, _)]) rfl rfl rfl ?_
  have h8 := jn8 hI
  have hk8 : k < 8 := by omega
  have hq := kind7 hI k
  refine er_loc (pc' := 1) rfl rfl rfl ?_
  refine er_loc (pc' := 2) rfl rfl rfl ?_
  refine er_cIi (pc' := 5) (rest := []) 7 rfl rfl rfl (blt_J hb 0 rfl) (cO_J0 hb _ _) rfl (l_has_t _ hb _ _ hI hk) ?_
  refine er_if_neT rfl (by decide +kernel) ?_
  refine er_loc (pc' := 11) rfl rfl rfl ?_
  refine er_loc (pc' := 12) rfl rfl rfl ?_
  refine er_gf (pc' := 15) (_) rfl (blt_J hb 0 rfl) (cO_J0 hb _ _) rfl rfl ?_
  refine er_loc (pc' := 16) rfl rfl rfl ?_
  refine er_ia (pc' := 17) (k) rfl (blt_J hb 3 rfl) (cO_J3 hb _ _) rfl (by omega) rfl rfl ?_
  refine er_loc (pc' := 18) rfl rfl rfl ?_
  refine er_gf (pc' := 21) (_) rfl (blt_J hb 0 rfl) (cO_J0 hb _ _) rfl rfl ?_
  refine er_loc (pc' := 22) rfl rfl rfl ?_
  refine er_ia (pc' := 23) (k) rfl (blt_J hb 2 rfl) (cO_J2 hb _ _) rfl (by omega) rfl rfl ?_
  refine er_loc (pc' := 24) rfl rfl rfl ?_
  refine er_cIi (pc' := 27) (rest := [_, _, _]) 7 rfl rfl rfl (blt_J hb 0 rfl) (cO_J0 hb _ _) rfl (l_tired _ hb _ _) ?_
  refine er_cIz (pc' := 30) (rest := []) 7 rfl rfl rfl (blt_J hb 0 rfl) (cO_J0 hb _ _) rfl (l_lastsBy _ hb _ _ hI _ _ _) ?_
  intro Z1
  refine er_loc (pc' := 31) (L' := [(2, _), (0, _), (1, _)]) rfl rfl rfl ?_
  refine er_loc (pc' := 32) rfl rfl rfl ?_
  refine er_loc (pc' := 33) rfl rfl rfl ?_
  refine er_cIr (pc' := 36) (rest := []) 7 rfl rfl rfl (blt_J hb 0 rfl) (cO_J0 hb _ _) rfl (l_kindOf _ hb _ _ hI hk) ?_
  refine er_loc (pc' := 37) rfl rfl rfl ?_
  refine er_loc (pc' := 38) rfl rfl rfl ?_
  refine er_gf (pc' := 41) (_) rfl (blt_J hb 0 rfl) (cO_J0 hb _ _) rfl rfl ?_
  refine er_loc (pc' := 42) rfl rfl rfl ?_
  refine er_gf (pc' := 45) (_) rfl (blt_J hb 0 rfl) (cO_J0 hb _ _) rfl rfl ?_
  refine er_loc (pc' := 46) rfl rfl rfl ?_
  refine er_ia (pc' := 47) (k) rfl (blt_J hb 2 rfl) (cO_J2 hb _ _) rfl (by omega) rfl rfl ?_
  refine er_loc (pc' := 48) rfl rfl rfl ?_
  refine er_gf (pc' := 51) (_) rfl (blt_J hb 0 rfl) (cO_J0 hb _ _) rfl rfl ?_
  refine er_loc (pc' := 52) rfl rfl rfl ?_
  refine er_ia (pc' := 53) (k) rfl (blt_J hb 3 rfl) (cO_J3 hb _ _) rfl (by omega) rfl rfl ?_
  refine er_cIi (pc' := 56) (rest := []) (sKind (jx X b) k) rfl rfl (by rcases lt7 hq with e | e | e | e | e | e | e <;> rw [e] <;> rfl) (blt_S hq) (cO_S hq _ _) rfl (l_lasting _ _ _ _ _ _ _ _ hq) ?_
  refine er_iret rfl rfl ?_
  refine RI_of ?_ rfl
  unfold sLasts
  rw [jx2 hk8, jx3 hk8]
  rfl
set_option maxRecDepth 100000 in
set_option maxHeartbeats 4000000 in
theorem l_takesBack (d : Nat) {b : Nat} (hb : jb b) (X Z : Nat → Nat → Int32) {T : Nat} (hI : IJ T (jx X b)) {k : Nat} (hk : k < jn (jx X b)) : EC (d + 5) 40 [.ref b, .int (nI k)] (Wd X Z) (RI (sBack (jx X b) k) X) := by
  refine er_enter (L := [(0, _), (1, _)]) rfl rfl rfl ?_
  have h8 := jn8 hI
  have hk8 : k < 8 := by omega
  have hq := kind7 hI k
  refine er_loc (pc' := 1) rfl rfl rfl ?_
  refine er_loc (pc' := 2) rfl rfl rfl ?_
  refine er_cIr (pc' := 5) (rest := []) 7 rfl rfl rfl (blt_J hb 0 rfl) (cO_J0 hb _ _) rfl (l_kindOf _ hb _ _ hI hk) ?_
  refine er_loc (pc' := 6) rfl rfl rfl ?_
  refine er_loc (pc' := 7) rfl rfl rfl ?_
  refine er_cIz (pc' := 10) (rest := [_]) 7 rfl rfl rfl (blt_J hb 0 rfl) (cO_J0 hb _ _) rfl (l_lasts _ hb _ _ hI hk) ?_
  intro Z2
  refine er_cIi (pc' := 13) (rest := []) (sKind (jx X b) k) rfl rfl (by rcases lt7 hq with e | e | e | e | e | e | e <;> rw [e] <;> rfl) (blt_S hq) (cO_S hq _ _) rfl (l_backOf _ _ _ _ hq) ?_
  refine er_iret rfl rfl ?_
  exact RI_of rfl rfl
set_option maxRecDepth 100000 in
set_option maxHeartbeats 4000000 in
theorem l_mayBeDone (d : Nat) {b : Nat} (hb : jb b) (X Z : Nat → Nat → Int32) {T : Nat} (hI : IJ T (jx X b)) {k : Nat} (hk : k < jn (jx X b)) : EC (d + 3) 41 [.ref b, .int (nI k)] (Wd X Z) (PI (bI (sMayDo (jx X b) k)) (Wd X Z)) := by
  refine er_enter (L := [(0, _), (1, _)]) rfl rfl rfl ?_
  have h8 := jn8 hI
  have hk8 : k < 8 := by omega
  have hq := kind7 hI k
  refine er_loc (pc' := 1) rfl rfl rfl ?_
  refine er_loc (pc' := 2) rfl rfl rfl ?_
  refine er_cIi (pc' := 5) (rest := []) 7 rfl rfl rfl (blt_J hb 0 rfl) (cO_J0 hb _ _) rfl (l_has_t _ hb _ _ hI hk) ?_
  refine er_if_eqF (pc' := 8) rfl (by decide +kernel) rfl ?_
  refine er_loc (pc' := 9) rfl rfl rfl ?_
  refine er_loc (pc' := 10) rfl rfl rfl ?_
  refine er_cIi (pc' := 13) (rest := []) 7 rfl rfl rfl (blt_J hb 0 rfl) (cO_J0 hb _ _) rfl (l_isDone _ hb _ _ _) ?_
  refine er_if_eqb (pc' := 16) rfl rfl (fun h13 => ?_) (fun h13 => ?_)
  · refine er_loc (pc' := 19) rfl rfl rfl ?_
    refine er_gf (pc' := 22) (_) rfl (blt_J hb 0 rfl) (cO_J0 hb _ _) rfl rfl ?_
    refine er_loc (pc' := 23) rfl rfl rfl ?_
    refine er_ia (pc' := 24) (k) rfl (blt_J hb 4 rfl) (cO_J4 hb _ _) rfl (by omega) rfl rfl ?_
    refine er_loc (pc' := 25) rfl rfl rfl ?_
    refine er_gf (pc' := 28) (_) rfl (blt_J hb 0 rfl) (cO_J0 hb _ _) rfl rfl ?_
    refine er_k (pc' := 29) (-1) rfl rfl rfl ?_
    refine er_ixor (pc' := 30) rfl rfl ?_
    refine er_iand (pc' := 31) rfl rfl ?_
    refine er_if_ne (pc' := 34) rfl rfl (fun h31 => ?_) (fun h31 => ?_)
    · refine er_k (pc' := 52) (nI 0) rfl rfl rfl ?_
      refine er_loc (pc' := 53) (L' := [(2, _), (0, _), (1, _)]) rfl rfl rfl ?_
      refine er_loc (pc' := 54) rfl rfl rfl ?_
      refine er_if_eqT rfl (by decide +kernel) ?_
      refine er_k (pc' := 77) (nI 0) rfl rfl rfl ?_
      refine er_ret _ rfl rfl ?_
      exact PI_of (bI_eq0 (by simp only [sMayDo, sReady, sDone, jx4 hk8, jx3 hk8, jx06, jx09, jx08]; simp_all))
    · refine er_loc (pc' := 35) rfl rfl rfl ?_
      refine er_gf (pc' := 38) (_) rfl (blt_J hb 0 rfl) (cO_J0 hb _ _) rfl rfl ?_
      refine er_loc (pc' := 39) rfl rfl rfl ?_
      refine er_gf (pc' := 42) (_) rfl (blt_J hb 0 rfl) (cO_J0 hb _ _) rfl rfl ?_
      refine er_loc (pc' := 43) rfl rfl rfl ?_
      refine er_ia (pc' := 44) (k) rfl (blt_J hb 3 rfl) (cO_J3 hb _ _) rfl (by omega) rfl rfl ?_
      refine er_cm_lt (pc' := 47) rfl rfl (fun h44 => ?_) (fun h44 => ?_)
      · refine er_k (pc' := 52) (nI 0) rfl rfl rfl ?_
        refine er_loc (pc' := 53) (L' := [(2, _), (0, _), (1, _)]) rfl rfl rfl ?_
        refine er_loc (pc' := 54) rfl rfl rfl ?_
        refine er_if_eqT rfl (by decide +kernel) ?_
        refine er_k (pc' := 77) (nI 0) rfl rfl rfl ?_
        refine er_ret _ rfl rfl ?_
        exact PI_of (bI_eq0 (by simp only [sMayDo, sReady, sDone, jx4 hk8, jx3 hk8, jx06, jx09, jx08]; simp_all))
      · refine er_k (pc' := 48) (nI 1) rfl rfl rfl ?_
        refine er_goto rfl ?_
        refine er_loc (pc' := 53) (L' := [(2, _), (0, _), (1, _)]) rfl rfl rfl ?_
        refine er_loc (pc' := 54) rfl rfl rfl ?_
        refine er_if_eqF (pc' := 57) rfl (by decide +kernel) rfl ?_
        refine er_loc (pc' := 58) rfl rfl rfl ?_
        refine er_gf (pc' := 61) (_) rfl (blt_J hb 0 rfl) (cO_J0 hb _ _) rfl rfl ?_
        refine er_loc (pc' := 62) rfl rfl rfl ?_
        refine er_loc (pc' := 63) rfl rfl rfl ?_
        refine er_cIr (pc' := 66) (rest := [_]) 7 rfl rfl rfl (blt_J hb 0 rfl) (cO_J0 hb _ _) rfl (l_kindOf _ hb _ _ hI hk) ?_
        refine er_cIi (pc' := 69) (rest := [_]) (sKind (jx X b) k) rfl rfl (by rcases lt7 hq with e | e | e | e | e | e | e <;> rw [e] <;> rfl) (blt_S hq) (cO_S hq _ _) rfl (l_handsOf _ _ _ hq) ?_
        refine er_cm_lt (pc' := 72) rfl rfl (fun h69 => ?_) (fun h69 => ?_)
        · refine er_k (pc' := 77) (nI 0) rfl rfl rfl ?_
          refine er_ret _ rfl rfl ?_
          exact PI_of (bI_eq0 (by simp only [sMayDo, sReady, sDone, jx4 hk8, jx3 hk8, jx06, jx09, jx08]; simp_all))
        · refine er_k (pc' := 73) (nI 1) rfl rfl rfl ?_
          refine er_goto rfl ?_
          refine er_ret _ rfl rfl ?_
          exact PI_of (bI_eq1 (by simp only [sMayDo, sReady, sDone, jx4 hk8, jx3 hk8, jx06, jx09, jx08]; rw [decide_eq_true hk, h13, decide_eq_true h31, decide_eq_false h44, decide_eq_false h69]; rfl))
  · refine er_k (pc' := 17) (nI 0) rfl rfl rfl ?_
    refine er_ret _ rfl rfl ?_
    exact PI_of (bI_eq0 (by simp only [sMayDo, sReady, sDone, jx4 hk8, jx3 hk8, jx06, jx09, jx08]; simp_all))
end
section
/-! JOBS: what is needed, what rests on it, doing and undoing -/
def sNeed (J : Nat → Nat → Int32) (k : Nat) : Nat → Bool
  | 0 => false
  | i + 1 => sNeed J k i || (decide (k < i) && sDone J i && sBit (J 4 i) (nI k))
def sMayUn (J : Nat → Nat → Int32) (k : Nat) : Bool := decide (k < jn J) && sDone J k && !sNever (sKind J k) && !sNeed J k (jn J)
def sRest (J : Nat → Nat → Int32) (k : Nat) : Nat → Int32
  | 0 => nI 0
  | i + 1 => if k < i then sWith (sRest J k i) (nI i) (!decide ((J 4 i &&& sWith (sRest J k i) (nI k) true) = 0) && sDone J i) else sRest J k i
def sSum (J : Nat → Nat → Int32) (s : Int32) : Nat → Int32
  | 0 => nI 0
  | i + 1 => sSum J s i + (if sBit s (nI i) = true then J 3 i else nI 0)
def sFirst (J : Nat → Nat → Int32) : Nat → Nat → Option Nat
  | 0, _ => none
  | m + 1, i => if sMayDo J i = true then some i else sFirst J m (i + 1)
def fI (q : Option Nat) : Int32 := match q with
  | none => -1
  | some k => nI k
theorem sNeed_low {J : Nat → Nat → Int32} {k : Nat} : ∀ {i : Nat}, i ≤ k + 1 → sNeed J k i = false
  | 0, _ => rfl
  | i + 1, h => by
    unfold sNeed
    rw [sNeed_low (by omega), decide_eq_false (by omega)]
    rfl
theorem sRest_low {J : Nat → Nat → Int32} {k : Nat} : ∀ {i : Nat}, i ≤ k + 1 → sRest J k i = nI 0
  | 0, _ => rfl
  | i + 1, h => by
    unfold sRest
    rw [if_neg (by omega), sRest_low (by omega)]
set_option maxRecDepth 100000 in
set_option maxHeartbeats 4000000 in
theorem l_mbu_loop (d : Nat) {b : Nat} (hb : jb b) (X Z : Nat → Nat → Int32) {T : Nat} (hI : IJ T (jx X b)) {k : Nat} (hk : k < jn (jx X b)) : ∀ (m i : Nat) (x v : Int32), i + m = jn (jx X b) → k < i → x = nI i → v = bI (sNeed (jx X b) k i) → ER (d + 2) tb_m42 35 [(0, .ref b), (1, .int (nI k)), (2, .int v), (3, .int x)] [] (Wd X Z) (PI (bI (!sNeed (jx X b) k (jn (jx X b)))) (Wd X Z))
  | 0, i, x, v, hi, hki, hx, hv => by
    have h8 := jn8 hI
    have hi : i = jn (jx X b) := by omega
    subst hx
    subst hv
    subst hi
    refine er_loc (pc' := 36) rfl rfl rfl ?_
    refine er_loc (pc' := 37) rfl rfl rfl ?_
    refine er_gf (pc' := 40) (_) rfl (blt_J hb 0 rfl) (cO_J0 hb _ _) rfl rfl ?_
    rw [show X b 1 = nI (jn (jx X b)) from hI.n.1]
    refine er_cm_geT rfl (nI_nlt (by omega) (by omega)) ?_
    refine er_loc (pc' := 81) rfl rfl rfl ?_
    refine er_if_neb (pc' := 84) rfl rfl (fun h81 => ?_) (fun h81 => ?_)
    · refine er_k (pc' := 89) (nI 0) rfl rfl rfl ?_
      refine er_ret _ rfl rfl ?_
      exact PI_of (bI_eq0 (by simp [*]))
    · refine er_k (pc' := 85) (nI 1) rfl rfl rfl ?_
      refine er_goto rfl ?_
      refine er_ret _ rfl rfl ?_
      exact PI_of (bI_eq1 (by simp [*]))
  | m + 1, i, x, v, hi, hki, hx, hv => by
    have h8 := jn8 hI
    have hi8 : i < 8 := by omega
    subst hx
    subst hv
    refine er_loc (pc' := 36) rfl rfl rfl ?_
    refine er_loc (pc' := 37) rfl rfl rfl ?_
    refine er_gf (pc' := 40) (_) rfl (blt_J hb 0 rfl) (cO_J0 hb _ _) rfl rfl ?_
    rw [show X b 1 = nI (jn (jx X b)) from hI.n.1]
    refine er_cm_geF (pc' := 43) rfl (nI_lt (by omega) (by omega)) rfl ?_
    refine er_loc (pc' := 44) rfl rfl rfl ?_
    refine er_if_neb (pc' := 47) rfl rfl (fun h44 => ?_) (fun h44 => ?_)
    · refine er_k (pc' := 69) (nI 1) rfl rfl rfl ?_
      refine er_goto rfl ?_
      refine er_loc (L' := [(2, _), (0, _), (1, _), (3, _)]) rfl rfl rfl ?_
      refine er_loc (L' := [(3, .int (_ + nI 1)), (2, _), (0, _), (1, _)]) rfl rfl rfl ?_
      refine er_goto rfl ?_
      refine ER_loc [(0, _), (1, _), (2, _), (3, _)] rfl (List.forall_mem_cons.mpr ⟨rfl, List.forall_mem_cons.mpr ⟨rfl, List.forall_mem_cons.mpr ⟨rfl, List.forall_mem_cons.mpr ⟨rfl, fun _ h => absurd h List.not_mem_nil⟩⟩⟩⟩) rfl rfl ?_
      refine l_mbu_loop d hb X Z hI hk m (i + 1) _ _ (by omega) (by omega) (nI_add i 1) (bI_eq1 ?_)
      simp only [sNeed, sDone, jx4 hi8, jx06]
      simp [*]
    · refine er_loc (pc' := 48) rfl rfl rfl ?_
      refine er_loc (pc' := 49) rfl rfl rfl ?_
      refine er_cIi (pc' := 52) (rest := []) 7 rfl rfl rfl (blt_J hb 0 rfl) (cO_J0 hb _ _) rfl (l_isDone _ hb _ _ _) ?_
      refine er_if_eqb (pc' := 55) rfl rfl (fun h52 => ?_) (fun h52 => ?_)
      · refine er_k (pc' := 73) (nI 0) rfl rfl rfl ?_
        refine er_loc (L' := [(2, _), (0, _), (1, _), (3, _)]) rfl rfl rfl ?_
        refine er_loc (L' := [(3, .int (_ + nI 1)), (2, _), (0, _), (1, _)]) rfl rfl rfl ?_
        refine er_goto rfl ?_
        refine ER_loc [(0, _), (1, _), (2, _), (3, _)] rfl (List.forall_mem_cons.mpr ⟨rfl, List.forall_mem_cons.mpr ⟨rfl, List.forall_mem_cons.mpr ⟨rfl, List.forall_mem_cons.mpr ⟨rfl, fun _ h => absurd h List.not_mem_nil⟩⟩⟩⟩) rfl rfl ?_
        refine l_mbu_loop d hb X Z hI hk m (i + 1) _ _ (by omega) (by omega) (nI_add i 1) (bI_eq0 ?_)
        simp only [sNeed, sDone, jx4 hi8, jx06]
        simp [*]
      · refine er_loc (pc' := 56) rfl rfl rfl ?_
        refine er_gf (pc' := 59) (_) rfl (blt_J hb 0 rfl) (cO_J0 hb _ _) rfl rfl ?_
        refine er_loc (pc' := 60) rfl rfl rfl ?_
        refine er_ia (pc' := 61) (i) rfl (blt_J hb 4 rfl) (cO_J4 hb _ _) rfl (by omega) rfl rfl ?_
        refine er_loc (pc' := 62) rfl rfl rfl ?_
        refine er_cSi (pc' := 65) (rest := []) rfl rfl rfl (l_isIn _ _ _ _) ?_
        refine er_if_eqb (pc' := 68) rfl rfl (fun h65 => ?_) (fun h65 => ?_)
        · refine er_k (pc' := 73) (nI 0) rfl rfl rfl ?_
          refine er_loc (L' := [(2, _), (0, _), (1, _), (3, _)]) rfl rfl rfl ?_
          refine er_loc (L' := [(3, .int (_ + nI 1)), (2, _), (0, _), (1, _)]) rfl rfl rfl ?_
          refine er_goto rfl ?_
          refine ER_loc [(0, _), (1, _), (2, _), (3, _)] rfl (List.forall_mem_cons.mpr ⟨rfl, List.forall_mem_cons.mpr ⟨rfl, List.forall_mem_cons.mpr ⟨rfl, List.forall_mem_cons.mpr ⟨rfl, fun _ h => absurd h List.not_mem_nil⟩⟩⟩⟩) rfl rfl ?_
          refine l_mbu_loop d hb X Z hI hk m (i + 1) _ _ (by omega) (by omega) (nI_add i 1) (bI_eq0 ?_)
          simp only [sNeed, sDone, jx4 hi8, jx06]
          simp [*]
        · refine er_k (pc' := 69) (nI 1) rfl rfl rfl ?_
          refine er_goto rfl ?_
          refine er_loc (L' := [(2, _), (0, _), (1, _), (3, _)]) rfl rfl rfl ?_
          refine er_loc (L' := [(3, .int (_ + nI 1)), (2, _), (0, _), (1, _)]) rfl rfl rfl ?_
          refine er_goto rfl ?_
          refine ER_loc [(0, _), (1, _), (2, _), (3, _)] rfl (List.forall_mem_cons.mpr ⟨rfl, List.forall_mem_cons.mpr ⟨rfl, List.forall_mem_cons.mpr ⟨rfl, List.forall_mem_cons.mpr ⟨rfl, fun _ h => absurd h List.not_mem_nil⟩⟩⟩⟩) rfl rfl ?_
          refine l_mbu_loop d hb X Z hI hk m (i + 1) _ _ (by omega) (by omega) (nI_add i 1) (bI_eq1 ?_)
          simp only [sNeed, sDone, jx4 hi8, jx06]
          simp [*]
set_option maxRecDepth 100000 in
set_option maxHeartbeats 4000000 in
theorem l_mayBeUndone (d : Nat) {b : Nat} (hb : jb b) (X Z : Nat → Nat → Int32) {T : Nat} (hI : IJ T (jx X b)) {k : Nat} (hk : k < jn (jx X b)) : EC (d + 3) 42 [.ref b, .int (nI k)] (Wd X Z) (PI (bI (sMayUn (jx X b) k)) (Wd X Z)) := by
  refine er_enter (L := [(0, _), (1, _)]) rfl rfl rfl ?_
  have h8 := jn8 hI
  have hk8 : k < 8 := by omega
  have hq := kind7 hI k
  refine er_loc (pc' := 1) rfl rfl rfl ?_
  refine er_loc (pc' := 2) rfl rfl rfl ?_
  refine er_cIi (pc' := 5) (rest := []) 7 rfl rfl rfl (blt_J hb 0 rfl) (cO_J0 hb _ _) rfl (l_has_t _ hb _ _ hI hk) ?_
  refine er_if_eqF (pc' := 8) rfl (by decide +kernel) rfl ?_
  refine er_loc (pc' := 9) rfl rfl rfl ?_
  refine er_loc (pc' := 10) rfl rfl rfl ?_
  refine er_cIi (pc' := 13) (rest := []) 7 rfl rfl rfl (blt_J hb 0 rfl) (cO_J0 hb _ _) rfl (l_isDone _ hb _ _ _) ?_
  refine er_if_eqb (pc' := 16) rfl rfl (fun h13 => ?_) (fun h13 => ?_)
  · refine er_k (pc' := 28) (nI 0) rfl rfl rfl ?_
    refine er_ret _ rfl rfl ?_
    exact PI_of (bI_eq0 (by simp only [sMayUn, sDone, jx06]; simp [*]))
  · refine er_loc (pc' := 17) rfl rfl rfl ?_
    refine er_loc (pc' := 18) rfl rfl rfl ?_
    refine er_cIr (pc' := 21) (rest := []) 7 rfl rfl rfl (blt_J hb 0 rfl) (cO_J0 hb _ _) rfl (l_kindOf _ hb _ _ hI hk) ?_
    refine er_cIi (pc' := 24) (rest := []) (sKind (jx X b) k) rfl rfl (by rcases lt7 hq with e | e | e | e | e | e | e <;> rw [e] <;> rfl) (blt_S hq) (cO_S hq _ _) rfl (l_neverOf _ _ _ hq) ?_
    refine er_if_eqb (pc' := 27) rfl rfl (fun h24 => ?_) (fun h24 => ?_)
    · refine er_k (pc' := 30) (nI 0) rfl rfl rfl ?_
      refine er_loc (pc' := 31) (L' := [(2, _), (0, _), (1, _)]) rfl rfl rfl ?_
      refine er_loc (pc' := 32) rfl rfl rfl ?_
      refine er_k (pc' := 33) (nI 1) rfl rfl rfl ?_
      refine er_iadd (pc' := 34) rfl rfl ?_
      refine er_loc (pc' := 35) (L' := [(3, _), (2, _), (0, _), (1, _)]) rfl rfl rfl ?_
      refine ER.mono (Q := PI (bI (sMayUn (jx X b) k)) (Wd X Z)) ?_ (fun _ h => h)
      have e : sMayUn (jx X b) k = !sNeed (jx X b) k (jn (jx X b)) := by
        simp only [sMayUn, sDone, jx06]
        simp [*]
      rw [e]
      refine ER_loc [(0, _), (1, _), (2, _), (3, _)] rfl (List.forall_mem_cons.mpr ⟨rfl, List.forall_mem_cons.mpr ⟨rfl, List.forall_mem_cons.mpr ⟨rfl, List.forall_mem_cons.mpr ⟨rfl, fun _ h => absurd h List.not_mem_nil⟩⟩⟩⟩) rfl rfl ?_
      exact l_mbu_loop d hb X Z hI hk (jn (jx X b) - (k + 1)) (k + 1) _ _ (by omega) (by omega) (nI_add k 1) (bI_eq0 (sNeed_low (Nat.le_refl _)))
    · refine er_k (pc' := 28) (nI 0) rfl rfl rfl ?_
      refine er_ret _ rfl rfl ?_
      exact PI_of (bI_eq0 (by simp only [sMayUn, sDone, jx06]; simp [*]))
set_option maxRecDepth 100000 in
set_option maxHeartbeats 4000000 in
theorem l_least_loop (d : Nat) {b : Nat} (hb : jb b) (X Z : Nat → Nat → Int32) {T : Nat} (hI : IJ T (jx X b)) : ∀ (m i : Nat) (x : Int32), i + m = jn (jx X b) → x = nI i → ER (d + 3) tb_m49 2 [(0, .ref b), (1, .int x)] [] (Wd X Z) (PI (fI (sFirst (jx X b) m i)) (Wd X Z))
  | 0, i, x, hi, hx => by
    have h8 := jn8 hI
    have hi : i = jn (jx X b) := by omega
    subst hx
    subst hi
    refine er_loc (pc' := 3) rfl rfl rfl ?_
    refine er_loc (pc' := 4) rfl rfl rfl ?_
    refine er_gf (pc' := 7) (_) rfl (blt_J hb 0 rfl) (cO_J0 hb _ _) rfl rfl ?_
    rw [show X b 1 = nI (jn (jx X b)) from hI.n.1]
    refine er_cm_geT rfl (nI_nlt (by omega) (by omega)) ?_
    refine er_k (pc' := 27) (-1) rfl rfl rfl ?_
    refine er_iret rfl rfl ?_
    exact PI_of rfl
  | m + 1, i, x, hi, hx => by
    have h8 := jn8 hI
    have hi8 : i < 8 := by omega
    subst hx
    refine er_loc (pc' := 3) rfl rfl rfl ?_
    refine er_loc (pc' := 4) rfl rfl rfl ?_
    refine er_gf (pc' := 7) (_) rfl (blt_J hb 0 rfl) (cO_J0 hb _ _) rfl rfl ?_
    rw [show X b 1 = nI (jn (jx X b)) from hI.n.1]
    refine er_cm_geF (pc' := 10) rfl (nI_lt (by omega) (by omega)) rfl ?_
    refine er_loc (pc' := 11) rfl rfl rfl ?_
    refine er_loc (pc' := 12) rfl rfl rfl ?_
    refine er_cIi (pc' := 15) (rest := []) 7 rfl rfl rfl (blt_J hb 0 rfl) (cO_J0 hb _ _) rfl (l_mayBeDone _ hb _ _ hI (k := i) (by omega)) ?_
    refine er_if_eqb (pc' := 18) rfl rfl (fun h15 => ?_) (fun h15 => ?_)
    · refine er_loc (pc' := 23) (L' := [(1, .int (_ + nI 1)), (0, _)]) rfl rfl rfl ?_
      refine er_goto rfl ?_
      refine ER_loc [(0, _), (1, _)] rfl (List.forall_mem_cons.mpr ⟨rfl, List.forall_mem_cons.mpr ⟨rfl, fun _ h => absurd h List.not_mem_nil⟩⟩) rfl rfl ?_
      have e : sFirst (jx X b) (m + 1) i = sFirst (jx X b) m (i + 1) := by
        show (if _ then _ else _) = _
        rw [if_neg (by rw [h15]; decide)]
      rw [e]
      exact l_least_loop d hb X Z hI m (i + 1) _ (by omega) (nI_add i 1)
    · refine er_loc (pc' := 19) rfl rfl rfl ?_
      refine er_iret rfl rfl ?_
      exact PI_of (by show nI i = fI (if _ then _ else _); rw [if_pos h15]; rfl)
set_option maxRecDepth 100000 in
set_option maxHeartbeats 4000000 in
theorem l_leastThatMay (d : Nat) {b : Nat} (hb : jb b) (X Z : Nat → Nat → Int32) {T : Nat} (hI : IJ T (jx X b)) : EC (d + 4) 49 [.ref b] (Wd X Z) (PI (fI (sFirst (jx X b) (jn (jx X b)) 0)) (Wd X Z)) := by
  refine er_enter (L := [(0, _)]) rfl rfl rfl ?_
  refine er_k (pc' := 1) (nI 0) rfl rfl rfl ?_
  refine er_loc (pc' := 2) (L' := [(1, _), (0, _)]) rfl rfl rfl ?_
  refine ER_loc [(0, _), (1, _)] rfl (List.forall_mem_cons.mpr ⟨rfl, List.forall_mem_cons.mpr ⟨rfl, fun _ h => absurd h List.not_mem_nil⟩⟩) rfl rfl ?_
  exact l_least_loop d hb X Z hI _ 0 _ (by omega) rfl
set_option maxRecDepth 100000 in
set_option maxHeartbeats 4000000 in
theorem l_rest_loop (d : Nat) {b : Nat} (hb : jb b) (X Z : Nat → Nat → Int32) {T : Nat} (hI : IJ T (jx X b)) {k : Nat} (hk : k < jn (jx X b)) : ∀ (m i : Nat) (x v : Int32), i + m = jn (jx X b) → k < i → x = nI i → v = sRest (jx X b) k i → ER (d + 2) tb_m52 6 [(0, .ref b), (1, .int (nI k)), (2, .int v), (3, .int x)] [] (Wd X Z) (PI (sRest (jx X b) k (jn (jx X b))) (Wd X Z))
  | 0, i, x, v, hi, hki, hx, hv => by
    have h8 := jn8 hI
    have hi : i = jn (jx X b) := by omega
    subst hx
    subst hv
    subst hi
    refine er_loc (pc' := 7) rfl rfl rfl ?_
    refine er_loc (pc' := 8) rfl rfl rfl ?_
    refine er_gf (pc' := 11) (_) rfl (blt_J hb 0 rfl) (cO_J0 hb _ _) rfl rfl ?_
    rw [show X b 1 = nI (jn (jx X b)) from hI.n.1]
    refine er_cm_geT rfl (nI_nlt (by omega) (by omega)) ?_
    refine er_loc (pc' := 68) rfl rfl rfl ?_
    refine er_iret rfl rfl ?_
    exact PI_of rfl
  | m + 1, i, x, v, hi, hki, hx, hv => by
    have h8 := jn8 hI
    have hi8 : i < 8 := by omega
    subst hx
    subst hv
    refine er_loc (pc' := 7) rfl rfl rfl ?_
    refine er_loc (pc' := 8) rfl rfl rfl ?_
    refine er_gf (pc' := 11) (_) rfl (blt_J hb 0 rfl) (cO_J0 hb _ _) rfl rfl ?_
    rw [show X b 1 = nI (jn (jx X b)) from hI.n.1]
    refine er_cm_geF (pc' := 14) rfl (nI_lt (by omega) (by omega)) rfl ?_
    refine er_loc (pc' := 15) rfl rfl rfl ?_
    refine er_gf (pc' := 18) (_) rfl (blt_J hb 0 rfl) (cO_J0 hb _ _) rfl rfl ?_
    refine er_loc (pc' := 19) rfl rfl rfl ?_
    refine er_ia (pc' := 20) (i) rfl (blt_J hb 4 rfl) (cO_J4 hb _ _) rfl (by omega) rfl rfl ?_
    refine er_loc (pc' := 21) rfl rfl rfl ?_
    refine er_loc (pc' := 22) rfl rfl rfl ?_
    refine er_k (pc' := 23) (nI 1) rfl rfl rfl ?_
    refine er_cSi (pc' := 26) (rest := [_]) rfl rfl rfl (l_with _ _ _ true _) ?_
    refine er_iand (pc' := 27) rfl rfl ?_
    refine er_if_eq (pc' := 30) rfl rfl (fun h27 => ?_) (fun h27 => ?_)
    · refine er_k (pc' := 35) (nI 0) rfl rfl rfl ?_
      refine er_loc (pc' := 37) (L' := [(4, _), (0, _), (1, _), (2, _), (3, _)]) rfl rfl rfl ?_
      refine er_loc (pc' := 38) rfl rfl rfl ?_
      refine er_loc (pc' := 39) rfl rfl rfl ?_
      refine er_loc (pc' := 41) rfl rfl rfl ?_
      refine er_if_eqT rfl (by decide +kernel) ?_
      refine er_k (pc' := 57) (nI 0) rfl rfl rfl ?_
      refine er_cSi (rest := []) rfl rfl rfl (l_with _ _ _ false _) ?_
      refine er_loc (L' := [(2, _), (4, _), (0, _), (1, _), (3, _)]) rfl rfl rfl ?_
      refine er_loc (L' := [(3, .int (_ + nI 1)), (2, _), (4, _), (0, _), (1, _)]) rfl rfl rfl ?_
      refine er_goto rfl ?_
      refine ER_loc [(0, _), (1, _), (2, _), (3, _)] rfl (List.forall_mem_cons.mpr ⟨rfl, List.forall_mem_cons.mpr ⟨rfl, List.forall_mem_cons.mpr ⟨rfl, List.forall_mem_cons.mpr ⟨rfl, fun _ h => absurd h List.not_mem_nil⟩⟩⟩⟩) rfl rfl ?_
      refine l_rest_loop d hb X Z hI hk m (i + 1) _ _ (by omega) (by omega) (nI_add i 1) ?_
      have e : (!decide ((jx X b 4 i &&& sWith (sRest (jx X b) k i) (nI k) true) = 0) && sDone (jx X b) i) = false := by
        simp only [sDone, jx4 hi8, jx06]
        simp [*]
      show sWith _ _ _ = (if _ then _ else _)
      rw [if_pos hki, e]
    · refine er_k (pc' := 31) (nI 1) rfl rfl rfl ?_
      refine er_goto rfl ?_
      refine er_loc (pc' := 37) (L' := [(4, _), (0, _), (1, _), (2, _), (3, _)]) rfl rfl rfl ?_
      refine er_loc (pc' := 38) rfl rfl rfl ?_
      refine er_loc (pc' := 39) rfl rfl rfl ?_
      refine er_loc (pc' := 41) rfl rfl rfl ?_
      refine er_if_eqF (pc' := 44) rfl (by decide +kernel) rfl ?_
      refine er_loc (pc' := 45) rfl rfl rfl ?_
      refine er_loc (pc' := 46) rfl rfl rfl ?_
      refine er_cIi (pc' := 49) (rest := [_, _]) 7 rfl rfl rfl (blt_J hb 0 rfl) (cO_J0 hb _ _) rfl (l_isDone _ hb _ _ _) ?_
      refine er_if_eqb (pc' := 52) rfl rfl (fun h49 => ?_) (fun h49 => ?_)
      · refine er_k (pc' := 57) (nI 0) rfl rfl rfl ?_
        refine er_cSi (rest := []) rfl rfl rfl (l_with _ _ _ false _) ?_
        refine er_loc (L' := [(2, _), (4, _), (0, _), (1, _), (3, _)]) rfl rfl rfl ?_
        refine er_loc (L' := [(3, .int (_ + nI 1)), (2, _), (4, _), (0, _), (1, _)]) rfl rfl rfl ?_
        refine er_goto rfl ?_
        refine ER_loc [(0, _), (1, _), (2, _), (3, _)] rfl (List.forall_mem_cons.mpr ⟨rfl, List.forall_mem_cons.mpr ⟨rfl, List.forall_mem_cons.mpr ⟨rfl, List.forall_mem_cons.mpr ⟨rfl, fun _ h => absurd h List.not_mem_nil⟩⟩⟩⟩) rfl rfl ?_
        refine l_rest_loop d hb X Z hI hk m (i + 1) _ _ (by omega) (by omega) (nI_add i 1) ?_
        have e : (!decide ((jx X b 4 i &&& sWith (sRest (jx X b) k i) (nI k) true) = 0) && sDone (jx X b) i) = false := by
          simp only [sDone, jx4 hi8, jx06]
          simp [*]
        show sWith _ _ _ = (if _ then _ else _)
        rw [if_pos hki, e]
      · refine er_k (pc' := 53) (nI 1) rfl rfl rfl ?_
        refine er_goto rfl ?_
        refine er_cSi (rest := []) rfl rfl rfl (l_with _ _ _ true _) ?_
        refine er_loc (L' := [(2, _), (4, _), (0, _), (1, _), (3, _)]) rfl rfl rfl ?_
        refine er_loc (L' := [(3, .int (_ + nI 1)), (2, _), (4, _), (0, _), (1, _)]) rfl rfl rfl ?_
        refine er_goto rfl ?_
        refine ER_loc [(0, _), (1, _), (2, _), (3, _)] rfl (List.forall_mem_cons.mpr ⟨rfl, List.forall_mem_cons.mpr ⟨rfl, List.forall_mem_cons.mpr ⟨rfl, List.forall_mem_cons.mpr ⟨rfl, fun _ h => absurd h List.not_mem_nil⟩⟩⟩⟩) rfl rfl ?_
        refine l_rest_loop d hb X Z hI hk m (i + 1) _ _ (by omega) (by omega) (nI_add i 1) ?_
        have e : (!decide ((jx X b 4 i &&& sWith (sRest (jx X b) k i) (nI k) true) = 0) && sDone (jx X b) i) = true := by
          simp only [sDone, jx4 hi8, jx06]
          simp [*]
        show sWith _ _ _ = (if _ then _ else _)
        rw [if_pos hki, e]
set_option maxRecDepth 100000 in
set_option maxHeartbeats 4000000 in
theorem l_restingOn (d : Nat) {b : Nat} (hb : jb b) (X Z : Nat → Nat → Int32) {T : Nat} (hI : IJ T (jx X b)) {k : Nat} (hk : k < jn (jx X b)) : EC (d + 3) 52 [.ref b, .int (nI k)] (Wd X Z) (PI (sRest (jx X b) k (jn (jx X b))) (Wd X Z)) := by
  refine er_enter (L := [(0, _), (1, _)]) rfl rfl rfl ?_
  refine er_k (pc' := 1) (nI 0) rfl rfl rfl ?_
  refine er_loc (pc' := 2) (L' := [(2, _), (0, _), (1, _)]) rfl rfl rfl ?_
  refine er_loc (pc' := 3) rfl rfl rfl ?_
  refine er_k (pc' := 4) (nI 1) rfl rfl rfl ?_
  refine er_iadd (pc' := 5) rfl rfl ?_
  refine er_loc (pc' := 6) (L' := [(3, _), (2, _), (0, _), (1, _)]) rfl rfl rfl ?_
  refine ER_loc [(0, _), (1, _), (2, _), (3, _)] rfl (List.forall_mem_cons.mpr ⟨rfl, List.forall_mem_cons.mpr ⟨rfl, List.forall_mem_cons.mpr ⟨rfl, List.forall_mem_cons.mpr ⟨rfl, fun _ h => absurd h List.not_mem_nil⟩⟩⟩⟩) rfl rfl ?_
  exact l_rest_loop d hb X Z hI hk (jn (jx X b) - (k + 1)) (k + 1) _ _ (by omega) (by omega) (nI_add k 1) (sRest_low (Nat.le_refl _)).symm
set_option maxRecDepth 100000 in
set_option maxHeartbeats 4000000 in
theorem l_sum_loop (d : Nat) {b : Nat} (hb : jb b) (X Z : Nat → Nat → Int32) {T : Nat} (hI : IJ T (jx X b)) (s : Int32) : ∀ (m i : Nat) (x v : Int32), i + m = jn (jx X b) → x = nI i → v = sSum (jx X b) s i → ER (d + 1) tb_m53 4 [(0, .ref b), (1, .int s), (2, .int v), (3, .int x)] [] (Wd X Z) (PI (sSum (jx X b) s (jn (jx X b))) (Wd X Z))
  | 0, i, x, v, hi, hx, hv => by
    have h8 := jn8 hI
    have hi : i = jn (jx X b) := by omega
    subst hx
    subst hv
    subst hi
    refine er_loc (pc' := 5) rfl rfl rfl ?_
    refine er_loc (pc' := 6) rfl rfl rfl ?_
    refine er_gf (pc' := 9) (_) rfl (blt_J hb 0 rfl) (cO_J0 hb _ _) rfl rfl ?_
    rw [show X b 1 = nI (jn (jx X b)) from hI.n.1]
    refine er_cm_geT rfl (nI_nlt (by omega) (by omega)) ?_
    refine er_loc (pc' := 40) rfl rfl rfl ?_
    refine er_iret rfl rfl ?_
    exact PI_of rfl
  | m + 1, i, x, v, hi, hx, hv => by
    have h8 := jn8 hI
    have hi8 : i < 8 := by omega
    subst hx
    subst hv
    refine er_loc (pc' := 5) rfl rfl rfl ?_
    refine er_loc (pc' := 6) rfl rfl rfl ?_
    refine er_gf (pc' := 9) (_) rfl (blt_J hb 0 rfl) (cO_J0 hb _ _) rfl rfl ?_
    rw [show X b 1 = nI (jn (jx X b)) from hI.n.1]
    refine er_cm_geF (pc' := 12) rfl (nI_lt (by omega) (by omega)) rfl ?_
    refine er_loc (pc' := 13) rfl rfl rfl ?_
    refine er_loc (pc' := 14) rfl rfl rfl ?_
    refine er_loc (pc' := 15) rfl rfl rfl ?_
    refine er_cSi (pc' := 18) (rest := [_]) rfl rfl rfl (l_isIn _ _ _ _) ?_
    refine er_if_eqb (pc' := 21) rfl rfl (fun h18 => ?_) (fun h18 => ?_)
    · refine er_k (pc' := 31) (nI 0) rfl rfl rfl ?_
      refine er_iadd rfl rfl ?_
      refine er_loc (L' := [(2, _), (0, _), (1, _), (3, _)]) rfl rfl rfl ?_
      refine er_loc (L' := [(3, .int (_ + nI 1)), (2, _), (0, _), (1, _)]) rfl rfl rfl ?_
      refine er_goto rfl ?_
      refine ER_loc [(0, _), (1, _), (2, _), (3, _)] rfl (List.forall_mem_cons.mpr ⟨rfl, List.forall_mem_cons.mpr ⟨rfl, List.forall_mem_cons.mpr ⟨rfl, List.forall_mem_cons.mpr ⟨rfl, fun _ h => absurd h List.not_mem_nil⟩⟩⟩⟩) rfl rfl ?_
      refine l_sum_loop d hb X Z hI s m (i + 1) _ _ (by omega) (nI_add i 1) ?_
      show _ = sSum _ _ _ + (if _ then _ else _)
      rw [if_neg (by rw [h18]; decide)]
    · refine er_loc (pc' := 22) rfl rfl rfl ?_
      refine er_gf (pc' := 25) (_) rfl (blt_J hb 0 rfl) (cO_J0 hb _ _) rfl rfl ?_
      refine er_loc (pc' := 26) rfl rfl rfl ?_
      refine er_ia (pc' := 27) (i) rfl (blt_J hb 3 rfl) (cO_J3 hb _ _) rfl (by omega) rfl rfl ?_
      refine er_goto rfl ?_
      refine er_iadd rfl rfl ?_
      refine er_loc (L' := [(2, _), (0, _), (1, _), (3, _)]) rfl rfl rfl ?_
      refine er_loc (L' := [(3, .int (_ + nI 1)), (2, _), (0, _), (1, _)]) rfl rfl rfl ?_
      refine er_goto rfl ?_
      refine ER_loc [(0, _), (1, _), (2, _), (3, _)] rfl (List.forall_mem_cons.mpr ⟨rfl, List.forall_mem_cons.mpr ⟨rfl, List.forall_mem_cons.mpr ⟨rfl, List.forall_mem_cons.mpr ⟨rfl, fun _ h => absurd h List.not_mem_nil⟩⟩⟩⟩) rfl rfl ?_
      refine l_sum_loop d hb X Z hI s m (i + 1) _ _ (by omega) (nI_add i 1) ?_
      show _ = sSum _ _ _ + (if _ then _ else _)
      rw [if_pos h18, jx3 hi8]
set_option maxRecDepth 100000 in
set_option maxHeartbeats 4000000 in
theorem l_screwsOf (d : Nat) {b : Nat} (hb : jb b) (X Z : Nat → Nat → Int32) {T : Nat} (hI : IJ T (jx X b)) (s : Int32) : EC (d + 2) 53 [.ref b, .int s] (Wd X Z) (PI (sSum (jx X b) s (jn (jx X b))) (Wd X Z)) := by
  refine er_enter (L := [(0, _), (1, _)]) rfl rfl rfl ?_
  refine er_k (pc' := 1) (nI 0) rfl rfl rfl ?_
  refine er_loc (pc' := 2) (L' := [(2, _), (0, _), (1, _)]) rfl rfl rfl ?_
  refine er_k (pc' := 3) (nI 0) rfl rfl rfl ?_
  refine er_loc (pc' := 4) (L' := [(3, _), (2, _), (0, _), (1, _)]) rfl rfl rfl ?_
  refine ER_loc [(0, _), (1, _), (2, _), (3, _)] rfl (List.forall_mem_cons.mpr ⟨rfl, List.forall_mem_cons.mpr ⟨rfl, List.forall_mem_cons.mpr ⟨rfl, List.forall_mem_cons.mpr ⟨rfl, fun _ h => absurd h List.not_mem_nil⟩⟩⟩⟩) rfl rfl ?_
  exact l_sum_loop d hb X Z hI s (jn (jx X b)) 0 _ _ (by omega) rfl rfl
def pop1 (x : Int32) : Int32 := x - ((x.toUInt32 >>> ((nI 1 : Int32).toUInt32 &&& Int32.toUInt32 31)).toInt32 &&& 1431655765)
def pop2 (x : Int32) : Int32 := (x &&& 858993459) + ((x.toUInt32 >>> ((nI 2 : Int32).toUInt32 &&& Int32.toUInt32 31)).toInt32 &&& 858993459)
def pop3 (x : Int32) : Int32 := x + (x.toUInt32 >>> ((nI 4 : Int32).toUInt32 &&& Int32.toUInt32 31)).toInt32 &&& 252645135
def pop4 (x : Int32) : Int32 := x + (x.toUInt32 >>> ((nI 8 : Int32).toUInt32 &&& Int32.toUInt32 31)).toInt32
def pop5 (x : Int32) : Int32 := x + (x.toUInt32 >>> ((nI 16 : Int32).toUInt32 &&& Int32.toUInt32 31)).toInt32
def sPop (x : Int32) : Int32 := pop5 (pop4 (pop3 (pop2 (pop1 x)))) &&& nI 63
def sOpen (J : Nat → Nat → Int32) : Int32 := J 0 1 - sPop (J 0 6)
set_option maxRecDepth 100000 in
set_option maxHeartbeats 4000000 in
theorem l_bitCount (d : Nat) (x : Int32) (w : ab_W) : EC (d + 1) 226 [.int x] w (PI (sPop x) w) := by
  refine er_enter (L := [(0, _)]) rfl rfl rfl ?_
  refine er_loc (pc' := 1) rfl rfl rfl ?_
  refine er_loc (pc' := 2) rfl rfl rfl ?_
  refine er_k (pc' := 3) (nI 1) rfl rfl rfl ?_
  refine er_iushr (pc' := 4) rfl rfl ?_
  refine er_ldc (pc' := 7) (1431655765) rfl rfl rfl rfl rfl ?_
  refine er_iand (pc' := 8) rfl rfl ?_
  refine er_isub (pc' := 9) rfl rfl ?_
  refine er_loc (pc' := 10) (L' := [(0, _)]) rfl rfl rfl ?_
  refine er_loc (pc' := 11) rfl rfl rfl ?_
  refine er_ldc (pc' := 14) (858993459) rfl rfl rfl rfl rfl ?_
  refine er_iand (pc' := 15) rfl rfl ?_
  refine er_loc (pc' := 16) rfl rfl rfl ?_
  refine er_k (pc' := 17) (nI 2) rfl rfl rfl ?_
  refine er_iushr (pc' := 18) rfl rfl ?_
  refine er_ldc (pc' := 21) (858993459) rfl rfl rfl rfl rfl ?_
  refine er_iand (pc' := 22) rfl rfl ?_
  refine er_iadd (pc' := 23) rfl rfl ?_
  refine er_loc (pc' := 24) (L' := [(0, _)]) rfl rfl rfl ?_
  refine er_loc (pc' := 25) rfl rfl rfl ?_
  refine er_loc (pc' := 26) rfl rfl rfl ?_
  refine er_k (pc' := 27) (nI 4) rfl rfl rfl ?_
  refine er_iushr (pc' := 28) rfl rfl ?_
  refine er_iadd (pc' := 29) rfl rfl ?_
  refine er_ldc (pc' := 32) (252645135) rfl rfl rfl rfl rfl ?_
  refine er_iand (pc' := 33) rfl rfl ?_
  refine er_loc (pc' := 34) (L' := [(0, _)]) rfl rfl rfl ?_
  refine er_loc (pc' := 35) rfl rfl rfl ?_
  refine er_loc (pc' := 36) rfl rfl rfl ?_
  refine er_k (pc' := 38) (nI 8) rfl rfl rfl ?_
  refine er_iushr (pc' := 39) rfl rfl ?_
  refine er_iadd (pc' := 40) rfl rfl ?_
  refine er_loc (pc' := 41) (L' := [(0, _)]) rfl rfl rfl ?_
  refine er_loc (pc' := 42) rfl rfl rfl ?_
  refine er_loc (pc' := 43) rfl rfl rfl ?_
  refine er_k (pc' := 45) (nI 16) rfl rfl rfl ?_
  refine er_iushr (pc' := 46) rfl rfl ?_
  refine er_iadd (pc' := 47) rfl rfl ?_
  refine er_loc (pc' := 48) (L' := [(0, _)]) rfl rfl rfl ?_
  refine er_loc (pc' := 49) rfl rfl rfl ?_
  refine er_k (pc' := 51) (nI 63) rfl rfl rfl ?_
  refine er_iand (pc' := 52) rfl rfl ?_
  refine er_iret rfl rfl ?_
  exact PI_of rfl
set_option maxRecDepth 100000 in
set_option maxHeartbeats 4000000 in
theorem l_howManyOpen (d : Nat) {b : Nat} (hb : jb b) (X Z : Nat → Nat → Int32) : EC (d + 2) 50 [.ref b] (Wd X Z) (PI (sOpen (jx X b)) (Wd X Z)) := by
  refine er_enter (L := [(0, _)]) rfl rfl rfl ?_
  refine er_loc (pc' := 1) rfl rfl rfl ?_
  refine er_gf (pc' := 4) (_) rfl (blt_J hb 0 rfl) (cO_J0 hb _ _) rfl rfl ?_
  refine er_loc (pc' := 5) rfl rfl rfl ?_
  refine er_gf (pc' := 8) (_) rfl (blt_J hb 0 rfl) (cO_J0 hb _ _) rfl rfl ?_
  refine er_cSi (pc' := 11) (rest := [_]) rfl rfl rfl (l_bitCount _ _ _) ?_
  refine er_isub (pc' := 12) rfl rfl ?_
  refine er_iret rfl rfl ?_
  exact PI_of rfl
end
section
/-! BITS of sets -/
theorem fin32 {k : Nat} (h : k < 32) {p : Nat → Prop} (hp : ∀ i : Fin 32, p i.val) : p k := hp ⟨k, h⟩
theorem sh1_bv {k : Nat} (h : k < 32) : (nI 1 <<< (nI k &&& 31)).toBitVec = BitVec.twoPow 32 k := fin32 (p := fun k => (nI 1 <<< (nI k &&& 31)).toBitVec = BitVec.twoPow 32 k) h (by decide +kernel)
theorem shn_bv {k : Nat} (h : k < 32) : ((nI k).toUInt32 &&& Int32.toUInt32 31).toBitVec = BitVec.ofNat 32 k := fin32 (p := fun k => ((nI k).toUInt32 &&& Int32.toUInt32 31).toBitVec = BitVec.ofNat 32 k) h (by decide +kernel)
theorem bt_lt {x : Int32} {i : Nat} (h : bt x i = true) : i < 32 := by
  unfold bt at h
  exact BitVec.lt_of_getLsbD h
theorem bt_ext {x y : Int32} (h : ∀ i, i < 32 → bt x i = bt y i) : x = y := by
  apply Int32.toBitVec_inj.mp
  exact BitVec.eq_of_getLsbD_eq (fun i hi => h i hi)
theorem bt_and (x y : Int32) (i : Nat) : bt (x &&& y) i = (bt x i && bt y i) := by
  unfold bt
  rw [Int32.toBitVec_and, BitVec.getLsbD_and]
theorem bt_or (x y : Int32) (i : Nat) : bt (x ||| y) i = (bt x i || bt y i) := by
  unfold bt
  rw [Int32.toBitVec_or, BitVec.getLsbD_or]
theorem bt_xor (x y : Int32) (i : Nat) : bt (x ^^^ y) i = (bt x i ^^ bt y i) := by
  unfold bt
  rw [Int32.toBitVec_xor, BitVec.getLsbD_xor]
theorem bt_m1 {i : Nat} (h : i < 32) : bt (-1) i = true := fin32 (p := fun i => bt (-1) i = true) h (by decide +kernel)
theorem bt_0 (i : Nat) : bt (nI 0) i = false := by
  unfold bt
  rw [show (nI 0).toBitVec = 0#32 from by decide +kernel, BitVec.getLsbD_zero]
theorem bt_one {k : Nat} (h : k < 32) (i : Nat) : bt (nI 1 <<< (nI k &&& 31)) i = decide (i = k) := by
  unfold bt
  rw [sh1_bv h, BitVec.getLsbD_twoPow]
  by_cases hk : i = k
  · subst hk; simp [h]
  · simp [hk, Ne.symm hk]
theorem bt_with {x : Int32} {k : Nat} {c : Bool} (h : k < 32) (i : Nat) : bt (sWith x (nI k) c) i = if i = k then c else bt x i := by
  unfold sWith
  cases c with
  | true =>
    simp only [cond_true]
    rw [bt_or, bt_one h]
    by_cases hk : i = k <;> simp [hk]
  | false =>
    simp only [cond_false]
    rw [bt_and, bt_xor, bt_one h]
    by_cases hk : i = k
    · subst hk
      rw [bt_m1 h]
      simp
    · by_cases hi : i < 32
      · rw [bt_m1 hi]
        simp [hk]
      · have e : bt x i = false := by
          cases hb : bt x i with
          | false => rfl
          | true => exact absurd (bt_lt hb) hi
        rw [e]
        simp [hk]
theorem nI1_and {x : Int32} : (x &&& nI 1 = nI 1) ↔ bt x 0 = true := by
  constructor
  · intro h
    have h1 : bt (x &&& nI 1) 0 = bt (nI 1) 0 := by rw [h]
    rw [bt_and, show bt (nI 1) 0 = true from by decide +kernel] at h1
    simpa using h1
  · intro h
    apply bt_ext
    intro i hi
    rw [bt_and]
    by_cases h0 : i = 0
    · subst h0; rw [h]; rfl
    · have e : bt (nI 1) i = false := by
        have h2 := bt_one (k := 0) (by omega) i
        rw [show nI 1 <<< (nI 0 &&& 31) = nI 1 from by decide +kernel] at h2
        rw [h2]
        exact decide_eq_false h0
      rw [e]
      simp
theorem sBit_bt {x : Int32} {k : Nat} (h : k < 32) : sBit x (nI k) = bt x k := by
  unfold sBit
  have e : ((x.toUInt32 >>> ((nI k).toUInt32 &&& Int32.toUInt32 31)).toInt32 &&& nI 1 = nI 1) ↔ bt x k = true := by
    rw [nI1_and]
    have e2 : bt (x.toUInt32 >>> ((nI k).toUInt32 &&& Int32.toUInt32 31)).toInt32 0 = bt x k := by
      unfold bt
      rw [show (x.toUInt32 >>> ((nI k).toUInt32 &&& Int32.toUInt32 31)).toInt32.toBitVec = (x.toUInt32 >>> ((nI k).toUInt32 &&& Int32.toUInt32 31)).toBitVec from rfl, UInt32.toBitVec_shiftRight, shn_bv h]
      rw [show x.toUInt32.toBitVec = x.toBitVec from rfl]
      rw [show (BitVec.ofNat 32 k % 32) = BitVec.ofNat 32 k from fin32 (p := fun k => (BitVec.ofNat 32 k % 32) = BitVec.ofNat 32 k) h (by decide +kernel)]
      rw [BitVec.ushiftRight_eq', BitVec.getLsbD_ushiftRight, BitVec.toNat_ofNat, Nat.mod_eq_of_lt (by omega)]
      rfl
    rw [e2]
  cases hb : bt x k with
  | true => exact decide_eq_true (e.mpr hb)
  | false => exact decide_eq_false (fun hh => by rw [e.mp hh] at hb; cases hb)
theorem sub_iff {x y : Int32} : (x &&& (y ^^^ (-1))) = 0 ↔ ∀ i, bt x i = true → bt y i = true := by
  constructor
  · intro h i hi
    have h1 : bt (x &&& (y ^^^ (-1))) i = bt (0 : Int32) i := by rw [h]
    rw [bt_and, bt_xor, hi, bt_m1 (bt_lt hi), show (0 : Int32) = nI 0 from by decide +kernel, bt_0] at h1
    cases hy : bt y i with
    | true => rfl
    | false => rw [hy] at h1; cases h1
  · intro h
    rw [show (0 : Int32) = nI 0 from by decide +kernel]
    apply bt_ext
    intro i hi
    rw [bt_and, bt_xor, bt_m1 hi, bt_0]
    cases hx : bt x i with
    | false => rfl
    | true => rw [h i hx]; rfl
theorem and_ne0 {x y : Int32} : ¬ (x &&& y) = 0 ↔ ∃ i, bt x i = true ∧ bt y i = true := by
  constructor
  · intro h
    apply Classical.byContradiction
    intro hn
    apply h
    rw [show (0 : Int32) = nI 0 from by decide +kernel]
    apply bt_ext
    intro i hi
    rw [bt_and, bt_0]
    cases hx : bt x i with
    | false => rfl
    | true =>
      cases hy : bt y i with
      | false => rfl
      | true => exact absurd ⟨i, hx, hy⟩ hn
  · rintro ⟨i, h1, h2⟩ h
    have h3 : bt (x &&& y) i = bt (0 : Int32) i := by rw [h]
    rw [bt_and, h1, h2, show (0 : Int32) = nI 0 from by decide +kernel, bt_0] at h3
    cases h3
theorem ud_at (X : Nat → Nat → Int32) (c k : Nat) (v : Int32) (i j : Nat) : ud X c k v i j = if i = c then (if j = k then v else X i j) else X i j := by
  unfold ud uc
  by_cases h : i = c
  · subst h; simp [u1]
  · simp [h]
theorem isN_iff {v : Int32} {B : Nat} (hB : B < 2 ^ 31) : isN v B ↔ ∃ n, n ≤ B ∧ v = nI n := by
  constructor
  · intro h; exact ⟨nN v, h.2, h.1⟩
  · rintro ⟨n, h1, rfl⟩; exact isN.of h1 hB
theorem isN.mono {v : Int32} {B C : Nat} (h : isN v B) (hBC : B ≤ C) : isN v C := ⟨h.1, Nat.le_trans h.2 hBC⟩
end
section
/-! JOBS: what changes them -/
theorem jx_ud0 {X : Nat → Nat → Int32} {b k : Nat} {v : Int32} (h : okF k = true) : jx (ud X b k v) b = ud (jx X b) 0 k v := by
  funext i j
  unfold jx
  simp only [ud_at]
  match i with
  | 0 =>
    by_cases hj : j = k
    · subst hj; simp [h]
    · simp [hj]
  | 1 => simp
  | 2 => simp
  | 3 => simp
  | 4 => simp
  | 5 => simp
  | 6 => simp
  | 7 => simp
  | 8 => simp
  | 9 => simp
  | 10 => simp
  | i + 11 => simp
theorem jx_ud1 {X : Nat → Nat → Int32} {b k : Nat} {v : Int32} (h : k < 8) : jx (ud X (b + 1) k v) b = ud (jx X b) 1 k v := by
  funext i j
  unfold jx
  simp only [ud_at]
  match i with
  | 0 => simp
  | 1 =>
    by_cases hj : j = k
    · subst hj; simp [h]
    · simp [hj]
  | 2 => simp
  | 3 => simp
  | 4 => simp
  | 5 => simp
  | 6 => simp
  | 7 => simp
  | 8 => simp
  | 9 => simp
  | 10 => simp
  | i + 11 => simp; try omega
theorem jx_ud2 {X : Nat → Nat → Int32} {b k : Nat} {v : Int32} (h : k < 8) : jx (ud X (b + 2) k v) b = ud (jx X b) 2 k v := by
  funext i j
  unfold jx
  simp only [ud_at]
  match i with
  | 0 => simp
  | 1 => simp
  | 2 =>
    by_cases hj : j = k
    · subst hj; simp [h]
    · simp [hj]
  | 3 => simp
  | 4 => simp
  | 5 => simp
  | 6 => simp
  | 7 => simp
  | 8 => simp
  | 9 => simp
  | 10 => simp
  | i + 11 => simp; try omega
theorem jx_ud3 {X : Nat → Nat → Int32} {b k : Nat} {v : Int32} (h : k < 8) : jx (ud X (b + 3) k v) b = ud (jx X b) 3 k v := by
  funext i j
  unfold jx
  simp only [ud_at]
  match i with
  | 0 => simp
  | 1 => simp
  | 2 => simp
  | 3 =>
    by_cases hj : j = k
    · subst hj; simp [h]
    · simp [hj]
  | 4 => simp
  | 5 => simp
  | 6 => simp
  | 7 => simp
  | 8 => simp
  | 9 => simp
  | 10 => simp
  | i + 11 => simp; try omega
theorem jx_ud4 {X : Nat → Nat → Int32} {b k : Nat} {v : Int32} (h : k < 8) : jx (ud X (b + 4) k v) b = ud (jx X b) 4 k v := by
  funext i j
  unfold jx
  simp only [ud_at]
  match i with
  | 0 => simp
  | 1 => simp
  | 2 => simp
  | 3 => simp
  | 4 =>
    by_cases hj : j = k
    · subst hj; simp [h]
    · simp [hj]
  | 5 => simp
  | 6 => simp
  | 7 => simp
  | 8 => simp
  | 9 => simp
  | 10 => simp
  | i + 11 => simp; try omega
theorem jx_off {X X' : Nat → Nat → Int32} {b : Nat} (h : ∀ c, b ≤ c → c ≤ b + 12 → X' c = X c) : jx X' b = jx X b := by
  funext i j
  unfold jx
  rw [h b (by omega) (by omega), h (b + 1) (by omega) (by omega), h (b + 2) (by omega) (by omega), h (b + 3) (by omega) (by omega), h (b + 4) (by omega) (by omega), h (b + 5) (by omega) (by omega), h (b + 6) (by omega) (by omega), h (b + 8) (by omega) (by omega), h (b + 9) (by omega) (by omega), h (b + 11) (by omega) (by omega), h (b + 12) (by omega) (by omega)]
section IJU
variable {T T' : Nat} {J : Nat → Nat → Int32} {v : Int32}
theorem IJ.uMin (h : IJ T J) (hv : isN v T') : IJ T' (ud J 0 10 v) := ⟨h.n, h.kind, h.m, h.sc, h.needs, h.done, h.wrong, h.hands, h.bag, hv, h.tl, h.te, h.fed, h.waits, h.tape⟩
theorem IJ.uBag (h : IJ T J) (hv : isN v 999) : IJ T (ud J 0 9 v) := ⟨h.n, h.kind, h.m, h.sc, h.needs, h.done, h.wrong, h.hands, hv, h.minute, h.tl, h.te, h.fed, h.waits, h.tape⟩
theorem IJ.uHands (h : IJ T J) (hv : v = nI 1 ∨ v = nI 2) : IJ T (ud J 0 8 v) := ⟨h.n, h.kind, h.m, h.sc, h.needs, h.done, h.wrong, hv, h.bag, h.minute, h.tl, h.te, h.fed, h.waits, h.tape⟩
theorem IJ.uDone (h : IJ T J) (hv : ∀ i, bt v i = true → i < jn J) : IJ T (ud J 0 6 v) := ⟨h.n, h.kind, h.m, h.sc, h.needs, hv, h.wrong, h.hands, h.bag, h.minute, h.tl, h.te, h.fed, h.waits, h.tape⟩
theorem IJ.uWrong (h : IJ T J) (hv : ∀ i, bt v i = true → i < jn J) : IJ T (ud J 0 7 v) := ⟨h.n, h.kind, h.m, h.sc, h.needs, h.done, hv, h.hands, h.bag, h.minute, h.tl, h.te, h.fed, h.waits, h.tape⟩
theorem IJ.uZ (h : IJ T J) : IJ T (ud J 0 17 v) := ⟨h.n, h.kind, h.m, h.sc, h.needs, h.done, h.wrong, h.hands, h.bag, h.minute, h.tl, h.te, h.fed, h.waits, h.tape⟩
theorem IJ.uFed (h : IJ T J) (hv : isN v 50) : IJ T (ud J 0 14 v) := ⟨h.n, h.kind, h.m, h.sc, h.needs, h.done, h.wrong, h.hands, h.bag, h.minute, h.tl, h.te, hv, h.waits, h.tape⟩
theorem IJ.uWaits (h : IJ T J) (hv : isN v 20) : IJ T (ud J 0 16 v) := ⟨h.n, h.kind, h.m, h.sc, h.needs, h.done, h.wrong, h.hands, h.bag, h.minute, h.tl, h.te, h.fed, hv, h.tape⟩
theorem u1_all {f : Nat → Int32} {k : Nat} {p : Int32 → Prop} (h : ∀ i, p (f i)) (hv : p v) : ∀ i, p (u1 f k v i) := by
  intro i
  unfold u1
  split
  · exact hv
  · exact h i
theorem IJ.uKind (h : IJ T J) {k : Nat} (hv : isN v 6) : IJ T (ud J 1 k v) := ⟨h.n, u1_all (p := fun x => isN x 6) h.kind hv, h.m, h.sc, h.needs, h.done, h.wrong, h.hands, h.bag, h.minute, h.tl, h.te, h.fed, h.waits, h.tape⟩
theorem IJ.uM (h : IJ T J) {k : Nat} (hv : isN v 9) : IJ T (ud J 2 k v) := ⟨h.n, h.kind, u1_all (p := fun x => isN x 9) h.m hv, h.sc, h.needs, h.done, h.wrong, h.hands, h.bag, h.minute, h.tl, h.te, h.fed, h.waits, h.tape⟩
theorem IJ.uSc (h : IJ T J) {k : Nat} (hv : isN v 9) : IJ T (ud J 3 k v) := ⟨h.n, h.kind, h.m, u1_all (p := fun x => isN x 9) h.sc hv, h.needs, h.done, h.wrong, h.hands, h.bag, h.minute, h.tl, h.te, h.fed, h.waits, h.tape⟩
theorem IJ.uNeeds (h : IJ T J) {k : Nat} (hv : ∀ i, bt v i = true → i < k) : IJ T (ud J 4 k v) := ⟨h.n, h.kind, h.m, h.sc, (by
  intro j i hi
  have e : ud J 4 k v 4 j = if j = k then v else J 4 j := rfl
  rw [e] at hi
  split at hi
  · rename_i hj; subst hj; exact hv i hi
  · exact h.needs j i hi), h.done, h.wrong, h.hands, h.bag, h.minute, h.tl, h.te, h.fed, h.waits, h.tape⟩
theorem IJ.uN (h : IJ T J) {n : Nat} (hn : n ≤ 8) (hge : jn J ≤ n) : IJ T (ud J 0 1 (nI n)) := ⟨isN.of hn (by omega), h.kind, h.m, h.sc, h.needs, (by
  intro i hi
  have e : jn (ud J 0 1 (nI n)) = n := nN_nI (by omega)
  have := h.done i hi
  rw [e]; omega), (by
  intro i hi
  have e : jn (ud J 0 1 (nI n)) = n := nN_nI (by omega)
  have := h.wrong i hi
  rw [e]; omega), h.hands, h.bag, h.minute, h.tl, h.te, h.fed, h.waits, h.tape⟩
theorem IJ.mono (h : IJ T J) (hT : T ≤ T') : IJ T' J := ⟨h.n, h.kind, h.m, h.sc, h.needs, h.done, h.wrong, h.hands, h.bag, h.minute.mono hT, h.tl, h.te, h.fed, h.waits, h.tape⟩
theorem bt_with_lt {x : Int32} {k n : Nat} {c : Bool} (hk : k < n) (hn : n ≤ 8) (h : ∀ i, bt x i = true → i < n) : ∀ i, bt (sWith x (nI k) c) i = true → i < n := by
  intro i hi
  rw [bt_with (by omega)] at hi
  split at hi
  · omega
  · exact h i hi
end IJU
def xPass (X : Nat → Nat → Int32) (b k : Nat) : Nat → Nat → Int32 := ud (ud (ud X b 10 (X b 10 + sLasts (jx X b) k)) b 9 (X b 9 - X (b + 3) k)) b 6 (sWith (X b 6) (nI k) true)
def jPass (J : Nat → Nat → Int32) (k : Nat) : Nat → Nat → Int32 := ud (ud (ud J 0 10 (J 0 10 + sLasts J k)) 0 9 (J 0 9 - J 3 k)) 0 6 (sWith (J 0 6) (nI k) true)
def xFin (X : Nat → Nat → Int32) (b k : Nat) : Nat → Nat → Int32 := xPass (ud X b 7 (sWith (X b 7) (nI k) (!decide (sErrs (jx X b) k = 0)))) b k
def jFin (J : Nat → Nat → Int32) (k : Nat) : Nat → Nat → Int32 := jPass (ud J 0 7 (sWith (J 0 7) (nI k) (!decide (sErrs J k = 0)))) k
def sGive (g s : Int32) : Int32 := if g + (if nI 0 < s - nI 1 then s - nI 1 else nI 0) < nI 999 then g + (if nI 0 < s - nI 1 then s - nI 1 else nI 0) else nI 999
def xApart (X : Nat → Nat → Int32) (b k : Nat) : Nat → Nat → Int32 := ud (ud (ud (ud X b 10 (X b 10 + sBack (jx X b) k)) b 9 (sGive (X b 9) (X (b + 3) k))) b 6 (sWith (X b 6) (nI k) false)) b 7 (sWith (X b 7) (nI k) false)
def jApart (J : Nat → Nat → Int32) (k : Nat) : Nat → Nat → Int32 := ud (ud (ud (ud J 0 10 (J 0 10 + sBack J k)) 0 9 (sGive (J 0 9) (J 3 k))) 0 6 (sWith (J 0 6) (nI k) false)) 0 7 (sWith (J 0 7) (nI k) false)
def xUnpass (X : Nat → Nat → Int32) (b k : Nat) (g t : Int32) : Nat → Nat → Int32 := ud (ud (ud X b 6 (sWith (X b 6) (nI k) false)) b 9 g) b 10 t
def jUnpass (J : Nat → Nat → Int32) (k : Nat) (g t : Int32) : Nat → Nat → Int32 := ud (ud (ud J 0 6 (sWith (J 0 6) (nI k) false)) 0 9 g) 0 10 t
theorem jx_xPass {X : Nat → Nat → Int32} {b k : Nat} (hk : k < 8) : jx (xPass X b k) b = jPass (jx X b) k := by
  unfold xPass jPass
  rw [jx_ud0 rfl, jx_ud0 rfl, jx_ud0 rfl, jx010, jx09, jx06, jx3 hk]
theorem jx_xFin {X : Nat → Nat → Int32} {b k : Nat} (hk : k < 8) : jx (xFin X b k) b = jFin (jx X b) k := by
  unfold xFin jFin
  rw [jx_xPass hk, jx_ud0 rfl, jx07]
theorem jx_xApart {X : Nat → Nat → Int32} {b k : Nat} (hk : k < 8) : jx (xApart X b k) b = jApart (jx X b) k := by
  unfold xApart jApart
  rw [jx_ud0 rfl, jx_ud0 rfl, jx_ud0 rfl, jx_ud0 rfl, jx010, jx09, jx06, jx07, jx3 hk]
theorem jx_xUnpass {X : Nat → Nat → Int32} {b k : Nat} {g t : Int32} : jx (xUnpass X b k g t) b = jUnpass (jx X b) k g t := by
  unfold xUnpass jUnpass
  rw [jx_ud0 rfl, jx_ud0 rfl, jx_ud0 rfl, jx06]
theorem xPass_off {X : Nat → Nat → Int32} {b k c : Nat} (h : c ≠ b) : xPass X b k c = X c := by
  unfold xPass
  rw [ud_ne h, ud_ne h, ud_ne h]
theorem xFin_off {X : Nat → Nat → Int32} {b k c : Nat} (h : c ≠ b) : xFin X b k c = X c := by
  unfold xFin
  rw [xPass_off h, ud_ne h]
theorem xApart_off {X : Nat → Nat → Int32} {b k c : Nat} (h : c ≠ b) : xApart X b k c = X c := by
  unfold xApart
  rw [ud_ne h, ud_ne h, ud_ne h, ud_ne h]
theorem xUnpass_off {X : Nat → Nat → Int32} {b k c : Nat} {g t : Int32} (h : c ≠ b) : xUnpass X b k g t c = X c := by
  unfold xUnpass
  rw [ud_ne h, ud_ne h, ud_ne h]
set_option maxRecDepth 100000 in
set_option maxHeartbeats 4000000 in
theorem l_pass (d : Nat) {b : Nat} (hb : jb b) (X Z : Nat → Nat → Int32) {T : Nat} (hI : IJ T (jx X b)) {k : Nat} (hk : k < jn (jx X b)) : EC (d + 5) 45 [.ref b, .int (nI k)] (Wd X Z) (RV (xPass X b k)) := by
  refine er_enter (L := [(0, _), (1, _)]) rfl rfl rfl ?_
  have h8 := jn8 hI
  have hk8 : k < 8 := by omega
  have hq := kind7 hI k
  refine er_loc (pc' := 1) rfl rfl rfl ?_
  refine er_loc (pc' := 2) rfl rfl rfl ?_
  refine er_cIi (pc' := 5) (rest := []) 7 rfl rfl rfl (blt_J hb 0 rfl) (cO_J0 hb _ _) rfl (l_has_t _ hb _ _ hI hk) ?_
  refine er_if_eqF (pc' := 8) rfl (by decide +kernel) rfl ?_
  refine er_loc (pc' := 9) rfl rfl rfl ?_
  refine er_pure (pc' := 10) rfl rfl rfl ?_
  refine er_gf (pc' := 13) (_) rfl (blt_J hb 0 rfl) (cO_J0 hb _ _) rfl rfl ?_
  refine er_loc (pc' := 14) rfl rfl rfl ?_
  refine er_loc (pc' := 15) rfl rfl rfl ?_
  refine er_cIz (pc' := 18) (rest := [_, _]) 7 rfl rfl rfl (blt_J hb 0 rfl) (cO_J0 hb _ _) rfl (l_lasts _ hb _ _ hI hk) ?_
  intro Z2
  refine er_iadd (pc' := 19) rfl rfl ?_
  refine er_pfIX (pc' := 22) 10 rfl (blt_J hb 0 rfl) (cO_J0 hb _ _) rfl (cO_J0 hb _ _) rfl ?_
  refine er_loc (pc' := 23) rfl rfl rfl ?_
  refine er_pure (pc' := 24) rfl rfl rfl ?_
  refine er_gf (pc' := 27) (_) rfl (blt_J hb 0 rfl) (cO_J0 hb _ _) rfl rfl ?_
  refine er_loc (pc' := 28) rfl rfl rfl ?_
  refine er_gf (pc' := 31) (_) rfl (blt_J hb 0 rfl) (cO_J0 hb _ _) rfl rfl ?_
  refine er_loc (pc' := 32) rfl rfl rfl ?_
  refine er_ia (pc' := 33) (k) rfl (blt_J hb 3 rfl) (cO_J3 hb _ _) rfl (by omega) rfl rfl ?_
  refine er_isub (pc' := 34) rfl rfl ?_
  refine er_pfIX (pc' := 37) 9 rfl (blt_J hb 0 rfl) (cO_J0 hb _ _) rfl (cO_J0 hb _ _) rfl ?_
  refine er_loc (pc' := 38) rfl rfl rfl ?_
  refine er_loc (pc' := 39) rfl rfl rfl ?_
  refine er_gf (pc' := 42) (_) rfl (blt_J hb 0 rfl) (cO_J0 hb _ _) rfl rfl ?_
  refine er_loc (pc' := 43) rfl rfl rfl ?_
  refine er_k (pc' := 44) (nI 1) rfl rfl rfl ?_
  refine er_cSi (pc' := 47) (rest := [_]) rfl rfl rfl (l_with _ _ _ true _) ?_
  refine er_pfIX (pc' := 50) 6 rfl (blt_J hb 0 rfl) (cO_J0 hb _ _) rfl (cO_J0 hb _ _) rfl ?_
  refine er_vret rfl rfl ?_
  exact RV_of (by simp [xPass, ud_at])
set_option maxRecDepth 100000 in
set_option maxHeartbeats 4000000 in
theorem l_finish (d : Nat) {b : Nat} (hb : jb b) (X Z : Nat → Nat → Int32) {T : Nat} (hI : IJ T (jx X b)) {k : Nat} (hk : k < jn (jx X b)) : EC (d + 6) 44 [.ref b, .int (nI k)] (Wd X Z) (RV (xFin X b k)) := by
  refine er_enter (L := [(0, _), (1, _)]) rfl rfl rfl ?_
  have h8 := jn8 hI
  have hk8 : k < 8 := by omega
  have hq := kind7 hI k
  refine er_loc (pc' := 1) rfl rfl rfl ?_
  refine er_loc (pc' := 2) rfl rfl rfl ?_
  refine er_cIi (pc' := 5) (rest := []) 7 rfl rfl rfl (blt_J hb 0 rfl) (cO_J0 hb _ _) rfl (l_has_t _ hb _ _ hI hk) ?_
  refine er_if_eqF (pc' := 8) rfl (by decide +kernel) rfl ?_
  refine er_loc (pc' := 9) rfl rfl rfl ?_
  refine er_loc (pc' := 10) rfl rfl rfl ?_
  refine er_gf (pc' := 13) (_) rfl (blt_J hb 0 rfl) (cO_J0 hb _ _) rfl rfl ?_
  refine er_loc (pc' := 14) rfl rfl rfl ?_
  refine er_ia (pc' := 15) (k) rfl (blt_J hb 2 rfl) (cO_J2 hb _ _) rfl (by omega) rfl rfl ?_
  refine er_loc (pc' := 16) rfl rfl rfl ?_
  refine er_cIi (pc' := 19) (rest := [_, _]) 7 rfl rfl rfl (blt_J hb 0 rfl) (cO_J0 hb _ _) rfl (l_tired _ hb _ _) ?_
  refine er_loc (pc' := 20) rfl rfl rfl ?_
  refine er_gf (pc' := 23) (_) rfl (blt_J hb 0 rfl) (cO_J0 hb _ _) rfl rfl ?_
  refine er_loc (pc' := 24) rfl rfl rfl ?_
  refine er_ia (pc' := 25) (k) rfl (blt_J hb 1 rfl) (cO_J1 hb _ _) rfl (by omega) rfl rfl ?_
  refine er_cIz (pc' := 28) (rest := []) 7 rfl rfl rfl (blt_J hb 0 rfl) (cO_J0 hb _ _) rfl (l_errsBy _ hb _ _ hI _ _ _) ?_
  intro Z1
  refine er_loc (pc' := 29) (L' := [(2, _), (0, _), (1, _)]) rfl rfl rfl ?_
  refine er_loc (pc' := 30) rfl rfl rfl ?_
  refine er_loc (pc' := 31) rfl rfl rfl ?_
  refine er_gf (pc' := 34) (_) rfl (blt_J hb 0 rfl) (cO_J0 hb _ _) rfl rfl ?_
  refine er_loc (pc' := 35) rfl rfl rfl ?_
  refine er_loc (pc' := 36) rfl rfl rfl ?_
  refine er_if_eq rfl rfl (fun h36 => ?_) (fun h36 => ?_)
  · refine er_k (pc' := 44) (nI 0) rfl rfl rfl ?_
    refine er_cSi (pc' := 47) (rest := [_]) rfl rfl rfl (l_with _ _ _ false _) ?_
    refine er_pfIX 7 rfl (blt_J hb 0 rfl) (cO_J0 hb _ _) rfl (cO_J0 hb _ _) rfl ?_
    refine er_loc (pc' := 51) rfl rfl rfl ?_
    refine er_loc (pc' := 52) rfl rfl rfl ?_
    have hI1 : IJ T (jx (ud X b 7 (sWith (X b 7) (nI k) false)) b) := by
      rw [jx_ud0 rfl]
      exact hI.uWrong (bt_with_lt hk h8 hI.wrong)
    have hk1 : k < jn (jx (ud X b 7 (sWith (X b 7) (nI k) false)) b) := by
      rw [jx_ud0 rfl]
      exact hk
    refine er_cIv (rest := []) 7 rfl rfl rfl (blt_J hb 0 rfl) (cO_J0 hb _ _) rfl (l_pass _ hb _ _ hI1 hk1) ?_
    intro Z3
    refine er_vret rfl rfl (RV_of ?_)
    unfold xFin
    rw [show (!decide (sErrs (jx X b) k = 0)) = false from by
      have e : sErrs (jx X b) k = sErrsBy (jx X b) (X (b + 2) k) (sTired (jx X b)) (X (b + 1) k) := by unfold sErrs; rw [jx2 hk8, jx1 hk8]
      rw [e]; simp [h36]]
  · refine er_k (pc' := 40) (nI 1) rfl rfl rfl ?_
    refine er_goto rfl ?_
    refine er_cSi (pc' := 47) (rest := [_]) rfl rfl rfl (l_with _ _ _ true _) ?_
    refine er_pfIX 7 rfl (blt_J hb 0 rfl) (cO_J0 hb _ _) rfl (cO_J0 hb _ _) rfl ?_
    refine er_loc (pc' := 51) rfl rfl rfl ?_
    refine er_loc (pc' := 52) rfl rfl rfl ?_
    have hI1 : IJ T (jx (ud X b 7 (sWith (X b 7) (nI k) true)) b) := by
      rw [jx_ud0 rfl]
      exact hI.uWrong (bt_with_lt hk h8 hI.wrong)
    have hk1 : k < jn (jx (ud X b 7 (sWith (X b 7) (nI k) true)) b) := by
      rw [jx_ud0 rfl]
      exact hk
    refine er_cIv (rest := []) 7 rfl rfl rfl (blt_J hb 0 rfl) (cO_J0 hb _ _) rfl (l_pass _ hb _ _ hI1 hk1) ?_
    intro Z3
    refine er_vret rfl rfl (RV_of ?_)
    unfold xFin
    rw [show (!decide (sErrs (jx X b) k = 0)) = true from by
      have e : sErrs (jx X b) k = sErrsBy (jx X b) (X (b + 2) k) (sTired (jx X b)) (X (b + 1) k) := by unfold sErrs; rw [jx2 hk8, jx1 hk8]
      rw [e]; simp [h36]]
set_option maxRecDepth 100000 in
set_option maxHeartbeats 4000000 in
theorem l_takeApart (d : Nat) {b : Nat} (hb : jb b) (X Z : Nat → Nat → Int32) {T : Nat} (hI : IJ T (jx X b)) {k : Nat} (hk : k < jn (jx X b)) : EC (d + 6) 46 [.ref b, .int (nI k)] (Wd X Z) (RV (xApart X b k)) := by
  refine er_enter (L := [(0, _), (1, _)]) rfl rfl rfl ?_
  have h8 := jn8 hI
  have hk8 : k < 8 := by omega
  have hq := kind7 hI k
  refine er_loc (pc' := 1) rfl rfl rfl ?_
  refine er_loc (pc' := 2) rfl rfl rfl ?_
  refine er_cIi (pc' := 5) (rest := []) 7 rfl rfl rfl (blt_J hb 0 rfl) (cO_J0 hb _ _) rfl (l_has_t _ hb _ _ hI hk) ?_
  refine er_if_eqF (pc' := 8) rfl (by decide +kernel) rfl ?_
  refine er_loc (pc' := 9) rfl rfl rfl ?_
  refine er_pure (pc' := 10) rfl rfl rfl ?_
  refine er_gf (pc' := 13) (_) rfl (blt_J hb 0 rfl) (cO_J0 hb _ _) rfl rfl ?_
  refine er_loc (pc' := 14) rfl rfl rfl ?_
  refine er_loc (pc' := 15) rfl rfl rfl ?_
  refine er_cIz (pc' := 18) (rest := [_, _]) 7 rfl rfl rfl (blt_J hb 0 rfl) (cO_J0 hb _ _) rfl (l_takesBack _ hb _ _ hI hk) ?_
  intro Z2
  refine er_iadd (pc' := 19) rfl rfl ?_
  refine er_pfIX (pc' := 22) 10 rfl (blt_J hb 0 rfl) (cO_J0 hb _ _) rfl (cO_J0 hb _ _) rfl ?_
  refine er_loc (pc' := 23) rfl rfl rfl ?_
  refine er_k (pc' := 26) (nI 999) rfl rfl rfl ?_
  refine er_loc (pc' := 27) rfl rfl rfl ?_
  refine er_gf (pc' := 30) (_) rfl (blt_J hb 0 rfl) (cO_J0 hb _ _) rfl rfl ?_
  refine er_k (pc' := 31) (nI 0) rfl rfl rfl ?_
  refine er_loc (pc' := 32) rfl rfl rfl ?_
  refine er_gf (pc' := 35) (_) rfl (blt_J hb 0 rfl) (cO_J0 hb _ _) rfl rfl ?_
  refine er_loc (pc' := 36) rfl rfl rfl ?_
  refine er_ia (pc' := 37) (k) rfl (blt_J hb 3 rfl) (cO_J3 hb _ _) rfl (by omega) rfl rfl ?_
  refine er_k (pc' := 38) (nI 1) rfl rfl rfl ?_
  refine er_isub (pc' := 39) rfl rfl ?_
  refine er_max (pc' := 42) rfl rfl rfl rfl ?_
  refine er_iadd (pc' := 43) rfl rfl ?_
  refine er_min (pc' := 46) rfl rfl rfl rfl ?_
  refine er_pfIX (pc' := 49) 9 rfl (blt_J hb 0 rfl) (cO_J0 hb _ _) rfl (cO_J0 hb _ _) rfl ?_
  refine er_loc (pc' := 50) rfl rfl rfl ?_
  refine er_loc (pc' := 51) rfl rfl rfl ?_
  refine er_gf (pc' := 54) (_) rfl (blt_J hb 0 rfl) (cO_J0 hb _ _) rfl rfl ?_
  refine er_loc (pc' := 55) rfl rfl rfl ?_
  refine er_k (pc' := 56) (nI 0) rfl rfl rfl ?_
  refine er_cSi (pc' := 59) (rest := [_]) rfl rfl rfl (l_with _ _ _ false _) ?_
  refine er_pfIX (pc' := 62) 6 rfl (blt_J hb 0 rfl) (cO_J0 hb _ _) rfl (cO_J0 hb _ _) rfl ?_
  refine er_loc (pc' := 63) rfl rfl rfl ?_
  refine er_loc (pc' := 64) rfl rfl rfl ?_
  refine er_gf (pc' := 67) (_) rfl (blt_J hb 0 rfl) (cO_J0 hb _ _) rfl rfl ?_
  refine er_loc (pc' := 68) rfl rfl rfl ?_
  refine er_k (pc' := 69) (nI 0) rfl rfl rfl ?_
  refine er_cSi (pc' := 72) (rest := [_]) rfl rfl rfl (l_with _ _ _ false _) ?_
  refine er_pfIX (pc' := 75) 7 rfl (blt_J hb 0 rfl) (cO_J0 hb _ _) rfl (cO_J0 hb _ _) rfl ?_
  refine er_vret rfl rfl ?_
  exact RV_of (by simp [xApart, sGive, ud_at])
set_option maxRecDepth 100000 in
set_option maxHeartbeats 4000000 in
theorem l_unpass (d : Nat) {b : Nat} (hb : jb b) (X Z : Nat → Nat → Int32) (k : Nat) (g t : Int32) : EC (d + 2) 51 [.ref b, .int (nI k), .int g, .int t] (Wd X Z) (RV (xUnpass X b k g t)) := by
  refine er_enter (L := [(0, _), (1, _), (2, _), (3, _)]) rfl rfl rfl ?_
  refine er_loc (pc' := 1) rfl rfl rfl ?_
  refine er_loc (pc' := 2) rfl rfl rfl ?_
  refine er_gf (pc' := 5) (_) rfl (blt_J hb 0 rfl) (cO_J0 hb _ _) rfl rfl ?_
  refine er_loc (pc' := 6) rfl rfl rfl ?_
  refine er_k (pc' := 7) (nI 0) rfl rfl rfl ?_
  refine er_cSi (pc' := 10) (rest := [_]) rfl rfl rfl (l_with _ _ _ false _) ?_
  refine er_pfIX (pc' := 13) 6 rfl (blt_J hb 0 rfl) (cO_J0 hb _ _) rfl (cO_J0 hb _ _) rfl ?_
  refine er_loc (pc' := 14) rfl rfl rfl ?_
  refine er_loc (pc' := 15) rfl rfl rfl ?_
  refine er_pfIX (pc' := 18) 9 rfl (blt_J hb 0 rfl) (cO_J0 hb _ _) rfl (cO_J0 hb _ _) rfl ?_
  refine er_loc (pc' := 19) rfl rfl rfl ?_
  refine er_loc (pc' := 20) rfl rfl rfl ?_
  refine er_pfIX (pc' := 23) 10 rfl (blt_J hb 0 rfl) (cO_J0 hb _ _) rfl (cO_J0 hb _ _) rfl ?_
  refine er_vret rfl rfl ?_
  exact RV_of (by simp [xUnpass, ud_at])
def sZ (z : Int32) : Int32 := z * 1103515245 + nI 12345
def sDraw (z : Int32) : Int32 := (z.toUInt32 >>> ((nI 8).toUInt32 &&& Int32.toUInt32 31)).toInt32
set_option maxRecDepth 100000 in
set_option maxHeartbeats 4000000 in
theorem l_draw (d : Nat) {b : Nat} (hb : jb b) (X Z : Nat → Nat → Int32) : EC (d + 1) 47 [.ref b] (Wd X Z) (RI (sDraw (sZ (X b 17))) (ud X b 17 (sZ (X b 17)))) := by
  refine er_enter (L := [(0, _)]) rfl rfl rfl ?_
  refine er_loc (pc' := 1) rfl rfl rfl ?_
  refine er_loc (pc' := 2) rfl rfl rfl ?_
  refine er_gf (pc' := 5) (_) rfl (blt_J hb 0 rfl) (cO_J0 hb _ _) rfl rfl ?_
  refine er_ldc (pc' := 7) (1103515245) rfl rfl rfl rfl rfl ?_
  refine er_imul (pc' := 8) rfl rfl ?_
  refine er_k (pc' := 11) (nI 12345) rfl rfl rfl ?_
  refine er_iadd (pc' := 12) rfl rfl ?_
  refine er_pfIX (pc' := 15) 17 rfl (blt_J hb 0 rfl) (cO_J0 hb _ _) rfl (cO_J0 hb _ _) rfl ?_
  refine er_loc (pc' := 16) rfl rfl rfl ?_
  refine er_gf (pc' := 19) (_) rfl (blt_J hb 0 rfl) (cO_J0 hb _ _) rfl rfl ?_
  refine er_k (pc' := 21) (nI 8) rfl rfl rfl ?_
  refine er_iushr (pc' := 22) rfl rfl ?_
  refine er_iret rfl rfl ?_
  exact RI_of (by simp [sDraw, sZ, ud_at]) rfl
def xAdd (X : Nat → Nat → Int32) (b n : Nat) (km s nd : Int32) : Nat → Nat → Int32 := ud (ud (ud (ud (ud X (b + 1) n (km / nI 10)) (b + 2) n (km - km / nI 10 * nI 10)) (b + 3) n s) (b + 4) n nd) b 1 (nI (n + 1))
def jAdd (J : Nat → Nat → Int32) (n : Nat) (km s nd : Int32) : Nat → Nat → Int32 := ud (ud (ud (ud (ud J 1 n (km / nI 10)) 2 n (km - km / nI 10 * nI 10)) 3 n s) 4 n nd) 0 1 (nI (n + 1))
theorem jx_xAdd {X : Nat → Nat → Int32} {b n : Nat} {km s nd : Int32} (h : n < 8) : jx (xAdd X b n km s nd) b = jAdd (jx X b) n km s nd := by
  unfold xAdd jAdd
  rw [jx_ud0 rfl, jx_ud4 h, jx_ud3 h, jx_ud2 h, jx_ud1 h]
set_option maxRecDepth 100000 in
set_option maxHeartbeats 4000000 in
theorem l_add (d : Nat) {b : Nat} (hb : jb b) (X Z : Nat → Nat → Int32) (n : Nat) (km s nd : Int32) (hn : X b 1 = nI n) (h8 : n < 8) : EC (d + 1) 32 [.ref b, .int km, .int s, .int nd] (Wd X Z) (RI (nI n) (xAdd X b n km s nd)) := by
  refine er_enter (L := [(0, _), (1, _), (2, _), (3, _)]) rfl rfl rfl ?_
  refine er_loc (pc' := 1) rfl rfl rfl ?_
  refine er_gf (pc' := 4) (_) rfl (blt_J hb 0 rfl) (cO_J0 hb _ _) rfl rfl ?_
  rw [hn]
  refine er_loc (pc' := 6) (L' := [(4, _), (0, _), (1, _), (2, _), (3, _)]) rfl rfl rfl ?_
  refine er_loc (pc' := 8) rfl rfl rfl ?_
  refine er_k (pc' := 10) (nI 8) rfl rfl rfl ?_
  refine er_cm_geF (pc' := 13) rfl (nI_lt h8 (by omega)) rfl ?_
  refine er_loc (pc' := 14) rfl rfl rfl ?_
  refine er_gf (pc' := 17) (_) rfl (blt_J hb 0 rfl) (cO_J0 hb _ _) rfl rfl ?_
  refine er_loc (pc' := 19) rfl rfl rfl ?_
  refine er_loc (pc' := 20) rfl rfl rfl ?_
  refine er_k (pc' := 22) (nI 10) rfl rfl rfl ?_
  refine er_idiv (pc' := 23) rfl rfl (by decide) ?_
  refine er_isX (pc' := 24) (n) rfl (blt_J hb 1 rfl) (fun f => cO_J1 hb f _) rfl (by omega) rfl rfl ?_
  refine er_loc (pc' := 25) rfl rfl rfl ?_
  refine er_gf (pc' := 28) (_) rfl (blt_J hb 0 rfl) (cO_J0 hb _ _) rfl rfl ?_
  refine er_loc (pc' := 30) rfl rfl rfl ?_
  refine er_loc (pc' := 31) rfl rfl rfl ?_
  refine er_k (pc' := 33) (nI 10) rfl rfl rfl ?_
  refine er_irem (pc' := 34) rfl rfl (by decide) ?_
  refine er_isX (pc' := 35) (n) rfl (blt_J hb 2 rfl) (fun f => cO_J2 hb f _) rfl (by omega) rfl rfl ?_
  refine er_loc (pc' := 36) rfl rfl rfl ?_
  refine er_gf (pc' := 39) (_) rfl (blt_J hb 0 rfl) (cO_J0 hb _ _) rfl rfl ?_
  refine er_loc (pc' := 41) rfl rfl rfl ?_
  refine er_loc (pc' := 42) rfl rfl rfl ?_
  refine er_isX (pc' := 43) (n) rfl (blt_J hb 3 rfl) (fun f => cO_J3 hb f _) rfl (by omega) rfl rfl ?_
  refine er_loc (pc' := 44) rfl rfl rfl ?_
  refine er_gf (pc' := 47) (_) rfl (blt_J hb 0 rfl) (cO_J0 hb _ _) rfl rfl ?_
  refine er_loc (pc' := 49) rfl rfl rfl ?_
  refine er_loc (pc' := 50) rfl rfl rfl ?_
  refine er_isX (pc' := 51) (n) rfl (blt_J hb 4 rfl) (fun f => cO_J4 hb f _) rfl (by omega) rfl rfl ?_
  refine er_loc (pc' := 52) rfl rfl rfl ?_
  refine er_pure (pc' := 53) rfl rfl rfl ?_
  refine er_gf (pc' := 56) (_) rfl (blt_J hb 0 rfl) (cO_J0 hb _ _) rfl rfl ?_
  refine er_k (pc' := 57) (nI 1) rfl rfl rfl ?_
  refine er_iadd (pc' := 58) rfl rfl ?_
  refine er_pfIX (pc' := 61) 1 rfl (blt_J hb 0 rfl) (cO_J0 hb _ _) rfl (cO_J0 hb _ _) rfl ?_
  refine er_loc (pc' := 63) rfl rfl rfl ?_
  refine er_iret rfl rfl ?_
  exact RI_of rfl (by simp [xAdd, ud_at, hn, nI_add])
end
section
/-! JOBS: one taken whole from another -/
def xHold (X : Nat → Nat → Int32) (t : Nat) (f : Nat → Int32) (l : Nat) : Nat → Nat → Int32 := ud (uc X (t + 1) (cpf f (X (t + 1)) 0 0 l)) t 2 (nI l)
def TK (X : Nat → Nat → Int32) (b p : Nat) : ab_R → Prop := fun r => ∃ X' Z', r = (none, Wd X' Z') ∧ jx X' b = jx X p ∧ ∀ c, (c < b ∨ b + 12 < c) → X' c = X c
set_option maxRecDepth 100000 in
set_option maxHeartbeats 4000000 in
theorem l_hold (d : Nat) {t : Nat} (ht : tx t) (X Z : Nat → Nat → Int32) (a : Nat) (f : Nat → Int32) (ha : Nat.blt a 79 = true) (he : cO a (X a) (Z a) = .inr (.inl (qa 50 f))) (l : Nat) (hl : l ≤ 50) : EC (d + 1) 59 [.ref t, .ref a, .int (nI l)] (Wd X Z) (RV (xHold X t f l)) := by
  refine er_enter (L := [(0, _), (1, _), (2, _)]) rfl rfl rfl ?_
  refine er_loc (pc' := 1) rfl rfl rfl ?_
  refine er_if_ltF (pc' := 4) rfl (nI_pos (by omega)) rfl ?_
  refine er_loc (pc' := 5) rfl rfl rfl ?_
  refine er_loc (pc' := 6) rfl rfl rfl ?_
  refine er_gf (pc' := 9) (_) rfl (blt_T ht 0 rfl) (cO_T0 ht _ _) rfl rfl ?_
  refine er_al (pc' := 10) rfl (blt_T ht 1 rfl) (cO_T1 ht _ _) rfl ?_
  refine er_cm_gtF (pc' := 13) rfl (nI_nlt (by omega) (by omega)) rfl ?_
  refine er_loc (pc' := 14) rfl rfl rfl ?_
  refine er_loc (pc' := 15) rfl rfl rfl ?_
  refine er_al (pc' := 16) rfl (ha) (he) rfl ?_
  refine er_cm_gtF (pc' := 19) rfl (nI_nlt (by omega) (by omega)) rfl ?_
  refine er_loc (pc' := 20) rfl rfl rfl ?_
  refine er_k (pc' := 21) (nI 0) rfl rfl rfl ?_
  refine er_loc (pc' := 22) rfl rfl rfl ?_
  refine er_gf (pc' := 25) (_) rfl (blt_T ht 0 rfl) (cO_T0 ht _ _) rfl rfl ?_
  refine er_k (pc' := 26) (nI 0) rfl rfl rfl ?_
  refine er_loc (pc' := 27) rfl rfl rfl ?_
  refine er_cpX (pc' := 30) (0) (0) (l) rfl rfl rfl (ha) (blt_T ht 1 rfl) (he) (fun f => cO_T1 ht f _) rfl rfl rfl (by omega) (by omega) rfl rfl ?_
  refine er_loc (pc' := 31) rfl rfl rfl ?_
  refine er_loc (pc' := 32) rfl rfl rfl ?_
  refine er_pfIX (pc' := 35) 2 rfl (blt_T ht 0 rfl) (cO_T0 ht _ _) rfl (cO_T0 ht _ _) rfl ?_
  refine er_vret rfl rfl ?_
  exact RV_of rfl
set_option maxRecDepth 100000 in
set_option maxHeartbeats 4000000 in
theorem jx_take {X X' : Nat → Nat → Int32} {b p : Nat} (h0 : ∀ k, okF k = true → X' b k = X p k) (h1 : ∀ k, k < 8 → X' (b + 1) k = X (p + 1) k) (h2 : ∀ k, k < 8 → X' (b + 2) k = X (p + 2) k) (h3 : ∀ k, k < 8 → X' (b + 3) k = X (p + 3) k) (h4 : ∀ k, k < 8 → X' (b + 4) k = X (p + 4) k) (h5 : X' (b + 5) 2 = X (p + 5) 2) (h6 : ∀ k, k < nN (X (p + 5) 2) → X' (b + 6) k = X (p + 6) k) (h8 : X' (b + 8) 2 = X (p + 8) 2) (h9 : ∀ k, k < nN (X (p + 8) 2) → X' (b + 9) k = X (p + 9) k) (h11 : ∀ k, k < 50 → X' (b + 11) k = X (p + 11) k) (h12 : ∀ k, k < 20 → X' (b + 12) k = X (p + 12) k) : jx X' b = jx X p := by
  funext i k
  match i with
  | 0 =>
    show (if okF k = true then X' (b) k else 0) = if okF k = true then X (p) k else 0
    by_cases h : okF k = true
    · rw [if_pos h, if_pos h]; exact h0 k h
    · rw [if_neg h, if_neg h]
  | 1 =>
    show (if k < 8 then X' (b + 1) k else 0) = if k < 8 then X (p + 1) k else 0
    by_cases h : k < 8
    · rw [if_pos h, if_pos h]; exact h1 k h
    · rw [if_neg h, if_neg h]
  | 2 =>
    show (if k < 8 then X' (b + 2) k else 0) = if k < 8 then X (p + 2) k else 0
    by_cases h : k < 8
    · rw [if_pos h, if_pos h]; exact h2 k h
    · rw [if_neg h, if_neg h]
  | 3 =>
    show (if k < 8 then X' (b + 3) k else 0) = if k < 8 then X (p + 3) k else 0
    by_cases h : k < 8
    · rw [if_pos h, if_pos h]; exact h3 k h
    · rw [if_neg h, if_neg h]
  | 4 =>
    show (if k < 8 then X' (b + 4) k else 0) = if k < 8 then X (p + 4) k else 0
    by_cases h : k < 8
    · rw [if_pos h, if_pos h]; exact h4 k h
    · rw [if_neg h, if_neg h]
  | 5 => exact ite_congr rfl (fun _ => h5) (fun _ => rfl)
  | 6 => exact ite_congr (by rw [h5]) (fun h => h6 k h) (fun _ => rfl)
  | 7 => exact ite_congr rfl (fun _ => h8) (fun _ => rfl)
  | 8 => exact ite_congr (by rw [h8]) (fun h => h9 k h) (fun _ => rfl)
  | 9 => exact ite_congr rfl (fun h => h11 k h) (fun _ => rfl)
  | 10 => exact ite_congr rfl (fun h => h12 k h) (fun _ => rfl)
  | i + 11 => simp [jx]
theorem okF_cases {k : Nat} (h : okF k = true) : k = 1 ∨ k = 6 ∨ k = 7 ∨ k = 8 ∨ k = 9 ∨ k = 10 ∨ k = 14 ∨ k = 16 ∨ k = 17 := by
  simpa [okF, or_assoc] using h
theorem cpf_all {f g : Nat → Int32} {n k : Nat} (h : k < n) : cpf f g 0 0 n k = f k := by
  unfold cpf
  rw [if_pos ⟨by omega, by omega⟩]
  rfl
set_option maxRecDepth 100000 in
set_option maxHeartbeats 4000000 in
theorem l_take_35_9 (d : Nat) (X Z : Nat → Nat → Int32) {T : Nat} (hI : IJ T (jx X 9)) : EC (d + 2) 48 [.ref 35, .ref 9] (Wd X Z) (TK X 35 9) := by
  refine er_enter (L := [(0, _), (1, _)]) rfl rfl rfl ?_
  obtain ⟨l1, h150, hl1⟩ := (isN_iff (by omega)).mp hI.tl.1
  obtain ⟨l2, h250, hl2⟩ := (isN_iff (by omega)).mp hI.te.1
  rw [jx5] at hl1
  rw [jx7] at hl2
  refine er_loc (pc' := 1) rfl rfl rfl ?_
  refine er_loc (pc' := 2) rfl rfl rfl ?_
  refine er_gf (pc' := 5) (.int (X 9 1)) rfl rfl rfl rfl rfl ?_
  refine er_pfIX (pc' := 8) 1 rfl rfl rfl rfl rfl rfl ?_
  refine er_loc (pc' := 9) rfl rfl rfl ?_
  refine er_gf (pc' := 12) (_) rfl rfl rfl rfl rfl ?_
  refine er_k (pc' := 13) (nI 0) rfl rfl rfl ?_
  refine er_loc (pc' := 14) rfl rfl rfl ?_
  refine er_gf (pc' := 17) (_) rfl rfl rfl rfl rfl ?_
  refine er_k (pc' := 18) (nI 0) rfl rfl rfl ?_
  refine er_k (pc' := 20) (nI 8) rfl rfl rfl ?_
  refine er_cpX (pc' := 23) (0) (0) (8) rfl rfl rfl rfl rfl rfl (fun _ => rfl) rfl rfl rfl (by omega) (by omega) rfl rfl ?_
  refine er_loc (pc' := 24) rfl rfl rfl ?_
  refine er_gf (pc' := 27) (_) rfl rfl rfl rfl rfl ?_
  refine er_k (pc' := 28) (nI 0) rfl rfl rfl ?_
  refine er_loc (pc' := 29) rfl rfl rfl ?_
  refine er_gf (pc' := 32) (_) rfl rfl rfl rfl rfl ?_
  refine er_k (pc' := 33) (nI 0) rfl rfl rfl ?_
  refine er_k (pc' := 35) (nI 8) rfl rfl rfl ?_
  refine er_cpX (pc' := 38) (0) (0) (8) rfl rfl rfl rfl rfl rfl (fun _ => rfl) rfl rfl rfl (by omega) (by omega) rfl rfl ?_
  refine er_loc (pc' := 39) rfl rfl rfl ?_
  refine er_gf (pc' := 42) (_) rfl rfl rfl rfl rfl ?_
  refine er_k (pc' := 43) (nI 0) rfl rfl rfl ?_
  refine er_loc (pc' := 44) rfl rfl rfl ?_
  refine er_gf (pc' := 47) (_) rfl rfl rfl rfl rfl ?_
  refine er_k (pc' := 48) (nI 0) rfl rfl rfl ?_
  refine er_k (pc' := 50) (nI 8) rfl rfl rfl ?_
  refine er_cpX (pc' := 53) (0) (0) (8) rfl rfl rfl rfl rfl rfl (fun _ => rfl) rfl rfl rfl (by omega) (by omega) rfl rfl ?_
  refine er_loc (pc' := 54) rfl rfl rfl ?_
  refine er_gf (pc' := 57) (_) rfl rfl rfl rfl rfl ?_
  refine er_k (pc' := 58) (nI 0) rfl rfl rfl ?_
  refine er_loc (pc' := 59) rfl rfl rfl ?_
  refine er_gf (pc' := 62) (_) rfl rfl rfl rfl rfl ?_
  refine er_k (pc' := 63) (nI 0) rfl rfl rfl ?_
  refine er_k (pc' := 65) (nI 8) rfl rfl rfl ?_
  refine er_cpX (pc' := 68) (0) (0) (8) rfl rfl rfl rfl rfl rfl (fun _ => rfl) rfl rfl rfl (by omega) (by omega) rfl rfl ?_
  refine er_loc (pc' := 69) rfl rfl rfl ?_
  refine er_loc (pc' := 70) rfl rfl rfl ?_
  refine er_gf (pc' := 73) (.int (X 9 6)) rfl rfl rfl rfl rfl ?_
  refine er_pfIX (pc' := 76) 6 rfl rfl rfl rfl rfl rfl ?_
  refine er_loc (pc' := 77) rfl rfl rfl ?_
  refine er_loc (pc' := 78) rfl rfl rfl ?_
  refine er_gf (pc' := 81) (.int (X 9 7)) rfl rfl rfl rfl rfl ?_
  refine er_pfIX (pc' := 84) 7 rfl rfl rfl rfl rfl rfl ?_
  refine er_loc (pc' := 85) rfl rfl rfl ?_
  refine er_loc (pc' := 86) rfl rfl rfl ?_
  refine er_gf (pc' := 89) (.int (X 9 8)) rfl rfl rfl rfl rfl ?_
  refine er_pfIX (pc' := 92) 8 rfl rfl rfl rfl rfl rfl ?_
  refine er_loc (pc' := 93) rfl rfl rfl ?_
  refine er_loc (pc' := 94) rfl rfl rfl ?_
  refine er_gf (pc' := 97) (.int (X 9 9)) rfl rfl rfl rfl rfl ?_
  refine er_pfIX (pc' := 100) 9 rfl rfl rfl rfl rfl rfl ?_
  refine er_loc (pc' := 101) rfl rfl rfl ?_
  refine er_loc (pc' := 102) rfl rfl rfl ?_
  refine er_gf (pc' := 105) (.int (X 9 10)) rfl rfl rfl rfl rfl ?_
  refine er_pfIX (pc' := 108) 10 rfl rfl rfl rfl rfl rfl ?_
  refine er_loc (pc' := 109) rfl rfl rfl ?_
  refine er_gf (pc' := 112) (_) rfl rfl rfl rfl rfl ?_
  refine er_loc (pc' := 113) rfl rfl rfl ?_
  refine er_gf (pc' := 116) (_) rfl rfl rfl rfl rfl ?_
  refine er_gf (pc' := 119) (_) rfl rfl rfl rfl rfl ?_
  refine er_loc (pc' := 120) rfl rfl rfl ?_
  refine er_gf (pc' := 123) (_) rfl rfl rfl rfl rfl ?_
  refine er_gf (pc' := 126) (.int (X 14 2)) rfl rfl rfl rfl rfl ?_
  rw [hl1]
  refine er_cIv (pc' := 129) (rest := []) 8 rfl rfl rfl rfl rfl rfl (l_hold _ (t := 40) (by simp [tx]) _ _ 15 (X 15) rfl (by rfl) l1 h150) ?_
  intro Z1
  refine er_loc (pc' := 130) rfl rfl rfl ?_
  refine er_gf (pc' := 133) (_) rfl rfl rfl rfl rfl ?_
  refine er_loc (pc' := 134) rfl rfl rfl ?_
  refine er_gf (pc' := 137) (_) rfl rfl rfl rfl rfl ?_
  refine er_gf (pc' := 140) (_) rfl rfl rfl rfl rfl ?_
  refine er_loc (pc' := 141) rfl rfl rfl ?_
  refine er_gf (pc' := 144) (_) rfl rfl rfl rfl rfl ?_
  refine er_gf (pc' := 147) (.int (X 17 2)) rfl rfl rfl rfl rfl ?_
  rw [hl2]
  refine er_cIv (pc' := 150) (rest := []) 8 rfl rfl rfl rfl rfl rfl (l_hold _ (t := 43) (by simp [tx]) _ _ 18 (X 18) rfl (by rfl) l2 h250) ?_
  intro Z2
  refine er_loc (pc' := 151) rfl rfl rfl ?_
  refine er_gf (pc' := 154) (_) rfl rfl rfl rfl rfl ?_
  refine er_k (pc' := 155) (nI 0) rfl rfl rfl ?_
  refine er_loc (pc' := 156) rfl rfl rfl ?_
  refine er_gf (pc' := 159) (_) rfl rfl rfl rfl rfl ?_
  refine er_k (pc' := 160) (nI 0) rfl rfl rfl ?_
  refine er_k (pc' := 162) (nI 50) rfl rfl rfl ?_
  refine er_cpX (pc' := 165) (0) (0) (50) rfl rfl rfl rfl rfl rfl (fun _ => rfl) rfl rfl rfl (by omega) (by omega) rfl rfl ?_
  refine er_loc (pc' := 166) rfl rfl rfl ?_
  refine er_loc (pc' := 167) rfl rfl rfl ?_
  refine er_gf (pc' := 170) (.int (X 9 14)) rfl rfl rfl rfl rfl ?_
  refine er_pfIX (pc' := 173) 14 rfl rfl rfl rfl rfl rfl ?_
  refine er_loc (pc' := 174) rfl rfl rfl ?_
  refine er_gf (pc' := 177) (_) rfl rfl rfl rfl rfl ?_
  refine er_k (pc' := 178) (nI 0) rfl rfl rfl ?_
  refine er_loc (pc' := 179) rfl rfl rfl ?_
  refine er_gf (pc' := 182) (_) rfl rfl rfl rfl rfl ?_
  refine er_k (pc' := 183) (nI 0) rfl rfl rfl ?_
  refine er_k (pc' := 185) (nI 20) rfl rfl rfl ?_
  refine er_cpX (pc' := 188) (0) (0) (20) rfl rfl rfl rfl rfl rfl (fun _ => rfl) rfl rfl rfl (by omega) (by omega) rfl rfl ?_
  refine er_loc (pc' := 189) rfl rfl rfl ?_
  refine er_loc (pc' := 190) rfl rfl rfl ?_
  refine er_gf (pc' := 193) (.int (X 9 16)) rfl rfl rfl rfl rfl ?_
  refine er_pfIX (pc' := 196) 16 rfl rfl rfl rfl rfl rfl ?_
  refine er_loc (pc' := 197) rfl rfl rfl ?_
  refine er_loc (pc' := 198) rfl rfl rfl ?_
  refine er_gf (pc' := 201) (.int (X 9 17)) rfl rfl rfl rfl rfl ?_
  refine er_pfIX (pc' := 204) 17 rfl rfl rfl rfl rfl rfl ?_
  refine er_vret rfl rfl ?_
  refine ⟨_, _, rfl, ?_, ?_⟩
  · refine jx_take (b := 35) (p := 9) ?_ ?_ ?_ ?_ ?_ ?_ ?_ ?_ ?_ ?_ ?_
    · intro k hk
      rcases okF_cases hk with rfl | rfl | rfl | rfl | rfl | rfl | rfl | rfl | rfl <;> rfl
    · intro k hk; exact cpf_all hk
    · intro k hk; exact cpf_all hk
    · intro k hk; exact cpf_all hk
    · intro k hk; exact cpf_all hk
    · exact hl1.symm
    · intro k hk
      rw [show nN (X (9 + 5) 2) = l1 from by rw [show X (9 + 5) 2 = nI l1 from hl1]; exact nN_nI (by omega)] at hk
      exact cpf_all hk
    · exact hl2.symm
    · intro k hk
      rw [show nN (X (9 + 8) 2) = l2 from by rw [show X (9 + 8) 2 = nI l2 from hl2]; exact nN_nI (by omega)] at hk
      exact cpf_all hk
    · intro k hk; exact cpf_all hk
    · intro k hk; exact cpf_all hk
  · intro c hc
    simp only [xHold, ud, uc]
    repeat rw [if_neg (by omega)]
set_option maxRecDepth 100000 in
set_option maxHeartbeats 4000000 in
theorem l_take_22_9 (d : Nat) (X Z : Nat → Nat → Int32) {T : Nat} (hI : IJ T (jx X 9)) : EC (d + 2) 48 [.ref 22, .ref 9] (Wd X Z) (TK X 22 9) := by
  refine er_enter (L := [(0, _), (1, _)]) rfl rfl rfl ?_
  obtain ⟨l1, h150, hl1⟩ := (isN_iff (by omega)).mp hI.tl.1
  obtain ⟨l2, h250, hl2⟩ := (isN_iff (by omega)).mp hI.te.1
  rw [jx5] at hl1
  rw [jx7] at hl2
  refine er_loc (pc' := 1) rfl rfl rfl ?_
  refine er_loc (pc' := 2) rfl rfl rfl ?_
  refine er_gf (pc' := 5) (.int (X 9 1)) rfl rfl rfl rfl rfl ?_
  refine er_pfIX (pc' := 8) 1 rfl rfl rfl rfl rfl rfl ?_
  refine er_loc (pc' := 9) rfl rfl rfl ?_
  refine er_gf (pc' := 12) (_) rfl rfl rfl rfl rfl ?_
  refine er_k (pc' := 13) (nI 0) rfl rfl rfl ?_
  refine er_loc (pc' := 14) rfl rfl rfl ?_
  refine er_gf (pc' := 17) (_) rfl rfl rfl rfl rfl ?_
  refine er_k (pc' := 18) (nI 0) rfl rfl rfl ?_
  refine er_k (pc' := 20) (nI 8) rfl rfl rfl ?_
  refine er_cpX (pc' := 23) (0) (0) (8) rfl rfl rfl rfl rfl rfl (fun _ => rfl) rfl rfl rfl (by omega) (by omega) rfl rfl ?_
  refine er_loc (pc' := 24) rfl rfl rfl ?_
  refine er_gf (pc' := 27) (_) rfl rfl rfl rfl rfl ?_
  refine er_k (pc' := 28) (nI 0) rfl rfl rfl ?_
  refine er_loc (pc' := 29) rfl rfl rfl ?_
  refine er_gf (pc' := 32) (_) rfl rfl rfl rfl rfl ?_
  refine er_k (pc' := 33) (nI 0) rfl rfl rfl ?_
  refine er_k (pc' := 35) (nI 8) rfl rfl rfl ?_
  refine er_cpX (pc' := 38) (0) (0) (8) rfl rfl rfl rfl rfl rfl (fun _ => rfl) rfl rfl rfl (by omega) (by omega) rfl rfl ?_
  refine er_loc (pc' := 39) rfl rfl rfl ?_
  refine er_gf (pc' := 42) (_) rfl rfl rfl rfl rfl ?_
  refine er_k (pc' := 43) (nI 0) rfl rfl rfl ?_
  refine er_loc (pc' := 44) rfl rfl rfl ?_
  refine er_gf (pc' := 47) (_) rfl rfl rfl rfl rfl ?_
  refine er_k (pc' := 48) (nI 0) rfl rfl rfl ?_
  refine er_k (pc' := 50) (nI 8) rfl rfl rfl ?_
  refine er_cpX (pc' := 53) (0) (0) (8) rfl rfl rfl rfl rfl rfl (fun _ => rfl) rfl rfl rfl (by omega) (by omega) rfl rfl ?_
  refine er_loc (pc' := 54) rfl rfl rfl ?_
  refine er_gf (pc' := 57) (_) rfl rfl rfl rfl rfl ?_
  refine er_k (pc' := 58) (nI 0) rfl rfl rfl ?_
  refine er_loc (pc' := 59) rfl rfl rfl ?_
  refine er_gf (pc' := 62) (_) rfl rfl rfl rfl rfl ?_
  refine er_k (pc' := 63) (nI 0) rfl rfl rfl ?_
  refine er_k (pc' := 65) (nI 8) rfl rfl rfl ?_
  refine er_cpX (pc' := 68) (0) (0) (8) rfl rfl rfl rfl rfl rfl (fun _ => rfl) rfl rfl rfl (by omega) (by omega) rfl rfl ?_
  refine er_loc (pc' := 69) rfl rfl rfl ?_
  refine er_loc (pc' := 70) rfl rfl rfl ?_
  refine er_gf (pc' := 73) (.int (X 9 6)) rfl rfl rfl rfl rfl ?_
  refine er_pfIX (pc' := 76) 6 rfl rfl rfl rfl rfl rfl ?_
  refine er_loc (pc' := 77) rfl rfl rfl ?_
  refine er_loc (pc' := 78) rfl rfl rfl ?_
  refine er_gf (pc' := 81) (.int (X 9 7)) rfl rfl rfl rfl rfl ?_
  refine er_pfIX (pc' := 84) 7 rfl rfl rfl rfl rfl rfl ?_
  refine er_loc (pc' := 85) rfl rfl rfl ?_
  refine er_loc (pc' := 86) rfl rfl rfl ?_
  refine er_gf (pc' := 89) (.int (X 9 8)) rfl rfl rfl rfl rfl ?_
  refine er_pfIX (pc' := 92) 8 rfl rfl rfl rfl rfl rfl ?_
  refine er_loc (pc' := 93) rfl rfl rfl ?_
  refine er_loc (pc' := 94) rfl rfl rfl ?_
  refine er_gf (pc' := 97) (.int (X 9 9)) rfl rfl rfl rfl rfl ?_
  refine er_pfIX (pc' := 100) 9 rfl rfl rfl rfl rfl rfl ?_
  refine er_loc (pc' := 101) rfl rfl rfl ?_
  refine er_loc (pc' := 102) rfl rfl rfl ?_
  refine er_gf (pc' := 105) (.int (X 9 10)) rfl rfl rfl rfl rfl ?_
  refine er_pfIX (pc' := 108) 10 rfl rfl rfl rfl rfl rfl ?_
  refine er_loc (pc' := 109) rfl rfl rfl ?_
  refine er_gf (pc' := 112) (_) rfl rfl rfl rfl rfl ?_
  refine er_loc (pc' := 113) rfl rfl rfl ?_
  refine er_gf (pc' := 116) (_) rfl rfl rfl rfl rfl ?_
  refine er_gf (pc' := 119) (_) rfl rfl rfl rfl rfl ?_
  refine er_loc (pc' := 120) rfl rfl rfl ?_
  refine er_gf (pc' := 123) (_) rfl rfl rfl rfl rfl ?_
  refine er_gf (pc' := 126) (.int (X 14 2)) rfl rfl rfl rfl rfl ?_
  rw [hl1]
  refine er_cIv (pc' := 129) (rest := []) 8 rfl rfl rfl rfl rfl rfl (l_hold _ (t := 27) (by simp [tx]) _ _ 15 (X 15) rfl (by rfl) l1 h150) ?_
  intro Z1
  refine er_loc (pc' := 130) rfl rfl rfl ?_
  refine er_gf (pc' := 133) (_) rfl rfl rfl rfl rfl ?_
  refine er_loc (pc' := 134) rfl rfl rfl ?_
  refine er_gf (pc' := 137) (_) rfl rfl rfl rfl rfl ?_
  refine er_gf (pc' := 140) (_) rfl rfl rfl rfl rfl ?_
  refine er_loc (pc' := 141) rfl rfl rfl ?_
  refine er_gf (pc' := 144) (_) rfl rfl rfl rfl rfl ?_
  refine er_gf (pc' := 147) (.int (X 17 2)) rfl rfl rfl rfl rfl ?_
  rw [hl2]
  refine er_cIv (pc' := 150) (rest := []) 8 rfl rfl rfl rfl rfl rfl (l_hold _ (t := 30) (by simp [tx]) _ _ 18 (X 18) rfl (by rfl) l2 h250) ?_
  intro Z2
  refine er_loc (pc' := 151) rfl rfl rfl ?_
  refine er_gf (pc' := 154) (_) rfl rfl rfl rfl rfl ?_
  refine er_k (pc' := 155) (nI 0) rfl rfl rfl ?_
  refine er_loc (pc' := 156) rfl rfl rfl ?_
  refine er_gf (pc' := 159) (_) rfl rfl rfl rfl rfl ?_
  refine er_k (pc' := 160) (nI 0) rfl rfl rfl ?_
  refine er_k (pc' := 162) (nI 50) rfl rfl rfl ?_
  refine er_cpX (pc' := 165) (0) (0) (50) rfl rfl rfl rfl rfl rfl (fun _ => rfl) rfl rfl rfl (by omega) (by omega) rfl rfl ?_
  refine er_loc (pc' := 166) rfl rfl rfl ?_
  refine er_loc (pc' := 167) rfl rfl rfl ?_
  refine er_gf (pc' := 170) (.int (X 9 14)) rfl rfl rfl rfl rfl ?_
  refine er_pfIX (pc' := 173) 14 rfl rfl rfl rfl rfl rfl ?_
  refine er_loc (pc' := 174) rfl rfl rfl ?_
  refine er_gf (pc' := 177) (_) rfl rfl rfl rfl rfl ?_
  refine er_k (pc' := 178) (nI 0) rfl rfl rfl ?_
  refine er_loc (pc' := 179) rfl rfl rfl ?_
  refine er_gf (pc' := 182) (_) rfl rfl rfl rfl rfl ?_
  refine er_k (pc' := 183) (nI 0) rfl rfl rfl ?_
  refine er_k (pc' := 185) (nI 20) rfl rfl rfl ?_
  refine er_cpX (pc' := 188) (0) (0) (20) rfl rfl rfl rfl rfl rfl (fun _ => rfl) rfl rfl rfl (by omega) (by omega) rfl rfl ?_
  refine er_loc (pc' := 189) rfl rfl rfl ?_
  refine er_loc (pc' := 190) rfl rfl rfl ?_
  refine er_gf (pc' := 193) (.int (X 9 16)) rfl rfl rfl rfl rfl ?_
  refine er_pfIX (pc' := 196) 16 rfl rfl rfl rfl rfl rfl ?_
  refine er_loc (pc' := 197) rfl rfl rfl ?_
  refine er_loc (pc' := 198) rfl rfl rfl ?_
  refine er_gf (pc' := 201) (.int (X 9 17)) rfl rfl rfl rfl rfl ?_
  refine er_pfIX (pc' := 204) 17 rfl rfl rfl rfl rfl rfl ?_
  refine er_vret rfl rfl ?_
  refine ⟨_, _, rfl, ?_, ?_⟩
  · refine jx_take (b := 22) (p := 9) ?_ ?_ ?_ ?_ ?_ ?_ ?_ ?_ ?_ ?_ ?_
    · intro k hk
      rcases okF_cases hk with rfl | rfl | rfl | rfl | rfl | rfl | rfl | rfl | rfl <;> rfl
    · intro k hk; exact cpf_all hk
    · intro k hk; exact cpf_all hk
    · intro k hk; exact cpf_all hk
    · intro k hk; exact cpf_all hk
    · exact hl1.symm
    · intro k hk
      rw [show nN (X (9 + 5) 2) = l1 from by rw [show X (9 + 5) 2 = nI l1 from hl1]; exact nN_nI (by omega)] at hk
      exact cpf_all hk
    · exact hl2.symm
    · intro k hk
      rw [show nN (X (9 + 8) 2) = l2 from by rw [show X (9 + 8) 2 = nI l2 from hl2]; exact nN_nI (by omega)] at hk
      exact cpf_all hk
    · intro k hk; exact cpf_all hk
    · intro k hk; exact cpf_all hk
  · intro c hc
    simp only [xHold, ud, uc]
    repeat rw [if_neg (by omega)]
set_option maxRecDepth 100000 in
set_option maxHeartbeats 4000000 in
theorem l_take_9_22 (d : Nat) (X Z : Nat → Nat → Int32) {T : Nat} (hI : IJ T (jx X 22)) : EC (d + 2) 48 [.ref 9, .ref 22] (Wd X Z) (TK X 9 22) := by
  refine er_enter (L := [(0, _), (1, _)]) rfl rfl rfl ?_
  obtain ⟨l1, h150, hl1⟩ := (isN_iff (by omega)).mp hI.tl.1
  obtain ⟨l2, h250, hl2⟩ := (isN_iff (by omega)).mp hI.te.1
  rw [jx5] at hl1
  rw [jx7] at hl2
  refine er_loc (pc' := 1) rfl rfl rfl ?_
  refine er_loc (pc' := 2) rfl rfl rfl ?_
  refine er_gf (pc' := 5) (.int (X 22 1)) rfl rfl rfl rfl rfl ?_
  refine er_pfIX (pc' := 8) 1 rfl rfl rfl rfl rfl rfl ?_
  refine er_loc (pc' := 9) rfl rfl rfl ?_
  refine er_gf (pc' := 12) (_) rfl rfl rfl rfl rfl ?_
  refine er_k (pc' := 13) (nI 0) rfl rfl rfl ?_
  refine er_loc (pc' := 14) rfl rfl rfl ?_
  refine er_gf (pc' := 17) (_) rfl rfl rfl rfl rfl ?_
  refine er_k (pc' := 18) (nI 0) rfl rfl rfl ?_
  refine er_k (pc' := 20) (nI 8) rfl rfl rfl ?_
  refine er_cpX (pc' := 23) (0) (0) (8) rfl rfl rfl rfl rfl rfl (fun _ => rfl) rfl rfl rfl (by omega) (by omega) rfl rfl ?_
  refine er_loc (pc' := 24) rfl rfl rfl ?_
  refine er_gf (pc' := 27) (_) rfl rfl rfl rfl rfl ?_
  refine er_k (pc' := 28) (nI 0) rfl rfl rfl ?_
  refine er_loc (pc' := 29) rfl rfl rfl ?_
  refine er_gf (pc' := 32) (_) rfl rfl rfl rfl rfl ?_
  refine er_k (pc' := 33) (nI 0) rfl rfl rfl ?_
  refine er_k (pc' := 35) (nI 8) rfl rfl rfl ?_
  refine er_cpX (pc' := 38) (0) (0) (8) rfl rfl rfl rfl rfl rfl (fun _ => rfl) rfl rfl rfl (by omega) (by omega) rfl rfl ?_
  refine er_loc (pc' := 39) rfl rfl rfl ?_
  refine er_gf (pc' := 42) (_) rfl rfl rfl rfl rfl ?_
  refine er_k (pc' := 43) (nI 0) rfl rfl rfl ?_
  refine er_loc (pc' := 44) rfl rfl rfl ?_
  refine er_gf (pc' := 47) (_) rfl rfl rfl rfl rfl ?_
  refine er_k (pc' := 48) (nI 0) rfl rfl rfl ?_
  refine er_k (pc' := 50) (nI 8) rfl rfl rfl ?_
  refine er_cpX (pc' := 53) (0) (0) (8) rfl rfl rfl rfl rfl rfl (fun _ => rfl) rfl rfl rfl (by omega) (by omega) rfl rfl ?_
  refine er_loc (pc' := 54) rfl rfl rfl ?_
  refine er_gf (pc' := 57) (_) rfl rfl rfl rfl rfl ?_
  refine er_k (pc' := 58) (nI 0) rfl rfl rfl ?_
  refine er_loc (pc' := 59) rfl rfl rfl ?_
  refine er_gf (pc' := 62) (_) rfl rfl rfl rfl rfl ?_
  refine er_k (pc' := 63) (nI 0) rfl rfl rfl ?_
  refine er_k (pc' := 65) (nI 8) rfl rfl rfl ?_
  refine er_cpX (pc' := 68) (0) (0) (8) rfl rfl rfl rfl rfl rfl (fun _ => rfl) rfl rfl rfl (by omega) (by omega) rfl rfl ?_
  refine er_loc (pc' := 69) rfl rfl rfl ?_
  refine er_loc (pc' := 70) rfl rfl rfl ?_
  refine er_gf (pc' := 73) (.int (X 22 6)) rfl rfl rfl rfl rfl ?_
  refine er_pfIX (pc' := 76) 6 rfl rfl rfl rfl rfl rfl ?_
  refine er_loc (pc' := 77) rfl rfl rfl ?_
  refine er_loc (pc' := 78) rfl rfl rfl ?_
  refine er_gf (pc' := 81) (.int (X 22 7)) rfl rfl rfl rfl rfl ?_
  refine er_pfIX (pc' := 84) 7 rfl rfl rfl rfl rfl rfl ?_
  refine er_loc (pc' := 85) rfl rfl rfl ?_
  refine er_loc (pc' := 86) rfl rfl rfl ?_
  refine er_gf (pc' := 89) (.int (X 22 8)) rfl rfl rfl rfl rfl ?_
  refine er_pfIX (pc' := 92) 8 rfl rfl rfl rfl rfl rfl ?_
  refine er_loc (pc' := 93) rfl rfl rfl ?_
  refine er_loc (pc' := 94) rfl rfl rfl ?_
  refine er_gf (pc' := 97) (.int (X 22 9)) rfl rfl rfl rfl rfl ?_
  refine er_pfIX (pc' := 100) 9 rfl rfl rfl rfl rfl rfl ?_
  refine er_loc (pc' := 101) rfl rfl rfl ?_
  refine er_loc (pc' := 102) rfl rfl rfl ?_
  refine er_gf (pc' := 105) (.int (X 22 10)) rfl rfl rfl rfl rfl ?_
  refine er_pfIX (pc' := 108) 10 rfl rfl rfl rfl rfl rfl ?_
  refine er_loc (pc' := 109) rfl rfl rfl ?_
  refine er_gf (pc' := 112) (_) rfl rfl rfl rfl rfl ?_
  refine er_loc (pc' := 113) rfl rfl rfl ?_
  refine er_gf (pc' := 116) (_) rfl rfl rfl rfl rfl ?_
  refine er_gf (pc' := 119) (_) rfl rfl rfl rfl rfl ?_
  refine er_loc (pc' := 120) rfl rfl rfl ?_
  refine er_gf (pc' := 123) (_) rfl rfl rfl rfl rfl ?_
  refine er_gf (pc' := 126) (.int (X 27 2)) rfl rfl rfl rfl rfl ?_
  rw [hl1]
  refine er_cIv (pc' := 129) (rest := []) 8 rfl rfl rfl rfl rfl rfl (l_hold _ (t := 14) (by simp [tx]) _ _ 28 (X 28) rfl (by rfl) l1 h150) ?_
  intro Z1
  refine er_loc (pc' := 130) rfl rfl rfl ?_
  refine er_gf (pc' := 133) (_) rfl rfl rfl rfl rfl ?_
  refine er_loc (pc' := 134) rfl rfl rfl ?_
  refine er_gf (pc' := 137) (_) rfl rfl rfl rfl rfl ?_
  refine er_gf (pc' := 140) (_) rfl rfl rfl rfl rfl ?_
  refine er_loc (pc' := 141) rfl rfl rfl ?_
  refine er_gf (pc' := 144) (_) rfl rfl rfl rfl rfl ?_
  refine er_gf (pc' := 147) (.int (X 30 2)) rfl rfl rfl rfl rfl ?_
  rw [hl2]
  refine er_cIv (pc' := 150) (rest := []) 8 rfl rfl rfl rfl rfl rfl (l_hold _ (t := 17) (by simp [tx]) _ _ 31 (X 31) rfl (by rfl) l2 h250) ?_
  intro Z2
  refine er_loc (pc' := 151) rfl rfl rfl ?_
  refine er_gf (pc' := 154) (_) rfl rfl rfl rfl rfl ?_
  refine er_k (pc' := 155) (nI 0) rfl rfl rfl ?_
  refine er_loc (pc' := 156) rfl rfl rfl ?_
  refine er_gf (pc' := 159) (_) rfl rfl rfl rfl rfl ?_
  refine er_k (pc' := 160) (nI 0) rfl rfl rfl ?_
  refine er_k (pc' := 162) (nI 50) rfl rfl rfl ?_
  refine er_cpX (pc' := 165) (0) (0) (50) rfl rfl rfl rfl rfl rfl (fun _ => rfl) rfl rfl rfl (by omega) (by omega) rfl rfl ?_
  refine er_loc (pc' := 166) rfl rfl rfl ?_
  refine er_loc (pc' := 167) rfl rfl rfl ?_
  refine er_gf (pc' := 170) (.int (X 22 14)) rfl rfl rfl rfl rfl ?_
  refine er_pfIX (pc' := 173) 14 rfl rfl rfl rfl rfl rfl ?_
  refine er_loc (pc' := 174) rfl rfl rfl ?_
  refine er_gf (pc' := 177) (_) rfl rfl rfl rfl rfl ?_
  refine er_k (pc' := 178) (nI 0) rfl rfl rfl ?_
  refine er_loc (pc' := 179) rfl rfl rfl ?_
  refine er_gf (pc' := 182) (_) rfl rfl rfl rfl rfl ?_
  refine er_k (pc' := 183) (nI 0) rfl rfl rfl ?_
  refine er_k (pc' := 185) (nI 20) rfl rfl rfl ?_
  refine er_cpX (pc' := 188) (0) (0) (20) rfl rfl rfl rfl rfl rfl (fun _ => rfl) rfl rfl rfl (by omega) (by omega) rfl rfl ?_
  refine er_loc (pc' := 189) rfl rfl rfl ?_
  refine er_loc (pc' := 190) rfl rfl rfl ?_
  refine er_gf (pc' := 193) (.int (X 22 16)) rfl rfl rfl rfl rfl ?_
  refine er_pfIX (pc' := 196) 16 rfl rfl rfl rfl rfl rfl ?_
  refine er_loc (pc' := 197) rfl rfl rfl ?_
  refine er_loc (pc' := 198) rfl rfl rfl ?_
  refine er_gf (pc' := 201) (.int (X 22 17)) rfl rfl rfl rfl rfl ?_
  refine er_pfIX (pc' := 204) 17 rfl rfl rfl rfl rfl rfl ?_
  refine er_vret rfl rfl ?_
  refine ⟨_, _, rfl, ?_, ?_⟩
  · refine jx_take (b := 9) (p := 22) ?_ ?_ ?_ ?_ ?_ ?_ ?_ ?_ ?_ ?_ ?_
    · intro k hk
      rcases okF_cases hk with rfl | rfl | rfl | rfl | rfl | rfl | rfl | rfl | rfl <;> rfl
    · intro k hk; exact cpf_all hk
    · intro k hk; exact cpf_all hk
    · intro k hk; exact cpf_all hk
    · intro k hk; exact cpf_all hk
    · exact hl1.symm
    · intro k hk
      rw [show nN (X (22 + 5) 2) = l1 from by rw [show X (22 + 5) 2 = nI l1 from hl1]; exact nN_nI (by omega)] at hk
      exact cpf_all hk
    · exact hl2.symm
    · intro k hk
      rw [show nN (X (22 + 8) 2) = l2 from by rw [show X (22 + 8) 2 = nI l2 from hl2]; exact nN_nI (by omega)] at hk
      exact cpf_all hk
    · intro k hk; exact cpf_all hk
    · intro k hk; exact cpf_all hk
  · intro c hc
    simp only [xHold, ud, uc]
    repeat rw [if_neg (by omega)]
end
section
/-! THE FACE, first: errors, steps, the bag -/
theorem j9 : jb 9 := Or.inl rfl
theorem j22 : jb 22 := Or.inr (Or.inl rfl)
theorem j35 : jb 35 := Or.inr (Or.inr rfl)
def xErr (X : Nat → Nat → Int32) (k : Nat) : Nat → Nat → Int32 := ud X 53 k (X 53 k + nI 1)
theorem sIn_ex {w : Int32} {a c : Nat} (hc : c < 2 ^ 31) (ha : a < 2 ^ 31) (h : sIn w (nI a) (nI c) = true) : ∃ j, a ≤ j ∧ j ≤ c ∧ w = nI j := by
  unfold sIn at h
  simp only [Bool.and_eq_true, Bool.not_eq_true', decide_eq_false_iff_not] at h
  have h0 : ¬ w < 0 := by
    intro hw
    apply h.1
    have e := nI_toInt ha
    rw [Int32.lt_iff_toInt_lt] at hw ⊢
    rw [e]
    have : (0 : Int32).toInt = 0 := rfl
    omega
  obtain ⟨j, hj, rfl⟩ := nI_of h0
  refine ⟨j, ?_, ?_, rfl⟩
  · have := h.1
    rw [nI_ltI hj ha] at this
    omega
  · have := h.2
    rw [nI_ltI hc hj] at this
    omega
theorem sIn_no {w : Int32} {a c : Nat} (hc : c < 2 ^ 31) (ha : a < 2 ^ 31) (h : ∀ j, a ≤ j → j ≤ c → w ≠ nI j) : sIn w (nI a) (nI c) = false := by
  cases hb : sIn w (nI a) (nI c) with
  | false => rfl
  | true =>
    obtain ⟨j, h1, h2, h3⟩ := sIn_ex hc ha hb
    exact absurd h3 (h j h1 h2)
theorem sIn_t {j a c : Nat} (h1 : a ≤ j) (h2 : j ≤ c) (hc : c < 2 ^ 31) : sIn (nI j) (nI a) (nI c) = true := by
  rw [sIn_nI (by omega) (by omega) hc, decide_eq_true h1, decide_eq_true h2]
  rfl
set_option maxRecDepth 100000 in
set_option maxHeartbeats 4000000 in
theorem l_error (d : Nat) (X Z : Nat → Nat → Int32) (k : Nat) (hk : 1 ≤ k ∧ k ≤ 5) : EC (d + 2) 77 [.ref 0, .int (nI k)] (Wd X Z) (RI (sErr k) (xErr X k)) := by
  refine er_enter (L := [(0, _), (1, _)]) rfl rfl rfl ?_
  obtain ⟨hk1, hk5⟩ := hk
  refine er_loc (pc' := 1) rfl rfl rfl ?_
  refine er_k (pc' := 2) (nI 1) rfl rfl rfl ?_
  refine er_k (pc' := 3) (nI 5) rfl rfl rfl ?_
  refine er_cSi (pc' := 6) (rest := []) rfl rfl rfl (l_within _ _ _ _ _) ?_
  rw [sIn_t hk1 hk5 (by omega)]
  refine er_if_eqF (pc' := 9) rfl (by decide +kernel) rfl ?_
  refine er_loc (pc' := 10) rfl rfl rfl ?_
  refine er_gf (pc' := 13) (_) rfl rfl rfl rfl rfl ?_
  refine er_loc (pc' := 14) rfl rfl rfl ?_
  refine er_pure (pc' := 15) rfl rfl rfl ?_
  refine er_ia (pc' := 16) (k) rfl rfl rfl rfl (by omega) rfl rfl ?_
  refine er_k (pc' := 17) (nI 1) rfl rfl rfl ?_
  refine er_iadd (pc' := 18) rfl rfl ?_
  refine er_isX (pc' := 19) (k) rfl rfl (fun _ => rfl) rfl (by omega) rfl rfl ?_
  refine er_ldc (pc' := 22) (-1000000000) rfl rfl rfl rfl rfl ?_
  refine er_loc (pc' := 23) rfl rfl rfl ?_
  refine er_isub (pc' := 24) rfl rfl ?_
  refine er_iret rfl rfl ?_
  exact RI_of rfl rfl
theorem l_has_no (d : Nat) (X Z : Nat → Nat → Int32) {b : Nat} (hb : jb b) (s : Int32) (h : (!decide (s < 0) && decide (s < X b 1)) = false) : EC (d + 1) 33 [.ref b, .int s] (Wd X Z) (PI (bI false) (Wd X Z)) := by
  have h1 := l_has d hb X Z s
  rw [h] at h1
  exact h1
def xHas (X : Nat → Nat → Int32) (s : Int32) : Bool := !decide (s < 0) && decide (s < X 9 1)
theorem xHas_k {T : Nat} {X : Nat → Nat → Int32} {s : Int32} (hI : IJ T (jx X 9)) (h : xHas X s = true) : ∃ k, k < jn (jx X 9) ∧ s = nI k := by
  unfold xHas at h
  simp only [Bool.and_eq_true, Bool.not_eq_true', decide_eq_false_iff_not, decide_eq_true_eq] at h
  obtain ⟨k, hk, rfl⟩ := nI_of h.1
  refine ⟨k, ?_, rfl⟩
  have h2 := h.2
  have h8 := jn8 hI
  rw [show X 9 1 = nI (jn (jx X 9)) from hI.n.1, nI_ltI hk (by omega)] at h2
  exact h2
def sStepOk (n km s nd : Int32) : Bool := sIn km (nI 0) (nI 69) && sIn s (nI 0) (nI 9) && sIn nd (nI 0) (nI 1 <<< (n &&& 31) - nI 1)
set_option maxRecDepth 100000 in
set_option maxHeartbeats 4000000 in
theorem l_step (d : Nat) (X Z : Nat → Nat → Int32) {T : Nat} (hI : IJ T (jx X 9)) (km s nd : Int32) : EC (d + 3) 75 [.ref 0, .int km, .int s, .int nd] (Wd X Z) (fun r => if sStepOk (jx X 9 0 1) km s nd = true then (if jn (jx X 9) < 8 then RI (nI (jn (jx X 9))) (xAdd X 9 (jn (jx X 9)) km s nd) r else RI (sErr 4) (xErr X 4) r) else RI (sErr 1) (xErr X 1) r) := by
  refine er_enter (L := [(0, _), (1, _), (2, _), (3, _)]) rfl rfl rfl ?_
  have h8 := jn8 hI
  have hn : X 9 1 = nI (jn (jx X 9)) := hI.n.1
  refine er_loc (pc' := 1) rfl rfl rfl ?_
  refine er_k (pc' := 2) (nI 0) rfl rfl rfl ?_
  refine er_k (pc' := 4) (nI 69) rfl rfl rfl ?_
  refine er_cSi (pc' := 7) (rest := []) rfl rfl rfl (l_within _ _ _ _ _) ?_
  refine er_if_eqb (pc' := 10) rfl rfl (fun h7 => ?_) (fun h7 => ?_)
  · refine er_k (pc' := 25) (nI 0) rfl rfl rfl ?_
    refine er_loc (pc' := 27) (L' := [(4, _), (0, _), (1, _), (2, _), (3, _)]) rfl rfl rfl ?_
    refine er_loc (pc' := 29) rfl rfl rfl ?_
    refine er_if_eqT rfl (by decide +kernel) ?_
    refine er_loc (pc' := 52) rfl rfl rfl ?_
    refine er_k (pc' := 53) (nI 1) rfl rfl rfl ?_
    refine er_cIz (pc' := 56) (rest := []) 11 rfl rfl rfl rfl rfl rfl (l_error _ _ _ 1 (by decide)) ?_
    intro Z9
    refine er_iret rfl rfl ?_
    rw [show jx X 9 0 1 = X 9 1 from rfl]
    have e : sStepOk (X 9 1) km s nd = false := by simp_all [sStepOk]
    rw [e]
    exact RI_of rfl rfl
  · refine er_loc (pc' := 11) rfl rfl rfl ?_
    refine er_k (pc' := 12) (nI 0) rfl rfl rfl ?_
    refine er_k (pc' := 14) (nI 9) rfl rfl rfl ?_
    refine er_cSi (pc' := 17) (rest := []) rfl rfl rfl (l_within _ _ _ _ _) ?_
    refine er_if_eqb (pc' := 20) rfl rfl (fun h17 => ?_) (fun h17 => ?_)
    · refine er_k (pc' := 25) (nI 0) rfl rfl rfl ?_
      refine er_loc (pc' := 27) (L' := [(4, _), (0, _), (1, _), (2, _), (3, _)]) rfl rfl rfl ?_
      refine er_loc (pc' := 29) rfl rfl rfl ?_
      refine er_if_eqT rfl (by decide +kernel) ?_
      refine er_loc (pc' := 52) rfl rfl rfl ?_
      refine er_k (pc' := 53) (nI 1) rfl rfl rfl ?_
      refine er_cIz (pc' := 56) (rest := []) 11 rfl rfl rfl rfl rfl rfl (l_error _ _ _ 1 (by decide)) ?_
      intro Z9
      refine er_iret rfl rfl ?_
      rw [show jx X 9 0 1 = X 9 1 from rfl]
      have e : sStepOk (X 9 1) km s nd = false := by simp_all [sStepOk]
      rw [e]
      exact RI_of rfl rfl
    · refine er_k (pc' := 21) (nI 1) rfl rfl rfl ?_
      refine er_goto rfl ?_
      refine er_loc (pc' := 27) (L' := [(4, _), (0, _), (1, _), (2, _), (3, _)]) rfl rfl rfl ?_
      refine er_loc (pc' := 29) rfl rfl rfl ?_
      refine er_if_eqF (pc' := 32) rfl (by decide +kernel) rfl ?_
      refine er_loc (pc' := 33) rfl rfl rfl ?_
      refine er_k (pc' := 34) (nI 0) rfl rfl rfl ?_
      refine er_k (pc' := 35) (nI 1) rfl rfl rfl ?_
      refine er_loc (pc' := 36) rfl rfl rfl ?_
      refine er_gf (pc' := 39) (_) rfl rfl rfl rfl rfl ?_
      refine er_gf (pc' := 42) (.int (X 9 1)) rfl rfl rfl rfl rfl ?_
      refine er_ishl (pc' := 43) rfl rfl ?_
      refine er_k (pc' := 44) (nI 1) rfl rfl rfl ?_
      refine er_isub (pc' := 45) rfl rfl ?_
      refine er_cSi (pc' := 48) (rest := []) rfl rfl rfl (l_within _ _ _ _ _) ?_
      refine er_if_neb (pc' := 51) rfl rfl (fun h48 => ?_) (fun h48 => ?_)
      · refine er_loc (pc' := 58) rfl rfl rfl ?_
        refine er_gf (pc' := 61) (_) rfl rfl rfl rfl rfl ?_
        refine er_gf (pc' := 64) (.int (X 9 1)) rfl rfl rfl rfl rfl ?_
        rw [hn]
        refine er_k (pc' := 66) (nI 8) rfl rfl rfl ?_
        refine er_cm_lt (pc' := 69) rfl rfl (fun h66 => ?_) (fun h66 => ?_)
        · have hlt : jn (jx X 9) < 8 := by
            rw [nI_ltI (by omega) (by omega)] at h66; exact h66
          refine er_loc (pc' := 76) rfl rfl rfl ?_
          refine er_gf (pc' := 79) (_) rfl rfl rfl rfl rfl ?_
          refine er_loc (pc' := 80) rfl rfl rfl ?_
          refine er_loc (pc' := 81) rfl rfl rfl ?_
          refine er_loc (pc' := 82) rfl rfl rfl ?_
          refine er_cIz (pc' := 85) (rest := []) 7 rfl rfl rfl rfl rfl rfl (l_add _ j9 _ _ _ _ _ _ hn hlt) ?_
          intro Z8
          refine er_iret rfl rfl ?_
          rw [show jx X 9 0 1 = X 9 1 from rfl]
          have e : sStepOk (X 9 1) km s nd = true := by simp_all [sStepOk]
          rw [e]
          rw [if_pos rfl, if_pos hlt]; exact RI_of rfl rfl
        · have hlt : ¬ jn (jx X 9) < 8 := by
            rw [nI_ltI (by omega) (by omega)] at h66; exact h66
          refine er_loc (pc' := 70) rfl rfl rfl ?_
          refine er_k (pc' := 71) (nI 4) rfl rfl rfl ?_
          refine er_cIz (pc' := 74) (rest := []) 11 rfl rfl rfl rfl rfl rfl (l_error _ _ _ 4 (by decide)) ?_
          intro Z9
          refine er_iret rfl rfl ?_
          rw [show jx X 9 0 1 = X 9 1 from rfl]
          have e : sStepOk (X 9 1) km s nd = true := by simp_all [sStepOk]
          rw [e]
          rw [if_pos rfl, if_neg hlt]; exact RI_of rfl rfl
      · refine er_loc (pc' := 52) rfl rfl rfl ?_
        refine er_k (pc' := 53) (nI 1) rfl rfl rfl ?_
        refine er_cIz (pc' := 56) (rest := []) 11 rfl rfl rfl rfl rfl rfl (l_error _ _ _ 1 (by decide)) ?_
        intro Z9
        refine er_iret rfl rfl ?_
        rw [show jx X 9 0 1 = X 9 1 from rfl]
        have e : sStepOk (X 9 1) km s nd = false := by simp_all [sStepOk]
        rw [e]
        exact RI_of rfl rfl
def sOf (J : Nat → Nat → Int32) (k : Nat) (w : Int32) : Int32 :=
  if w = 0 then J 1 k else if w = 1 then J 2 k else if w = 2 then J 3 k else if w = 3 then J 4 k else if w = 4 then bI (sDone J k) else if w = 5 then bI (sBit (J 0 7) (nI k)) else if w = 6 then sLasts J k else if w = 7 then sBack J k else if w = 8 then bI (sMayDo J k) else bI (sMayUn J k)
set_option maxRecDepth 100000 in
set_option maxHeartbeats 4000000 in
theorem l_ofStep_no (d : Nat) (X Z : Nat → Nat → Int32) (s w : Int32) (hs : xHas X s = false) : EC (d + 3) 78 [.ref 0, .int s, .int w] (Wd X Z) (RI (sErr 1) (xErr X 1)) := by
  refine er_enter (L := [(0, _), (1, _), (2, _)]) rfl rfl rfl ?_
  refine er_loc (pc' := 1) rfl rfl rfl ?_
  refine er_gf (pc' := 4) (_) rfl rfl rfl rfl rfl ?_
  refine er_loc (pc' := 5) rfl rfl rfl ?_
  refine er_cIi (pc' := 8) (rest := []) 7 rfl rfl rfl rfl rfl rfl (l_has_no _ _ _ j9 _ hs) ?_
  refine er_if_neF (pc' := 11) rfl (by decide +kernel) rfl ?_
  refine er_loc (pc' := 12) rfl rfl rfl ?_
  refine er_k (pc' := 13) (nI 1) rfl rfl rfl ?_
  refine er_cIz (pc' := 16) (rest := []) 11 rfl rfl rfl rfl rfl rfl (l_error _ _ _ 1 (by decide)) ?_
  intro Z9
  refine er_iret rfl rfl ?_
  exact RI_of rfl rfl
set_option maxRecDepth 100000 in
set_option maxHeartbeats 4000000 in
theorem l_ofStep (d : Nat) (X Z : Nat → Nat → Int32) {T : Nat} (hI : IJ T (jx X 9)) {k : Nat} (hk : k < jn (jx X 9)) (w : Int32) : EC (d + 6) 78 [.ref 0, .int (nI k), .int w] (Wd X Z) (fun r => if sIn w (nI 0) (nI 9) = true then RI (sOf (jx X 9) k w) X r else RI (sErr 1) (xErr X 1) r) := by
  refine er_enter (L := [(0, _), (1, _), (2, _)]) rfl rfl rfl ?_
  have h8 := jn8 hI
  have hk8 : k < 8 := by omega
  refine er_loc (pc' := 1) rfl rfl rfl ?_
  refine er_gf (pc' := 4) (_) rfl rfl rfl rfl rfl ?_
  refine er_loc (pc' := 5) rfl rfl rfl ?_
  refine er_cIi (pc' := 8) (rest := []) 7 rfl rfl rfl rfl rfl rfl (l_has_t _ j9 _ _ hI hk) ?_
  refine er_if_neT rfl (by decide +kernel) ?_
  refine er_loc (pc' := 18) rfl rfl rfl ?_
  refine er_sw (0) rfl rfl (fun s18_0 => ?_) (fun s18_0 => ?_)
  · refine er_loc (pc' := 73) rfl rfl rfl ?_
    refine er_gf (pc' := 76) (_) rfl rfl rfl rfl rfl ?_
    refine er_gf (pc' := 79) (_) rfl rfl rfl rfl rfl ?_
    refine er_loc (pc' := 80) rfl rfl rfl ?_
    refine er_ia (pc' := 81) (k) rfl rfl rfl rfl (by omega) rfl rfl ?_
    refine er_iret rfl rfl ?_
    subst w
    rw [if_pos (by decide +kernel)]
    refine RI_of ?_ rfl
    unfold sOf
    simp [jx1 hk8, jx2 hk8, jx3 hk8, jx4 hk8, sDone, jx06, jx07, bI, *]
  refine er_sw (1) rfl rfl (fun s18_1 => ?_) (fun s18_1 => ?_)
  · refine er_loc (pc' := 83) rfl rfl rfl ?_
    refine er_gf (pc' := 86) (_) rfl rfl rfl rfl rfl ?_
    refine er_gf (pc' := 89) (_) rfl rfl rfl rfl rfl ?_
    refine er_loc (pc' := 90) rfl rfl rfl ?_
    refine er_ia (pc' := 91) (k) rfl rfl rfl rfl (by omega) rfl rfl ?_
    refine er_iret rfl rfl ?_
    subst w
    rw [if_pos (by decide +kernel)]
    refine RI_of ?_ rfl
    unfold sOf
    simp [jx1 hk8, jx2 hk8, jx3 hk8, jx4 hk8, sDone, jx06, jx07, bI, *]
  refine er_sw (2) rfl rfl (fun s18_2 => ?_) (fun s18_2 => ?_)
  · refine er_loc (pc' := 93) rfl rfl rfl ?_
    refine er_gf (pc' := 96) (_) rfl rfl rfl rfl rfl ?_
    refine er_gf (pc' := 99) (_) rfl rfl rfl rfl rfl ?_
    refine er_loc (pc' := 100) rfl rfl rfl ?_
    refine er_ia (pc' := 101) (k) rfl rfl rfl rfl (by omega) rfl rfl ?_
    refine er_iret rfl rfl ?_
    subst w
    rw [if_pos (by decide +kernel)]
    refine RI_of ?_ rfl
    unfold sOf
    simp [jx1 hk8, jx2 hk8, jx3 hk8, jx4 hk8, sDone, jx06, jx07, bI, *]
  refine er_sw (3) rfl rfl (fun s18_3 => ?_) (fun s18_3 => ?_)
  · refine er_loc (pc' := 103) rfl rfl rfl ?_
    refine er_gf (pc' := 106) (_) rfl rfl rfl rfl rfl ?_
    refine er_gf (pc' := 109) (_) rfl rfl rfl rfl rfl ?_
    refine er_loc (pc' := 110) rfl rfl rfl ?_
    refine er_ia (pc' := 111) (k) rfl rfl rfl rfl (by omega) rfl rfl ?_
    refine er_iret rfl rfl ?_
    subst w
    rw [if_pos (by decide +kernel)]
    refine RI_of ?_ rfl
    unfold sOf
    simp [jx1 hk8, jx2 hk8, jx3 hk8, jx4 hk8, sDone, jx06, jx07, bI, *]
  refine er_sw (4) rfl rfl (fun s18_4 => ?_) (fun s18_4 => ?_)
  · refine er_loc (pc' := 113) rfl rfl rfl ?_
    refine er_gf (pc' := 116) (_) rfl rfl rfl rfl rfl ?_
    refine er_loc (pc' := 117) rfl rfl rfl ?_
    refine er_cIi (pc' := 120) (rest := []) 7 rfl rfl rfl rfl rfl rfl (l_isDone _ j9 _ _ _) ?_
    refine er_if_eqb (pc' := 123) rfl rfl (fun h120 => ?_) (fun h120 => ?_)
    · refine er_k (pc' := 128) (nI 0) rfl rfl rfl ?_
      refine er_iret rfl rfl ?_
      subst w
      rw [if_pos (by decide +kernel)]
      refine RI_of ?_ rfl
      unfold sOf
      simp [jx1 hk8, jx2 hk8, jx3 hk8, jx4 hk8, sDone, jx06, jx07, bI, *]
    · refine er_k (pc' := 124) (nI 1) rfl rfl rfl ?_
      refine er_goto rfl ?_
      refine er_iret rfl rfl ?_
      subst w
      rw [if_pos (by decide +kernel)]
      refine RI_of ?_ rfl
      unfold sOf
      simp [jx1 hk8, jx2 hk8, jx3 hk8, jx4 hk8, sDone, jx06, jx07, bI, *]
  refine er_sw (5) rfl rfl (fun s18_5 => ?_) (fun s18_5 => ?_)
  · refine er_loc (pc' := 130) rfl rfl rfl ?_
    refine er_gf (pc' := 133) (_) rfl rfl rfl rfl rfl ?_
    refine er_loc (pc' := 134) rfl rfl rfl ?_
    refine er_cIi (pc' := 137) (rest := []) 7 rfl rfl rfl rfl rfl rfl (l_isWrong _ j9 _ _ _) ?_
    refine er_if_eqb (pc' := 140) rfl rfl (fun h137 => ?_) (fun h137 => ?_)
    · refine er_k (pc' := 145) (nI 0) rfl rfl rfl ?_
      refine er_iret rfl rfl ?_
      subst w
      rw [if_pos (by decide +kernel)]
      refine RI_of ?_ rfl
      unfold sOf
      simp [jx1 hk8, jx2 hk8, jx3 hk8, jx4 hk8, sDone, jx06, jx07, bI, *]
    · refine er_k (pc' := 141) (nI 1) rfl rfl rfl ?_
      refine er_goto rfl ?_
      refine er_iret rfl rfl ?_
      subst w
      rw [if_pos (by decide +kernel)]
      refine RI_of ?_ rfl
      unfold sOf
      simp [jx1 hk8, jx2 hk8, jx3 hk8, jx4 hk8, sDone, jx06, jx07, bI, *]
  refine er_sw (6) rfl rfl (fun s18_6 => ?_) (fun s18_6 => ?_)
  · refine er_loc (pc' := 147) rfl rfl rfl ?_
    refine er_gf (pc' := 150) (_) rfl rfl rfl rfl rfl ?_
    refine er_loc (pc' := 151) rfl rfl rfl ?_
    refine er_cIz (pc' := 154) (rest := []) 7 rfl rfl rfl rfl rfl rfl (l_lasts _ j9 _ _ hI hk) ?_
    intro Z2
    refine er_iret rfl rfl ?_
    subst w
    rw [if_pos (by decide +kernel)]
    refine RI_of ?_ rfl
    unfold sOf
    simp [jx1 hk8, jx2 hk8, jx3 hk8, jx4 hk8, sDone, jx06, jx07, bI, *]
  refine er_sw (7) rfl rfl (fun s18_7 => ?_) (fun s18_7 => ?_)
  · refine er_loc (pc' := 156) rfl rfl rfl ?_
    refine er_gf (pc' := 159) (_) rfl rfl rfl rfl rfl ?_
    refine er_loc (pc' := 160) rfl rfl rfl ?_
    refine er_cIz (pc' := 163) (rest := []) 7 rfl rfl rfl rfl rfl rfl (l_takesBack _ j9 _ _ hI hk) ?_
    intro Z2
    refine er_iret rfl rfl ?_
    subst w
    rw [if_pos (by decide +kernel)]
    refine RI_of ?_ rfl
    unfold sOf
    simp [jx1 hk8, jx2 hk8, jx3 hk8, jx4 hk8, sDone, jx06, jx07, bI, *]
  refine er_sw (8) rfl rfl (fun s18_8 => ?_) (fun s18_8 => ?_)
  · refine er_loc (pc' := 165) rfl rfl rfl ?_
    refine er_gf (pc' := 168) (_) rfl rfl rfl rfl rfl ?_
    refine er_loc (pc' := 169) rfl rfl rfl ?_
    refine er_cIi (pc' := 172) (rest := []) 7 rfl rfl rfl rfl rfl rfl (l_mayBeDone _ j9 _ _ hI hk) ?_
    refine er_if_eqb (pc' := 175) rfl rfl (fun h172 => ?_) (fun h172 => ?_)
    · refine er_k (pc' := 180) (nI 0) rfl rfl rfl ?_
      refine er_iret rfl rfl ?_
      subst w
      rw [if_pos (by decide +kernel)]
      refine RI_of ?_ rfl
      unfold sOf
      simp [jx1 hk8, jx2 hk8, jx3 hk8, jx4 hk8, sDone, jx06, jx07, bI, *]
    · refine er_k (pc' := 176) (nI 1) rfl rfl rfl ?_
      refine er_goto rfl ?_
      refine er_iret rfl rfl ?_
      subst w
      rw [if_pos (by decide +kernel)]
      refine RI_of ?_ rfl
      unfold sOf
      simp [jx1 hk8, jx2 hk8, jx3 hk8, jx4 hk8, sDone, jx06, jx07, bI, *]
  refine er_sw (9) rfl rfl (fun s18_9 => ?_) (fun s18_9 => ?_)
  · refine er_loc (pc' := 182) rfl rfl rfl ?_
    refine er_gf (pc' := 185) (_) rfl rfl rfl rfl rfl ?_
    refine er_loc (pc' := 186) rfl rfl rfl ?_
    refine er_cIi (pc' := 189) (rest := []) 7 rfl rfl rfl rfl rfl rfl (l_mayBeUndone _ j9 _ _ hI hk) ?_
    refine er_if_eqb (pc' := 192) rfl rfl (fun h189 => ?_) (fun h189 => ?_)
    · refine er_k (pc' := 197) (nI 0) rfl rfl rfl ?_
      refine er_iret rfl rfl ?_
      subst w
      rw [if_pos (by decide +kernel)]
      refine RI_of ?_ rfl
      unfold sOf
      simp [jx1 hk8, jx2 hk8, jx3 hk8, jx4 hk8, sDone, jx06, jx07, bI, *]
    · refine er_k (pc' := 193) (nI 1) rfl rfl rfl ?_
      refine er_goto rfl ?_
      refine er_iret rfl rfl ?_
      subst w
      rw [if_pos (by decide +kernel)]
      refine RI_of ?_ rfl
      unfold sOf
      simp [jx1 hk8, jx2 hk8, jx3 hk8, jx4 hk8, sDone, jx06, jx07, bI, *]
  refine er_tsD [0, 1, 2, 3, 4, 5, 6, 7, 8, 9] rfl rfl rfl rfl (List.forall_mem_cons.mpr ⟨ne_toInt s18_0 rfl, List.forall_mem_cons.mpr ⟨ne_toInt s18_1 rfl, List.forall_mem_cons.mpr ⟨ne_toInt s18_2 rfl, List.forall_mem_cons.mpr ⟨ne_toInt s18_3 rfl, List.forall_mem_cons.mpr ⟨ne_toInt s18_4 rfl, List.forall_mem_cons.mpr ⟨ne_toInt s18_5 rfl, List.forall_mem_cons.mpr ⟨ne_toInt s18_6 rfl, List.forall_mem_cons.mpr ⟨ne_toInt s18_7 rfl, List.forall_mem_cons.mpr ⟨ne_toInt s18_8 rfl, List.forall_mem_cons.mpr ⟨ne_toInt s18_9 rfl, fun _ h => absurd h List.not_mem_nil⟩⟩⟩⟩⟩⟩⟩⟩⟩⟩) ?_
  refine er_loc (pc' := 199) rfl rfl rfl ?_
  refine er_k (pc' := 200) (nI 1) rfl rfl rfl ?_
  refine er_cIz (pc' := 203) (rest := []) 11 rfl rfl rfl rfl rfl rfl (l_error _ _ _ 1 (by decide)) ?_
  intro Z9
  refine er_iret rfl rfl ?_
  rw [sIn_no (by omega) (by omega) (by
    intro j _ hj e
    have : j = 0 ∨ j = 1 ∨ j = 2 ∨ j = 3 ∨ j = 4 ∨ j = 5 ∨ j = 6 ∨ j = 7 ∨ j = 8 ∨ j = 9 := by omega
    rcases this with rfl | rfl | rfl | rfl | rfl | rfl | rfl | rfl | rfl | rfl
    · exact s18_0 e
    · exact s18_1 e
    · exact s18_2 e
    · exact s18_3 e
    · exact s18_4 e
    · exact s18_5 e
    · exact s18_6 e
    · exact s18_7 e
    · exact s18_8 e
    · exact s18_9 e
  )]
  exact RI_of rfl rfl
def sMost (k : Nat) (w : Int32) : Int32 := if w = 0 then nI 9 else if w = 1 then nI 1 <<< (nI k &&& 31) - nI 1 else if w = 2 then nI 1 else -1
set_option maxRecDepth 100000 in
set_option maxHeartbeats 4000000 in
theorem l_mostToChange (d : Nat) (k : Nat) (w : Int32) (W : ab_W) : EC (d + 1) 81 [.int (nI k), .int w] W (PI (sMost k w) W) := by
  refine er_enter (L := [(0, _), (1, _)]) rfl rfl rfl ?_
  refine er_loc (pc' := 1) rfl rfl rfl ?_
  refine er_sw (0) rfl rfl (fun s1_0 => ?_) (fun s1_0 => ?_)
  · refine er_k (pc' := 30) (nI 9) rfl rfl rfl ?_
    refine er_iret rfl rfl ?_
    exact PI_of (by simp [sMost, *])
  refine er_sw (1) rfl rfl (fun s1_1 => ?_) (fun s1_1 => ?_)
  · refine er_k (pc' := 32) (nI 1) rfl rfl rfl ?_
    refine er_loc (pc' := 33) rfl rfl rfl ?_
    refine er_ishl (pc' := 34) rfl rfl ?_
    refine er_k (pc' := 35) (nI 1) rfl rfl rfl ?_
    refine er_isub (pc' := 36) rfl rfl ?_
    refine er_iret rfl rfl ?_
    exact PI_of (by simp [sMost, *])
  refine er_sw (2) rfl rfl (fun s1_2 => ?_) (fun s1_2 => ?_)
  · refine er_k (pc' := 38) (nI 1) rfl rfl rfl ?_
    refine er_iret rfl rfl ?_
    exact PI_of (by simp [sMost, *])
  refine er_tsD [0, 1, 2] rfl rfl rfl rfl (List.forall_mem_cons.mpr ⟨ne_toInt s1_0 rfl, List.forall_mem_cons.mpr ⟨ne_toInt s1_1 rfl, List.forall_mem_cons.mpr ⟨ne_toInt s1_2 rfl, fun _ h => absurd h List.not_mem_nil⟩⟩⟩) ?_
  refine er_k (pc' := 40) (-1) rfl rfl rfl ?_
  refine er_iret rfl rfl ?_
  exact PI_of (by simp [sMost, *])
set_option maxRecDepth 100000 in
set_option maxHeartbeats 4000000 in
theorem l_change_no (d : Nat) (X Z : Nat → Nat → Int32) (s w v : Int32) (hs : xHas X s = false) : EC (d + 3) 80 [.ref 0, .int s, .int w, .int v] (Wd X Z) (RI (sErr 1) (xErr X 1)) := by
  refine er_enter (L := [(0, _), (1, _), (2, _), (3, _)]) rfl rfl rfl ?_
  refine er_loc (pc' := 1) rfl rfl rfl ?_
  refine er_gf (pc' := 4) (_) rfl rfl rfl rfl rfl ?_
  refine er_loc (pc' := 5) rfl rfl rfl ?_
  refine er_cIi (pc' := 8) (rest := []) 7 rfl rfl rfl rfl rfl rfl (l_has_no _ _ _ j9 _ hs) ?_
  refine er_if_eqT rfl (by decide +kernel) ?_
  refine er_loc (pc' := 25) rfl rfl rfl ?_
  refine er_k (pc' := 26) (nI 1) rfl rfl rfl ?_
  refine er_cIz (pc' := 29) (rest := []) 11 rfl rfl rfl rfl rfl rfl (l_error _ _ _ 1 (by decide)) ?_
  intro Z9
  refine er_iret rfl rfl ?_
  exact RI_of rfl rfl
set_option maxRecDepth 100000 in
set_option maxHeartbeats 4000000 in
theorem l_change (d : Nat) (X Z : Nat → Nat → Int32) {T : Nat} (hI : IJ T (jx X 9)) {k : Nat} (hk : k < jn (jx X 9)) (w v : Int32) : EC (d + 3) 80 [.ref 0, .int (nI k), .int w, .int v] (Wd X Z) (fun r => if sIn v (nI 0) (sMost k w) = true then (if w = 0 then RI (jx X 9 3 k) (ud X (9 + 3) k v) r else if w = nI 1 then RI (jx X 9 4 k) (ud X (9 + 4) k v) r else if sBit (jx X 9 0 6) (nI k) = true then RI (bI (sBit (jx X 9 0 7) (nI k))) (ud X 9 7 (sWith (X 9 7) (nI k) (decide (v = nI 1)))) r else RI (sErr 3) (xErr X 3) r) else RI (sErr 1) (xErr X 1) r) := by
  refine er_enter (L := [(0, _), (1, _), (2, _), (3, _)]) rfl rfl rfl ?_
  have h8 := jn8 hI
  have hk8 : k < 8 := by omega
  refine er_loc (pc' := 1) rfl rfl rfl ?_
  refine er_gf (pc' := 4) (_) rfl rfl rfl rfl rfl ?_
  refine er_loc (pc' := 5) rfl rfl rfl ?_
  refine er_cIi (pc' := 8) (rest := []) 7 rfl rfl rfl rfl rfl rfl (l_has_t _ j9 _ _ hI hk) ?_
  refine er_if_eqF (pc' := 11) rfl (by decide +kernel) rfl ?_
  refine er_loc (pc' := 12) rfl rfl rfl ?_
  refine er_k (pc' := 13) (nI 0) rfl rfl rfl ?_
  refine er_loc (pc' := 14) rfl rfl rfl ?_
  refine er_loc (pc' := 15) rfl rfl rfl ?_
  refine er_cSi (pc' := 18) (rest := [_, _]) rfl rfl rfl (l_mostToChange _ _ _ _) ?_
  refine er_cSi (pc' := 21) (rest := []) rfl rfl rfl (l_within _ _ _ _ _) ?_
  refine er_if_neb (pc' := 24) rfl rfl (fun h21 => ?_) (fun h21 => ?_)
  · refine er_loc (pc' := 31) rfl rfl rfl ?_
    refine er_if_ne (pc' := 34) rfl rfl (fun h31 => ?_) (fun h31 => ?_)
    · refine er_loc (pc' := 59) rfl rfl rfl ?_
      refine er_k (pc' := 60) (nI 1) rfl rfl rfl ?_
      refine er_cm_ne (pc' := 63) rfl rfl (fun h60 => ?_) (fun h60 => ?_)
      · refine er_loc (pc' := 88) rfl rfl rfl ?_
        refine er_gf (pc' := 91) (_) rfl rfl rfl rfl rfl ?_
        refine er_loc (pc' := 92) rfl rfl rfl ?_
        refine er_cIi (pc' := 95) (rest := []) 7 rfl rfl rfl rfl rfl rfl (l_isDone _ j9 _ _ _) ?_
        refine er_if_neb (pc' := 98) rfl rfl (fun h95 => ?_) (fun h95 => ?_)
        · refine er_loc (pc' := 105) rfl rfl rfl ?_
          refine er_gf (pc' := 108) (_) rfl rfl rfl rfl rfl ?_
          refine er_loc (pc' := 109) rfl rfl rfl ?_
          refine er_cIi (pc' := 112) (rest := []) 7 rfl rfl rfl rfl rfl rfl (l_isWrong _ j9 _ _ _) ?_
          refine er_if_eqb (pc' := 115) rfl rfl (fun h112 => ?_) (fun h112 => ?_)
          · refine er_k (pc' := 120) (nI 0) rfl rfl rfl ?_
            refine er_loc (pc' := 122) (L' := [(4, _), (0, _), (1, _), (2, _), (3, _)]) rfl rfl rfl ?_
            refine er_loc (pc' := 123) rfl rfl rfl ?_
            refine er_gf (pc' := 126) (_) rfl rfl rfl rfl rfl ?_
            refine er_loc (pc' := 127) rfl rfl rfl ?_
            refine er_gf (pc' := 130) (_) rfl rfl rfl rfl rfl ?_
            refine er_gf (pc' := 133) (_) rfl rfl rfl rfl rfl ?_
            refine er_loc (pc' := 134) rfl rfl rfl ?_
            refine er_loc (pc' := 135) rfl rfl rfl ?_
            refine er_k (pc' := 136) (nI 1) rfl rfl rfl ?_
            refine er_cm_ne (pc' := 139) rfl rfl (fun h136 => ?_) (fun h136 => ?_)
            · refine er_k (pc' := 144) (nI 0) rfl rfl rfl ?_
              refine er_cSi (pc' := 147) (rest := [_]) rfl rfl rfl (l_with _ _ _ false _) ?_
              refine er_pfIX (pc' := 150) 7 rfl rfl rfl rfl rfl rfl ?_
              refine er_loc (pc' := 152) rfl rfl rfl ?_
              refine er_iret rfl rfl ?_
              rw [if_pos h21]
              first | rw [if_pos h31] | (rw [if_neg h31]; first | rw [if_pos h60] | rw [if_neg h60, if_pos (by rw [jx06]; exact h95)])
              refine RI_of ?_ ?_
              · first | rw [jx3 hk8] | rw [jx4 hk8] | (rw [jx07]; first | exact bI_eq1 h112 | exact bI_eq0 h112)
              · first | rfl | simp [*]
            · refine er_k (pc' := 140) (nI 1) rfl rfl rfl ?_
              refine er_goto rfl ?_
              refine er_cSi (pc' := 147) (rest := [_]) rfl rfl rfl (l_with _ _ _ true _) ?_
              refine er_pfIX (pc' := 150) 7 rfl rfl rfl rfl rfl rfl ?_
              refine er_loc (pc' := 152) rfl rfl rfl ?_
              refine er_iret rfl rfl ?_
              rw [if_pos h21]
              first | rw [if_pos h31] | (rw [if_neg h31]; first | rw [if_pos h60] | rw [if_neg h60, if_pos (by rw [jx06]; exact h95)])
              refine RI_of ?_ ?_
              · first | rw [jx3 hk8] | rw [jx4 hk8] | (rw [jx07]; first | exact bI_eq1 h112 | exact bI_eq0 h112)
              · first | rfl | simp [*]
          · refine er_k (pc' := 116) (nI 1) rfl rfl rfl ?_
            refine er_goto rfl ?_
            refine er_loc (pc' := 122) (L' := [(4, _), (0, _), (1, _), (2, _), (3, _)]) rfl rfl rfl ?_
            refine er_loc (pc' := 123) rfl rfl rfl ?_
            refine er_gf (pc' := 126) (_) rfl rfl rfl rfl rfl ?_
            refine er_loc (pc' := 127) rfl rfl rfl ?_
            refine er_gf (pc' := 130) (_) rfl rfl rfl rfl rfl ?_
            refine er_gf (pc' := 133) (_) rfl rfl rfl rfl rfl ?_
            refine er_loc (pc' := 134) rfl rfl rfl ?_
            refine er_loc (pc' := 135) rfl rfl rfl ?_
            refine er_k (pc' := 136) (nI 1) rfl rfl rfl ?_
            refine er_cm_ne (pc' := 139) rfl rfl (fun h136 => ?_) (fun h136 => ?_)
            · refine er_k (pc' := 144) (nI 0) rfl rfl rfl ?_
              refine er_cSi (pc' := 147) (rest := [_]) rfl rfl rfl (l_with _ _ _ false _) ?_
              refine er_pfIX (pc' := 150) 7 rfl rfl rfl rfl rfl rfl ?_
              refine er_loc (pc' := 152) rfl rfl rfl ?_
              refine er_iret rfl rfl ?_
              rw [if_pos h21]
              first | rw [if_pos h31] | (rw [if_neg h31]; first | rw [if_pos h60] | rw [if_neg h60, if_pos (by rw [jx06]; exact h95)])
              refine RI_of ?_ ?_
              · first | rw [jx3 hk8] | rw [jx4 hk8] | (rw [jx07]; first | exact bI_eq1 h112 | exact bI_eq0 h112)
              · first | rfl | simp [*]
            · refine er_k (pc' := 140) (nI 1) rfl rfl rfl ?_
              refine er_goto rfl ?_
              refine er_cSi (pc' := 147) (rest := [_]) rfl rfl rfl (l_with _ _ _ true _) ?_
              refine er_pfIX (pc' := 150) 7 rfl rfl rfl rfl rfl rfl ?_
              refine er_loc (pc' := 152) rfl rfl rfl ?_
              refine er_iret rfl rfl ?_
              rw [if_pos h21]
              first | rw [if_pos h31] | (rw [if_neg h31]; first | rw [if_pos h60] | rw [if_neg h60, if_pos (by rw [jx06]; exact h95)])
              refine RI_of ?_ ?_
              · first | rw [jx3 hk8] | rw [jx4 hk8] | (rw [jx07]; first | exact bI_eq1 h112 | exact bI_eq0 h112)
              · first | rfl | simp [*]
        · refine er_loc (pc' := 99) rfl rfl rfl ?_
          refine er_k (pc' := 100) (nI 3) rfl rfl rfl ?_
          refine er_cIz (pc' := 103) (rest := []) 11 rfl rfl rfl rfl rfl rfl (l_error _ _ _ 3 (by decide)) ?_
          intro Z9
          refine er_iret rfl rfl ?_
          rw [if_pos h21, if_neg h31, if_neg h60, if_neg (by rw [jx06]; rw [h95]; decide)]
          exact RI_of rfl rfl
      · refine er_loc (pc' := 64) rfl rfl rfl ?_
        refine er_gf (pc' := 67) (_) rfl rfl rfl rfl rfl ?_
        refine er_gf (pc' := 70) (_) rfl rfl rfl rfl rfl ?_
        refine er_loc (pc' := 71) rfl rfl rfl ?_
        refine er_ia (pc' := 72) (k) rfl rfl rfl rfl (by omega) rfl rfl ?_
        refine er_loc (pc' := 74) (L' := [(4, _), (0, _), (1, _), (2, _), (3, _)]) rfl rfl rfl ?_
        refine er_loc (pc' := 75) rfl rfl rfl ?_
        refine er_gf (pc' := 78) (_) rfl rfl rfl rfl rfl ?_
        refine er_gf (pc' := 81) (_) rfl rfl rfl rfl rfl ?_
        refine er_loc (pc' := 82) rfl rfl rfl ?_
        refine er_loc (pc' := 83) rfl rfl rfl ?_
        refine er_isX (pc' := 84) (k) rfl rfl (fun _ => rfl) rfl hk8 rfl rfl ?_
        refine er_goto rfl ?_
        refine er_loc (pc' := 152) rfl rfl rfl ?_
        refine er_iret rfl rfl ?_
        rw [if_pos h21]
        first | rw [if_pos h31] | (rw [if_neg h31]; first | rw [if_pos h60] | rw [if_neg h60, if_pos (by rw [jx06]; exact h95)])
        refine RI_of ?_ ?_
        · first | rw [jx3 hk8] | rw [jx4 hk8] | (rw [jx07]; first | exact bI_eq1 h112 | exact bI_eq0 h112)
        · first | rfl | simp [*]
    · refine er_loc (pc' := 35) rfl rfl rfl ?_
      refine er_gf (pc' := 38) (_) rfl rfl rfl rfl rfl ?_
      refine er_gf (pc' := 41) (_) rfl rfl rfl rfl rfl ?_
      refine er_loc (pc' := 42) rfl rfl rfl ?_
      refine er_ia (pc' := 43) (k) rfl rfl rfl rfl (by omega) rfl rfl ?_
      refine er_loc (pc' := 45) (L' := [(4, _), (0, _), (1, _), (2, _), (3, _)]) rfl rfl rfl ?_
      refine er_loc (pc' := 46) rfl rfl rfl ?_
      refine er_gf (pc' := 49) (_) rfl rfl rfl rfl rfl ?_
      refine er_gf (pc' := 52) (_) rfl rfl rfl rfl rfl ?_
      refine er_loc (pc' := 53) rfl rfl rfl ?_
      refine er_loc (pc' := 54) rfl rfl rfl ?_
      refine er_isX (pc' := 55) (k) rfl rfl (fun _ => rfl) rfl hk8 rfl rfl ?_
      refine er_goto rfl ?_
      refine er_loc (pc' := 152) rfl rfl rfl ?_
      refine er_iret rfl rfl ?_
      rw [if_pos h21]
      first | rw [if_pos h31] | (rw [if_neg h31]; first | rw [if_pos h60] | rw [if_neg h60, if_pos (by rw [jx06]; exact h95)])
      refine RI_of ?_ ?_
      · first | rw [jx3 hk8] | rw [jx4 hk8] | (rw [jx07]; first | exact bI_eq1 h112 | exact bI_eq0 h112)
      · first | rfl | simp [*]
  · refine er_loc (pc' := 25) rfl rfl rfl ?_
    refine er_k (pc' := 26) (nI 1) rfl rfl rfl ?_
    refine er_cIz (pc' := 29) (rest := []) 11 rfl rfl rfl rfl rfl rfl (l_error _ _ _ 1 (by decide)) ?_
    intro Z9
    refine er_iret rfl rfl ?_
    rw [if_neg (by rw [h21]; decide)]
    exact RI_of rfl rfl
set_option maxRecDepth 100000 in
set_option maxHeartbeats 4000000 in
theorem l_set (d : Nat) (X Z : Nat → Nat → Int32) {T : Nat} (hI : IJ T (jx X 9)) (w v : Int32) : EC (d + 3) 83 [.ref 0, .int w, .int v] (Wd X Z) (fun r => if w = 0 ∧ sIn v (nI 1) (nI 2) = true then RI (X 9 8) (ud X 9 8 v) r else if w = nI 1 ∧ sIn v (nI 0) (nI 999) = true then RI (X 9 9) (ud X 9 9 v) r else if w = nI 2 ∧ sIn v (nI 0) 99999 = true then RI (X 9 10) (ud X 9 10 v) r else RI (sErr 1) (xErr X 1) r) := by
  refine er_enter (L := [(0, _), (1, _), (2, _)]) rfl rfl rfl ?_
  refine er_loc (pc' := 1) rfl rfl rfl ?_
  refine er_if_ne (pc' := 4) rfl rfl (fun h1 => ?_) (fun h1 => ?_)
  · refine er_loc (pc' := 33) rfl rfl rfl ?_
    refine er_k (pc' := 34) (nI 1) rfl rfl rfl ?_
    refine er_cm_ne (pc' := 37) rfl rfl (fun h34 => ?_) (fun h34 => ?_)
    · refine er_loc (pc' := 68) rfl rfl rfl ?_
      refine er_k (pc' := 69) (nI 2) rfl rfl rfl ?_
      refine er_cm_ne (pc' := 72) rfl rfl (fun h69 => ?_) (fun h69 => ?_)
      · refine er_loc (pc' := 102) rfl rfl rfl ?_
        refine er_k (pc' := 103) (nI 1) rfl rfl rfl ?_
        refine er_cIz (pc' := 106) (rest := []) 11 rfl rfl rfl rfl rfl rfl (l_error _ _ _ 1 (by decide)) ?_
        intro Z9
        refine er_iret rfl rfl ?_
        (repeat' split) <;> first | exact RI_of rfl rfl | (exfalso; simp_all; done)
      · refine er_loc (pc' := 73) rfl rfl rfl ?_
        refine er_k (pc' := 74) (nI 0) rfl rfl rfl ?_
        refine er_ldc (pc' := 76) (99999) rfl rfl rfl rfl rfl ?_
        refine er_cSi (pc' := 79) (rest := []) rfl rfl rfl (l_within _ _ _ _ _) ?_
        refine er_if_eqb (pc' := 82) rfl rfl (fun h79 => ?_) (fun h79 => ?_)
        · refine er_loc (pc' := 102) rfl rfl rfl ?_
          refine er_k (pc' := 103) (nI 1) rfl rfl rfl ?_
          refine er_cIz (pc' := 106) (rest := []) 11 rfl rfl rfl rfl rfl rfl (l_error _ _ _ 1 (by decide)) ?_
          intro Z9
          refine er_iret rfl rfl ?_
          (repeat' split) <;> first | exact RI_of rfl rfl | (exfalso; simp_all; done)
        · refine er_loc (pc' := 83) rfl rfl rfl ?_
          refine er_gf (pc' := 86) (_) rfl rfl rfl rfl rfl ?_
          refine er_gf (pc' := 89) (_) rfl rfl rfl rfl rfl ?_
          refine er_loc (pc' := 90) (L' := [(3, _), (0, _), (1, _), (2, _)]) rfl rfl rfl ?_
          refine er_loc (pc' := 91) rfl rfl rfl ?_
          refine er_gf (pc' := 94) (_) rfl rfl rfl rfl rfl ?_
          refine er_loc (pc' := 95) rfl rfl rfl ?_
          refine er_pfIX (pc' := 98) 10 rfl rfl rfl rfl rfl rfl ?_
          refine er_goto rfl ?_
          refine er_loc (pc' := 108) rfl rfl rfl ?_
          refine er_iret rfl rfl ?_
          (repeat' split) <;> first | exact RI_of rfl rfl | (exfalso; simp_all; done)
    · refine er_loc (pc' := 38) rfl rfl rfl ?_
      refine er_k (pc' := 39) (nI 0) rfl rfl rfl ?_
      refine er_k (pc' := 42) (nI 999) rfl rfl rfl ?_
      refine er_cSi (pc' := 45) (rest := []) rfl rfl rfl (l_within _ _ _ _ _) ?_
      refine er_if_eqb (pc' := 48) rfl rfl (fun h45 => ?_) (fun h45 => ?_)
      · refine er_loc (pc' := 68) rfl rfl rfl ?_
        refine er_k (pc' := 69) (nI 2) rfl rfl rfl ?_
        refine er_cm_ne (pc' := 72) rfl rfl (fun h69 => ?_) (fun h69 => ?_)
        · refine er_loc (pc' := 102) rfl rfl rfl ?_
          refine er_k (pc' := 103) (nI 1) rfl rfl rfl ?_
          refine er_cIz (pc' := 106) (rest := []) 11 rfl rfl rfl rfl rfl rfl (l_error _ _ _ 1 (by decide)) ?_
          intro Z9
          refine er_iret rfl rfl ?_
          (repeat' split) <;> first | exact RI_of rfl rfl | (exfalso; simp_all; done)
        · refine er_loc (pc' := 73) rfl rfl rfl ?_
          refine er_k (pc' := 74) (nI 0) rfl rfl rfl ?_
          refine er_ldc (pc' := 76) (99999) rfl rfl rfl rfl rfl ?_
          refine er_cSi (pc' := 79) (rest := []) rfl rfl rfl (l_within _ _ _ _ _) ?_
          refine er_if_eqb (pc' := 82) rfl rfl (fun h79 => ?_) (fun h79 => ?_)
          · refine er_loc (pc' := 102) rfl rfl rfl ?_
            refine er_k (pc' := 103) (nI 1) rfl rfl rfl ?_
            refine er_cIz (pc' := 106) (rest := []) 11 rfl rfl rfl rfl rfl rfl (l_error _ _ _ 1 (by decide)) ?_
            intro Z9
            refine er_iret rfl rfl ?_
            (repeat' split) <;> first | exact RI_of rfl rfl | (exfalso; simp_all; done)
          · refine er_loc (pc' := 83) rfl rfl rfl ?_
            refine er_gf (pc' := 86) (_) rfl rfl rfl rfl rfl ?_
            refine er_gf (pc' := 89) (_) rfl rfl rfl rfl rfl ?_
            refine er_loc (pc' := 90) (L' := [(3, _), (0, _), (1, _), (2, _)]) rfl rfl rfl ?_
            refine er_loc (pc' := 91) rfl rfl rfl ?_
            refine er_gf (pc' := 94) (_) rfl rfl rfl rfl rfl ?_
            refine er_loc (pc' := 95) rfl rfl rfl ?_
            refine er_pfIX (pc' := 98) 10 rfl rfl rfl rfl rfl rfl ?_
            refine er_goto rfl ?_
            refine er_loc (pc' := 108) rfl rfl rfl ?_
            refine er_iret rfl rfl ?_
            (repeat' split) <;> first | exact RI_of rfl rfl | (exfalso; simp_all; done)
      · refine er_loc (pc' := 49) rfl rfl rfl ?_
        refine er_gf (pc' := 52) (_) rfl rfl rfl rfl rfl ?_
        refine er_gf (pc' := 55) (_) rfl rfl rfl rfl rfl ?_
        refine er_loc (pc' := 56) (L' := [(3, _), (0, _), (1, _), (2, _)]) rfl rfl rfl ?_
        refine er_loc (pc' := 57) rfl rfl rfl ?_
        refine er_gf (pc' := 60) (_) rfl rfl rfl rfl rfl ?_
        refine er_loc (pc' := 61) rfl rfl rfl ?_
        refine er_pfIX (pc' := 64) 9 rfl rfl rfl rfl rfl rfl ?_
        refine er_goto rfl ?_
        refine er_loc (pc' := 108) rfl rfl rfl ?_
        refine er_iret rfl rfl ?_
        (repeat' split) <;> first | exact RI_of rfl rfl | (exfalso; simp_all; done)
  · refine er_loc (pc' := 5) rfl rfl rfl ?_
    refine er_k (pc' := 6) (nI 1) rfl rfl rfl ?_
    refine er_k (pc' := 7) (nI 2) rfl rfl rfl ?_
    refine er_cSi (pc' := 10) (rest := []) rfl rfl rfl (l_within _ _ _ _ _) ?_
    refine er_if_eqb (pc' := 13) rfl rfl (fun h10 => ?_) (fun h10 => ?_)
    · refine er_loc (pc' := 33) rfl rfl rfl ?_
      refine er_k (pc' := 34) (nI 1) rfl rfl rfl ?_
      refine er_cm_ne (pc' := 37) rfl rfl (fun h34 => ?_) (fun h34 => ?_)
      · refine er_loc (pc' := 68) rfl rfl rfl ?_
        refine er_k (pc' := 69) (nI 2) rfl rfl rfl ?_
        refine er_cm_ne (pc' := 72) rfl rfl (fun h69 => ?_) (fun h69 => ?_)
        · refine er_loc (pc' := 102) rfl rfl rfl ?_
          refine er_k (pc' := 103) (nI 1) rfl rfl rfl ?_
          refine er_cIz (pc' := 106) (rest := []) 11 rfl rfl rfl rfl rfl rfl (l_error _ _ _ 1 (by decide)) ?_
          intro Z9
          refine er_iret rfl rfl ?_
          (repeat' split) <;> first | exact RI_of rfl rfl | (exfalso; simp_all; done)
        · refine er_loc (pc' := 73) rfl rfl rfl ?_
          refine er_k (pc' := 74) (nI 0) rfl rfl rfl ?_
          refine er_ldc (pc' := 76) (99999) rfl rfl rfl rfl rfl ?_
          refine er_cSi (pc' := 79) (rest := []) rfl rfl rfl (l_within _ _ _ _ _) ?_
          refine er_if_eqb (pc' := 82) rfl rfl (fun h79 => ?_) (fun h79 => ?_)
          · refine er_loc (pc' := 102) rfl rfl rfl ?_
            refine er_k (pc' := 103) (nI 1) rfl rfl rfl ?_
            refine er_cIz (pc' := 106) (rest := []) 11 rfl rfl rfl rfl rfl rfl (l_error _ _ _ 1 (by decide)) ?_
            intro Z9
            refine er_iret rfl rfl ?_
            (repeat' split) <;> first | exact RI_of rfl rfl | (exfalso; simp_all; done)
          · refine er_loc (pc' := 83) rfl rfl rfl ?_
            refine er_gf (pc' := 86) (_) rfl rfl rfl rfl rfl ?_
            refine er_gf (pc' := 89) (_) rfl rfl rfl rfl rfl ?_
            refine er_loc (pc' := 90) (L' := [(3, _), (0, _), (1, _), (2, _)]) rfl rfl rfl ?_
            refine er_loc (pc' := 91) rfl rfl rfl ?_
            refine er_gf (pc' := 94) (_) rfl rfl rfl rfl rfl ?_
            refine er_loc (pc' := 95) rfl rfl rfl ?_
            refine er_pfIX (pc' := 98) 10 rfl rfl rfl rfl rfl rfl ?_
            refine er_goto rfl ?_
            refine er_loc (pc' := 108) rfl rfl rfl ?_
            refine er_iret rfl rfl ?_
            (repeat' split) <;> first | exact RI_of rfl rfl | (exfalso; simp_all; done)
      · refine er_loc (pc' := 38) rfl rfl rfl ?_
        refine er_k (pc' := 39) (nI 0) rfl rfl rfl ?_
        refine er_k (pc' := 42) (nI 999) rfl rfl rfl ?_
        refine er_cSi (pc' := 45) (rest := []) rfl rfl rfl (l_within _ _ _ _ _) ?_
        refine er_if_eqb (pc' := 48) rfl rfl (fun h45 => ?_) (fun h45 => ?_)
        · refine er_loc (pc' := 68) rfl rfl rfl ?_
          refine er_k (pc' := 69) (nI 2) rfl rfl rfl ?_
          refine er_cm_ne (pc' := 72) rfl rfl (fun h69 => ?_) (fun h69 => ?_)
          · refine er_loc (pc' := 102) rfl rfl rfl ?_
            refine er_k (pc' := 103) (nI 1) rfl rfl rfl ?_
            refine er_cIz (pc' := 106) (rest := []) 11 rfl rfl rfl rfl rfl rfl (l_error _ _ _ 1 (by decide)) ?_
            intro Z9
            refine er_iret rfl rfl ?_
            (repeat' split) <;> first | exact RI_of rfl rfl | (exfalso; simp_all; done)
          · refine er_loc (pc' := 73) rfl rfl rfl ?_
            refine er_k (pc' := 74) (nI 0) rfl rfl rfl ?_
            refine er_ldc (pc' := 76) (99999) rfl rfl rfl rfl rfl ?_
            refine er_cSi (pc' := 79) (rest := []) rfl rfl rfl (l_within _ _ _ _ _) ?_
            refine er_if_eqb (pc' := 82) rfl rfl (fun h79 => ?_) (fun h79 => ?_)
            · refine er_loc (pc' := 102) rfl rfl rfl ?_
              refine er_k (pc' := 103) (nI 1) rfl rfl rfl ?_
              refine er_cIz (pc' := 106) (rest := []) 11 rfl rfl rfl rfl rfl rfl (l_error _ _ _ 1 (by decide)) ?_
              intro Z9
              refine er_iret rfl rfl ?_
              (repeat' split) <;> first | exact RI_of rfl rfl | (exfalso; simp_all; done)
            · refine er_loc (pc' := 83) rfl rfl rfl ?_
              refine er_gf (pc' := 86) (_) rfl rfl rfl rfl rfl ?_
              refine er_gf (pc' := 89) (_) rfl rfl rfl rfl rfl ?_
              refine er_loc (pc' := 90) (L' := [(3, _), (0, _), (1, _), (2, _)]) rfl rfl rfl ?_
              refine er_loc (pc' := 91) rfl rfl rfl ?_
              refine er_gf (pc' := 94) (_) rfl rfl rfl rfl rfl ?_
              refine er_loc (pc' := 95) rfl rfl rfl ?_
              refine er_pfIX (pc' := 98) 10 rfl rfl rfl rfl rfl rfl ?_
              refine er_goto rfl ?_
              refine er_loc (pc' := 108) rfl rfl rfl ?_
              refine er_iret rfl rfl ?_
              (repeat' split) <;> first | exact RI_of rfl rfl | (exfalso; simp_all; done)
        · refine er_loc (pc' := 49) rfl rfl rfl ?_
          refine er_gf (pc' := 52) (_) rfl rfl rfl rfl rfl ?_
          refine er_gf (pc' := 55) (_) rfl rfl rfl rfl rfl ?_
          refine er_loc (pc' := 56) (L' := [(3, _), (0, _), (1, _), (2, _)]) rfl rfl rfl ?_
          refine er_loc (pc' := 57) rfl rfl rfl ?_
          refine er_gf (pc' := 60) (_) rfl rfl rfl rfl rfl ?_
          refine er_loc (pc' := 61) rfl rfl rfl ?_
          refine er_pfIX (pc' := 64) 9 rfl rfl rfl rfl rfl rfl ?_
          refine er_goto rfl ?_
          refine er_loc (pc' := 108) rfl rfl rfl ?_
          refine er_iret rfl rfl ?_
          (repeat' split) <;> first | exact RI_of rfl rfl | (exfalso; simp_all; done)
    · refine er_loc (pc' := 14) rfl rfl rfl ?_
      refine er_gf (pc' := 17) (_) rfl rfl rfl rfl rfl ?_
      refine er_gf (pc' := 20) (_) rfl rfl rfl rfl rfl ?_
      refine er_loc (pc' := 21) (L' := [(3, _), (0, _), (1, _), (2, _)]) rfl rfl rfl ?_
      refine er_loc (pc' := 22) rfl rfl rfl ?_
      refine er_gf (pc' := 25) (_) rfl rfl rfl rfl rfl ?_
      refine er_loc (pc' := 26) rfl rfl rfl ?_
      refine er_pfIX (pc' := 29) 8 rfl rfl rfl rfl rfl rfl ?_
      refine er_goto rfl ?_
      refine er_loc (pc' := 108) rfl rfl rfl ?_
      refine er_iret rfl rfl ?_
      (repeat' split) <;> first | exact RI_of rfl rfl | (exfalso; simp_all; done)
set_option maxRecDepth 100000 in
set_option maxHeartbeats 4000000 in
theorem l_become_no (d : Nat) (X Z : Nat → Nat → Int32) (s km : Int32) (hs : xHas X s = false) : EC (d + 3) 84 [.ref 0, .int s, .int km] (Wd X Z) (RI (sErr 1) (xErr X 1)) := by
  refine er_enter (L := [(0, _), (1, _), (2, _)]) rfl rfl rfl ?_
  refine er_loc (pc' := 1) rfl rfl rfl ?_
  refine er_gf (pc' := 4) (_) rfl rfl rfl rfl rfl ?_
  refine er_loc (pc' := 5) rfl rfl rfl ?_
  refine er_cIi (pc' := 8) (rest := []) 7 rfl rfl rfl rfl rfl rfl (l_has_no _ _ _ j9 _ hs) ?_
  refine er_if_eqT rfl (by decide +kernel) ?_
  refine er_loc (pc' := 22) rfl rfl rfl ?_
  refine er_k (pc' := 23) (nI 1) rfl rfl rfl ?_
  refine er_cIz (pc' := 26) (rest := []) 11 rfl rfl rfl rfl rfl rfl (l_error _ _ _ 1 (by decide)) ?_
  intro Z9
  refine er_iret rfl rfl ?_
  exact RI_of rfl rfl
set_option maxRecDepth 100000 in
set_option maxHeartbeats 4000000 in
theorem l_become (d : Nat) (X Z : Nat → Nat → Int32) {T : Nat} (hI : IJ T (jx X 9)) {k : Nat} (hk : k < jn (jx X 9)) (km : Int32) : EC (d + 3) 84 [.ref 0, .int (nI k), .int km] (Wd X Z) (fun r => if sIn km (nI 0) (nI 69) = true then RI (jx X 9 1 k) (ud (ud X (9 + 1) k (km / nI 10)) (9 + 2) k (km - km / nI 10 * nI 10)) r else RI (sErr 1) (xErr X 1) r) := by
  refine er_enter (L := [(0, _), (1, _), (2, _)]) rfl rfl rfl ?_
  have h8 := jn8 hI
  have hk8 : k < 8 := by omega
  refine er_loc (pc' := 1) rfl rfl rfl ?_
  refine er_gf (pc' := 4) (_) rfl rfl rfl rfl rfl ?_
  refine er_loc (pc' := 5) rfl rfl rfl ?_
  refine er_cIi (pc' := 8) (rest := []) 7 rfl rfl rfl rfl rfl rfl (l_has_t _ j9 _ _ hI hk) ?_
  refine er_if_eqF (pc' := 11) rfl (by decide +kernel) rfl ?_
  refine er_loc (pc' := 12) rfl rfl rfl ?_
  refine er_k (pc' := 13) (nI 0) rfl rfl rfl ?_
  refine er_k (pc' := 15) (nI 69) rfl rfl rfl ?_
  refine er_cSi (pc' := 18) (rest := []) rfl rfl rfl (l_within _ _ _ _ _) ?_
  refine er_if_neb (pc' := 21) rfl rfl (fun h18 => ?_) (fun h18 => ?_)
  · refine er_loc (pc' := 28) rfl rfl rfl ?_
    refine er_gf (pc' := 31) (_) rfl rfl rfl rfl rfl ?_
    refine er_gf (pc' := 34) (_) rfl rfl rfl rfl rfl ?_
    refine er_loc (pc' := 35) rfl rfl rfl ?_
    refine er_ia (pc' := 36) (k) rfl rfl rfl rfl (by omega) rfl rfl ?_
    refine er_loc (pc' := 37) (L' := [(3, _), (0, _), (1, _), (2, _)]) rfl rfl rfl ?_
    refine er_loc (pc' := 38) rfl rfl rfl ?_
    refine er_gf (pc' := 41) (_) rfl rfl rfl rfl rfl ?_
    refine er_gf (pc' := 44) (_) rfl rfl rfl rfl rfl ?_
    refine er_loc (pc' := 45) rfl rfl rfl ?_
    refine er_loc (pc' := 46) rfl rfl rfl ?_
    refine er_k (pc' := 48) (nI 10) rfl rfl rfl ?_
    refine er_idiv (pc' := 49) rfl rfl (by decide) ?_
    refine er_isX (pc' := 50) (k) rfl rfl (fun _ => rfl) rfl hk8 rfl rfl ?_
    refine er_loc (pc' := 51) rfl rfl rfl ?_
    refine er_gf (pc' := 54) (_) rfl rfl rfl rfl rfl ?_
    refine er_gf (pc' := 57) (_) rfl rfl rfl rfl rfl ?_
    refine er_loc (pc' := 58) rfl rfl rfl ?_
    refine er_loc (pc' := 59) rfl rfl rfl ?_
    refine er_k (pc' := 61) (nI 10) rfl rfl rfl ?_
    refine er_irem (pc' := 62) rfl rfl (by decide) ?_
    refine er_isX (pc' := 63) (k) rfl rfl (fun _ => rfl) rfl hk8 rfl rfl ?_
    refine er_loc (pc' := 64) rfl rfl rfl ?_
    refine er_iret rfl rfl ?_
    rw [if_pos h18]
    exact RI_of (jx1 hk8).symm rfl
  · refine er_loc (pc' := 22) rfl rfl rfl ?_
    refine er_k (pc' := 23) (nI 1) rfl rfl rfl ?_
    refine er_cIz (pc' := 26) (rest := []) 11 rfl rfl rfl rfl rfl rfl (l_error _ _ _ 1 (by decide)) ?_
    intro Z9
    refine er_iret rfl rfl ?_
    rw [if_neg (by rw [h18]; decide)]
    exact RI_of rfl rfl
def abv (q : Nat) : Int32 := if q = 4 then 1 else if q = 5 then 2 else if q = 6 then 3 else 0
def sIsOf (q : Nat) (w : Int32) : Bool := decide (nI q = w) || (decide (abv q = w) || decide (w = 0))
set_option maxRecDepth 100000 in
set_option maxHeartbeats 4000000 in
theorem l_isOf (d : Nat) (q : Nat) (w : Int32) (hq : q < 7) (W : ab_W) : EC (d + 2) 86 [.int (nI q), .int w] W (PI (bI (sIsOf q w)) W) := by
  rcases lt7 hq with rfl | rfl | rfl | rfl | rfl | rfl | rfl
  · refine er_enter (L := [(0, _), (1, _)]) rfl rfl rfl ?_
    refine er_loc (pc' := 1) rfl rfl rfl ?_
    refine er_k (pc' := 2) (nI 0) rfl rfl rfl ?_
    refine er_heap (pc' := 5) (st' := [.ref 1000000, _, _]) rfl rfl rfl ?_
    refine er_heap (pc' := 6) (st' := [.int (nI 7), _, _]) rfl rfl rfl ?_
    refine er_k (pc' := 7) (nI 1) rfl rfl rfl ?_
    refine er_isub (pc' := 8) rfl rfl ?_
    refine er_cSi (pc' := 11) (rest := []) rfl rfl rfl (l_within _ _ _ _ _) ?_
    rw [show nI 7 - nI 1 = nI 6 from by decide +kernel, sIn_t (by omega) (by omega) (by omega)]
    refine er_if_neT rfl (by decide +kernel) ?_
    refine er_loc (pc' := 17) rfl rfl rfl ?_
    refine er_loc (pc' := 18) rfl rfl rfl ?_
    refine er_cm_eq (pc' := 21) rfl rfl (fun h18 => ?_) (fun h18 => ?_)
    · refine er_k (pc' := 35) (nI 1) rfl rfl rfl ?_
      refine er_goto rfl ?_
      refine er_ret _ rfl rfl ?_
      exact PI_of (bI_eq1 (by unfold sIsOf; simp only [*]; simp))
    · refine er_heap (pc' := 24) (st' := [.ref 1000000]) rfl rfl rfl ?_
      refine er_loc (pc' := 25) rfl rfl rfl ?_
      refine er_heap (st' := [.int (abv 0)]) rfl rfl rfl ?_
      refine er_loc (pc' := 27) rfl rfl rfl ?_
      refine er_cm_eq (pc' := 30) rfl rfl (fun h27 => ?_) (fun h27 => ?_)
      · refine er_k (pc' := 35) (nI 1) rfl rfl rfl ?_
        refine er_goto rfl ?_
        refine er_ret _ rfl rfl ?_
        exact PI_of (bI_eq1 (by unfold sIsOf; simp only [*]; simp))
      · refine er_loc (pc' := 31) rfl rfl rfl ?_
        refine er_if_ne (pc' := 34) rfl rfl (fun h31 => ?_) (fun h31 => ?_)
        · refine er_k (pc' := 39) (nI 0) rfl rfl rfl ?_
          refine er_ret _ rfl rfl ?_
          exact PI_of (bI_eq0 (by unfold sIsOf; simp only [*]; simp))
        · refine er_k (pc' := 35) (nI 1) rfl rfl rfl ?_
          refine er_goto rfl ?_
          refine er_ret _ rfl rfl ?_
          exact PI_of (bI_eq1 (by unfold sIsOf; simp only [*]; simp))
  · refine er_enter (L := [(0, _), (1, _)]) rfl rfl rfl ?_
    refine er_loc (pc' := 1) rfl rfl rfl ?_
    refine er_k (pc' := 2) (nI 0) rfl rfl rfl ?_
    refine er_heap (pc' := 5) (st' := [.ref 1000000, _, _]) rfl rfl rfl ?_
    refine er_heap (pc' := 6) (st' := [.int (nI 7), _, _]) rfl rfl rfl ?_
    refine er_k (pc' := 7) (nI 1) rfl rfl rfl ?_
    refine er_isub (pc' := 8) rfl rfl ?_
    refine er_cSi (pc' := 11) (rest := []) rfl rfl rfl (l_within _ _ _ _ _) ?_
    rw [show nI 7 - nI 1 = nI 6 from by decide +kernel, sIn_t (by omega) (by omega) (by omega)]
    refine er_if_neT rfl (by decide +kernel) ?_
    refine er_loc (pc' := 17) rfl rfl rfl ?_
    refine er_loc (pc' := 18) rfl rfl rfl ?_
    refine er_cm_eq (pc' := 21) rfl rfl (fun h18 => ?_) (fun h18 => ?_)
    · refine er_k (pc' := 35) (nI 1) rfl rfl rfl ?_
      refine er_goto rfl ?_
      refine er_ret _ rfl rfl ?_
      exact PI_of (bI_eq1 (by unfold sIsOf; simp only [*]; simp))
    · refine er_heap (pc' := 24) (st' := [.ref 1000000]) rfl rfl rfl ?_
      refine er_loc (pc' := 25) rfl rfl rfl ?_
      refine er_heap (st' := [.int (abv 1)]) rfl rfl rfl ?_
      refine er_loc (pc' := 27) rfl rfl rfl ?_
      refine er_cm_eq (pc' := 30) rfl rfl (fun h27 => ?_) (fun h27 => ?_)
      · refine er_k (pc' := 35) (nI 1) rfl rfl rfl ?_
        refine er_goto rfl ?_
        refine er_ret _ rfl rfl ?_
        exact PI_of (bI_eq1 (by unfold sIsOf; simp only [*]; simp))
      · refine er_loc (pc' := 31) rfl rfl rfl ?_
        refine er_if_ne (pc' := 34) rfl rfl (fun h31 => ?_) (fun h31 => ?_)
        · refine er_k (pc' := 39) (nI 0) rfl rfl rfl ?_
          refine er_ret _ rfl rfl ?_
          exact PI_of (bI_eq0 (by unfold sIsOf; simp only [*]; simp))
        · refine er_k (pc' := 35) (nI 1) rfl rfl rfl ?_
          refine er_goto rfl ?_
          refine er_ret _ rfl rfl ?_
          exact PI_of (bI_eq1 (by unfold sIsOf; simp only [*]; simp))
  · refine er_enter (L := [(0, _), (1, _)]) rfl rfl rfl ?_
    refine er_loc (pc' := 1) rfl rfl rfl ?_
    refine er_k (pc' := 2) (nI 0) rfl rfl rfl ?_
    refine er_heap (pc' := 5) (st' := [.ref 1000000, _, _]) rfl rfl rfl ?_
    refine er_heap (pc' := 6) (st' := [.int (nI 7), _, _]) rfl rfl rfl ?_
    refine er_k (pc' := 7) (nI 1) rfl rfl rfl ?_
    refine er_isub (pc' := 8) rfl rfl ?_
    refine er_cSi (pc' := 11) (rest := []) rfl rfl rfl (l_within _ _ _ _ _) ?_
    rw [show nI 7 - nI 1 = nI 6 from by decide +kernel, sIn_t (by omega) (by omega) (by omega)]
    refine er_if_neT rfl (by decide +kernel) ?_
    refine er_loc (pc' := 17) rfl rfl rfl ?_
    refine er_loc (pc' := 18) rfl rfl rfl ?_
    refine er_cm_eq (pc' := 21) rfl rfl (fun h18 => ?_) (fun h18 => ?_)
    · refine er_k (pc' := 35) (nI 1) rfl rfl rfl ?_
      refine er_goto rfl ?_
      refine er_ret _ rfl rfl ?_
      exact PI_of (bI_eq1 (by unfold sIsOf; simp only [*]; simp))
    · refine er_heap (pc' := 24) (st' := [.ref 1000000]) rfl rfl rfl ?_
      refine er_loc (pc' := 25) rfl rfl rfl ?_
      refine er_heap (st' := [.int (abv 2)]) rfl rfl rfl ?_
      refine er_loc (pc' := 27) rfl rfl rfl ?_
      refine er_cm_eq (pc' := 30) rfl rfl (fun h27 => ?_) (fun h27 => ?_)
      · refine er_k (pc' := 35) (nI 1) rfl rfl rfl ?_
        refine er_goto rfl ?_
        refine er_ret _ rfl rfl ?_
        exact PI_of (bI_eq1 (by unfold sIsOf; simp only [*]; simp))
      · refine er_loc (pc' := 31) rfl rfl rfl ?_
        refine er_if_ne (pc' := 34) rfl rfl (fun h31 => ?_) (fun h31 => ?_)
        · refine er_k (pc' := 39) (nI 0) rfl rfl rfl ?_
          refine er_ret _ rfl rfl ?_
          exact PI_of (bI_eq0 (by unfold sIsOf; simp only [*]; simp))
        · refine er_k (pc' := 35) (nI 1) rfl rfl rfl ?_
          refine er_goto rfl ?_
          refine er_ret _ rfl rfl ?_
          exact PI_of (bI_eq1 (by unfold sIsOf; simp only [*]; simp))
  · refine er_enter (L := [(0, _), (1, _)]) rfl rfl rfl ?_
    refine er_loc (pc' := 1) rfl rfl rfl ?_
    refine er_k (pc' := 2) (nI 0) rfl rfl rfl ?_
    refine er_heap (pc' := 5) (st' := [.ref 1000000, _, _]) rfl rfl rfl ?_
    refine er_heap (pc' := 6) (st' := [.int (nI 7), _, _]) rfl rfl rfl ?_
    refine er_k (pc' := 7) (nI 1) rfl rfl rfl ?_
    refine er_isub (pc' := 8) rfl rfl ?_
    refine er_cSi (pc' := 11) (rest := []) rfl rfl rfl (l_within _ _ _ _ _) ?_
    rw [show nI 7 - nI 1 = nI 6 from by decide +kernel, sIn_t (by omega) (by omega) (by omega)]
    refine er_if_neT rfl (by decide +kernel) ?_
    refine er_loc (pc' := 17) rfl rfl rfl ?_
    refine er_loc (pc' := 18) rfl rfl rfl ?_
    refine er_cm_eq (pc' := 21) rfl rfl (fun h18 => ?_) (fun h18 => ?_)
    · refine er_k (pc' := 35) (nI 1) rfl rfl rfl ?_
      refine er_goto rfl ?_
      refine er_ret _ rfl rfl ?_
      exact PI_of (bI_eq1 (by unfold sIsOf; simp only [*]; simp))
    · refine er_heap (pc' := 24) (st' := [.ref 1000000]) rfl rfl rfl ?_
      refine er_loc (pc' := 25) rfl rfl rfl ?_
      refine er_heap (st' := [.int (abv 3)]) rfl rfl rfl ?_
      refine er_loc (pc' := 27) rfl rfl rfl ?_
      refine er_cm_eq (pc' := 30) rfl rfl (fun h27 => ?_) (fun h27 => ?_)
      · refine er_k (pc' := 35) (nI 1) rfl rfl rfl ?_
        refine er_goto rfl ?_
        refine er_ret _ rfl rfl ?_
        exact PI_of (bI_eq1 (by unfold sIsOf; simp only [*]; simp))
      · refine er_loc (pc' := 31) rfl rfl rfl ?_
        refine er_if_ne (pc' := 34) rfl rfl (fun h31 => ?_) (fun h31 => ?_)
        · refine er_k (pc' := 39) (nI 0) rfl rfl rfl ?_
          refine er_ret _ rfl rfl ?_
          exact PI_of (bI_eq0 (by unfold sIsOf; simp only [*]; simp))
        · refine er_k (pc' := 35) (nI 1) rfl rfl rfl ?_
          refine er_goto rfl ?_
          refine er_ret _ rfl rfl ?_
          exact PI_of (bI_eq1 (by unfold sIsOf; simp only [*]; simp))
  · refine er_enter (L := [(0, _), (1, _)]) rfl rfl rfl ?_
    refine er_loc (pc' := 1) rfl rfl rfl ?_
    refine er_k (pc' := 2) (nI 0) rfl rfl rfl ?_
    refine er_heap (pc' := 5) (st' := [.ref 1000000, _, _]) rfl rfl rfl ?_
    refine er_heap (pc' := 6) (st' := [.int (nI 7), _, _]) rfl rfl rfl ?_
    refine er_k (pc' := 7) (nI 1) rfl rfl rfl ?_
    refine er_isub (pc' := 8) rfl rfl ?_
    refine er_cSi (pc' := 11) (rest := []) rfl rfl rfl (l_within _ _ _ _ _) ?_
    rw [show nI 7 - nI 1 = nI 6 from by decide +kernel, sIn_t (by omega) (by omega) (by omega)]
    refine er_if_neT rfl (by decide +kernel) ?_
    refine er_loc (pc' := 17) rfl rfl rfl ?_
    refine er_loc (pc' := 18) rfl rfl rfl ?_
    refine er_cm_eq (pc' := 21) rfl rfl (fun h18 => ?_) (fun h18 => ?_)
    · refine er_k (pc' := 35) (nI 1) rfl rfl rfl ?_
      refine er_goto rfl ?_
      refine er_ret _ rfl rfl ?_
      exact PI_of (bI_eq1 (by unfold sIsOf; simp only [*]; simp))
    · refine er_heap (pc' := 24) (st' := [.ref 1000000]) rfl rfl rfl ?_
      refine er_loc (pc' := 25) rfl rfl rfl ?_
      refine er_heap (st' := [.int (abv 4)]) rfl rfl rfl ?_
      refine er_loc (pc' := 27) rfl rfl rfl ?_
      refine er_cm_eq (pc' := 30) rfl rfl (fun h27 => ?_) (fun h27 => ?_)
      · refine er_k (pc' := 35) (nI 1) rfl rfl rfl ?_
        refine er_goto rfl ?_
        refine er_ret _ rfl rfl ?_
        exact PI_of (bI_eq1 (by unfold sIsOf; simp only [*]; simp))
      · refine er_loc (pc' := 31) rfl rfl rfl ?_
        refine er_if_ne (pc' := 34) rfl rfl (fun h31 => ?_) (fun h31 => ?_)
        · refine er_k (pc' := 39) (nI 0) rfl rfl rfl ?_
          refine er_ret _ rfl rfl ?_
          exact PI_of (bI_eq0 (by unfold sIsOf; simp only [*]; simp))
        · refine er_k (pc' := 35) (nI 1) rfl rfl rfl ?_
          refine er_goto rfl ?_
          refine er_ret _ rfl rfl ?_
          exact PI_of (bI_eq1 (by unfold sIsOf; simp only [*]; simp))
  · refine er_enter (L := [(0, _), (1, _)]) rfl rfl rfl ?_
    refine er_loc (pc' := 1) rfl rfl rfl ?_
    refine er_k (pc' := 2) (nI 0) rfl rfl rfl ?_
    refine er_heap (pc' := 5) (st' := [.ref 1000000, _, _]) rfl rfl rfl ?_
    refine er_heap (pc' := 6) (st' := [.int (nI 7), _, _]) rfl rfl rfl ?_
    refine er_k (pc' := 7) (nI 1) rfl rfl rfl ?_
    refine er_isub (pc' := 8) rfl rfl ?_
    refine er_cSi (pc' := 11) (rest := []) rfl rfl rfl (l_within _ _ _ _ _) ?_
    rw [show nI 7 - nI 1 = nI 6 from by decide +kernel, sIn_t (by omega) (by omega) (by omega)]
    refine er_if_neT rfl (by decide +kernel) ?_
    refine er_loc (pc' := 17) rfl rfl rfl ?_
    refine er_loc (pc' := 18) rfl rfl rfl ?_
    refine er_cm_eq (pc' := 21) rfl rfl (fun h18 => ?_) (fun h18 => ?_)
    · refine er_k (pc' := 35) (nI 1) rfl rfl rfl ?_
      refine er_goto rfl ?_
      refine er_ret _ rfl rfl ?_
      exact PI_of (bI_eq1 (by unfold sIsOf; simp only [*]; simp))
    · refine er_heap (pc' := 24) (st' := [.ref 1000000]) rfl rfl rfl ?_
      refine er_loc (pc' := 25) rfl rfl rfl ?_
      refine er_heap (st' := [.int (abv 5)]) rfl rfl rfl ?_
      refine er_loc (pc' := 27) rfl rfl rfl ?_
      refine er_cm_eq (pc' := 30) rfl rfl (fun h27 => ?_) (fun h27 => ?_)
      · refine er_k (pc' := 35) (nI 1) rfl rfl rfl ?_
        refine er_goto rfl ?_
        refine er_ret _ rfl rfl ?_
        exact PI_of (bI_eq1 (by unfold sIsOf; simp only [*]; simp))
      · refine er_loc (pc' := 31) rfl rfl rfl ?_
        refine er_if_ne (pc' := 34) rfl rfl (fun h31 => ?_) (fun h31 => ?_)
        · refine er_k (pc' := 39) (nI 0) rfl rfl rfl ?_
          refine er_ret _ rfl rfl ?_
          exact PI_of (bI_eq0 (by unfold sIsOf; simp only [*]; simp))
        · refine er_k (pc' := 35) (nI 1) rfl rfl rfl ?_
          refine er_goto rfl ?_
          refine er_ret _ rfl rfl ?_
          exact PI_of (bI_eq1 (by unfold sIsOf; simp only [*]; simp))
  · refine er_enter (L := [(0, _), (1, _)]) rfl rfl rfl ?_
    refine er_loc (pc' := 1) rfl rfl rfl ?_
    refine er_k (pc' := 2) (nI 0) rfl rfl rfl ?_
    refine er_heap (pc' := 5) (st' := [.ref 1000000, _, _]) rfl rfl rfl ?_
    refine er_heap (pc' := 6) (st' := [.int (nI 7), _, _]) rfl rfl rfl ?_
    refine er_k (pc' := 7) (nI 1) rfl rfl rfl ?_
    refine er_isub (pc' := 8) rfl rfl ?_
    refine er_cSi (pc' := 11) (rest := []) rfl rfl rfl (l_within _ _ _ _ _) ?_
    rw [show nI 7 - nI 1 = nI 6 from by decide +kernel, sIn_t (by omega) (by omega) (by omega)]
    refine er_if_neT rfl (by decide +kernel) ?_
    refine er_loc (pc' := 17) rfl rfl rfl ?_
    refine er_loc (pc' := 18) rfl rfl rfl ?_
    refine er_cm_eq (pc' := 21) rfl rfl (fun h18 => ?_) (fun h18 => ?_)
    · refine er_k (pc' := 35) (nI 1) rfl rfl rfl ?_
      refine er_goto rfl ?_
      refine er_ret _ rfl rfl ?_
      exact PI_of (bI_eq1 (by unfold sIsOf; simp only [*]; simp))
    · refine er_heap (pc' := 24) (st' := [.ref 1000000]) rfl rfl rfl ?_
      refine er_loc (pc' := 25) rfl rfl rfl ?_
      refine er_heap (st' := [.int (abv 6)]) rfl rfl rfl ?_
      refine er_loc (pc' := 27) rfl rfl rfl ?_
      refine er_cm_eq (pc' := 30) rfl rfl (fun h27 => ?_) (fun h27 => ?_)
      · refine er_k (pc' := 35) (nI 1) rfl rfl rfl ?_
        refine er_goto rfl ?_
        refine er_ret _ rfl rfl ?_
        exact PI_of (bI_eq1 (by unfold sIsOf; simp only [*]; simp))
      · refine er_loc (pc' := 31) rfl rfl rfl ?_
        refine er_if_ne (pc' := 34) rfl rfl (fun h31 => ?_) (fun h31 => ?_)
        · refine er_k (pc' := 39) (nI 0) rfl rfl rfl ?_
          refine er_ret _ rfl rfl ?_
          exact PI_of (bI_eq0 (by unfold sIsOf; simp only [*]; simp))
        · refine er_k (pc' := 35) (nI 1) rfl rfl rfl ?_
          refine er_goto rfl ?_
          refine er_ret _ rfl rfl ?_
          exact PI_of (bI_eq1 (by unfold sIsOf; simp only [*]; simp))
set_option maxRecDepth 100000 in
set_option maxHeartbeats 4000000 in
theorem l_as_no (d : Nat) (X Z : Nat → Nat → Int32) (s w : Int32) (hs : xHas X s = false) : EC (d + 4) 85 [.ref 0, .int s, .int w] (Wd X Z) (RI (sErr 1) (xErr X 1)) := by
  refine er_enter (L := [(0, _), (1, _), (2, _)]) rfl rfl rfl ?_
  refine er_loc (pc' := 1) rfl rfl rfl ?_
  refine er_gf (pc' := 4) (_) rfl rfl rfl rfl rfl ?_
  refine er_loc (pc' := 5) rfl rfl rfl ?_
  refine er_cIi (pc' := 8) (rest := []) 7 rfl rfl rfl rfl rfl rfl (l_has_no _ _ _ j9 _ hs) ?_
  refine er_if_eqT rfl (by decide +kernel) ?_
  refine er_loc (pc' := 26) rfl rfl rfl ?_
  refine er_k (pc' := 27) (nI 1) rfl rfl rfl ?_
  refine er_cIz (pc' := 30) (rest := []) 11 rfl rfl rfl rfl rfl rfl (l_error _ _ _ 1 (by decide)) ?_
  intro Z9
  refine er_iret rfl rfl ?_
  exact RI_of rfl rfl
set_option maxRecDepth 100000 in
set_option maxHeartbeats 4000000 in
theorem l_as (d : Nat) (X Z : Nat → Nat → Int32) {T : Nat} (hI : IJ T (jx X 9)) {k : Nat} (hk : k < jn (jx X 9)) (w : Int32) : EC (d + 3) 85 [.ref 0, .int (nI k), .int w] (Wd X Z) (fun r => if sIn w (nI 0) (nI 6) = true then (if sIsOf (sKind (jx X 9) k) w = true then RI (jx X 9 2 k) X r else RI (sErr 5) (xErr X 5) r) else RI (sErr 1) (xErr X 1) r) := by
  refine er_enter (L := [(0, _), (1, _), (2, _)]) rfl rfl rfl ?_
  have h8 := jn8 hI
  have hk8 : k < 8 := by omega
  have hq := kind7 hI k
  refine er_loc (pc' := 1) rfl rfl rfl ?_
  refine er_gf (pc' := 4) (_) rfl rfl rfl rfl rfl ?_
  refine er_loc (pc' := 5) rfl rfl rfl ?_
  refine er_cIi (pc' := 8) (rest := []) 7 rfl rfl rfl rfl rfl rfl (l_has_t _ j9 _ _ hI hk) ?_
  refine er_if_eqF (pc' := 11) rfl (by decide +kernel) rfl ?_
  refine er_loc (pc' := 12) rfl rfl rfl ?_
  refine er_k (pc' := 13) (nI 0) rfl rfl rfl ?_
  refine er_heap (pc' := 16) (st' := [.ref 1000000, _, _]) rfl rfl rfl ?_
  refine er_heap (pc' := 17) (st' := [.int (nI 7), _, _]) rfl rfl rfl ?_
  refine er_k (pc' := 18) (nI 1) rfl rfl rfl ?_
  refine er_isub (pc' := 19) rfl rfl ?_
  refine er_cSi (pc' := 22) (rest := []) rfl rfl rfl (l_within _ _ _ _ _) ?_
  rw [show nI 7 - nI 1 = nI 6 from by decide +kernel]
  refine er_if_neb (pc' := 25) rfl rfl (fun h22 => ?_) (fun h22 => ?_)
  · refine er_loc (pc' := 32) rfl rfl rfl ?_
    refine er_gf (pc' := 35) (_) rfl rfl rfl rfl rfl ?_
    refine er_gf (pc' := 38) (_) rfl rfl rfl rfl rfl ?_
    refine er_loc (pc' := 39) rfl rfl rfl ?_
    refine er_ia (pc' := 40) (k) rfl rfl rfl rfl (by omega) rfl rfl ?_
    rw [show X 10 k = nI (sKind (jx X 9) k) from kindX (b := 9) hI hk8]
    refine er_loc (pc' := 41) rfl rfl rfl ?_
    refine er_cSi (pc' := 44) (rest := []) rfl rfl rfl (l_isOf _ _ _ hq _) ?_
    refine er_if_neb (pc' := 47) rfl rfl (fun h44 => ?_) (fun h44 => ?_)
    · refine er_loc (pc' := 54) rfl rfl rfl ?_
      refine er_gf (pc' := 57) (_) rfl rfl rfl rfl rfl ?_
      refine er_gf (pc' := 60) (_) rfl rfl rfl rfl rfl ?_
      refine er_loc (pc' := 61) rfl rfl rfl ?_
      refine er_ia (pc' := 62) (k) rfl rfl rfl rfl (by omega) rfl rfl ?_
      refine er_iret rfl rfl ?_
      rw [if_pos h22, if_pos h44]
      exact RI_of (jx2 hk8).symm rfl
    · refine er_loc (pc' := 48) rfl rfl rfl ?_
      refine er_k (pc' := 49) (nI 5) rfl rfl rfl ?_
      refine er_cIz (pc' := 52) (rest := []) 11 rfl rfl rfl rfl rfl rfl (l_error _ _ _ 5 (by decide)) ?_
      intro Z9
      refine er_iret rfl rfl ?_
      rw [if_pos h22, if_neg (by rw [h44]; decide)]
      exact RI_of rfl rfl
  · refine er_loc (pc' := 26) rfl rfl rfl ?_
    refine er_k (pc' := 27) (nI 1) rfl rfl rfl ?_
    refine er_cIz (pc' := 30) (rest := []) 11 rfl rfl rfl rfl rfl rfl (l_error _ _ _ 1 (by decide)) ?_
    intro Z9
    refine er_iret rfl rfl ?_
    rw [if_neg (by rw [h22]; decide)]
    exact RI_of rfl rfl
set_option maxRecDepth 100000 in
set_option maxHeartbeats 4000000 in
theorem l_law (d : Nat) (X Z : Nat → Nat → Int32) {T : Nat} (hI : IJ T (jx X 9)) (u p q r0 : Int32) : EC (d + 4) 90 [.ref 0, .int u, .int p, .int q, .int r0] (Wd X Z) (fun r => if sUse u = true then (if u = 0 then RI (sLastsBy (jx X 9) p q r0) X r else RI (sErrsBy (jx X 9) p q r0) X r) else RI (sErr 1) (xErr X 1) r) := by
  refine er_enter (L := [(0, _), (1, _), (2, _), (3, _), (4, _)]) rfl rfl rfl ?_
  refine er_loc (pc' := 1) rfl rfl rfl ?_
  refine er_cSi (pc' := 4) (rest := []) rfl rfl rfl (l_isUse _ _ _) ?_
  refine er_if_neb (pc' := 7) rfl rfl (fun h4 => ?_) (fun h4 => ?_)
  · refine er_loc (pc' := 14) rfl rfl rfl ?_
    refine er_if_ne (pc' := 17) rfl rfl (fun h14 => ?_) (fun h14 => ?_)
    · refine er_loc (pc' := 32) rfl rfl rfl ?_
      refine er_gf (pc' := 35) (_) rfl rfl rfl rfl rfl ?_
      refine er_loc (pc' := 36) rfl rfl rfl ?_
      refine er_loc (pc' := 37) rfl rfl rfl ?_
      refine er_loc (pc' := 39) rfl rfl rfl ?_
      refine er_cIz (pc' := 42) (rest := []) 7 rfl rfl rfl rfl rfl rfl (l_errsBy _ j9 _ _ hI _ _ _) ?_
      intro Z1
      refine er_iret rfl rfl ?_
      rw [if_pos h4]
      first | rw [if_pos h14] | rw [if_neg h14]
      exact RI_of rfl rfl
    · refine er_loc (pc' := 18) rfl rfl rfl ?_
      refine er_gf (pc' := 21) (_) rfl rfl rfl rfl rfl ?_
      refine er_loc (pc' := 22) rfl rfl rfl ?_
      refine er_loc (pc' := 23) rfl rfl rfl ?_
      refine er_loc (pc' := 25) rfl rfl rfl ?_
      refine er_cIz (pc' := 28) (rest := []) 7 rfl rfl rfl rfl rfl rfl (l_lastsBy _ j9 _ _ hI _ _ _) ?_
      intro Z1
      refine er_goto rfl ?_
      refine er_iret rfl rfl ?_
      rw [if_pos h4]
      first | rw [if_pos h14] | rw [if_neg h14]
      exact RI_of rfl rfl
  · refine er_loc (pc' := 8) rfl rfl rfl ?_
    refine er_k (pc' := 9) (nI 1) rfl rfl rfl ?_
    refine er_cIz (pc' := 12) (rest := []) 11 rfl rfl rfl rfl rfl rfl (l_error _ _ _ 1 (by decide)) ?_
    intro Z9
    refine er_iret rfl rfl ?_
    rw [if_neg (by rw [h4]; decide)]
    exact RI_of rfl rfl
set_option maxRecDepth 100000 in
set_option maxHeartbeats 4000000 in
theorem l_does_no (d : Nat) (X Z : Nat → Nat → Int32) (s : Int32) (hs : xHas X s = false) : EC (d + 3) 91 [.ref 0, .int s] (Wd X Z) (RI (sErr 1) (xErr X 1)) := by
  refine er_enter (L := [(0, _), (1, _)]) rfl rfl rfl ?_
  refine er_loc (pc' := 1) rfl rfl rfl ?_
  refine er_gf (pc' := 4) (_) rfl rfl rfl rfl rfl ?_
  refine er_loc (pc' := 5) rfl rfl rfl ?_
  refine er_cIi (pc' := 8) (rest := []) 7 rfl rfl rfl rfl rfl rfl (l_has_no _ _ _ j9 _ hs) ?_
  refine er_if_neF (pc' := 11) rfl (by decide +kernel) rfl ?_
  refine er_loc (pc' := 12) rfl rfl rfl ?_
  refine er_k (pc' := 13) (nI 1) rfl rfl rfl ?_
  refine er_cIz (pc' := 16) (rest := []) 11 rfl rfl rfl rfl rfl rfl (l_error _ _ _ 1 (by decide)) ?_
  intro Z9
  refine er_iret rfl rfl ?_
  exact RI_of rfl rfl
set_option maxRecDepth 100000 in
set_option maxHeartbeats 4000000 in
theorem l_undo_no (d : Nat) (X Z : Nat → Nat → Int32) (s : Int32) (hs : xHas X s = false) : EC (d + 3) 92 [.ref 0, .int s] (Wd X Z) (RI (sErr 1) (xErr X 1)) := by
  refine er_enter (L := [(0, _), (1, _)]) rfl rfl rfl ?_
  refine er_loc (pc' := 1) rfl rfl rfl ?_
  refine er_gf (pc' := 4) (_) rfl rfl rfl rfl rfl ?_
  refine er_loc (pc' := 5) rfl rfl rfl ?_
  refine er_cIi (pc' := 8) (rest := []) 7 rfl rfl rfl rfl rfl rfl (l_has_no _ _ _ j9 _ hs) ?_
  refine er_if_neF (pc' := 11) rfl (by decide +kernel) rfl ?_
  refine er_loc (pc' := 12) rfl rfl rfl ?_
  refine er_k (pc' := 13) (nI 1) rfl rfl rfl ?_
  refine er_cIz (pc' := 16) (rest := []) 11 rfl rfl rfl rfl rfl rfl (l_error _ _ _ 1 (by decide)) ?_
  intro Z9
  refine er_iret rfl rfl ?_
  exact RI_of rfl rfl
def sCan (J : Nat → Nat → Int32) (k : Nat) : Bool := sMayDo J k && !decide (99999 < J 0 10 + sLasts J k)
def sCanU (J : Nat → Nat → Int32) (k : Nat) : Bool := sMayUn J k && !decide (99999 < J 0 10 + sBack J k)
set_option maxRecDepth 100000 in
set_option maxHeartbeats 4000000 in
theorem l_does (d : Nat) (X Z : Nat → Nat → Int32) {T : Nat} (hI : IJ T (jx X 9)) {k : Nat} (hk : k < jn (jx X 9)) : EC (d + 7) 91 [.ref 0, .int (nI k)] (Wd X Z) (fun r => if sCan (jx X 9) k = true then RI (bI (sBit (jFin (jx X 9) k 0 7) (nI k))) (xFin X 9 k) r else RI (sErr 3) (xErr X 3) r) := by
  refine er_enter (L := [(0, _), (1, _)]) rfl rfl rfl ?_
  have h8 := jn8 hI
  have hk8 : k < 8 := by omega
  refine er_loc (pc' := 1) rfl rfl rfl ?_
  refine er_gf (pc' := 4) (_) rfl rfl rfl rfl rfl ?_
  refine er_loc (pc' := 5) rfl rfl rfl ?_
  refine er_cIi (pc' := 8) (rest := []) 7 rfl rfl rfl rfl rfl rfl (l_has_t _ j9 _ _ hI hk) ?_
  refine er_if_neT rfl (by decide +kernel) ?_
  refine er_loc (pc' := 18) rfl rfl rfl ?_
  refine er_gf (pc' := 21) (_) rfl rfl rfl rfl rfl ?_
  refine er_loc (pc' := 22) rfl rfl rfl ?_
  refine er_cIi (pc' := 25) (rest := []) 7 rfl rfl rfl rfl rfl rfl (l_mayBeDone _ j9 _ _ hI hk) ?_
  refine er_if_eqb (pc' := 28) rfl rfl (fun h25 => ?_) (fun h25 => ?_)
  · refine er_loc (pc' := 50) rfl rfl rfl ?_
    refine er_k (pc' := 51) (nI 3) rfl rfl rfl ?_
    refine er_cIz (pc' := 54) (rest := []) 11 rfl rfl rfl rfl rfl rfl (l_error _ _ _ 3 (by decide)) ?_
    intro Z9
    refine er_iret rfl rfl ?_
    have e : sCan (jx X 9) k = false := by
      unfold sCan; rw [show jx X 9 0 10 = X 9 10 from rfl]; simp [*]
    rw [if_neg (by rw [e]; decide)]
    exact RI_of rfl rfl
  · refine er_loc (pc' := 29) rfl rfl rfl ?_
    refine er_gf (pc' := 32) (_) rfl rfl rfl rfl rfl ?_
    refine er_gf (pc' := 35) (.int (X 9 10)) rfl rfl rfl rfl rfl ?_
    refine er_loc (pc' := 36) rfl rfl rfl ?_
    refine er_gf (pc' := 39) (_) rfl rfl rfl rfl rfl ?_
    refine er_loc (pc' := 40) rfl rfl rfl ?_
    refine er_cIz (pc' := 43) (rest := [_]) 7 rfl rfl rfl rfl rfl rfl (l_lasts _ j9 _ _ hI hk) ?_
    intro Z2
    refine er_iadd (pc' := 44) rfl rfl ?_
    refine er_ldc (pc' := 46) (99999) rfl rfl rfl rfl rfl ?_
    refine er_cm_le (pc' := 49) rfl rfl (fun h46 => ?_) (fun h46 => ?_)
    · refine er_loc (pc' := 56) rfl rfl rfl ?_
      refine er_gf (pc' := 59) (_) rfl rfl rfl rfl rfl ?_
      refine er_loc (pc' := 60) rfl rfl rfl ?_
      refine er_cIv (pc' := 63) (rest := []) 7 rfl rfl rfl rfl rfl rfl (l_finish _ j9 _ _ hI hk) ?_
      intro Z7
      refine er_loc (pc' := 64) rfl rfl rfl ?_
      refine er_gf (pc' := 67) (_) rfl rfl rfl rfl rfl ?_
      refine er_loc (pc' := 68) rfl rfl rfl ?_
      refine er_cIi (pc' := 71) (rest := []) 7 rfl rfl rfl rfl rfl rfl (l_isWrong _ j9 _ _ _) ?_
      refine er_if_eqb (pc' := 74) rfl rfl (fun h71 => ?_) (fun h71 => ?_)
      · refine er_k (pc' := 79) (nI 0) rfl rfl rfl ?_
        refine er_iret rfl rfl ?_
        have e : sCan (jx X 9) k = true := by
          unfold sCan; rw [show jx X 9 0 10 = X 9 10 from rfl]; simp [*]
        rw [if_pos e]
        refine RI_of ?_ rfl
        have e2 : jFin (jx X 9) k 0 7 = xFin X 9 k 9 7 := by rw [← jx_xFin hk8]; exact jx07
        rw [e2]
        exact bI_eq0 h71
      · refine er_k (pc' := 75) (nI 1) rfl rfl rfl ?_
        refine er_goto rfl ?_
        refine er_iret rfl rfl ?_
        have e : sCan (jx X 9) k = true := by
          unfold sCan; rw [show jx X 9 0 10 = X 9 10 from rfl]; simp [*]
        rw [if_pos e]
        refine RI_of ?_ rfl
        have e2 : jFin (jx X 9) k 0 7 = xFin X 9 k 9 7 := by rw [← jx_xFin hk8]; exact jx07
        rw [e2]
        exact bI_eq1 h71
    · refine er_loc (pc' := 50) rfl rfl rfl ?_
      refine er_k (pc' := 51) (nI 3) rfl rfl rfl ?_
      refine er_cIz (pc' := 54) (rest := []) 11 rfl rfl rfl rfl rfl rfl (l_error _ _ _ 3 (by decide)) ?_
      intro Z9
      refine er_iret rfl rfl ?_
      have e : sCan (jx X 9) k = false := by
        unfold sCan; rw [show jx X 9 0 10 = X 9 10 from rfl]; simp [*]
      rw [if_neg (by rw [e]; decide)]
      exact RI_of rfl rfl
set_option maxRecDepth 100000 in
set_option maxHeartbeats 4000000 in
theorem l_undo (d : Nat) (X Z : Nat → Nat → Int32) {T : Nat} (hI : IJ T (jx X 9)) {k : Nat} (hk : k < jn (jx X 9)) : EC (d + 7) 92 [.ref 0, .int (nI k)] (Wd X Z) (fun r => if sCanU (jx X 9) k = true then RI (jApart (jx X 9) k 0 9) (xApart X 9 k) r else RI (sErr 3) (xErr X 3) r) := by
  refine er_enter (L := [(0, _), (1, _)]) rfl rfl rfl ?_
  have h8 := jn8 hI
  have hk8 : k < 8 := by omega
  refine er_loc (pc' := 1) rfl rfl rfl ?_
  refine er_gf (pc' := 4) (_) rfl rfl rfl rfl rfl ?_
  refine er_loc (pc' := 5) rfl rfl rfl ?_
  refine er_cIi (pc' := 8) (rest := []) 7 rfl rfl rfl rfl rfl rfl (l_has_t _ j9 _ _ hI hk) ?_
  refine er_if_neT rfl (by decide +kernel) ?_
  refine er_loc (pc' := 18) rfl rfl rfl ?_
  refine er_gf (pc' := 21) (_) rfl rfl rfl rfl rfl ?_
  refine er_loc (pc' := 22) rfl rfl rfl ?_
  refine er_cIi (pc' := 25) (rest := []) 7 rfl rfl rfl rfl rfl rfl (l_mayBeUndone _ j9 _ _ hI hk) ?_
  refine er_if_eqb (pc' := 28) rfl rfl (fun h25 => ?_) (fun h25 => ?_)
  · refine er_loc (pc' := 50) rfl rfl rfl ?_
    refine er_k (pc' := 51) (nI 3) rfl rfl rfl ?_
    refine er_cIz (pc' := 54) (rest := []) 11 rfl rfl rfl rfl rfl rfl (l_error _ _ _ 3 (by decide)) ?_
    intro Z9
    refine er_iret rfl rfl ?_
    have e : sCanU (jx X 9) k = false := by
      unfold sCanU; rw [show jx X 9 0 10 = X 9 10 from rfl]; simp [*]
    rw [if_neg (by rw [e]; decide)]
    exact RI_of rfl rfl
  · refine er_loc (pc' := 29) rfl rfl rfl ?_
    refine er_gf (pc' := 32) (_) rfl rfl rfl rfl rfl ?_
    refine er_gf (pc' := 35) (.int (X 9 10)) rfl rfl rfl rfl rfl ?_
    refine er_loc (pc' := 36) rfl rfl rfl ?_
    refine er_gf (pc' := 39) (_) rfl rfl rfl rfl rfl ?_
    refine er_loc (pc' := 40) rfl rfl rfl ?_
    refine er_cIz (pc' := 43) (rest := [_]) 7 rfl rfl rfl rfl rfl rfl (l_takesBack _ j9 _ _ hI hk) ?_
    intro Z2
    refine er_iadd (pc' := 44) rfl rfl ?_
    refine er_ldc (pc' := 46) (99999) rfl rfl rfl rfl rfl ?_
    refine er_cm_le (pc' := 49) rfl rfl (fun h46 => ?_) (fun h46 => ?_)
    · refine er_loc (pc' := 56) rfl rfl rfl ?_
      refine er_gf (pc' := 59) (_) rfl rfl rfl rfl rfl ?_
      refine er_loc (pc' := 60) rfl rfl rfl ?_
      refine er_cIv (pc' := 63) (rest := []) 7 rfl rfl rfl rfl rfl rfl (l_takeApart _ j9 _ _ hI hk) ?_
      intro Z7
      refine er_loc (pc' := 64) rfl rfl rfl ?_
      refine er_gf (pc' := 67) (_) rfl rfl rfl rfl rfl ?_
      refine er_gf (pc' := 70) (_) rfl rfl rfl rfl rfl ?_
      refine er_iret rfl rfl ?_
      have e : sCanU (jx X 9) k = true := by
        unfold sCanU; rw [show jx X 9 0 10 = X 9 10 from rfl]; simp [*]
      rw [if_pos e]
      refine RI_of ?_ rfl
      have e2 : jApart (jx X 9) k 0 9 = xApart X 9 k 9 9 := by rw [← jx_xApart hk8]; exact jx09
      rw [e2]
    · refine er_loc (pc' := 50) rfl rfl rfl ?_
      refine er_k (pc' := 51) (nI 3) rfl rfl rfl ?_
      refine er_cIz (pc' := 54) (rest := []) 11 rfl rfl rfl rfl rfl rfl (l_error _ _ _ 3 (by decide)) ?_
      intro Z9
      refine er_iret rfl rfl ?_
      have e : sCanU (jx X 9) k = false := by
        unfold sCanU; rw [show jx X 9 0 10 = X 9 10 from rfl]; simp [*]
      rw [if_neg (by rw [e]; decide)]
      exact RI_of rfl rfl
set_option maxRecDepth 100000 in
set_option maxHeartbeats 4000000 in
theorem l_seed (d : Nat) (X Z : Nat → Nat → Int32) (v : Int32) : EC (d + 1) 109 [.ref 0, .int v] (Wd X Z) (RI (X 9 17) (ud X 9 17 v)) := by
  refine er_enter (L := [(0, _), (1, _)]) rfl rfl rfl ?_
  refine er_loc (pc' := 1) rfl rfl rfl ?_
  refine er_gf (pc' := 4) (_) rfl rfl rfl rfl rfl ?_
  refine er_gf (pc' := 7) (_) rfl rfl rfl rfl rfl ?_
  refine er_loc (pc' := 8) (L' := [(2, _), (0, _), (1, _)]) rfl rfl rfl ?_
  refine er_loc (pc' := 9) rfl rfl rfl ?_
  refine er_gf (pc' := 12) (_) rfl rfl rfl rfl rfl ?_
  refine er_loc (pc' := 13) rfl rfl rfl ?_
  refine er_pfIX (pc' := 16) 17 rfl rfl rfl rfl rfl rfl ?_
  refine er_loc (pc' := 17) rfl rfl rfl ?_
  refine er_iret rfl rfl ?_
  exact RI_of rfl rfl
set_option maxRecDepth 100000 in
set_option maxHeartbeats 4000000 in
theorem l_tell (d : Nat) (X Z : Nat → Nat → Int32) (v : Int32) (w : Nat) (hw : X 9 16 = nI w) (h20 : w ≤ 20) : EC (d + 3) 121 [.ref 0, .int v] (Wd X Z) (fun r => if w < 20 then RI (nI (w + 1)) (ud (ud X (9 + 12) w v) 9 16 (nI (w + 1))) r else RI (sErr 4) (xErr X 4) r) := by
  refine er_enter (L := [(0, _), (1, _)]) rfl rfl rfl ?_
  refine er_loc (pc' := 1) rfl rfl rfl ?_
  refine er_gf (pc' := 4) (_) rfl rfl rfl rfl rfl ?_
  refine er_gf (pc' := 7) (.int (X 9 16)) rfl rfl rfl rfl rfl ?_
  rw [hw]
  refine er_k (pc' := 9) (nI 20) rfl rfl rfl ?_
  refine er_cm_lt (pc' := 12) rfl rfl (fun h9 => ?_) (fun h9 => ?_)
  · have hlt : w < 20 := by
      rw [nI_ltI (by omega) (by omega)] at h9; exact h9
    refine er_loc (pc' := 19) rfl rfl rfl ?_
    refine er_gf (pc' := 22) (_) rfl rfl rfl rfl rfl ?_
    refine er_gf (pc' := 25) (_) rfl rfl rfl rfl rfl ?_
    refine er_loc (pc' := 26) rfl rfl rfl ?_
    refine er_gf (pc' := 29) (_) rfl rfl rfl rfl rfl ?_
    refine er_gf (pc' := 32) (.int (X 9 16)) rfl rfl rfl rfl rfl ?_
    rw [hw]
    refine er_loc (pc' := 33) rfl rfl rfl ?_
    refine er_isX (pc' := 34) (w) rfl rfl (fun _ => rfl) rfl (by omega) rfl rfl ?_
    refine er_loc (pc' := 35) rfl rfl rfl ?_
    refine er_gf (pc' := 38) (_) rfl rfl rfl rfl rfl ?_
    refine er_pure (pc' := 39) rfl rfl rfl ?_
    refine er_gf (pc' := 42) (.int (X 9 16)) rfl rfl rfl rfl rfl ?_
    rw [hw]
    refine er_k (pc' := 43) (nI 1) rfl rfl rfl ?_
    refine er_iadd (pc' := 44) rfl rfl ?_
    rw [nI_add]
    refine er_pfIX (pc' := 47) 16 rfl rfl rfl rfl rfl rfl ?_
    refine er_loc (pc' := 48) rfl rfl rfl ?_
    refine er_gf (pc' := 51) (_) rfl rfl rfl rfl rfl ?_
    refine er_gf (pc' := 54) (_) rfl rfl rfl rfl rfl ?_
    refine er_iret rfl rfl ?_
    rw [if_pos hlt]
    exact RI_of rfl rfl
  · have hlt : ¬ w < 20 := by
      rw [nI_ltI (by omega) (by omega)] at h9; exact h9
    refine er_loc (pc' := 13) rfl rfl rfl ?_
    refine er_k (pc' := 14) (nI 4) rfl rfl rfl ?_
    refine er_cIz (pc' := 17) (rest := []) 11 rfl rfl rfl rfl rfl rfl (l_error _ _ _ 4 (by decide)) ?_
    intro Z9
    refine er_iret rfl rfl ?_
    rw [if_neg hlt]
    exact RI_of rfl rfl
set_option maxRecDepth 100000 in
set_option maxHeartbeats 4000000 in
theorem l_told (d : Nat) (X Z : Nat → Nat → Int32) (k : Int32) : EC (d + 3) 124 [.ref 0, .int k] (Wd X Z) (fun r => if sIn k (nI 1) (nI 5) = true then RI (X 53 (nN k)) X r else RI (sErr 1) (xErr X 1) r) := by
  refine er_enter (L := [(0, _), (1, _)]) rfl rfl rfl ?_
  refine er_loc (pc' := 1) rfl rfl rfl ?_
  refine er_k (pc' := 2) (nI 1) rfl rfl rfl ?_
  refine er_k (pc' := 3) (nI 5) rfl rfl rfl ?_
  refine er_cSi (pc' := 6) (rest := []) rfl rfl rfl (l_within _ _ _ _ _) ?_
  refine er_if_eqb (pc' := 9) rfl rfl (fun h6 => ?_) (fun h6 => ?_)
  · refine er_loc (pc' := 19) rfl rfl rfl ?_
    refine er_k (pc' := 20) (nI 1) rfl rfl rfl ?_
    refine er_cIz (pc' := 23) (rest := []) 11 rfl rfl rfl rfl rfl rfl (l_error _ _ _ 1 (by decide)) ?_
    intro Z9
    refine er_iret rfl rfl ?_
    rw [if_neg (by rw [h6]; decide)]
    exact RI_of rfl rfl
  · obtain ⟨j, h1j, h5j, hj⟩ := sIn_ex (by omega) (by omega) h6
    have hj2 : nN k = j := by rw [hj]; exact nN_nI (by omega)
    have hkn : k = nI (nN k) := by rw [hj2, hj]
    refine er_loc (pc' := 10) rfl rfl rfl ?_
    refine er_gf (pc' := 13) (_) rfl rfl rfl rfl rfl ?_
    refine er_loc (pc' := 14) rfl rfl rfl ?_
    refine er_ia (pc' := 15) (nN k) rfl rfl rfl hkn (by omega) rfl rfl ?_
    refine er_goto rfl ?_
    refine er_iret rfl rfl ?_
    rw [if_pos h6]
    exact RI_of rfl rfl
def sCnt (J : Nat → Nat → Int32) (bg : Int32) (w : Int32) : Int32 :=
  if w = 0 then J 0 1 else if w = 1 then sPop (J 0 6) else if w = 2 then sPop (J 0 7) else if w = 3 then J 0 9 else if w = 4 then J 0 8 else if w = 5 then J 0 10 else if w = 6 then sTired J else if w = 7 then J 0 14 else if w = 8 then J 0 16 else if w = 9 then bg else J 0 17
set_option maxRecDepth 100000 in
set_option maxHeartbeats 4000000 in
theorem l_count (d : Nat) (X Z : Nat → Nat → Int32) (w : Int32) : EC (d + 3) 123 [.ref 0, .int w] (Wd X Z) (fun r => if sIn w (nI 0) (nI 10) = true then RI (sCnt (jx X 9) (X 51 1) w) X r else RI (sErr 1) (xErr X 1) r) := by
  refine er_enter (L := [(0, _), (1, _)]) rfl rfl rfl ?_
  refine er_loc (pc' := 1) rfl rfl rfl ?_
  refine er_sw (0) rfl rfl (fun s1_0 => ?_) (fun s1_0 => ?_)
  · refine er_loc (pc' := 61) rfl rfl rfl ?_
    refine er_gf (pc' := 64) (_) rfl rfl rfl rfl rfl ?_
    refine er_gf (pc' := 67) (_) rfl rfl rfl rfl rfl ?_
    refine er_iret rfl rfl ?_
    subst w
    rw [if_pos (by decide +kernel)]
    refine RI_of ?_ rfl
    unfold sCnt
    simp [jx01, jx06, jx07, jx08, jx09, jx010, jx014, jx016, jx017]
  refine er_sw (1) rfl rfl (fun s1_1 => ?_) (fun s1_1 => ?_)
  · refine er_loc (pc' := 69) rfl rfl rfl ?_
    refine er_gf (pc' := 72) (_) rfl rfl rfl rfl rfl ?_
    refine er_gf (pc' := 75) (_) rfl rfl rfl rfl rfl ?_
    refine er_cSi (pc' := 78) (rest := []) rfl rfl rfl (l_bitCount _ _ _) ?_
    refine er_iret rfl rfl ?_
    subst w
    rw [if_pos (by decide +kernel)]
    refine RI_of ?_ rfl
    unfold sCnt
    simp [jx01, jx06, jx07, jx08, jx09, jx010, jx014, jx016, jx017]
  refine er_sw (2) rfl rfl (fun s1_2 => ?_) (fun s1_2 => ?_)
  · refine er_loc (pc' := 80) rfl rfl rfl ?_
    refine er_gf (pc' := 83) (_) rfl rfl rfl rfl rfl ?_
    refine er_gf (pc' := 86) (_) rfl rfl rfl rfl rfl ?_
    refine er_cSi (pc' := 89) (rest := []) rfl rfl rfl (l_bitCount _ _ _) ?_
    refine er_iret rfl rfl ?_
    subst w
    rw [if_pos (by decide +kernel)]
    refine RI_of ?_ rfl
    unfold sCnt
    simp [jx01, jx06, jx07, jx08, jx09, jx010, jx014, jx016, jx017]
  refine er_sw (3) rfl rfl (fun s1_3 => ?_) (fun s1_3 => ?_)
  · refine er_loc (pc' := 91) rfl rfl rfl ?_
    refine er_gf (pc' := 94) (_) rfl rfl rfl rfl rfl ?_
    refine er_gf (pc' := 97) (_) rfl rfl rfl rfl rfl ?_
    refine er_iret rfl rfl ?_
    subst w
    rw [if_pos (by decide +kernel)]
    refine RI_of ?_ rfl
    unfold sCnt
    simp [jx01, jx06, jx07, jx08, jx09, jx010, jx014, jx016, jx017]
  refine er_sw (4) rfl rfl (fun s1_4 => ?_) (fun s1_4 => ?_)
  · refine er_loc (pc' := 99) rfl rfl rfl ?_
    refine er_gf (pc' := 102) (_) rfl rfl rfl rfl rfl ?_
    refine er_gf (pc' := 105) (_) rfl rfl rfl rfl rfl ?_
    refine er_iret rfl rfl ?_
    subst w
    rw [if_pos (by decide +kernel)]
    refine RI_of ?_ rfl
    unfold sCnt
    simp [jx01, jx06, jx07, jx08, jx09, jx010, jx014, jx016, jx017]
  refine er_sw (5) rfl rfl (fun s1_5 => ?_) (fun s1_5 => ?_)
  · refine er_loc (pc' := 107) rfl rfl rfl ?_
    refine er_gf (pc' := 110) (_) rfl rfl rfl rfl rfl ?_
    refine er_gf (pc' := 113) (_) rfl rfl rfl rfl rfl ?_
    refine er_iret rfl rfl ?_
    subst w
    rw [if_pos (by decide +kernel)]
    refine RI_of ?_ rfl
    unfold sCnt
    simp [jx01, jx06, jx07, jx08, jx09, jx010, jx014, jx016, jx017]
  refine er_sw (6) rfl rfl (fun s1_6 => ?_) (fun s1_6 => ?_)
  · refine er_loc (pc' := 115) rfl rfl rfl ?_
    refine er_gf (pc' := 118) (_) rfl rfl rfl rfl rfl ?_
    refine er_cIi (pc' := 121) (rest := []) 7 rfl rfl rfl rfl rfl rfl (l_tired _ j9 _ _) ?_
    refine er_iret rfl rfl ?_
    subst w
    rw [if_pos (by decide +kernel)]
    refine RI_of ?_ rfl
    unfold sCnt
    simp [jx01, jx06, jx07, jx08, jx09, jx010, jx014, jx016, jx017]
  refine er_sw (7) rfl rfl (fun s1_7 => ?_) (fun s1_7 => ?_)
  · refine er_loc (pc' := 123) rfl rfl rfl ?_
    refine er_gf (pc' := 126) (_) rfl rfl rfl rfl rfl ?_
    refine er_gf (pc' := 129) (_) rfl rfl rfl rfl rfl ?_
    refine er_iret rfl rfl ?_
    subst w
    rw [if_pos (by decide +kernel)]
    refine RI_of ?_ rfl
    unfold sCnt
    simp [jx01, jx06, jx07, jx08, jx09, jx010, jx014, jx016, jx017]
  refine er_sw (8) rfl rfl (fun s1_8 => ?_) (fun s1_8 => ?_)
  · refine er_loc (pc' := 131) rfl rfl rfl ?_
    refine er_gf (pc' := 134) (_) rfl rfl rfl rfl rfl ?_
    refine er_gf (pc' := 137) (_) rfl rfl rfl rfl rfl ?_
    refine er_iret rfl rfl ?_
    subst w
    rw [if_pos (by decide +kernel)]
    refine RI_of ?_ rfl
    unfold sCnt
    simp [jx01, jx06, jx07, jx08, jx09, jx010, jx014, jx016, jx017]
  refine er_sw (9) rfl rfl (fun s1_9 => ?_) (fun s1_9 => ?_)
  · refine er_loc (pc' := 139) rfl rfl rfl ?_
    refine er_gf (pc' := 142) (_) rfl rfl rfl rfl rfl ?_
    refine er_gf (pc' := 145) (_) rfl rfl rfl rfl rfl ?_
    refine er_iret rfl rfl ?_
    subst w
    rw [if_pos (by decide +kernel)]
    refine RI_of ?_ rfl
    unfold sCnt
    simp [jx01, jx06, jx07, jx08, jx09, jx010, jx014, jx016, jx017]
  refine er_sw (10) rfl rfl (fun s1_10 => ?_) (fun s1_10 => ?_)
  · refine er_loc (pc' := 147) rfl rfl rfl ?_
    refine er_gf (pc' := 150) (_) rfl rfl rfl rfl rfl ?_
    refine er_gf (pc' := 153) (_) rfl rfl rfl rfl rfl ?_
    refine er_iret rfl rfl ?_
    subst w
    rw [if_pos (by decide +kernel)]
    refine RI_of ?_ rfl
    unfold sCnt
    simp [jx01, jx06, jx07, jx08, jx09, jx010, jx014, jx016, jx017]
  refine er_tsD [0, 1, 2, 3, 4, 5, 6, 7, 8, 9, 10] rfl rfl rfl rfl (List.forall_mem_cons.mpr ⟨ne_toInt s1_0 rfl, List.forall_mem_cons.mpr ⟨ne_toInt s1_1 rfl, List.forall_mem_cons.mpr ⟨ne_toInt s1_2 rfl, List.forall_mem_cons.mpr ⟨ne_toInt s1_3 rfl, List.forall_mem_cons.mpr ⟨ne_toInt s1_4 rfl, List.forall_mem_cons.mpr ⟨ne_toInt s1_5 rfl, List.forall_mem_cons.mpr ⟨ne_toInt s1_6 rfl, List.forall_mem_cons.mpr ⟨ne_toInt s1_7 rfl, List.forall_mem_cons.mpr ⟨ne_toInt s1_8 rfl, List.forall_mem_cons.mpr ⟨ne_toInt s1_9 rfl, List.forall_mem_cons.mpr ⟨ne_toInt s1_10 rfl, fun _ h => absurd h List.not_mem_nil⟩⟩⟩⟩⟩⟩⟩⟩⟩⟩⟩) ?_
  refine er_loc (pc' := 155) rfl rfl rfl ?_
  refine er_k (pc' := 156) (nI 1) rfl rfl rfl ?_
  refine er_cIz (pc' := 159) (rest := []) 11 rfl rfl rfl rfl rfl rfl (l_error _ _ _ 1 (by decide)) ?_
  intro Z9
  refine er_iret rfl rfl ?_
  rw [sIn_no (by omega) (by omega) (by
    intro j _ hj e
    have : j = 0 ∨ j = 1 ∨ j = 2 ∨ j = 3 ∨ j = 4 ∨ j = 5 ∨ j = 6 ∨ j = 7 ∨ j = 8 ∨ j = 9 ∨ j = 10 := by omega
    rcases this with rfl | rfl | rfl | rfl | rfl | rfl | rfl | rfl | rfl | rfl | rfl
    · exact s1_0 e
    · exact s1_1 e
    · exact s1_2 e
    · exact s1_3 e
    · exact s1_4 e
    · exact s1_5 e
    · exact s1_6 e
    · exact s1_7 e
    · exact s1_8 e
    · exact s1_9 e
    · exact s1_10 e
  )]
  exact RI_of rfl rfl
set_option maxRecDepth 100000 in
set_option maxHeartbeats 4000000 in
theorem l_trace (d : Nat) (X Z : Nat → Nat → Int32) (i : Int32) (g : Nat) (hg : X 51 1 = nI g) (h40 : g ≤ 40) : EC (d + 3) 111 [.ref 0, .int i] (Wd X Z) (fun r => if sIn i (nI 0) (nI g - nI 1) = true then RI (X 52 (nN i)) X r else RI (sErr 2) (xErr X 2) r) := by
  refine er_enter (L := [(0, _), (1, _)]) rfl rfl rfl ?_
  refine er_loc (pc' := 1) rfl rfl rfl ?_
  refine er_k (pc' := 2) (nI 0) rfl rfl rfl ?_
  refine er_loc (pc' := 3) rfl rfl rfl ?_
  refine er_gf (pc' := 6) (_) rfl rfl rfl rfl rfl ?_
  refine er_gf (pc' := 9) (.int (X 51 1)) rfl rfl rfl rfl rfl ?_
  rw [hg]
  refine er_k (pc' := 10) (nI 1) rfl rfl rfl ?_
  refine er_isub (pc' := 11) rfl rfl ?_
  refine er_cSi (pc' := 14) (rest := []) rfl rfl rfl (l_within _ _ _ _ _) ?_
  refine er_if_eqb (pc' := 17) rfl rfl (fun h14 => ?_) (fun h14 => ?_)
  · refine er_loc (pc' := 30) rfl rfl rfl ?_
    refine er_k (pc' := 31) (nI 2) rfl rfl rfl ?_
    refine er_cIz (pc' := 34) (rest := []) 11 rfl rfl rfl rfl rfl rfl (l_error _ _ _ 2 (by decide)) ?_
    intro Z9
    refine er_iret rfl rfl ?_
    rw [if_neg (by rw [h14]; decide)]
    exact RI_of rfl rfl
  · have hg1 : 1 ≤ g := by
      rcases Nat.eq_zero_or_pos g with h | h
      · subst h
        rw [show nI 0 - nI 1 = (-1) from by decide +kernel] at h14
        unfold sIn at h14
        simp only [Bool.and_eq_true, Bool.not_eq_true', decide_eq_false_iff_not, Int32.lt_iff_toInt_lt] at h14
        have e0 : (nI 0).toInt = 0 := by decide +kernel
        have e1 : (-1 : Int32).toInt = -1 := by decide +kernel
        omega
      · exact h
    have h14b := h14
    rw [nI_sub hg1] at h14b
    obtain ⟨j, h1j, h5j, hj⟩ := sIn_ex (by omega) (by omega) h14b
    have hj2 : nN i = j := by rw [hj]; exact nN_nI (by omega)
    have hkn : i = nI (nN i) := by rw [hj2, hj]
    refine er_loc (pc' := 18) rfl rfl rfl ?_
    refine er_gf (pc' := 21) (_) rfl rfl rfl rfl rfl ?_
    refine er_gf (pc' := 24) (_) rfl rfl rfl rfl rfl ?_
    refine er_loc (pc' := 25) rfl rfl rfl ?_
    refine er_ia (pc' := 26) (nN i) rfl rfl rfl hkn (by omega) rfl rfl ?_
    refine er_goto rfl ?_
    refine er_iret rfl rfl ?_
    rw [if_pos h14]
    exact RI_of rfl rfl
set_option maxRecDepth 100000 in
set_option maxHeartbeats 4000000 in
theorem l_under_no (d : Nat) (X Z : Nat → Nat → Int32) (s : Int32) (hs : xHas X s = false) : EC (d + 3) 98 [.ref 0, .int s] (Wd X Z) (RI (sErr 1) (xErr X 1)) := by
  refine er_enter (L := [(0, _), (1, _)]) rfl rfl rfl ?_
  refine er_loc (pc' := 1) rfl rfl rfl ?_
  refine er_gf (pc' := 4) (_) rfl rfl rfl rfl rfl ?_
  refine er_loc (pc' := 5) rfl rfl rfl ?_
  refine er_cIi (pc' := 8) (rest := []) 7 rfl rfl rfl rfl rfl rfl (l_has_no _ _ _ j9 _ hs) ?_
  refine er_if_neF (pc' := 11) rfl (by decide +kernel) rfl ?_
  refine er_loc (pc' := 12) rfl rfl rfl ?_
  refine er_k (pc' := 13) (nI 1) rfl rfl rfl ?_
  refine er_cIz (pc' := 16) (rest := []) 11 rfl rfl rfl rfl rfl rfl (l_error _ _ _ 1 (by decide)) ?_
  intro Z9
  refine er_iret rfl rfl ?_
  exact RI_of rfl rfl
set_option maxRecDepth 100000 in
set_option maxHeartbeats 4000000 in
theorem l_under (d : Nat) (X Z : Nat → Nat → Int32) {T : Nat} (hI : IJ T (jx X 9)) {k : Nat} (hk : k < jn (jx X 9)) : EC (d + 4) 98 [.ref 0, .int (nI k)] (Wd X Z) (fun r => if sDone (jx X 9) k = true then RI (sRest (jx X 9) k (jn (jx X 9))) X r else RI (sErr 3) (xErr X 3) r) := by
  refine er_enter (L := [(0, _), (1, _)]) rfl rfl rfl ?_
  have h8 := jn8 hI
  have hk8 : k < 8 := by omega
  refine er_loc (pc' := 1) rfl rfl rfl ?_
  refine er_gf (pc' := 4) (_) rfl rfl rfl rfl rfl ?_
  refine er_loc (pc' := 5) rfl rfl rfl ?_
  refine er_cIi (pc' := 8) (rest := []) 7 rfl rfl rfl rfl rfl rfl (l_has_t _ j9 _ _ hI hk) ?_
  refine er_if_neT rfl (by decide +kernel) ?_
  refine er_loc (pc' := 18) rfl rfl rfl ?_
  refine er_gf (pc' := 21) (_) rfl rfl rfl rfl rfl ?_
  refine er_loc (pc' := 22) rfl rfl rfl ?_
  refine er_cIi (pc' := 25) (rest := []) 7 rfl rfl rfl rfl rfl rfl (l_isDone _ j9 _ _ _) ?_
  refine er_if_eqb (pc' := 28) rfl rfl (fun h25 => ?_) (fun h25 => ?_)
  · refine er_loc (pc' := 40) rfl rfl rfl ?_
    refine er_k (pc' := 41) (nI 3) rfl rfl rfl ?_
    refine er_cIz (pc' := 44) (rest := []) 11 rfl rfl rfl rfl rfl rfl (l_error _ _ _ 3 (by decide)) ?_
    intro Z9
    refine er_iret rfl rfl ?_
    rw [if_neg (by unfold sDone; rw [show jx X 9 0 6 = X 9 6 from rfl, h25]; decide)]
    exact RI_of rfl rfl
  · refine er_loc (pc' := 29) rfl rfl rfl ?_
    refine er_gf (pc' := 32) (_) rfl rfl rfl rfl rfl ?_
    refine er_loc (pc' := 33) rfl rfl rfl ?_
    refine er_cIi (pc' := 36) (rest := []) 7 rfl rfl rfl rfl rfl rfl (l_restingOn _ j9 _ _ hI hk) ?_
    refine er_goto rfl ?_
    refine er_iret rfl rfl ?_
    rw [if_pos (show sDone (jx X 9) k = true from h25)]
    exact RI_of rfl rfl
end
section
/-! HOW LONG at most; what a JOB holds stays so -/
theorem fin_le {m n : Nat} (h : n ≤ m) {p : Nat → Prop} (hp : ∀ i : Fin (m + 1), p i.val) : p n := hp ⟨n, by omega⟩
theorem isN.add {a b : Int32} {A B : Nat} (ha : isN a A) (hb : isN b B) (h : A + B < 2 ^ 31) : isN (a + b) (A + B) := by
  obtain ⟨n, h1, rfl⟩ := (isN_iff (by omega)).mp ha
  obtain ⟨m, h2, rfl⟩ := (isN_iff (by omega)).mp hb
  rw [nI_add]
  exact isN.of (by omega) h
theorem isN.sub {a b : Int32} {A : Nat} (ha : isN a A) (hA : A < 2 ^ 31) (hb : ∃ n, b = nI n ∧ n ≤ nN a) : isN (a - b) A := by
  obtain ⟨n, rfl, h2⟩ := hb
  obtain ⟨m, h1, rfl⟩ := (isN_iff hA).mp ha
  rw [nN_nI (by omega)] at h2
  rw [nI_sub h2]
  exact isN.of (by omega) hA
theorem isN.held {v : Int32} {a b : Nat} (hab : a ≤ b) (hb : b < 2 ^ 31) : isN (sHeld v (nI a) (nI b)) b := by
  unfold sHeld
  split
  · exact isN.of hab hb
  · rename_i h1
    split
    · exact isN.of (Nat.le_refl _) hb
    · rename_i h2
      have h3 : sIn v (nI a) (nI b) = true := by
        unfold sIn
        simp [h1, h2, ← Int32.not_lt]
      obtain ⟨j, _, h4, rfl⟩ := sIn_ex hb (by omega) h3
      exact isN.of h4 hb
theorem rem3 {m : Nat} (h : m ≤ 9) : isN (nI m - nI m / nI 3 * nI 3) 9 := by
  unfold isN
  exact fin_le (m := 9) (p := fun m => nI m - nI m / nI 3 * nI 3 = nI (nN (nI m - nI m / nI 3 * nI 3)) ∧ nN (nI m - nI m / nI 3 * nI 3) ≤ 9) h (by decide +kernel)
theorem div2 {m : Nat} (h : m ≤ 300) : isN (nI m / nI 2) 300 := by
  unfold isN
  exact fin_le (m := 300) (p := fun m => nI m / nI 2 = nI (nN (nI m / nI 2)) ∧ nN (nI m / nI 2) ≤ 300) h (by decide +kernel)
theorem lasting300 {q : Nat} {v h m s : Int32} (hv : isN v 99) (hm : isN m 9) (hs : isN s 9) : isN (sLasting q v h m s) 300 := by
  obtain ⟨v, hv1, rfl⟩ := (isN_iff (by omega)).mp hv
  obtain ⟨m, hm1, rfl⟩ := (isN_iff (by omega)).mp hm
  obtain ⟨s, hs1, rfl⟩ := (isN_iff (by omega)).mp hs
  have hheld : isN (if h = nI 1 then nI v * nI 2 else nI v) 198 := by
    split
    · rw [nI_mul]; exact isN.of (by omega) (by omega)
    · exact isN.of (by omega) (by omega)
  unfold sLasting
  split
  · exact isN.of (by omega) (by omega)
  · rw [nI_add]; exact isN.of (by omega) (by omega)
  · rw [nI_add]; exact isN.of (by omega) (by omega)
  · exact hheld.mono (by omega)
  · rw [nI_add]
    exact ((isN.of (show v + 1 ≤ 100 by omega) (by omega)).add (rem3 hm1) (by omega)).mono (by omega)
  · rw [nI_add, nI_add]; exact isN.of (by omega) (by omega)
  · exact (hheld.add hm (by omega)).mono (by omega)
section BND
variable {T : Nat} {J : Nat → Nat → Int32}
theorem lastsBy99 {s m t : Int32} : isN (sLastsBy J s m t) 99 := isN.held (by omega) (by omega)
theorem errsBy1 {m t k : Int32} : isN (sErrsBy J m t k) 1 := isN.held (by omega) (by omega)
theorem lasts300 (h : IJ T J) (k : Nat) : isN (sLasts J k) 300 := lasting300 lastsBy99 (h.m k) (h.sc k)
theorem back300 (h : IJ T J) (k : Nat) : isN (sBack J k) 300 := by
  unfold sBack sBackOf
  split
  · exact lasts300 h k
  · obtain ⟨m, h1, h2⟩ := (isN_iff (by omega)).mp (lasts300 h k)
    rw [h2]
    exact div2 h1
theorem mayDo_k {k : Nat} (h : sMayDo J k = true) : k < jn J ∧ sDone J k = false ∧ ¬ J 0 9 < J 3 k := by
  unfold sMayDo sReady at h
  simp only [Bool.and_eq_true, Bool.not_eq_true', decide_eq_true_eq, decide_eq_false_iff_not] at h
  exact ⟨h.1.1.1, h.1.1.2, h.1.2.2⟩
theorem mayUn_k {k : Nat} (h : sMayUn J k = true) : k < jn J ∧ sDone J k = true := by
  unfold sMayUn at h
  simp only [Bool.and_eq_true, Bool.not_eq_true', decide_eq_true_eq] at h
  exact ⟨h.1.1.1, h.1.1.2⟩
theorem bag_sub {g s : Int32} (hg : isN g 999) (hs : isN s 9) (h : ¬ g < s) : isN (g - s) 999 := by
  obtain ⟨a, h1, rfl⟩ := (isN_iff (by omega)).mp hg
  obtain ⟨b, h2, rfl⟩ := (isN_iff (by omega)).mp hs
  rw [nI_ltI (by omega) (by omega)] at h
  rw [nI_sub (by omega)]
  exact isN.of (by omega) (by omega)
theorem IJ.pass (h : IJ T J) (hT : T < 2000000000) {k : Nat} (hm : sMayDo J k = true) : IJ (T + 300) (jPass J k) := by
  obtain ⟨hk, -, hb⟩ := mayDo_k hm
  have h8 := jn8 h
  unfold jPass
  refine IJ.uDone (IJ.uBag (IJ.uMin h ?_) ?_) ?_
  · exact h.minute.add (lasts300 h k) (by omega)
  · exact bag_sub h.bag (h.sc k) hb
  · exact bt_with_lt hk h8 h.done
theorem mayDo_w {k : Nat} {v : Int32} : sMayDo (ud J 0 7 v) k = sMayDo J k := rfl
theorem IJ.fin (h : IJ T J) (hT : T < 2000000000) {k : Nat} (hm : sMayDo J k = true) : IJ (T + 300) (jFin J k) := by
  obtain ⟨hk, -, hb⟩ := mayDo_k hm
  have h8 := jn8 h
  exact IJ.pass (h.uWrong (bt_with_lt hk h8 h.wrong)) hT hm
theorem give999 {g s : Int32} (hg : isN g 999) (hs : isN s 9) : isN (sGive g s) 999 := by
  obtain ⟨a, h1, rfl⟩ := (isN_iff (by omega)).mp hg
  obtain ⟨b, h2, rfl⟩ := (isN_iff (by omega)).mp hs
  unfold sGive
  have e : ∃ c, c ≤ 9 ∧ (if nI 0 < nI b - nI 1 then nI b - nI 1 else nI 0) = nI c := by
    rcases Nat.eq_zero_or_pos b with rfl | hb
    · exact ⟨0, by omega, by decide +kernel⟩
    · rw [nI_sub hb]
      split
      · exact ⟨b - 1, by omega, rfl⟩
      · exact ⟨0, by omega, rfl⟩
  obtain ⟨c, hc, e⟩ := e
  rw [e, nI_add]
  split
  · rename_i hlt
    rw [nI_ltI (by omega) (by omega)] at hlt
    exact isN.of (by omega) (by omega)
  · exact isN.of (by omega) (by omega)
theorem IJ.apart (h : IJ T J) (hT : T < 2000000000) {k : Nat} (hm : sMayUn J k = true) : IJ (T + 300) (jApart J k) := by
  obtain ⟨hk, -⟩ := mayUn_k hm
  have h8 := jn8 h
  unfold jApart
  refine IJ.uWrong (IJ.uDone (IJ.uBag (IJ.uMin h ?_) ?_) ?_) ?_
  · exact h.minute.add (back300 h k) (by omega)
  · exact give999 h.bag (h.sc k)
  · exact bt_with_lt hk h8 h.done
  · exact bt_with_lt hk h8 h.wrong
theorem jn_pass {k : Nat} : jn (jPass J k) = jn J := rfl
theorem jn_fin {k : Nat} : jn (jFin J k) = jn J := rfl
theorem jn_apart {k : Nat} : jn (jApart J k) = jn J := rfl
theorem sFirst_some {J : Nat → Nat → Int32} : ∀ {m i k : Nat}, sFirst J m i = some k → sMayDo J k = true
  | 0, _, _, h => by cases h
  | m + 1, i, k, h => by
    unfold sFirst at h
    split at h
    · rename_i h1; cases h; exact h1
    · exact sFirst_some h
end BND
end
section
/-! THE FACE: loops over the STEPS -/
def sSetOf (p : Nat → Bool) : Nat → Int32
  | 0 => nI 0
  | i + 1 => sWith (sSetOf p i) (nI i) (p i)
def sLeft (J : Nat → Nat → Int32) : Nat → Int32
  | 0 => J 0 9
  | i + 1 => sLeft J i - (if sDone J i = true then nI 0 else J 3 i)
def sAny (p : Nat → Bool) (a : Nat) : Nat → Bool
  | 0 => false
  | i + 1 => sAny p a i || (decide (a ≤ i) && p i)
theorem sAny_low {p : Nat → Bool} {a : Nat} : ∀ {i : Nat}, i ≤ a → sAny p a i = false
  | 0, _ => rfl
  | i + 1, h => by
    unfold sAny
    rw [sAny_low (by omega), decide_eq_false (by omega)]
    rfl
def sPn (J : Nat → Nat → Int32) (w : Int32) (i : Nat) : Bool := if w = 0 then sMayDo J i else sMayUn J i
set_option maxRecDepth 100000 in
set_option maxHeartbeats 4000000 in
theorem l_next_loop (d : Nat) {X Z : Nat → Nat → Int32} {T : Nat} (hI : IJ T (jx X 9)) (w : Int32) : ∀ (m i : Nat) (x : Int32) (v : Int32), i + m = jn (jx X 9) → x = nI i → v = sSetOf (sPn (jx X 9) w) i → ER (d + 3) tb_m94 19 [(0, .ref 0), (1, .int w), (2, .int v), (3, .int x)] [] (Wd X Z) (PI (sSetOf (sPn (jx X 9) w) (jn (jx X 9))) (Wd X Z))
  | 0, i, x, v, hi, h0, h1 => by
    have h8 := jn8 hI
    have hi0 : i = jn (jx X 9) := by omega
    subst h0
    subst h1
    subst hi0
    refine er_loc (pc' := 20) rfl rfl rfl ?_
    refine er_loc (pc' := 21) rfl rfl rfl ?_
    refine er_gf (pc' := 24) (_) rfl rfl rfl rfl rfl ?_
    refine er_gf (pc' := 27) (.int (X 9 1)) rfl rfl rfl rfl rfl ?_
    rw [show X 9 1 = nI (jn (jx X 9)) from hI.n.1]
    refine er_cm_geT rfl (nI_nlt (by omega) (by omega)) ?_
    refine er_loc (pc' := 70) rfl rfl rfl ?_
    refine er_iret rfl rfl ?_
    exact PI_of rfl
  | m + 1, i, x, v, hi, h0, h1 => by
    have h8 := jn8 hI
    have hi8 : i < 8 := by omega
    subst h0
    subst h1
    refine er_loc (pc' := 20) rfl rfl rfl ?_
    refine er_loc (pc' := 21) rfl rfl rfl ?_
    refine er_gf (pc' := 24) (_) rfl rfl rfl rfl rfl ?_
    refine er_gf (pc' := 27) (.int (X 9 1)) rfl rfl rfl rfl rfl ?_
    rw [show X 9 1 = nI (jn (jx X 9)) from hI.n.1]
    refine er_cm_geF (pc' := 30) rfl (nI_lt (by omega) (by omega)) rfl ?_
    refine er_loc (pc' := 31) rfl rfl rfl ?_
    refine er_if_ne (pc' := 34) rfl rfl (fun h31 => ?_) (fun h31 => ?_)
    · refine er_loc (pc' := 46) rfl rfl rfl ?_
      refine er_gf (pc' := 49) (_) rfl rfl rfl rfl rfl ?_
      refine er_loc (pc' := 50) rfl rfl rfl ?_
      refine er_cIi (pc' := 53) (rest := []) 7 rfl rfl rfl rfl rfl rfl (l_mayBeUndone _ j9 _ _ hI (k := i) (by omega)) ?_
      refine er_loc (pc' := 55) (L' := [(4, _), (0, _), (1, _), (2, _), (3, _)]) rfl rfl rfl ?_
      refine er_loc (pc' := 56) rfl rfl rfl ?_
      refine er_loc (pc' := 57) rfl rfl rfl ?_
      refine er_loc (pc' := 59) rfl rfl rfl ?_
      refine er_cSi (pc' := 62) (rest := []) rfl rfl rfl (l_with _ _ _ _ _) ?_
      refine er_loc (pc' := 63) (L' := [(2, _), (4, _), (0, _), (1, _), (3, _)]) rfl rfl rfl ?_
      refine er_loc (L' := [(3, .int (_ + nI 1)), (2, _), (4, _), (0, _), (1, _)]) rfl rfl rfl ?_
      refine er_goto rfl ?_
      refine ER_loc [(0, _), (1, _), (2, _), (3, _)] rfl (List.forall_mem_cons.mpr ⟨rfl, List.forall_mem_cons.mpr ⟨rfl, List.forall_mem_cons.mpr ⟨rfl, List.forall_mem_cons.mpr ⟨rfl, fun _ h => absurd h List.not_mem_nil⟩⟩⟩⟩) rfl rfl ?_
      refine l_next_loop d hI w m (i + 1) _ _ (by omega) (nI_add i 1) ?_
      show _ = sWith _ _ (if _ then _ else _)
      first | rw [if_pos h31] | rw [if_neg h31]
    · refine er_loc (pc' := 35) rfl rfl rfl ?_
      refine er_gf (pc' := 38) (_) rfl rfl rfl rfl rfl ?_
      refine er_loc (pc' := 39) rfl rfl rfl ?_
      refine er_cIi (pc' := 42) (rest := []) 7 rfl rfl rfl rfl rfl rfl (l_mayBeDone _ j9 _ _ hI (k := i) (by omega)) ?_
      refine er_goto rfl ?_
      refine er_loc (pc' := 55) (L' := [(4, _), (0, _), (1, _), (2, _), (3, _)]) rfl rfl rfl ?_
      refine er_loc (pc' := 56) rfl rfl rfl ?_
      refine er_loc (pc' := 57) rfl rfl rfl ?_
      refine er_loc (pc' := 59) rfl rfl rfl ?_
      refine er_cSi (pc' := 62) (rest := []) rfl rfl rfl (l_with _ _ _ _ _) ?_
      refine er_loc (pc' := 63) (L' := [(2, _), (4, _), (0, _), (1, _), (3, _)]) rfl rfl rfl ?_
      refine er_loc (L' := [(3, .int (_ + nI 1)), (2, _), (4, _), (0, _), (1, _)]) rfl rfl rfl ?_
      refine er_goto rfl ?_
      refine ER_loc [(0, _), (1, _), (2, _), (3, _)] rfl (List.forall_mem_cons.mpr ⟨rfl, List.forall_mem_cons.mpr ⟨rfl, List.forall_mem_cons.mpr ⟨rfl, List.forall_mem_cons.mpr ⟨rfl, fun _ h => absurd h List.not_mem_nil⟩⟩⟩⟩) rfl rfl ?_
      refine l_next_loop d hI w m (i + 1) _ _ (by omega) (nI_add i 1) ?_
      show _ = sWith _ _ (if _ then _ else _)
      first | rw [if_pos h31] | rw [if_neg h31]
set_option maxRecDepth 100000 in
set_option maxHeartbeats 4000000 in
theorem l_next (d : Nat) (X Z : Nat → Nat → Int32) {T : Nat} (hI : IJ T (jx X 9)) (w : Int32) : EC (d + 4) 94 [.ref 0, .int w] (Wd X Z) (fun r => if sIn w (nI 0) (nI 1) = true then RI (sSetOf (sPn (jx X 9) w) (jn (jx X 9))) X r else RI (sErr 1) (xErr X 1) r) := by
  refine er_enter (L := [(0, _), (1, _)]) rfl rfl rfl ?_
  refine er_loc (pc' := 1) rfl rfl rfl ?_
  refine er_k (pc' := 2) (nI 0) rfl rfl rfl ?_
  refine er_k (pc' := 3) (nI 1) rfl rfl rfl ?_
  refine er_cSi (pc' := 6) (rest := []) rfl rfl rfl (l_within _ _ _ _ _) ?_
  refine er_if_neb (pc' := 9) rfl rfl (fun h6 => ?_) (fun h6 => ?_)
  · refine er_k (pc' := 16) (nI 0) rfl rfl rfl ?_
    refine er_loc (pc' := 17) (L' := [(2, _), (0, _), (1, _)]) rfl rfl rfl ?_
    refine er_k (pc' := 18) (nI 0) rfl rfl rfl ?_
    refine er_loc (pc' := 19) (L' := [(3, _), (2, _), (0, _), (1, _)]) rfl rfl rfl ?_
    refine ER_loc [(0, _), (1, _), (2, _), (3, _)] rfl (List.forall_mem_cons.mpr ⟨rfl, List.forall_mem_cons.mpr ⟨rfl, List.forall_mem_cons.mpr ⟨rfl, List.forall_mem_cons.mpr ⟨rfl, fun _ h => absurd h List.not_mem_nil⟩⟩⟩⟩) rfl rfl ?_
    refine ER.mono (l_next_loop (d := d) hI w (jn (jx X 9)) 0 _ _ (by omega) rfl rfl) ?_
    rintro r rfl
    rw [if_pos h6]
    exact ⟨Z, rfl⟩
  · refine er_loc (pc' := 10) rfl rfl rfl ?_
    refine er_k (pc' := 11) (nI 1) rfl rfl rfl ?_
    refine er_cIz (pc' := 14) (rest := []) 11 rfl rfl rfl rfl rfl rfl (l_error _ _ _ 1 (by decide)) ?_
    intro Z9
    refine er_iret rfl rfl ?_
    rw [if_neg (by rw [h6]; decide)]
    exact RI_of rfl rfl
set_option maxRecDepth 100000 in
set_option maxHeartbeats 4000000 in
theorem l_left_loop (d : Nat) {X Z : Nat → Nat → Int32} {T : Nat} (hI : IJ T (jx X 9)) : ∀ (m i : Nat) (x : Int32) (v : Int32), i + m = jn (jx X 9) → x = nI i → v = sLeft (jx X 9) i → ER (d + 2) tb_m102 10 [(0, .ref 0), (1, .int v), (2, .int x)] [] (Wd X Z) (PI (sLeft (jx X 9) (jn (jx X 9))) (Wd X Z))
  | 0, i, x, v, hi, h0, h1 => by
    have h8 := jn8 hI
    have hi0 : i = jn (jx X 9) := by omega
    subst h0
    subst h1
    subst hi0
    refine er_loc (pc' := 11) rfl rfl rfl ?_
    refine er_loc (pc' := 12) rfl rfl rfl ?_
    refine er_gf (pc' := 15) (_) rfl rfl rfl rfl rfl ?_
    refine er_gf (pc' := 18) (.int (X 9 1)) rfl rfl rfl rfl rfl ?_
    rw [show X 9 1 = nI (jn (jx X 9)) from hI.n.1]
    refine er_cm_geT rfl (nI_nlt (by omega) (by omega)) ?_
    refine er_loc (pc' := 55) rfl rfl rfl ?_
    refine er_iret rfl rfl ?_
    exact PI_of rfl
  | m + 1, i, x, v, hi, h0, h1 => by
    have h8 := jn8 hI
    have hi8 : i < 8 := by omega
    subst h0
    subst h1
    refine er_loc (pc' := 11) rfl rfl rfl ?_
    refine er_loc (pc' := 12) rfl rfl rfl ?_
    refine er_gf (pc' := 15) (_) rfl rfl rfl rfl rfl ?_
    refine er_gf (pc' := 18) (.int (X 9 1)) rfl rfl rfl rfl rfl ?_
    rw [show X 9 1 = nI (jn (jx X 9)) from hI.n.1]
    refine er_cm_geF (pc' := 21) rfl (nI_lt (by omega) (by omega)) rfl ?_
    refine er_loc (pc' := 22) rfl rfl rfl ?_
    refine er_loc (pc' := 23) rfl rfl rfl ?_
    refine er_gf (pc' := 26) (_) rfl rfl rfl rfl rfl ?_
    refine er_loc (pc' := 27) rfl rfl rfl ?_
    refine er_cIi (pc' := 30) (rest := [_]) 7 rfl rfl rfl rfl rfl rfl (l_isDone _ j9 _ _ _) ?_
    refine er_if_eqb (pc' := 33) rfl rfl (fun h30 => ?_) (fun h30 => ?_)
    · refine er_loc (pc' := 38) rfl rfl rfl ?_
      refine er_gf (pc' := 41) (_) rfl rfl rfl rfl rfl ?_
      refine er_gf (pc' := 44) (_) rfl rfl rfl rfl rfl ?_
      refine er_loc (pc' := 45) rfl rfl rfl ?_
      refine er_ia (pc' := 46) (i) rfl rfl rfl rfl (by omega) rfl rfl ?_
      refine er_isub rfl rfl ?_
      refine er_loc (L' := [(1, _), (0, _), (2, _)]) rfl rfl rfl ?_
      refine er_loc (L' := [(2, .int (_ + nI 1)), (1, _), (0, _)]) rfl rfl rfl ?_
      refine er_goto rfl ?_
      refine ER_loc [(0, _), (1, _), (2, _)] rfl (List.forall_mem_cons.mpr ⟨rfl, List.forall_mem_cons.mpr ⟨rfl, List.forall_mem_cons.mpr ⟨rfl, fun _ h => absurd h List.not_mem_nil⟩⟩⟩) rfl rfl ?_
      refine l_left_loop d hI m (i + 1) _ _ (by omega) (nI_add i 1) ?_
      show _ = sLeft _ _ - (if _ then _ else _)
      first | rw [if_pos (show sDone (jx X 9) i = true from h30)] | rw [if_neg (show ¬ sDone (jx X 9) i = true from by unfold sDone; rw [show jx X 9 0 6 = X 9 6 from rfl, h30]; decide), jx3 hi8]
    · refine er_k (pc' := 34) (nI 0) rfl rfl rfl ?_
      refine er_goto rfl ?_
      refine er_isub rfl rfl ?_
      refine er_loc (L' := [(1, _), (0, _), (2, _)]) rfl rfl rfl ?_
      refine er_loc (L' := [(2, .int (_ + nI 1)), (1, _), (0, _)]) rfl rfl rfl ?_
      refine er_goto rfl ?_
      refine ER_loc [(0, _), (1, _), (2, _)] rfl (List.forall_mem_cons.mpr ⟨rfl, List.forall_mem_cons.mpr ⟨rfl, List.forall_mem_cons.mpr ⟨rfl, fun _ h => absurd h List.not_mem_nil⟩⟩⟩) rfl rfl ?_
      refine l_left_loop d hI m (i + 1) _ _ (by omega) (nI_add i 1) ?_
      show _ = sLeft _ _ - (if _ then _ else _)
      first | rw [if_pos (show sDone (jx X 9) i = true from h30)] | rw [if_neg (show ¬ sDone (jx X 9) i = true from by unfold sDone; rw [show jx X 9 0 6 = X 9 6 from rfl, h30]; decide), jx3 hi8]
set_option maxRecDepth 100000 in
set_option maxHeartbeats 4000000 in
theorem l_left (d : Nat) (X Z : Nat → Nat → Int32) {T : Nat} (hI : IJ T (jx X 9)) : EC (d + 3) 102 [.ref 0] (Wd X Z) (RI (sLeft (jx X 9) (jn (jx X 9))) X) := by
  refine er_enter (L := [(0, _)]) rfl rfl rfl ?_
  refine er_loc (pc' := 1) rfl rfl rfl ?_
  refine er_gf (pc' := 4) (_) rfl rfl rfl rfl rfl ?_
  refine er_gf (pc' := 7) (.int (X 9 9)) rfl rfl rfl rfl rfl ?_
  refine er_loc (pc' := 8) (L' := [(1, _), (0, _)]) rfl rfl rfl ?_
  refine er_k (pc' := 9) (nI 0) rfl rfl rfl ?_
  refine er_loc (pc' := 10) (L' := [(2, _), (1, _), (0, _)]) rfl rfl rfl ?_
  refine ER_loc [(0, _), (1, _), (2, _)] rfl (List.forall_mem_cons.mpr ⟨rfl, List.forall_mem_cons.mpr ⟨rfl, List.forall_mem_cons.mpr ⟨rfl, fun _ h => absurd h List.not_mem_nil⟩⟩⟩) rfl rfl ?_
  refine ER.mono (l_left_loop (d := d) hI (jn (jx X 9)) 0 _ _ (by omega) rfl rfl) ?_
  rintro r rfl
  exact ⟨Z, rfl⟩
def sGoSet (J : Nat → Nat → Int32) (k : Nat) : Int32 := sWith (sRest J k (jn J)) (nI k) true
def sBp (J : Nat → Nat → Int32) (s : Int32) (i : Nat) : Bool := sBit s (nI i) && sNever (sKind J i)
def sBlocked (J : Nat → Nat → Int32) (k : Nat) : Bool := sAny (sBp J (sGoSet J k)) k (jn J)
set_option maxRecDepth 100000 in
set_option maxHeartbeats 4000000 in
theorem l_blk_loop (d : Nat) {X Z : Nat → Nat → Int32} {T : Nat} (hI : IJ T (jx X 9)) (s : Int32) (k : Nat) : ∀ (m i : Nat) (x : Int32) (v : Int32), i + m = jn (jx X 9) → x = nI i → v = bI (sAny (sBp (jx X 9) s) k i) → k ≤ i → ER (d + 3) tb_m101 19 [(0, .ref 0), (2, .int s), (3, .int v), (4, .int x)] [] (Wd X Z) (PI (bI (sAny (sBp (jx X 9) s) k (jn (jx X 9)))) (Wd X Z))
  | 0, i, x, v, hi, h0, h1, h2 => by
    have h8 := jn8 hI
    have hi0 : i = jn (jx X 9) := by omega
    subst h0
    subst h1
    subst hi0
    refine er_loc (pc' := 21) rfl rfl rfl ?_
    refine er_loc (pc' := 22) rfl rfl rfl ?_
    refine er_gf (pc' := 25) (_) rfl rfl rfl rfl rfl ?_
    refine er_gf (pc' := 28) (.int (X 9 1)) rfl rfl rfl rfl rfl ?_
    rw [show X 9 1 = nI (jn (jx X 9)) from hI.n.1]
    refine er_cm_geT rfl (nI_nlt (by omega) (by omega)) ?_
    refine er_loc (pc' := 72) rfl rfl rfl ?_
    refine er_zret rfl rfl ?_
    exact PI_of rfl
  | m + 1, i, x, v, hi, h0, h1, h2 => by
    have h8 := jn8 hI
    have hi8 : i < 8 := by omega
    subst h0
    subst h1
    have hq := kind7 hI i
    refine er_loc (pc' := 21) rfl rfl rfl ?_
    refine er_loc (pc' := 22) rfl rfl rfl ?_
    refine er_gf (pc' := 25) (_) rfl rfl rfl rfl rfl ?_
    refine er_gf (pc' := 28) (.int (X 9 1)) rfl rfl rfl rfl rfl ?_
    rw [show X 9 1 = nI (jn (jx X 9)) from hI.n.1]
    refine er_cm_geF (pc' := 31) rfl (nI_lt (by omega) (by omega)) rfl ?_
    refine er_loc (pc' := 32) rfl rfl rfl ?_
    refine er_if_neb (pc' := 35) rfl rfl (fun h32 => ?_) (fun h32 => ?_)
    · refine er_k (pc' := 60) (nI 1) rfl rfl rfl ?_
      refine er_goto rfl ?_
      refine er_loc (L' := [(3, _), (0, _), (2, _), (4, _)]) rfl rfl rfl ?_
      refine er_loc (L' := [(4, .int (_ + nI 1)), (3, _), (0, _), (2, _)]) rfl rfl rfl ?_
      refine er_goto rfl ?_
      refine ER_loc [(0, _), (2, _), (3, _), (4, _)] rfl (List.forall_mem_cons.mpr ⟨rfl, List.forall_mem_cons.mpr ⟨rfl, List.forall_mem_cons.mpr ⟨rfl, List.forall_mem_cons.mpr ⟨rfl, fun _ h => absurd h List.not_mem_nil⟩⟩⟩⟩) rfl rfl ?_
      refine l_blk_loop d hI s k m (i + 1) _ _ (by omega) (nI_add i 1) (bI_eq1 ?_) (by omega)
      simp only [sAny, sBp, decide_eq_true h2, Bool.true_and]
      simp [*]
    · refine er_loc (pc' := 36) rfl rfl rfl ?_
      refine er_loc (pc' := 38) rfl rfl rfl ?_
      refine er_cSi (pc' := 41) (rest := []) rfl rfl rfl (l_isIn _ _ _ _) ?_
      refine er_if_eqb (pc' := 44) rfl rfl (fun h41 => ?_) (fun h41 => ?_)
      · refine er_k (pc' := 64) (nI 0) rfl rfl rfl ?_
        refine er_loc (L' := [(3, _), (0, _), (2, _), (4, _)]) rfl rfl rfl ?_
        refine er_loc (L' := [(4, .int (_ + nI 1)), (3, _), (0, _), (2, _)]) rfl rfl rfl ?_
        refine er_goto rfl ?_
        refine ER_loc [(0, _), (2, _), (3, _), (4, _)] rfl (List.forall_mem_cons.mpr ⟨rfl, List.forall_mem_cons.mpr ⟨rfl, List.forall_mem_cons.mpr ⟨rfl, List.forall_mem_cons.mpr ⟨rfl, fun _ h => absurd h List.not_mem_nil⟩⟩⟩⟩) rfl rfl ?_
        refine l_blk_loop d hI s k m (i + 1) _ _ (by omega) (nI_add i 1) (bI_eq0 ?_) (by omega)
        simp only [sAny, sBp, decide_eq_true h2, Bool.true_and]
        simp [*]
      · refine er_loc (pc' := 45) rfl rfl rfl ?_
        refine er_gf (pc' := 48) (_) rfl rfl rfl rfl rfl ?_
        refine er_loc (pc' := 50) rfl rfl rfl ?_
        refine er_cIr (pc' := 53) (rest := []) 7 rfl rfl rfl rfl rfl rfl (l_kindOf _ j9 _ _ hI (k := i) (by omega)) ?_
        refine er_cIi (pc' := 56) (rest := []) (sKind (jx X 9) i) rfl rfl (by rcases lt7 hq with e | e | e | e | e | e | e <;> rw [e] <;> rfl) (blt_S hq) (cO_S hq _ _) rfl (l_neverOf _ _ _ hq) ?_
        refine er_if_eqb (pc' := 59) rfl rfl (fun h56 => ?_) (fun h56 => ?_)
        · refine er_k (pc' := 64) (nI 0) rfl rfl rfl ?_
          refine er_loc (L' := [(3, _), (0, _), (2, _), (4, _)]) rfl rfl rfl ?_
          refine er_loc (L' := [(4, .int (_ + nI 1)), (3, _), (0, _), (2, _)]) rfl rfl rfl ?_
          refine er_goto rfl ?_
          refine ER_loc [(0, _), (2, _), (3, _), (4, _)] rfl (List.forall_mem_cons.mpr ⟨rfl, List.forall_mem_cons.mpr ⟨rfl, List.forall_mem_cons.mpr ⟨rfl, List.forall_mem_cons.mpr ⟨rfl, fun _ h => absurd h List.not_mem_nil⟩⟩⟩⟩) rfl rfl ?_
          refine l_blk_loop d hI s k m (i + 1) _ _ (by omega) (nI_add i 1) (bI_eq0 ?_) (by omega)
          simp only [sAny, sBp, decide_eq_true h2, Bool.true_and]
          simp [*]
        · refine er_k (pc' := 60) (nI 1) rfl rfl rfl ?_
          refine er_goto rfl ?_
          refine er_loc (L' := [(3, _), (0, _), (2, _), (4, _)]) rfl rfl rfl ?_
          refine er_loc (L' := [(4, .int (_ + nI 1)), (3, _), (0, _), (2, _)]) rfl rfl rfl ?_
          refine er_goto rfl ?_
          refine ER_loc [(0, _), (2, _), (3, _), (4, _)] rfl (List.forall_mem_cons.mpr ⟨rfl, List.forall_mem_cons.mpr ⟨rfl, List.forall_mem_cons.mpr ⟨rfl, List.forall_mem_cons.mpr ⟨rfl, fun _ h => absurd h List.not_mem_nil⟩⟩⟩⟩) rfl rfl ?_
          refine l_blk_loop d hI s k m (i + 1) _ _ (by omega) (nI_add i 1) (bI_eq1 ?_) (by omega)
          simp only [sAny, sBp, decide_eq_true h2, Bool.true_and]
          simp [*]
set_option maxRecDepth 100000 in
set_option maxHeartbeats 4000000 in
theorem l_isBlocked (d : Nat) (X Z : Nat → Nat → Int32) {T : Nat} (hI : IJ T (jx X 9)) {k : Nat} (hk : k < jn (jx X 9)) : EC (d + 4) 101 [.ref 0, .int (nI k)] (Wd X Z) (PI (bI (sBlocked (jx X 9) k)) (Wd X Z)) := by
  refine er_enter (L := [(0, _), (1, _)]) rfl rfl rfl ?_
  refine er_loc (pc' := 1) rfl rfl rfl ?_
  refine er_gf (pc' := 4) (_) rfl rfl rfl rfl rfl ?_
  refine er_loc (pc' := 5) rfl rfl rfl ?_
  refine er_cIi (pc' := 8) (rest := []) 7 rfl rfl rfl rfl rfl rfl (l_restingOn _ j9 _ _ hI hk) ?_
  refine er_loc (pc' := 9) rfl rfl rfl ?_
  refine er_k (pc' := 10) (nI 1) rfl rfl rfl ?_
  refine er_cSi (pc' := 13) (rest := []) rfl rfl rfl (l_with _ _ _ true _) ?_
  refine er_loc (pc' := 14) (L' := [(2, _), (0, _), (1, _)]) rfl rfl rfl ?_
  refine er_k (pc' := 15) (nI 0) rfl rfl rfl ?_
  refine er_loc (pc' := 16) (L' := [(3, _), (2, _), (0, _), (1, _)]) rfl rfl rfl ?_
  refine er_loc (pc' := 17) rfl rfl rfl ?_
  refine er_loc (pc' := 19) (L' := [(4, _), (3, _), (2, _), (0, _), (1, _)]) rfl rfl rfl ?_
  refine ER_loc [(0, _), (2, _), (3, _), (4, _)] rfl (List.forall_mem_cons.mpr ⟨rfl, List.forall_mem_cons.mpr ⟨rfl, List.forall_mem_cons.mpr ⟨rfl, List.forall_mem_cons.mpr ⟨rfl, fun _ h => absurd h List.not_mem_nil⟩⟩⟩⟩) rfl rfl ?_
  exact l_blk_loop (d := d) hI (sGoSet (jx X 9) k) k (jn (jx X 9) - k) k _ _ (by omega) rfl (bI_eq0 (sAny_low (Nat.le_refl _))) (Nat.le_refl _)
end
section
/-! THE FACE: what is only thought -/
def OT (X X' : Nat → Nat → Int32) : Prop := ∀ c, (c < 35 ∨ 35 + 12 < c) → X' c = X c
def RO (v : Int32) (X : Nat → Nat → Int32) : ab_R → Prop := fun r => ∃ X' Z', r = (some (.int v), Wd X' Z') ∧ OT X X'
theorem OT.rf (X : Nat → Nat → Int32) : OT X X := fun _ _ => rfl
theorem OT.trans {X Y V : Nat → Nat → Int32} (h : OT X Y) (h2 : OT Y V) : OT X V := fun c hc => (h2 c hc).trans (h c hc)
theorem OT.j9 {X X' : Nat → Nat → Int32} (h : OT X X') : jx X' 9 = jx X 9 := jx_off (fun c _ hc => h c (Or.inl (by omega)))
theorem OT.ud {X X' : Nat → Nat → Int32} (h : OT X X') {c k : Nat} {v : Int32} (hc : 35 ≤ c ∧ c ≤ 47) : OT X (ud X' c k v) := fun q hq => by rw [ud_ne (by omega)]; exact h q hq
theorem OT.fin {X X' : Nat → Nat → Int32} (h : OT X X') {k : Nat} : OT X (xFin X' 35 k) := fun q hq => by rw [xFin_off (by omega)]; exact h q hq
theorem OT.pass {X X' : Nat → Nat → Int32} (h : OT X X') {k : Nat} : OT X (xPass X' 35 k) := fun q hq => by rw [xPass_off (by omega)]; exact h q hq
theorem OT.unpass {X X' : Nat → Nat → Int32} (h : OT X X') {k : Nat} {g t : Int32} : OT X (xUnpass X' 35 k g t) := fun q hq => by rw [xUnpass_off (by omega)]; exact h q hq
theorem RO_of {v x : Int32} {X X' Z : Nat → Nat → Int32} (h : x = v) (ho : OT X X') : RO v X (some (.int x), Wd X' Z) := ⟨X', Z, by rw [h], ho⟩
theorem ud_ud (X : Nat → Nat → Int32) (c k : Nat) (v u : Int32) : ud (ud X c k v) c k u = ud X c k u := by
  funext i j
  simp only [ud_at]
  by_cases h : i = c
  · subst h
    by_cases hj : j = k
    · subst hj; simp
    · simp [hj]
  · simp [h]
theorem ud_id (X : Nat → Nat → Int32) (c k : Nat) : ud X c k (X c k) = X := by
  funext i j
  simp only [ud_at]
  by_cases h : i = c
  · subst h
    by_cases hj : j = k
    · subst hj; simp
    · simp [hj]
  · simp [h]
section ERV
variable {d pc pc' lk : Nat} {M : ab_M} {L L' : ab_Lo} {st : List Value} {w : ab_W} {P : ab_R → Prop} {X Z : Nat → Nat → Int32}
theorem er_cIt (cls : Nat) {c j b p : Nat} {ins : Instr} {fs As rest : List Value} (hf : ab_fetch M.2.2.2.2.2.2.2 pc = some (ins, lk)) (hi : isCI ins = true) (hq : qI lk cls st = some (c, j, As, rest)) (hc : Nat.blt c 79 = true) (ho : cO c (X c) (Z c) = .inl (cls, fs)) (hp : pc + 3 = pc') (h : EC d j As (Wd X Z) (TK X b p)) (k : ∀ X' Z', jx X' b = jx X p → (∀ c, (c < b ∨ b + 12 < c) → X' c = X c) → ER d M pc' L rest (Wd X' Z') P) : ER d M pc L st (Wd X Z) P :=
  er_cI cls hf hi hq hc ho hp h (fun r hr => by obtain ⟨X', Z', rfl, h1, h2⟩ := hr; exact k X' Z' h1 h2)
theorem er_cIo (cls : Nat) {c j : Nat} {v : Int32} {ins : Instr} {fs As rest : List Value} (hf : ab_fetch M.2.2.2.2.2.2.2 pc = some (ins, lk)) (hi : isCI ins = true) (hq : qI lk cls st = some (c, j, As, rest)) (hc : Nat.blt c 79 = true) (ho : cO c (X c) (Z c) = .inl (cls, fs)) (hp : pc + 3 = pc') (h : EC d j As (Wd X Z) (RO v X)) (k : ∀ X' Z', OT X X' → ER d M pc' L (.int v :: rest) (Wd X' Z') P) : ER d M pc L st (Wd X Z) P :=
  er_cI cls hf hi hq hc ho hp h (fun r hr => by obtain ⟨X', Z', rfl, h1⟩ := hr; exact k X' Z' h1)
end ERV
def gD (J : Nat → Nat → Int32) (s : Int32) (a : Nat) : Nat → Int32 → Int32
  | 0, t => t
  | m + 1, t => gD J s a m (if sBit s (nI (a + m)) = true then t + sBack (ud J 0 10 t) (a + m) else t)
def gU (J : Nat → Nat → Int32) (s : Int32) : Nat → Nat → Int32 → Int32
  | 0, _, t => t
  | m + 1, i, t => gU J s m (i + 1) (if sBit s (nI i) = true then t + sLasts (ud J 0 10 t) i else t)
def sGoM (J : Nat → Nat → Int32) (k : Nat) : Int32 := gU J (sGoSet J k) (jn J - k) k (gD J (sGoSet J k) k (jn J - k) (J 0 10)) - J 0 10
theorem nI_m1_lt {k : Nat} (h : k ≤ 8) : nI k - nI 1 < nI k := fin_le (m := 8) (p := fun k => nI k - nI 1 < nI k) h (by decide +kernel)
theorem nI_s1 (m : Nat) : nI (m + 1) - nI 1 = nI m := nI_sub (show 1 ≤ m + 1 by omega)
set_option maxRecDepth 100000 in
set_option maxHeartbeats 4000000 in
theorem l_gd_loop (d : Nat) {X : Nat → Nat → Int32} {T0 : Nat} (hI : IJ T0 (jx X 9)) {k : Nat} (hk : k < jn (jx X 9)) (s : Int32) (P : ab_R → Prop) : ∀ (m T : Nat) (X1 Z : Nat → Nat → Int32) (t x : Int32), x = nI (k + m) - nI 1 → OT X X1 → jx X1 35 = ud (jx X 9) 0 10 t → IJ T (ud (jx X 9) 0 10 t) → k + m ≤ jn (jx X 9) ∧ T + 300 * m < 1000000000 → (∀ X2 Z2 t2 x2, OT X X2 → jx X2 35 = ud (jx X 9) 0 10 t2 → IJ (T + 300 * m) (ud (jx X 9) 0 10 t2) → t2 = gD (jx X 9) s k m t → ER (d + 5) tb_m100 74 [(0, .ref 0), (1, .int (nI k)), (2, .int s), (3, .int x2)] [] (Wd X2 Z2) P) → ER (d + 5) tb_m100 35 [(0, .ref 0), (1, .int (nI k)), (2, .int s), (3, .int x)] [] (Wd X1 Z) P
  | 0, T, X1, Z, t, x, hx, ho, hj, hI1, hb, hP => by
    have h8 := jn8 hI
    subst hx
    refine er_loc (pc' := 36) rfl rfl rfl ?_
    refine er_loc (pc' := 37) rfl rfl rfl ?_
    refine er_cm_ltT rfl (nI_m1_lt (by omega)) ?_
    exact hP X1 Z t _ ho hj (hI1.mono (by omega)) rfl
  | m + 1, T, X1, Z, t, x, hx, ho, hj, hI1, hb, hP => by
    have h8 := jn8 hI
    have hI0 : IJ T (ud (jx X 9) 0 10 t) := hI1
    rw [show k + (m + 1) = (k + m) + 1 from rfl, nI_s1] at hx
    subst hx
    have hT : IJ T (jx X1 35) := by rw [hj]; exact hI1
    have hkT : k + m < jn (jx X1 35) := by
      rw [hj]
      show k + m < jn (jx X 9)
      omega
    have htm : X1 35 10 = t := by
      have e : jx X1 35 0 10 = t := by rw [hj]; exact ud_same _ _ _ _ ▸ u1_same _ _ _
      exact e
    refine er_loc (pc' := 36) rfl rfl rfl ?_
    refine er_loc (pc' := 37) rfl rfl rfl ?_
    refine er_cm_ltF (pc' := 40) rfl (nI_nlt (a := k + m) (by omega) (by omega)) rfl ?_
    refine er_loc (pc' := 41) rfl rfl rfl ?_
    refine er_loc (pc' := 42) rfl rfl rfl ?_
    refine er_cSi (pc' := 45) (rest := []) rfl rfl rfl (l_isIn _ _ _ _) ?_
    refine er_if_eqb (pc' := 48) rfl rfl (fun h45 => ?_) (fun h45 => ?_)
    · refine er_loc (L' := [(3, .int (_ + (-1))), (0, _), (1, _), (2, _)]) rfl rfl rfl ?_
      refine er_goto rfl ?_
      refine ER_loc [(0, _), (1, _), (2, _), (3, _)] rfl (List.forall_mem_cons.mpr ⟨rfl, List.forall_mem_cons.mpr ⟨rfl, List.forall_mem_cons.mpr ⟨rfl, List.forall_mem_cons.mpr ⟨rfl, fun _ h => absurd h List.not_mem_nil⟩⟩⟩⟩) rfl rfl ?_
      have e2 : gD (jx X 9) s k (m + 1) t = gD (jx X 9) s k m t := by show gD _ _ _ _ (if _ then _ else _) = _; rw [if_neg (by rw [h45]; decide)]
      refine l_gd_loop d hI hk s P m (T + 300) _ _ _ _ (by rw [Int32.sub_eq_add_neg]; rfl) ho hj (hI1.mono (by omega)) (by omega) ?_
      intro X2 Z2 t2 x2 a1 a2 a3 a4
      exact hP X2 Z2 t2 x2 a1 a2 (by rw [show T + 300 * (m + 1) = T + 300 + 300 * m by omega]; exact a3) (a4.trans e2.symm)
    · refine er_loc (pc' := 49) rfl rfl rfl ?_
      refine er_gf (pc' := 52) (_) rfl rfl rfl rfl rfl ?_
      refine er_pure (pc' := 53) rfl rfl rfl ?_
      refine er_gf (pc' := 56) (.int t) rfl rfl rfl (by rw [← htm]; rfl) rfl ?_
      refine er_loc (pc' := 57) rfl rfl rfl ?_
      refine er_gf (pc' := 60) (_) rfl rfl rfl rfl rfl ?_
      refine er_loc (pc' := 61) rfl rfl rfl ?_
      refine er_cIz (pc' := 64) (rest := [_, _]) 7 rfl rfl rfl rfl rfl rfl (l_takesBack _ j35 _ _ hT hkT) ?_
      intro Z2
      refine er_iadd (pc' := 65) rfl rfl ?_
      refine er_pfIX (pc' := 68) 10 rfl rfl rfl rfl rfl rfl ?_
      refine er_loc (L' := [(3, .int (_ + (-1))), (0, _), (1, _), (2, _)]) rfl rfl rfl ?_
      refine er_goto rfl ?_
      refine ER_loc [(0, _), (1, _), (2, _), (3, _)] rfl (List.forall_mem_cons.mpr ⟨rfl, List.forall_mem_cons.mpr ⟨rfl, List.forall_mem_cons.mpr ⟨rfl, List.forall_mem_cons.mpr ⟨rfl, fun _ h => absurd h List.not_mem_nil⟩⟩⟩⟩) rfl rfl ?_
      have e2 : gD (jx X 9) s k (m + 1) t = gD (jx X 9) s k m (t + sBack (ud (jx X 9) 0 10 t) (k + m)) := by show gD _ _ _ _ (if _ then _ else _) = _; rw [if_pos h45]
      refine l_gd_loop d hI hk s P m (T + 300) _ _ (t + sBack (ud (jx X 9) 0 10 t) (k + m)) _ (by rw [Int32.sub_eq_add_neg]; rfl) (OT.ud ho (by omega)) (by rw [jx_ud0 rfl, hj, ud_ud]) (IJ.uMin hI (hI1.minute.add (back300 hI1 _) (by omega))) (by omega) ?_
      intro X2 Z2 t2 x2 a1 a2 a3 a4
      exact hP X2 Z2 t2 x2 a1 a2 (by rw [show T + 300 * (m + 1) = T + 300 + 300 * m by omega]; exact a3) (a4.trans e2.symm)
set_option maxRecDepth 100000 in
set_option maxHeartbeats 4000000 in
theorem l_gu_loop (d : Nat) {X : Nat → Nat → Int32} {T0 : Nat} (hI : IJ T0 (jx X 9)) {k0 : Int32} (s v : Int32) (P : ab_R → Prop) : ∀ (m i T : Nat) (X1 Z : Nat → Nat → Int32) (t x : Int32), i + m = jn (jx X 9) → x = nI i → OT X X1 → jx X1 35 = ud (jx X 9) 0 10 t → IJ T (ud (jx X 9) 0 10 t) → T + 300 * m < 1000000000 → gU (jx X 9) s m i t = v → (∀ r, RO (v - X 9 10) X r → P r) → ER (d + 5) tb_m100 76 [(0, .ref 0), (1, .int k0), (2, .int s), (3, .int x)] [] (Wd X1 Z) P
  | 0, i, T, X1, Z, t, x, hi, hx, ho, hj, hI1, hb, hv, hP => by
    have h8 := jn8 hI
    have hi0 : i = jn (jx X 9) := by omega
    subst hx
    subst hi0
    have htm : X1 35 10 = t := by
      have e : jx X1 35 0 10 = t := by rw [hj]; exact ud_same _ _ _ _ ▸ u1_same _ _ _
      exact e
    refine er_loc (pc' := 77) rfl rfl rfl ?_
    refine er_loc (pc' := 78) rfl rfl rfl ?_
    refine er_gf (pc' := 81) (_) rfl rfl rfl rfl rfl ?_
    refine er_gf (pc' := 84) (.int (X1 9 1)) rfl rfl rfl rfl rfl ?_
    rw [show X1 9 1 = nI (jn (jx X 9)) from by rw [ho 9 (by omega)]; exact hI.n.1]
    refine er_cm_geT rfl (nI_nlt (by omega) (by omega)) ?_
    refine er_loc (pc' := 122) rfl rfl rfl ?_
    refine er_gf (pc' := 125) (_) rfl rfl rfl rfl rfl ?_
    refine er_gf (pc' := 128) (.int t) rfl rfl rfl (by rw [← htm]; rfl) rfl ?_
    refine er_loc (pc' := 129) rfl rfl rfl ?_
    refine er_gf (pc' := 132) (_) rfl rfl rfl rfl rfl ?_
    refine er_gf (pc' := 135) (.int (X1 9 10)) rfl rfl rfl rfl rfl ?_
    rw [ho 9 (by omega)]
    refine er_isub (pc' := 136) rfl rfl ?_
    refine er_iret rfl rfl ?_
    refine hP _ ⟨X1, Z, by rw [show t = v from hv], ho⟩
  | m + 1, i, T, X1, Z, t, x, hi, hx, ho, hj, hI1, hb, hv, hP => by
    have h8 := jn8 hI
    subst hx
    have hT : IJ T (jx X1 35) := by rw [hj]; exact hI1
    have hkT : i < jn (jx X1 35) := by
      rw [hj]
      show i < jn (jx X 9)
      omega
    have htm : X1 35 10 = t := by
      have e : jx X1 35 0 10 = t := by rw [hj]; exact ud_same _ _ _ _ ▸ u1_same _ _ _
      exact e
    refine er_loc (pc' := 77) rfl rfl rfl ?_
    refine er_loc (pc' := 78) rfl rfl rfl ?_
    refine er_gf (pc' := 81) (_) rfl rfl rfl rfl rfl ?_
    refine er_gf (pc' := 84) (.int (X1 9 1)) rfl rfl rfl rfl rfl ?_
    rw [show X1 9 1 = nI (jn (jx X 9)) from by rw [ho 9 (by omega)]; exact hI.n.1]
    refine er_cm_geF (pc' := 87) rfl (nI_lt (by omega) (by omega)) rfl ?_
    refine er_loc (pc' := 88) rfl rfl rfl ?_
    refine er_loc (pc' := 89) rfl rfl rfl ?_
    refine er_cSi (pc' := 92) (rest := []) rfl rfl rfl (l_isIn _ _ _ _) ?_
    refine er_if_eqb (pc' := 95) rfl rfl (fun h92 => ?_) (fun h92 => ?_)
    · refine er_loc (L' := [(3, .int (_ + nI 1)), (0, _), (1, _), (2, _)]) rfl rfl rfl ?_
      refine er_goto rfl ?_
      refine ER_loc [(0, _), (1, _), (2, _), (3, _)] rfl (List.forall_mem_cons.mpr ⟨rfl, List.forall_mem_cons.mpr ⟨rfl, List.forall_mem_cons.mpr ⟨rfl, List.forall_mem_cons.mpr ⟨rfl, fun _ h => absurd h List.not_mem_nil⟩⟩⟩⟩) rfl rfl ?_
      refine l_gu_loop d hI s v P m (i + 1) (T + 300) _ _ _ _ (by omega) (nI_add i 1) ho hj (hI1.mono (by omega)) (by omega) ?_ hP
      rw [← hv]; show _ = gU _ _ _ _ (if _ then _ else _); rw [if_neg (by rw [h92]; decide)]
    · refine er_loc (pc' := 96) rfl rfl rfl ?_
      refine er_gf (pc' := 99) (_) rfl rfl rfl rfl rfl ?_
      refine er_pure (pc' := 100) rfl rfl rfl ?_
      refine er_gf (pc' := 103) (.int t) rfl rfl rfl (by rw [← htm]; rfl) rfl ?_
      refine er_loc (pc' := 104) rfl rfl rfl ?_
      refine er_gf (pc' := 107) (_) rfl rfl rfl rfl rfl ?_
      refine er_loc (pc' := 108) rfl rfl rfl ?_
      refine er_cIz (pc' := 111) (rest := [_, _]) 7 rfl rfl rfl rfl rfl rfl (l_lasts _ j35 _ _ hT hkT) ?_
      intro Z2
      refine er_iadd (pc' := 112) rfl rfl ?_
      refine er_pfIX (pc' := 115) 10 rfl rfl rfl rfl rfl rfl ?_
      refine er_loc (L' := [(3, .int (_ + nI 1)), (0, _), (1, _), (2, _)]) rfl rfl rfl ?_
      refine er_goto rfl ?_
      refine ER_loc [(0, _), (1, _), (2, _), (3, _)] rfl (List.forall_mem_cons.mpr ⟨rfl, List.forall_mem_cons.mpr ⟨rfl, List.forall_mem_cons.mpr ⟨rfl, List.forall_mem_cons.mpr ⟨rfl, fun _ h => absurd h List.not_mem_nil⟩⟩⟩⟩) rfl rfl ?_
      refine l_gu_loop d hI s v P m (i + 1) (T + 300) _ _ (t + sLasts (ud (jx X 9) 0 10 t) i) _ (by omega) (nI_add i 1) (OT.ud ho (by omega)) (by rw [jx_ud0 rfl, hj, ud_ud]) (IJ.uMin hI (hI1.minute.add (lasts300 hI1 _) (by omega))) (by omega) ?_ hP
      rw [← hv]; show _ = gU _ _ _ _ (if _ then _ else _); rw [if_pos h92]
set_option maxRecDepth 100000 in
set_option maxHeartbeats 4000000 in
theorem l_minutesBackTo (d : Nat) {X Z : Nat → Nat → Int32} {T : Nat} (hI : IJ T (jx X 9)) (hT9 : T < 1000000) {k : Nat} (hk : k < jn (jx X 9)) : EC (d + 6) 100 [.ref 0, .int (nI k)] (Wd X Z) (RO (sGoM (jx X 9) k) X) := by
  refine er_enter (L := [(0, _), (1, _)]) rfl rfl rfl ?_
  have h8 := jn8 hI
  refine er_loc (pc' := 1) rfl rfl rfl ?_
  refine er_gf (pc' := 4) (_) rfl rfl rfl rfl rfl ?_
  refine er_loc (pc' := 5) rfl rfl rfl ?_
  refine er_cIi (pc' := 8) (rest := []) 7 rfl rfl rfl rfl rfl rfl (l_restingOn _ j9 _ _ hI hk) ?_
  refine er_loc (pc' := 9) rfl rfl rfl ?_
  refine er_k (pc' := 10) (nI 1) rfl rfl rfl ?_
  refine er_cSi (pc' := 13) (rest := []) rfl rfl rfl (l_with _ _ _ true _) ?_
  refine er_loc (pc' := 14) (L' := [(2, _), (0, _), (1, _)]) rfl rfl rfl ?_
  refine er_loc (pc' := 15) rfl rfl rfl ?_
  refine er_gf (pc' := 18) (_) rfl rfl rfl rfl rfl ?_
  refine er_loc (pc' := 19) rfl rfl rfl ?_
  refine er_gf (pc' := 22) (_) rfl rfl rfl rfl rfl ?_
  refine er_cIt (pc' := 25) (rest := []) 7 rfl rfl rfl rfl rfl rfl (l_take_35_9 _ _ _ hI) ?_
  intro X1 Z1 hj1 ho1
  refine er_loc (pc' := 26) rfl rfl rfl ?_
  refine er_gf (pc' := 29) (_) rfl rfl rfl rfl rfl ?_
  refine er_gf (pc' := 32) (.int (X1 9 1)) rfl rfl rfl rfl rfl ?_
  rw [show X1 9 1 = nI (jn (jx X 9)) from by rw [ho1 9 (by omega)]; exact hI.n.1]
  refine er_k (pc' := 33) (nI 1) rfl rfl rfl ?_
  refine er_isub (pc' := 34) rfl rfl ?_
  refine er_loc (pc' := 35) (L' := [(3, _), (2, _), (0, _), (1, _)]) rfl rfl rfl ?_
  refine ER_loc [(0, _), (1, _), (2, _), (3, _)] rfl (List.forall_mem_cons.mpr ⟨rfl, List.forall_mem_cons.mpr ⟨rfl, List.forall_mem_cons.mpr ⟨rfl, List.forall_mem_cons.mpr ⟨rfl, fun _ h => absurd h List.not_mem_nil⟩⟩⟩⟩) rfl rfl ?_
  refine l_gd_loop d hI hk (sGoSet (jx X 9) k) _ (jn (jx X 9) - k) T X1 Z1 (jx X 9 0 10) _ ?_ ho1 (by rw [ud_id]; exact hj1) (by rw [ud_id]; exact hI) (by omega) ?_
  · rw [show k + (jn (jx X 9) - k) = jn (jx X 9) by omega]
  intro X2 Z2 t2 x2 ho2 hj2 hI2 ht2
  refine er_loc (pc' := 75) rfl rfl rfl ?_
  refine er_loc (L' := [(3, _), (0, _), (1, _), (2, _)]) (pc' := 76) rfl rfl rfl ?_
  refine ER_loc [(0, _), (1, _), (2, _), (3, _)] rfl (List.forall_mem_cons.mpr ⟨rfl, List.forall_mem_cons.mpr ⟨rfl, List.forall_mem_cons.mpr ⟨rfl, List.forall_mem_cons.mpr ⟨rfl, fun _ h => absurd h List.not_mem_nil⟩⟩⟩⟩) rfl rfl ?_
  refine l_gu_loop d hI (sGoSet (jx X 9) k) (gU (jx X 9) (sGoSet (jx X 9) k) (jn (jx X 9) - k) k t2) _ (jn (jx X 9) - k) k _ _ _ t2 _ (by omega) rfl ho2 hj2 hI2 (by omega) rfl (fun r hr => ?_)
  rw [ht2] at hr
  exact hr
end
section
/-! THE FACE: going back, looking, odds, whose -/
set_option maxRecDepth 100000 in
set_option maxHeartbeats 4000000 in
theorem l_goBack (d : Nat) (X Z : Nat → Nat → Int32) {T : Nat} (hI : IJ T (jx X 9)) {k : Nat} (hk : k < jn (jx X 9)) (hT9 : T < 1000000) (w : Int32) : EC (d + 7) 99 [.ref 0, .int (nI k), .int w] (Wd X Z) (fun r => if sIn w (nI 0) (nI 1) = true then (if sDone (jx X 9) k = true then (if w = 0 then RO (sGoM (jx X 9) k) X r else RI (bI (sBlocked (jx X 9) k)) X r) else RI (sErr 3) (xErr X 3) r) else RI (sErr 1) (xErr X 1) r) := by
  refine er_enter (L := [(0, _), (1, _), (2, _)]) rfl rfl rfl ?_
  have h8 := jn8 hI
  have hk8 : k < 8 := by omega
  refine er_loc (pc' := 1) rfl rfl rfl ?_
  refine er_gf (pc' := 4) (_) rfl rfl rfl rfl rfl ?_
  refine er_loc (pc' := 5) rfl rfl rfl ?_
  refine er_cIi (pc' := 8) (rest := []) 7 rfl rfl rfl rfl rfl rfl (l_has_t _ j9 _ _ hI hk) ?_
  refine er_if_eqF (pc' := 11) rfl (by decide +kernel) rfl ?_
  refine er_loc (pc' := 12) rfl rfl rfl ?_
  refine er_k (pc' := 13) (nI 0) rfl rfl rfl ?_
  refine er_k (pc' := 14) (nI 1) rfl rfl rfl ?_
  refine er_cSi (pc' := 17) (rest := []) rfl rfl rfl (l_within _ _ _ _ _) ?_
  refine er_if_neb (pc' := 20) rfl rfl (fun h17 => ?_) (fun h17 => ?_)
  · refine er_loc (pc' := 27) rfl rfl rfl ?_
    refine er_gf (pc' := 30) (_) rfl rfl rfl rfl rfl ?_
    refine er_loc (pc' := 31) rfl rfl rfl ?_
    refine er_cIi (pc' := 34) (rest := []) 7 rfl rfl rfl rfl rfl rfl (l_isDone _ j9 _ _ _) ?_
    refine er_if_neb (pc' := 37) rfl rfl (fun h34 => ?_) (fun h34 => ?_)
    · refine er_loc (pc' := 44) rfl rfl rfl ?_
      refine er_if_ne (pc' := 47) rfl rfl (fun h44 => ?_) (fun h44 => ?_)
      · refine er_loc (pc' := 54) rfl rfl rfl ?_
        refine er_loc (pc' := 55) rfl rfl rfl ?_
        refine er_cIi (pc' := 58) (rest := []) 11 rfl rfl rfl rfl rfl rfl (l_isBlocked _ _ _ hI hk) ?_
        refine er_if_eqb (pc' := 61) rfl rfl (fun h58 => ?_) (fun h58 => ?_)
        · refine er_k (pc' := 66) (nI 0) rfl rfl rfl ?_
          refine er_iret rfl rfl ?_
          rw [if_pos h17, if_pos (show sDone (jx X 9) k = true from h34)]
          rw [if_neg h44]
          exact RI_of (bI_eq0 h58) rfl
        · refine er_k (pc' := 62) (nI 1) rfl rfl rfl ?_
          refine er_goto rfl ?_
          refine er_iret rfl rfl ?_
          rw [if_pos h17, if_pos (show sDone (jx X 9) k = true from h34)]
          rw [if_neg h44]
          exact RI_of (bI_eq1 h58) rfl
      · refine er_loc (pc' := 48) rfl rfl rfl ?_
        refine er_loc (pc' := 49) rfl rfl rfl ?_
        refine er_cIo (pc' := 52) (rest := []) 11 rfl rfl rfl rfl rfl rfl (l_minutesBackTo _ hI hT9 hk) ?_
        intro X2 Z2 ho2
        refine er_iret rfl rfl ?_
        rw [if_pos h17, if_pos (show sDone (jx X 9) k = true from h34)]
        rw [if_pos h44]
        exact RO_of rfl ho2
    · refine er_loc (pc' := 38) rfl rfl rfl ?_
      refine er_k (pc' := 39) (nI 3) rfl rfl rfl ?_
      refine er_cIz (pc' := 42) (rest := []) 11 rfl rfl rfl rfl rfl rfl (l_error _ _ _ 3 (by decide)) ?_
      intro Z9
      refine er_iret rfl rfl ?_
      rw [if_pos h17, if_neg (by unfold sDone; rw [show jx X 9 0 6 = X 9 6 from rfl, h34]; decide)]
      exact RI_of rfl rfl
  · refine er_loc (pc' := 21) rfl rfl rfl ?_
    refine er_k (pc' := 22) (nI 1) rfl rfl rfl ?_
    refine er_cIz (pc' := 25) (rest := []) 11 rfl rfl rfl rfl rfl rfl (l_error _ _ _ 1 (by decide)) ?_
    intro Z9
    refine er_iret rfl rfl ?_
    rw [if_neg (by rw [h17]; decide)]
    exact RI_of rfl rfl
def lkF (J : Nat → Nat → Int32) : Nat → Nat → Int32 → Int32 → Int32
  | 0, _, f, _ => f
  | m + 1, i, f, l => if (sBit (J 0 7) (nI i) && !sBlocked J i) = true then (if f < 0 ∨ sGoM J i < l then lkF J m (i + 1) (nI i) (sGoM J i) else lkF J m (i + 1) f l) else lkF J m (i + 1) f l
def RX (v : Int32) (X Y : Nat → Nat → Int32) : ab_R → Prop := fun r => ∃ X' Z', r = (some (.int v), Wd X' Z') ∧ OT Y X'
theorem sBlocked_ot {X X' : Nat → Nat → Int32} (h : OT X X') {k : Nat} : sBlocked (jx X' 9) k = sBlocked (jx X 9) k := by rw [h.j9]
def LkP (X : Nat → Nat → Int32) (f : Int32) : ab_R → Prop := fun r => if f < 0 then (∃ X' Z', r = (some (.int (sErr 2)), Wd X' Z') ∧ ∃ X1, OT X X1 ∧ X' = xErr X1 2) else RO f X r
set_option maxRecDepth 100000 in
set_option maxHeartbeats 4000000 in
theorem l_look_loop (d : Nat) {X : Nat → Nat → Int32} {T : Nat} (hI : IJ T (jx X 9)) (hT9 : T < 1000000) (P : ab_R → Prop) : ∀ (m i : Nat) (X1 Z : Nat → Nat → Int32) (f l x : Int32), i + m = jn (jx X 9) → x = nI i → OT X X1 → (∀ r, LkP X (lkF (jx X 9) m i f l) r → P r) → ER (d + 6) tb_m104 6 [(0, .ref 0), (1, .int f), (2, .int l), (3, .int x)] [] (Wd X1 Z) P
  | 0, i, X1, Z, f, l, x, hi, hx, ho, hP => by
    have h8 := jn8 hI
    have hi0 : i = jn (jx X 9) := by omega
    subst hx
    subst hi0
    refine er_loc (pc' := 7) rfl rfl rfl ?_
    refine er_loc (pc' := 8) rfl rfl rfl ?_
    refine er_gf (pc' := 11) (_) rfl rfl rfl rfl rfl ?_
    refine er_gf (pc' := 14) (.int (X1 9 1)) rfl rfl rfl rfl rfl ?_
    rw [show X1 9 1 = nI (jn (jx X 9)) from by rw [ho 9 (by omega)]; exact hI.n.1]
    refine er_cm_geT rfl (nI_nlt (by omega) (by omega)) ?_
    refine er_loc (pc' := 65) rfl rfl rfl ?_
    refine er_if_lt (pc' := 68) rfl rfl (fun h65 => ?_) (fun h65 => ?_)
    · refine er_loc (pc' := 73) rfl rfl rfl ?_
      refine er_k (pc' := 74) (nI 2) rfl rfl rfl ?_
      refine er_cIz (pc' := 77) (rest := []) 11 rfl rfl rfl rfl rfl rfl (l_error _ _ _ 2 (by decide)) ?_
      intro Z9
      refine er_iret rfl rfl ?_
      apply hP
      show LkP X f _
      unfold LkP
      rw [if_pos h65]
      exact ⟨_, _, rfl, X1, ho, rfl⟩
    · refine er_loc (pc' := 69) rfl rfl rfl ?_
      refine er_goto rfl ?_
      refine er_iret rfl rfl ?_
      apply hP
      show LkP X f _
      unfold LkP
      rw [if_neg h65]
      exact RO_of rfl ho
  | m + 1, i, X1, Z, f, l, x, hi, hx, ho, hP => by
    have h8 := jn8 hI
    have hi8 : i < 8 := by omega
    have hI1 : IJ T (jx X1 9) := by rw [ho.j9]; exact hI
    subst hx
    refine er_loc (pc' := 7) rfl rfl rfl ?_
    refine er_loc (pc' := 8) rfl rfl rfl ?_
    refine er_gf (pc' := 11) (_) rfl rfl rfl rfl rfl ?_
    refine er_gf (pc' := 14) (.int (X1 9 1)) rfl rfl rfl rfl rfl ?_
    rw [show X1 9 1 = nI (jn (jx X 9)) from by rw [ho 9 (by omega)]; exact hI.n.1]
    refine er_cm_geF (pc' := 17) rfl (nI_lt (by omega) (by omega)) rfl ?_
    refine er_loc (pc' := 18) rfl rfl rfl ?_
    refine er_gf (pc' := 21) (_) rfl rfl rfl rfl rfl ?_
    refine er_loc (pc' := 22) rfl rfl rfl ?_
    refine er_cIi (pc' := 25) (rest := []) 7 rfl rfl rfl rfl rfl rfl (l_isWrong _ j9 _ _ _) ?_
    have hw0 : sBit (jx X 9 0 7) (nI i) = sBit (X1 9 7) (nI i) := by rw [jx07, ho 9 (by omega)]
    refine er_if_eqb (pc' := 28) rfl rfl (fun h25 => ?_) (fun h25 => ?_)
    · refine er_loc (L' := [(3, .int (_ + nI 1)), (0, _), (1, _), (2, _)]) rfl rfl rfl ?_
      refine er_goto rfl ?_
      refine ER_loc [(0, _), (1, _), (2, _), (3, _)] rfl (List.forall_mem_cons.mpr ⟨rfl, List.forall_mem_cons.mpr ⟨rfl, List.forall_mem_cons.mpr ⟨rfl, List.forall_mem_cons.mpr ⟨rfl, fun _ h => absurd h List.not_mem_nil⟩⟩⟩⟩) rfl rfl ?_
      refine l_look_loop d hI hT9 P m (i + 1) _ _ _ _ _ (by omega) (nI_add i 1) ho ?_
      intro r hr; apply hP
      have e2 : lkF (jx X 9) (m + 1) i f l = lkF (jx X 9) m (i + 1) f l := by
        show (if _ then (if _ then _ else _) else _) = _
        rw [if_neg (by rw [hw0, h25]; simp)]
      rw [e2]
      exact hr
    · refine er_loc (pc' := 29) rfl rfl rfl ?_
      refine er_loc (pc' := 30) rfl rfl rfl ?_
      refine er_cIi (pc' := 33) (rest := []) 11 rfl rfl rfl rfl rfl rfl (l_isBlocked _ X1 Z (k := i) hI1 (by rw [ho.j9]; omega)) ?_
      have hb0 : sBlocked (jx X 9) i = sBlocked (jx X1 9) i := (sBlocked_ot ho).symm
      refine er_if_neb (pc' := 36) rfl rfl (fun h33 => ?_) (fun h33 => ?_)
      · refine er_loc (L' := [(3, .int (_ + nI 1)), (0, _), (1, _), (2, _)]) rfl rfl rfl ?_
        refine er_goto rfl ?_
        refine ER_loc [(0, _), (1, _), (2, _), (3, _)] rfl (List.forall_mem_cons.mpr ⟨rfl, List.forall_mem_cons.mpr ⟨rfl, List.forall_mem_cons.mpr ⟨rfl, List.forall_mem_cons.mpr ⟨rfl, fun _ h => absurd h List.not_mem_nil⟩⟩⟩⟩) rfl rfl ?_
        refine l_look_loop d hI hT9 P m (i + 1) _ _ _ _ _ (by omega) (nI_add i 1) ho ?_
        intro r hr; apply hP
        have e2 : lkF (jx X 9) (m + 1) i f l = lkF (jx X 9) m (i + 1) f l := by
          show (if _ then (if _ then _ else _) else _) = _
          rw [if_neg (by rw [hw0, h25, hb0, h33]; simp)]
        rw [e2]
        exact hr
      · refine er_loc (pc' := 37) rfl rfl rfl ?_
        refine er_loc (pc' := 38) rfl rfl rfl ?_
        refine er_cIo (pc' := 41) (rest := []) 11 rfl rfl rfl rfl rfl rfl (l_minutesBackTo _ hI1 hT9 (k := i) (by rw [ho.j9]; omega)) ?_
        intro X2 Z2 ho2
        have hg0 : sGoM (jx X 9) i = sGoM (jx X1 9) i := by rw [ho.j9]
        refine er_loc (pc' := 43) (L' := [(4, _), (0, _), (1, _), (2, _), (3, _)]) rfl rfl rfl ?_
        refine er_loc (pc' := 44) rfl rfl rfl ?_
        refine er_if_lt (pc' := 47) rfl rfl (fun h44 => ?_) (fun h44 => ?_)
        · refine er_loc (pc' := 54) rfl rfl rfl ?_
          refine er_loc (pc' := 55) (L' := [(1, _), (4, _), (0, _), (2, _), (3, _)]) rfl rfl rfl ?_
          refine er_loc (pc' := 57) rfl rfl rfl ?_
          refine er_loc (pc' := 58) (L' := [(2, _), (1, _), (4, _), (0, _), (3, _)]) rfl rfl rfl ?_
          refine er_loc (L' := [(3, .int (_ + nI 1)), (2, _), (1, _), (4, _), (0, _)]) rfl rfl rfl ?_
          refine er_goto rfl ?_
          refine ER_loc [(0, _), (1, _), (2, _), (3, _)] rfl (List.forall_mem_cons.mpr ⟨rfl, List.forall_mem_cons.mpr ⟨rfl, List.forall_mem_cons.mpr ⟨rfl, List.forall_mem_cons.mpr ⟨rfl, fun _ h => absurd h List.not_mem_nil⟩⟩⟩⟩) rfl rfl ?_
          refine l_look_loop d hI hT9 P m (i + 1) _ _ _ _ _ (by omega) (nI_add i 1) (ho.trans ho2) ?_
          intro r hr; apply hP
          have e2 : lkF (jx X 9) (m + 1) i f l = lkF (jx X 9) m (i + 1) (nI i) (sGoM (jx X 9) i) := by
            show (if _ then (if _ then _ else _) else _) = _
            rw [if_pos (by rw [hw0, h25, hb0, h33]; rfl), if_pos (Or.inl h44)]
          rw [e2, hg0]
          exact hr
        · refine er_loc (pc' := 49) rfl rfl rfl ?_
          refine er_loc (pc' := 50) rfl rfl rfl ?_
          refine er_cm_ge (pc' := 53) rfl rfl (fun h50 => ?_) (fun h50 => ?_)
          · refine er_loc (L' := [(3, .int (_ + nI 1)), (4, _), (0, _), (1, _), (2, _)]) rfl rfl rfl ?_
            refine er_goto rfl ?_
            refine ER_loc [(0, _), (1, _), (2, _), (3, _)] rfl (List.forall_mem_cons.mpr ⟨rfl, List.forall_mem_cons.mpr ⟨rfl, List.forall_mem_cons.mpr ⟨rfl, List.forall_mem_cons.mpr ⟨rfl, fun _ h => absurd h List.not_mem_nil⟩⟩⟩⟩) rfl rfl ?_
            refine l_look_loop d hI hT9 P m (i + 1) _ _ _ _ _ (by omega) (nI_add i 1) (ho.trans ho2) ?_
            intro r hr; apply hP
            have e2 : lkF (jx X 9) (m + 1) i f l = lkF (jx X 9) m (i + 1) f l := by
              show (if _ then (if _ then _ else _) else _) = _
              rw [if_pos (by rw [hw0, h25, hb0, h33]; rfl), if_neg (by rw [hg0]; exact fun q => q.elim h44 h50)]
            rw [e2]
            exact hr
          · refine er_loc (pc' := 54) rfl rfl rfl ?_
            refine er_loc (pc' := 55) (L' := [(1, _), (4, _), (0, _), (2, _), (3, _)]) rfl rfl rfl ?_
            refine er_loc (pc' := 57) rfl rfl rfl ?_
            refine er_loc (pc' := 58) (L' := [(2, _), (1, _), (4, _), (0, _), (3, _)]) rfl rfl rfl ?_
            refine er_loc (L' := [(3, .int (_ + nI 1)), (2, _), (1, _), (4, _), (0, _)]) rfl rfl rfl ?_
            refine er_goto rfl ?_
            refine ER_loc [(0, _), (1, _), (2, _), (3, _)] rfl (List.forall_mem_cons.mpr ⟨rfl, List.forall_mem_cons.mpr ⟨rfl, List.forall_mem_cons.mpr ⟨rfl, List.forall_mem_cons.mpr ⟨rfl, fun _ h => absurd h List.not_mem_nil⟩⟩⟩⟩) rfl rfl ?_
            refine l_look_loop d hI hT9 P m (i + 1) _ _ _ _ _ (by omega) (nI_add i 1) (ho.trans ho2) ?_
            intro r hr; apply hP
            have e2 : lkF (jx X 9) (m + 1) i f l = lkF (jx X 9) m (i + 1) (nI i) (sGoM (jx X 9) i) := by
              show (if _ then (if _ then _ else _) else _) = _
              rw [if_pos (by rw [hw0, h25, hb0, h33]; rfl), if_pos (Or.inr (by rw [hg0]; exact h50))]
            rw [e2, hg0]
            exact hr
set_option maxRecDepth 100000 in
set_option maxHeartbeats 4000000 in
theorem l_lookAt (d : Nat) (X Z : Nat → Nat → Int32) {T : Nat} (hI : IJ T (jx X 9)) (hT9 : T < 1000000) : EC (d + 7) 104 [.ref 0] (Wd X Z) (LkP X (lkF (jx X 9) (jn (jx X 9)) 0 (-1) (nI 0))) := by
  refine er_enter (L := [(0, _)]) rfl rfl rfl ?_
  refine er_k (pc' := 1) (-1) rfl rfl rfl ?_
  refine er_loc (pc' := 2) (L' := [(1, _), (0, _)]) rfl rfl rfl ?_
  refine er_k (pc' := 3) (nI 0) rfl rfl rfl ?_
  refine er_loc (pc' := 4) (L' := [(2, _), (1, _), (0, _)]) rfl rfl rfl ?_
  refine er_k (pc' := 5) (nI 0) rfl rfl rfl ?_
  refine er_loc (pc' := 6) (L' := [(3, _), (2, _), (1, _), (0, _)]) rfl rfl rfl ?_
  refine ER_loc [(0, _), (1, _), (2, _), (3, _)] rfl (List.forall_mem_cons.mpr ⟨rfl, List.forall_mem_cons.mpr ⟨rfl, List.forall_mem_cons.mpr ⟨rfl, List.forall_mem_cons.mpr ⟨rfl, fun _ h => absurd h List.not_mem_nil⟩⟩⟩⟩) rfl rfl ?_
  exact l_look_loop d hI hT9 _ (jn (jx X 9)) 0 X Z _ _ _ (by omega) rfl (OT.rf X) (fun _ h => h)
def sRight (J : Nat → Nat → Int32) (k : Nat) : Nat → Int32
  | 0 => nI 0
  | i + 1 => sRight J k i + (nI 1 - sErrsBy J (J 2 k) (nI i) (J 1 k))
def sRem (x y : Int32) : Int32 := x - x / y * y
def sRed : Nat → Int32 → Int32 → Int32 × Int32
  | 0, a, b => (a, b)
  | m + 1, a, b => if sRem a (nI (m + 2)) = 0 ∧ sRem b (nI (m + 2)) = 0 then sRed m (a / nI (m + 2)) (b / nI (m + 2)) else sRed m a b
def sOdds (J : Nat → Nat → Int32) (k : Nat) : Int32 × Int32 := sRed 9 (sRight J k 10) (nI 10)
set_option maxRecDepth 100000 in
set_option maxHeartbeats 4000000 in
theorem l_odd_loop (d : Nat) {X : Nat → Nat → Int32} {T : Nat} (hI : IJ T (jx X 9)) {k : Nat} (hk : k < jn (jx X 9)) (w : Int32) (P : ab_R → Prop) : ∀ (m i : Nat) (Z : Nat → Nat → Int32) (v x : Int32), i + m = 10 → x = nI i → v = sRight (jx X 9) k i → (∀ Z2 x2, ER (d + 3) tb_m108 76 [(0, .ref 0), (1, .int (nI k)), (2, .int w), (3, .int (sRight (jx X 9) k 10)), (4, .int x2)] [] (Wd X Z2) P) → ER (d + 3) tb_m108 31 [(0, .ref 0), (1, .int (nI k)), (2, .int w), (3, .int v), (4, .int x)] [] (Wd X Z) P
  | 0, i, Z, v, x, hi, hx, hv, hP => by
    have hi0 : i = 10 := by omega
    subst hx
    subst hv
    subst hi0
    refine er_loc (pc' := 33) rfl rfl rfl ?_
    refine er_k (pc' := 35) (nI 9) rfl rfl rfl ?_
    refine er_cm_gtT rfl (nI_lt (by omega) (by omega)) ?_
    exact hP Z _
  | m + 1, i, Z, v, x, hi, hx, hv, hP => by
    have h8 := jn8 hI
    have hk8 : k < 8 := by omega
    subst hx
    subst hv
    refine er_loc (pc' := 33) rfl rfl rfl ?_
    refine er_k (pc' := 35) (nI 9) rfl rfl rfl ?_
    refine er_cm_gtF (pc' := 38) rfl (nI_nlt (by omega) (by omega)) rfl ?_
    refine er_loc (pc' := 39) rfl rfl rfl ?_
    refine er_k (pc' := 40) (nI 1) rfl rfl rfl ?_
    refine er_loc (pc' := 41) rfl rfl rfl ?_
    refine er_gf (pc' := 44) (_) rfl rfl rfl rfl rfl ?_
    refine er_loc (pc' := 45) rfl rfl rfl ?_
    refine er_gf (pc' := 48) (_) rfl rfl rfl rfl rfl ?_
    refine er_gf (pc' := 51) (_) rfl rfl rfl rfl rfl ?_
    refine er_loc (pc' := 52) rfl rfl rfl ?_
    refine er_ia (pc' := 53) (k) rfl rfl rfl rfl (by omega) rfl rfl ?_
    refine er_loc (pc' := 55) rfl rfl rfl ?_
    refine er_loc (pc' := 56) rfl rfl rfl ?_
    refine er_gf (pc' := 59) (_) rfl rfl rfl rfl rfl ?_
    refine er_gf (pc' := 62) (_) rfl rfl rfl rfl rfl ?_
    refine er_loc (pc' := 63) rfl rfl rfl ?_
    refine er_ia (pc' := 64) (k) rfl rfl rfl rfl (by omega) rfl rfl ?_
    refine er_cIz (pc' := 67) (rest := [_, _]) 7 rfl rfl rfl rfl rfl rfl (l_errsBy _ j9 _ _ hI _ _ _) ?_
    intro Z1
    refine er_isub (pc' := 68) rfl rfl ?_
    refine er_iadd (pc' := 69) rfl rfl ?_
    refine er_loc (pc' := 70) (L' := [(3, _), (0, _), (1, _), (2, _), (4, _)]) rfl rfl rfl ?_
    refine er_loc (L' := [(4, .int (_ + nI 1)), (3, _), (0, _), (1, _), (2, _)]) rfl rfl rfl ?_
    refine er_goto rfl ?_
    refine ER_loc [(0, _), (1, _), (2, _), (3, _), (4, _)] rfl (List.forall_mem_cons.mpr ⟨rfl, List.forall_mem_cons.mpr ⟨rfl, List.forall_mem_cons.mpr ⟨rfl, List.forall_mem_cons.mpr ⟨rfl, List.forall_mem_cons.mpr ⟨rfl, fun _ h => absurd h List.not_mem_nil⟩⟩⟩⟩⟩) rfl rfl ?_
    refine l_odd_loop d hI hk w P m (i + 1) _ _ _ (by omega) (nI_add i 1) ?_ hP
    show _ = _ + (nI 1 - _)
    rw [jx2 hk8, jx1 hk8]
set_option maxRecDepth 100000 in
set_option maxHeartbeats 4000000 in
theorem l_red_loop (d : Nat) {X : Nat → Nat → Int32} (w : Int32) (P : ab_R → Prop) : ∀ (m : Nat) (p q x : Int32) (Z : Nat → Nat → Int32), x = nI (m + 1) → (∀ r, RI (if w = 0 then (sRed m p q).1 else (sRed m p q).2) X r → P r) ∧ m ≤ 9 → ER (d + 3) tb_m108 84 [(0, .ref 0), (2, .int w), (3, .int p), (4, .int q), (5, .int x)] [] (Wd X Z) P
  | 0, p, q, x, Z, hx, hP => by
    subst hx
    refine er_loc (pc' := 86) rfl rfl rfl ?_
    refine er_k (pc' := 87) (nI 1) rfl rfl rfl ?_
    refine er_cm_leT rfl (nI_nlt (by omega) (by omega)) ?_
    refine er_loc (pc' := 124) rfl rfl rfl ?_
    refine er_if_ne (pc' := 127) rfl rfl (fun h124 => ?_) (fun h124 => ?_)
    · refine er_loc (pc' := 133) rfl rfl rfl ?_
      refine er_iret rfl rfl ?_
      apply hP.1
      rw [if_neg h124]
      exact RI_of rfl rfl
    · refine er_loc (pc' := 128) rfl rfl rfl ?_
      refine er_goto rfl ?_
      refine er_iret rfl rfl ?_
      apply hP.1
      rw [if_pos h124]
      exact RI_of rfl rfl
  | m + 1, p, q, x, Z, hx, hP => by
    have hm9 := hP.2
    subst hx
    refine er_loc (pc' := 86) rfl rfl rfl ?_
    refine er_k (pc' := 87) (nI 1) rfl rfl rfl ?_
    refine er_cm_leF (pc' := 90) rfl (nI_lt (by omega) (by omega)) rfl ?_
    refine er_loc (pc' := 91) rfl rfl rfl ?_
    refine er_loc (pc' := 93) rfl rfl rfl ?_
    refine er_irem (pc' := 94) rfl rfl (by have := nI_ne0 (n := m + 2) (by omega) (by omega); exact this) ?_
    refine er_if_ne (pc' := 97) rfl rfl (fun h94 => ?_) (fun h94 => ?_)
    · refine er_loc (L' := [(5, .int (_ + (-1))), (0, _), (2, _), (3, _), (4, _)]) rfl rfl rfl ?_
      refine er_goto rfl ?_
      refine ER_loc [(0, _), (2, _), (3, _), (4, _), (5, _)] rfl (List.forall_mem_cons.mpr ⟨rfl, List.forall_mem_cons.mpr ⟨rfl, List.forall_mem_cons.mpr ⟨rfl, List.forall_mem_cons.mpr ⟨rfl, List.forall_mem_cons.mpr ⟨rfl, fun _ h => absurd h List.not_mem_nil⟩⟩⟩⟩⟩) rfl rfl ?_
      refine l_red_loop d w P m _ _ _ Z (by rw [nI_addm1 (by omega)]; rfl) ?_
      have e2 : sRed (m + 1) p q = sRed m p q := by
        show (if _ then _ else _) = _
        rw [if_neg (fun c => h94 c.1)]
      rw [← e2]
      exact ⟨hP.1, by omega⟩
    · refine er_loc (pc' := 99) rfl rfl rfl ?_
      refine er_loc (pc' := 101) rfl rfl rfl ?_
      refine er_irem (pc' := 102) rfl rfl (by have := nI_ne0 (n := m + 2) (by omega) (by omega); exact this) ?_
      refine er_if_ne (pc' := 105) rfl rfl (fun h102 => ?_) (fun h102 => ?_)
      · refine er_loc (L' := [(5, .int (_ + (-1))), (0, _), (2, _), (3, _), (4, _)]) rfl rfl rfl ?_
        refine er_goto rfl ?_
        refine ER_loc [(0, _), (2, _), (3, _), (4, _), (5, _)] rfl (List.forall_mem_cons.mpr ⟨rfl, List.forall_mem_cons.mpr ⟨rfl, List.forall_mem_cons.mpr ⟨rfl, List.forall_mem_cons.mpr ⟨rfl, List.forall_mem_cons.mpr ⟨rfl, fun _ h => absurd h List.not_mem_nil⟩⟩⟩⟩⟩) rfl rfl ?_
        refine l_red_loop d w P m _ _ _ Z (by rw [nI_addm1 (by omega)]; rfl) ?_
        have e2 : sRed (m + 1) p q = sRed m p q := by
          show (if _ then _ else _) = _
          rw [if_neg (fun c => h102 c.2)]
        rw [← e2]
        exact ⟨hP.1, by omega⟩
      · refine er_loc (pc' := 106) rfl rfl rfl ?_
        refine er_loc (pc' := 108) rfl rfl rfl ?_
        refine er_idiv (pc' := 109) rfl rfl (by have := nI_ne0 (n := m + 2) (by omega) (by omega); exact this) ?_
        refine er_loc (pc' := 110) (L' := [(3, _), (0, _), (2, _), (4, _), (5, _)]) rfl rfl rfl ?_
        refine er_loc (pc' := 112) rfl rfl rfl ?_
        refine er_loc (pc' := 114) rfl rfl rfl ?_
        refine er_idiv (pc' := 115) rfl rfl (by have := nI_ne0 (n := m + 2) (by omega) (by omega); exact this) ?_
        refine er_loc (pc' := 117) (L' := [(4, _), (3, _), (0, _), (2, _), (5, _)]) rfl rfl rfl ?_
        refine er_loc (L' := [(5, .int (_ + (-1))), (4, _), (3, _), (0, _), (2, _)]) rfl rfl rfl ?_
        refine er_goto rfl ?_
        refine ER_loc [(0, _), (2, _), (3, _), (4, _), (5, _)] rfl (List.forall_mem_cons.mpr ⟨rfl, List.forall_mem_cons.mpr ⟨rfl, List.forall_mem_cons.mpr ⟨rfl, List.forall_mem_cons.mpr ⟨rfl, List.forall_mem_cons.mpr ⟨rfl, fun _ h => absurd h List.not_mem_nil⟩⟩⟩⟩⟩) rfl rfl ?_
        refine l_red_loop d w P m _ _ _ Z (by rw [nI_addm1 (by omega)]; rfl) ?_
        have e2 : sRed (m + 1) p q = sRed m (p / nI (m + 2)) (q / nI (m + 2)) := by
          show (if _ then _ else _) = _
          rw [if_pos ⟨h94, h102⟩]
        rw [← e2]
        exact ⟨hP.1, by omega⟩
set_option maxRecDepth 100000 in
set_option maxHeartbeats 4000000 in
theorem l_odds (d : Nat) (X Z : Nat → Nat → Int32) {T : Nat} (hI : IJ T (jx X 9)) {k : Nat} (hk : k < jn (jx X 9)) (w : Int32) : EC (d + 4) 108 [.ref 0, .int (nI k), .int w] (Wd X Z) (fun r => if sIn w (nI 0) (nI 1) = true then RI (if w = 0 then (sOdds (jx X 9) k).1 else (sOdds (jx X 9) k).2) X r else RI (sErr 1) (xErr X 1) r) := by
  refine er_enter (L := [(0, _), (1, _), (2, _)]) rfl rfl rfl ?_
  refine er_loc (pc' := 1) rfl rfl rfl ?_
  refine er_gf (pc' := 4) (_) rfl rfl rfl rfl rfl ?_
  refine er_loc (pc' := 5) rfl rfl rfl ?_
  refine er_cIi (pc' := 8) (rest := []) 7 rfl rfl rfl rfl rfl rfl (l_has_t _ j9 _ _ hI hk) ?_
  refine er_if_eqF (pc' := 11) rfl (by decide +kernel) rfl ?_
  refine er_loc (pc' := 12) rfl rfl rfl ?_
  refine er_k (pc' := 13) (nI 0) rfl rfl rfl ?_
  refine er_k (pc' := 14) (nI 1) rfl rfl rfl ?_
  refine er_cSi (pc' := 17) (rest := []) rfl rfl rfl (l_within _ _ _ _ _) ?_
  refine er_if_neb (pc' := 20) rfl rfl (fun h17 => ?_) (fun h17 => ?_)
  · refine er_k (pc' := 27) (nI 0) rfl rfl rfl ?_
    refine er_loc (pc' := 28) (L' := [(3, _), (0, _), (1, _), (2, _)]) rfl rfl rfl ?_
    refine er_k (pc' := 29) (nI 0) rfl rfl rfl ?_
    refine er_loc (pc' := 31) (L' := [(4, _), (3, _), (0, _), (1, _), (2, _)]) rfl rfl rfl ?_
    refine ER_loc [(0, _), (1, _), (2, _), (3, _), (4, _)] rfl (List.forall_mem_cons.mpr ⟨rfl, List.forall_mem_cons.mpr ⟨rfl, List.forall_mem_cons.mpr ⟨rfl, List.forall_mem_cons.mpr ⟨rfl, List.forall_mem_cons.mpr ⟨rfl, fun _ h => absurd h List.not_mem_nil⟩⟩⟩⟩⟩) rfl rfl ?_
    refine l_odd_loop d hI hk w _ 10 0 Z _ _ (by omega) rfl rfl ?_
    intro Z2 x2
    refine er_k (pc' := 78) (nI 10) rfl rfl rfl ?_
    refine er_loc (L' := [(4, _), (0, _), (1, _), (2, _), (3, _)]) (pc' := 80) rfl rfl rfl ?_
    refine er_loc (pc' := 82) rfl rfl rfl ?_
    refine er_loc (L' := [(5, _), (4, _), (0, _), (1, _), (2, _), (3, _)]) (pc' := 84) rfl rfl rfl ?_
    refine ER_loc [(0, _), (2, _), (3, _), (4, _), (5, _)] rfl (List.forall_mem_cons.mpr ⟨rfl, List.forall_mem_cons.mpr ⟨rfl, List.forall_mem_cons.mpr ⟨rfl, List.forall_mem_cons.mpr ⟨rfl, List.forall_mem_cons.mpr ⟨rfl, fun _ h => absurd h List.not_mem_nil⟩⟩⟩⟩⟩) rfl rfl ?_
    refine l_red_loop d w _ 9 _ _ _ Z2 rfl ⟨fun r hr => ?_, by omega⟩
    rw [if_pos h17]
    exact hr
  · refine er_loc (pc' := 21) rfl rfl rfl ?_
    refine er_k (pc' := 22) (nI 1) rfl rfl rfl ?_
    refine er_cIz (pc' := 25) (rest := []) 11 rfl rfl rfl rfl rfl rfl (l_error _ _ _ 1 (by decide)) ?_
    intro Z9
    refine er_iret rfl rfl ?_
    rw [if_neg (by rw [h17]; decide)]
    exact RI_of rfl rfl
end
section
/-! THE FACE: whose, all, check, image, restore -/
def wh (J : Nat → Nat → Int32) (q : Int32) : Nat → Int32 → Int32 → Int32 × Int32
  | 0, f, l => (f, l)
  | s + 1, f, l => if (nI s &&& (J 0 6 ^^^ (-1))) = 0 ∧ sSum J (nI s) (jn J) = q then wh J q s (f + nI 1) (nI s) else wh J q s f l
def sWh (J : Nat → Nat → Int32) (q : Int32) : Int32 × Int32 := wh J q (2 ^ jn J) (nI 0) (-1)
def WhP (X : Nat → Nat → Int32) (w : Int32) (q : Int32 × Int32) : ab_R → Prop := fun r => if w = 0 then RI q.1 X r else if q.2 < 0 then RI (sErr 2) (xErr X 2) r else RI q.2 X r
theorem nIs_lt {s : Nat} : nI 0 - nI 1 < 0 := by decide +kernel
theorem pow_nI {n : Nat} (h : n ≤ 8) : nI 1 <<< (nI n &&& 31) - nI 1 = nI (2 ^ n) - nI 1 := fin_le (m := 8) (p := fun n => nI 1 <<< (nI n &&& 31) - nI 1 = nI (2 ^ n) - nI 1) h (by decide +kernel)
theorem pow_le {n : Nat} (h : n ≤ 8) : 2 ^ n ≤ 256 := Nat.pow_le_pow_right (by omega) h
set_option maxRecDepth 100000 in
set_option maxHeartbeats 4000000 in
theorem l_whose_loop (d : Nat) {X Z : Nat → Nat → Int32} {T : Nat} (hI : IJ T (jx X 9)) (q w : Int32) (P : ab_R → Prop) : ∀ (s : Nat) (f l x : Int32), x = nI s - nI 1 → s ≤ 256 → (∀ r, WhP X w (wh (jx X 9) q s f l) r → P r) → ER (d + 2) tb_m103 43 [(0, .ref 0), (1, .int q), (2, .int w), (3, .int f), (4, .int l), (5, .int x)] [] (Wd X Z) P
  | 0, f, l, x, hx, hs, hP => by
    subst hx
    refine er_loc (pc' := 45) rfl rfl rfl ?_
    refine er_if_ltT rfl (by decide +kernel) ?_
    refine er_loc (pc' := 90) rfl rfl rfl ?_
    refine er_if_ne (pc' := 93) rfl rfl (fun h90 => ?_) (fun h90 => ?_)
    · refine er_loc (pc' := 97) rfl rfl rfl ?_
      refine er_if_lt (pc' := 100) rfl rfl (fun h97 => ?_) (fun h97 => ?_)
      · refine er_loc (pc' := 106) rfl rfl rfl ?_
        refine er_k (pc' := 107) (nI 2) rfl rfl rfl ?_
        refine er_cIz (pc' := 110) (rest := []) 11 rfl rfl rfl rfl rfl rfl (l_error _ _ _ 2 (by decide)) ?_
        intro Z9
        refine er_iret rfl rfl ?_
        apply hP
        show WhP X w (f, l) _
        unfold WhP
        rw [if_neg h90, if_pos h97]
        exact RI_of rfl rfl
      · refine er_loc (pc' := 102) rfl rfl rfl ?_
        refine er_goto rfl ?_
        refine er_iret rfl rfl ?_
        apply hP
        show WhP X w (f, l) _
        unfold WhP
        rw [if_neg h90, if_neg h97]
        exact RI_of rfl rfl
    · refine er_loc (pc' := 94) rfl rfl rfl ?_
      refine er_iret rfl rfl ?_
      apply hP
      show WhP X w (f, l) _
      unfold WhP
      rw [if_pos h90]
      exact RI_of rfl rfl
  | s + 1, f, l, x, hx, hs, hP => by
    rw [nI_s1] at hx
    subst hx
    refine er_loc (pc' := 45) rfl rfl rfl ?_
    refine er_if_ltF (pc' := 48) rfl (nI_pos (by omega)) rfl ?_
    refine er_loc (pc' := 50) rfl rfl rfl ?_
    refine er_loc (pc' := 51) rfl rfl rfl ?_
    refine er_gf (pc' := 54) (_) rfl rfl rfl rfl rfl ?_
    refine er_gf (pc' := 57) (.int (X 9 6)) rfl rfl rfl rfl rfl ?_
    refine er_k (pc' := 58) (-1) rfl rfl rfl ?_
    refine er_ixor (pc' := 59) rfl rfl ?_
    refine er_iand (pc' := 60) rfl rfl ?_
    refine er_if_ne (pc' := 63) rfl rfl (fun h60 => ?_) (fun h60 => ?_)
    · refine er_loc (L' := [(5, .int (_ + (-1))), (0, _), (1, _), (2, _), (3, _), (4, _)]) rfl rfl rfl ?_
      refine er_goto rfl ?_
      refine ER_loc [(0, _), (1, _), (2, _), (3, _), (4, _), (5, _)] rfl (List.forall_mem_cons.mpr ⟨rfl, List.forall_mem_cons.mpr ⟨rfl, List.forall_mem_cons.mpr ⟨rfl, List.forall_mem_cons.mpr ⟨rfl, List.forall_mem_cons.mpr ⟨rfl, List.forall_mem_cons.mpr ⟨rfl, fun _ h => absurd h List.not_mem_nil⟩⟩⟩⟩⟩⟩) rfl rfl ?_
      refine l_whose_loop d hI q w P s _ _ _ (by rw [Int32.sub_eq_add_neg]; rfl) (by omega) ?_
      have e2 : wh (jx X 9) q (s + 1) f l = wh (jx X 9) q s f l := by
        show (if _ then _ else _) = _
        rw [if_neg (fun c => h60 c.1)]
      rw [← e2]
      exact hP
    · refine er_loc (pc' := 64) rfl rfl rfl ?_
      refine er_gf (pc' := 67) (_) rfl rfl rfl rfl rfl ?_
      refine er_loc (pc' := 69) rfl rfl rfl ?_
      refine er_cIi (pc' := 72) (rest := []) 7 rfl rfl rfl rfl rfl rfl (l_screwsOf _ j9 _ _ hI _) ?_
      refine er_loc (pc' := 73) rfl rfl rfl ?_
      refine er_cm_ne (pc' := 76) rfl rfl (fun h73 => ?_) (fun h73 => ?_)
      · refine er_loc (L' := [(5, .int (_ + (-1))), (0, _), (1, _), (2, _), (3, _), (4, _)]) rfl rfl rfl ?_
        refine er_goto rfl ?_
        refine ER_loc [(0, _), (1, _), (2, _), (3, _), (4, _), (5, _)] rfl (List.forall_mem_cons.mpr ⟨rfl, List.forall_mem_cons.mpr ⟨rfl, List.forall_mem_cons.mpr ⟨rfl, List.forall_mem_cons.mpr ⟨rfl, List.forall_mem_cons.mpr ⟨rfl, List.forall_mem_cons.mpr ⟨rfl, fun _ h => absurd h List.not_mem_nil⟩⟩⟩⟩⟩⟩) rfl rfl ?_
        refine l_whose_loop d hI q w P s _ _ _ (by rw [Int32.sub_eq_add_neg]; rfl) (by omega) ?_
        have e2 : wh (jx X 9) q (s + 1) f l = wh (jx X 9) q s f l := by
          show (if _ then _ else _) = _
          rw [if_neg (fun c => h73 c.2)]
        rw [← e2]
        exact hP
      · refine er_loc (pc' := 79) (L' := [(3, .int (_ + nI 1)), (0, _), (1, _), (2, _), (4, _), (5, _)]) rfl rfl rfl ?_
        refine er_loc (pc' := 81) rfl rfl rfl ?_
        refine er_loc (pc' := 83) (L' := [(4, _), (3, _), (0, _), (1, _), (2, _), (5, _)]) rfl rfl rfl ?_
        refine er_loc (L' := [(5, .int (_ + (-1))), (4, _), (3, _), (0, _), (1, _), (2, _)]) rfl rfl rfl ?_
        refine er_goto rfl ?_
        refine ER_loc [(0, _), (1, _), (2, _), (3, _), (4, _), (5, _)] rfl (List.forall_mem_cons.mpr ⟨rfl, List.forall_mem_cons.mpr ⟨rfl, List.forall_mem_cons.mpr ⟨rfl, List.forall_mem_cons.mpr ⟨rfl, List.forall_mem_cons.mpr ⟨rfl, List.forall_mem_cons.mpr ⟨rfl, fun _ h => absurd h List.not_mem_nil⟩⟩⟩⟩⟩⟩) rfl rfl ?_
        refine l_whose_loop d hI q w P s _ _ _ (by rw [Int32.sub_eq_add_neg]; rfl) (by omega) ?_
        have e2 : wh (jx X 9) q (s + 1) f l = wh (jx X 9) q s (f + nI 1) (nI s) := by
          show (if _ then _ else _) = _
          rw [if_pos ⟨by rw [show jx X 9 0 6 = X 9 6 from rfl]; exact h60, h73⟩]
        rw [← e2]
        exact hP
set_option maxRecDepth 100000 in
set_option maxHeartbeats 4000000 in
theorem l_whose (d : Nat) (X Z : Nat → Nat → Int32) {T : Nat} (hI : IJ T (jx X 9)) (q w : Int32) : EC (d + 3) 103 [.ref 0, .int q, .int w] (Wd X Z) (fun r => if (sIn q (nI 0) (nI 99) && sIn w (nI 0) (nI 1)) = true then WhP X w (sWh (jx X 9) q) r else RI (sErr 1) (xErr X 1) r) := by
  refine er_enter (L := [(0, _), (1, _), (2, _)]) rfl rfl rfl ?_
  have h8 := jn8 hI
  refine er_loc (pc' := 1) rfl rfl rfl ?_
  refine er_k (pc' := 2) (nI 0) rfl rfl rfl ?_
  refine er_k (pc' := 4) (nI 99) rfl rfl rfl ?_
  refine er_cSi (pc' := 7) (rest := []) rfl rfl rfl (l_within _ _ _ _ _) ?_
  refine er_if_eqb (pc' := 10) rfl rfl (fun h7 => ?_) (fun h7 => ?_)
  · refine er_loc (pc' := 20) rfl rfl rfl ?_
    refine er_k (pc' := 21) (nI 1) rfl rfl rfl ?_
    refine er_cIz (pc' := 24) (rest := []) 11 rfl rfl rfl rfl rfl rfl (l_error _ _ _ 1 (by decide)) ?_
    intro Z9
    refine er_iret rfl rfl ?_
    rw [if_neg (by first | (rw [h7]; simp; done) | (rw [h7, h16]; simp; done))]
    exact RI_of rfl rfl
  · refine er_loc (pc' := 11) rfl rfl rfl ?_
    refine er_k (pc' := 12) (nI 0) rfl rfl rfl ?_
    refine er_k (pc' := 13) (nI 1) rfl rfl rfl ?_
    refine er_cSi (pc' := 16) (rest := []) rfl rfl rfl (l_within _ _ _ _ _) ?_
    refine er_if_neb (pc' := 19) rfl rfl (fun h16 => ?_) (fun h16 => ?_)
    · refine er_k (pc' := 26) (nI 0) rfl rfl rfl ?_
      refine er_loc (pc' := 27) (L' := [(3, _), (0, _), (1, _), (2, _)]) rfl rfl rfl ?_
      refine er_k (pc' := 28) (-1) rfl rfl rfl ?_
      refine er_loc (pc' := 30) (L' := [(4, _), (3, _), (0, _), (1, _), (2, _)]) rfl rfl rfl ?_
      refine er_k (pc' := 31) (nI 1) rfl rfl rfl ?_
      refine er_loc (pc' := 32) rfl rfl rfl ?_
      refine er_gf (pc' := 35) (_) rfl rfl rfl rfl rfl ?_
      refine er_gf (pc' := 38) (.int (X 9 1)) rfl rfl rfl rfl rfl ?_
      rw [show X 9 1 = nI (jn (jx X 9)) from hI.n.1]
      refine er_ishl (pc' := 39) rfl rfl ?_
      refine er_k (pc' := 40) (nI 1) rfl rfl rfl ?_
      refine er_isub (pc' := 41) rfl rfl ?_
      rw [pow_nI h8]
      refine er_loc (pc' := 43) (L' := [(5, _), (4, _), (3, _), (0, _), (1, _), (2, _)]) rfl rfl rfl ?_
      refine ER_loc [(0, _), (1, _), (2, _), (3, _), (4, _), (5, _)] rfl (List.forall_mem_cons.mpr ⟨rfl, List.forall_mem_cons.mpr ⟨rfl, List.forall_mem_cons.mpr ⟨rfl, List.forall_mem_cons.mpr ⟨rfl, List.forall_mem_cons.mpr ⟨rfl, List.forall_mem_cons.mpr ⟨rfl, fun _ h => absurd h List.not_mem_nil⟩⟩⟩⟩⟩⟩) rfl rfl ?_
      refine l_whose_loop d hI q w _ (2 ^ jn (jx X 9)) _ _ _ rfl (pow_le h8) (fun r hr => ?_)
      rw [if_pos (by rw [h7, h16]; rfl)]
      exact hr
    · refine er_loc (pc' := 20) rfl rfl rfl ?_
      refine er_k (pc' := 21) (nI 1) rfl rfl rfl ?_
      refine er_cIz (pc' := 24) (rest := []) 11 rfl rfl rfl rfl rfl rfl (l_error _ _ _ 1 (by decide)) ?_
      intro Z9
      refine er_iret rfl rfl ?_
      rw [if_neg (by first | (rw [h7]; simp; done) | (rw [h7, h16]; simp; done))]
      exact RI_of rfl rfl
def jS (J : Nat → Nat → Int32) : Nat → Nat → Int32 := match sFirst J (jn J) 0 with
  | none => J
  | some k => jFin J k
def jIt (J : Nat → Nat → Int32) : Nat → Nat → Nat → Int32
  | 0 => J
  | i + 1 => jS (jIt J i)
def sAll (J : Nat → Nat → Int32) (w : Int32) : Int32 := if w = 0 then jIt J 8 0 10 - J 0 10 else if w = nI 1 then sOpen (jIt J 8) else sPop (jIt J 8 0 7)
theorem jS_none {J : Nat → Nat → Int32} (h : sFirst J (jn J) 0 = none) : jS J = J := by unfold jS; rw [h]
theorem jS_some {J : Nat → Nat → Int32} {k : Nat} (h : sFirst J (jn J) 0 = some k) : jS J = jFin J k := by unfold jS; rw [h]
theorem fI_neg : fI none < 0 := by decide +kernel
theorem fI_pos {k : Nat} (h : k < 100) : ¬ fI (some k) < 0 := nI_pos (by omega)
set_option maxRecDepth 100000 in
set_option maxHeartbeats 4000000 in
theorem l_all_loop (d : Nat) {X : Nat → Nat → Int32} {T0 : Nat} (hI : IJ T0 (jx X 9)) (w : Int32) (P : ab_R → Prop) : ∀ (m i T : Nat) (X1 Z : Nat → Nat → Int32) (x : Int32), i + m = 8 → x = nI i → OT X X1 → jx X1 35 = jIt (jx X 9) i → IJ T (jx X1 35) → T + 300 * m < 1000000000 → (∀ r, RO (sAll (jx X 9) w) X r → P r) → ER (d + 6) tb_m95 28 [(0, .ref 0), (1, .int w), (2, .int x)] [] (Wd X1 Z) P
  | 0, i, T, X1, Z, x, hi, hx, ho, hj, hI1, hb, hP => by
    have hi0 : i = 8 := by omega
    subst hx
    subst hi0
    refine er_loc (pc' := 29) rfl rfl rfl ?_
    refine er_k (pc' := 31) (nI 8) rfl rfl rfl ?_
    refine er_cm_geT rfl (nI_nlt (by omega) (by omega)) ?_
    refine er_loc (pc' := 61) rfl rfl rfl ?_
    refine er_if_ne (pc' := 64) rfl rfl (fun h61 => ?_) (fun h61 => ?_)
    · refine er_loc (pc' := 81) rfl rfl rfl ?_
      refine er_k (pc' := 82) (nI 1) rfl rfl rfl ?_
      refine er_cm_ne (pc' := 85) rfl rfl (fun h82 => ?_) (fun h82 => ?_)
      · refine er_loc (pc' := 96) rfl rfl rfl ?_
        refine er_gf (pc' := 99) (_) rfl rfl rfl rfl rfl ?_
        refine er_gf (pc' := 102) (.int (X1 35 7)) rfl rfl rfl rfl rfl ?_
        refine er_cSi (pc' := 105) (rest := []) rfl rfl rfl (l_bitCount _ _ _) ?_
        refine er_iret rfl rfl ?_
        apply hP
        refine RO_of ?_ ho
        unfold sAll
        rw [if_neg h61, if_neg h82, ← hj, jx07]
      · refine er_loc (pc' := 86) rfl rfl rfl ?_
        refine er_gf (pc' := 89) (_) rfl rfl rfl rfl rfl ?_
        refine er_cIi (pc' := 92) (rest := []) 7 rfl rfl rfl rfl rfl rfl (l_howManyOpen _ j35 _ _) ?_
        refine er_goto rfl ?_
        refine er_iret rfl rfl ?_
        apply hP
        refine RO_of ?_ ho
        unfold sAll
        rw [if_neg h61, if_pos h82, ← hj]
    · refine er_loc (pc' := 65) rfl rfl rfl ?_
      refine er_gf (pc' := 68) (_) rfl rfl rfl rfl rfl ?_
      refine er_gf (pc' := 71) (.int (X1 35 10)) rfl rfl rfl rfl rfl ?_
      refine er_loc (pc' := 72) rfl rfl rfl ?_
      refine er_gf (pc' := 75) (_) rfl rfl rfl rfl rfl ?_
      refine er_gf (pc' := 78) (.int (X1 9 10)) rfl rfl rfl rfl rfl ?_
      refine er_isub (pc' := 79) rfl rfl ?_
      refine er_iret rfl rfl ?_
      apply hP
      refine RO_of ?_ ho
      unfold sAll
      rw [if_pos h61, ← hj, jx010, jx010, ho 9 (by omega)]
  | m + 1, i, T, X1, Z, x, hi, hx, ho, hj, hI1, hb, hP => by
    subst hx
    refine er_loc (pc' := 29) rfl rfl rfl ?_
    refine er_k (pc' := 31) (nI 8) rfl rfl rfl ?_
    refine er_cm_geF (pc' := 34) rfl (nI_lt (by omega) (by omega)) rfl ?_
    refine er_loc (pc' := 35) rfl rfl rfl ?_
    refine er_gf (pc' := 38) (_) rfl rfl rfl rfl rfl ?_
    refine er_cIi (pc' := 41) (rest := []) 7 rfl rfl rfl rfl rfl rfl (l_leastThatMay _ j35 _ _ hI1) ?_
    rcases hq : sFirst (jx X1 35) (jn (jx X1 35)) 0 with _ | k
    · refine er_loc (L' := [(3, _), (0, _), (1, _), (2, _)]) (pc' := 42) rfl rfl rfl ?_
      refine er_loc (pc' := 43) rfl rfl rfl ?_
      refine er_if_ltT rfl fI_neg ?_
      refine er_loc (L' := [(2, .int (_ + nI 1)), (3, _), (0, _), (1, _)]) (pc' := 57) rfl rfl rfl ?_
      refine er_goto rfl ?_
      refine ER_loc [(0, _), (1, _), (2, _)] rfl (List.forall_mem_cons.mpr ⟨rfl, List.forall_mem_cons.mpr ⟨rfl, List.forall_mem_cons.mpr ⟨rfl, fun _ h => absurd h List.not_mem_nil⟩⟩⟩) rfl rfl ?_
      refine l_all_loop d hI w P m (i + 1) (T + 300) X1 _ _ (by omega) (nI_add i 1) ho ?_ (hI1.mono (by omega)) (by omega) hP
      rw [hj] at hq
      show _ = jS (jIt (jx X 9) i)
      rw [jS_none hq]
      exact hj
    · have hm := sFirst_some hq
      have hk := (mayDo_k hm).1
      have h8 := jn8 hI1
      refine er_loc (L' := [(3, _), (0, _), (1, _), (2, _)]) (pc' := 42) rfl rfl rfl ?_
      refine er_loc (pc' := 43) rfl rfl rfl ?_
      refine er_if_ltF (pc' := 46) rfl (fI_pos (by omega)) rfl ?_
      refine er_loc (pc' := 47) rfl rfl rfl ?_
      refine er_gf (pc' := 50) (_) rfl rfl rfl rfl rfl ?_
      refine er_loc (pc' := 51) rfl rfl rfl ?_
      refine er_cIv (pc' := 54) (rest := []) 7 rfl rfl rfl rfl rfl rfl (l_finish _ j35 _ _ hI1 (k := k) hk) ?_
      intro Z7
      refine er_loc (L' := [(2, .int (_ + nI 1)), (3, _), (0, _), (1, _)]) (pc' := 57) rfl rfl rfl ?_
      refine er_goto rfl ?_
      refine ER_loc [(0, _), (1, _), (2, _)] rfl (List.forall_mem_cons.mpr ⟨rfl, List.forall_mem_cons.mpr ⟨rfl, List.forall_mem_cons.mpr ⟨rfl, fun _ h => absurd h List.not_mem_nil⟩⟩⟩) rfl rfl ?_
      refine l_all_loop d hI w P m (i + 1) (T + 300) _ _ _ (by omega) (nI_add i 1) ho.fin ?_ ?_ (by omega) hP
      · rw [jx_xFin (by omega)]
        rw [hj] at hq ⊢
        show _ = jS (jIt (jx X 9) i)
        rw [jS_some hq]
      · rw [jx_xFin (by omega)]
        exact hI1.fin (by omega) hm
set_option maxRecDepth 100000 in
set_option maxHeartbeats 4000000 in
theorem l_all (d : Nat) (X Z : Nat → Nat → Int32) {T : Nat} (hI : IJ T (jx X 9)) (hT9 : T < 1000000) (w : Int32) : EC (d + 7) 95 [.ref 0, .int w] (Wd X Z) (fun r => if sIn w (nI 0) (nI 2) = true then RO (sAll (jx X 9) w) X r else RI (sErr 1) (xErr X 1) r) := by
  refine er_enter (L := [(0, _), (1, _)]) rfl rfl rfl ?_
  refine er_loc (pc' := 1) rfl rfl rfl ?_
  refine er_k (pc' := 2) (nI 0) rfl rfl rfl ?_
  refine er_k (pc' := 3) (nI 2) rfl rfl rfl ?_
  refine er_cSi (pc' := 6) (rest := []) rfl rfl rfl (l_within _ _ _ _ _) ?_
  refine er_if_neb (pc' := 9) rfl rfl (fun h6 => ?_) (fun h6 => ?_)
  · refine er_loc (pc' := 16) rfl rfl rfl ?_
    refine er_gf (pc' := 19) (_) rfl rfl rfl rfl rfl ?_
    refine er_loc (pc' := 20) rfl rfl rfl ?_
    refine er_gf (pc' := 23) (_) rfl rfl rfl rfl rfl ?_
    refine er_cIt (pc' := 26) (rest := []) 7 rfl rfl rfl rfl rfl rfl (l_take_35_9 _ _ _ hI) ?_
    intro X1 Z1 hj1 ho1
    refine er_k (pc' := 27) (nI 0) rfl rfl rfl ?_
    refine er_loc (pc' := 28) (L' := [(2, _), (0, _), (1, _)]) rfl rfl rfl ?_
    refine ER_loc [(0, _), (1, _), (2, _)] rfl (List.forall_mem_cons.mpr ⟨rfl, List.forall_mem_cons.mpr ⟨rfl, List.forall_mem_cons.mpr ⟨rfl, fun _ h => absurd h List.not_mem_nil⟩⟩⟩) rfl rfl ?_
    refine l_all_loop d hI w _ 8 0 T X1 Z1 _ (by omega) rfl ho1 hj1 (by rw [hj1]; exact hI) (by omega) (fun r hr => ?_)
    rw [if_pos h6]
    exact hr
  · refine er_loc (pc' := 10) rfl rfl rfl ?_
    refine er_k (pc' := 11) (nI 1) rfl rfl rfl ?_
    refine er_cIz (pc' := 14) (rest := []) 11 rfl rfl rfl rfl rfl rfl (l_error _ _ _ 1 (by decide)) ?_
    intro Z9
    refine er_iret rfl rfl ?_
    rw [if_neg (by rw [h6]; decide)]
    exact RI_of rfl rfl
def RT (v : Int32) (b p : Nat) (X : Nat → Nat → Int32) : ab_R → Prop := fun r => ∃ X' Z', r = (some (.int v), Wd X' Z') ∧ jx X' b = jx X p ∧ ∀ c, (c < b ∨ b + 12 < c) → X' c = X c
def RM (v : Int32) (X : Nat → Nat → Int32) : ab_R → Prop := fun r => ∃ X' Z', r = (some (.int v), Wd X' Z') ∧ jx X' 22 = jx X 9 ∧ ∀ c, (c < 22 ∨ 22 + 12 < c) → X' c = ud X 0 4 v c
set_option maxRecDepth 100000 in
set_option maxHeartbeats 4000000 in
theorem l_image (d : Nat) (X Z : Nat → Nat → Int32) {T : Nat} (hI : IJ T (jx X 9)) : EC (d + 3) 119 [.ref 0] (Wd X Z) (RM (X 0 4 + nI 1) X) := by
  refine er_enter (L := [(0, _)]) rfl rfl rfl ?_
  refine er_loc (pc' := 1) rfl rfl rfl ?_
  refine er_gf (pc' := 4) (_) rfl rfl rfl rfl rfl ?_
  refine er_loc (pc' := 5) rfl rfl rfl ?_
  refine er_gf (pc' := 8) (_) rfl rfl rfl rfl rfl ?_
  refine er_cIt (pc' := 11) (rest := []) 7 rfl rfl rfl rfl rfl rfl (l_take_22_9 _ _ _ hI) ?_
  intro X1 Z1 hj1 ho1
  refine er_loc (pc' := 12) rfl rfl rfl ?_
  refine er_pure (pc' := 13) rfl rfl rfl ?_
  refine er_gf (pc' := 16) (.int (X1 0 4)) rfl rfl rfl rfl rfl ?_
  rw [ho1 0 (by omega)]
  refine er_k (pc' := 17) (nI 1) rfl rfl rfl ?_
  refine er_iadd (pc' := 18) rfl rfl ?_
  refine er_pfIX (pc' := 21) 4 rfl rfl rfl rfl rfl rfl ?_
  refine er_loc (pc' := 22) rfl rfl rfl ?_
  refine er_gf (pc' := 25) (_) rfl rfl rfl rfl rfl ?_
  refine er_iret rfl rfl ?_
  refine ⟨_, _, rfl, ?_, ?_⟩
  · rw [jx_off (fun c hc _ => ud_ne (by omega))]; exact hj1
  · intro c hc
    by_cases h : c = 0
    · subst h; rw [ud_same, ud_same, ho1 0 (by omega)]
    · rw [ud_ne h, ud_ne h]; exact ho1 c hc
set_option maxRecDepth 100000 in
set_option maxHeartbeats 4000000 in
theorem l_restore (d : Nat) (X Z : Nat → Nat → Int32) {T : Nat} (hI : IJ T (jx X 22)) : EC (d + 3) 120 [.ref 0] (Wd X Z) (fun r => if X 0 4 = 0 then RI (sErr 2) (xErr X 2) r else RT (jx X 22 0 10) 9 22 X r) := by
  refine er_enter (L := [(0, _)]) rfl rfl rfl ?_
  refine er_loc (pc' := 1) rfl rfl rfl ?_
  refine er_gf (pc' := 4) (_) rfl rfl rfl rfl rfl ?_
  refine er_if_ne (pc' := 7) rfl rfl (fun h4 => ?_) (fun h4 => ?_)
  · refine er_loc (pc' := 14) rfl rfl rfl ?_
    refine er_gf (pc' := 17) (_) rfl rfl rfl rfl rfl ?_
    refine er_loc (pc' := 18) rfl rfl rfl ?_
    refine er_gf (pc' := 21) (_) rfl rfl rfl rfl rfl ?_
    refine er_cIt (pc' := 24) (rest := []) 7 rfl rfl rfl rfl rfl rfl (l_take_9_22 _ _ _ hI) ?_
    intro X1 Z1 hj1 ho1
    refine er_loc (pc' := 25) rfl rfl rfl ?_
    refine er_gf (pc' := 28) (_) rfl rfl rfl rfl rfl ?_
    refine er_gf (pc' := 31) (.int (X1 9 10)) rfl rfl rfl rfl rfl ?_
    refine er_iret rfl rfl ?_
    rw [if_neg h4]
    refine ⟨X1, Z1, ?_, hj1, ho1⟩
    rw [← hj1, jx010]
  · refine er_loc (pc' := 8) rfl rfl rfl ?_
    refine er_k (pc' := 9) (nI 2) rfl rfl rfl ?_
    refine er_cIz (pc' := 12) (rest := []) 11 rfl rfl rfl rfl rfl rfl (l_error _ _ _ 2 (by decide)) ?_
    intro Z9
    refine er_iret rfl rfl ?_
    rw [if_pos h4]
    exact RI_of rfl rfl
end
section
/-! THE FACE: check, draws, the tape -/
def ck (J : Nat → Nat → Int32) : Nat → Nat → (Nat → Nat → Int32) → Int32
  | 0, _, _ => nI 0
  | m + 1, i, K => match sFirst K (jn K) 0 with
    | none => nI 1 + nI i
    | some k => if jPass K k 0 10 = J 10 i then ck J m (i + 1) (jPass K k) else nI 1 + nI i
def sCheck (J : Nat → Nat → Int32) : Int32 := ck J (nN (J 0 16)) 0 J
def RC (v : Int32) (X : Nat → Nat → Int32) : ab_R → Prop := fun r => ∃ X1 Z', r = (some (.int v), Wd (ud X1 9 16 (nI 0)) Z') ∧ OT X X1
theorem ck_none {J K : Nat → Nat → Int32} {m i : Nat} (h : sFirst K (jn K) 0 = none) : ck J (m + 1) i K = nI 1 + nI i := by
  show (match sFirst K (jn K) 0 with
    | none => _
    | some k => _) = _
  rw [h]
theorem ck_some {J K : Nat → Nat → Int32} {m i k : Nat} (h : sFirst K (jn K) 0 = some k) : ck J (m + 1) i K = if jPass K k 0 10 = J 10 i then ck J m (i + 1) (jPass K k) else nI 1 + nI i := by
  show (match sFirst K (jn K) 0 with
    | none => _
    | some k => _) = _
  rw [h]
set_option maxRecDepth 100000 in
set_option maxHeartbeats 4000000 in
theorem l_check_end (d : Nat) {X : Nat → Nat → Int32} (v : Int32) (P : ab_R → Prop) (X1 Z : Nat → Nat → Int32) (x : Int32) (ho : OT X X1) (hP : ∀ r, RC v X r → P r) : ER (d + 5) tb_m122 83 [(0, .ref 0), (1, .int v), (2, .int x)] [] (Wd X1 Z) P := by
  refine er_loc (pc' := 84) rfl rfl rfl ?_
  refine er_gf (pc' := 87) (_) rfl rfl rfl rfl rfl ?_
  refine er_k (pc' := 88) (nI 0) rfl rfl rfl ?_
  refine er_pfIX (pc' := 91) 16 rfl rfl rfl rfl rfl rfl ?_
  refine er_loc (pc' := 92) rfl rfl rfl ?_
  refine er_iret rfl rfl ?_
  exact hP _ ⟨_, _, rfl, ho⟩
set_option maxRecDepth 100000 in
set_option maxHeartbeats 4000000 in
theorem l_check_out (d : Nat) {X : Nat → Nat → Int32} (i : Nat) (hi : i < 30) (n : Nat) (hn : n ≤ 30) (P : ab_R → Prop) (X1 Z : Nat → Nat → Int32) (x v : Int32) (hx : x = nI (i + 1)) (hv : v = nI 1 + nI i) (ho : OT X X1) (hw : X1 35 16 = nI n) (hP : ∀ r, RC v X r → P r) : ER (d + 5) tb_m122 15 [(0, .ref 0), (1, .int v), (2, .int x)] [] (Wd X1 Z) P := by
  subst hx
  refine er_loc (pc' := 16) rfl rfl rfl ?_
  refine er_loc (pc' := 17) rfl rfl rfl ?_
  refine er_gf (pc' := 20) (_) rfl rfl rfl rfl rfl ?_
  refine er_gf (pc' := 23) (.int (X1 35 16)) rfl rfl rfl rfl rfl ?_
  refine er_cm_ge (pc' := 26) rfl rfl (fun h23 => ?_) (fun h23 => ?_)
  · exact l_check_end d v P X1 Z _ ho hP
  · refine er_loc (pc' := 27) rfl rfl rfl ?_
    refine er_if_neT rfl ?_ ?_
    · rw [hv, nI_add]
      exact nI_ne0 (by omega) (by omega)
    · exact l_check_end d v P X1 Z _ ho hP
set_option maxRecDepth 100000 in
set_option maxHeartbeats 4000000 in
theorem l_check_loop (d : Nat) {X : Nat → Nat → Int32} {T0 : Nat} (hI : IJ T0 (jx X 9)) (n : Nat) (hn : n ≤ 20) (P : ab_R → Prop) : ∀ (m i T : Nat) (X1 Z : Nat → Nat → Int32) (x : Int32), i + m = n → x = nI i → OT X X1 → IJ T (jx X1 35) → X1 35 16 = nI n → (∀ j, jx X1 35 10 j = jx X 9 10 j) → T + 300 * m < 1000000000 → (∀ r, RC (ck (jx X 9) m i (jx X1 35)) X r → P r) → ER (d + 5) tb_m122 15 [(0, .ref 0), (1, .int (nI 0)), (2, .int x)] [] (Wd X1 Z) P
  | 0, i, T, X1, Z, x, hi, hx, ho, hI1, hw, hwt, hb, hP => by
    have hi0 : i = n := by omega
    subst hx
    subst hi0
    refine er_loc (pc' := 16) rfl rfl rfl ?_
    refine er_loc (pc' := 17) rfl rfl rfl ?_
    refine er_gf (pc' := 20) (_) rfl rfl rfl rfl rfl ?_
    refine er_gf (pc' := 23) (.int (X1 35 16)) rfl rfl rfl rfl rfl ?_
    rw [hw]
    refine er_cm_geT rfl (nI_nlt (by omega) (by omega)) ?_
    exact l_check_end d (nI 0) P X1 Z _ ho hP
  | m + 1, i, T, X1, Z, x, hi, hx, ho, hI1, hw, hwt, hb, hP => by
    subst hx
    have h8 := jn8 hI1
    refine er_loc (pc' := 16) rfl rfl rfl ?_
    refine er_loc (pc' := 17) rfl rfl rfl ?_
    refine er_gf (pc' := 20) (_) rfl rfl rfl rfl rfl ?_
    refine er_gf (pc' := 23) (.int (X1 35 16)) rfl rfl rfl rfl rfl ?_
    rw [hw]
    refine er_cm_geF (pc' := 26) rfl (nI_lt (by omega) (by omega)) rfl ?_
    refine er_loc (pc' := 27) rfl rfl rfl ?_
    refine er_if_neF (pc' := 30) rfl (by decide +kernel) rfl ?_
    refine er_loc (pc' := 31) rfl rfl rfl ?_
    refine er_gf (pc' := 34) (_) rfl rfl rfl rfl rfl ?_
    refine er_cIi (pc' := 37) (rest := []) 7 rfl rfl rfl rfl rfl rfl (l_leastThatMay _ j35 _ _ hI1) ?_
    rcases hq : sFirst (jx X1 35) (jn (jx X1 35)) 0 with _ | k
    · refine er_loc (L' := [(3, _), (0, _), (1, _), (2, _)]) (pc' := 38) rfl rfl rfl ?_
      refine er_loc (pc' := 39) rfl rfl rfl ?_
      refine er_if_ltT rfl fI_neg ?_
      refine er_loc (pc' := 51) rfl rfl rfl ?_
      refine er_if_ltT rfl fI_neg ?_
      refine er_k (pc' := 74) (nI 1) rfl rfl rfl ?_
      refine er_loc (pc' := 75) rfl rfl rfl ?_
      refine er_iadd (pc' := 76) rfl rfl ?_
      refine er_loc (L' := [(1, _), (3, _), (0, _), (2, _)]) (pc' := 77) rfl rfl rfl ?_
      refine er_loc (L' := [(2, .int (_ + nI 1)), (1, _), (3, _), (0, _)]) (pc' := 80) rfl rfl rfl ?_
      refine er_goto rfl ?_
      refine ER_loc [(0, _), (1, _), (2, _)] rfl (List.forall_mem_cons.mpr ⟨rfl, List.forall_mem_cons.mpr ⟨rfl, List.forall_mem_cons.mpr ⟨rfl, fun _ h => absurd h List.not_mem_nil⟩⟩⟩) rfl rfl ?_
      refine l_check_out d i (by omega) n (by omega) P X1 _ _ _ (nI_add i 1) rfl ho hw ?_
      rw [ck_none hq] at hP
      exact hP
    · have hm := sFirst_some hq
      have hk := (mayDo_k hm).1
      refine er_loc (L' := [(3, _), (0, _), (1, _), (2, _)]) (pc' := 38) rfl rfl rfl ?_
      refine er_loc (pc' := 39) rfl rfl rfl ?_
      refine er_if_ltF (pc' := 42) rfl (fI_pos (by omega)) rfl ?_
      refine er_loc (pc' := 43) rfl rfl rfl ?_
      refine er_gf (pc' := 46) (_) rfl rfl rfl rfl rfl ?_
      refine er_loc (pc' := 47) rfl rfl rfl ?_
      refine er_cIv (pc' := 50) (rest := []) 7 rfl rfl rfl rfl rfl rfl (l_pass _ j35 _ _ hI1 (k := k) hk) ?_
      intro Z7
      have hj2 : jx (xPass X1 35 k) 35 = jPass (jx X1 35) k := jx_xPass (by omega)
      have ho2 : OT X (xPass X1 35 k) := ho.pass
      have hw2 : xPass X1 35 k 35 16 = nI n := by
        have e : jx (xPass X1 35 k) 35 0 16 = nI n := by rw [hj2]; exact (show jPass (jx X1 35) k 0 16 = nI n from by rw [← hw]; exact jx016)
        rw [jx016] at e
        exact e
      have hwt2 : ∀ j, jx (xPass X1 35 k) 35 10 j = jx X 9 10 j := fun j => by rw [hj2]; exact hwt j
      have hI2 : IJ (T + 300) (jx (xPass X1 35 k) 35) := by rw [hj2]; exact hI1.pass (by omega) hm
      have hmin : xPass X1 35 k 35 10 = jPass (jx X1 35) k 0 10 := by rw [← hj2, jx010]
      have hwi : xPass X1 35 k 47 i = jx X 9 10 i := by
        rw [← hwt2 i]
        exact (jx10 (b := 35) (by omega)).symm
      refine er_loc (pc' := 51) rfl rfl rfl ?_
      refine er_if_ltF (pc' := 54) rfl (fI_pos (by omega)) rfl ?_
      refine er_loc (pc' := 55) rfl rfl rfl ?_
      refine er_gf (pc' := 58) (_) rfl rfl rfl rfl rfl ?_
      refine er_gf (pc' := 61) (.int (xPass X1 35 k 35 10)) rfl rfl rfl rfl rfl ?_
      refine er_loc (pc' := 62) rfl rfl rfl ?_
      refine er_gf (pc' := 65) (_) rfl rfl rfl rfl rfl ?_
      refine er_gf (pc' := 68) (_) rfl rfl rfl rfl rfl ?_
      refine er_loc (pc' := 69) rfl rfl rfl ?_
      refine er_ia (pc' := 70) (i) rfl rfl rfl rfl (by omega) rfl rfl ?_
      rw [hmin, hwi]
      refine er_cm_eq (pc' := 73) rfl rfl (fun h70 => ?_) (fun h70 => ?_)
      · refine er_loc (L' := [(2, .int (_ + nI 1)), (3, _), (0, _), (1, _)]) (pc' := 80) rfl rfl rfl ?_
        refine er_goto rfl ?_
        refine ER_loc [(0, _), (1, _), (2, _)] rfl (List.forall_mem_cons.mpr ⟨rfl, List.forall_mem_cons.mpr ⟨rfl, List.forall_mem_cons.mpr ⟨rfl, fun _ h => absurd h List.not_mem_nil⟩⟩⟩) rfl rfl ?_
        refine l_check_loop d hI n hn P m (i + 1) (T + 300) _ _ _ (by omega) (nI_add i 1) ho2 hI2 hw2 hwt2 (by omega) ?_
        rw [ck_some hq, if_pos h70, ← hj2] at hP
        exact hP
      · refine er_k (pc' := 74) (nI 1) rfl rfl rfl ?_
        refine er_loc (pc' := 75) rfl rfl rfl ?_
        refine er_iadd (pc' := 76) rfl rfl ?_
        refine er_loc (L' := [(1, _), (3, _), (0, _), (2, _)]) (pc' := 77) rfl rfl rfl ?_
        refine er_loc (L' := [(2, .int (_ + nI 1)), (1, _), (3, _), (0, _)]) (pc' := 80) rfl rfl rfl ?_
        refine er_goto rfl ?_
        refine ER_loc [(0, _), (1, _), (2, _)] rfl (List.forall_mem_cons.mpr ⟨rfl, List.forall_mem_cons.mpr ⟨rfl, List.forall_mem_cons.mpr ⟨rfl, fun _ h => absurd h List.not_mem_nil⟩⟩⟩) rfl rfl ?_
        refine l_check_out d i (by omega) n (by omega) P _ _ _ _ (nI_add i 1) rfl ho2 hw2 ?_
        rw [ck_some hq, if_neg h70] at hP
        exact hP
set_option maxRecDepth 100000 in
set_option maxHeartbeats 4000000 in
theorem l_check (d : Nat) (X Z : Nat → Nat → Int32) {T : Nat} (hI : IJ T (jx X 9)) (hT9 : T < 1000000) : EC (d + 6) 122 [.ref 0] (Wd X Z) (RC (sCheck (jx X 9)) X) := by
  refine er_enter (L := [(0, _)]) rfl rfl rfl ?_
  refine er_k (pc' := 1) (nI 0) rfl rfl rfl ?_
  refine er_loc (pc' := 2) (L' := [(1, _), (0, _)]) rfl rfl rfl ?_
  refine er_loc (pc' := 3) rfl rfl rfl ?_
  refine er_gf (pc' := 6) (_) rfl rfl rfl rfl rfl ?_
  refine er_loc (pc' := 7) rfl rfl rfl ?_
  refine er_gf (pc' := 10) (_) rfl rfl rfl rfl rfl ?_
  refine er_cIt (pc' := 13) (rest := []) 7 rfl rfl rfl rfl rfl rfl (l_take_35_9 _ _ _ hI) ?_
  intro X1 Z1 hj1 ho1
  refine er_k (pc' := 14) (nI 0) rfl rfl rfl ?_
  refine er_loc (pc' := 15) (L' := [(2, _), (1, _), (0, _)]) rfl rfl rfl ?_
  obtain ⟨n, hn, hw⟩ := (isN_iff (by omega)).mp hI.waits
  have hnn : nN (jx X 9 0 16) = n := by rw [hw]; exact nN_nI (by omega)
  have hw1 : X1 35 16 = nI n := by
    have e : jx X1 35 0 16 = nI n := by rw [hj1]; exact hw
    rw [jx016] at e
    exact e
  refine ER_loc [(0, _), (1, _), (2, _)] rfl (List.forall_mem_cons.mpr ⟨rfl, List.forall_mem_cons.mpr ⟨rfl, List.forall_mem_cons.mpr ⟨rfl, fun _ h => absurd h List.not_mem_nil⟩⟩⟩) rfl rfl ?_
  refine l_check_loop d hI n hn _ n 0 T X1 Z1 _ (by omega) rfl ho1 (by rw [hj1]; exact hI) hw1 (fun j => by rw [hj1]) (by omega) (fun r hr => ?_)
  unfold sCheck
  rw [hj1] at hr
  rw [hnn]
  exact hr
def sPick (z : Int32) : Int32 := sDraw z - sDraw z / nI 8 * nI 8
def loS (J : Nat → Nat → Int32) (k : Nat) (c : Int32) : (Nat → Nat → Int32) × Int32 := if sMayDo J k = true then (jFin J k, c + nI 1) else if sMayUn J k = true then (jApart J k, c) else (ud J 0 10 (J 0 10 + nI 1), c)
def jZ (J : Nat → Nat → Int32) : Nat → Nat → Int32 := ud J 0 17 (sZ (J 0 17))
def loT (q : (Nat → Nat → Int32) × Int32) : (Nat → Nat → Int32) × Int32 := loS (jZ q.1) (nN (sPick (sZ (q.1 0 17)))) q.2
def itN {α : Type} (f : α → α) : Nat → α → α
  | 0, a => a
  | n + 1, a => itN f n (f a)
theorem itN_succ {α : Type} (f : α → α) (n : Nat) (a : α) : itN f (n + 1) a = itN f n (f a) := rfl
def RJ (v : Int32) (J : Nat → Nat → Int32) (X : Nat → Nat → Int32) : ab_R → Prop := fun r => ∃ X' Z', r = (some (.int v), Wd X' Z') ∧ jx X' 9 = J ∧ ∀ c, (c < 9 ∨ 9 + 12 < c) → X' c = X c
theorem pick8 (z : Int32) : ∃ k, k < 8 ∧ sPick z = nI k := by
  unfold sPick sDraw
  have h1 : (z.toUInt32 >>> ((nI 8).toUInt32 &&& Int32.toUInt32 31)).toInt32.toBitVec = z.toBitVec >>> 8 := by
    show (z.toUInt32 >>> ((nI 8).toUInt32 &&& Int32.toUInt32 31)).toBitVec = _
    rw [UInt32.toBitVec_shiftRight, shn_bv (by omega)]
    rfl
  obtain ⟨x, hx⟩ : ∃ x, x = (z.toUInt32 >>> ((nI 8).toUInt32 &&& Int32.toUInt32 31)).toInt32 := ⟨_, rfl⟩
  rw [← hx] at h1 ⊢
  have h2 : (x.toBitVec).toNat < 2 ^ 24 := by
    rw [h1, BitVec.toNat_ushiftRight, Nat.shiftRight_eq_div_pow]
    have := z.toBitVec.isLt
    omega
  have h3 : x = nI x.toBitVec.toNat := by
    apply Int32.toBitVec_inj.mp
    show _ = (Int32.ofNat _).toBitVec
    rw [Int32.toBitVec_ofNat']
    simp
  generalize x.toBitVec.toNat = n at h2 h3
  subst h3
  have h4 : nI n / nI 8 = nI (n / 8) := by
    apply Int32.toInt_inj.mp
    rw [Int32.toInt_div_of_ne_right, nI_toInt (by omega), nI_toInt (by omega), nI_toInt (by omega)]
    · exact (Int.ofNat_tdiv n 8).symm
    · decide +kernel
  refine ⟨n % 8, by omega, ?_⟩
  rw [h4, nI_mul, nI_sub (by omega)]
  congr 1
  omega
end
section
/-! THE FACE: draws, the tape -/
theorem sMayDo_no {J : Nat → Nat → Int32} {k : Nat} (h : ¬ k < jn J) : sMayDo J k = false := by
  unfold sMayDo
  rw [decide_eq_false h]
  rfl
theorem sMayUn_no {J : Nat → Nat → Int32} {k : Nat} (h : ¬ k < jn J) : sMayUn J k = false := by
  unfold sMayUn
  rw [decide_eq_false h]
  rfl
set_option maxRecDepth 100000 in
set_option maxHeartbeats 4000000 in
theorem l_mayBeDone_f (d : Nat) {b : Nat} (hb : jb b) (X Z : Nat → Nat → Int32) {T : Nat} (hI : IJ T (jx X b)) {k : Nat} (hk : ¬ k < jn (jx X b)) (h100 : k < 100) : EC (d + 3) 41 [.ref b, .int (nI k)] (Wd X Z) (PI (bI (sMayDo (jx X b) k)) (Wd X Z)) := by
  refine er_enter (L := [(0, _), (1, _)]) rfl rfl rfl ?_
  refine er_loc (pc' := 1) rfl rfl rfl ?_
  refine er_loc (pc' := 2) rfl rfl rfl ?_
  refine er_cIi (pc' := 5) (rest := []) 7 rfl rfl rfl (blt_J hb 0 rfl) (cO_J0 hb _ _) rfl (l_has_f _ hb _ _ hI hk h100) ?_
  refine er_if_eqT rfl (by decide +kernel) ?_
  refine er_k (pc' := 17) (nI 0) rfl rfl rfl ?_
  refine er_ret _ rfl rfl ?_
  exact PI_of (bI_eq0 (sMayDo_no hk))
theorem l_mayBeDone8 (d : Nat) {b : Nat} (hb : jb b) (X Z : Nat → Nat → Int32) {T : Nat} (hI : IJ T (jx X b)) {k : Nat} (h8 : k < 8) : EC (d + 3) 41 [.ref b, .int (nI k)] (Wd X Z) (PI (bI (sMayDo (jx X b) k)) (Wd X Z)) := by
  by_cases hk : k < jn (jx X b)
  · exact l_mayBeDone d hb X Z hI hk
  · exact l_mayBeDone_f d hb X Z hI hk (by omega)
set_option maxRecDepth 100000 in
set_option maxHeartbeats 4000000 in
theorem l_mayBeUndone_f (d : Nat) {b : Nat} (hb : jb b) (X Z : Nat → Nat → Int32) {T : Nat} (hI : IJ T (jx X b)) {k : Nat} (hk : ¬ k < jn (jx X b)) (h100 : k < 100) : EC (d + 3) 42 [.ref b, .int (nI k)] (Wd X Z) (PI (bI (sMayUn (jx X b) k)) (Wd X Z)) := by
  refine er_enter (L := [(0, _), (1, _)]) rfl rfl rfl ?_
  refine er_loc (pc' := 1) rfl rfl rfl ?_
  refine er_loc (pc' := 2) rfl rfl rfl ?_
  refine er_cIi (pc' := 5) (rest := []) 7 rfl rfl rfl (blt_J hb 0 rfl) (cO_J0 hb _ _) rfl (l_has_f _ hb _ _ hI hk h100) ?_
  refine er_if_eqT rfl (by decide +kernel) ?_
  refine er_k (pc' := 28) (nI 0) rfl rfl rfl ?_
  refine er_ret _ rfl rfl ?_
  exact PI_of (bI_eq0 (sMayUn_no hk))
theorem l_mayBeUndone8 (d : Nat) {b : Nat} (hb : jb b) (X Z : Nat → Nat → Int32) {T : Nat} (hI : IJ T (jx X b)) {k : Nat} (h8 : k < 8) : EC (d + 3) 42 [.ref b, .int (nI k)] (Wd X Z) (PI (bI (sMayUn (jx X b) k)) (Wd X Z)) := by
  by_cases hk : k < jn (jx X b)
  · exact l_mayBeUndone d hb X Z hI hk
  · exact l_mayBeUndone_f d hb X Z hI hk (by omega)
def O9 (X X' : Nat → Nat → Int32) : Prop := ∀ c, (c < 9 ∨ 9 + 12 < c) → X' c = X c
theorem O9.rf (X : Nat → Nat → Int32) : O9 X X := fun _ _ => rfl
theorem O9.ud {X X' : Nat → Nat → Int32} (h : O9 X X') {c k : Nat} {v : Int32} (hc : 9 ≤ c ∧ c ≤ 21) : O9 X (ud X' c k v) := fun q hq => by rw [ud_ne (by omega)]; exact h q hq
theorem O9.fin {X X' : Nat → Nat → Int32} (h : O9 X X') {k : Nat} : O9 X (xFin X' 9 k) := fun q hq => by rw [xFin_off (by omega)]; exact h q hq
theorem O9.apart {X X' : Nat → Nat → Int32} (h : O9 X X') {k : Nat} : O9 X (xApart X' 9 k) := fun q hq => by rw [xApart_off (by omega)]; exact h q hq
theorem IJ.loS {T : Nat} {J : Nat → Nat → Int32} (h : IJ T J) (hT : T < 1000000000) (k : Nat) (c : Int32) : IJ (T + 300) (loS J k c).1 := by
  show IJ (T + 300) (if _ then _ else if _ then _ else _ : (Nat → Nat → Int32) × Int32).1
  split
  · rename_i hm; exact h.fin (by omega) hm
  · split
    · rename_i hm; exact h.apart (by omega) hm
    · exact h.uMin ((h.minute.add (isN.of (Nat.le_refl 1) (by omega)) (by omega)).mono (by omega))
set_option maxRecDepth 100000 in
set_option maxHeartbeats 4000000 in
theorem l_loose_loop (d : Nat) {X : Nat → Nat → Int32} (P : ab_R → Prop) (n : Nat) : ∀ (m i T : Nat) (X1 Z : Nat → Nat → Int32) (c x : Int32), i + m = n ∧ n ≤ 40 → x = nI i → O9 X X1 → IJ T (jx X1 9) → T + 300 * m < 1000000 → (∀ r, RJ (itN loT m (jx X1 9, c)).2 (itN loT m (jx X1 9, c)).1 X r → P r) → ER (d + 6) tb_m93 44 [(0, .ref 0), (1, .int (nI n)), (2, .int c), (3, .int x)] [] (Wd X1 Z) P
  | 0, i, T, X1, Z, c, x, hi, hx, ho, hI1, hb, hP => by
    have hi0 : i = n := by omega
    subst hx
    subst hi0
    refine er_loc (pc' := 45) rfl rfl rfl ?_
    refine er_loc (pc' := 46) rfl rfl rfl ?_
    refine er_cm_geT rfl (nI_nlt (by omega) (by omega)) ?_
    refine er_loc (pc' := 132) rfl rfl rfl ?_
    refine er_iret rfl rfl ?_
    exact hP _ ⟨X1, Z, rfl, rfl, ho⟩
  | m + 1, i, T, X1, Z, c, x, hi, hx, ho, hI1, hb, hP => by
    subst hx
    refine er_loc (pc' := 45) rfl rfl rfl ?_
    refine er_loc (pc' := 46) rfl rfl rfl ?_
    refine er_cm_geF (pc' := 49) rfl (nI_lt (by omega) (by omega)) rfl ?_
    refine er_loc (pc' := 50) rfl rfl rfl ?_
    refine er_gf (pc' := 53) (_) rfl rfl rfl rfl rfl ?_
    refine er_cIz (pc' := 56) (rest := []) 7 rfl rfl rfl rfl rfl rfl (l_draw _ j9 _ _) ?_
    intro Z1
    obtain ⟨Y, hY⟩ : ∃ Y, Y = ud X1 9 17 (sZ (X1 9 17)) := ⟨_, rfl⟩
    have hjY : jx Y 9 = jZ (jx X1 9) := by rw [hY, jx_ud0 rfl]; unfold jZ; rw [jx017]
    have hIY : IJ T (jx Y 9) := by rw [hjY]; exact hI1.uZ
    have hoY : O9 X Y := by rw [hY]; exact ho.ud (by omega)
    obtain ⟨k, hk8, hk⟩ := pick8 (sZ (X1 9 17))
    have hks : nN (sPick (sZ (jx X1 9 0 17))) = k := by rw [jx017, hk]; exact nN_nI (by omega)
    have eT : loT (jx X1 9, c) = loS (jx Y 9) k c := by
      unfold loT
      rw [hks, ← hjY]
    rw [← hY]
    refine er_k (pc' := 58) (nI 8) rfl rfl rfl ?_
    refine er_irem (pc' := 59) rfl rfl (by decide) ?_
    rw [show sDraw (sZ (X1 9 17)) - sDraw (sZ (X1 9 17)) / nI 8 * nI 8 = nI k from hk]
    refine er_loc (L' := [(4, _), (0, _), (1, _), (2, _), (3, _)]) (pc' := 61) rfl rfl rfl ?_
    refine er_loc (pc' := 62) rfl rfl rfl ?_
    refine er_gf (pc' := 65) (_) rfl rfl rfl rfl rfl ?_
    refine er_loc (pc' := 67) rfl rfl rfl ?_
    refine er_cIi (pc' := 70) (rest := []) 7 rfl rfl rfl rfl rfl rfl (l_mayBeDone8 _ j9 _ _ hIY hk8) ?_
    refine er_if_eqb (pc' := 73) rfl rfl (fun h70 => ?_) (fun h70 => ?_)
    · refine er_loc (pc' := 89) rfl rfl rfl ?_
      refine er_gf (pc' := 92) (_) rfl rfl rfl rfl rfl ?_
      refine er_loc (pc' := 94) rfl rfl rfl ?_
      refine er_cIi (pc' := 97) (rest := []) 7 rfl rfl rfl rfl rfl rfl (l_mayBeUndone8 _ j9 _ _ hIY hk8) ?_
      refine er_if_eqb (pc' := 100) rfl rfl (fun h97 => ?_) (fun h97 => ?_)
      · have e2 : loS (jx Y 9) k c = (ud (jx Y 9) 0 10 (jx Y 9 0 10 + nI 1), c) := by
          unfold loS
          rw [if_neg (by rw [h70]; decide), if_neg (by rw [h97]; decide)]
        refine er_loc (pc' := 113) rfl rfl rfl ?_
        refine er_gf (pc' := 116) (_) rfl rfl rfl rfl rfl ?_
        refine er_pure (pc' := 117) rfl rfl rfl ?_
        refine er_gf (pc' := 120) (.int (Y 9 10)) rfl rfl rfl rfl rfl ?_
        refine er_k (pc' := 121) (nI 1) rfl rfl rfl ?_
        refine er_iadd (pc' := 122) rfl rfl ?_
        refine er_pfIX (pc' := 125) 10 rfl rfl rfl rfl rfl rfl ?_
        refine er_loc (L' := [(3, .int (_ + nI 1)), (4, _), (0, _), (1, _), (2, _)]) (pc' := 128) rfl rfl rfl ?_
        refine er_goto rfl ?_
        refine ER_loc [(0, _), (1, _), (2, _), (3, _)] rfl (List.forall_mem_cons.mpr ⟨rfl, List.forall_mem_cons.mpr ⟨rfl, List.forall_mem_cons.mpr ⟨rfl, List.forall_mem_cons.mpr ⟨rfl, fun _ h => absurd h List.not_mem_nil⟩⟩⟩⟩) rfl rfl ?_
        have hj3 : jx (ud Y 9 10 (Y 9 10 + nI 1)) 9 = (loS (jx Y 9) k c).1 := by
          rw [e2, jx_ud0 rfl, jx010]
        refine l_loose_loop d P n m (i + 1) (T + 300) _ _ c _ (by omega) (nI_add i 1) (hoY.ud (by omega)) ?_ (by omega) (fun r hr => hP r ?_)
        · rw [hj3]; exact IJ.loS hIY (by omega) _ _
        · rw [itN_succ, eT, e2, ← show jx (ud Y 9 10 (Y 9 10 + nI 1)) 9 = ud (jx Y 9) 0 10 (jx Y 9 0 10 + nI 1) from by rw [jx_ud0 rfl, jx010]]
          exact hr
      · have e2 : loS (jx Y 9) k c = (jApart (jx Y 9) k, c) := by
          unfold loS
          rw [if_neg (by rw [h70]; decide), if_pos h97]
        refine er_loc (pc' := 101) rfl rfl rfl ?_
        refine er_gf (pc' := 104) (_) rfl rfl rfl rfl rfl ?_
        refine er_loc (pc' := 106) rfl rfl rfl ?_
        refine er_cIv (pc' := 109) (rest := []) 7 rfl rfl rfl rfl rfl rfl (l_takeApart _ j9 _ _ hIY (k := k) (mayUn_k h97).1) ?_
        intro Z7
        refine er_goto rfl ?_
        refine er_loc (L' := [(3, .int (_ + nI 1)), (4, _), (0, _), (1, _), (2, _)]) (pc' := 128) rfl rfl rfl ?_
        refine er_goto rfl ?_
        refine ER_loc [(0, _), (1, _), (2, _), (3, _)] rfl (List.forall_mem_cons.mpr ⟨rfl, List.forall_mem_cons.mpr ⟨rfl, List.forall_mem_cons.mpr ⟨rfl, List.forall_mem_cons.mpr ⟨rfl, fun _ h => absurd h List.not_mem_nil⟩⟩⟩⟩) rfl rfl ?_
        have hj3 : jx (xApart Y 9 k) 9 = (loS (jx Y 9) k c).1 := by
          rw [e2, jx_xApart hk8]
        refine l_loose_loop d P n m (i + 1) (T + 300) _ _ c _ (by omega) (nI_add i 1) hoY.apart ?_ (by omega) (fun r hr => hP r ?_)
        · rw [hj3]; exact IJ.loS hIY (by omega) _ _
        · rw [itN_succ, eT, e2, ← jx_xApart hk8]
          exact hr
    · have e2 : loS (jx Y 9) k c = (jFin (jx Y 9) k, c + nI 1) := by
        unfold loS
        rw [if_pos h70]
      refine er_loc (pc' := 74) rfl rfl rfl ?_
      refine er_gf (pc' := 77) (_) rfl rfl rfl rfl rfl ?_
      refine er_loc (pc' := 79) rfl rfl rfl ?_
      refine er_cIv (pc' := 82) (rest := []) 7 rfl rfl rfl rfl rfl rfl (l_finish _ j9 _ _ hIY (k := k) (mayDo_k h70).1) ?_
      intro Z7
      refine er_loc (L' := [(2, .int (_ + nI 1)), (4, _), (0, _), (1, _), (3, _)]) (pc' := 85) rfl rfl rfl ?_
      refine er_goto rfl ?_
      refine er_loc (L' := [(3, .int (_ + nI 1)), (2, _), (4, _), (0, _), (1, _)]) (pc' := 128) rfl rfl rfl ?_
      refine er_goto rfl ?_
      refine ER_loc [(0, _), (1, _), (2, _), (3, _)] rfl (List.forall_mem_cons.mpr ⟨rfl, List.forall_mem_cons.mpr ⟨rfl, List.forall_mem_cons.mpr ⟨rfl, List.forall_mem_cons.mpr ⟨rfl, fun _ h => absurd h List.not_mem_nil⟩⟩⟩⟩) rfl rfl ?_
      have hj3 : jx (xFin Y 9 k) 9 = (loS (jx Y 9) k c).1 := by
        rw [e2, jx_xFin hk8]
      refine l_loose_loop d P n m (i + 1) (T + 300) _ _ (c + nI 1) _ (by omega) (nI_add i 1) hoY.fin ?_ (by omega) (fun r hr => hP r ?_)
      · rw [hj3]; exact IJ.loS hIY (by omega) _ _
      · rw [itN_succ, eT, e2, ← jx_xFin hk8]
        exact hr
def sLooseOk (J : Nat → Nat → Int32) (n : Int32) : Bool := !decide (99999 < J 0 10 + n * nI 300)
set_option maxRecDepth 100000 in
set_option maxHeartbeats 4000000 in
theorem l_loose (d : Nat) (X Z : Nat → Nat → Int32) {t : Nat} (hI : IJ t (jx X 9)) (ht : t < 100000) (n : Int32) : EC (d + 7) 93 [.ref 0, .int n] (Wd X Z) (fun r => if sIn n (nI 1) (nI 40) = true then (if sLooseOk (jx X 9) n = true then RJ (itN loT (nN n) (jx X 9, nI 0)).2 (itN loT (nN n) (jx X 9, nI 0)).1 X r else RI (sErr 3) (xErr X 3) r) else RI (sErr 1) (xErr X 1) r) := by
  refine er_enter (L := [(0, _), (1, _)]) rfl rfl rfl ?_
  refine er_loc (pc' := 1) rfl rfl rfl ?_
  refine er_k (pc' := 2) (nI 1) rfl rfl rfl ?_
  refine er_k (pc' := 4) (nI 40) rfl rfl rfl ?_
  refine er_cSi (pc' := 7) (rest := []) rfl rfl rfl (l_within _ _ _ _ _) ?_
  refine er_if_neb (pc' := 10) rfl rfl (fun h7 => ?_) (fun h7 => ?_)
  · refine er_loc (pc' := 17) rfl rfl rfl ?_
    refine er_gf (pc' := 20) (_) rfl rfl rfl rfl rfl ?_
    refine er_gf (pc' := 23) (.int (X 9 10)) rfl rfl rfl rfl rfl ?_
    refine er_loc (pc' := 24) rfl rfl rfl ?_
    refine er_k (pc' := 27) (nI 300) rfl rfl rfl ?_
    refine er_imul (pc' := 28) rfl rfl ?_
    refine er_iadd (pc' := 29) rfl rfl ?_
    refine er_ldc (pc' := 31) (99999) rfl rfl rfl rfl rfl ?_
    refine er_cm_le (pc' := 34) rfl rfl (fun h31 => ?_) (fun h31 => ?_)
    · refine er_k (pc' := 41) (nI 0) rfl rfl rfl ?_
      refine er_loc (pc' := 42) (L' := [(2, _), (0, _), (1, _)]) rfl rfl rfl ?_
      refine er_k (pc' := 43) (nI 0) rfl rfl rfl ?_
      refine er_loc (pc' := 44) (L' := [(3, _), (2, _), (0, _), (1, _)]) rfl rfl rfl ?_
      obtain ⟨j, h1j, h40j, hj⟩ := sIn_ex (by omega) (by omega) h7
      subst hj
      refine ER_loc [(0, _), (1, _), (2, _), (3, _)] rfl (List.forall_mem_cons.mpr ⟨rfl, List.forall_mem_cons.mpr ⟨rfl, List.forall_mem_cons.mpr ⟨rfl, List.forall_mem_cons.mpr ⟨rfl, fun _ h => absurd h List.not_mem_nil⟩⟩⟩⟩) rfl rfl ?_
      refine l_loose_loop d _ j j 0 t X Z (nI 0) _ ⟨by omega, h40j⟩ rfl (O9.rf X) hI (by omega) (fun r hr => ?_)
      rw [if_pos h7, if_pos (by unfold sLooseOk; rw [jx010]; simp [h31]), nN_nI (by omega)]
      exact hr
    · refine er_loc (pc' := 35) rfl rfl rfl ?_
      refine er_k (pc' := 36) (nI 3) rfl rfl rfl ?_
      refine er_cIz (pc' := 39) (rest := []) 11 rfl rfl rfl rfl rfl rfl (l_error _ _ _ 3 (by decide)) ?_
      intro Z9
      refine er_iret rfl rfl ?_
      rw [if_pos h7, if_neg (by unfold sLooseOk; rw [jx010]; simp [h31])]
      exact RI_of rfl rfl
  · refine er_loc (pc' := 11) rfl rfl rfl ?_
    refine er_k (pc' := 12) (nI 1) rfl rfl rfl ?_
    refine er_cIz (pc' := 15) (rest := []) 11 rfl rfl rfl rfl rfl rfl (l_error _ _ _ 1 (by decide)) ?_
    intro Z9
    refine er_iret rfl rfl ?_
    rw [if_neg (by rw [h7]; decide)]
    exact RI_of rfl rfl
end
section
/-! THE FACE: the tape, SHEETS -/
theorem jx_ud9 {X : Nat → Nat → Int32} {b k : Nat} {v : Int32} (h : k < 50) : jx (ud X (b + 11) k v) b = ud (jx X b) 9 k v := by
  funext i j
  unfold jx
  simp only [ud_at]
  match i with
  | 9 =>
    by_cases hj : j = k
    · subst hj; simp [h]
    · simp [hj]
  | 0 => simp
  | 1 => simp
  | 2 => simp
  | 3 => simp
  | 4 => simp
  | 5 => simp
  | 6 => simp
  | 7 => simp
  | 8 => simp
  | 10 => simp
  | i + 11 => simp; try omega
theorem jx_ud10 {X : Nat → Nat → Int32} {b k : Nat} {v : Int32} (h : k < 20) : jx (ud X (b + 12) k v) b = ud (jx X b) 10 k v := by
  funext i j
  unfold jx
  simp only [ud_at]
  match i with
  | 10 =>
    by_cases hj : j = k
    · subst hj; simp [h]
    · simp [hj]
  | 0 => simp
  | 1 => simp
  | 2 => simp
  | 3 => simp
  | 4 => simp
  | 5 => simp
  | 6 => simp
  | 7 => simp
  | 8 => simp
  | 9 => simp
  | i + 11 => simp; try omega
def sByte (w : Int64) (i : Nat) : Int32 := ((w.toUInt64 >>> ((nI 8 * nI i).toInt64.toUInt64 &&& Int64.toUInt64 63)).toInt64).toInt32 &&& nI 255
def xFeed (X : Nat → Nat → Int32) (w : Int64) (f : Nat) : Nat → Nat → Nat → Int32
  | 0 => X
  | i + 1 => ud (ud (xFeed X w f i) (9 + 11) (f + i) (sByte w i)) 9 14 (nI (f + i + 1))
def jFeed (J : Nat → Nat → Int32) (w : Int64) (f : Nat) : Nat → Nat → Nat → Int32
  | 0 => J
  | i + 1 => ud (ud (jFeed J w f i) 9 (f + i) (sByte w i)) 0 14 (nI (f + i + 1))
theorem jx_xFeed {X : Nat → Nat → Int32} {w : Int64} {f : Nat} : ∀ {i : Nat}, f + i ≤ 50 → jx (xFeed X w f i) 9 = jFeed (jx X 9) w f i
  | 0, _ => rfl
  | i + 1, h => by
    unfold xFeed jFeed
    rw [jx_ud0 rfl, jx_ud9 (by omega), jx_xFeed (by omega)]
theorem xFeed_off {X : Nat → Nat → Int32} {w : Int64} {f : Nat} : ∀ {i : Nat}, O9 X (xFeed X w f i)
  | 0 => O9.rf X
  | i + 1 => (xFeed_off.ud (by omega)).ud (by omega)
theorem IJ.uTape {T : Nat} {J : Nat → Nat → Int32} {v : Int32} (h : IJ T J) {k : Nat} (hv : isN v 255) : IJ T (ud J 9 k v) := ⟨h.n, h.kind, h.m, h.sc, h.needs, h.done, h.wrong, h.hands, h.bag, h.minute, h.tl, h.te, h.fed, h.waits, u1_all (p := fun x => isN x 255) h.tape hv⟩
theorem byte255 (x : Int32) : isN (x &&& nI 255) 255 := by
  have h1 : (x &&& nI 255).toBitVec.toNat ≤ 255 := by
    rw [Int32.toBitVec_and, BitVec.toNat_and, show (nI 255).toBitVec.toNat = 255 from by decide +kernel]
    exact Nat.and_le_right
  have h3 : (x &&& nI 255) = nI (x &&& nI 255).toBitVec.toNat := by
    apply Int32.toBitVec_inj.mp
    show _ = (Int32.ofNat _).toBitVec
    rw [Int32.toBitVec_ofNat']
    simp
  rw [h3]
  exact isN.of h1 (by omega)
theorem IJ.feed {T : Nat} {J : Nat → Nat → Int32} {w : Int64} {f : Nat} (h : IJ T J) : ∀ {i : Nat}, f + i ≤ 50 → IJ T (jFeed J w f i)
  | 0, _ => h
  | i + 1, hf => by
    unfold jFeed
    exact ((IJ.feed h (by omega)).uTape (byte255 _)).uFed (isN.of (by omega) (by omega))
theorem sIn_lt {i : Int32} {g : Nat} (hg : g < 2 ^ 31) (h : sIn i (nI 0) (nI g - nI 1) = true) : ∃ j, j < g ∧ i = nI j := by
  rcases Nat.eq_zero_or_pos g with h0 | h0
  · subst h0
    rw [show nI 0 - nI 1 = (-1) from by decide +kernel] at h
    unfold sIn at h
    simp only [Bool.and_eq_true, Bool.not_eq_true', decide_eq_false_iff_not, Int32.lt_iff_toInt_lt] at h
    have e0 : (nI 0).toInt = 0 := by decide +kernel
    have e1 : (-1 : Int32).toInt = -1 := by decide +kernel
    omega
  · rw [nI_sub h0] at h
    obtain ⟨j, _, h2, h3⟩ := sIn_ex (by omega) (by omega) h
    exact ⟨j, by omega, h3⟩
theorem lt4 {a : Nat} (h : a < 4) : a = 0 ∨ a = 1 ∨ a = 2 ∨ a = 3 := by omega
theorem cO_R {a : Nat} (h : a < 4) (x z : Nat → Int32) : cO (55 + a) x z = .inr (.inl (qa 40 x)) := by
  rcases lt4 h with rfl | rfl | rfl | rfl <;> rfl
theorem blt_R {a : Nat} (h : a < 4) : Nat.blt (55 + a) 79 = true := Nat.ble_eq_true_of_le (by omega)
set_option maxRecDepth 100000 in
set_option maxHeartbeats 4000000 in
theorem xFeed_14 {X : Nat → Nat → Int32} {w : Int64} {f : Nat} (hf : X 9 14 = nI f) : ∀ i, xFeed X w f i 9 14 = nI (f + i)
  | 0 => hf
  | i + 1 => rfl
theorem l_feed_loop (d : Nat) {X Z : Nat → Nat → Int32} {f : Nat} (hf : X 9 14 = nI f) (k : Nat) (h50 : f + k ≤ 50 ∧ k ≤ 8) (w : Int64) : ∀ (m i : Nat) (x : Int32), i + m = k → x = nI i → ER (d + 2) tb_m87 39 [(0, .ref 0), (1, .long w), (3, .int (nI k)), (4, .int x)] [] (Wd (xFeed X w f i) Z) (RI (nI (f + k)) (xFeed X w f k))
  | 0, i, x, hi, hx => by
    have hi0 : i = k := by omega
    have hfi := xFeed_14 (w := w) hf i
    subst hx
    subst hi0
    refine er_loc (pc' := 41) rfl rfl rfl ?_
    refine er_loc (pc' := 42) rfl rfl rfl ?_
    refine er_cm_geT rfl (nI_nlt (by omega) (by omega)) ?_
    refine er_loc (pc' := 92) rfl rfl rfl ?_
    refine er_gf (pc' := 95) (_) rfl rfl rfl rfl rfl ?_
    refine er_gf (pc' := 98) (.int (xFeed X w f i 9 14)) rfl rfl rfl rfl rfl ?_
    rw [hfi]
    refine er_iret rfl rfl ?_
    exact RI_of rfl rfl
  | m + 1, i, x, hi, hx => by
    have hfi := xFeed_14 (w := w) hf i
    subst hx
    refine er_loc (pc' := 41) rfl rfl rfl ?_
    refine er_loc (pc' := 42) rfl rfl rfl ?_
    refine er_cm_geF (pc' := 45) rfl (nI_lt (by omega) (by omega)) rfl ?_
    refine er_loc (pc' := 46) rfl rfl rfl ?_
    refine er_gf (pc' := 49) (_) rfl rfl rfl rfl rfl ?_
    refine er_gf (pc' := 52) (_) rfl rfl rfl rfl rfl ?_
    refine er_loc (pc' := 53) rfl rfl rfl ?_
    refine er_gf (pc' := 56) (_) rfl rfl rfl rfl rfl ?_
    refine er_gf (pc' := 59) (.int (xFeed X w f i 9 14)) rfl rfl rfl rfl rfl ?_
    rw [hfi]
    refine er_loc (pc' := 60) rfl rfl rfl ?_
    refine er_k (pc' := 62) (nI 8) rfl rfl rfl ?_
    refine er_loc (pc' := 64) rfl rfl rfl ?_
    refine er_imul (pc' := 65) rfl rfl ?_
    refine er_pure (pc' := 66) rfl rfl rfl ?_
    refine er_pure (pc' := 67) rfl rfl rfl ?_
    refine er_k (pc' := 70) (nI 255) rfl rfl rfl ?_
    refine er_iand (pc' := 71) rfl rfl ?_
    refine er_isX (pc' := 72) ((f + i)) rfl rfl (fun _ => rfl) (by simp only [nI_add, nI_mul]) (by omega) rfl rfl ?_
    refine er_loc (pc' := 73) rfl rfl rfl ?_
    refine er_gf (pc' := 76) (_) rfl rfl rfl rfl rfl ?_
    refine er_pure (pc' := 77) rfl rfl rfl ?_
    refine er_gf (pc' := 80) (.int (xFeed X w f i 9 14)) rfl rfl rfl rfl rfl ?_
    rw [hfi]
    refine er_k (pc' := 81) (nI 1) rfl rfl rfl ?_
    refine er_iadd (pc' := 82) rfl rfl ?_
    rw [nI_add]
    refine er_pfIX (pc' := 85) 14 rfl rfl rfl rfl rfl rfl ?_
    refine er_loc (L' := [(4, .int (_ + nI 1)), (0, _), (1, _), (3, _)]) rfl rfl rfl ?_
    refine er_goto rfl ?_
    refine ER_loc [(0, _), (1, _), (3, _), (4, _)] rfl (List.forall_mem_cons.mpr ⟨rfl, List.forall_mem_cons.mpr ⟨rfl, List.forall_mem_cons.mpr ⟨rfl, List.forall_mem_cons.mpr ⟨rfl, fun _ h => absurd h List.not_mem_nil⟩⟩⟩⟩) rfl rfl ?_
    have ih := l_feed_loop d (Z := Z) hf k h50 w m (i + 1) _ (by omega) (nI_add i 1)
    rw [show xFeed X w f (i + 1) = ud (ud (xFeed X w f i) (9 + 11) (f + i) (sByte w i)) 9 14 (nI (f + i + 1)) from rfl] at ih
    exact ih
set_option maxRecDepth 100000 in
set_option maxHeartbeats 4000000 in
theorem l_feed (d : Nat) (X Z : Nat → Nat → Int32) {f : Nat} (hf : X 9 14 = nI f) (h50 : f ≤ 50) (w : Int64) (n : Int32) : EC (d + 3) 87 [.ref 0, .long w, .int n] (Wd X Z) (fun r => if sIn n (nI 1) (nI 8) = true then (if f + nN n ≤ 50 then RI (nI (f + nN n)) (xFeed X w f (nN n)) r else RI (sErr 4) (xErr X 4) r) else RI (sErr 1) (xErr X 1) r) := by
  refine er_enter (L := [(0, _), (1, _), (3, _)]) rfl rfl rfl ?_
  refine er_loc (pc' := 1) rfl rfl rfl ?_
  refine er_k (pc' := 2) (nI 1) rfl rfl rfl ?_
  refine er_k (pc' := 4) (nI 8) rfl rfl rfl ?_
  refine er_cSi (pc' := 7) (rest := []) rfl rfl rfl (l_within _ _ _ _ _) ?_
  refine er_if_neb (pc' := 10) rfl rfl (fun h7 => ?_) (fun h7 => ?_)
  · obtain ⟨k, h1k, h8k, hk⟩ := sIn_ex (by omega) (by omega) h7
    subst hk
    refine er_loc (pc' := 17) rfl rfl rfl ?_
    refine er_gf (pc' := 20) (_) rfl rfl rfl rfl rfl ?_
    refine er_gf (pc' := 23) (.int (X 9 14)) rfl rfl rfl rfl rfl ?_
    rw [hf]
    refine er_loc (pc' := 24) rfl rfl rfl ?_
    refine er_iadd (pc' := 25) rfl rfl ?_
    rw [nI_add]
    refine er_k (pc' := 27) (nI 50) rfl rfl rfl ?_
    refine er_cm_le (pc' := 30) rfl rfl (fun h27 => ?_) (fun h27 => ?_)
    · have hle : f + k ≤ 50 := by
        rw [nI_ltI (by omega) (by omega)] at h27; omega
      refine er_k (pc' := 37) (nI 0) rfl rfl rfl ?_
      refine er_loc (pc' := 39) (L' := [(4, _), (0, _), (1, _), (3, _)]) rfl rfl rfl ?_
      refine ER_loc [(0, _), (1, _), (3, _), (4, _)] rfl (List.forall_mem_cons.mpr ⟨rfl, List.forall_mem_cons.mpr ⟨rfl, List.forall_mem_cons.mpr ⟨rfl, List.forall_mem_cons.mpr ⟨rfl, fun _ h => absurd h List.not_mem_nil⟩⟩⟩⟩) rfl rfl ?_
      refine ER.mono (l_feed_loop (d := d) (Z := Z) hf k ⟨hle, h8k⟩ w k 0 _ (by omega) rfl) (fun r hr => ?_)
      rw [if_pos h7, nN_nI (by omega), if_pos hle]
      exact hr
    · have hle : ¬ f + k ≤ 50 := by
        rw [nI_ltI (by omega) (by omega)] at h27; omega
      refine er_loc (pc' := 31) rfl rfl rfl ?_
      refine er_k (pc' := 32) (nI 4) rfl rfl rfl ?_
      refine er_cIz (pc' := 35) (rest := []) 11 rfl rfl rfl rfl rfl rfl (l_error _ _ _ 4 (by decide)) ?_
      intro Z9
      refine er_iret rfl rfl ?_
      rw [if_pos h7, nN_nI (by omega), if_neg hle]
      exact RI_of rfl rfl
  · refine er_loc (pc' := 11) rfl rfl rfl ?_
    refine er_k (pc' := 12) (nI 1) rfl rfl rfl ?_
    refine er_cIz (pc' := 15) (rest := []) 11 rfl rfl rfl rfl rfl rfl (l_error _ _ _ 1 (by decide)) ?_
    intro Z9
    refine er_iret rfl rfl ?_
    rw [if_neg (by rw [h7]; decide)]
    exact RI_of rfl rfl
def sLow (v b : Int32) : Int32 := if b = nI 8 then v &&& nI 255 else if b = nI 16 then v &&& 65535 else v
def sStand (g : Nat) (i n : Int32) : Bool := sIn i (nI 0) (nI g) && sIn n (nI 0) (nI g - i)
set_option maxRecDepth 100000 in
set_option maxHeartbeats 4000000 in
theorem l_lowestBits (d : Nat) (v b : Int32) (w : ab_W) : EC (d + 1) 114 [.int v, .int b] w (PI (sLow v b) w) := by
  refine er_enter (L := [(0, _), (1, _)]) rfl rfl rfl ?_
  refine er_loc (pc' := 1) rfl rfl rfl ?_
  refine er_k (pc' := 3) (nI 8) rfl rfl rfl ?_
  refine er_cm_ne (pc' := 6) rfl rfl (fun h3 => ?_) (fun h3 => ?_)
  · refine er_loc (pc' := 13) rfl rfl rfl ?_
    refine er_k (pc' := 15) (nI 16) rfl rfl rfl ?_
    refine er_cm_ne (pc' := 18) rfl rfl (fun h15 => ?_) (fun h15 => ?_)
    · refine er_loc (pc' := 27) rfl rfl rfl ?_
      refine er_iret rfl rfl ?_
      refine PI_of ?_
      unfold sLow
      first | rw [if_pos h3] | rw [if_neg h3, if_pos h15] | rw [if_neg h3, if_neg h15]
    · refine er_loc (pc' := 19) rfl rfl rfl ?_
      refine er_ldc (pc' := 22) (65535) rfl rfl rfl rfl rfl ?_
      refine er_iand (pc' := 23) rfl rfl ?_
      refine er_goto rfl ?_
      refine er_iret rfl rfl ?_
      refine PI_of ?_
      unfold sLow
      first | rw [if_pos h3] | rw [if_neg h3, if_pos h15] | rw [if_neg h3, if_neg h15]
  · refine er_loc (pc' := 7) rfl rfl rfl ?_
    refine er_k (pc' := 10) (nI 255) rfl rfl rfl ?_
    refine er_iand (pc' := 11) rfl rfl ?_
    refine er_iret rfl rfl ?_
    refine PI_of ?_
    unfold sLow
    first | rw [if_pos h3] | rw [if_neg h3, if_pos h15] | rw [if_neg h3, if_neg h15]
set_option maxRecDepth 100000 in
set_option maxHeartbeats 4000000 in
theorem l_put_no (d : Nat) (X Z : Nat → Nat → Int32) (s i v : Int32) (hs : sIn s (nI 0) (nI 3) = false) : EC (d + 3) 113 [.ref 0, .int s, .int i, .int v] (Wd X Z) (RI (sErr 1) (xErr X 1)) := by
  refine er_enter (L := [(0, _), (1, _), (2, _), (3, _)]) rfl rfl rfl ?_
  refine er_loc (pc' := 1) rfl rfl rfl ?_
  refine er_cSi (pc' := 4) (rest := []) rfl rfl rfl (l_xSheet _ _ _) ?_
  rw [hs]
  refine er_if_neF (pc' := 7) rfl (by decide +kernel) rfl ?_
  refine er_loc (pc' := 8) rfl rfl rfl ?_
  refine er_k (pc' := 9) (nI 1) rfl rfl rfl ?_
  refine er_cIz (pc' := 12) (rest := []) 11 rfl rfl rfl rfl rfl rfl (l_error _ _ _ 1 (by decide)) ?_
  intro Z9
  refine er_iret rfl rfl ?_
  exact RI_of rfl rfl
set_option maxRecDepth 100000 in
set_option maxHeartbeats 4000000 in
theorem l_put (d : Nat) (X Z : Nat → Nat → Int32) {a : Nat} (ha : a < 4) (i v : Int32) {g : Nat} (hg : X 59 a = nI g) (h40 : g ≤ 40) : EC (d + 3) 113 [.ref 0, .int (nI a), .int i, .int v] (Wd X Z) (fun r => if X 60 a = 0 then RI (sErr 2) (xErr X 2) r else if sIn i (nI 0) (nI g - nI 1) = true then RI (nI 1) (ud X (55 + a) (nN i) (sLow v (X 60 a))) r else RI (sErr 1) (xErr X 1) r) := by
  refine er_enter (L := [(0, _), (1, _), (2, _), (3, _)]) rfl rfl rfl ?_
  refine er_loc (pc' := 1) rfl rfl rfl ?_
  refine er_cSi (pc' := 4) (rest := []) rfl rfl rfl (l_xSheet _ _ _) ?_
  rw [show sIn (nI a) (nI 0) (nI 3) = true from sIn_t (by omega) (by omega) (by omega)]
  refine er_if_neT rfl (by decide +kernel) ?_
  refine er_loc (pc' := 14) rfl rfl rfl ?_
  refine er_gf (pc' := 17) (_) rfl rfl rfl rfl rfl ?_
  refine er_loc (pc' := 18) rfl rfl rfl ?_
  refine er_ia (pc' := 19) (a) rfl rfl rfl rfl ha rfl rfl ?_
  refine er_if_ne (pc' := 22) rfl rfl (fun h19 => ?_) (fun h19 => ?_)
  · refine er_loc (pc' := 29) rfl rfl rfl ?_
    refine er_k (pc' := 30) (nI 0) rfl rfl rfl ?_
    refine er_loc (pc' := 31) rfl rfl rfl ?_
    refine er_gf (pc' := 34) (_) rfl rfl rfl rfl rfl ?_
    refine er_loc (pc' := 35) rfl rfl rfl ?_
    refine er_ia (pc' := 36) (a) rfl rfl rfl rfl ha rfl rfl ?_
    rw [hg]
    refine er_k (pc' := 37) (nI 1) rfl rfl rfl ?_
    refine er_isub (pc' := 38) rfl rfl ?_
    refine er_cSi (pc' := 41) (rest := []) rfl rfl rfl (l_within _ _ _ _ _) ?_
    refine er_if_neb (pc' := 44) rfl rfl (fun h41 => ?_) (fun h41 => ?_)
    · obtain ⟨j, hj, hij⟩ := sIn_lt (by omega) h41
      have hkn : i = nI (nN i) := by rw [hij, nN_nI (by omega)]
      have hnj : nN i = j := by rw [hij]; exact nN_nI (by omega)
      refine er_loc (pc' := 51) rfl rfl rfl ?_
      refine er_gf (pc' := 54) (_) rfl rfl rfl rfl rfl ?_
      refine er_loc (pc' := 55) rfl rfl rfl ?_
      refine er_aa (pc' := 56) (a) rfl rfl rfl rfl rfl ha rfl rfl ?_
      refine er_loc (pc' := 57) rfl rfl rfl ?_
      refine er_loc (pc' := 58) rfl rfl rfl ?_
      refine er_loc (pc' := 59) rfl rfl rfl ?_
      refine er_gf (pc' := 62) (_) rfl rfl rfl rfl rfl ?_
      refine er_loc (pc' := 63) rfl rfl rfl ?_
      refine er_ia (pc' := 64) (a) rfl rfl rfl rfl ha rfl rfl ?_
      refine er_cSi (pc' := 67) (rest := [_, _]) rfl rfl rfl (l_lowestBits _ _ _ _) ?_
      refine er_isX (pc' := 68) (nN i) rfl (blt_R ha) (fun f => cO_R ha f _) hkn (by omega) rfl rfl ?_
      refine er_k (pc' := 69) (nI 1) rfl rfl rfl ?_
      refine er_iret rfl rfl ?_
      rw [if_neg h19, if_pos h41]
      exact RI_of rfl rfl
    · refine er_loc (pc' := 45) rfl rfl rfl ?_
      refine er_k (pc' := 46) (nI 1) rfl rfl rfl ?_
      refine er_cIz (pc' := 49) (rest := []) 11 rfl rfl rfl rfl rfl rfl (l_error _ _ _ 1 (by decide)) ?_
      intro Z9
      refine er_iret rfl rfl ?_
      rw [if_neg h19, if_neg (by rw [h41]; decide)]
      exact RI_of rfl rfl
  · refine er_loc (pc' := 23) rfl rfl rfl ?_
    refine er_k (pc' := 24) (nI 2) rfl rfl rfl ?_
    refine er_cIz (pc' := 27) (rest := []) 11 rfl rfl rfl rfl rfl rfl (l_error _ _ _ 2 (by decide)) ?_
    intro Z9
    refine er_iret rfl rfl ?_
    rw [if_pos h19]
    exact RI_of rfl rfl
set_option maxRecDepth 100000 in
set_option maxHeartbeats 4000000 in
theorem l_standThere (d : Nat) (X Z : Nat → Nat → Int32) {a : Nat} (ha : a < 4) (i n : Int32) {g : Nat} (hg : X 59 a = nI g) : EC (d + 2) 116 [.ref 0, .int (nI a), .int i, .int n] (Wd X Z) (PI (bI (sStand g i n)) (Wd X Z)) := by
  refine er_enter (L := [(0, _), (1, _), (2, _), (3, _)]) rfl rfl rfl ?_
  refine er_loc (pc' := 1) rfl rfl rfl ?_
  refine er_k (pc' := 2) (nI 0) rfl rfl rfl ?_
  refine er_loc (pc' := 3) rfl rfl rfl ?_
  refine er_gf (pc' := 6) (_) rfl rfl rfl rfl rfl ?_
  refine er_loc (pc' := 7) rfl rfl rfl ?_
  refine er_ia (pc' := 8) (a) rfl rfl rfl rfl ha rfl rfl ?_
  rw [hg]
  refine er_cSi (pc' := 11) (rest := []) rfl rfl rfl (l_within _ _ _ _ _) ?_
  refine er_if_eqb (pc' := 14) rfl rfl (fun h11 => ?_) (fun h11 => ?_)
  · refine er_k (pc' := 35) (nI 0) rfl rfl rfl ?_
    refine er_ret _ rfl rfl ?_
    exact PI_of (bI_eq0 (by unfold sStand; simp [*]))
  · refine er_loc (pc' := 15) rfl rfl rfl ?_
    refine er_k (pc' := 16) (nI 0) rfl rfl rfl ?_
    refine er_loc (pc' := 17) rfl rfl rfl ?_
    refine er_gf (pc' := 20) (_) rfl rfl rfl rfl rfl ?_
    refine er_loc (pc' := 21) rfl rfl rfl ?_
    refine er_ia (pc' := 22) (a) rfl rfl rfl rfl ha rfl rfl ?_
    rw [hg]
    refine er_loc (pc' := 23) rfl rfl rfl ?_
    refine er_isub (pc' := 24) rfl rfl ?_
    refine er_cSi (pc' := 27) (rest := []) rfl rfl rfl (l_within _ _ _ _ _) ?_
    refine er_if_eqb (pc' := 30) rfl rfl (fun h27 => ?_) (fun h27 => ?_)
    · refine er_k (pc' := 35) (nI 0) rfl rfl rfl ?_
      refine er_ret _ rfl rfl ?_
      exact PI_of (bI_eq0 (by unfold sStand; simp [*]))
    · refine er_k (pc' := 31) (nI 1) rfl rfl rfl ?_
      refine er_goto rfl ?_
      refine er_ret _ rfl rfl ?_
      exact PI_of (bI_eq1 (by unfold sStand; simp [*]))
set_option maxRecDepth 100000 in
set_option maxHeartbeats 4000000 in
theorem l_move_no (d : Nat) (X Z : Nat → Nat → Int32) (s i p j n : Int32) (hs : (sIn s (nI 0) (nI 3) && sIn p (nI 0) (nI 3)) = false) : EC (d + 3) 115 [.ref 0, .int s, .int i, .int p, .int j, .int n] (Wd X Z) (RI (sErr 1) (xErr X 1)) := by
  refine er_enter (L := [(0, _), (1, _), (2, _), (3, _), (4, _), (5, _)]) rfl rfl rfl ?_
  refine er_loc (pc' := 1) rfl rfl rfl ?_
  refine er_cSi (pc' := 4) (rest := []) rfl rfl rfl (l_xSheet _ _ _) ?_
  refine er_if_eqb (pc' := 7) rfl rfl (fun h4 => ?_) (fun h4 => ?_)
  · refine er_loc (pc' := 15) rfl rfl rfl ?_
    refine er_k (pc' := 16) (nI 1) rfl rfl rfl ?_
    refine er_cIz (pc' := 19) (rest := []) 11 rfl rfl rfl rfl rfl rfl (l_error _ _ _ 1 (by decide)) ?_
    intro Z9
    refine er_iret rfl rfl ?_
    exact RI_of rfl rfl
  · refine er_loc (pc' := 8) rfl rfl rfl ?_
    refine er_cSi (pc' := 11) (rest := []) rfl rfl rfl (l_xSheet _ _ _) ?_
    refine er_if_neb (pc' := 14) rfl rfl (fun h11 => ?_) (fun h11 => ?_)
    · exfalso; rw [h4, h11] at hs; cases hs
    · refine er_loc (pc' := 15) rfl rfl rfl ?_
      refine er_k (pc' := 16) (nI 1) rfl rfl rfl ?_
      refine er_cIz (pc' := 19) (rest := []) 11 rfl rfl rfl rfl rfl rfl (l_error _ _ _ 1 (by decide)) ?_
      intro Z9
      refine er_iret rfl rfl ?_
      exact RI_of rfl rfl
set_option maxRecDepth 100000 in
set_option maxHeartbeats 4000000 in
theorem l_move (d : Nat) (X Z : Nat → Nat → Int32) {a : Nat} (ha : a < 4) {p : Nat} (hp : p < 4) (i j n : Int32) {g e : Nat} (hg : X 59 a = nI g) (h40 : g ≤ 40) (he : X 59 p = nI e) (h40e : e ≤ 40) : EC (d + 3) 115 [.ref 0, .int (nI a), .int i, .int (nI p), .int j, .int n] (Wd X Z) (fun r => if X 60 a = 0 ∨ X 60 p = 0 then RI (sErr 2) (xErr X 2) r else if X 60 a = X 60 p then (if (sStand g i n && sStand e j n) = true then RI n (uc X (55 + p) (cpf (X (55 + a)) (X (55 + p)) (nN i) (nN j) (nN n))) r else RI (sErr 1) (xErr X 1) r) else RI (sErr 5) (xErr X 5) r) := by
  refine er_enter (L := [(0, _), (1, _), (2, _), (3, _), (4, _), (5, _)]) rfl rfl rfl ?_
  refine er_loc (pc' := 1) rfl rfl rfl ?_
  refine er_cSi (pc' := 4) (rest := []) rfl rfl rfl (l_xSheet _ _ _) ?_
  rw [show sIn (nI a) (nI 0) (nI 3) = true from sIn_t (by omega) (by omega) (by omega)]
  refine er_if_eqF (pc' := 7) rfl (by decide +kernel) rfl ?_
  refine er_loc (pc' := 8) rfl rfl rfl ?_
  refine er_cSi (pc' := 11) (rest := []) rfl rfl rfl (l_xSheet _ _ _) ?_
  rw [show sIn (nI p) (nI 0) (nI 3) = true from sIn_t (by omega) (by omega) (by omega)]
  refine er_if_neT rfl (by decide +kernel) ?_
  refine er_loc (pc' := 21) rfl rfl rfl ?_
  refine er_gf (pc' := 24) (_) rfl rfl rfl rfl rfl ?_
  refine er_loc (pc' := 25) rfl rfl rfl ?_
  refine er_ia (pc' := 26) (a) rfl rfl rfl rfl ha rfl rfl ?_
  refine er_if_eq (pc' := 29) rfl rfl (fun h26 => ?_) (fun h26 => ?_)
  · refine er_loc (pc' := 39) rfl rfl rfl ?_
    refine er_k (pc' := 40) (nI 2) rfl rfl rfl ?_
    refine er_cIz (pc' := 43) (rest := []) 11 rfl rfl rfl rfl rfl rfl (l_error _ _ _ 2 (by decide)) ?_
    intro Z9
    refine er_iret rfl rfl ?_
    rw [if_pos (by first | exact Or.inl h26 | exact Or.inr h35)]
    exact RI_of rfl rfl
  · refine er_loc (pc' := 30) rfl rfl rfl ?_
    refine er_gf (pc' := 33) (_) rfl rfl rfl rfl rfl ?_
    refine er_loc (pc' := 34) rfl rfl rfl ?_
    refine er_ia (pc' := 35) (p) rfl rfl rfl rfl hp rfl rfl ?_
    refine er_if_ne (pc' := 38) rfl rfl (fun h35 => ?_) (fun h35 => ?_)
    · refine er_loc (pc' := 45) rfl rfl rfl ?_
      refine er_gf (pc' := 48) (_) rfl rfl rfl rfl rfl ?_
      refine er_loc (pc' := 49) rfl rfl rfl ?_
      refine er_ia (pc' := 50) (a) rfl rfl rfl rfl ha rfl rfl ?_
      refine er_loc (pc' := 51) rfl rfl rfl ?_
      refine er_gf (pc' := 54) (_) rfl rfl rfl rfl rfl ?_
      refine er_loc (pc' := 55) rfl rfl rfl ?_
      refine er_ia (pc' := 56) (p) rfl rfl rfl rfl hp rfl rfl ?_
      refine er_cm_eq (pc' := 59) rfl rfl (fun h56 => ?_) (fun h56 => ?_)
      · refine er_loc (pc' := 66) rfl rfl rfl ?_
        refine er_loc (pc' := 67) rfl rfl rfl ?_
        refine er_loc (pc' := 68) rfl rfl rfl ?_
        refine er_loc (pc' := 70) rfl rfl rfl ?_
        refine er_cIi (pc' := 73) (rest := []) 11 rfl rfl rfl rfl rfl rfl (l_standThere _ _ _ ha _ _ hg) ?_
        refine er_if_eqb (pc' := 76) rfl rfl (fun h73 => ?_) (fun h73 => ?_)
        · refine er_loc (pc' := 89) rfl rfl rfl ?_
          refine er_k (pc' := 90) (nI 1) rfl rfl rfl ?_
          refine er_cIz (pc' := 93) (rest := []) 11 rfl rfl rfl rfl rfl rfl (l_error _ _ _ 1 (by decide)) ?_
          intro Z9
          refine er_iret rfl rfl ?_
          rw [if_neg (fun c => c.elim h26 h35), if_pos h56, if_neg (by first | (rw [h73]; simp; done) | (rw [h73, h85]; simp; done))]
          exact RI_of rfl rfl
        · refine er_loc (pc' := 77) rfl rfl rfl ?_
          refine er_loc (pc' := 78) rfl rfl rfl ?_
          refine er_loc (pc' := 80) rfl rfl rfl ?_
          refine er_loc (pc' := 82) rfl rfl rfl ?_
          refine er_cIi (pc' := 85) (rest := []) 11 rfl rfl rfl rfl rfl rfl (l_standThere _ _ _ hp _ _ he) ?_
          refine er_if_neb (pc' := 88) rfl rfl (fun h85 => ?_) (fun h85 => ?_)
          · have e1 := h73
            have e2 := h85
            unfold sStand at e1 e2
            rw [Bool.and_eq_true] at e1 e2
            obtain ⟨i', _, hi1, hi2⟩ := sIn_ex (by omega) (by omega) e1.1
            obtain ⟨j', _, hj1, hj2⟩ := sIn_ex (by omega) (by omega) e2.1
            subst hi2
            subst hj2
            rw [nI_sub hi1] at e1
            rw [nI_sub hj1] at e2
            obtain ⟨n', _, hn1, hn2⟩ := sIn_ex (by omega) (by omega) e1.2
            subst hn2
            obtain ⟨n2, _, hm1, hm2⟩ := sIn_ex (by omega) (by omega) e2.2
            have hnn : n' = n2 := (nI_eq (by omega) (by omega)).mp hm2
            refine er_loc (pc' := 95) rfl rfl rfl ?_
            refine er_gf (pc' := 98) (_) rfl rfl rfl rfl rfl ?_
            refine er_loc (pc' := 99) rfl rfl rfl ?_
            refine er_aa (pc' := 100) (a) rfl rfl rfl rfl rfl ha rfl rfl ?_
            refine er_loc (pc' := 101) rfl rfl rfl ?_
            refine er_loc (pc' := 102) rfl rfl rfl ?_
            refine er_gf (pc' := 105) (_) rfl rfl rfl rfl rfl ?_
            refine er_loc (pc' := 106) rfl rfl rfl ?_
            refine er_aa (pc' := 107) (p) rfl rfl rfl rfl rfl hp rfl rfl ?_
            refine er_loc (pc' := 109) rfl rfl rfl ?_
            refine er_loc (pc' := 111) rfl rfl rfl ?_
            refine er_cpX (pc' := 114) (i') (j') (n') rfl rfl rfl (blt_R ha) (blt_R hp) (cO_R ha _ _) (fun f => cO_R hp f _) rfl rfl rfl (by omega) (by omega) rfl rfl ?_
            refine er_loc (pc' := 116) rfl rfl rfl ?_
            refine er_iret rfl rfl ?_
            rw [if_neg (fun c => c.elim h26 h35), if_pos h56, if_pos (by rw [h73, h85]; rfl), nN_nI (by omega), nN_nI (by omega), nN_nI (by omega)]
            exact RI_of rfl rfl
          · refine er_loc (pc' := 89) rfl rfl rfl ?_
            refine er_k (pc' := 90) (nI 1) rfl rfl rfl ?_
            refine er_cIz (pc' := 93) (rest := []) 11 rfl rfl rfl rfl rfl rfl (l_error _ _ _ 1 (by decide)) ?_
            intro Z9
            refine er_iret rfl rfl ?_
            rw [if_neg (fun c => c.elim h26 h35), if_pos h56, if_neg (by first | (rw [h73]; simp; done) | (rw [h73, h85]; simp; done))]
            exact RI_of rfl rfl
      · refine er_loc (pc' := 60) rfl rfl rfl ?_
        refine er_k (pc' := 61) (nI 5) rfl rfl rfl ?_
        refine er_cIz (pc' := 64) (rest := []) 11 rfl rfl rfl rfl rfl rfl (l_error _ _ _ 5 (by decide)) ?_
        intro Z9
        refine er_iret rfl rfl ?_
        rw [if_neg (fun c => c.elim h26 h35), if_neg h56]
        exact RI_of rfl rfl
    · refine er_loc (pc' := 39) rfl rfl rfl ?_
      refine er_k (pc' := 40) (nI 2) rfl rfl rfl ?_
      refine er_cIz (pc' := 43) (rest := []) 11 rfl rfl rfl rfl rfl rfl (l_error _ _ _ 2 (by decide)) ?_
      intro Z9
      refine er_iret rfl rfl ?_
      rw [if_pos (by first | exact Or.inl h26 | exact Or.inr h35)]
      exact RI_of rfl rfl
end
section
/-! THE FACE: SHEETS, more -/
def zr (f : Nat → Int32) (i : Nat) : Nat → Int32 := fun j => if j < i then nI 0 else f j
theorem zr_0 (f : Nat → Int32) : zr f 0 = f := by
  funext j
  unfold zr
  rw [if_neg (by omega)]
theorem zr_succ (f : Nat → Int32) (i : Nat) : u1 (zr f i) i (nI 0) = zr f (i + 1) := by
  funext j
  unfold zr u1
  by_cases h : j = i
  · subst h; rw [if_pos rfl, if_pos (by omega)]
  · rw [if_neg h]
    by_cases h2 : j < i
    · show (if j < i then nI 0 else f j) = _
      rw [if_pos h2, if_pos (by omega)]
    · show (if j < i then nI 0 else f j) = _
      rw [if_neg h2, if_neg (by omega)]
def sBits (b : Int32) : Bool := decide (b = 0) || (decide (b = nI 8) || (decide (b = nI 16) || decide (b = nI 32)))
def xSheet (X : Nat → Nat → Int32) (a : Nat) (b n : Int32) (i : Nat) : Nat → Nat → Int32 := uc (ud (ud X 60 a b) 59 a n) (55 + a) (zr (X (55 + a)) i)
theorem xSheet_row {X : Nat → Nat → Int32} {a : Nat} {b n : Int32} {i : Nat} : ud (xSheet X a b n i) (55 + a) i (nI 0) = xSheet X a b n (i + 1) := by
  unfold xSheet ud
  rw [uc_same, uc_uc, zr_succ]
theorem xSheet_0 {X : Nat → Nat → Int32} {a : Nat} {b n : Int32} (ha : a < 4) : xSheet X a b n 0 = ud (ud X 60 a b) 59 a n := by
  unfold xSheet
  rw [zr_0]
  have e : ud (ud X 60 a b) 59 a n (55 + a) = X (55 + a) := by rw [ud_ne (by omega), ud_ne (by omega)]
  rw [← e, uc_id]
set_option maxRecDepth 100000 in
set_option maxHeartbeats 4000000 in
theorem l_sheet_loop (d : Nat) (X Z : Nat → Nat → Int32) {a : Nat} (ha : a < 4) (b n : Int32) : ∀ (m i : Nat) (x : Int32), i + m = 40 → x = nI i → ER (d + 2) tb_m112 98 [(0, .ref 0), (1, .int (nI a)), (5, .int x)] [] (Wd (xSheet X a b n i) Z) (RI (nI 1) (xSheet X a b n 40))
  | 0, i, x, hi, hx => by
    have hi0 : i = 40 := by omega
    subst hx
    subst hi0
    refine er_loc (pc' := 100) rfl rfl rfl ?_
    refine er_k (pc' := 102) (nI 40) rfl rfl rfl ?_
    refine er_cm_geT rfl (nI_nlt (by omega) (by omega)) ?_
    refine er_k (pc' := 122) (nI 1) rfl rfl rfl ?_
    refine er_iret rfl rfl ?_
    exact RI_of rfl rfl
  | m + 1, i, x, hi, hx => by
    subst hx
    refine er_loc (pc' := 100) rfl rfl rfl ?_
    refine er_k (pc' := 102) (nI 40) rfl rfl rfl ?_
    refine er_cm_geF (pc' := 105) rfl (nI_lt (by omega) (by omega)) rfl ?_
    refine er_loc (pc' := 106) rfl rfl rfl ?_
    refine er_gf (pc' := 109) (_) rfl rfl rfl rfl rfl ?_
    refine er_loc (pc' := 110) rfl rfl rfl ?_
    refine er_aa (pc' := 111) (a) rfl rfl rfl rfl rfl ha rfl rfl ?_
    refine er_loc (pc' := 113) rfl rfl rfl ?_
    refine er_k (pc' := 114) (nI 0) rfl rfl rfl ?_
    refine er_isX (pc' := 115) (i) rfl (blt_R ha) (fun f => cO_R ha f _) rfl (by omega) rfl rfl ?_
    refine er_loc (L' := [(5, .int (_ + nI 1)), (0, _), (1, _)]) rfl rfl rfl ?_
    refine er_goto rfl ?_
    refine ER_loc [(0, _), (1, _), (5, _)] rfl (List.forall_mem_cons.mpr ⟨rfl, List.forall_mem_cons.mpr ⟨rfl, List.forall_mem_cons.mpr ⟨rfl, fun _ h => absurd h List.not_mem_nil⟩⟩⟩) rfl rfl ?_
    rw [xSheet_row]
    exact l_sheet_loop d X Z ha b n m (i + 1) _ (by omega) (nI_add i 1)
set_option maxRecDepth 100000 in
set_option maxHeartbeats 4000000 in
theorem l_sheet_no (d : Nat) (X Z : Nat → Nat → Int32) (s b n : Int32) (hs : (sIn s (nI 0) (nI 3) && sBits b) = false) : EC (d + 3) 112 [.ref 0, .int s, .int b, .int n] (Wd X Z) (RI (sErr 1) (xErr X 1)) := by
  refine er_enter (L := [(0, _), (1, _), (2, _), (3, _)]) rfl rfl rfl ?_
  refine er_loc (pc' := 1) rfl rfl rfl ?_
  refine er_if_eq (pc' := 4) rfl rfl (fun h1 => ?_) (fun h1 => ?_)
  · refine er_k (pc' := 23) (nI 1) rfl rfl rfl ?_
    refine er_goto rfl ?_
    refine er_loc (pc' := 29) (L' := [(4, _), (0, _), (1, _), (2, _), (3, _)]) rfl rfl rfl ?_
    refine er_loc (pc' := 30) rfl rfl rfl ?_
    refine er_cSi (pc' := 33) (rest := []) rfl rfl rfl (l_xSheet _ _ _) ?_
    refine er_if_eqb (pc' := 36) rfl rfl (fun h33 => ?_) (fun h33 => ?_)
    · refine er_loc (pc' := 42) rfl rfl rfl ?_
      refine er_k (pc' := 43) (nI 1) rfl rfl rfl ?_
      refine er_cIz (pc' := 46) (rest := []) 11 rfl rfl rfl rfl rfl rfl (l_error _ _ _ 1 (by decide)) ?_
      intro Z9
      refine er_iret rfl rfl ?_
      exact RI_of rfl rfl
    · refine er_loc (pc' := 38) rfl rfl rfl ?_
      refine er_if_neT rfl (by decide +kernel) ?_
      exfalso
      rw [h33] at hs
      unfold sBits at hs
      simp only [Bool.true_and, Bool.or_eq_false_iff, decide_eq_false_iff_not] at hs
      first | exact hs.1 h1 | exact hs.2.1 h7 | exact hs.2.2.1 h13 | exact hs.2.2.2 h19
  · refine er_loc (pc' := 5) rfl rfl rfl ?_
    refine er_k (pc' := 7) (nI 8) rfl rfl rfl ?_
    refine er_cm_eq (pc' := 10) rfl rfl (fun h7 => ?_) (fun h7 => ?_)
    · refine er_k (pc' := 23) (nI 1) rfl rfl rfl ?_
      refine er_goto rfl ?_
      refine er_loc (pc' := 29) (L' := [(4, _), (0, _), (1, _), (2, _), (3, _)]) rfl rfl rfl ?_
      refine er_loc (pc' := 30) rfl rfl rfl ?_
      refine er_cSi (pc' := 33) (rest := []) rfl rfl rfl (l_xSheet _ _ _) ?_
      refine er_if_eqb (pc' := 36) rfl rfl (fun h33 => ?_) (fun h33 => ?_)
      · refine er_loc (pc' := 42) rfl rfl rfl ?_
        refine er_k (pc' := 43) (nI 1) rfl rfl rfl ?_
        refine er_cIz (pc' := 46) (rest := []) 11 rfl rfl rfl rfl rfl rfl (l_error _ _ _ 1 (by decide)) ?_
        intro Z9
        refine er_iret rfl rfl ?_
        exact RI_of rfl rfl
      · refine er_loc (pc' := 38) rfl rfl rfl ?_
        refine er_if_neT rfl (by decide +kernel) ?_
        exfalso
        rw [h33] at hs
        unfold sBits at hs
        simp only [Bool.true_and, Bool.or_eq_false_iff, decide_eq_false_iff_not] at hs
        first | exact hs.1 h1 | exact hs.2.1 h7 | exact hs.2.2.1 h13 | exact hs.2.2.2 h19
    · refine er_loc (pc' := 11) rfl rfl rfl ?_
      refine er_k (pc' := 13) (nI 16) rfl rfl rfl ?_
      refine er_cm_eq (pc' := 16) rfl rfl (fun h13 => ?_) (fun h13 => ?_)
      · refine er_k (pc' := 23) (nI 1) rfl rfl rfl ?_
        refine er_goto rfl ?_
        refine er_loc (pc' := 29) (L' := [(4, _), (0, _), (1, _), (2, _), (3, _)]) rfl rfl rfl ?_
        refine er_loc (pc' := 30) rfl rfl rfl ?_
        refine er_cSi (pc' := 33) (rest := []) rfl rfl rfl (l_xSheet _ _ _) ?_
        refine er_if_eqb (pc' := 36) rfl rfl (fun h33 => ?_) (fun h33 => ?_)
        · refine er_loc (pc' := 42) rfl rfl rfl ?_
          refine er_k (pc' := 43) (nI 1) rfl rfl rfl ?_
          refine er_cIz (pc' := 46) (rest := []) 11 rfl rfl rfl rfl rfl rfl (l_error _ _ _ 1 (by decide)) ?_
          intro Z9
          refine er_iret rfl rfl ?_
          exact RI_of rfl rfl
        · refine er_loc (pc' := 38) rfl rfl rfl ?_
          refine er_if_neT rfl (by decide +kernel) ?_
          exfalso
          rw [h33] at hs
          unfold sBits at hs
          simp only [Bool.true_and, Bool.or_eq_false_iff, decide_eq_false_iff_not] at hs
          first | exact hs.1 h1 | exact hs.2.1 h7 | exact hs.2.2.1 h13 | exact hs.2.2.2 h19
      · refine er_loc (pc' := 17) rfl rfl rfl ?_
        refine er_k (pc' := 19) (nI 32) rfl rfl rfl ?_
        refine er_cm_ne (pc' := 22) rfl rfl (fun h19 => ?_) (fun h19 => ?_)
        · refine er_k (pc' := 27) (nI 0) rfl rfl rfl ?_
          refine er_loc (pc' := 29) (L' := [(4, _), (0, _), (1, _), (2, _), (3, _)]) rfl rfl rfl ?_
          refine er_loc (pc' := 30) rfl rfl rfl ?_
          refine er_cSi (pc' := 33) (rest := []) rfl rfl rfl (l_xSheet _ _ _) ?_
          refine er_if_eqb (pc' := 36) rfl rfl (fun h33 => ?_) (fun h33 => ?_)
          · refine er_loc (pc' := 42) rfl rfl rfl ?_
            refine er_k (pc' := 43) (nI 1) rfl rfl rfl ?_
            refine er_cIz (pc' := 46) (rest := []) 11 rfl rfl rfl rfl rfl rfl (l_error _ _ _ 1 (by decide)) ?_
            intro Z9
            refine er_iret rfl rfl ?_
            exact RI_of rfl rfl
          · refine er_loc (pc' := 38) rfl rfl rfl ?_
            refine er_if_neF (pc' := 41) rfl (by decide +kernel) rfl ?_
            refine er_loc (pc' := 42) rfl rfl rfl ?_
            refine er_k (pc' := 43) (nI 1) rfl rfl rfl ?_
            refine er_cIz (pc' := 46) (rest := []) 11 rfl rfl rfl rfl rfl rfl (l_error _ _ _ 1 (by decide)) ?_
            intro Z9
            refine er_iret rfl rfl ?_
            exact RI_of rfl rfl
        · refine er_k (pc' := 23) (nI 1) rfl rfl rfl ?_
          refine er_goto rfl ?_
          refine er_loc (pc' := 29) (L' := [(4, _), (0, _), (1, _), (2, _), (3, _)]) rfl rfl rfl ?_
          refine er_loc (pc' := 30) rfl rfl rfl ?_
          refine er_cSi (pc' := 33) (rest := []) rfl rfl rfl (l_xSheet _ _ _) ?_
          refine er_if_eqb (pc' := 36) rfl rfl (fun h33 => ?_) (fun h33 => ?_)
          · refine er_loc (pc' := 42) rfl rfl rfl ?_
            refine er_k (pc' := 43) (nI 1) rfl rfl rfl ?_
            refine er_cIz (pc' := 46) (rest := []) 11 rfl rfl rfl rfl rfl rfl (l_error _ _ _ 1 (by decide)) ?_
            intro Z9
            refine er_iret rfl rfl ?_
            exact RI_of rfl rfl
          · refine er_loc (pc' := 38) rfl rfl rfl ?_
            refine er_if_neT rfl (by decide +kernel) ?_
            exfalso
            rw [h33] at hs
            unfold sBits at hs
            simp only [Bool.true_and, Bool.or_eq_false_iff, decide_eq_false_iff_not] at hs
            first | exact hs.1 h1 | exact hs.2.1 h7 | exact hs.2.2.1 h13 | exact hs.2.2.2 h19
set_option maxRecDepth 100000 in
set_option maxHeartbeats 4000000 in
theorem l_sheet (d : Nat) (X Z : Nat → Nat → Int32) {a : Nat} (ha : a < 4) (b n : Int32) (hb : sBits b = true) : EC (d + 3) 112 [.ref 0, .int (nI a), .int b, .int n] (Wd X Z) (fun r => if b = 0 then RI (nI 1) (xSheet X a b (nI 0) 40) r else if n < 0 then RI (sErr 3) (xErr X 3) r else if nI 40 < n then RI (sErr 1) (xErr X 1) r else RI (nI 1) (xSheet X a b n 40) r) := by
  obtain ⟨g, hg⟩ : ∃ g : Int32, g = if b = 0 then nI 0 else n := ⟨_, rfl⟩
  refine er_enter (L := [(0, _), (1, _), (2, _), (3, _)]) rfl rfl rfl ?_
  refine er_loc (pc' := 1) rfl rfl rfl ?_
  refine er_if_eq (pc' := 4) rfl rfl (fun h1 => ?_) (fun h1 => ?_)
  · refine er_k (pc' := 23) (nI 1) rfl rfl rfl ?_
    refine er_goto rfl ?_
    refine er_loc (pc' := 29) (L' := [(4, _), (0, _), (1, _), (2, _), (3, _)]) rfl rfl rfl ?_
    refine er_loc (pc' := 30) rfl rfl rfl ?_
    refine er_cSi (pc' := 33) (rest := []) rfl rfl rfl (l_xSheet _ _ _) ?_
    rw [show sIn (nI a) (nI 0) (nI 3) = true from sIn_t (by omega) (by omega) (by omega)]
    refine er_if_eqF (pc' := 36) rfl (by decide +kernel) rfl ?_
    refine er_loc (pc' := 38) rfl rfl rfl ?_
    refine er_if_neT rfl (by decide +kernel) ?_
    refine er_loc (pc' := 48) rfl rfl rfl ?_
    refine er_if_eq (pc' := 51) rfl rfl (fun h48 => ?_) (fun h48 => ?_)
    · refine er_loc (pc' := 74) rfl rfl rfl ?_
      refine er_gf (pc' := 77) (_) rfl rfl rfl rfl rfl ?_
      refine er_loc (pc' := 78) rfl rfl rfl ?_
      refine er_loc (pc' := 79) rfl rfl rfl ?_
      refine er_isX (pc' := 80) (a) rfl rfl (fun _ => rfl) rfl ha rfl rfl ?_
      refine er_loc (pc' := 81) rfl rfl rfl ?_
      refine er_gf (pc' := 84) (_) rfl rfl rfl rfl rfl ?_
      refine er_loc (pc' := 85) rfl rfl rfl ?_
      refine er_loc (pc' := 86) rfl rfl rfl ?_
      refine er_if_ne (pc' := 89) rfl rfl (fun h86 => ?_) (fun h86 => ?_)
      · refine er_loc (pc' := 94) rfl rfl rfl ?_
        refine er_isX (pc' := 95) (a) rfl rfl (fun _ => rfl) rfl ha rfl rfl ?_
        refine er_k (pc' := 96) (nI 0) rfl rfl rfl ?_
        refine er_loc (pc' := 98) (L' := [(5, _), (4, _), (0, _), (1, _), (2, _), (3, _)]) rfl rfl rfl ?_
        refine ER_loc [(0, _), (1, _), (5, _)] rfl (List.forall_mem_cons.mpr ⟨rfl, List.forall_mem_cons.mpr ⟨rfl, List.forall_mem_cons.mpr ⟨rfl, fun _ h => absurd h List.not_mem_nil⟩⟩⟩) rfl rfl ?_
        rw [← xSheet_0 ha]
        refine ER.mono (l_sheet_loop d X Z ha b _ 40 0 _ (by omega) rfl) (fun r hr => ?_)
        first | exact absurd h48 h86 | exact absurd h86 h48 | (rw [if_pos h48]; exact hr) | (rw [if_pos h86]; exact hr) | (rw [if_neg h48, if_neg h52, if_neg h64]; exact hr)
      · refine er_k (pc' := 90) (nI 0) rfl rfl rfl ?_
        refine er_goto rfl ?_
        refine er_isX (pc' := 95) (a) rfl rfl (fun _ => rfl) rfl ha rfl rfl ?_
        refine er_k (pc' := 96) (nI 0) rfl rfl rfl ?_
        refine er_loc (pc' := 98) (L' := [(5, _), (4, _), (0, _), (1, _), (2, _), (3, _)]) rfl rfl rfl ?_
        refine ER_loc [(0, _), (1, _), (5, _)] rfl (List.forall_mem_cons.mpr ⟨rfl, List.forall_mem_cons.mpr ⟨rfl, List.forall_mem_cons.mpr ⟨rfl, fun _ h => absurd h List.not_mem_nil⟩⟩⟩) rfl rfl ?_
        rw [← xSheet_0 ha]
        refine ER.mono (l_sheet_loop d X Z ha b _ 40 0 _ (by omega) rfl) (fun r hr => ?_)
        first | exact absurd h48 h86 | exact absurd h86 h48 | (rw [if_pos h48]; exact hr) | (rw [if_pos h86]; exact hr) | (rw [if_neg h48, if_neg h52, if_neg h64]; exact hr)
    · refine er_loc (pc' := 52) rfl rfl rfl ?_
      refine er_if_ge (pc' := 55) rfl rfl (fun h52 => ?_) (fun h52 => ?_)
      · refine er_loc (pc' := 62) rfl rfl rfl ?_
        refine er_k (pc' := 64) (nI 40) rfl rfl rfl ?_
        refine er_cm_le (pc' := 67) rfl rfl (fun h64 => ?_) (fun h64 => ?_)
        · refine er_loc (pc' := 74) rfl rfl rfl ?_
          refine er_gf (pc' := 77) (_) rfl rfl rfl rfl rfl ?_
          refine er_loc (pc' := 78) rfl rfl rfl ?_
          refine er_loc (pc' := 79) rfl rfl rfl ?_
          refine er_isX (pc' := 80) (a) rfl rfl (fun _ => rfl) rfl ha rfl rfl ?_
          refine er_loc (pc' := 81) rfl rfl rfl ?_
          refine er_gf (pc' := 84) (_) rfl rfl rfl rfl rfl ?_
          refine er_loc (pc' := 85) rfl rfl rfl ?_
          refine er_loc (pc' := 86) rfl rfl rfl ?_
          refine er_if_ne (pc' := 89) rfl rfl (fun h86 => ?_) (fun h86 => ?_)
          · refine er_loc (pc' := 94) rfl rfl rfl ?_
            refine er_isX (pc' := 95) (a) rfl rfl (fun _ => rfl) rfl ha rfl rfl ?_
            refine er_k (pc' := 96) (nI 0) rfl rfl rfl ?_
            refine er_loc (pc' := 98) (L' := [(5, _), (4, _), (0, _), (1, _), (2, _), (3, _)]) rfl rfl rfl ?_
            refine ER_loc [(0, _), (1, _), (5, _)] rfl (List.forall_mem_cons.mpr ⟨rfl, List.forall_mem_cons.mpr ⟨rfl, List.forall_mem_cons.mpr ⟨rfl, fun _ h => absurd h List.not_mem_nil⟩⟩⟩) rfl rfl ?_
            rw [← xSheet_0 ha]
            refine ER.mono (l_sheet_loop d X Z ha b _ 40 0 _ (by omega) rfl) (fun r hr => ?_)
            first | exact absurd h48 h86 | exact absurd h86 h48 | (rw [if_pos h48]; exact hr) | (rw [if_pos h86]; exact hr) | (rw [if_neg h48, if_neg h52, if_neg h64]; exact hr)
          · refine er_k (pc' := 90) (nI 0) rfl rfl rfl ?_
            refine er_goto rfl ?_
            refine er_isX (pc' := 95) (a) rfl rfl (fun _ => rfl) rfl ha rfl rfl ?_
            refine er_k (pc' := 96) (nI 0) rfl rfl rfl ?_
            refine er_loc (pc' := 98) (L' := [(5, _), (4, _), (0, _), (1, _), (2, _), (3, _)]) rfl rfl rfl ?_
            refine ER_loc [(0, _), (1, _), (5, _)] rfl (List.forall_mem_cons.mpr ⟨rfl, List.forall_mem_cons.mpr ⟨rfl, List.forall_mem_cons.mpr ⟨rfl, fun _ h => absurd h List.not_mem_nil⟩⟩⟩) rfl rfl ?_
            rw [← xSheet_0 ha]
            refine ER.mono (l_sheet_loop d X Z ha b _ 40 0 _ (by omega) rfl) (fun r hr => ?_)
            first | exact absurd h48 h86 | exact absurd h86 h48 | (rw [if_pos h48]; exact hr) | (rw [if_pos h86]; exact hr) | (rw [if_neg h48, if_neg h52, if_neg h64]; exact hr)
        · refine er_loc (pc' := 68) rfl rfl rfl ?_
          refine er_k (pc' := 69) (nI 1) rfl rfl rfl ?_
          refine er_cIz (pc' := 72) (rest := []) 11 rfl rfl rfl rfl rfl rfl (l_error _ _ _ 1 (by decide)) ?_
          intro Z9
          refine er_iret rfl rfl ?_
          rw [if_neg h48, if_neg h52, if_pos h64]
          exact RI_of rfl rfl
      · refine er_loc (pc' := 56) rfl rfl rfl ?_
        refine er_k (pc' := 57) (nI 3) rfl rfl rfl ?_
        refine er_cIz (pc' := 60) (rest := []) 11 rfl rfl rfl rfl rfl rfl (l_error _ _ _ 3 (by decide)) ?_
        intro Z9
        refine er_iret rfl rfl ?_
        rw [if_neg h48, if_pos h52]
        exact RI_of rfl rfl
  · refine er_loc (pc' := 5) rfl rfl rfl ?_
    refine er_k (pc' := 7) (nI 8) rfl rfl rfl ?_
    refine er_cm_eq (pc' := 10) rfl rfl (fun h7 => ?_) (fun h7 => ?_)
    · refine er_k (pc' := 23) (nI 1) rfl rfl rfl ?_
      refine er_goto rfl ?_
      refine er_loc (pc' := 29) (L' := [(4, _), (0, _), (1, _), (2, _), (3, _)]) rfl rfl rfl ?_
      refine er_loc (pc' := 30) rfl rfl rfl ?_
      refine er_cSi (pc' := 33) (rest := []) rfl rfl rfl (l_xSheet _ _ _) ?_
      rw [show sIn (nI a) (nI 0) (nI 3) = true from sIn_t (by omega) (by omega) (by omega)]
      refine er_if_eqF (pc' := 36) rfl (by decide +kernel) rfl ?_
      refine er_loc (pc' := 38) rfl rfl rfl ?_
      refine er_if_neT rfl (by decide +kernel) ?_
      refine er_loc (pc' := 48) rfl rfl rfl ?_
      refine er_if_eq (pc' := 51) rfl rfl (fun h48 => ?_) (fun h48 => ?_)
      · refine er_loc (pc' := 74) rfl rfl rfl ?_
        refine er_gf (pc' := 77) (_) rfl rfl rfl rfl rfl ?_
        refine er_loc (pc' := 78) rfl rfl rfl ?_
        refine er_loc (pc' := 79) rfl rfl rfl ?_
        refine er_isX (pc' := 80) (a) rfl rfl (fun _ => rfl) rfl ha rfl rfl ?_
        refine er_loc (pc' := 81) rfl rfl rfl ?_
        refine er_gf (pc' := 84) (_) rfl rfl rfl rfl rfl ?_
        refine er_loc (pc' := 85) rfl rfl rfl ?_
        refine er_loc (pc' := 86) rfl rfl rfl ?_
        refine er_if_ne (pc' := 89) rfl rfl (fun h86 => ?_) (fun h86 => ?_)
        · refine er_loc (pc' := 94) rfl rfl rfl ?_
          refine er_isX (pc' := 95) (a) rfl rfl (fun _ => rfl) rfl ha rfl rfl ?_
          refine er_k (pc' := 96) (nI 0) rfl rfl rfl ?_
          refine er_loc (pc' := 98) (L' := [(5, _), (4, _), (0, _), (1, _), (2, _), (3, _)]) rfl rfl rfl ?_
          refine ER_loc [(0, _), (1, _), (5, _)] rfl (List.forall_mem_cons.mpr ⟨rfl, List.forall_mem_cons.mpr ⟨rfl, List.forall_mem_cons.mpr ⟨rfl, fun _ h => absurd h List.not_mem_nil⟩⟩⟩) rfl rfl ?_
          rw [← xSheet_0 ha]
          refine ER.mono (l_sheet_loop d X Z ha b _ 40 0 _ (by omega) rfl) (fun r hr => ?_)
          first | exact absurd h48 h86 | exact absurd h86 h48 | (rw [if_pos h48]; exact hr) | (rw [if_pos h86]; exact hr) | (rw [if_neg h48, if_neg h52, if_neg h64]; exact hr)
        · refine er_k (pc' := 90) (nI 0) rfl rfl rfl ?_
          refine er_goto rfl ?_
          refine er_isX (pc' := 95) (a) rfl rfl (fun _ => rfl) rfl ha rfl rfl ?_
          refine er_k (pc' := 96) (nI 0) rfl rfl rfl ?_
          refine er_loc (pc' := 98) (L' := [(5, _), (4, _), (0, _), (1, _), (2, _), (3, _)]) rfl rfl rfl ?_
          refine ER_loc [(0, _), (1, _), (5, _)] rfl (List.forall_mem_cons.mpr ⟨rfl, List.forall_mem_cons.mpr ⟨rfl, List.forall_mem_cons.mpr ⟨rfl, fun _ h => absurd h List.not_mem_nil⟩⟩⟩) rfl rfl ?_
          rw [← xSheet_0 ha]
          refine ER.mono (l_sheet_loop d X Z ha b _ 40 0 _ (by omega) rfl) (fun r hr => ?_)
          first | exact absurd h48 h86 | exact absurd h86 h48 | (rw [if_pos h48]; exact hr) | (rw [if_pos h86]; exact hr) | (rw [if_neg h48, if_neg h52, if_neg h64]; exact hr)
      · refine er_loc (pc' := 52) rfl rfl rfl ?_
        refine er_if_ge (pc' := 55) rfl rfl (fun h52 => ?_) (fun h52 => ?_)
        · refine er_loc (pc' := 62) rfl rfl rfl ?_
          refine er_k (pc' := 64) (nI 40) rfl rfl rfl ?_
          refine er_cm_le (pc' := 67) rfl rfl (fun h64 => ?_) (fun h64 => ?_)
          · refine er_loc (pc' := 74) rfl rfl rfl ?_
            refine er_gf (pc' := 77) (_) rfl rfl rfl rfl rfl ?_
            refine er_loc (pc' := 78) rfl rfl rfl ?_
            refine er_loc (pc' := 79) rfl rfl rfl ?_
            refine er_isX (pc' := 80) (a) rfl rfl (fun _ => rfl) rfl ha rfl rfl ?_
            refine er_loc (pc' := 81) rfl rfl rfl ?_
            refine er_gf (pc' := 84) (_) rfl rfl rfl rfl rfl ?_
            refine er_loc (pc' := 85) rfl rfl rfl ?_
            refine er_loc (pc' := 86) rfl rfl rfl ?_
            refine er_if_ne (pc' := 89) rfl rfl (fun h86 => ?_) (fun h86 => ?_)
            · refine er_loc (pc' := 94) rfl rfl rfl ?_
              refine er_isX (pc' := 95) (a) rfl rfl (fun _ => rfl) rfl ha rfl rfl ?_
              refine er_k (pc' := 96) (nI 0) rfl rfl rfl ?_
              refine er_loc (pc' := 98) (L' := [(5, _), (4, _), (0, _), (1, _), (2, _), (3, _)]) rfl rfl rfl ?_
              refine ER_loc [(0, _), (1, _), (5, _)] rfl (List.forall_mem_cons.mpr ⟨rfl, List.forall_mem_cons.mpr ⟨rfl, List.forall_mem_cons.mpr ⟨rfl, fun _ h => absurd h List.not_mem_nil⟩⟩⟩) rfl rfl ?_
              rw [← xSheet_0 ha]
              refine ER.mono (l_sheet_loop d X Z ha b _ 40 0 _ (by omega) rfl) (fun r hr => ?_)
              first | exact absurd h48 h86 | exact absurd h86 h48 | (rw [if_pos h48]; exact hr) | (rw [if_pos h86]; exact hr) | (rw [if_neg h48, if_neg h52, if_neg h64]; exact hr)
            · refine er_k (pc' := 90) (nI 0) rfl rfl rfl ?_
              refine er_goto rfl ?_
              refine er_isX (pc' := 95) (a) rfl rfl (fun _ => rfl) rfl ha rfl rfl ?_
              refine er_k (pc' := 96) (nI 0) rfl rfl rfl ?_
              refine er_loc (pc' := 98) (L' := [(5, _), (4, _), (0, _), (1, _), (2, _), (3, _)]) rfl rfl rfl ?_
              refine ER_loc [(0, _), (1, _), (5, _)] rfl (List.forall_mem_cons.mpr ⟨rfl, List.forall_mem_cons.mpr ⟨rfl, List.forall_mem_cons.mpr ⟨rfl, fun _ h => absurd h List.not_mem_nil⟩⟩⟩) rfl rfl ?_
              rw [← xSheet_0 ha]
              refine ER.mono (l_sheet_loop d X Z ha b _ 40 0 _ (by omega) rfl) (fun r hr => ?_)
              first | exact absurd h48 h86 | exact absurd h86 h48 | (rw [if_pos h48]; exact hr) | (rw [if_pos h86]; exact hr) | (rw [if_neg h48, if_neg h52, if_neg h64]; exact hr)
          · refine er_loc (pc' := 68) rfl rfl rfl ?_
            refine er_k (pc' := 69) (nI 1) rfl rfl rfl ?_
            refine er_cIz (pc' := 72) (rest := []) 11 rfl rfl rfl rfl rfl rfl (l_error _ _ _ 1 (by decide)) ?_
            intro Z9
            refine er_iret rfl rfl ?_
            rw [if_neg h48, if_neg h52, if_pos h64]
            exact RI_of rfl rfl
        · refine er_loc (pc' := 56) rfl rfl rfl ?_
          refine er_k (pc' := 57) (nI 3) rfl rfl rfl ?_
          refine er_cIz (pc' := 60) (rest := []) 11 rfl rfl rfl rfl rfl rfl (l_error _ _ _ 3 (by decide)) ?_
          intro Z9
          refine er_iret rfl rfl ?_
          rw [if_neg h48, if_pos h52]
          exact RI_of rfl rfl
    · refine er_loc (pc' := 11) rfl rfl rfl ?_
      refine er_k (pc' := 13) (nI 16) rfl rfl rfl ?_
      refine er_cm_eq (pc' := 16) rfl rfl (fun h13 => ?_) (fun h13 => ?_)
      · refine er_k (pc' := 23) (nI 1) rfl rfl rfl ?_
        refine er_goto rfl ?_
        refine er_loc (pc' := 29) (L' := [(4, _), (0, _), (1, _), (2, _), (3, _)]) rfl rfl rfl ?_
        refine er_loc (pc' := 30) rfl rfl rfl ?_
        refine er_cSi (pc' := 33) (rest := []) rfl rfl rfl (l_xSheet _ _ _) ?_
        rw [show sIn (nI a) (nI 0) (nI 3) = true from sIn_t (by omega) (by omega) (by omega)]
        refine er_if_eqF (pc' := 36) rfl (by decide +kernel) rfl ?_
        refine er_loc (pc' := 38) rfl rfl rfl ?_
        refine er_if_neT rfl (by decide +kernel) ?_
        refine er_loc (pc' := 48) rfl rfl rfl ?_
        refine er_if_eq (pc' := 51) rfl rfl (fun h48 => ?_) (fun h48 => ?_)
        · refine er_loc (pc' := 74) rfl rfl rfl ?_
          refine er_gf (pc' := 77) (_) rfl rfl rfl rfl rfl ?_
          refine er_loc (pc' := 78) rfl rfl rfl ?_
          refine er_loc (pc' := 79) rfl rfl rfl ?_
          refine er_isX (pc' := 80) (a) rfl rfl (fun _ => rfl) rfl ha rfl rfl ?_
          refine er_loc (pc' := 81) rfl rfl rfl ?_
          refine er_gf (pc' := 84) (_) rfl rfl rfl rfl rfl ?_
          refine er_loc (pc' := 85) rfl rfl rfl ?_
          refine er_loc (pc' := 86) rfl rfl rfl ?_
          refine er_if_ne (pc' := 89) rfl rfl (fun h86 => ?_) (fun h86 => ?_)
          · refine er_loc (pc' := 94) rfl rfl rfl ?_
            refine er_isX (pc' := 95) (a) rfl rfl (fun _ => rfl) rfl ha rfl rfl ?_
            refine er_k (pc' := 96) (nI 0) rfl rfl rfl ?_
            refine er_loc (pc' := 98) (L' := [(5, _), (4, _), (0, _), (1, _), (2, _), (3, _)]) rfl rfl rfl ?_
            refine ER_loc [(0, _), (1, _), (5, _)] rfl (List.forall_mem_cons.mpr ⟨rfl, List.forall_mem_cons.mpr ⟨rfl, List.forall_mem_cons.mpr ⟨rfl, fun _ h => absurd h List.not_mem_nil⟩⟩⟩) rfl rfl ?_
            rw [← xSheet_0 ha]
            refine ER.mono (l_sheet_loop d X Z ha b _ 40 0 _ (by omega) rfl) (fun r hr => ?_)
            first | exact absurd h48 h86 | exact absurd h86 h48 | (rw [if_pos h48]; exact hr) | (rw [if_pos h86]; exact hr) | (rw [if_neg h48, if_neg h52, if_neg h64]; exact hr)
          · refine er_k (pc' := 90) (nI 0) rfl rfl rfl ?_
            refine er_goto rfl ?_
            refine er_isX (pc' := 95) (a) rfl rfl (fun _ => rfl) rfl ha rfl rfl ?_
            refine er_k (pc' := 96) (nI 0) rfl rfl rfl ?_
            refine er_loc (pc' := 98) (L' := [(5, _), (4, _), (0, _), (1, _), (2, _), (3, _)]) rfl rfl rfl ?_
            refine ER_loc [(0, _), (1, _), (5, _)] rfl (List.forall_mem_cons.mpr ⟨rfl, List.forall_mem_cons.mpr ⟨rfl, List.forall_mem_cons.mpr ⟨rfl, fun _ h => absurd h List.not_mem_nil⟩⟩⟩) rfl rfl ?_
            rw [← xSheet_0 ha]
            refine ER.mono (l_sheet_loop d X Z ha b _ 40 0 _ (by omega) rfl) (fun r hr => ?_)
            first | exact absurd h48 h86 | exact absurd h86 h48 | (rw [if_pos h48]; exact hr) | (rw [if_pos h86]; exact hr) | (rw [if_neg h48, if_neg h52, if_neg h64]; exact hr)
        · refine er_loc (pc' := 52) rfl rfl rfl ?_
          refine er_if_ge (pc' := 55) rfl rfl (fun h52 => ?_) (fun h52 => ?_)
          · refine er_loc (pc' := 62) rfl rfl rfl ?_
            refine er_k (pc' := 64) (nI 40) rfl rfl rfl ?_
            refine er_cm_le (pc' := 67) rfl rfl (fun h64 => ?_) (fun h64 => ?_)
            · refine er_loc (pc' := 74) rfl rfl rfl ?_
              refine er_gf (pc' := 77) (_) rfl rfl rfl rfl rfl ?_
              refine er_loc (pc' := 78) rfl rfl rfl ?_
              refine er_loc (pc' := 79) rfl rfl rfl ?_
              refine er_isX (pc' := 80) (a) rfl rfl (fun _ => rfl) rfl ha rfl rfl ?_
              refine er_loc (pc' := 81) rfl rfl rfl ?_
              refine er_gf (pc' := 84) (_) rfl rfl rfl rfl rfl ?_
              refine er_loc (pc' := 85) rfl rfl rfl ?_
              refine er_loc (pc' := 86) rfl rfl rfl ?_
              refine er_if_ne (pc' := 89) rfl rfl (fun h86 => ?_) (fun h86 => ?_)
              · refine er_loc (pc' := 94) rfl rfl rfl ?_
                refine er_isX (pc' := 95) (a) rfl rfl (fun _ => rfl) rfl ha rfl rfl ?_
                refine er_k (pc' := 96) (nI 0) rfl rfl rfl ?_
                refine er_loc (pc' := 98) (L' := [(5, _), (4, _), (0, _), (1, _), (2, _), (3, _)]) rfl rfl rfl ?_
                refine ER_loc [(0, _), (1, _), (5, _)] rfl (List.forall_mem_cons.mpr ⟨rfl, List.forall_mem_cons.mpr ⟨rfl, List.forall_mem_cons.mpr ⟨rfl, fun _ h => absurd h List.not_mem_nil⟩⟩⟩) rfl rfl ?_
                rw [← xSheet_0 ha]
                refine ER.mono (l_sheet_loop d X Z ha b _ 40 0 _ (by omega) rfl) (fun r hr => ?_)
                first | exact absurd h48 h86 | exact absurd h86 h48 | (rw [if_pos h48]; exact hr) | (rw [if_pos h86]; exact hr) | (rw [if_neg h48, if_neg h52, if_neg h64]; exact hr)
              · refine er_k (pc' := 90) (nI 0) rfl rfl rfl ?_
                refine er_goto rfl ?_
                refine er_isX (pc' := 95) (a) rfl rfl (fun _ => rfl) rfl ha rfl rfl ?_
                refine er_k (pc' := 96) (nI 0) rfl rfl rfl ?_
                refine er_loc (pc' := 98) (L' := [(5, _), (4, _), (0, _), (1, _), (2, _), (3, _)]) rfl rfl rfl ?_
                refine ER_loc [(0, _), (1, _), (5, _)] rfl (List.forall_mem_cons.mpr ⟨rfl, List.forall_mem_cons.mpr ⟨rfl, List.forall_mem_cons.mpr ⟨rfl, fun _ h => absurd h List.not_mem_nil⟩⟩⟩) rfl rfl ?_
                rw [← xSheet_0 ha]
                refine ER.mono (l_sheet_loop d X Z ha b _ 40 0 _ (by omega) rfl) (fun r hr => ?_)
                first | exact absurd h48 h86 | exact absurd h86 h48 | (rw [if_pos h48]; exact hr) | (rw [if_pos h86]; exact hr) | (rw [if_neg h48, if_neg h52, if_neg h64]; exact hr)
            · refine er_loc (pc' := 68) rfl rfl rfl ?_
              refine er_k (pc' := 69) (nI 1) rfl rfl rfl ?_
              refine er_cIz (pc' := 72) (rest := []) 11 rfl rfl rfl rfl rfl rfl (l_error _ _ _ 1 (by decide)) ?_
              intro Z9
              refine er_iret rfl rfl ?_
              rw [if_neg h48, if_neg h52, if_pos h64]
              exact RI_of rfl rfl
          · refine er_loc (pc' := 56) rfl rfl rfl ?_
            refine er_k (pc' := 57) (nI 3) rfl rfl rfl ?_
            refine er_cIz (pc' := 60) (rest := []) 11 rfl rfl rfl rfl rfl rfl (l_error _ _ _ 3 (by decide)) ?_
            intro Z9
            refine er_iret rfl rfl ?_
            rw [if_neg h48, if_pos h52]
            exact RI_of rfl rfl
      · refine er_loc (pc' := 17) rfl rfl rfl ?_
        refine er_k (pc' := 19) (nI 32) rfl rfl rfl ?_
        refine er_cm_ne (pc' := 22) rfl rfl (fun h19 => ?_) (fun h19 => ?_)
        · refine er_k (pc' := 27) (nI 0) rfl rfl rfl ?_
          refine er_loc (pc' := 29) (L' := [(4, _), (0, _), (1, _), (2, _), (3, _)]) rfl rfl rfl ?_
          refine er_loc (pc' := 30) rfl rfl rfl ?_
          refine er_cSi (pc' := 33) (rest := []) rfl rfl rfl (l_xSheet _ _ _) ?_
          rw [show sIn (nI a) (nI 0) (nI 3) = true from sIn_t (by omega) (by omega) (by omega)]
          refine er_if_eqF (pc' := 36) rfl (by decide +kernel) rfl ?_
          refine er_loc (pc' := 38) rfl rfl rfl ?_
          refine er_if_neF (pc' := 41) rfl (by decide +kernel) rfl ?_
          exfalso
          unfold sBits at hb
          simp only [Bool.or_eq_true, decide_eq_true_eq] at hb
          rcases hb with c | c | c | c
          · exact h1 c
          · exact h7 c
          · exact h13 c
          · exact h19 c
        · refine er_k (pc' := 23) (nI 1) rfl rfl rfl ?_
          refine er_goto rfl ?_
          refine er_loc (pc' := 29) (L' := [(4, _), (0, _), (1, _), (2, _), (3, _)]) rfl rfl rfl ?_
          refine er_loc (pc' := 30) rfl rfl rfl ?_
          refine er_cSi (pc' := 33) (rest := []) rfl rfl rfl (l_xSheet _ _ _) ?_
          rw [show sIn (nI a) (nI 0) (nI 3) = true from sIn_t (by omega) (by omega) (by omega)]
          refine er_if_eqF (pc' := 36) rfl (by decide +kernel) rfl ?_
          refine er_loc (pc' := 38) rfl rfl rfl ?_
          refine er_if_neT rfl (by decide +kernel) ?_
          refine er_loc (pc' := 48) rfl rfl rfl ?_
          refine er_if_eq (pc' := 51) rfl rfl (fun h48 => ?_) (fun h48 => ?_)
          · refine er_loc (pc' := 74) rfl rfl rfl ?_
            refine er_gf (pc' := 77) (_) rfl rfl rfl rfl rfl ?_
            refine er_loc (pc' := 78) rfl rfl rfl ?_
            refine er_loc (pc' := 79) rfl rfl rfl ?_
            refine er_isX (pc' := 80) (a) rfl rfl (fun _ => rfl) rfl ha rfl rfl ?_
            refine er_loc (pc' := 81) rfl rfl rfl ?_
            refine er_gf (pc' := 84) (_) rfl rfl rfl rfl rfl ?_
            refine er_loc (pc' := 85) rfl rfl rfl ?_
            refine er_loc (pc' := 86) rfl rfl rfl ?_
            refine er_if_ne (pc' := 89) rfl rfl (fun h86 => ?_) (fun h86 => ?_)
            · refine er_loc (pc' := 94) rfl rfl rfl ?_
              refine er_isX (pc' := 95) (a) rfl rfl (fun _ => rfl) rfl ha rfl rfl ?_
              refine er_k (pc' := 96) (nI 0) rfl rfl rfl ?_
              refine er_loc (pc' := 98) (L' := [(5, _), (4, _), (0, _), (1, _), (2, _), (3, _)]) rfl rfl rfl ?_
              refine ER_loc [(0, _), (1, _), (5, _)] rfl (List.forall_mem_cons.mpr ⟨rfl, List.forall_mem_cons.mpr ⟨rfl, List.forall_mem_cons.mpr ⟨rfl, fun _ h => absurd h List.not_mem_nil⟩⟩⟩) rfl rfl ?_
              rw [← xSheet_0 ha]
              refine ER.mono (l_sheet_loop d X Z ha b _ 40 0 _ (by omega) rfl) (fun r hr => ?_)
              first | exact absurd h48 h86 | exact absurd h86 h48 | (rw [if_pos h48]; exact hr) | (rw [if_pos h86]; exact hr) | (rw [if_neg h48, if_neg h52, if_neg h64]; exact hr)
            · refine er_k (pc' := 90) (nI 0) rfl rfl rfl ?_
              refine er_goto rfl ?_
              refine er_isX (pc' := 95) (a) rfl rfl (fun _ => rfl) rfl ha rfl rfl ?_
              refine er_k (pc' := 96) (nI 0) rfl rfl rfl ?_
              refine er_loc (pc' := 98) (L' := [(5, _), (4, _), (0, _), (1, _), (2, _), (3, _)]) rfl rfl rfl ?_
              refine ER_loc [(0, _), (1, _), (5, _)] rfl (List.forall_mem_cons.mpr ⟨rfl, List.forall_mem_cons.mpr ⟨rfl, List.forall_mem_cons.mpr ⟨rfl, fun _ h => absurd h List.not_mem_nil⟩⟩⟩) rfl rfl ?_
              rw [← xSheet_0 ha]
              refine ER.mono (l_sheet_loop d X Z ha b _ 40 0 _ (by omega) rfl) (fun r hr => ?_)
              first | exact absurd h48 h86 | exact absurd h86 h48 | (rw [if_pos h48]; exact hr) | (rw [if_pos h86]; exact hr) | (rw [if_neg h48, if_neg h52, if_neg h64]; exact hr)
          · refine er_loc (pc' := 52) rfl rfl rfl ?_
            refine er_if_ge (pc' := 55) rfl rfl (fun h52 => ?_) (fun h52 => ?_)
            · refine er_loc (pc' := 62) rfl rfl rfl ?_
              refine er_k (pc' := 64) (nI 40) rfl rfl rfl ?_
              refine er_cm_le (pc' := 67) rfl rfl (fun h64 => ?_) (fun h64 => ?_)
              · refine er_loc (pc' := 74) rfl rfl rfl ?_
                refine er_gf (pc' := 77) (_) rfl rfl rfl rfl rfl ?_
                refine er_loc (pc' := 78) rfl rfl rfl ?_
                refine er_loc (pc' := 79) rfl rfl rfl ?_
                refine er_isX (pc' := 80) (a) rfl rfl (fun _ => rfl) rfl ha rfl rfl ?_
                refine er_loc (pc' := 81) rfl rfl rfl ?_
                refine er_gf (pc' := 84) (_) rfl rfl rfl rfl rfl ?_
                refine er_loc (pc' := 85) rfl rfl rfl ?_
                refine er_loc (pc' := 86) rfl rfl rfl ?_
                refine er_if_ne (pc' := 89) rfl rfl (fun h86 => ?_) (fun h86 => ?_)
                · refine er_loc (pc' := 94) rfl rfl rfl ?_
                  refine er_isX (pc' := 95) (a) rfl rfl (fun _ => rfl) rfl ha rfl rfl ?_
                  refine er_k (pc' := 96) (nI 0) rfl rfl rfl ?_
                  refine er_loc (pc' := 98) (L' := [(5, _), (4, _), (0, _), (1, _), (2, _), (3, _)]) rfl rfl rfl ?_
                  refine ER_loc [(0, _), (1, _), (5, _)] rfl (List.forall_mem_cons.mpr ⟨rfl, List.forall_mem_cons.mpr ⟨rfl, List.forall_mem_cons.mpr ⟨rfl, fun _ h => absurd h List.not_mem_nil⟩⟩⟩) rfl rfl ?_
                  rw [← xSheet_0 ha]
                  refine ER.mono (l_sheet_loop d X Z ha b _ 40 0 _ (by omega) rfl) (fun r hr => ?_)
                  first | exact absurd h48 h86 | exact absurd h86 h48 | (rw [if_pos h48]; exact hr) | (rw [if_pos h86]; exact hr) | (rw [if_neg h48, if_neg h52, if_neg h64]; exact hr)
                · refine er_k (pc' := 90) (nI 0) rfl rfl rfl ?_
                  refine er_goto rfl ?_
                  refine er_isX (pc' := 95) (a) rfl rfl (fun _ => rfl) rfl ha rfl rfl ?_
                  refine er_k (pc' := 96) (nI 0) rfl rfl rfl ?_
                  refine er_loc (pc' := 98) (L' := [(5, _), (4, _), (0, _), (1, _), (2, _), (3, _)]) rfl rfl rfl ?_
                  refine ER_loc [(0, _), (1, _), (5, _)] rfl (List.forall_mem_cons.mpr ⟨rfl, List.forall_mem_cons.mpr ⟨rfl, List.forall_mem_cons.mpr ⟨rfl, fun _ h => absurd h List.not_mem_nil⟩⟩⟩) rfl rfl ?_
                  rw [← xSheet_0 ha]
                  refine ER.mono (l_sheet_loop d X Z ha b _ 40 0 _ (by omega) rfl) (fun r hr => ?_)
                  first | exact absurd h48 h86 | exact absurd h86 h48 | (rw [if_pos h48]; exact hr) | (rw [if_pos h86]; exact hr) | (rw [if_neg h48, if_neg h52, if_neg h64]; exact hr)
              · refine er_loc (pc' := 68) rfl rfl rfl ?_
                refine er_k (pc' := 69) (nI 1) rfl rfl rfl ?_
                refine er_cIz (pc' := 72) (rest := []) 11 rfl rfl rfl rfl rfl rfl (l_error _ _ _ 1 (by decide)) ?_
                intro Z9
                refine er_iret rfl rfl ?_
                rw [if_neg h48, if_neg h52, if_pos h64]
                exact RI_of rfl rfl
            · refine er_loc (pc' := 56) rfl rfl rfl ?_
              refine er_k (pc' := 57) (nI 3) rfl rfl rfl ?_
              refine er_cIz (pc' := 60) (rest := []) 11 rfl rfl rfl rfl rfl rfl (l_error _ _ _ 3 (by decide)) ?_
              intro Z9
              refine er_iret rfl rfl ?_
              rw [if_neg h48, if_pos h52]
              exact RI_of rfl rfl
def jSc (f : Nat → Int32) : Nat → Nat → (Nat → Nat → Int32) → (Nat → Nat → Int32) × Nat
  | 0, i, J => (J, i)
  | m + 1, i, J => if sIn (f i) (nI 0) (nI 9) = true then jSc f m (i + 1) (ud J 3 i (f i)) else (J, i)
theorem min_nI {g n : Nat} (hg : g < 2 ^ 31) (hn : n < 2 ^ 31) : (if nI n < nI g then nI n else nI g) = nI (min g n) := by
  by_cases h : n < g
  · rw [if_pos (nI_lt h hg), show min g n = n by omega]
  · rw [if_neg (nI_nlt (by omega) hn), show min g n = g by omega]
set_option maxRecDepth 100000 in
set_option maxHeartbeats 4000000 in
theorem l_screws_loop (d : Nat) {X : Nat → Nat → Int32} {a : Nat} (ha : a < 4) (P : ab_R → Prop) (e : Nat) (he8 : e ≤ 8) : ∀ (m i : Nat) (X1 Z : Nat → Nat → Int32) (x : Int32), i + m = e → x = nI i → O9 X X1 → (∀ r, RJ (nI (jSc (X (55 + a)) m i (jx X1 9)).2) (jSc (X (55 + a)) m i (jx X1 9)).1 X r → P r) → ER (d + 2) tb_m117 47 [(0, .ref 0), (1, .int (nI a)), (2, .int (nI e)), (3, .int x)] [] (Wd X1 Z) P
  | 0, i, X1, Z, x, hi, hx, ho, hP => by
    have hi0 : i = e := by omega
    subst hx
    subst hi0
    refine er_loc (pc' := 48) rfl rfl rfl ?_
    refine er_loc (pc' := 49) rfl rfl rfl ?_
    refine er_cm_geT rfl (nI_nlt (by omega) (by omega)) ?_
    refine er_loc (pc' := 95) rfl rfl rfl ?_
    refine er_iret rfl rfl ?_
    exact hP _ ⟨X1, Z, rfl, rfl, ho⟩
  | m + 1, i, X1, Z, x, hi, hx, ho, hP => by
    subst hx
    refine er_loc (pc' := 48) rfl rfl rfl ?_
    refine er_loc (pc' := 49) rfl rfl rfl ?_
    refine er_cm_geF (pc' := 52) rfl (nI_lt (by omega) (by omega)) rfl ?_
    refine er_loc (pc' := 53) rfl rfl rfl ?_
    refine er_gf (pc' := 56) (_) rfl rfl rfl rfl rfl ?_
    refine er_loc (pc' := 57) rfl rfl rfl ?_
    refine er_aa (pc' := 58) (a) rfl rfl rfl rfl rfl ha rfl rfl ?_
    refine er_loc (pc' := 59) rfl rfl rfl ?_
    refine er_ia (pc' := 60) (i) rfl (blt_R ha) (cO_R ha _ _) rfl (by omega) rfl rfl ?_
    rw [ho (55 + a) (by omega)]
    refine er_k (pc' := 61) (nI 0) rfl rfl rfl ?_
    refine er_k (pc' := 63) (nI 9) rfl rfl rfl ?_
    refine er_cSi (pc' := 66) (rest := []) rfl rfl rfl (l_within _ _ _ _ _) ?_
    refine er_if_neb (pc' := 69) rfl rfl (fun h66 => ?_) (fun h66 => ?_)
    · refine er_loc (pc' := 72) rfl rfl rfl ?_
      refine er_gf (pc' := 75) (_) rfl rfl rfl rfl rfl ?_
      refine er_gf (pc' := 78) (_) rfl rfl rfl rfl rfl ?_
      refine er_loc (pc' := 79) rfl rfl rfl ?_
      refine er_loc (pc' := 80) rfl rfl rfl ?_
      refine er_gf (pc' := 83) (_) rfl rfl rfl rfl rfl ?_
      refine er_loc (pc' := 84) rfl rfl rfl ?_
      refine er_aa (pc' := 85) (a) rfl rfl rfl rfl rfl ha rfl rfl ?_
      refine er_loc (pc' := 86) rfl rfl rfl ?_
      refine er_ia (pc' := 87) (i) rfl (blt_R ha) (cO_R ha _ _) rfl (by omega) rfl rfl ?_
      rw [ho (55 + a) (by omega)]
      refine er_isX (pc' := 88) (i) rfl rfl (fun _ => rfl) rfl (by omega) rfl rfl ?_
      refine er_loc (L' := [(3, .int (_ + nI 1)), (0, _), (1, _), (2, _)]) rfl rfl rfl ?_
      refine er_goto rfl ?_
      refine ER_loc [(0, _), (1, _), (2, _), (3, _)] rfl (List.forall_mem_cons.mpr ⟨rfl, List.forall_mem_cons.mpr ⟨rfl, List.forall_mem_cons.mpr ⟨rfl, List.forall_mem_cons.mpr ⟨rfl, fun _ h => absurd h List.not_mem_nil⟩⟩⟩⟩) rfl rfl ?_
      have e2 : jSc (X (55 + a)) (m + 1) i (jx X1 9) = jSc (X (55 + a)) m (i + 1) (ud (jx X1 9) 3 i (X (55 + a) i)) := by
        show (if _ then _ else _) = _
        rw [if_pos h66]
      refine l_screws_loop d ha P e he8 m (i + 1) _ _ _ (by omega) (nI_add i 1) (ho.ud (by omega)) (fun r hr => hP r ?_)
      rw [e2, ← jx_ud3 (by omega)]
      exact hr
    · refine er_loc (pc' := 70) rfl rfl rfl ?_
      refine er_iret rfl rfl ?_
      have e2 : jSc (X (55 + a)) (m + 1) i (jx X1 9) = (jx X1 9, i) := by
        show (if _ then _ else _) = _
        rw [if_neg (by rw [h66]; decide)]
      apply hP
      rw [e2]
      exact ⟨X1, Z, rfl, rfl, ho⟩
set_option maxRecDepth 100000 in
set_option maxHeartbeats 4000000 in
theorem l_screws (d : Nat) (X Z : Nat → Nat → Int32) {T : Nat} (hI : IJ T (jx X 9)) {a : Nat} (ha : a < 4) {g : Nat} (hg : X 59 a = nI g) (h40 : g ≤ 40) : EC (d + 3) 117 [.ref 0, .int (nI a)] (Wd X Z) (fun r => if X 60 a = 0 then RI (sErr 2) (xErr X 2) r else RJ (nI (jSc (X (55 + a)) (min g (jn (jx X 9))) 0 (jx X 9)).2) (jSc (X (55 + a)) (min g (jn (jx X 9))) 0 (jx X 9)).1 X r) := by
  refine er_enter (L := [(0, _), (1, _)]) rfl rfl rfl ?_
  have h8 := jn8 hI
  refine er_loc (pc' := 1) rfl rfl rfl ?_
  refine er_cSi (pc' := 4) (rest := []) rfl rfl rfl (l_xSheet _ _ _) ?_
  rw [show sIn (nI a) (nI 0) (nI 3) = true from sIn_t (by omega) (by omega) (by omega)]
  refine er_if_neT rfl (by decide +kernel) ?_
  refine er_loc (pc' := 14) rfl rfl rfl ?_
  refine er_gf (pc' := 17) (_) rfl rfl rfl rfl rfl ?_
  refine er_loc (pc' := 18) rfl rfl rfl ?_
  refine er_ia (pc' := 19) (a) rfl rfl rfl rfl ha rfl rfl ?_
  refine er_if_ne (pc' := 22) rfl rfl (fun h19 => ?_) (fun h19 => ?_)
  · refine er_loc (pc' := 29) rfl rfl rfl ?_
    refine er_gf (pc' := 32) (_) rfl rfl rfl rfl rfl ?_
    refine er_loc (pc' := 33) rfl rfl rfl ?_
    refine er_ia (pc' := 34) (a) rfl rfl rfl rfl ha rfl rfl ?_
    rw [hg]
    refine er_loc (pc' := 35) rfl rfl rfl ?_
    refine er_gf (pc' := 38) (_) rfl rfl rfl rfl rfl ?_
    refine er_gf (pc' := 41) (.int (X 9 1)) rfl rfl rfl rfl rfl ?_
    rw [show X 9 1 = nI (jn (jx X 9)) from hI.n.1]
    refine er_min (pc' := 44) rfl rfl rfl rfl ?_
    rw [min_nI (by omega) (by omega)]
    refine er_loc (pc' := 45) (L' := [(2, _), (0, _), (1, _)]) rfl rfl rfl ?_
    refine er_k (pc' := 46) (nI 0) rfl rfl rfl ?_
    refine er_loc (pc' := 47) (L' := [(3, _), (2, _), (0, _), (1, _)]) rfl rfl rfl ?_
    refine ER_loc [(0, _), (1, _), (2, _), (3, _)] rfl (List.forall_mem_cons.mpr ⟨rfl, List.forall_mem_cons.mpr ⟨rfl, List.forall_mem_cons.mpr ⟨rfl, List.forall_mem_cons.mpr ⟨rfl, fun _ h => absurd h List.not_mem_nil⟩⟩⟩⟩) rfl rfl ?_
    refine l_screws_loop d ha _ (min g (jn (jx X 9))) (by omega) (min g (jn (jx X 9))) 0 X Z _ (by omega) rfl (O9.rf X) (fun r hr => ?_)
    rw [if_neg h19]
    exact hr
  · refine er_loc (pc' := 23) rfl rfl rfl ?_
    refine er_k (pc' := 24) (nI 2) rfl rfl rfl ?_
    refine er_cIz (pc' := 27) (rest := []) 11 rfl rfl rfl rfl rfl rfl (l_error _ _ _ 2 (by decide)) ?_
    intro Z9
    refine er_iret rfl rfl ?_
    rw [if_pos h19]
    exact RI_of rfl rfl
def jdg (J : Nat → Nat → Int32) (f : Nat → Int32) : Nat → Nat → Int32 → Int32
  | 0, _, v => v
  | m + 1, i, v => if f i = sLasts J i then jdg J f m (i + 1) v else nI i
set_option maxRecDepth 100000 in
set_option maxHeartbeats 4000000 in
theorem l_judge_loop (d : Nat) {X : Nat → Nat → Int32} {T : Nat} (hI : IJ T (jx X 9)) {a : Nat} (ha : a < 4) (P : ab_R → Prop) {g : Nat} (hg : X 59 a = nI g) (h40 : g ≤ 40) : ∀ (m i : Nat) (Z : Nat → Nat → Int32) (x : Int32), i + m = min g (jn (jx X 9)) → x = nI i → (∀ r, RI (jdg (jx X 9) (X (55 + a)) m i (if nI g = nI (jn (jx X 9)) then -1 else nI (min g (jn (jx X 9))))) X r → P r) → ER (d + 4) tb_m118 47 [(0, .ref 0), (1, .int (nI a)), (2, .int (nI (min g (jn (jx X 9))))), (3, .int x)] [] (Wd X Z) P
  | 0, i, Z, x, hi, hx, hP => by
    have h8 := jn8 hI
    have hi0 : i = min g (jn (jx X 9)) := by omega
    subst hx
    subst hi0
    refine er_loc (pc' := 48) rfl rfl rfl ?_
    refine er_loc (pc' := 49) rfl rfl rfl ?_
    refine er_cm_geT rfl (nI_nlt (by omega) (by omega)) ?_
    refine er_loc (pc' := 80) rfl rfl rfl ?_
    refine er_gf (pc' := 83) (_) rfl rfl rfl rfl rfl ?_
    refine er_loc (pc' := 84) rfl rfl rfl ?_
    refine er_ia (pc' := 85) (a) rfl rfl rfl rfl ha rfl rfl ?_
    rw [hg]
    refine er_loc (pc' := 86) rfl rfl rfl ?_
    refine er_gf (pc' := 89) (_) rfl rfl rfl rfl rfl ?_
    refine er_gf (pc' := 92) (.int (X 9 1)) rfl rfl rfl rfl rfl ?_
    rw [show X 9 1 = nI (jn (jx X 9)) from hI.n.1]
    refine er_cm_ne (pc' := 95) rfl rfl (fun h92 => ?_) (fun h92 => ?_)
    · refine er_loc (pc' := 100) rfl rfl rfl ?_
      refine er_iret rfl rfl ?_
      apply hP
      show RI (jdg (jx X 9) (X (55 + a)) 0 _ _) X _
      unfold jdg
      first | rw [if_pos h92] | rw [if_neg h92]
      exact ⟨_, rfl⟩
    · refine er_k (pc' := 96) (-1) rfl rfl rfl ?_
      refine er_goto rfl ?_
      refine er_iret rfl rfl ?_
      apply hP
      show RI (jdg (jx X 9) (X (55 + a)) 0 _ _) X _
      unfold jdg
      first | rw [if_pos h92] | rw [if_neg h92]
      exact ⟨_, rfl⟩
  | m + 1, i, Z, x, hi, hx, hP => by
    have h8 := jn8 hI
    subst hx
    refine er_loc (pc' := 48) rfl rfl rfl ?_
    refine er_loc (pc' := 49) rfl rfl rfl ?_
    refine er_cm_geF (pc' := 52) rfl (nI_lt (by omega) (by omega)) rfl ?_
    refine er_loc (pc' := 53) rfl rfl rfl ?_
    refine er_gf (pc' := 56) (_) rfl rfl rfl rfl rfl ?_
    refine er_loc (pc' := 57) rfl rfl rfl ?_
    refine er_aa (pc' := 58) (a) rfl rfl rfl rfl rfl ha rfl rfl ?_
    refine er_loc (pc' := 59) rfl rfl rfl ?_
    refine er_ia (pc' := 60) (i) rfl (blt_R ha) (cO_R ha _ _) rfl (by omega) rfl rfl ?_
    refine er_loc (pc' := 61) rfl rfl rfl ?_
    refine er_gf (pc' := 64) (_) rfl rfl rfl rfl rfl ?_
    refine er_loc (pc' := 65) rfl rfl rfl ?_
    refine er_cIz (pc' := 68) (rest := [_]) 7 rfl rfl rfl rfl rfl rfl (l_lasts _ j9 _ _ hI (k := i) (by omega)) ?_
    intro Z2
    refine er_cm_eq (pc' := 71) rfl rfl (fun h68 => ?_) (fun h68 => ?_)
    · refine er_loc (L' := [(3, .int (_ + nI 1)), (0, _), (1, _), (2, _)]) rfl rfl rfl ?_
      refine er_goto rfl ?_
      refine ER_loc [(0, _), (1, _), (2, _), (3, _)] rfl (List.forall_mem_cons.mpr ⟨rfl, List.forall_mem_cons.mpr ⟨rfl, List.forall_mem_cons.mpr ⟨rfl, List.forall_mem_cons.mpr ⟨rfl, fun _ h => absurd h List.not_mem_nil⟩⟩⟩⟩) rfl rfl ?_
      refine l_judge_loop d hI ha P hg h40 m (i + 1) _ _ (by omega) (nI_add i 1) (fun r hr => hP r ?_)
      have e2 : jdg (jx X 9) (X (55 + a)) (m + 1) i (if nI g = nI (jn (jx X 9)) then -1 else nI (min g (jn (jx X 9)))) = jdg (jx X 9) (X (55 + a)) m (i + 1) (if nI g = nI (jn (jx X 9)) then -1 else nI (min g (jn (jx X 9)))) := by
        show (if _ then _ else _) = _
        rw [if_pos h68]
      rw [e2]
      exact hr
    · refine er_loc (pc' := 72) rfl rfl rfl ?_
      refine er_iret rfl rfl ?_
      apply hP
      have e2 : jdg (jx X 9) (X (55 + a)) (m + 1) i (if nI g = nI (jn (jx X 9)) then -1 else nI (min g (jn (jx X 9)))) = nI i := by
        show (if _ then _ else _) = _
        rw [if_neg h68]
      rw [e2]
      exact ⟨_, rfl⟩
set_option maxRecDepth 100000 in
set_option maxHeartbeats 4000000 in
theorem l_judge (d : Nat) (X Z : Nat → Nat → Int32) {T : Nat} (hI : IJ T (jx X 9)) {a : Nat} (ha : a < 4) {g : Nat} (hg : X 59 a = nI g) (h40 : g ≤ 40) : EC (d + 5) 118 [.ref 0, .int (nI a)] (Wd X Z) (fun r => if X 60 a = 0 then RI (sErr 2) (xErr X 2) r else RI (jdg (jx X 9) (X (55 + a)) (min g (jn (jx X 9))) 0 (if nI g = nI (jn (jx X 9)) then -1 else nI (min g (jn (jx X 9))))) X r) := by
  refine er_enter (L := [(0, _), (1, _)]) rfl rfl rfl ?_
  have h8 := jn8 hI
  refine er_loc (pc' := 1) rfl rfl rfl ?_
  refine er_cSi (pc' := 4) (rest := []) rfl rfl rfl (l_xSheet _ _ _) ?_
  rw [show sIn (nI a) (nI 0) (nI 3) = true from sIn_t (by omega) (by omega) (by omega)]
  refine er_if_neT rfl (by decide +kernel) ?_
  refine er_loc (pc' := 14) rfl rfl rfl ?_
  refine er_gf (pc' := 17) (_) rfl rfl rfl rfl rfl ?_
  refine er_loc (pc' := 18) rfl rfl rfl ?_
  refine er_ia (pc' := 19) (a) rfl rfl rfl rfl ha rfl rfl ?_
  refine er_if_ne (pc' := 22) rfl rfl (fun h19 => ?_) (fun h19 => ?_)
  · refine er_loc (pc' := 29) rfl rfl rfl ?_
    refine er_gf (pc' := 32) (_) rfl rfl rfl rfl rfl ?_
    refine er_loc (pc' := 33) rfl rfl rfl ?_
    refine er_ia (pc' := 34) (a) rfl rfl rfl rfl ha rfl rfl ?_
    rw [hg]
    refine er_loc (pc' := 35) rfl rfl rfl ?_
    refine er_gf (pc' := 38) (_) rfl rfl rfl rfl rfl ?_
    refine er_gf (pc' := 41) (.int (X 9 1)) rfl rfl rfl rfl rfl ?_
    rw [show X 9 1 = nI (jn (jx X 9)) from hI.n.1]
    refine er_min (pc' := 44) rfl rfl rfl rfl ?_
    rw [min_nI (by omega) (by omega)]
    refine er_loc (pc' := 45) (L' := [(2, _), (0, _), (1, _)]) rfl rfl rfl ?_
    refine er_k (pc' := 46) (nI 0) rfl rfl rfl ?_
    refine er_loc (pc' := 47) (L' := [(3, _), (2, _), (0, _), (1, _)]) rfl rfl rfl ?_
    refine ER_loc [(0, _), (1, _), (2, _), (3, _)] rfl (List.forall_mem_cons.mpr ⟨rfl, List.forall_mem_cons.mpr ⟨rfl, List.forall_mem_cons.mpr ⟨rfl, List.forall_mem_cons.mpr ⟨rfl, fun _ h => absurd h List.not_mem_nil⟩⟩⟩⟩) rfl rfl ?_
    refine l_judge_loop d hI ha _ hg h40 (min g (jn (jx X 9))) 0 Z _ (by omega) rfl (fun r hr => ?_)
    rw [if_neg h19]
    exact hr
  · refine er_loc (pc' := 23) rfl rfl rfl ?_
    refine er_k (pc' := 24) (nI 2) rfl rfl rfl ?_
    refine er_cIz (pc' := 27) (rest := []) 11 rfl rfl rfl rfl rfl rfl (l_error _ _ _ 2 (by decide)) ?_
    intro Z9
    refine er_iret rfl rfl ?_
    rw [if_pos h19]
    exact RI_of rfl rfl
end
section
/-! THE FACE: the best order -/
abbrev skT : Type := Int32 × (Nat → Int32) × (Nat → Int32)
def skLoop (J : Nat → Nat → Int32) (dep : Nat) (f : Nat → skT → skT) : Nat → Nat → skT → skT
  | 0, _, s => s
  | m + 1, i, s => skLoop J dep f m (i + 1) (if sMayDo J i = true then f i (s.1, s.2.1, u1 s.2.2 dep (nI i)) else s)
def sk : Nat → Nat → (Nat → Nat → Int32) → skT → skT
  | 0, _, _, s => s
  | F + 1, dep, J, s => if sOpen J = 0 then (if s.1 < 0 ∨ J 0 10 < s.1 then (J 0 10, cpf s.2.2 s.2.1 0 0 5, s.2.2) else s) else if 5 ≤ dep then s else skLoop J dep (fun i t => sk F (dep + 1) (jPass J i) t) (jn J) 0 s
theorem skLoop_succ {J : Nat → Nat → Int32} {dep m i : Nat} {f : Nat → skT → skT} {s : skT} : skLoop J dep f (m + 1) i s = skLoop J dep f m (i + 1) (if sMayDo J i = true then f i (s.1, s.2.1, u1 s.2.2 dep (nI i)) else s) := rfl
theorem with_back {x : Int32} {k : Nat} (hk : k < 8) (h : bt x k = false) : sWith (sWith x (nI k) true) (nI k) false = x := by
  apply bt_ext
  intro i hi
  rw [bt_with (by omega), bt_with (by omega)]
  by_cases hik : i = k
  · subst hik; rw [if_pos rfl, h]
  · rw [if_neg hik, if_neg hik]
theorem xUnpass_pass {X : Nat → Nat → Int32} {b k : Nat} (hk : k < 8) (h : sBit (X b 6) (nI k) = false) : xUnpass (xPass X b k) b k (X b 9) (X b 10) = X := by
  rw [sBit_bt (by omega)] at h
  funext i j
  unfold xUnpass xPass
  simp only [ud_at]
  by_cases hi : i = b
  · subst hi
    simp only [if_true]
    by_cases h10 : j = 10
    · subst h10; simp
    · by_cases h9 : j = 9
      · subst h9; simp
      · by_cases h6 : j = 6
        · subst h6; simp [with_back hk h]
        · simp [h10, h9, h6]
  · simp [hi]
def PB (X : Nat → Nat → Int32) (s : skT) : Nat → Nat → Int32 := uc (uc X 61 s.2.2) 62 s.2.1
theorem PB_j {X : Nat → Nat → Int32} {s : skT} : jx (PB X s) 35 = jx X 35 := jx_off (fun c _ hc => by unfold PB; rw [uc_ne (by omega), uc_ne (by omega)])
theorem PB_35 {X : Nat → Nat → Int32} {s : skT} : PB X s 35 = X 35 := by unfold PB; rw [uc_ne (by omega), uc_ne (by omega)]
theorem PB_61 {X : Nat → Nat → Int32} {s : skT} : PB X s 61 = s.2.2 := by unfold PB; rw [uc_ne (by omega), uc_same]
theorem PB_62 {X : Nat → Nat → Int32} {s : skT} : PB X s 62 = s.2.1 := by unfold PB; rw [uc_same]
theorem uc_comm {X : Nat → Nat → Int32} {a b : Nat} {f g : Nat → Int32} (h : a ≠ b) : uc (uc X a f) b g = uc (uc X b g) a f := by
  funext i
  unfold uc
  by_cases h1 : i = a
  · subst h1; rw [if_neg h, if_pos rfl, if_pos rfl]
  · rw [if_neg h1, if_neg h1]
theorem PB_path {X : Nat → Nat → Int32} {l : Int32} {p q : Nat → Int32} {dep : Nat} {v : Int32} : ud (PB X (l, p, q)) 61 dep v = PB X (l, p, u1 q dep v) := by
  unfold ud
  rw [PB_61]
  unfold PB
  rw [uc_comm (show 62 ≠ 61 by omega), uc_uc]
theorem PB_best {X : Nat → Nat → Int32} {l l' : Int32} {p p' q : Nat → Int32} : uc (PB X (l, p, q)) 62 p' = PB X (l', p', q) := by
  unfold PB
  rw [uc_uc]
theorem PB_ud {X : Nat → Nat → Int32} {s : skT} {k : Nat} {v : Int32} : ud (PB X s) 35 k v = PB (ud X 35 k v) s := by
  unfold ud
  rw [PB_35]
  unfold PB
  rw [uc_comm (show 62 ≠ 35 by omega), uc_comm (show 61 ≠ 35 by omega)]
theorem PB_pass {X : Nat → Nat → Int32} {s : skT} {k : Nat} : xPass (PB X s) 35 k = PB (xPass X 35 k) s := by
  unfold xPass
  rw [PB_j, PB_35, show PB X s (35 + 3) = X (35 + 3) from by unfold PB; rw [uc_ne (by omega), uc_ne (by omega)], PB_ud, PB_ud, PB_ud]
theorem PB_unpass {X : Nat → Nat → Int32} {s : skT} {k : Nat} {g t : Int32} : xUnpass (PB X s) 35 k g t = PB (xUnpass X 35 k g t) s := by
  unfold xUnpass
  rw [PB_35, PB_ud, PB_ud, PB_ud]
set_option maxRecDepth 100000 in
set_option maxHeartbeats 4000000 in
theorem l_seek_loop (d F : Nat) (X : Nat → Nat → Int32) (dep : Nat) (hd : dep < 5) {T : Nat} (hI : IJ T (jx X 35)) (hT : T < 1000000000) (hrec : ∀ (X1 Z : Nat → Nat → Int32) (l : Int32) (p q : Nat → Int32) (i : Nat), sMayDo (jx X 35) i = true → jx X1 35 = jPass (jx X 35) i → EC (d + 6 + F) 97 [.ref 35, .ref 61, .ref 62, .int (nI (dep + 1)), .int l] (Wd (PB X1 (l, p, q)) Z) (RI (sk F (dep + 1) (jPass (jx X 35) i) (l, p, q)).1 (PB X1 (sk F (dep + 1) (jPass (jx X 35) i) (l, p, q))))) : ∀ (m i : Nat) (x : Int32) (Z : Nat → Nat → Int32) (l : Int32) (p q : Nat → Int32), i + m = jn (jx X 35) → x = nI i → ER (d + 6 + F) tb_m97 70 [(0, .ref 35), (1, .ref 61), (2, .ref 62), (3, .int (nI dep)), (5, .int (X 35 9)), (6, .int (X 35 10)), (7, .int l), (8, .int x)] [] (Wd (PB X (l, p, q)) Z) (RI (skLoop (jx X 35) dep (fun i t => sk F (dep + 1) (jPass (jx X 35) i) t) m i (l, p, q)).1 (PB X (skLoop (jx X 35) dep (fun i t => sk F (dep + 1) (jPass (jx X 35) i) t) m i (l, p, q))))
  | 0, i, x, Z, l, p, q, hi, hx => by
    have hI1 : IJ T (jx (PB X (l, p, q)) 35) := by rw [PB_j]; exact hI
    have h8 := jn8 hI
    subst hx
    refine er_loc (pc' := 72) rfl rfl rfl ?_
    refine er_loc (pc' := 73) rfl rfl rfl ?_
    refine er_gf (pc' := 76) (.int (X 35 1)) rfl rfl rfl rfl rfl ?_
    rw [show X 35 1 = nI (jn (jx X 35)) from hI.n.1]
    have hi0 : i = jn (jx X 35) := by omega
    refine er_cm_geT rfl (nI_nlt (by omega) (by omega)) ?_
    refine er_loc (pc' := 130) rfl rfl rfl ?_
    refine er_iret rfl rfl ?_
    exact ⟨_, rfl⟩
  | m + 1, i, x, Z, l, p, q, hi, hx => by
    have hI1 : IJ T (jx (PB X (l, p, q)) 35) := by rw [PB_j]; exact hI
    have h8 := jn8 hI
    subst hx
    refine er_loc (pc' := 72) rfl rfl rfl ?_
    refine er_loc (pc' := 73) rfl rfl rfl ?_
    refine er_gf (pc' := 76) (.int (X 35 1)) rfl rfl rfl rfl rfl ?_
    rw [show X 35 1 = nI (jn (jx X 35)) from hI.n.1]
    refine er_cm_geF (pc' := 79) rfl (nI_lt (by omega) (by omega)) rfl ?_
    refine er_loc (pc' := 80) rfl rfl rfl ?_
    refine er_loc (pc' := 82) rfl rfl rfl ?_
    refine er_cIi (pc' := 85) (rest := []) 7 rfl rfl rfl rfl rfl rfl (EC.up (l_mayBeDone d j35 _ _ hI1 (k := i) (by rw [PB_j]; omega)) (by omega)) ?_
    rw [PB_j]
    refine er_if_eqb (pc' := 88) rfl rfl (fun h85 => ?_) (fun h85 => ?_)
    · refine er_loc (L' := [(8, .int (_ + nI 1)), (0, _), (1, _), (2, _), (3, _), (5, _), (6, _), (7, _)]) (pc' := 125) rfl rfl rfl ?_
      refine er_goto rfl ?_
      refine ER_loc [(0, _), (1, _), (2, _), (3, _), (5, _), (6, _), (7, _), (8, _)] rfl (List.forall_mem_cons.mpr ⟨rfl, List.forall_mem_cons.mpr ⟨rfl, List.forall_mem_cons.mpr ⟨rfl, List.forall_mem_cons.mpr ⟨rfl, List.forall_mem_cons.mpr ⟨rfl, List.forall_mem_cons.mpr ⟨rfl, List.forall_mem_cons.mpr ⟨rfl, List.forall_mem_cons.mpr ⟨rfl, fun _ h => absurd h List.not_mem_nil⟩⟩⟩⟩⟩⟩⟩⟩) rfl rfl ?_
      rw [skLoop_succ, if_neg (by rw [h85]; decide)]
      exact l_seek_loop d F X dep hd hI hT hrec m (i + 1) _ Z _ _ _ (by omega) (nI_add i 1)
    · have hm := mayDo_k h85
      refine er_loc (pc' := 89) rfl rfl rfl ?_
      refine er_loc (pc' := 90) rfl rfl rfl ?_
      refine er_loc (pc' := 92) rfl rfl rfl ?_
      refine er_isX (pc' := 93) (dep) rfl rfl (fun _ => rfl) rfl (by omega) rfl rfl ?_
      rw [PB_path]
      have hI2 : IJ T (jx (PB X (l, p, u1 q dep (nI i))) 35) := by rw [PB_j]; exact hI
      refine er_loc (pc' := 94) rfl rfl rfl ?_
      refine er_loc (pc' := 96) rfl rfl rfl ?_
      refine er_cIv (pc' := 99) (rest := []) 7 rfl rfl rfl rfl rfl rfl (EC.up (l_pass d j35 _ _ hI2 (k := i) (by rw [PB_j]; omega)) (by omega)) ?_
      intro Z7
      rw [PB_pass]
      have hjP : jx (xPass X 35 i) 35 = jPass (jx X 35) i := jx_xPass (by omega)
      refine er_loc (pc' := 100) rfl rfl rfl ?_
      refine er_loc (pc' := 101) rfl rfl rfl ?_
      refine er_loc (pc' := 102) rfl rfl rfl ?_
      refine er_loc (pc' := 103) rfl rfl rfl ?_
      refine er_k (pc' := 104) (nI 1) rfl rfl rfl ?_
      refine er_iadd (pc' := 105) rfl rfl ?_
      rw [nI_add]
      refine er_loc (pc' := 107) rfl rfl rfl ?_
      refine er_cSz (pc' := 110) (rest := []) rfl rfl rfl (hrec (xPass X 35 i) Z7 l p (u1 q dep (nI i)) i h85 hjP) ?_
      intro Z8
      refine er_loc (L' := [(7, _), (0, _), (1, _), (2, _), (3, _), (5, _), (6, _), (8, _)]) (pc' := 112) rfl rfl rfl ?_
      refine er_loc (pc' := 113) rfl rfl rfl ?_
      refine er_loc (pc' := 115) rfl rfl rfl ?_
      refine er_loc (pc' := 117) rfl rfl rfl ?_
      refine er_loc (pc' := 119) rfl rfl rfl ?_
      refine er_cIv (pc' := 122) (rest := []) 7 rfl rfl rfl rfl rfl rfl (EC.up (l_unpass d j35 _ _ _ _ _) (by omega)) ?_
      intro Z9
      rw [PB_unpass, xUnpass_pass (by omega) (by have := hm.2.1; unfold sDone at this; rw [jx06] at this; exact this)]
      refine er_loc (L' := [(8, .int (_ + nI 1)), (7, _), (0, _), (1, _), (2, _), (3, _), (5, _), (6, _)]) (pc' := 125) rfl rfl rfl ?_
      refine er_goto rfl ?_
      refine ER_loc [(0, _), (1, _), (2, _), (3, _), (5, _), (6, _), (7, _), (8, _)] rfl (List.forall_mem_cons.mpr ⟨rfl, List.forall_mem_cons.mpr ⟨rfl, List.forall_mem_cons.mpr ⟨rfl, List.forall_mem_cons.mpr ⟨rfl, List.forall_mem_cons.mpr ⟨rfl, List.forall_mem_cons.mpr ⟨rfl, List.forall_mem_cons.mpr ⟨rfl, List.forall_mem_cons.mpr ⟨rfl, fun _ h => absurd h List.not_mem_nil⟩⟩⟩⟩⟩⟩⟩⟩) rfl rfl ?_
      rw [skLoop_succ, if_pos h85]
      generalize sk F (dep + 1) (jPass (jx X 35) i) (l, p, u1 q dep (nI i)) = t
      obtain ⟨l', p', q'⟩ := t
      exact l_seek_loop d F X dep hd hI hT hrec m (i + 1) _ _ _ _ _ (by omega) (nI_add i 1)
set_option maxRecDepth 100000 in
set_option maxHeartbeats 4000000 in
theorem l_seekBest (d : Nat) : ∀ (F dep : Nat) (X Z : Nat → Nat → Int32) (l : Int32) (p q : Nat → Int32) (T : Nat), dep + F = 5 → IJ T (jx X 35) → T + 300 * F < 1000000000 → EC (d + 6 + F + 1) 97 [.ref 35, .ref 61, .ref 62, .int (nI dep), .int l] (Wd (PB X (l, p, q)) Z) (RI (sk (F + 1) dep (jx X 35) (l, p, q)).1 (PB X (sk (F + 1) dep (jx X 35) (l, p, q)))) := by
  intro F
  induction F with
  | zero =>
    intro dep X Z l p q T hd hI hT
    have hO : (sk (0 + 1) dep (jx X 35) (l, p, q)) = if sOpen (jx X 35) = 0 then (if l < 0 ∨ jx X 35 0 10 < l then (jx X 35 0 10, cpf q p 0 0 5, q) else (l, p, q)) else if 5 ≤ dep then (l, p, q) else skLoop (jx X 35) dep (fun i t => sk 0 (dep + 1) (jPass (jx X 35) i) t) (jn (jx X 35)) 0 (l, p, q) := rfl
    rw [hO]
    refine er_enter (L := [(0, _), (1, _), (2, _), (3, _), (4, _)]) rfl rfl rfl ?_
    refine er_loc (pc' := 1) rfl rfl rfl ?_
    refine er_cIi (pc' := 4) (rest := []) 7 rfl rfl rfl rfl rfl rfl (EC.up (l_howManyOpen d j35 _ _) (by omega)) ?_
    rw [PB_j]
    refine er_if_ne (pc' := 7) rfl rfl (fun h4 => ?_) (fun h4 => ?_)
    rotate_left
    · rw [if_pos h4, jx010]
      refine er_loc (pc' := 9) rfl rfl rfl ?_
      refine er_if_lt (pc' := 12) rfl rfl (fun h9 => ?_) (fun h9 => ?_)
      · rw [if_pos (Or.inl h9)]
        refine er_loc (pc' := 25) rfl rfl rfl ?_
        refine er_k (pc' := 26) (nI 0) rfl rfl rfl ?_
        refine er_loc (pc' := 27) rfl rfl rfl ?_
        refine er_k (pc' := 28) (nI 0) rfl rfl rfl ?_
        refine er_loc (pc' := 29) rfl rfl rfl ?_
        refine er_al (pc' := 30) rfl rfl rfl rfl ?_
        refine er_cpX (pc' := 33) (0) (0) (5) rfl rfl rfl rfl rfl rfl (fun _ => rfl) rfl rfl rfl (by omega) (by omega) rfl rfl ?_
        refine er_loc (pc' := 34) rfl rfl rfl ?_
        refine er_gf (pc' := 37) (.int (X 35 10)) rfl rfl rfl rfl rfl ?_
        refine er_iret rfl rfl ?_
        exact RI_of rfl (by rw [PB_61, PB_62]; exact PB_best)
      · refine er_loc (pc' := 13) rfl rfl rfl ?_
        refine er_gf (pc' := 16) (.int (X 35 10)) rfl rfl rfl rfl rfl ?_
        refine er_loc (pc' := 18) rfl rfl rfl ?_
        refine er_cm_lt (pc' := 21) rfl rfl (fun h18 => ?_) (fun h18 => ?_)
        · rw [if_pos (Or.inr h18)]
          refine er_loc (pc' := 25) rfl rfl rfl ?_
          refine er_k (pc' := 26) (nI 0) rfl rfl rfl ?_
          refine er_loc (pc' := 27) rfl rfl rfl ?_
          refine er_k (pc' := 28) (nI 0) rfl rfl rfl ?_
          refine er_loc (pc' := 29) rfl rfl rfl ?_
          refine er_al (pc' := 30) rfl rfl rfl rfl ?_
          refine er_cpX (pc' := 33) (0) (0) (5) rfl rfl rfl rfl rfl rfl (fun _ => rfl) rfl rfl rfl (by omega) (by omega) rfl rfl ?_
          refine er_loc (pc' := 34) rfl rfl rfl ?_
          refine er_gf (pc' := 37) (.int (X 35 10)) rfl rfl rfl rfl rfl ?_
          refine er_iret rfl rfl ?_
          exact RI_of rfl (by rw [PB_61, PB_62]; exact PB_best)
        · rw [if_neg (fun c => c.elim h9 h18)]
          refine er_loc (pc' := 23) rfl rfl rfl ?_
          refine er_iret rfl rfl ?_
          exact RI_of rfl rfl
    · rw [if_neg h4]
      refine er_loc (pc' := 39) rfl rfl rfl ?_
      refine er_if_ltF (pc' := 42) rfl (nI_pos (by omega)) rfl ?_
      refine er_loc (pc' := 43) rfl rfl rfl ?_
      refine er_loc (pc' := 44) rfl rfl rfl ?_
      refine er_al (pc' := 45) rfl rfl rfl rfl ?_
      refine er_cm_ltF (pc' := 48) rfl (nI_nlt (by omega) (by omega)) rfl ?_
      refine er_loc (pc' := 50) rfl rfl rfl ?_
      refine er_iret rfl rfl ?_
      rw [if_pos (by omega)]
      exact RI_of rfl rfl
  | succ F ih =>
    intro dep X Z l p q T hd hI hT
    have hO : (sk ((F + 1) + 1) dep (jx X 35) (l, p, q)) = if sOpen (jx X 35) = 0 then (if l < 0 ∨ jx X 35 0 10 < l then (jx X 35 0 10, cpf q p 0 0 5, q) else (l, p, q)) else if 5 ≤ dep then (l, p, q) else skLoop (jx X 35) dep (fun i t => sk (F + 1) (dep + 1) (jPass (jx X 35) i) t) (jn (jx X 35)) 0 (l, p, q) := rfl
    rw [hO]
    refine er_enter (L := [(0, _), (1, _), (2, _), (3, _), (4, _)]) rfl rfl rfl ?_
    refine er_loc (pc' := 1) rfl rfl rfl ?_
    refine er_cIi (pc' := 4) (rest := []) 7 rfl rfl rfl rfl rfl rfl (EC.up (l_howManyOpen d j35 _ _) (by omega)) ?_
    rw [PB_j]
    refine er_if_ne (pc' := 7) rfl rfl (fun h4 => ?_) (fun h4 => ?_)
    rotate_left
    · rw [if_pos h4, jx010]
      refine er_loc (pc' := 9) rfl rfl rfl ?_
      refine er_if_lt (pc' := 12) rfl rfl (fun h9 => ?_) (fun h9 => ?_)
      · rw [if_pos (Or.inl h9)]
        refine er_loc (pc' := 25) rfl rfl rfl ?_
        refine er_k (pc' := 26) (nI 0) rfl rfl rfl ?_
        refine er_loc (pc' := 27) rfl rfl rfl ?_
        refine er_k (pc' := 28) (nI 0) rfl rfl rfl ?_
        refine er_loc (pc' := 29) rfl rfl rfl ?_
        refine er_al (pc' := 30) rfl rfl rfl rfl ?_
        refine er_cpX (pc' := 33) (0) (0) (5) rfl rfl rfl rfl rfl rfl (fun _ => rfl) rfl rfl rfl (by omega) (by omega) rfl rfl ?_
        refine er_loc (pc' := 34) rfl rfl rfl ?_
        refine er_gf (pc' := 37) (.int (X 35 10)) rfl rfl rfl rfl rfl ?_
        refine er_iret rfl rfl ?_
        exact RI_of rfl (by rw [PB_61, PB_62]; exact PB_best)
      · refine er_loc (pc' := 13) rfl rfl rfl ?_
        refine er_gf (pc' := 16) (.int (X 35 10)) rfl rfl rfl rfl rfl ?_
        refine er_loc (pc' := 18) rfl rfl rfl ?_
        refine er_cm_lt (pc' := 21) rfl rfl (fun h18 => ?_) (fun h18 => ?_)
        · rw [if_pos (Or.inr h18)]
          refine er_loc (pc' := 25) rfl rfl rfl ?_
          refine er_k (pc' := 26) (nI 0) rfl rfl rfl ?_
          refine er_loc (pc' := 27) rfl rfl rfl ?_
          refine er_k (pc' := 28) (nI 0) rfl rfl rfl ?_
          refine er_loc (pc' := 29) rfl rfl rfl ?_
          refine er_al (pc' := 30) rfl rfl rfl rfl ?_
          refine er_cpX (pc' := 33) (0) (0) (5) rfl rfl rfl rfl rfl rfl (fun _ => rfl) rfl rfl rfl (by omega) (by omega) rfl rfl ?_
          refine er_loc (pc' := 34) rfl rfl rfl ?_
          refine er_gf (pc' := 37) (.int (X 35 10)) rfl rfl rfl rfl rfl ?_
          refine er_iret rfl rfl ?_
          exact RI_of rfl (by rw [PB_61, PB_62]; exact PB_best)
        · rw [if_neg (fun c => c.elim h9 h18)]
          refine er_loc (pc' := 23) rfl rfl rfl ?_
          refine er_iret rfl rfl ?_
          exact RI_of rfl rfl
    · rw [if_neg h4]
      refine er_loc (pc' := 39) rfl rfl rfl ?_
      refine er_if_ltF (pc' := 42) rfl (nI_pos (by omega)) rfl ?_
      refine er_loc (pc' := 43) rfl rfl rfl ?_
      refine er_loc (pc' := 44) rfl rfl rfl ?_
      refine er_al (pc' := 45) rfl rfl rfl rfl ?_
      refine er_cm_ltT rfl (nI_lt (by omega) (by omega)) ?_
      refine er_loc (pc' := 52) rfl rfl rfl ?_
      refine er_gf (pc' := 55) (.int (X 35 9)) rfl rfl rfl rfl rfl ?_
      refine er_loc (L' := [(5, _), (0, _), (1, _), (2, _), (3, _), (4, _)]) (pc' := 57) rfl rfl rfl ?_
      refine er_loc (pc' := 58) rfl rfl rfl ?_
      refine er_gf (pc' := 61) (.int (X 35 10)) rfl rfl rfl rfl rfl ?_
      refine er_loc (L' := [(6, _), (5, _), (0, _), (1, _), (2, _), (3, _), (4, _)]) (pc' := 63) rfl rfl rfl ?_
      refine er_loc (pc' := 65) rfl rfl rfl ?_
      refine er_loc (L' := [(7, _), (6, _), (5, _), (0, _), (1, _), (2, _), (3, _), (4, _)]) (pc' := 67) rfl rfl rfl ?_
      refine er_k (pc' := 68) (nI 0) rfl rfl rfl ?_
      refine er_loc (L' := [(8, _), (7, _), (6, _), (5, _), (0, _), (1, _), (2, _), (3, _), (4, _)]) (pc' := 70) rfl rfl rfl ?_
      rw [if_neg (by omega)]
      refine ER_loc [(0, _), (1, _), (2, _), (3, _), (5, _), (6, _), (7, _), (8, _)] rfl (List.forall_mem_cons.mpr ⟨rfl, List.forall_mem_cons.mpr ⟨rfl, List.forall_mem_cons.mpr ⟨rfl, List.forall_mem_cons.mpr ⟨rfl, List.forall_mem_cons.mpr ⟨rfl, List.forall_mem_cons.mpr ⟨rfl, List.forall_mem_cons.mpr ⟨rfl, List.forall_mem_cons.mpr ⟨rfl, fun _ h => absurd h List.not_mem_nil⟩⟩⟩⟩⟩⟩⟩⟩) rfl rfl ?_
      refine l_seek_loop d (F + 1) X dep (by omega) hI (by omega) ?_ (jn (jx X 35)) 0 _ Z l p q (by omega) rfl
      intro X1 Z1 l1 p1 q1 i hm hj
      have h := ih (dep + 1) X1 Z1 l1 p1 q1 (T + 300) (by omega) (by rw [hj]; exact hI.pass (by omega) hm) (by omega)
      rw [hj] at h
      exact EC.up h (by omega)
end
section
/-! THE FACE: order, orders -/
def OP (X X' : Nat → Nat → Int32) : Prop := ∀ c, (c < 35 ∨ 35 + 12 < c) → c ≠ 61 → c ≠ 62 → X' c = X c
def sOrd (X : Nat → Nat → Int32) : skT := sk 6 0 (jx X 9) (-1, X 62, X 61)
theorem PB_id {X : Nat → Nat → Int32} {l : Int32} : PB X (l, X 62, X 61) = X := by
  unfold PB
  rw [uc_id]
  exact uc_id X 62
theorem OP.pb {X X1 : Nat → Nat → Int32} (h : OT X X1) {s : skT} : OP X (PB X1 s) := fun c hc h1 h2 => by
  unfold PB
  rw [uc_ne h2, uc_ne h1]
  exact h c hc
def OrP (X : Nat → Nat → Int32) (w : Int32) : ab_R → Prop := fun r => if nI 5 < sOpen (jx X 9) then RI (sErr 3) (xErr X 3) r else if (sOrd X).1 < 0 ∨ ¬ w < sOpen (jx X 9) then (∃ X1, OP X X1 ∧ RI (sErr 2) (xErr X1 2) r) else (∃ X1, OP X X1 ∧ RI (if w < 0 then (sOrd X).1 - jx X 9 0 10 else (sOrd X).2.1 (nN w)) X1 r)
set_option maxRecDepth 100000 in
set_option maxHeartbeats 4000000 in
theorem l_order (d : Nat) (X Z : Nat → Nat → Int32) {T : Nat} (hI : IJ T (jx X 9)) (hT9 : T < 1000000) (w : Int32) : EC (d + 13) 96 [.ref 0, .int w] (Wd X Z) (fun r => if sIn w (-1) (nI 4) = true then OrP X w r else RI (sErr 1) (xErr X 1) r) := by
  refine er_enter (L := [(0, _), (1, _)]) rfl rfl rfl ?_
  refine er_loc (pc' := 1) rfl rfl rfl ?_
  refine er_k (pc' := 2) (-1) rfl rfl rfl ?_
  refine er_k (pc' := 3) (nI 4) rfl rfl rfl ?_
  refine er_cSi (pc' := 6) (rest := []) rfl rfl rfl (l_within _ _ _ _ _) ?_
  refine er_if_neb (pc' := 9) rfl rfl (fun h6 => ?_) (fun h6 => ?_)
  · refine er_loc (pc' := 16) rfl rfl rfl ?_
    refine er_gf (pc' := 19) (_) rfl rfl rfl rfl rfl ?_
    refine er_cIi (pc' := 22) (rest := []) 7 rfl rfl rfl rfl rfl rfl (l_howManyOpen _ j9 _ _) ?_
    refine er_loc (pc' := 23) (L' := [(2, _), (0, _), (1, _)]) rfl rfl rfl ?_
    refine er_loc (pc' := 24) rfl rfl rfl ?_
    refine er_k (pc' := 25) (nI 5) rfl rfl rfl ?_
    refine er_cm_le (pc' := 28) rfl rfl (fun h25 => ?_) (fun h25 => ?_)
    · refine er_loc (pc' := 35) rfl rfl rfl ?_
      refine er_gf (pc' := 38) (_) rfl rfl rfl rfl rfl ?_
      refine er_loc (pc' := 39) rfl rfl rfl ?_
      refine er_gf (pc' := 42) (_) rfl rfl rfl rfl rfl ?_
      refine er_cIt (pc' := 45) (rest := []) 7 rfl rfl rfl rfl rfl rfl (l_take_35_9 _ _ _ hI) ?_
      intro X1 Z1 hj1 ho1
      refine er_loc (pc' := 46) rfl rfl rfl ?_
      refine er_gf (pc' := 49) (_) rfl rfl rfl rfl rfl ?_
      refine er_loc (pc' := 50) rfl rfl rfl ?_
      refine er_gf (pc' := 53) (_) rfl rfl rfl rfl rfl ?_
      refine er_loc (pc' := 54) rfl rfl rfl ?_
      refine er_gf (pc' := 57) (_) rfl rfl rfl rfl rfl ?_
      refine er_k (pc' := 58) (nI 0) rfl rfl rfl ?_
      refine er_k (pc' := 59) (-1) rfl rfl rfl ?_
      have hj9 : jx X1 35 = jx X 9 := hj1
      have hs : sk 6 0 (jx X1 35) (-1, X1 62, X1 61) = sOrd X := by rw [hj9, ho1 61 (by omega), ho1 62 (by omega)]; rfl
      have hS := l_seekBest d 5 0 X1 Z1 (-1) (X1 62) (X1 61) T (by omega) (by rw [hj9]; exact hI) (by omega)
      rw [show 5 + 1 = 6 from rfl, hs, PB_id] at hS
      have hoP : OP X (PB X1 (sOrd X)) := OP.pb ho1
      refine er_cSz (pc' := 62) (rest := []) rfl rfl rfl hS ?_
      intro Z3
      refine er_loc (L' := [(3, _), (2, _), (0, _), (1, _)]) (pc' := 63) rfl rfl rfl ?_
      refine er_loc (pc' := 64) rfl rfl rfl ?_
      refine er_if_lt (pc' := 67) rfl rfl (fun h64 => ?_) (fun h64 => ?_)
      · refine er_loc (pc' := 73) rfl rfl rfl ?_
        refine er_k (pc' := 74) (nI 2) rfl rfl rfl ?_
        refine er_cIz (pc' := 77) (rest := []) 11 rfl rfl rfl rfl rfl rfl (l_error _ _ _ 2 (by decide)) ?_
        intro Z9
        refine er_iret rfl rfl ?_
        show (if _ then OrP X w _ else _)
        unfold OrP
        rw [if_pos h6, if_neg h25, if_pos (Or.inl h64)]
        exact ⟨_, hoP, RI_of rfl rfl⟩
      · refine er_loc (pc' := 68) rfl rfl rfl ?_
        refine er_loc (pc' := 69) rfl rfl rfl ?_
        refine er_cm_lt (pc' := 72) rfl rfl (fun h69 => ?_) (fun h69 => ?_)
        · refine er_loc (pc' := 79) rfl rfl rfl ?_
          refine er_if_ge (pc' := 82) rfl rfl (fun h79 => ?_) (fun h79 => ?_)
          · refine er_loc (pc' := 95) rfl rfl rfl ?_
            refine er_gf (pc' := 98) (_) rfl rfl rfl rfl rfl ?_
            refine er_loc (pc' := 99) rfl rfl rfl ?_
            have hw4 : ∃ j, j ≤ 4 ∧ w = nI j := by
              have h6' : sIn w (nI 0) (nI 4) = true := by
                unfold sIn at h6 ⊢
                simp only [Bool.and_eq_true, Bool.not_eq_true', decide_eq_false_iff_not] at h6 ⊢
                exact ⟨h79, h6.2⟩
              obtain ⟨j, _, h2, h3⟩ := sIn_ex (by omega) (by omega) h6'
              exact ⟨j, h2, h3⟩
            obtain ⟨j, hj4, hjw⟩ := hw4
            have hnw : nN w = j := by rw [hjw]; exact nN_nI (by omega)
            refine er_ia (pc' := 100) (nN w) rfl rfl rfl (by rw [hnw]; exact hjw) (by omega) rfl rfl ?_
            refine er_iret rfl rfl ?_
            show (if _ then OrP X w _ else _)
            unfold OrP
            rw [if_pos h6, if_neg h25, if_neg (fun c => c.elim h64 (fun q => q h69))]
            exact ⟨_, hoP, RI_of (by rw [if_neg h79, PB_62]) rfl⟩
          · refine er_loc (pc' := 83) rfl rfl rfl ?_
            refine er_loc (pc' := 84) rfl rfl rfl ?_
            refine er_gf (pc' := 87) (_) rfl rfl rfl rfl rfl ?_
            refine er_gf (pc' := 90) (.int (PB X1 (sOrd X) 9 10)) rfl rfl rfl rfl rfl ?_
            refine er_isub (pc' := 91) rfl rfl ?_
            refine er_goto rfl ?_
            refine er_iret rfl rfl ?_
            show (if _ then OrP X w _ else _)
            unfold OrP
            rw [if_pos h6, if_neg h25, if_neg (fun c => c.elim h64 (fun q => q h69))]
            exact ⟨_, hoP, RI_of (by rw [if_pos (by first | exact h79 | exact Int32.not_le.mp h79), hoP 9 (by omega) (by omega) (by omega), jx010]) rfl⟩
        · refine er_loc (pc' := 73) rfl rfl rfl ?_
          refine er_k (pc' := 74) (nI 2) rfl rfl rfl ?_
          refine er_cIz (pc' := 77) (rest := []) 11 rfl rfl rfl rfl rfl rfl (l_error _ _ _ 2 (by decide)) ?_
          intro Z9
          refine er_iret rfl rfl ?_
          show (if _ then OrP X w _ else _)
          unfold OrP
          rw [if_pos h6, if_neg h25, if_pos (Or.inr h69)]
          exact ⟨_, hoP, RI_of rfl rfl⟩
    · refine er_loc (pc' := 29) rfl rfl rfl ?_
      refine er_k (pc' := 30) (nI 3) rfl rfl rfl ?_
      refine er_cIz (pc' := 33) (rest := []) 11 rfl rfl rfl rfl rfl rfl (l_error _ _ _ 3 (by decide)) ?_
      intro Z9
      refine er_iret rfl rfl ?_
      rw [if_pos h6]
      unfold OrP
      rw [if_pos h25]
      exact RI_of rfl rfl
  · refine er_loc (pc' := 10) rfl rfl rfl ?_
    refine er_k (pc' := 11) (nI 1) rfl rfl rfl ?_
    refine er_cIz (pc' := 14) (rest := []) 11 rfl rfl rfl rfl rfl rfl (l_error _ _ _ 1 (by decide)) ?_
    intro Z9
    refine er_iret rfl rfl ?_
    rw [if_neg (by rw [h6]; decide)]
    exact RI_of rfl rfl
end
section
/-! THE FACE: orders by a SHEET: they come to an end, and leave all as it was -/
def RE (X : Nat → Nat → Int32) : ab_R → Prop := fun r => ∃ v Z', r = (some (.int v), Wd X Z')
theorem RE_of {v : Int32} {X X' Z : Nat → Nat → Int32} (h : X' = X) : RE X (some (.int v), Wd X' Z) := ⟨v, Z, by rw [h]⟩
section ERW
variable {d pc pc' lk : Nat} {M : ab_M} {L L' : ab_Lo} {st : List Value} {w : ab_W} {P : ab_R → Prop} {X Z : Nat → Nat → Int32}
theorem er_cSe {j i : Nat} {X' : Nat → Nat → Int32} {As rest : List Value} (hf : ab_fetch M.2.2.2.2.2.2.2 pc = some (.invokestatic i, lk)) (hq : qS lk st = some (j, As, rest)) (hp : pc + 3 = pc') (h : EC d j As (Wd X Z) (RE X')) (k : ∀ v Z', ER d M pc' L (.int v :: rest) (Wd X' Z') P) : ER d M pc L st (Wd X Z) P :=
  er_cS hf hq hp h (fun r hr => by obtain ⟨v, Z', rfl⟩ := hr; exact k v Z')
end ERW
abbrev aR (a : Nat) : Nat := 55 + a
set_option maxRecDepth 100000 in
set_option maxHeartbeats 4000000 in
theorem l_of_loop (d F : Nat) (X : Nat → Nat → Int32) {a : Nat} (ha : a < 4) (g dep : Nat) {T : Nat} (hI : IJ T (jx X 35)) {k : Nat} (hk : sMayDo (jx X 35) k = true) (hrec : ∀ (Z : Nat → Nat → Int32) (i : Nat), i < jn (jx X 35) → EC (d + 6 + F) 107 [.ref 35, .int (nI i), .ref (55 + a), .int (nI g), .int (nI (dep + 1))] (Wd (xPass X 35 k) Z) (RE (xPass X 35 k))) : ∀ (m i : Nat) (x f : Int32) (Z : Nat → Nat → Int32), i + m = jn (jx X 35) → x = nI i → ER (d + 6 + F) tb_m107 75 [(0, .ref 35), (1, .int (nI k)), (2, .ref (55 + a)), (3, .int (nI g)), (4, .int (nI dep)), (5, .int (X 35 9)), (6, .int (X 35 10)), (7, .int f), (8, .int x)] [] (Wd (xPass X 35 k) Z) (RE X)
  | 0, i, x, f, Z, hi, hx => by
    have h8 := jn8 hI
    have hm := mayDo_k hk
    subst hx
    have hi0 : i = jn (jx X 35) := by omega
    refine er_loc (pc' := 77) rfl rfl rfl ?_
    refine er_loc (pc' := 78) rfl rfl rfl ?_
    refine er_gf (pc' := 81) (.int (X 35 1)) rfl rfl rfl rfl rfl ?_
    rw [show X 35 1 = nI (jn (jx X 35)) from hI.n.1]
    refine er_cm_geT rfl (nI_nlt (by omega) (by omega)) ?_
    refine er_loc (pc' := 108) rfl rfl rfl ?_
    refine er_loc (pc' := 109) rfl rfl rfl ?_
    refine er_loc (pc' := 111) rfl rfl rfl ?_
    refine er_loc (pc' := 113) rfl rfl rfl ?_
    refine er_cIv (pc' := 116) (rest := []) 7 rfl rfl rfl rfl rfl rfl (EC.up (l_unpass d j35 _ _ _ _ _) (by omega)) ?_
    intro Z9
    rw [xUnpass_pass (by omega) (by have := hm.2.1; unfold sDone at this; rw [jx06] at this; exact this)]
    refine er_loc (pc' := 118) rfl rfl rfl ?_
    refine er_iret rfl rfl ?_
    exact RE_of rfl
  | m + 1, i, x, f, Z, hi, hx => by
    have h8 := jn8 hI
    subst hx
    refine er_loc (pc' := 77) rfl rfl rfl ?_
    refine er_loc (pc' := 78) rfl rfl rfl ?_
    refine er_gf (pc' := 81) (.int (X 35 1)) rfl rfl rfl rfl rfl ?_
    rw [show X 35 1 = nI (jn (jx X 35)) from hI.n.1]
    refine er_cm_geF (pc' := 84) rfl (nI_lt (by omega) (by omega)) rfl ?_
    refine er_loc (pc' := 86) rfl rfl rfl ?_
    refine er_loc (pc' := 87) rfl rfl rfl ?_
    refine er_loc (pc' := 89) rfl rfl rfl ?_
    refine er_loc (pc' := 90) rfl rfl rfl ?_
    refine er_loc (pc' := 91) rfl rfl rfl ?_
    refine er_loc (pc' := 93) rfl rfl rfl ?_
    refine er_k (pc' := 94) (nI 1) rfl rfl rfl ?_
    refine er_iadd (pc' := 95) rfl rfl ?_
    rw [nI_add]
    refine er_cSe (pc' := 98) (rest := [_]) rfl rfl rfl (hrec Z i (by omega)) ?_
    intro v Z8
    refine er_iadd (pc' := 99) rfl rfl ?_
    refine er_loc (L' := [(7, _), (0, _), (1, _), (2, _), (3, _), (4, _), (5, _), (6, _), (8, _)]) (pc' := 101) rfl rfl rfl ?_
    refine er_loc (L' := [(8, .int (_ + nI 1)), (7, _), (0, _), (1, _), (2, _), (3, _), (4, _), (5, _), (6, _)]) (pc' := 104) rfl rfl rfl ?_
    refine er_goto rfl ?_
    refine ER_loc [(0, _), (1, _), (2, _), (3, _), (4, _), (5, _), (6, _), (7, _), (8, _)] rfl (List.forall_mem_cons.mpr ⟨rfl, List.forall_mem_cons.mpr ⟨rfl, List.forall_mem_cons.mpr ⟨rfl, List.forall_mem_cons.mpr ⟨rfl, List.forall_mem_cons.mpr ⟨rfl, List.forall_mem_cons.mpr ⟨rfl, List.forall_mem_cons.mpr ⟨rfl, List.forall_mem_cons.mpr ⟨rfl, List.forall_mem_cons.mpr ⟨rfl, fun _ h => absurd h List.not_mem_nil⟩⟩⟩⟩⟩⟩⟩⟩⟩) rfl rfl ?_
    exact l_of_loop d F X ha g dep hI hk hrec m (i + 1) _ _ _ (by omega) (nI_add i 1)
set_option maxRecDepth 100000 in
set_option maxHeartbeats 4000000 in
theorem l_ordersFrom (d : Nat) {a : Nat} (ha : a < 4) (g : Nat) (hg : g ≤ 4) : ∀ (F dep : Nat) (X Z : Nat → Nat → Int32) (k : Nat) (T : Nat), dep + F = g → IJ T (jx X 35) → k < jn (jx X 35) → T + 300 * F < 1000000000 → EC (d + 6 + F + 1) 107 [.ref 35, .int (nI k), .ref (55 + a), .int (nI g), .int (nI dep)] (Wd X Z) (RE X) := by
  intro F
  induction F with
  | zero =>
    intro dep X Z k T hd hI hk hT
    refine er_enter (L := [(0, _), (1, _), (2, _), (3, _), (4, _)]) rfl rfl rfl ?_
    refine er_loc (pc' := 2) rfl rfl rfl ?_
    refine er_if_ltF (pc' := 5) rfl (nI_pos (by omega)) rfl ?_
    refine er_loc (pc' := 7) rfl rfl rfl ?_
    refine er_loc (pc' := 8) rfl rfl rfl ?_
    refine er_cm_geT rfl (nI_nlt (by omega) (by omega)) ?_
    refine er_k (pc' := 27) (nI 0) rfl rfl rfl ?_
    refine er_iret rfl rfl ?_
    exact RE_of rfl
  | succ F ih =>
    intro dep X Z k T hd hI hk hT
    have h8 := jn8 hI
    refine er_enter (L := [(0, _), (1, _), (2, _), (3, _), (4, _)]) rfl rfl rfl ?_
    refine er_loc (pc' := 2) rfl rfl rfl ?_
    refine er_if_ltF (pc' := 5) rfl (nI_pos (by omega)) rfl ?_
    refine er_loc (pc' := 7) rfl rfl rfl ?_
    refine er_loc (pc' := 8) rfl rfl rfl ?_
    refine er_cm_geF (pc' := 11) rfl (nI_lt (by omega) (by omega)) rfl ?_
    refine er_loc (pc' := 13) rfl rfl rfl ?_
    refine er_loc (pc' := 14) rfl rfl rfl ?_
    refine er_al (pc' := 15) rfl (blt_R ha) (cO_R ha _ _) rfl ?_
    refine er_cm_geF (pc' := 18) rfl (nI_lt (by omega) (by omega)) rfl ?_
    refine er_loc (pc' := 19) rfl rfl rfl ?_
    refine er_loc (pc' := 20) rfl rfl rfl ?_
    refine er_cIi (pc' := 23) (rest := []) 7 rfl rfl rfl rfl rfl rfl (EC.up (l_mayBeDone d j35 _ _ hI hk) (by omega)) ?_
    refine er_if_neb (pc' := 26) rfl rfl (fun h23 => ?_) (fun h23 => ?_)
    · refine er_loc (pc' := 29) rfl rfl rfl ?_
      refine er_loc (pc' := 30) rfl rfl rfl ?_
      refine er_cIz (pc' := 33) (rest := []) 7 rfl rfl rfl rfl rfl rfl (EC.up (l_lasts d j35 _ _ hI hk) (by omega)) ?_
      intro Z2
      refine er_loc (pc' := 34) rfl rfl rfl ?_
      refine er_loc (pc' := 36) rfl rfl rfl ?_
      refine er_ia (pc' := 37) (dep) rfl (blt_R ha) (cO_R ha _ _) rfl (by omega) rfl rfl ?_
      refine er_cm_eq (pc' := 40) rfl rfl (fun h37 => ?_) (fun h37 => ?_)
      · refine er_loc (pc' := 44) rfl rfl rfl ?_
        refine er_loc (pc' := 45) rfl rfl rfl ?_
        refine er_k (pc' := 46) (nI 1) rfl rfl rfl ?_
        refine er_isub (pc' := 47) rfl rfl ?_
        refine er_cm_ne (pc' := 50) rfl rfl (fun h47 => ?_) (fun h47 => ?_)
        · refine er_loc (pc' := 53) rfl rfl rfl ?_
          refine er_gf (pc' := 56) (.int (X 35 9)) rfl rfl rfl rfl rfl ?_
          refine er_loc (L' := [(5, _), (0, _), (1, _), (2, _), (3, _), (4, _)]) (pc' := 58) rfl rfl rfl ?_
          refine er_loc (pc' := 59) rfl rfl rfl ?_
          refine er_gf (pc' := 62) (.int (X 35 10)) rfl rfl rfl rfl rfl ?_
          refine er_loc (L' := [(6, _), (5, _), (0, _), (1, _), (2, _), (3, _), (4, _)]) (pc' := 64) rfl rfl rfl ?_
          refine er_k (pc' := 65) (nI 0) rfl rfl rfl ?_
          refine er_loc (L' := [(7, _), (6, _), (5, _), (0, _), (1, _), (2, _), (3, _), (4, _)]) (pc' := 67) rfl rfl rfl ?_
          refine er_loc (pc' := 68) rfl rfl rfl ?_
          refine er_loc (pc' := 69) rfl rfl rfl ?_
          refine er_cIv (pc' := 72) (rest := []) 7 rfl rfl rfl rfl rfl rfl (EC.up (l_pass d j35 _ _ hI hk) (by omega)) ?_
          intro Z7
          refine er_k (pc' := 73) (nI 0) rfl rfl rfl ?_
          refine er_loc (L' := [(8, _), (7, _), (6, _), (5, _), (0, _), (1, _), (2, _), (3, _), (4, _)]) (pc' := 75) rfl rfl rfl ?_
          refine ER_loc [(0, _), (1, _), (2, _), (3, _), (4, _), (5, _), (6, _), (7, _), (8, _)] rfl (List.forall_mem_cons.mpr ⟨rfl, List.forall_mem_cons.mpr ⟨rfl, List.forall_mem_cons.mpr ⟨rfl, List.forall_mem_cons.mpr ⟨rfl, List.forall_mem_cons.mpr ⟨rfl, List.forall_mem_cons.mpr ⟨rfl, List.forall_mem_cons.mpr ⟨rfl, List.forall_mem_cons.mpr ⟨rfl, List.forall_mem_cons.mpr ⟨rfl, fun _ h => absurd h List.not_mem_nil⟩⟩⟩⟩⟩⟩⟩⟩⟩) rfl rfl ?_
          refine l_of_loop d (F + 1) X ha g dep hI h23 ?_ (jn (jx X 35)) 0 _ _ Z7 (by omega) rfl
          intro Z1 i hi
          have hj := jx_xPass (X := X) (b := 35) (k := k) (by omega)
          exact ih (dep + 1) (xPass X 35 k) Z1 i (T + 300) (by omega) (by rw [hj]; exact hI.pass (by omega) h23) (by rw [hj]; exact hi) (by omega)
        · refine er_k (pc' := 51) (nI 1) rfl rfl rfl ?_
          refine er_iret rfl rfl ?_
          exact RE_of rfl
      · refine er_k (pc' := 41) (nI 0) rfl rfl rfl ?_
        refine er_iret rfl rfl ?_
        exact RE_of rfl
    · refine er_k (pc' := 27) (nI 0) rfl rfl rfl ?_
      refine er_iret rfl rfl ?_
      exact RE_of rfl
def OsP (X : Nat → Nat → Int32) : ab_R → Prop := fun r => ∃ v X' Z', r = (some (.int v), Wd X' Z') ∧ (OT X X' ∨ ∃ X1, OT X X1 ∧ X' = xErr X1 2)
set_option maxRecDepth 100000 in
set_option maxHeartbeats 4000000 in
theorem l_os_loop (d : Nat) {X : Nat → Nat → Int32} {T : Nat} (hI : IJ T (jx X 9)) (hT9 : T < 1000000) {a : Nat} (ha : a < 4) (w : Int32) {g : Nat} (hg : X 59 a = nI g) (hg4 : g ≤ 4) (X1 : Nat → Nat → Int32) (ho : OT X X1) (hj : jx X1 35 = jx X 9) (P : ab_R → Prop) (hP : ∀ r, OsP X r → P r) : ∀ (m i : Nat) (x f l : Int32) (Z : Nat → Nat → Int32), i + m = jn (jx X 9) → x = nI i → ER (d + 11) tb_m105 70 [(0, .ref 0), (1, .int (nI a)), (2, .int w), (3, .int f), (4, .int l), (5, .int x)] [] (Wd X1 Z) P
  | 0, i, x, f, l, Z, hi, hx => by
    have h8 := jn8 hI
    subst hx
    refine er_loc (pc' := 72) rfl rfl rfl ?_
    refine er_loc (pc' := 73) rfl rfl rfl ?_
    refine er_gf (pc' := 76) (_) rfl rfl rfl rfl rfl ?_
    refine er_gf (pc' := 79) (.int (X1 9 1)) rfl rfl rfl rfl rfl ?_
    rw [show X1 9 1 = nI (jn (jx X 9)) from by rw [ho 9 (by omega)]; exact hI.n.1]
    refine er_cm_geT rfl (nI_nlt (by omega) (by omega)) ?_
    refine er_loc (pc' := 137) rfl rfl rfl ?_
    refine er_if_ne (pc' := 140) rfl rfl (fun h137 => ?_) (fun h137 => ?_)
    · refine er_loc (pc' := 144) rfl rfl rfl ?_
      refine er_if_lt (pc' := 147) rfl rfl (fun h144 => ?_) (fun h144 => ?_)
      · refine er_loc (pc' := 153) rfl rfl rfl ?_
        refine er_k (pc' := 154) (nI 2) rfl rfl rfl ?_
        refine er_cIz (pc' := 157) (rest := []) 11 rfl rfl rfl rfl rfl rfl (l_error _ _ _ 2 (by decide)) ?_
        intro Z9
        refine er_iret rfl rfl ?_
        exact hP _ ⟨_, _, _, rfl, Or.inr ⟨X1, ho, rfl⟩⟩
      · refine er_loc (pc' := 149) rfl rfl rfl ?_
        refine er_goto rfl ?_
        refine er_iret rfl rfl ?_
        exact hP _ ⟨_, _, _, rfl, Or.inl ho⟩
    · refine er_loc (pc' := 141) rfl rfl rfl ?_
      refine er_iret rfl rfl ?_
      exact hP _ ⟨_, _, _, rfl, Or.inl ho⟩
  | m + 1, i, x, f, l, Z, hi, hx => by
    have h8 := jn8 hI
    subst hx
    refine er_loc (pc' := 72) rfl rfl rfl ?_
    refine er_loc (pc' := 73) rfl rfl rfl ?_
    refine er_gf (pc' := 76) (_) rfl rfl rfl rfl rfl ?_
    refine er_gf (pc' := 79) (.int (X1 9 1)) rfl rfl rfl rfl rfl ?_
    rw [show X1 9 1 = nI (jn (jx X 9)) from by rw [ho 9 (by omega)]; exact hI.n.1]
    refine er_cm_geF (pc' := 82) rfl (nI_lt (by omega) (by omega)) rfl ?_
    refine er_loc (pc' := 83) rfl rfl rfl ?_
    refine er_gf (pc' := 86) (_) rfl rfl rfl rfl rfl ?_
    refine er_loc (pc' := 88) rfl rfl rfl ?_
    refine er_loc (pc' := 89) rfl rfl rfl ?_
    refine er_gf (pc' := 92) (_) rfl rfl rfl rfl rfl ?_
    refine er_loc (pc' := 93) rfl rfl rfl ?_
    refine er_aa (pc' := 94) (a) rfl rfl rfl rfl rfl ha rfl rfl ?_
    refine er_loc (pc' := 95) rfl rfl rfl ?_
    refine er_gf (pc' := 98) (_) rfl rfl rfl rfl rfl ?_
    refine er_loc (pc' := 99) rfl rfl rfl ?_
    refine er_ia (pc' := 100) (a) rfl rfl rfl rfl ha rfl rfl ?_
    rw [show X1 59 a = nI g from by rw [ho 59 (by omega)]; exact hg]
    refine er_k (pc' := 101) (nI 0) rfl rfl rfl ?_
    refine er_cSe (pc' := 104) (rest := []) rfl rfl rfl (EC.up (l_ordersFrom d ha g hg4 g 0 X1 Z i T (by omega) (by rw [hj]; exact hI) (by rw [hj]; omega) (by omega)) (by omega)) ?_
    intro v Z8
    refine er_loc (L' := [(6, _), (0, _), (1, _), (2, _), (3, _), (4, _), (5, _)]) (pc' := 106) rfl rfl rfl ?_
    refine er_loc (pc' := 108) rfl rfl rfl ?_
    refine er_if_ge (pc' := 111) rfl rfl (fun h108 => ?_) (fun h108 => ?_)
    · refine er_loc (pc' := 123) rfl rfl rfl ?_
      refine er_loc (L' := [(4, _), (6, _), (0, _), (1, _), (2, _), (3, _), (5, _)]) (pc' := 125) rfl rfl rfl ?_
      refine er_loc (pc' := 126) rfl rfl rfl ?_
      refine er_loc (pc' := 128) rfl rfl rfl ?_
      refine er_iadd (pc' := 129) rfl rfl ?_
      refine er_loc (L' := [(3, _), (4, _), (6, _), (0, _), (1, _), (2, _), (5, _)]) (pc' := 130) rfl rfl rfl ?_
      refine er_loc (L' := [(5, .int (_ + nI 1)), (3, _), (4, _), (6, _), (0, _), (1, _), (2, _)]) (pc' := 133) rfl rfl rfl ?_
      refine er_goto rfl ?_
      refine ER_loc [(0, _), (1, _), (2, _), (3, _), (4, _), (5, _)] rfl (List.forall_mem_cons.mpr ⟨rfl, List.forall_mem_cons.mpr ⟨rfl, List.forall_mem_cons.mpr ⟨rfl, List.forall_mem_cons.mpr ⟨rfl, List.forall_mem_cons.mpr ⟨rfl, List.forall_mem_cons.mpr ⟨rfl, fun _ h => absurd h List.not_mem_nil⟩⟩⟩⟩⟩⟩) rfl rfl ?_
      exact l_os_loop d hI hT9 ha w hg hg4 X1 ho hj P hP m (i + 1) _ _ _ _ (by omega) (nI_add i 1)
    · refine er_loc (pc' := 113) rfl rfl rfl ?_
      refine er_if_le (pc' := 116) rfl rfl (fun h113 => ?_) (fun h113 => ?_)
      · refine er_loc (pc' := 123) rfl rfl rfl ?_
        refine er_loc (L' := [(4, _), (6, _), (0, _), (1, _), (2, _), (3, _), (5, _)]) (pc' := 125) rfl rfl rfl ?_
        refine er_loc (pc' := 126) rfl rfl rfl ?_
        refine er_loc (pc' := 128) rfl rfl rfl ?_
        refine er_iadd (pc' := 129) rfl rfl ?_
        refine er_loc (L' := [(3, _), (4, _), (6, _), (0, _), (1, _), (2, _), (5, _)]) (pc' := 130) rfl rfl rfl ?_
        refine er_loc (L' := [(5, .int (_ + nI 1)), (3, _), (4, _), (6, _), (0, _), (1, _), (2, _)]) (pc' := 133) rfl rfl rfl ?_
        refine er_goto rfl ?_
        refine ER_loc [(0, _), (1, _), (2, _), (3, _), (4, _), (5, _)] rfl (List.forall_mem_cons.mpr ⟨rfl, List.forall_mem_cons.mpr ⟨rfl, List.forall_mem_cons.mpr ⟨rfl, List.forall_mem_cons.mpr ⟨rfl, List.forall_mem_cons.mpr ⟨rfl, List.forall_mem_cons.mpr ⟨rfl, fun _ h => absurd h List.not_mem_nil⟩⟩⟩⟩⟩⟩) rfl rfl ?_
        exact l_os_loop d hI hT9 ha w hg hg4 X1 ho hj P hP m (i + 1) _ _ _ _ (by omega) (nI_add i 1)
      · refine er_loc (pc' := 118) rfl rfl rfl ?_
        refine er_goto rfl ?_
        refine er_loc (L' := [(4, _), (6, _), (0, _), (1, _), (2, _), (3, _), (5, _)]) (pc' := 125) rfl rfl rfl ?_
        refine er_loc (pc' := 126) rfl rfl rfl ?_
        refine er_loc (pc' := 128) rfl rfl rfl ?_
        refine er_iadd (pc' := 129) rfl rfl ?_
        refine er_loc (L' := [(3, _), (4, _), (6, _), (0, _), (1, _), (2, _), (5, _)]) (pc' := 130) rfl rfl rfl ?_
        refine er_loc (L' := [(5, .int (_ + nI 1)), (3, _), (4, _), (6, _), (0, _), (1, _), (2, _)]) (pc' := 133) rfl rfl rfl ?_
        refine er_goto rfl ?_
        refine ER_loc [(0, _), (1, _), (2, _), (3, _), (4, _), (5, _)] rfl (List.forall_mem_cons.mpr ⟨rfl, List.forall_mem_cons.mpr ⟨rfl, List.forall_mem_cons.mpr ⟨rfl, List.forall_mem_cons.mpr ⟨rfl, List.forall_mem_cons.mpr ⟨rfl, List.forall_mem_cons.mpr ⟨rfl, fun _ h => absurd h List.not_mem_nil⟩⟩⟩⟩⟩⟩) rfl rfl ?_
        exact l_os_loop d hI hT9 ha w hg hg4 X1 ho hj P hP m (i + 1) _ _ _ _ (by omega) (nI_add i 1)
set_option maxRecDepth 100000 in
set_option maxHeartbeats 4000000 in
theorem l_orders_no (d : Nat) (X Z : Nat → Nat → Int32) (s w : Int32) (hs : (sIn s (nI 0) (nI 3) && sIn w (nI 0) (nI 1)) = false) : EC (d + 3) 105 [.ref 0, .int s, .int w] (Wd X Z) (RI (sErr 1) (xErr X 1)) := by
  refine er_enter (L := [(0, _), (1, _), (2, _)]) rfl rfl rfl ?_
  refine er_loc (pc' := 1) rfl rfl rfl ?_
  refine er_cSi (pc' := 4) (rest := []) rfl rfl rfl (l_xSheet _ _ _) ?_
  refine er_if_eqb (pc' := 7) rfl rfl (fun h4 => ?_) (fun h4 => ?_)
  · refine er_loc (pc' := 17) rfl rfl rfl ?_
    refine er_k (pc' := 18) (nI 1) rfl rfl rfl ?_
    refine er_cIz (pc' := 21) (rest := []) 11 rfl rfl rfl rfl rfl rfl (l_error _ _ _ 1 (by decide)) ?_
    intro Z9
    refine er_iret rfl rfl ?_
    exact RI_of rfl rfl
  · refine er_loc (pc' := 8) rfl rfl rfl ?_
    refine er_k (pc' := 9) (nI 0) rfl rfl rfl ?_
    refine er_k (pc' := 10) (nI 1) rfl rfl rfl ?_
    refine er_cSi (pc' := 13) (rest := []) rfl rfl rfl (l_within _ _ _ _ _) ?_
    refine er_if_neb (pc' := 16) rfl rfl (fun h13 => ?_) (fun h13 => ?_)
    · exfalso; rw [h4, h13] at hs; cases hs
    · refine er_loc (pc' := 17) rfl rfl rfl ?_
      refine er_k (pc' := 18) (nI 1) rfl rfl rfl ?_
      refine er_cIz (pc' := 21) (rest := []) 11 rfl rfl rfl rfl rfl rfl (l_error _ _ _ 1 (by decide)) ?_
      intro Z9
      refine er_iret rfl rfl ?_
      exact RI_of rfl rfl
set_option maxRecDepth 100000 in
set_option maxHeartbeats 4000000 in
theorem l_orders (d : Nat) (X Z : Nat → Nat → Int32) {T : Nat} (hI : IJ T (jx X 9)) (hT9 : T < 1000000) {a : Nat} (ha : a < 4) (w : Int32) (hw : sIn w (nI 0) (nI 1) = true) {g : Nat} (hg : X 59 a = nI g) (h40 : g ≤ 40) : EC (d + 12) 105 [.ref 0, .int (nI a), .int w] (Wd X Z) (OsP X) := by
  refine er_enter (L := [(0, _), (1, _), (2, _)]) rfl rfl rfl ?_
  refine er_loc (pc' := 1) rfl rfl rfl ?_
  refine er_cSi (pc' := 4) (rest := []) rfl rfl rfl (l_xSheet _ _ _) ?_
  rw [show sIn (nI a) (nI 0) (nI 3) = true from sIn_t (by omega) (by omega) (by omega)]
  refine er_if_eqF (pc' := 7) rfl (by decide +kernel) rfl ?_
  refine er_loc (pc' := 8) rfl rfl rfl ?_
  refine er_k (pc' := 9) (nI 0) rfl rfl rfl ?_
  refine er_k (pc' := 10) (nI 1) rfl rfl rfl ?_
  refine er_cSi (pc' := 13) (rest := []) rfl rfl rfl (l_within _ _ _ _ _) ?_
  rw [hw]
  refine er_if_neT rfl (by decide +kernel) ?_
  refine er_loc (pc' := 23) rfl rfl rfl ?_
  refine er_gf (pc' := 26) (_) rfl rfl rfl rfl rfl ?_
  refine er_loc (pc' := 27) rfl rfl rfl ?_
  refine er_ia (pc' := 28) (a) rfl rfl rfl rfl ha rfl rfl ?_
  refine er_if_eq (pc' := 31) rfl rfl (fun h28 => ?_) (fun h28 => ?_)
  · refine er_loc (pc' := 46) rfl rfl rfl ?_
    refine er_k (pc' := 47) (nI 2) rfl rfl rfl ?_
    refine er_cIz (pc' := 50) (rest := []) 11 rfl rfl rfl rfl rfl rfl (l_error _ _ _ 2 (by decide)) ?_
    intro Z9
    refine er_iret rfl rfl ?_
    exact ⟨_, _, _, rfl, Or.inr ⟨X, OT.rf X, rfl⟩⟩
  · refine er_loc (pc' := 32) rfl rfl rfl ?_
    refine er_gf (pc' := 35) (_) rfl rfl rfl rfl rfl ?_
    refine er_loc (pc' := 36) rfl rfl rfl ?_
    refine er_ia (pc' := 37) (a) rfl rfl rfl rfl ha rfl rfl ?_
    rw [hg]
    refine er_k (pc' := 38) (nI 1) rfl rfl rfl ?_
    refine er_k (pc' := 39) (nI 4) rfl rfl rfl ?_
    refine er_cSi (pc' := 42) (rest := []) rfl rfl rfl (l_within _ _ _ _ _) ?_
    refine er_if_neb (pc' := 45) rfl rfl (fun h42 => ?_) (fun h42 => ?_)
    · have hg4 : g ≤ 4 := by
        obtain ⟨j, _, h2, h3⟩ := sIn_ex (by omega) (by omega) h42
        have := (nI_eq (by omega) (by omega)).mp h3
        omega
      refine er_k (pc' := 52) (nI 0) rfl rfl rfl ?_
      refine er_loc (pc' := 53) (L' := [(3, _), (0, _), (1, _), (2, _)]) rfl rfl rfl ?_
      refine er_k (pc' := 54) (-1) rfl rfl rfl ?_
      refine er_loc (pc' := 56) (L' := [(4, _), (3, _), (0, _), (1, _), (2, _)]) rfl rfl rfl ?_
      refine er_loc (pc' := 57) rfl rfl rfl ?_
      refine er_gf (pc' := 60) (_) rfl rfl rfl rfl rfl ?_
      refine er_loc (pc' := 61) rfl rfl rfl ?_
      refine er_gf (pc' := 64) (_) rfl rfl rfl rfl rfl ?_
      refine er_cIt (pc' := 67) (rest := []) 7 rfl rfl rfl rfl rfl rfl (l_take_35_9 _ _ _ hI) ?_
      intro X1 Z1 hj1 ho1
      refine er_k (pc' := 68) (nI 0) rfl rfl rfl ?_
      refine er_loc (pc' := 70) (L' := [(5, _), (4, _), (3, _), (0, _), (1, _), (2, _)]) rfl rfl rfl ?_
      refine ER_loc [(0, _), (1, _), (2, _), (3, _), (4, _), (5, _)] rfl (List.forall_mem_cons.mpr ⟨rfl, List.forall_mem_cons.mpr ⟨rfl, List.forall_mem_cons.mpr ⟨rfl, List.forall_mem_cons.mpr ⟨rfl, List.forall_mem_cons.mpr ⟨rfl, List.forall_mem_cons.mpr ⟨rfl, fun _ h => absurd h List.not_mem_nil⟩⟩⟩⟩⟩⟩) rfl rfl ?_
      exact l_os_loop d hI hT9 ha w hg hg4 X1 ho1 hj1 _ (fun _ h => h) (jn (jx X 9)) 0 _ _ _ Z1 (by omega) rfl
    · refine er_loc (pc' := 46) rfl rfl rfl ?_
      refine er_k (pc' := 47) (nI 2) rfl rfl rfl ?_
      refine er_cIz (pc' := 50) (rest := []) 11 rfl rfl rfl rfl rfl rfl (l_error _ _ _ 2 (by decide)) ?_
      intro Z9
      refine er_iret rfl rfl ?_
      exact ⟨_, _, _, rfl, Or.inr ⟨X, OT.rf X, rfl⟩⟩
end
section
/-! VOICES -/
abbrev VT : Type := Nat × (Nat → Int32)
def bg (t : VT) (b : Int32) : VT := if t.1 < 40 then (t.1 + 1, u1 t.2 t.1 b) else t
theorem bg_le {t : VT} {b : Int32} (h : t.1 ≤ 40) : (bg t b).1 ≤ 40 := by
  unfold bg
  split
  · show t.1 + 1 ≤ 40; omega
  · exact h
def XT (X : Nat → Nat → Int32) (t : VT) : Nat → Nat → Int32 := ud (uc X 52 t.2) 51 1 (nI t.1)
theorem XT_bg {X : Nat → Nat → Int32} {t : VT} {b : Int32} (h : t.1 < 40) : ud (ud (XT X t) 52 t.1 b) 51 1 (nI t.1 + nI 1) = XT X (bg t b) := by
  have e : bg t b = (t.1 + 1, u1 t.2 t.1 b) := if_pos h
  rw [e, nI_add]
  unfold XT
  funext i j
  simp only [ud_at, uc]
  by_cases h1 : i = 51
  · subst h1
    by_cases h2 : j = 1
    · subst h2; simp
    · simp [h2]
  · by_cases h3 : i = 52
    · subst h3
      simp [u1]
    · simp [h1, h3]
def vPF (n x : Int32) (t : VT) : Int32 × VT := (x + n, bg t (nI 10))
def vFits (q : Nat) (n x : Int32) (t : VT) : Int32 × VT := if q = 1 ∨ q = 4 then ((vPF n x (bg t (nI 20))).1 * nI 3, (vPF n x (bg t (nI 20))).2) else vPF n x t
def vPE (q : Nat) (n x : Int32) (t : VT) : Int32 × VT := ((vFits q n x (bg t (nI 11))).1 * nI 2, (vFits q n x (bg t (nI 11))).2)
def vPL (m x : Int32) (t : VT) : Int32 × VT := (x - m, bg t (nI 12))
def vHL (m x : Int32) (t : VT) : Int32 × VT := (-(vPL m x (bg t (nI 40))).1, (vPL m x (bg t (nI 40))).2)
def vLooks (q : Nat) (n m x : Int32) (t : VT) : Int32 × VT := if q = 3 then vHL m x t else if q = 6 then ((vHL m x (bg t (nI 70))).1 ^^^ n, (vHL m x (bg t (nI 70))).2) else vPL m x t
def vGE (q : Nat) (n m x : Int32) (t : VT) : Int32 × VT := ((vPE q n x (bg t (nI 30))).1 - (vLooks q n m (nI 1) (vPE q n x (bg t (nI 30))).2).1, (vLooks q n m (nI 1) (vPE q n x (bg t (nI 30))).2).2)
def vErrs (q : Nat) (n m x : Int32) (t : VT) : Int32 × VT := if q = 2 then vGE q n m x t else if q = 5 then vGE q n m (x + nI 1) (bg t (nI 60)) else vPE q n x t
def vPU (q : Nat) (n m x : Int32) (t : VT) : Int32 × VT := ((vErrs q n m x (bg t (nI 13))).1 ^^^ (vLooks q n m x (vErrs q n m x (bg t (nI 13))).2).1, (vLooks q n m x (vErrs q n m x (bg t (nI 13))).2).2)
def vUndoes (q : Nat) (n m x : Int32) (t : VT) : Int32 × VT :=
  if q = 4 then ((vPU q n m x (bg t (nI 50))).1 - (vFits q n (nI 2) (vPU q n m x (bg t (nI 50))).2).1, (vFits q n (nI 2) (vPU q n m x (bg t (nI 50))).2).2)
  else if q = 6 then ((vErrs q n m x (bg t (nI 71))).1 - (vPU q n m x (vErrs q n m x (bg t (nI 71))).2).1, (vPU q n m x (vErrs q n m x (bg t (nI 71))).2).2)
  else vPU q n m x t
section VLE
variable {q : Nat} {n m x : Int32} {t : VT}
theorem vPF_le (h : t.1 ≤ 40) : (vPF n x t).2.1 ≤ 40 := bg_le h
theorem vFits_le (h : t.1 ≤ 40) : (vFits q n x t).2.1 ≤ 40 := by
  unfold vFits
  split
  · exact vPF_le (n := n) (x := x) (bg_le h)
  · exact vPF_le (n := n) (x := x) h
theorem vPE_le (h : t.1 ≤ 40) : (vPE q n x t).2.1 ≤ 40 := vFits_le (q := q) (n := n) (x := x) (bg_le h)
theorem vPL_le (h : t.1 ≤ 40) : (vPL m x t).2.1 ≤ 40 := bg_le h
theorem vHL_le (h : t.1 ≤ 40) : (vHL m x t).2.1 ≤ 40 := vPL_le (m := m) (x := x) (bg_le h)
theorem vLooks_le (h : t.1 ≤ 40) : (vLooks q n m x t).2.1 ≤ 40 := by
  unfold vLooks
  split
  · exact vHL_le (m := m) (x := x) h
  · split
    · exact vHL_le (m := m) (x := x) (bg_le h)
    · exact vPL_le (m := m) (x := x) h
theorem vGE_le (h : t.1 ≤ 40) : (vGE q n m x t).2.1 ≤ 40 := vLooks_le (q := q) (n := n) (m := m) (x := nI 1) (vPE_le (q := q) (n := n) (x := x) (bg_le h))
theorem vErrs_le (h : t.1 ≤ 40) : (vErrs q n m x t).2.1 ≤ 40 := by
  unfold vErrs
  split
  · exact vGE_le (q := q) (n := n) (m := m) (x := x) h
  · split
    · exact vGE_le (q := q) (n := n) (m := m) (x := x + nI 1) (bg_le h)
    · exact vPE_le (q := q) (n := n) (x := x) h
theorem vPU_le (h : t.1 ≤ 40) : (vPU q n m x t).2.1 ≤ 40 := vLooks_le (q := q) (n := n) (m := m) (x := x) (vErrs_le (q := q) (n := n) (m := m) (x := x) (bg_le h))
theorem vUndoes_le (h : t.1 ≤ 40) : (vUndoes q n m x t).2.1 ≤ 40 := by
  unfold vUndoes
  split
  · exact vFits_le (q := q) (n := n) (x := nI 2) (vPU_le (q := q) (n := n) (m := m) (x := x) (bg_le h))
  · split
    · exact vPU_le (q := q) (n := n) (m := m) (x := x) (vErrs_le (q := q) (n := n) (m := m) (x := x) (bg_le h))
    · exact vPU_le (q := q) (n := n) (m := m) (x := x) h
end VLE
set_option maxRecDepth 100000 in
set_option maxHeartbeats 4000000 in
theorem l_begins (d : Nat) (X Z : Nat → Nat → Int32) (t : VT) (ht : t.1 ≤ 40) (b : Int32) : EC (d + 1) 72 [.ref 51, .int b] (Wd (XT X t) Z) (RV (XT X (bg t b))) := by
  refine er_enter (L := [(0, _), (1, _)]) rfl rfl rfl ?_
  refine er_loc (pc' := 1) rfl rfl rfl ?_
  refine er_gf (pc' := 4) (.int (nI t.1)) rfl rfl rfl rfl rfl ?_
  refine er_loc (pc' := 5) rfl rfl rfl ?_
  refine er_gf (pc' := 8) (_) rfl rfl rfl rfl rfl ?_
  refine er_al (pc' := 9) rfl rfl rfl rfl ?_
  refine er_cm_ge (pc' := 12) rfl rfl (fun h9 => ?_) (fun h9 => ?_)
  · have hlt : ¬ t.1 < 40 := fun c => h9 (nI_lt c (by omega))
    refine er_vret rfl rfl ?_
    exact RV_of (by first | exact XT_bg hlt | (show XT X t = _; unfold bg; rw [if_neg hlt]))
  · have hlt : t.1 < 40 := by
      rcases Nat.lt_or_ge t.1 40 with c | c
      · exact c
      · exact absurd h9 (nI_nlt c (by omega))
    refine er_loc (pc' := 13) rfl rfl rfl ?_
    refine er_gf (pc' := 16) (_) rfl rfl rfl rfl rfl ?_
    refine er_loc (pc' := 17) rfl rfl rfl ?_
    refine er_gf (pc' := 20) (.int (nI t.1)) rfl rfl rfl rfl rfl ?_
    refine er_loc (pc' := 21) rfl rfl rfl ?_
    refine er_isX (pc' := 22) (t.1) rfl rfl (fun _ => rfl) rfl hlt rfl rfl ?_
    refine er_loc (pc' := 23) rfl rfl rfl ?_
    refine er_pure (pc' := 24) rfl rfl rfl ?_
    refine er_gf (pc' := 27) (.int (nI t.1)) rfl rfl rfl rfl rfl ?_
    refine er_k (pc' := 28) (nI 1) rfl rfl rfl ?_
    refine er_iadd (pc' := 29) rfl rfl ?_
    refine er_pfIX (pc' := 32) 1 rfl rfl rfl rfl rfl rfl ?_
    refine er_vret rfl rfl ?_
    exact RV_of (by first | exact XT_bg hlt | (show XT X t = _; unfold bg; rw [if_neg hlt]))
set_option maxRecDepth 100000 in
set_option maxHeartbeats 4000000 in
theorem l_v5 (c : Nat) (d : Nat) (X Z : Nat → Nat → Int32) (n m : Int32) (hn : X 51 2 = n) (hm : X 51 3 = m) (t : VT) (ht : t.1 ≤ 40) (x : Int32) : EC (d + 2) 5 [.ref c, .ref 51, .int x] (Wd (XT X t) Z) (RI (vPF n x t).1 (XT X (vPF n x t).2)) := by
  refine er_enter (L := [(0, _), (1, _), (2, _)]) rfl rfl rfl ?_
  unfold vPF
  refine er_loc (pc' := 1) rfl rfl rfl ?_
  refine er_k (pc' := 3) (nI 10) rfl rfl rfl ?_
  refine er_cIv (pc' := 6) (rest := []) 10 rfl rfl rfl rfl rfl rfl (l_begins _ _ _ _ ht _) ?_
  intro Z7
  refine er_loc (pc' := 7) rfl rfl rfl ?_
  refine er_loc (pc' := 8) rfl rfl rfl ?_
  refine er_gf (pc' := 11) (.int (X 51 2)) rfl rfl rfl rfl rfl ?_
  rw [hn]
  refine er_iadd (pc' := 12) rfl rfl ?_
  refine er_iret rfl rfl ?_
  exact RI_of (by dsimp only) (by dsimp only)
set_option maxRecDepth 100000 in
set_option maxHeartbeats 4000000 in
theorem l_v6 (c : Nat) (d : Nat) (X Z : Nat → Nat → Int32) (n m : Int32) (hn : X 51 2 = n) (hm : X 51 3 = m) (t : VT) (ht : t.1 ≤ 40) (x : Int32) : EC (d + 2) 6 [.ref c, .ref 51, .int x] (Wd (XT X t) Z) (RI (vPL m x t).1 (XT X (vPL m x t).2)) := by
  refine er_enter (L := [(0, _), (1, _), (2, _)]) rfl rfl rfl ?_
  unfold vPL
  refine er_loc (pc' := 1) rfl rfl rfl ?_
  refine er_k (pc' := 3) (nI 12) rfl rfl rfl ?_
  refine er_cIv (pc' := 6) (rest := []) 10 rfl rfl rfl rfl rfl rfl (l_begins _ _ _ _ ht _) ?_
  intro Z7
  refine er_loc (pc' := 7) rfl rfl rfl ?_
  refine er_loc (pc' := 8) rfl rfl rfl ?_
  refine er_gf (pc' := 11) (.int (X 51 3)) rfl rfl rfl rfl rfl ?_
  rw [hm]
  refine er_isub (pc' := 12) rfl rfl ?_
  refine er_iret rfl rfl ?_
  exact RI_of (by dsimp only) (by dsimp only)
set_option maxRecDepth 100000 in
set_option maxHeartbeats 4000000 in
theorem l_v11_1 (d : Nat) (X Z : Nat → Nat → Int32) (n m : Int32) (hn : X 51 2 = n) (hm : X 51 3 = m) (t : VT) (ht : t.1 ≤ 40) (x : Int32) : EC (d + 3) 11 [.ref 3, .ref 51, .int x] (Wd (XT X t) Z) (RI (vFits 1 n x t).1 (XT X (vFits 1 n x t).2)) := by
  refine er_enter (L := [(0, _), (1, _), (2, _)]) rfl rfl rfl ?_
  unfold vFits
  rw [if_pos (by omega)]
  refine er_loc (pc' := 1) rfl rfl rfl ?_
  refine er_k (pc' := 3) (nI 20) rfl rfl rfl ?_
  refine er_cIv (pc' := 6) (rest := []) 10 rfl rfl rfl rfl rfl rfl (l_begins _ _ _ _ ht _) ?_
  intro Z7
  refine er_loc (pc' := 7) rfl rfl rfl ?_
  refine er_loc (pc' := 8) rfl rfl rfl ?_
  refine er_loc (pc' := 9) rfl rfl rfl ?_
  refine er_cIz (pc' := 12) (rest := []) 1 rfl rfl rfl rfl rfl rfl (l_v5 _ _ _ _ n m hn hm _ (bg_le ht) _) ?_
  intro Z2
  refine er_k (pc' := 13) (nI 3) rfl rfl rfl ?_
  refine er_imul (pc' := 14) rfl rfl ?_
  refine er_iret rfl rfl ?_
  exact RI_of (by dsimp only) (by dsimp only)
set_option maxRecDepth 100000 in
set_option maxHeartbeats 4000000 in
theorem l_v11_4 (d : Nat) (X Z : Nat → Nat → Int32) (n m : Int32) (hn : X 51 2 = n) (hm : X 51 3 = m) (t : VT) (ht : t.1 ≤ 40) (x : Int32) : EC (d + 3) 11 [.ref 6, .ref 51, .int x] (Wd (XT X t) Z) (RI (vFits 4 n x t).1 (XT X (vFits 4 n x t).2)) := by
  refine er_enter (L := [(0, _), (1, _), (2, _)]) rfl rfl rfl ?_
  unfold vFits
  rw [if_pos (by omega)]
  refine er_loc (pc' := 1) rfl rfl rfl ?_
  refine er_k (pc' := 3) (nI 20) rfl rfl rfl ?_
  refine er_cIv (pc' := 6) (rest := []) 10 rfl rfl rfl rfl rfl rfl (l_begins _ _ _ _ ht _) ?_
  intro Z7
  refine er_loc (pc' := 7) rfl rfl rfl ?_
  refine er_loc (pc' := 8) rfl rfl rfl ?_
  refine er_loc (pc' := 9) rfl rfl rfl ?_
  refine er_cIz (pc' := 12) (rest := []) 4 rfl rfl rfl rfl rfl rfl (l_v5 _ _ _ _ n m hn hm _ (bg_le ht) _) ?_
  intro Z2
  refine er_k (pc' := 13) (nI 3) rfl rfl rfl ?_
  refine er_imul (pc' := 14) rfl rfl ?_
  refine er_iret rfl rfl ?_
  exact RI_of (by dsimp only) (by dsimp only)
def tgF (q : Nat) : Nat := if q = 1 ∨ q = 4 then 11 else 5
theorem l_vFits (d q : Nat) (hq : q < 7) (X Z : Nat → Nat → Int32) (n m : Int32) (hn : X 51 2 = n) (hm : X 51 3 = m) (t : VT) (ht : t.1 ≤ 40) (x : Int32) : EC (d + 3) (tgF q) [.ref (2 + q), .ref 51, .int x] (Wd (XT X t) Z) (RI (vFits q n x t).1 (XT X (vFits q n x t).2)) := by
  rcases lt7 hq with rfl | rfl | rfl | rfl | rfl | rfl | rfl
  · rw [show vFits 0 n x t = vPF n x t from if_neg (by omega)]; exact l_v5 (2 + 0) (d + 1) X Z n m hn hm t ht x
  · exact l_v11_1 d X Z n m hn hm t ht x
  · rw [show vFits 2 n x t = vPF n x t from if_neg (by omega)]; exact l_v5 (2 + 2) (d + 1) X Z n m hn hm t ht x
  · rw [show vFits 3 n x t = vPF n x t from if_neg (by omega)]; exact l_v5 (2 + 3) (d + 1) X Z n m hn hm t ht x
  · exact l_v11_4 d X Z n m hn hm t ht x
  · rw [show vFits 5 n x t = vPF n x t from if_neg (by omega)]; exact l_v5 (2 + 5) (d + 1) X Z n m hn hm t ht x
  · rw [show vFits 6 n x t = vPF n x t from if_neg (by omega)]; exact l_v5 (2 + 6) (d + 1) X Z n m hn hm t ht x
set_option maxRecDepth 100000 in
set_option maxHeartbeats 4000000 in
theorem l_v7_0 (d : Nat) (X Z : Nat → Nat → Int32) (n m : Int32) (hn : X 51 2 = n) (hm : X 51 3 = m) (t : VT) (ht : t.1 ≤ 40) (x : Int32) : EC (d + 4) 7 [.ref 2, .ref 51, .int x] (Wd (XT X t) Z) (RI (vPE 0 n x t).1 (XT X (vPE 0 n x t).2)) := by
  refine er_enter (L := [(0, _), (1, _), (2, _)]) rfl rfl rfl ?_
  unfold vPE
  refine er_loc (pc' := 1) rfl rfl rfl ?_
  refine er_k (pc' := 3) (nI 11) rfl rfl rfl ?_
  refine er_cIv (pc' := 6) (rest := []) 10 rfl rfl rfl rfl rfl rfl (l_begins _ _ _ _ ht _) ?_
  intro Z7
  refine er_loc (pc' := 7) rfl rfl rfl ?_
  refine er_loc (pc' := 8) rfl rfl rfl ?_
  refine er_loc (pc' := 9) rfl rfl rfl ?_
  refine er_cIz (pc' := 12) (rest := []) 0 rfl rfl rfl rfl rfl rfl (l_vFits _ 0 (by omega) _ _ n m hn hm _ (bg_le ht) _) ?_
  intro Z2
  refine er_k (pc' := 13) (nI 2) rfl rfl rfl ?_
  refine er_imul (pc' := 14) rfl rfl ?_
  refine er_iret rfl rfl ?_
  exact RI_of (by dsimp only) (by dsimp only)
set_option maxRecDepth 100000 in
set_option maxHeartbeats 4000000 in
theorem l_v7_1 (d : Nat) (X Z : Nat → Nat → Int32) (n m : Int32) (hn : X 51 2 = n) (hm : X 51 3 = m) (t : VT) (ht : t.1 ≤ 40) (x : Int32) : EC (d + 4) 7 [.ref 3, .ref 51, .int x] (Wd (XT X t) Z) (RI (vPE 1 n x t).1 (XT X (vPE 1 n x t).2)) := by
  refine er_enter (L := [(0, _), (1, _), (2, _)]) rfl rfl rfl ?_
  unfold vPE
  refine er_loc (pc' := 1) rfl rfl rfl ?_
  refine er_k (pc' := 3) (nI 11) rfl rfl rfl ?_
  refine er_cIv (pc' := 6) (rest := []) 10 rfl rfl rfl rfl rfl rfl (l_begins _ _ _ _ ht _) ?_
  intro Z7
  refine er_loc (pc' := 7) rfl rfl rfl ?_
  refine er_loc (pc' := 8) rfl rfl rfl ?_
  refine er_loc (pc' := 9) rfl rfl rfl ?_
  refine er_cIz (pc' := 12) (rest := []) 1 rfl rfl rfl rfl rfl rfl (l_vFits _ 1 (by omega) _ _ n m hn hm _ (bg_le ht) _) ?_
  intro Z2
  refine er_k (pc' := 13) (nI 2) rfl rfl rfl ?_
  refine er_imul (pc' := 14) rfl rfl ?_
  refine er_iret rfl rfl ?_
  exact RI_of (by dsimp only) (by dsimp only)
set_option maxRecDepth 100000 in
set_option maxHeartbeats 4000000 in
theorem l_v7_2 (d : Nat) (X Z : Nat → Nat → Int32) (n m : Int32) (hn : X 51 2 = n) (hm : X 51 3 = m) (t : VT) (ht : t.1 ≤ 40) (x : Int32) : EC (d + 4) 7 [.ref 4, .ref 51, .int x] (Wd (XT X t) Z) (RI (vPE 2 n x t).1 (XT X (vPE 2 n x t).2)) := by
  refine er_enter (L := [(0, _), (1, _), (2, _)]) rfl rfl rfl ?_
  unfold vPE
  refine er_loc (pc' := 1) rfl rfl rfl ?_
  refine er_k (pc' := 3) (nI 11) rfl rfl rfl ?_
  refine er_cIv (pc' := 6) (rest := []) 10 rfl rfl rfl rfl rfl rfl (l_begins _ _ _ _ ht _) ?_
  intro Z7
  refine er_loc (pc' := 7) rfl rfl rfl ?_
  refine er_loc (pc' := 8) rfl rfl rfl ?_
  refine er_loc (pc' := 9) rfl rfl rfl ?_
  refine er_cIz (pc' := 12) (rest := []) 2 rfl rfl rfl rfl rfl rfl (l_vFits _ 2 (by omega) _ _ n m hn hm _ (bg_le ht) _) ?_
  intro Z2
  refine er_k (pc' := 13) (nI 2) rfl rfl rfl ?_
  refine er_imul (pc' := 14) rfl rfl ?_
  refine er_iret rfl rfl ?_
  exact RI_of (by dsimp only) (by dsimp only)
set_option maxRecDepth 100000 in
set_option maxHeartbeats 4000000 in
theorem l_v7_3 (d : Nat) (X Z : Nat → Nat → Int32) (n m : Int32) (hn : X 51 2 = n) (hm : X 51 3 = m) (t : VT) (ht : t.1 ≤ 40) (x : Int32) : EC (d + 4) 7 [.ref 5, .ref 51, .int x] (Wd (XT X t) Z) (RI (vPE 3 n x t).1 (XT X (vPE 3 n x t).2)) := by
  refine er_enter (L := [(0, _), (1, _), (2, _)]) rfl rfl rfl ?_
  unfold vPE
  refine er_loc (pc' := 1) rfl rfl rfl ?_
  refine er_k (pc' := 3) (nI 11) rfl rfl rfl ?_
  refine er_cIv (pc' := 6) (rest := []) 10 rfl rfl rfl rfl rfl rfl (l_begins _ _ _ _ ht _) ?_
  intro Z7
  refine er_loc (pc' := 7) rfl rfl rfl ?_
  refine er_loc (pc' := 8) rfl rfl rfl ?_
  refine er_loc (pc' := 9) rfl rfl rfl ?_
  refine er_cIz (pc' := 12) (rest := []) 3 rfl rfl rfl rfl rfl rfl (l_vFits _ 3 (by omega) _ _ n m hn hm _ (bg_le ht) _) ?_
  intro Z2
  refine er_k (pc' := 13) (nI 2) rfl rfl rfl ?_
  refine er_imul (pc' := 14) rfl rfl ?_
  refine er_iret rfl rfl ?_
  exact RI_of (by dsimp only) (by dsimp only)
set_option maxRecDepth 100000 in
set_option maxHeartbeats 4000000 in
theorem l_v7_4 (d : Nat) (X Z : Nat → Nat → Int32) (n m : Int32) (hn : X 51 2 = n) (hm : X 51 3 = m) (t : VT) (ht : t.1 ≤ 40) (x : Int32) : EC (d + 4) 7 [.ref 6, .ref 51, .int x] (Wd (XT X t) Z) (RI (vPE 4 n x t).1 (XT X (vPE 4 n x t).2)) := by
  refine er_enter (L := [(0, _), (1, _), (2, _)]) rfl rfl rfl ?_
  unfold vPE
  refine er_loc (pc' := 1) rfl rfl rfl ?_
  refine er_k (pc' := 3) (nI 11) rfl rfl rfl ?_
  refine er_cIv (pc' := 6) (rest := []) 10 rfl rfl rfl rfl rfl rfl (l_begins _ _ _ _ ht _) ?_
  intro Z7
  refine er_loc (pc' := 7) rfl rfl rfl ?_
  refine er_loc (pc' := 8) rfl rfl rfl ?_
  refine er_loc (pc' := 9) rfl rfl rfl ?_
  refine er_cIz (pc' := 12) (rest := []) 4 rfl rfl rfl rfl rfl rfl (l_vFits _ 4 (by omega) _ _ n m hn hm _ (bg_le ht) _) ?_
  intro Z2
  refine er_k (pc' := 13) (nI 2) rfl rfl rfl ?_
  refine er_imul (pc' := 14) rfl rfl ?_
  refine er_iret rfl rfl ?_
  exact RI_of (by dsimp only) (by dsimp only)
set_option maxRecDepth 100000 in
set_option maxHeartbeats 4000000 in
theorem l_v7_5 (d : Nat) (X Z : Nat → Nat → Int32) (n m : Int32) (hn : X 51 2 = n) (hm : X 51 3 = m) (t : VT) (ht : t.1 ≤ 40) (x : Int32) : EC (d + 4) 7 [.ref 7, .ref 51, .int x] (Wd (XT X t) Z) (RI (vPE 5 n x t).1 (XT X (vPE 5 n x t).2)) := by
  refine er_enter (L := [(0, _), (1, _), (2, _)]) rfl rfl rfl ?_
  unfold vPE
  refine er_loc (pc' := 1) rfl rfl rfl ?_
  refine er_k (pc' := 3) (nI 11) rfl rfl rfl ?_
  refine er_cIv (pc' := 6) (rest := []) 10 rfl rfl rfl rfl rfl rfl (l_begins _ _ _ _ ht _) ?_
  intro Z7
  refine er_loc (pc' := 7) rfl rfl rfl ?_
  refine er_loc (pc' := 8) rfl rfl rfl ?_
  refine er_loc (pc' := 9) rfl rfl rfl ?_
  refine er_cIz (pc' := 12) (rest := []) 5 rfl rfl rfl rfl rfl rfl (l_vFits _ 5 (by omega) _ _ n m hn hm _ (bg_le ht) _) ?_
  intro Z2
  refine er_k (pc' := 13) (nI 2) rfl rfl rfl ?_
  refine er_imul (pc' := 14) rfl rfl ?_
  refine er_iret rfl rfl ?_
  exact RI_of (by dsimp only) (by dsimp only)
set_option maxRecDepth 100000 in
set_option maxHeartbeats 4000000 in
theorem l_v7_6 (d : Nat) (X Z : Nat → Nat → Int32) (n m : Int32) (hn : X 51 2 = n) (hm : X 51 3 = m) (t : VT) (ht : t.1 ≤ 40) (x : Int32) : EC (d + 4) 7 [.ref 8, .ref 51, .int x] (Wd (XT X t) Z) (RI (vPE 6 n x t).1 (XT X (vPE 6 n x t).2)) := by
  refine er_enter (L := [(0, _), (1, _), (2, _)]) rfl rfl rfl ?_
  unfold vPE
  refine er_loc (pc' := 1) rfl rfl rfl ?_
  refine er_k (pc' := 3) (nI 11) rfl rfl rfl ?_
  refine er_cIv (pc' := 6) (rest := []) 10 rfl rfl rfl rfl rfl rfl (l_begins _ _ _ _ ht _) ?_
  intro Z7
  refine er_loc (pc' := 7) rfl rfl rfl ?_
  refine er_loc (pc' := 8) rfl rfl rfl ?_
  refine er_loc (pc' := 9) rfl rfl rfl ?_
  refine er_cIz (pc' := 12) (rest := []) 6 rfl rfl rfl rfl rfl rfl (l_vFits _ 6 (by omega) _ _ n m hn hm _ (bg_le ht) _) ?_
  intro Z2
  refine er_k (pc' := 13) (nI 2) rfl rfl rfl ?_
  refine er_imul (pc' := 14) rfl rfl ?_
  refine er_iret rfl rfl ?_
  exact RI_of (by dsimp only) (by dsimp only)
set_option maxRecDepth 100000 in
set_option maxHeartbeats 4000000 in
theorem l_v19_3 (d : Nat) (X Z : Nat → Nat → Int32) (n m : Int32) (hn : X 51 2 = n) (hm : X 51 3 = m) (t : VT) (ht : t.1 ≤ 40) (x : Int32) : EC (d + 3) 19 [.ref 5, .ref 51, .int x] (Wd (XT X t) Z) (RI (vHL m x t).1 (XT X (vHL m x t).2)) := by
  refine er_enter (L := [(0, _), (1, _), (2, _)]) rfl rfl rfl ?_
  unfold vHL
  refine er_loc (pc' := 1) rfl rfl rfl ?_
  refine er_k (pc' := 3) (nI 40) rfl rfl rfl ?_
  refine er_cIv (pc' := 6) (rest := []) 10 rfl rfl rfl rfl rfl rfl (l_begins _ _ _ _ ht _) ?_
  intro Z7
  refine er_loc (pc' := 7) rfl rfl rfl ?_
  refine er_loc (pc' := 8) rfl rfl rfl ?_
  refine er_loc (pc' := 9) rfl rfl rfl ?_
  refine er_cIz (pc' := 12) (rest := []) 3 rfl rfl rfl rfl rfl rfl (l_v6 _ _ _ _ n m hn hm _ (bg_le ht) _) ?_
  intro Z2
  refine er_ineg (pc' := 13) rfl rfl ?_
  refine er_iret rfl rfl ?_
  exact RI_of (by dsimp only) (by dsimp only)
set_option maxRecDepth 100000 in
set_option maxHeartbeats 4000000 in
theorem l_v19_6 (d : Nat) (X Z : Nat → Nat → Int32) (n m : Int32) (hn : X 51 2 = n) (hm : X 51 3 = m) (t : VT) (ht : t.1 ≤ 40) (x : Int32) : EC (d + 3) 19 [.ref 8, .ref 51, .int x] (Wd (XT X t) Z) (RI (vHL m x t).1 (XT X (vHL m x t).2)) := by
  refine er_enter (L := [(0, _), (1, _), (2, _)]) rfl rfl rfl ?_
  unfold vHL
  refine er_loc (pc' := 1) rfl rfl rfl ?_
  refine er_k (pc' := 3) (nI 40) rfl rfl rfl ?_
  refine er_cIv (pc' := 6) (rest := []) 10 rfl rfl rfl rfl rfl rfl (l_begins _ _ _ _ ht _) ?_
  intro Z7
  refine er_loc (pc' := 7) rfl rfl rfl ?_
  refine er_loc (pc' := 8) rfl rfl rfl ?_
  refine er_loc (pc' := 9) rfl rfl rfl ?_
  refine er_cIz (pc' := 12) (rest := []) 6 rfl rfl rfl rfl rfl rfl (l_v6 _ _ _ _ n m hn hm _ (bg_le ht) _) ?_
  intro Z2
  refine er_ineg (pc' := 13) rfl rfl ?_
  refine er_iret rfl rfl ?_
  exact RI_of (by dsimp only) (by dsimp only)
set_option maxRecDepth 100000 in
set_option maxHeartbeats 4000000 in
theorem l_v29 (d : Nat) (X Z : Nat → Nat → Int32) (n m : Int32) (hn : X 51 2 = n) (hm : X 51 3 = m) (t : VT) (ht : t.1 ≤ 40) (x : Int32) : EC (d + 4) 29 [.ref 8, .ref 51, .int x] (Wd (XT X t) Z) (RI (vLooks 6 n m x t).1 (XT X (vLooks 6 n m x t).2)) := by
  refine er_enter (L := [(0, _), (1, _), (2, _)]) rfl rfl rfl ?_
  unfold vLooks
  rw [if_neg (by omega), if_pos rfl]
  refine er_loc (pc' := 1) rfl rfl rfl ?_
  refine er_k (pc' := 3) (nI 70) rfl rfl rfl ?_
  refine er_cIv (pc' := 6) (rest := []) 10 rfl rfl rfl rfl rfl rfl (l_begins _ _ _ _ ht _) ?_
  intro Z7
  refine er_loc (pc' := 7) rfl rfl rfl ?_
  refine er_loc (pc' := 8) rfl rfl rfl ?_
  refine er_loc (pc' := 9) rfl rfl rfl ?_
  refine er_cIz (pc' := 12) (rest := []) 6 rfl rfl rfl rfl rfl rfl (l_v19_6 _ _ _ n m hn hm _ (bg_le ht) _) ?_
  intro Z2
  refine er_loc (pc' := 13) rfl rfl rfl ?_
  refine er_gf (pc' := 16) (.int (X 51 2)) rfl rfl rfl rfl rfl ?_
  rw [hn]
  refine er_ixor (pc' := 17) rfl rfl ?_
  refine er_iret rfl rfl ?_
  exact RI_of (by dsimp only) (by dsimp only)
def tgK (q : Nat) : Nat := if q = 3 then 19 else if q = 6 then 29 else 6
theorem l_vLooks (d q : Nat) (hq : q < 7) (X Z : Nat → Nat → Int32) (n m : Int32) (hn : X 51 2 = n) (hm : X 51 3 = m) (t : VT) (ht : t.1 ≤ 40) (x : Int32) : EC (d + 4) (tgK q) [.ref (2 + q), .ref 51, .int x] (Wd (XT X t) Z) (RI (vLooks q n m x t).1 (XT X (vLooks q n m x t).2)) := by
  rcases lt7 hq with rfl | rfl | rfl | rfl | rfl | rfl | rfl
  · rw [show vLooks 0 n m x t = vPL m x t from by unfold vLooks; rw [if_neg (by omega), if_neg (by omega)]]; exact l_v6 (2 + 0) (d + 2) X Z n m hn hm t ht x
  · rw [show vLooks 1 n m x t = vPL m x t from by unfold vLooks; rw [if_neg (by omega), if_neg (by omega)]]; exact l_v6 (2 + 1) (d + 2) X Z n m hn hm t ht x
  · rw [show vLooks 2 n m x t = vPL m x t from by unfold vLooks; rw [if_neg (by omega), if_neg (by omega)]]; exact l_v6 (2 + 2) (d + 2) X Z n m hn hm t ht x
  · rw [show vLooks 3 n m x t = vHL m x t from if_pos rfl]; exact l_v19_3 (d + 1) X Z n m hn hm t ht x
  · rw [show vLooks 4 n m x t = vPL m x t from by unfold vLooks; rw [if_neg (by omega), if_neg (by omega)]]; exact l_v6 (2 + 4) (d + 2) X Z n m hn hm t ht x
  · rw [show vLooks 5 n m x t = vPL m x t from by unfold vLooks; rw [if_neg (by omega), if_neg (by omega)]]; exact l_v6 (2 + 5) (d + 2) X Z n m hn hm t ht x
  · exact l_v29 d X Z n m hn hm t ht x
set_option maxRecDepth 100000 in
set_option maxHeartbeats 4000000 in
theorem l_v15_2 (d : Nat) (X Z : Nat → Nat → Int32) (n m : Int32) (hn : X 51 2 = n) (hm : X 51 3 = m) (t : VT) (ht : t.1 ≤ 40) (x : Int32) : EC (d + 5) 15 [.ref 4, .ref 51, .int x] (Wd (XT X t) Z) (RI (vGE 2 n m x t).1 (XT X (vGE 2 n m x t).2)) := by
  refine er_enter (L := [(0, _), (1, _), (2, _)]) rfl rfl rfl ?_
  unfold vGE
  refine er_loc (pc' := 1) rfl rfl rfl ?_
  refine er_k (pc' := 3) (nI 30) rfl rfl rfl ?_
  refine er_cIv (pc' := 6) (rest := []) 10 rfl rfl rfl rfl rfl rfl (l_begins _ _ _ _ ht _) ?_
  intro Z7
  refine er_loc (pc' := 7) rfl rfl rfl ?_
  refine er_loc (pc' := 8) rfl rfl rfl ?_
  refine er_loc (pc' := 9) rfl rfl rfl ?_
  refine er_cIz (pc' := 12) (rest := []) 2 rfl rfl rfl rfl rfl rfl (l_v7_2 _ _ _ n m hn hm _ (bg_le ht) _) ?_
  intro Z2
  refine er_loc (pc' := 13) rfl rfl rfl ?_
  refine er_loc (pc' := 14) rfl rfl rfl ?_
  refine er_k (pc' := 15) (nI 1) rfl rfl rfl ?_
  refine er_cIz (pc' := 18) (rest := [_]) 2 rfl rfl rfl rfl rfl rfl (l_vLooks _ 2 (by omega) _ _ n m hn hm _ (vPE_le (q := 2) (n := n) (x := x) (bg_le ht)) _) ?_
  intro Z3
  refine er_isub (pc' := 19) rfl rfl ?_
  refine er_iret rfl rfl ?_
  exact RI_of (by dsimp only) (by dsimp only)
set_option maxRecDepth 100000 in
set_option maxHeartbeats 4000000 in
theorem l_v15_5 (d : Nat) (X Z : Nat → Nat → Int32) (n m : Int32) (hn : X 51 2 = n) (hm : X 51 3 = m) (t : VT) (ht : t.1 ≤ 40) (x : Int32) : EC (d + 5) 15 [.ref 7, .ref 51, .int x] (Wd (XT X t) Z) (RI (vGE 5 n m x t).1 (XT X (vGE 5 n m x t).2)) := by
  refine er_enter (L := [(0, _), (1, _), (2, _)]) rfl rfl rfl ?_
  unfold vGE
  refine er_loc (pc' := 1) rfl rfl rfl ?_
  refine er_k (pc' := 3) (nI 30) rfl rfl rfl ?_
  refine er_cIv (pc' := 6) (rest := []) 10 rfl rfl rfl rfl rfl rfl (l_begins _ _ _ _ ht _) ?_
  intro Z7
  refine er_loc (pc' := 7) rfl rfl rfl ?_
  refine er_loc (pc' := 8) rfl rfl rfl ?_
  refine er_loc (pc' := 9) rfl rfl rfl ?_
  refine er_cIz (pc' := 12) (rest := []) 5 rfl rfl rfl rfl rfl rfl (l_v7_5 _ _ _ n m hn hm _ (bg_le ht) _) ?_
  intro Z2
  refine er_loc (pc' := 13) rfl rfl rfl ?_
  refine er_loc (pc' := 14) rfl rfl rfl ?_
  refine er_k (pc' := 15) (nI 1) rfl rfl rfl ?_
  refine er_cIz (pc' := 18) (rest := [_]) 5 rfl rfl rfl rfl rfl rfl (l_vLooks _ 5 (by omega) _ _ n m hn hm _ (vPE_le (q := 5) (n := n) (x := x) (bg_le ht)) _) ?_
  intro Z3
  refine er_isub (pc' := 19) rfl rfl ?_
  refine er_iret rfl rfl ?_
  exact RI_of (by dsimp only) (by dsimp only)
set_option maxRecDepth 100000 in
set_option maxHeartbeats 4000000 in
theorem l_v25 (d : Nat) (X Z : Nat → Nat → Int32) (n m : Int32) (hn : X 51 2 = n) (hm : X 51 3 = m) (t : VT) (ht : t.1 ≤ 40) (x : Int32) : EC (d + 6) 25 [.ref 7, .ref 51, .int x] (Wd (XT X t) Z) (RI (vErrs 5 n m x t).1 (XT X (vErrs 5 n m x t).2)) := by
  refine er_enter (L := [(0, _), (1, _), (2, _)]) rfl rfl rfl ?_
  unfold vErrs
  rw [if_neg (by omega), if_pos rfl]
  refine er_loc (pc' := 1) rfl rfl rfl ?_
  refine er_k (pc' := 3) (nI 60) rfl rfl rfl ?_
  refine er_cIv (pc' := 6) (rest := []) 10 rfl rfl rfl rfl rfl rfl (l_begins _ _ _ _ ht _) ?_
  intro Z7
  refine er_loc (pc' := 7) rfl rfl rfl ?_
  refine er_loc (pc' := 8) rfl rfl rfl ?_
  refine er_loc (pc' := 9) rfl rfl rfl ?_
  refine er_k (pc' := 10) (nI 1) rfl rfl rfl ?_
  refine er_iadd (pc' := 11) rfl rfl ?_
  refine er_cIz (pc' := 14) (rest := []) 5 rfl rfl rfl rfl rfl rfl (l_v15_5 _ _ _ n m hn hm _ (bg_le ht) _) ?_
  intro Z2
  refine er_iret rfl rfl ?_
  exact RI_of (by dsimp only) (by dsimp only)
def tgE (q : Nat) : Nat := if q = 2 then 15 else if q = 5 then 25 else 7
theorem l_vErrs (d q : Nat) (hq : q < 7) (X Z : Nat → Nat → Int32) (n m : Int32) (hn : X 51 2 = n) (hm : X 51 3 = m) (t : VT) (ht : t.1 ≤ 40) (x : Int32) : EC (d + 6) (tgE q) [.ref (2 + q), .ref 51, .int x] (Wd (XT X t) Z) (RI (vErrs q n m x t).1 (XT X (vErrs q n m x t).2)) := by
  rcases lt7 hq with rfl | rfl | rfl | rfl | rfl | rfl | rfl
  · rw [show vErrs 0 n m x t = vPE 0 n x t from by unfold vErrs; rw [if_neg (by omega), if_neg (by omega)]]; exact l_v7_0 (d + 2) X Z n m hn hm t ht x
  · rw [show vErrs 1 n m x t = vPE 1 n x t from by unfold vErrs; rw [if_neg (by omega), if_neg (by omega)]]; exact l_v7_1 (d + 2) X Z n m hn hm t ht x
  · rw [show vErrs 2 n m x t = vGE 2 n m x t from if_pos rfl]; exact l_v15_2 (d + 1) X Z n m hn hm t ht x
  · rw [show vErrs 3 n m x t = vPE 3 n x t from by unfold vErrs; rw [if_neg (by omega), if_neg (by omega)]]; exact l_v7_3 (d + 2) X Z n m hn hm t ht x
  · rw [show vErrs 4 n m x t = vPE 4 n x t from by unfold vErrs; rw [if_neg (by omega), if_neg (by omega)]]; exact l_v7_4 (d + 2) X Z n m hn hm t ht x
  · exact l_v25 d X Z n m hn hm t ht x
  · rw [show vErrs 6 n m x t = vPE 6 n x t from by unfold vErrs; rw [if_neg (by omega), if_neg (by omega)]]; exact l_v7_6 (d + 2) X Z n m hn hm t ht x
set_option maxRecDepth 100000 in
set_option maxHeartbeats 4000000 in
theorem l_v8_0 (d : Nat) (X Z : Nat → Nat → Int32) (n m : Int32) (hn : X 51 2 = n) (hm : X 51 3 = m) (t : VT) (ht : t.1 ≤ 40) (x : Int32) : EC (d + 7) 8 [.ref 2, .ref 51, .int x] (Wd (XT X t) Z) (RI (vPU 0 n m x t).1 (XT X (vPU 0 n m x t).2)) := by
  refine er_enter (L := [(0, _), (1, _), (2, _)]) rfl rfl rfl ?_
  unfold vPU
  refine er_loc (pc' := 1) rfl rfl rfl ?_
  refine er_k (pc' := 3) (nI 13) rfl rfl rfl ?_
  refine er_cIv (pc' := 6) (rest := []) 10 rfl rfl rfl rfl rfl rfl (l_begins _ _ _ _ ht _) ?_
  intro Z7
  refine er_loc (pc' := 7) rfl rfl rfl ?_
  refine er_loc (pc' := 8) rfl rfl rfl ?_
  refine er_loc (pc' := 9) rfl rfl rfl ?_
  refine er_cIz (pc' := 12) (rest := []) 0 rfl rfl rfl rfl rfl rfl (l_vErrs _ 0 (by omega) _ _ n m hn hm _ (bg_le ht) _) ?_
  intro Z2
  refine er_loc (pc' := 13) rfl rfl rfl ?_
  refine er_loc (pc' := 14) rfl rfl rfl ?_
  refine er_loc (pc' := 15) rfl rfl rfl ?_
  refine er_cIz (pc' := 18) (rest := [_]) 0 rfl rfl rfl rfl rfl rfl (l_vLooks _ 0 (by omega) _ _ n m hn hm _ (vErrs_le (q := 0) (n := n) (m := m) (x := x) (bg_le ht)) _) ?_
  intro Z3
  refine er_ixor (pc' := 19) rfl rfl ?_
  refine er_iret rfl rfl ?_
  exact RI_of (by dsimp only) (by dsimp only)
set_option maxRecDepth 100000 in
set_option maxHeartbeats 4000000 in
theorem l_v8_1 (d : Nat) (X Z : Nat → Nat → Int32) (n m : Int32) (hn : X 51 2 = n) (hm : X 51 3 = m) (t : VT) (ht : t.1 ≤ 40) (x : Int32) : EC (d + 7) 8 [.ref 3, .ref 51, .int x] (Wd (XT X t) Z) (RI (vPU 1 n m x t).1 (XT X (vPU 1 n m x t).2)) := by
  refine er_enter (L := [(0, _), (1, _), (2, _)]) rfl rfl rfl ?_
  unfold vPU
  refine er_loc (pc' := 1) rfl rfl rfl ?_
  refine er_k (pc' := 3) (nI 13) rfl rfl rfl ?_
  refine er_cIv (pc' := 6) (rest := []) 10 rfl rfl rfl rfl rfl rfl (l_begins _ _ _ _ ht _) ?_
  intro Z7
  refine er_loc (pc' := 7) rfl rfl rfl ?_
  refine er_loc (pc' := 8) rfl rfl rfl ?_
  refine er_loc (pc' := 9) rfl rfl rfl ?_
  refine er_cIz (pc' := 12) (rest := []) 1 rfl rfl rfl rfl rfl rfl (l_vErrs _ 1 (by omega) _ _ n m hn hm _ (bg_le ht) _) ?_
  intro Z2
  refine er_loc (pc' := 13) rfl rfl rfl ?_
  refine er_loc (pc' := 14) rfl rfl rfl ?_
  refine er_loc (pc' := 15) rfl rfl rfl ?_
  refine er_cIz (pc' := 18) (rest := [_]) 1 rfl rfl rfl rfl rfl rfl (l_vLooks _ 1 (by omega) _ _ n m hn hm _ (vErrs_le (q := 1) (n := n) (m := m) (x := x) (bg_le ht)) _) ?_
  intro Z3
  refine er_ixor (pc' := 19) rfl rfl ?_
  refine er_iret rfl rfl ?_
  exact RI_of (by dsimp only) (by dsimp only)
set_option maxRecDepth 100000 in
set_option maxHeartbeats 4000000 in
theorem l_v8_2 (d : Nat) (X Z : Nat → Nat → Int32) (n m : Int32) (hn : X 51 2 = n) (hm : X 51 3 = m) (t : VT) (ht : t.1 ≤ 40) (x : Int32) : EC (d + 7) 8 [.ref 4, .ref 51, .int x] (Wd (XT X t) Z) (RI (vPU 2 n m x t).1 (XT X (vPU 2 n m x t).2)) := by
  refine er_enter (L := [(0, _), (1, _), (2, _)]) rfl rfl rfl ?_
  unfold vPU
  refine er_loc (pc' := 1) rfl rfl rfl ?_
  refine er_k (pc' := 3) (nI 13) rfl rfl rfl ?_
  refine er_cIv (pc' := 6) (rest := []) 10 rfl rfl rfl rfl rfl rfl (l_begins _ _ _ _ ht _) ?_
  intro Z7
  refine er_loc (pc' := 7) rfl rfl rfl ?_
  refine er_loc (pc' := 8) rfl rfl rfl ?_
  refine er_loc (pc' := 9) rfl rfl rfl ?_
  refine er_cIz (pc' := 12) (rest := []) 2 rfl rfl rfl rfl rfl rfl (l_vErrs _ 2 (by omega) _ _ n m hn hm _ (bg_le ht) _) ?_
  intro Z2
  refine er_loc (pc' := 13) rfl rfl rfl ?_
  refine er_loc (pc' := 14) rfl rfl rfl ?_
  refine er_loc (pc' := 15) rfl rfl rfl ?_
  refine er_cIz (pc' := 18) (rest := [_]) 2 rfl rfl rfl rfl rfl rfl (l_vLooks _ 2 (by omega) _ _ n m hn hm _ (vErrs_le (q := 2) (n := n) (m := m) (x := x) (bg_le ht)) _) ?_
  intro Z3
  refine er_ixor (pc' := 19) rfl rfl ?_
  refine er_iret rfl rfl ?_
  exact RI_of (by dsimp only) (by dsimp only)
set_option maxRecDepth 100000 in
set_option maxHeartbeats 4000000 in
theorem l_v8_3 (d : Nat) (X Z : Nat → Nat → Int32) (n m : Int32) (hn : X 51 2 = n) (hm : X 51 3 = m) (t : VT) (ht : t.1 ≤ 40) (x : Int32) : EC (d + 7) 8 [.ref 5, .ref 51, .int x] (Wd (XT X t) Z) (RI (vPU 3 n m x t).1 (XT X (vPU 3 n m x t).2)) := by
  refine er_enter (L := [(0, _), (1, _), (2, _)]) rfl rfl rfl ?_
  unfold vPU
  refine er_loc (pc' := 1) rfl rfl rfl ?_
  refine er_k (pc' := 3) (nI 13) rfl rfl rfl ?_
  refine er_cIv (pc' := 6) (rest := []) 10 rfl rfl rfl rfl rfl rfl (l_begins _ _ _ _ ht _) ?_
  intro Z7
  refine er_loc (pc' := 7) rfl rfl rfl ?_
  refine er_loc (pc' := 8) rfl rfl rfl ?_
  refine er_loc (pc' := 9) rfl rfl rfl ?_
  refine er_cIz (pc' := 12) (rest := []) 3 rfl rfl rfl rfl rfl rfl (l_vErrs _ 3 (by omega) _ _ n m hn hm _ (bg_le ht) _) ?_
  intro Z2
  refine er_loc (pc' := 13) rfl rfl rfl ?_
  refine er_loc (pc' := 14) rfl rfl rfl ?_
  refine er_loc (pc' := 15) rfl rfl rfl ?_
  refine er_cIz (pc' := 18) (rest := [_]) 3 rfl rfl rfl rfl rfl rfl (l_vLooks _ 3 (by omega) _ _ n m hn hm _ (vErrs_le (q := 3) (n := n) (m := m) (x := x) (bg_le ht)) _) ?_
  intro Z3
  refine er_ixor (pc' := 19) rfl rfl ?_
  refine er_iret rfl rfl ?_
  exact RI_of (by dsimp only) (by dsimp only)
set_option maxRecDepth 100000 in
set_option maxHeartbeats 4000000 in
theorem l_v8_4 (d : Nat) (X Z : Nat → Nat → Int32) (n m : Int32) (hn : X 51 2 = n) (hm : X 51 3 = m) (t : VT) (ht : t.1 ≤ 40) (x : Int32) : EC (d + 7) 8 [.ref 6, .ref 51, .int x] (Wd (XT X t) Z) (RI (vPU 4 n m x t).1 (XT X (vPU 4 n m x t).2)) := by
  refine er_enter (L := [(0, _), (1, _), (2, _)]) rfl rfl rfl ?_
  unfold vPU
  refine er_loc (pc' := 1) rfl rfl rfl ?_
  refine er_k (pc' := 3) (nI 13) rfl rfl rfl ?_
  refine er_cIv (pc' := 6) (rest := []) 10 rfl rfl rfl rfl rfl rfl (l_begins _ _ _ _ ht _) ?_
  intro Z7
  refine er_loc (pc' := 7) rfl rfl rfl ?_
  refine er_loc (pc' := 8) rfl rfl rfl ?_
  refine er_loc (pc' := 9) rfl rfl rfl ?_
  refine er_cIz (pc' := 12) (rest := []) 4 rfl rfl rfl rfl rfl rfl (l_vErrs _ 4 (by omega) _ _ n m hn hm _ (bg_le ht) _) ?_
  intro Z2
  refine er_loc (pc' := 13) rfl rfl rfl ?_
  refine er_loc (pc' := 14) rfl rfl rfl ?_
  refine er_loc (pc' := 15) rfl rfl rfl ?_
  refine er_cIz (pc' := 18) (rest := [_]) 4 rfl rfl rfl rfl rfl rfl (l_vLooks _ 4 (by omega) _ _ n m hn hm _ (vErrs_le (q := 4) (n := n) (m := m) (x := x) (bg_le ht)) _) ?_
  intro Z3
  refine er_ixor (pc' := 19) rfl rfl ?_
  refine er_iret rfl rfl ?_
  exact RI_of (by dsimp only) (by dsimp only)
set_option maxRecDepth 100000 in
set_option maxHeartbeats 4000000 in
theorem l_v8_5 (d : Nat) (X Z : Nat → Nat → Int32) (n m : Int32) (hn : X 51 2 = n) (hm : X 51 3 = m) (t : VT) (ht : t.1 ≤ 40) (x : Int32) : EC (d + 7) 8 [.ref 7, .ref 51, .int x] (Wd (XT X t) Z) (RI (vPU 5 n m x t).1 (XT X (vPU 5 n m x t).2)) := by
  refine er_enter (L := [(0, _), (1, _), (2, _)]) rfl rfl rfl ?_
  unfold vPU
  refine er_loc (pc' := 1) rfl rfl rfl ?_
  refine er_k (pc' := 3) (nI 13) rfl rfl rfl ?_
  refine er_cIv (pc' := 6) (rest := []) 10 rfl rfl rfl rfl rfl rfl (l_begins _ _ _ _ ht _) ?_
  intro Z7
  refine er_loc (pc' := 7) rfl rfl rfl ?_
  refine er_loc (pc' := 8) rfl rfl rfl ?_
  refine er_loc (pc' := 9) rfl rfl rfl ?_
  refine er_cIz (pc' := 12) (rest := []) 5 rfl rfl rfl rfl rfl rfl (l_vErrs _ 5 (by omega) _ _ n m hn hm _ (bg_le ht) _) ?_
  intro Z2
  refine er_loc (pc' := 13) rfl rfl rfl ?_
  refine er_loc (pc' := 14) rfl rfl rfl ?_
  refine er_loc (pc' := 15) rfl rfl rfl ?_
  refine er_cIz (pc' := 18) (rest := [_]) 5 rfl rfl rfl rfl rfl rfl (l_vLooks _ 5 (by omega) _ _ n m hn hm _ (vErrs_le (q := 5) (n := n) (m := m) (x := x) (bg_le ht)) _) ?_
  intro Z3
  refine er_ixor (pc' := 19) rfl rfl ?_
  refine er_iret rfl rfl ?_
  exact RI_of (by dsimp only) (by dsimp only)
set_option maxRecDepth 100000 in
set_option maxHeartbeats 4000000 in
theorem l_v8_6 (d : Nat) (X Z : Nat → Nat → Int32) (n m : Int32) (hn : X 51 2 = n) (hm : X 51 3 = m) (t : VT) (ht : t.1 ≤ 40) (x : Int32) : EC (d + 7) 8 [.ref 8, .ref 51, .int x] (Wd (XT X t) Z) (RI (vPU 6 n m x t).1 (XT X (vPU 6 n m x t).2)) := by
  refine er_enter (L := [(0, _), (1, _), (2, _)]) rfl rfl rfl ?_
  unfold vPU
  refine er_loc (pc' := 1) rfl rfl rfl ?_
  refine er_k (pc' := 3) (nI 13) rfl rfl rfl ?_
  refine er_cIv (pc' := 6) (rest := []) 10 rfl rfl rfl rfl rfl rfl (l_begins _ _ _ _ ht _) ?_
  intro Z7
  refine er_loc (pc' := 7) rfl rfl rfl ?_
  refine er_loc (pc' := 8) rfl rfl rfl ?_
  refine er_loc (pc' := 9) rfl rfl rfl ?_
  refine er_cIz (pc' := 12) (rest := []) 6 rfl rfl rfl rfl rfl rfl (l_vErrs _ 6 (by omega) _ _ n m hn hm _ (bg_le ht) _) ?_
  intro Z2
  refine er_loc (pc' := 13) rfl rfl rfl ?_
  refine er_loc (pc' := 14) rfl rfl rfl ?_
  refine er_loc (pc' := 15) rfl rfl rfl ?_
  refine er_cIz (pc' := 18) (rest := [_]) 6 rfl rfl rfl rfl rfl rfl (l_vLooks _ 6 (by omega) _ _ n m hn hm _ (vErrs_le (q := 6) (n := n) (m := m) (x := x) (bg_le ht)) _) ?_
  intro Z3
  refine er_ixor (pc' := 19) rfl rfl ?_
  refine er_iret rfl rfl ?_
  exact RI_of (by dsimp only) (by dsimp only)
set_option maxRecDepth 100000 in
set_option maxHeartbeats 4000000 in
theorem l_v22 (d : Nat) (X Z : Nat → Nat → Int32) (n m : Int32) (hn : X 51 2 = n) (hm : X 51 3 = m) (t : VT) (ht : t.1 ≤ 40) (x : Int32) : EC (d + 8) 22 [.ref 6, .ref 51, .int x] (Wd (XT X t) Z) (RI (vUndoes 4 n m x t).1 (XT X (vUndoes 4 n m x t).2)) := by
  refine er_enter (L := [(0, _), (1, _), (2, _)]) rfl rfl rfl ?_
  unfold vUndoes
  rw [if_pos rfl]
  refine er_loc (pc' := 1) rfl rfl rfl ?_
  refine er_k (pc' := 3) (nI 50) rfl rfl rfl ?_
  refine er_cIv (pc' := 6) (rest := []) 10 rfl rfl rfl rfl rfl rfl (l_begins _ _ _ _ ht _) ?_
  intro Z7
  refine er_loc (pc' := 7) rfl rfl rfl ?_
  refine er_loc (pc' := 8) rfl rfl rfl ?_
  refine er_loc (pc' := 9) rfl rfl rfl ?_
  refine er_cIz (pc' := 12) (rest := []) 4 rfl rfl rfl rfl rfl rfl (l_v8_4 _ _ _ n m hn hm _ (bg_le ht) _) ?_
  intro Z2
  refine er_loc (pc' := 13) rfl rfl rfl ?_
  refine er_loc (pc' := 14) rfl rfl rfl ?_
  refine er_k (pc' := 15) (nI 2) rfl rfl rfl ?_
  refine er_cIz (pc' := 18) (rest := [_]) 4 rfl rfl rfl rfl rfl rfl (l_vFits _ 4 (by omega) _ _ n m hn hm _ (vPU_le (q := 4) (n := n) (m := m) (x := x) (bg_le ht)) _) ?_
  intro Z3
  refine er_isub (pc' := 19) rfl rfl ?_
  refine er_iret rfl rfl ?_
  exact RI_of (by dsimp only) (by dsimp only)
set_option maxRecDepth 100000 in
set_option maxHeartbeats 4000000 in
theorem l_v30 (d : Nat) (X Z : Nat → Nat → Int32) (n m : Int32) (hn : X 51 2 = n) (hm : X 51 3 = m) (t : VT) (ht : t.1 ≤ 40) (x : Int32) : EC (d + 8) 30 [.ref 8, .ref 51, .int x] (Wd (XT X t) Z) (RI (vUndoes 6 n m x t).1 (XT X (vUndoes 6 n m x t).2)) := by
  refine er_enter (L := [(0, _), (1, _), (2, _)]) rfl rfl rfl ?_
  unfold vUndoes
  rw [if_neg (by omega), if_pos rfl]
  refine er_loc (pc' := 1) rfl rfl rfl ?_
  refine er_k (pc' := 3) (nI 71) rfl rfl rfl ?_
  refine er_cIv (pc' := 6) (rest := []) 10 rfl rfl rfl rfl rfl rfl (l_begins _ _ _ _ ht _) ?_
  intro Z7
  refine er_loc (pc' := 7) rfl rfl rfl ?_
  refine er_loc (pc' := 8) rfl rfl rfl ?_
  refine er_loc (pc' := 9) rfl rfl rfl ?_
  refine er_cIz (pc' := 12) (rest := []) 6 rfl rfl rfl rfl rfl rfl (l_vErrs _ 6 (by omega) _ _ n m hn hm _ (bg_le ht) _) ?_
  intro Z2
  refine er_loc (pc' := 13) rfl rfl rfl ?_
  refine er_loc (pc' := 14) rfl rfl rfl ?_
  refine er_loc (pc' := 15) rfl rfl rfl ?_
  refine er_cIz (pc' := 18) (rest := [_]) 6 rfl rfl rfl rfl rfl rfl (l_v8_6 _ _ _ n m hn hm _ (vErrs_le (q := 6) (n := n) (m := m) (x := x) (bg_le ht)) _) ?_
  intro Z3
  refine er_isub (pc' := 19) rfl rfl ?_
  refine er_iret rfl rfl ?_
  exact RI_of (by dsimp only) (by dsimp only)
def tgU (q : Nat) : Nat := if q = 4 then 22 else if q = 6 then 30 else 8
theorem l_vUndoes (d q : Nat) (hq : q < 7) (X Z : Nat → Nat → Int32) (n m : Int32) (hn : X 51 2 = n) (hm : X 51 3 = m) (t : VT) (ht : t.1 ≤ 40) (x : Int32) : EC (d + 8) (tgU q) [.ref (2 + q), .ref 51, .int x] (Wd (XT X t) Z) (RI (vUndoes q n m x t).1 (XT X (vUndoes q n m x t).2)) := by
  rcases lt7 hq with rfl | rfl | rfl | rfl | rfl | rfl | rfl
  · rw [show vUndoes 0 n m x t = vPU 0 n m x t from by unfold vUndoes; rw [if_neg (by omega), if_neg (by omega)]]; exact l_v8_0 (d + 1) X Z n m hn hm t ht x
  · rw [show vUndoes 1 n m x t = vPU 1 n m x t from by unfold vUndoes; rw [if_neg (by omega), if_neg (by omega)]]; exact l_v8_1 (d + 1) X Z n m hn hm t ht x
  · rw [show vUndoes 2 n m x t = vPU 2 n m x t from by unfold vUndoes; rw [if_neg (by omega), if_neg (by omega)]]; exact l_v8_2 (d + 1) X Z n m hn hm t ht x
  · rw [show vUndoes 3 n m x t = vPU 3 n m x t from by unfold vUndoes; rw [if_neg (by omega), if_neg (by omega)]]; exact l_v8_3 (d + 1) X Z n m hn hm t ht x
  · exact l_v22 d X Z n m hn hm t ht x
  · rw [show vUndoes 5 n m x t = vPU 5 n m x t from by unfold vUndoes; rw [if_neg (by omega), if_neg (by omega)]]; exact l_v8_5 (d + 1) X Z n m hn hm t ht x
  · exact l_v30 d X Z n m hn hm t ht x
def xStart (X : Nat → Nat → Int32) (n m : Int32) : Nat → Nat → Int32 := ud (ud (ud X 51 1 (nI 0)) 51 2 n) 51 3 m
theorem XT_id {X : Nat → Nat → Int32} {g : Nat} (h : X 51 1 = nI g) : XT X (g, X 52) = X := by
  unfold XT
  rw [uc_id, ← h, ud_id]
theorem XT_start {X : Nat → Nat → Int32} {n m : Int32} : XT (xStart X n m) (0, X 52) = xStart X n m := by
  have e : X 52 = xStart X n m 52 := by
    unfold xStart
    rw [ud_ne (by omega), ud_ne (by omega), ud_ne (by omega)]
  rw [e]
  exact XT_id rfl
def sVoice (q k : Nat) (m w x : Int32) (t : VT) : Int32 × VT := if w = 0 then vFits q (nI k) x t else if w = 1 then vErrs q (nI k) m x t else if w = 2 then vLooks q (nI k) m x t else vUndoes q (nI k) m x t
set_option maxRecDepth 100000 in
set_option maxHeartbeats 4000000 in
theorem l_start (d : Nat) (X Z : Nat → Nat → Int32) (n m : Int32) : EC (d + 1) 71 [.ref 51, .int n, .int m] (Wd X Z) (RV (xStart X n m)) := by
  refine er_enter (L := [(0, _), (1, _), (2, _)]) rfl rfl rfl ?_
  refine er_loc (pc' := 1) rfl rfl rfl ?_
  refine er_k (pc' := 2) (nI 0) rfl rfl rfl ?_
  refine er_pfIX (pc' := 5) 1 rfl rfl rfl rfl rfl rfl ?_
  refine er_loc (pc' := 6) rfl rfl rfl ?_
  refine er_loc (pc' := 7) rfl rfl rfl ?_
  refine er_pfIX (pc' := 10) 2 rfl rfl rfl rfl rfl rfl ?_
  refine er_loc (pc' := 11) rfl rfl rfl ?_
  refine er_loc (pc' := 12) rfl rfl rfl ?_
  refine er_pfIX (pc' := 15) 3 rfl rfl rfl rfl rfl rfl ?_
  refine er_vret rfl rfl ?_
  exact RV_of rfl
set_option maxRecDepth 100000 in
set_option maxHeartbeats 4000000 in
theorem l_voice (d : Nat) (X Z : Nat → Nat → Int32) {T : Nat} (hI : IJ T (jx X 9)) {k : Nat} (hk : k < jn (jx X 9)) (w x : Int32) : EC (d + 9) 110 [.ref 0, .int (nI k), .int w, .int x] (Wd X Z) (fun r => if sIn w (nI 0) (nI 3) = true then RI (sVoice (sKind (jx X 9) k) k (jx X 9 2 k) w x (0, X 52)).1 (XT (xStart X (nI k) (jx X 9 2 k)) (sVoice (sKind (jx X 9) k) k (jx X 9 2 k) w x (0, X 52)).2) r else RI (sErr 1) (xErr X 1) r) := by
  refine er_enter (L := [(0, _), (1, _), (2, _), (3, _)]) rfl rfl rfl ?_
  have h8 := jn8 hI
  have hk8 : k < 8 := by omega
  have hq := kind7 hI k
  refine er_loc (pc' := 1) rfl rfl rfl ?_
  refine er_gf (pc' := 4) (_) rfl rfl rfl rfl rfl ?_
  refine er_loc (pc' := 5) rfl rfl rfl ?_
  refine er_cIi (pc' := 8) (rest := []) 7 rfl rfl rfl rfl rfl rfl (l_has_t _ j9 _ _ hI hk) ?_
  refine er_if_eqF (pc' := 11) rfl (by decide +kernel) rfl ?_
  refine er_loc (pc' := 12) rfl rfl rfl ?_
  refine er_k (pc' := 13) (nI 0) rfl rfl rfl ?_
  refine er_k (pc' := 14) (nI 3) rfl rfl rfl ?_
  refine er_cSi (pc' := 17) (rest := []) rfl rfl rfl (l_within _ _ _ _ _) ?_
  refine er_if_neb (pc' := 20) rfl rfl (fun h17 => ?_) (fun h17 => ?_)
  · refine er_loc (pc' := 27) rfl rfl rfl ?_
    refine er_gf (pc' := 30) (_) rfl rfl rfl rfl rfl ?_
    refine er_loc (pc' := 31) rfl rfl rfl ?_
    refine er_loc (pc' := 32) rfl rfl rfl ?_
    refine er_gf (pc' := 35) (_) rfl rfl rfl rfl rfl ?_
    refine er_gf (pc' := 38) (_) rfl rfl rfl rfl rfl ?_
    refine er_loc (pc' := 39) rfl rfl rfl ?_
    refine er_ia (pc' := 40) (k) rfl rfl rfl rfl hk8 rfl rfl ?_
    refine er_cIv (pc' := 43) (rest := []) 10 rfl rfl rfl rfl rfl rfl (l_start _ _ _ _ _) ?_
    intro Z6
    have hjS : jx (xStart X (nI k) (X 11 k)) 9 = jx X 9 := jx_off (fun c _ hc => by unfold xStart; rw [ud_ne (by omega), ud_ne (by omega), ud_ne (by omega)])
    refine er_loc (pc' := 44) rfl rfl rfl ?_
    refine er_gf (pc' := 47) (_) rfl rfl rfl rfl rfl ?_
    refine er_loc (pc' := 48) rfl rfl rfl ?_
    refine er_cIr (pc' := 51) (rest := []) 7 rfl rfl rfl rfl rfl rfl (l_kindOf _ j9 _ _ (by rw [hjS]; exact hI) (by rw [hjS]; exact hk)) ?_
    rw [hjS, ← XT_start]
    refine er_loc (pc' := 53) (L' := [(4, _), (0, _), (1, _), (2, _), (3, _)]) rfl rfl rfl ?_
    refine er_loc (pc' := 54) rfl rfl rfl ?_
    refine er_sw (0) rfl rfl (fun s54_0 => ?_) (fun s54_0 => ?_)
    · refine er_loc (pc' := 82) rfl rfl rfl ?_
      refine er_loc (pc' := 83) rfl rfl rfl ?_
      refine er_gf (pc' := 86) (_) rfl rfl rfl rfl rfl ?_
      refine er_loc (pc' := 87) rfl rfl rfl ?_
      refine er_cIz (pc' := 90) (rest := []) (sKind (jx X 9) k) rfl rfl (by rcases lt7 hq with e | e | e | e | e | e | e <;> rw [e] <;> rfl) (blt_S hq) (cO_S hq _ _) rfl (l_vFits _ (sKind (jx X 9) k) hq _ _ (nI k) (X 11 k) rfl rfl (0, X 52) (by omega) _) ?_
      intro Z3
      refine er_iret rfl rfl ?_
      rw [if_pos h17]
      have e : sVoice (sKind (jx X 9) k) k (jx X 9 2 k) w x (0, X 52) = vFits (sKind (jx X 9) k) (nI k) x (0, X 52) := by
        unfold sVoice
        rw [jx2 hk8]
        rw [if_pos s54_0]
      rw [e, jx2 hk8]
      exact RI_of rfl rfl
    refine er_sw (1) rfl rfl (fun s54_1 => ?_) (fun s54_1 => ?_)
    · refine er_loc (pc' := 93) rfl rfl rfl ?_
      refine er_loc (pc' := 94) rfl rfl rfl ?_
      refine er_gf (pc' := 97) (_) rfl rfl rfl rfl rfl ?_
      refine er_loc (pc' := 98) rfl rfl rfl ?_
      refine er_cIz (pc' := 101) (rest := []) (sKind (jx X 9) k) rfl rfl (by rcases lt7 hq with e | e | e | e | e | e | e <;> rw [e] <;> rfl) (blt_S hq) (cO_S hq _ _) rfl (l_vErrs _ (sKind (jx X 9) k) hq _ _ (nI k) (X 11 k) rfl rfl (0, X 52) (by omega) _) ?_
      intro Z3
      refine er_iret rfl rfl ?_
      rw [if_pos h17]
      have e : sVoice (sKind (jx X 9) k) k (jx X 9 2 k) w x (0, X 52) = vErrs (sKind (jx X 9) k) (nI k) (X 11 k) x (0, X 52) := by
        unfold sVoice
        rw [jx2 hk8]
        rw [if_neg s54_0, if_pos s54_1]
      rw [e, jx2 hk8]
      exact RI_of rfl rfl
    refine er_sw (2) rfl rfl (fun s54_2 => ?_) (fun s54_2 => ?_)
    · refine er_loc (pc' := 104) rfl rfl rfl ?_
      refine er_loc (pc' := 105) rfl rfl rfl ?_
      refine er_gf (pc' := 108) (_) rfl rfl rfl rfl rfl ?_
      refine er_loc (pc' := 109) rfl rfl rfl ?_
      refine er_cIz (pc' := 112) (rest := []) (sKind (jx X 9) k) rfl rfl (by rcases lt7 hq with e | e | e | e | e | e | e <;> rw [e] <;> rfl) (blt_S hq) (cO_S hq _ _) rfl (l_vLooks _ (sKind (jx X 9) k) hq _ _ (nI k) (X 11 k) rfl rfl (0, X 52) (by omega) _) ?_
      intro Z3
      refine er_iret rfl rfl ?_
      rw [if_pos h17]
      have e : sVoice (sKind (jx X 9) k) k (jx X 9 2 k) w x (0, X 52) = vLooks (sKind (jx X 9) k) (nI k) (X 11 k) x (0, X 52) := by
        unfold sVoice
        rw [jx2 hk8]
        rw [if_neg s54_0, if_neg s54_1, if_pos s54_2]
      rw [e, jx2 hk8]
      exact RI_of rfl rfl
    refine er_tsD [0, 1, 2] rfl rfl rfl rfl (List.forall_mem_cons.mpr ⟨ne_toInt s54_0 rfl, List.forall_mem_cons.mpr ⟨ne_toInt s54_1 rfl, List.forall_mem_cons.mpr ⟨ne_toInt s54_2 rfl, fun _ h => absurd h List.not_mem_nil⟩⟩⟩) ?_
    refine er_loc (pc' := 115) rfl rfl rfl ?_
    refine er_loc (pc' := 116) rfl rfl rfl ?_
    refine er_gf (pc' := 119) (_) rfl rfl rfl rfl rfl ?_
    refine er_loc (pc' := 120) rfl rfl rfl ?_
    refine er_cIz (pc' := 123) (rest := []) (sKind (jx X 9) k) rfl rfl (by rcases lt7 hq with e | e | e | e | e | e | e <;> rw [e] <;> rfl) (blt_S hq) (cO_S hq _ _) rfl (l_vUndoes _ (sKind (jx X 9) k) hq _ _ (nI k) (X 11 k) rfl rfl (0, X 52) (by omega) _) ?_
    intro Z3
    refine er_iret rfl rfl ?_
    rw [if_pos h17]
    have e : sVoice (sKind (jx X 9) k) k (jx X 9 2 k) w x (0, X 52) = vUndoes (sKind (jx X 9) k) (nI k) (X 11 k) x (0, X 52) := by
      unfold sVoice
      rw [jx2 hk8]
      rw [if_neg s54_0, if_neg s54_1, if_neg s54_2]
    rw [e, jx2 hk8]
    exact RI_of rfl rfl
  · refine er_loc (pc' := 21) rfl rfl rfl ?_
    refine er_k (pc' := 22) (nI 1) rfl rfl rfl ?_
    refine er_cIz (pc' := 25) (rest := []) 11 rfl rfl rfl rfl rfl rfl (l_error _ _ _ 1 (by decide)) ?_
    intro Z9
    refine er_iret rfl rfl ?_
    rw [if_neg (by rw [h17]; decide)]
    exact RI_of rfl rfl
end

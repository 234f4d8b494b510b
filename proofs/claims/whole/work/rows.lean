section
-- ===== PART A: goes FIRST, ahead of the names: the tables' words, and 'selects' of the private methods out of them =====
/-- a private method of a class that the tables say can be made, by its rows of tables_1 -/
def lw_okq (q : MethodName × Nat) : Prop := (q.1.cls ≠ "java/lang/invoke/MethodHandle" ∧ q.1.cls ≠ "java/lang/invoke/VarHandle") ∧ Cond.instantiable q.1.cls q.2 ∈ tables_1 ∧ Cond.privateMethod q.1 ∈ tables_1 ∧ Cond.instanceMethod q.1 ∈ tables_1
theorem lw_p0 : lw_okq (⟨"KingsInches$Humps", "waysOf", "(II)I"⟩, 1) := ⟨⟨by decide +kernel, by decide +kernel⟩, List.mem_of_getElem? (i := 96) (by decide +kernel), List.mem_of_getElem? (i := 335) (by decide +kernel), List.mem_of_getElem? (i := 336) (by decide +kernel)⟩
theorem lw_p1 : lw_okq (⟨"KingsInches", "seekMiddle", "(LKingsInches$Book;I)V"⟩, 8) := ⟨⟨by decide +kernel, by decide +kernel⟩, List.mem_of_getElem? (i := 16) (by decide +kernel), List.mem_of_getElem? (i := 388) (by decide +kernel), List.mem_of_getElem? (i := 389) (by decide +kernel)⟩
theorem lw_p2 : lw_okq (⟨"KingsInches$Undoing", "offer", "(III)V"⟩, 7) := ⟨⟨by decide +kernel, by decide +kernel⟩, List.mem_of_getElem? (i := 109) (by decide +kernel), List.mem_of_getElem? (i := 397) (by decide +kernel), List.mem_of_getElem? (i := 398) (by decide +kernel)⟩
theorem lw_p3 : lw_okq (⟨"KingsInches", "seekSpan", "(LKingsInches$Book;II)V"⟩, 8) := ⟨⟨by decide +kernel, by decide +kernel⟩, List.mem_of_getElem? (i := 16) (by decide +kernel), List.mem_of_getElem? (i := 405) (by decide +kernel), List.mem_of_getElem? (i := 406) (by decide +kernel)⟩
theorem lw_p4 : lw_okq (⟨"KingsInches$Maker", "draw", "(I)I"⟩, 2) := ⟨⟨by decide +kernel, by decide +kernel⟩, List.mem_of_getElem? (i := 143) (by decide +kernel), List.mem_of_getElem? (i := 594) (by decide +kernel), List.mem_of_getElem? (i := 595) (by decide +kernel)⟩
theorem lw_p5 : lw_okq (⟨"KingsInches$Maker", "placeOf", "(IILKingsInches$Holding;)I"⟩, 2) := ⟨⟨by decide +kernel, by decide +kernel⟩, List.mem_of_getElem? (i := 143) (by decide +kernel), List.mem_of_getElem? (i := 604) (by decide +kernel), List.mem_of_getElem? (i := 605) (by decide +kernel)⟩
theorem lw_p6 : lw_okq (⟨"KingsInches", "offBy", "(LKingsInches$Book;IIIIII)I"⟩, 8) := ⟨⟨by decide +kernel, by decide +kernel⟩, List.mem_of_getElem? (i := 16) (by decide +kernel), List.mem_of_getElem? (i := 616) (by decide +kernel), List.mem_of_getElem? (i := 617) (by decide +kernel)⟩
theorem lw_p7 : lw_okq (⟨"KingsInches", "undone", "(LKingsInches$Book;II)I"⟩, 8) := ⟨⟨by decide +kernel, by decide +kernel⟩, List.mem_of_getElem? (i := 16) (by decide +kernel), List.mem_of_getElem? (i := 625) (by decide +kernel), List.mem_of_getElem? (i := 626) (by decide +kernel)⟩
theorem lw_p8 : lw_okq (⟨"KingsInchesModel", "faultOf", "(I)I"⟩, 33) := ⟨⟨by decide +kernel, by decide +kernel⟩, List.mem_of_getElem? (i := 662) (by decide +kernel), List.mem_of_getElem? (i := 819) (by decide +kernel), List.mem_of_getElem? (i := 820) (by decide +kernel)⟩
theorem lw_p9 : lw_okq (⟨"KingsInchesModel", "takeRule", "()V"⟩, 33) := ⟨⟨by decide +kernel, by decide +kernel⟩, List.mem_of_getElem? (i := 662) (by decide +kernel), List.mem_of_getElem? (i := 838) (by decide +kernel), List.mem_of_getElem? (i := 839) (by decide +kernel)⟩
theorem lw_p10 : lw_okq (⟨"KingsInchesModel", "takeGrowth", "()V"⟩, 33) := ⟨⟨by decide +kernel, by decide +kernel⟩, List.mem_of_getElem? (i := 662) (by decide +kernel), List.mem_of_getElem? (i := 842) (by decide +kernel), List.mem_of_getElem? (i := 843) (by decide +kernel)⟩
theorem lw_p11 : lw_okq (⟨"KingsInchesModel", "lineOf", "(I)I"⟩, 33) := ⟨⟨by decide +kernel, by decide +kernel⟩, List.mem_of_getElem? (i := 662) (by decide +kernel), List.mem_of_getElem? (i := 850) (by decide +kernel), List.mem_of_getElem? (i := 851) (by decide +kernel)⟩
theorem lw_p12 : lw_okq (⟨"KingsInchesModel", "findChosen", "(I)V"⟩, 33) := ⟨⟨by decide +kernel, by decide +kernel⟩, List.mem_of_getElem? (i := 662) (by decide +kernel), List.mem_of_getElem? (i := 883) (by decide +kernel), List.mem_of_getElem? (i := 884) (by decide +kernel)⟩
theorem lw_p13 : lw_okq (⟨"KingsInchesModel", "all", "(I)I"⟩, 33) := ⟨⟨by decide +kernel, by decide +kernel⟩, List.mem_of_getElem? (i := 662) (by decide +kernel), List.mem_of_getElem? (i := 887) (by decide +kernel), List.mem_of_getElem? (i := 888) (by decide +kernel)⟩
theorem lw_p14 : lw_okq (⟨"KingsInchesModel", "misfitOf", "(IIIII)I"⟩, 33) := ⟨⟨by decide +kernel, by decide +kernel⟩, List.mem_of_getElem? (i := 662) (by decide +kernel), List.mem_of_getElem? (i := 891) (by decide +kernel), List.mem_of_getElem? (i := 892) (by decide +kernel)⟩
theorem lw_p15 : lw_okq (⟨"KingsInchesModel", "findFit", "(II)V"⟩, 33) := ⟨⟨by decide +kernel, by decide +kernel⟩, List.mem_of_getElem? (i := 662) (by decide +kernel), List.mem_of_getElem? (i := 902) (by decide +kernel), List.mem_of_getElem? (i := 903) (by decide +kernel)⟩
def lw_privs_1 : List (MethodName × Nat) := [(⟨"KingsInches$Humps", "waysOf", "(II)I"⟩, 1), (⟨"KingsInches", "seekMiddle", "(LKingsInches$Book;I)V"⟩, 8), (⟨"KingsInches$Undoing", "offer", "(III)V"⟩, 7), (⟨"KingsInches", "seekSpan", "(LKingsInches$Book;II)V"⟩, 8), (⟨"KingsInches$Maker", "draw", "(I)I"⟩, 2), (⟨"KingsInches$Maker", "placeOf", "(IILKingsInches$Holding;)I"⟩, 2), (⟨"KingsInches", "offBy", "(LKingsInches$Book;IIIIII)I"⟩, 8), (⟨"KingsInches", "undone", "(LKingsInches$Book;II)I"⟩, 8), (⟨"KingsInchesModel", "faultOf", "(I)I"⟩, 33), (⟨"KingsInchesModel", "takeRule", "()V"⟩, 33), (⟨"KingsInchesModel", "takeGrowth", "()V"⟩, 33), (⟨"KingsInchesModel", "lineOf", "(I)I"⟩, 33), (⟨"KingsInchesModel", "findChosen", "(I)V"⟩, 33), (⟨"KingsInchesModel", "all", "(I)I"⟩, 33), (⟨"KingsInchesModel", "misfitOf", "(IIIII)I"⟩, 33), (⟨"KingsInchesModel", "findFit", "(II)V"⟩, 33)]
theorem lw_r1 : ∀ q ∈ lw_privs_1, lw_okq q := List.forall_mem_cons.mpr ⟨lw_p0, List.forall_mem_cons.mpr ⟨lw_p1, List.forall_mem_cons.mpr ⟨lw_p2, List.forall_mem_cons.mpr ⟨lw_p3, List.forall_mem_cons.mpr ⟨lw_p4, List.forall_mem_cons.mpr ⟨lw_p5, List.forall_mem_cons.mpr ⟨lw_p6, List.forall_mem_cons.mpr ⟨lw_p7, List.forall_mem_cons.mpr ⟨lw_p8, List.forall_mem_cons.mpr ⟨lw_p9, List.forall_mem_cons.mpr ⟨lw_p10, List.forall_mem_cons.mpr ⟨lw_p11, List.forall_mem_cons.mpr ⟨lw_p12, List.forall_mem_cons.mpr ⟨lw_p13, List.forall_mem_cons.mpr ⟨lw_p14, List.forall_mem_cons.mpr ⟨lw_p15, fun _ h => absurd h List.not_mem_nil⟩⟩⟩⟩⟩⟩⟩⟩⟩⟩⟩⟩⟩⟩⟩⟩
theorem lw_p16 : lw_okq (⟨"KingsInchesModel", "keepBest", "(III)V"⟩, 33) := ⟨⟨by decide +kernel, by decide +kernel⟩, List.mem_of_getElem? (i := 662) (by decide +kernel), List.mem_of_getElem? (i := 906) (by decide +kernel), List.mem_of_getElem? (i := 907) (by decide +kernel)⟩
theorem lw_p17 : lw_okq (⟨"KingsInchesModel", "findSpan", "(III)V"⟩, 33) := ⟨⟨by decide +kernel, by decide +kernel⟩, List.mem_of_getElem? (i := 662) (by decide +kernel), List.mem_of_getElem? (i := 914) (by decide +kernel), List.mem_of_getElem? (i := 915) (by decide +kernel)⟩
theorem lw_p18 : lw_okq (⟨"KingsInchesModel", "findLine", "(II)V"⟩, 33) := ⟨⟨by decide +kernel, by decide +kernel⟩, List.mem_of_getElem? (i := 662) (by decide +kernel), List.mem_of_getElem? (i := 922) (by decide +kernel), List.mem_of_getElem? (i := 923) (by decide +kernel)⟩
theorem lw_p19 : lw_okq (⟨"KingsInchesModel", "writtenOf", "(III)I"⟩, 33) := ⟨⟨by decide +kernel, by decide +kernel⟩, List.mem_of_getElem? (i := 662) (by decide +kernel), List.mem_of_getElem? (i := 930) (by decide +kernel), List.mem_of_getElem? (i := 931) (by decide +kernel)⟩
theorem lw_p20 : lw_okq (⟨"KingsInchesModel", "grownFrom", "(I)I"⟩, 33) := ⟨⟨by decide +kernel, by decide +kernel⟩, List.mem_of_getElem? (i := 662) (by decide +kernel), List.mem_of_getElem? (i := 951) (by decide +kernel), List.mem_of_getElem? (i := 952) (by decide +kernel)⟩
theorem lw_p21 : lw_okq (⟨"KingsInchesModel", "growsAt", "(I)I"⟩, 33) := ⟨⟨by decide +kernel, by decide +kernel⟩, List.mem_of_getElem? (i := 662) (by decide +kernel), List.mem_of_getElem? (i := 955) (by decide +kernel), List.mem_of_getElem? (i := 956) (by decide +kernel)⟩
theorem lw_p22 : lw_okq (⟨"KingsInchesModel", "meanGrown", "(I)I"⟩, 33) := ⟨⟨by decide +kernel, by decide +kernel⟩, List.mem_of_getElem? (i := 662) (by decide +kernel), List.mem_of_getElem? (i := 959) (by decide +kernel), List.mem_of_getElem? (i := 960) (by decide +kernel)⟩
theorem lw_p23 : lw_okq (⟨"KingsInchesModel", "findMix", "(IIIII)Z"⟩, 33) := ⟨⟨by decide +kernel, by decide +kernel⟩, List.mem_of_getElem? (i := 662) (by decide +kernel), List.mem_of_getElem? (i := 977) (by decide +kernel), List.mem_of_getElem? (i := 978) (by decide +kernel)⟩
theorem lw_p24 : lw_okq (⟨"KingsInchesModel", "findEnd", "(IIIIIZ)Z"⟩, 33) := ⟨⟨by decide +kernel, by decide +kernel⟩, List.mem_of_getElem? (i := 662) (by decide +kernel), List.mem_of_getElem? (i := 996) (by decide +kernel), List.mem_of_getElem? (i := 997) (by decide +kernel)⟩
theorem lw_p25 : lw_okq (⟨"KingsInchesModel", "sumOf", "(I)J"⟩, 33) := ⟨⟨by decide +kernel, by decide +kernel⟩, List.mem_of_getElem? (i := 662) (by decide +kernel), List.mem_of_getElem? (i := 1004) (by decide +kernel), List.mem_of_getElem? (i := 1005) (by decide +kernel)⟩
theorem lw_p26 : lw_okq (⟨"KingsInchesModel", "modeOf", "(I)I"⟩, 33) := ⟨⟨by decide +kernel, by decide +kernel⟩, List.mem_of_getElem? (i := 662) (by decide +kernel), List.mem_of_getElem? (i := 1012) (by decide +kernel), List.mem_of_getElem? (i := 1013) (by decide +kernel)⟩
theorem lw_p27 : lw_okq (⟨"KingsInchesModel", "makeIn", "(IIIII)I"⟩, 33) := ⟨⟨by decide +kernel, by decide +kernel⟩, List.mem_of_getElem? (i := 662) (by decide +kernel), List.mem_of_getElem? (i := 1038) (by decide +kernel), List.mem_of_getElem? (i := 1039) (by decide +kernel)⟩
theorem lw_p28 : lw_okq (⟨"KingsInchesModel", "draw", "(I)I"⟩, 33) := ⟨⟨by decide +kernel, by decide +kernel⟩, List.mem_of_getElem? (i := 662) (by decide +kernel), List.mem_of_getElem? (i := 1042) (by decide +kernel), List.mem_of_getElem? (i := 1043) (by decide +kernel)⟩
theorem lw_p29 : lw_okq (⟨"KingsInchesModel", "heightOf", "(III)I"⟩, 33) := ⟨⟨by decide +kernel, by decide +kernel⟩, List.mem_of_getElem? (i := 662) (by decide +kernel), List.mem_of_getElem? (i := 1047) (by decide +kernel), List.mem_of_getElem? (i := 1048) (by decide +kernel)⟩
theorem lw_p30 : lw_okq (⟨"KingsInchesModel", "writtenAt", "(II)I"⟩, 33) := ⟨⟨by decide +kernel, by decide +kernel⟩, List.mem_of_getElem? (i := 662) (by decide +kernel), List.mem_of_getElem? (i := 1051) (by decide +kernel), List.mem_of_getElem? (i := 1052) (by decide +kernel)⟩
theorem lw_p31 : lw_okq (⟨"KingsInchesModel", "offOf", "(IIIIIII)I"⟩, 33) := ⟨⟨by decide +kernel, by decide +kernel⟩, List.mem_of_getElem? (i := 662) (by decide +kernel), List.mem_of_getElem? (i := 1060) (by decide +kernel), List.mem_of_getElem? (i := 1061) (by decide +kernel)⟩
def lw_privs_2 : List (MethodName × Nat) := [(⟨"KingsInchesModel", "keepBest", "(III)V"⟩, 33), (⟨"KingsInchesModel", "findSpan", "(III)V"⟩, 33), (⟨"KingsInchesModel", "findLine", "(II)V"⟩, 33), (⟨"KingsInchesModel", "writtenOf", "(III)I"⟩, 33), (⟨"KingsInchesModel", "grownFrom", "(I)I"⟩, 33), (⟨"KingsInchesModel", "growsAt", "(I)I"⟩, 33), (⟨"KingsInchesModel", "meanGrown", "(I)I"⟩, 33), (⟨"KingsInchesModel", "findMix", "(IIIII)Z"⟩, 33), (⟨"KingsInchesModel", "findEnd", "(IIIIIZ)Z"⟩, 33), (⟨"KingsInchesModel", "sumOf", "(I)J"⟩, 33), (⟨"KingsInchesModel", "modeOf", "(I)I"⟩, 33), (⟨"KingsInchesModel", "makeIn", "(IIIII)I"⟩, 33), (⟨"KingsInchesModel", "draw", "(I)I"⟩, 33), (⟨"KingsInchesModel", "heightOf", "(III)I"⟩, 33), (⟨"KingsInchesModel", "writtenAt", "(II)I"⟩, 33), (⟨"KingsInchesModel", "offOf", "(IIIIIII)I"⟩, 33)]
theorem lw_r2 : ∀ q ∈ lw_privs_2, lw_okq q := List.forall_mem_cons.mpr ⟨lw_p16, List.forall_mem_cons.mpr ⟨lw_p17, List.forall_mem_cons.mpr ⟨lw_p18, List.forall_mem_cons.mpr ⟨lw_p19, List.forall_mem_cons.mpr ⟨lw_p20, List.forall_mem_cons.mpr ⟨lw_p21, List.forall_mem_cons.mpr ⟨lw_p22, List.forall_mem_cons.mpr ⟨lw_p23, List.forall_mem_cons.mpr ⟨lw_p24, List.forall_mem_cons.mpr ⟨lw_p25, List.forall_mem_cons.mpr ⟨lw_p26, List.forall_mem_cons.mpr ⟨lw_p27, List.forall_mem_cons.mpr ⟨lw_p28, List.forall_mem_cons.mpr ⟨lw_p29, List.forall_mem_cons.mpr ⟨lw_p30, List.forall_mem_cons.mpr ⟨lw_p31, fun _ h => absurd h List.not_mem_nil⟩⟩⟩⟩⟩⟩⟩⟩⟩⟩⟩⟩⟩⟩⟩⟩
theorem lw_p32 : lw_okq (⟨"KingsInchesModel", "undone", "(III)I"⟩, 33) := ⟨⟨by decide +kernel, by decide +kernel⟩, List.mem_of_getElem? (i := 662) (by decide +kernel), List.mem_of_getElem? (i := 1064) (by decide +kernel), List.mem_of_getElem? (i := 1065) (by decide +kernel)⟩
theorem lw_p33 : lw_okq (⟨"KingsInchesModel", "passAll", "()V"⟩, 33) := ⟨⟨by decide +kernel, by decide +kernel⟩, List.mem_of_getElem? (i := 662) (by decide +kernel), List.mem_of_getElem? (i := 1076) (by decide +kernel), List.mem_of_getElem? (i := 1077) (by decide +kernel)⟩
theorem lw_p34 : lw_okq (⟨"KingsInchesModel", "pass", "(I)I"⟩, 33) := ⟨⟨by decide +kernel, by decide +kernel⟩, List.mem_of_getElem? (i := 662) (by decide +kernel), List.mem_of_getElem? (i := 1080) (by decide +kernel), List.mem_of_getElem? (i := 1081) (by decide +kernel)⟩
def lw_privs_3 : List (MethodName × Nat) := [(⟨"KingsInchesModel", "undone", "(III)I"⟩, 33), (⟨"KingsInchesModel", "passAll", "()V"⟩, 33), (⟨"KingsInchesModel", "pass", "(I)I"⟩, 33)]
theorem lw_r3 : ∀ q ∈ lw_privs_3, lw_okq q := List.forall_mem_cons.mpr ⟨lw_p32, List.forall_mem_cons.mpr ⟨lw_p33, List.forall_mem_cons.mpr ⟨lw_p34, fun _ h => absurd h List.not_mem_nil⟩⟩⟩
def lw_privs : List (MethodName × Nat) := lw_privs_1 ++ (lw_privs_2 ++ (lw_privs_3))
def lw_tbl : List Cond := k2_sels lw_privs ++ tables_1
theorem lw_privs_ok : ∀ q ∈ lw_privs, lw_okq q := by
  show ∀ q ∈ lw_privs_1 ++ (lw_privs_2 ++ (lw_privs_3)), lw_okq q
  exact List.forall_mem_append.mpr ⟨lw_r1, List.forall_mem_append.mpr ⟨lw_r2, lw_r3⟩⟩
end
section
def RX0 : String := "KingsInches$Book"
def TX0 : u_T := fun k => match k with
  | 0 => ("KingsInches$Book", "men", "[I", true)
  | 1 => ("KingsInches$Book", "entries", "[I", true)
  | _ => ("KingsInches$Book", "total", "I", false)
def tyX0 : Nat → FieldType := fun k => match k with
  | 0 => .array .int
  | 1 => .array .int
  | _ => .int
theorem nmX0 : ∀ a, a < 3 → ∀ b, b < 3 → a ≠ b → (TX0 a).2.1 ≠ (TX0 b).2.1 := by decide +kernel
theorem tyX0_ok : ∀ k, k < 3 → parseFieldDescriptor (TX0 k).2.2.1 = some (tyX0 k) := by decide +kernel
abbrev cX0_init : ByteArray := prog_2_method_1_code
def yX0_init : MethodName := ⟨RX0, "<init>", "()V"⟩
abbrev cX0_menAt : ByteArray := prog_2_method_2_code
def yX0_menAt : MethodName := ⟨RX0, "menAt", "(I)I"⟩
abbrev cX0_put : ByteArray := prog_2_method_3_code
def yX0_put : MethodName := ⟨RX0, "put", "(II)V"⟩
abbrev cX0_entry : ByteArray := prog_2_method_4_code
def yX0_entry : MethodName := ⟨RX0, "entry", "(I)I"⟩
abbrev cX0_enter : ByteArray := prog_2_method_5_code
def yX0_enter : MethodName := ⟨RX0, "enter", "(II)V"⟩
abbrev cX0_clearMen : ByteArray := prog_2_method_6_code
def yX0_clearMen : MethodName := ⟨RX0, "clearMen", "()V"⟩
abbrev cX0_copyEntries : ByteArray := prog_2_method_7_code
def yX0_copyEntries : MethodName := ⟨RX0, "copyEntries", "(LKingsInches$Book;)V"⟩
abbrev cX0_copyFrom : ByteArray := prog_2_method_8_code
def yX0_copyFrom : MethodName := ⟨RX0, "copyFrom", "(LKingsInches$Book;)V"⟩
abbrev cX0_atWholeInches : ByteArray := prog_2_method_9_code
def yX0_atWholeInches : MethodName := ⟨RX0, "atWholeInches", "()I"⟩
abbrev cX0_sumMoved : ByteArray := prog_2_method_10_code
def yX0_sumMoved : MethodName := ⟨RX0, "sumMoved", "(I)J"⟩
abbrev cX0_commonest : ByteArray := prog_2_method_11_code
def yX0_commonest : MethodName := ⟨RX0, "commonest", "()I"⟩
def RX1 : String := "KingsInches$Grammar"
def TX1 : u_T := fun k => match k with
  | _ => ("", "", "", false)
def tyX1 : Nat → FieldType := fun k => match k with
  | _ => .int
theorem nmX1 : ∀ a, a < 0 → ∀ b, b < 0 → a ≠ b → (TX1 a).2.1 ≠ (TX1 b).2.1 := by decide +kernel
theorem tyX1_ok : ∀ k, k < 0 → parseFieldDescriptor (TX1 k).2.2.1 = some (tyX1 k) := by decide +kernel
abbrev cX1_faultOf : ByteArray := prog_3_method_2_code
def yX1_faultOf : MethodName := ⟨RX1, "faultOf", "(LKingsInches$Text;I)I"⟩
abbrev cX1_after : ByteArray := prog_3_method_3_code
def yX1_after : MethodName := ⟨RX1, "after", "(II)I"⟩
abbrev cX1_afterInGrowth : ByteArray := prog_3_method_4_code
def yX1_afterInGrowth : MethodName := ⟨RX1, "afterInGrowth", "(II)I"⟩
abbrev cX1_beginTest : ByteArray := prog_3_method_5_code
def yX1_beginTest : MethodName := ⟨RX1, "beginTest", "(I)I"⟩
abbrev cX1_endTest : ByteArray := prog_3_method_6_code
def yX1_endTest : MethodName := ⟨RX1, "endTest", "(I)I"⟩
abbrev cX1_endAge : ByteArray := prog_3_method_7_code
def yX1_endAge : MethodName := ⟨RX1, "endAge", "(I)I"⟩
abbrev cX1_endPiece : ByteArray := prog_3_method_8_code
def yX1_endPiece : MethodName := ⟨RX1, "endPiece", "(II)I"⟩
abbrev cX1_isDigit : ByteArray := prog_3_method_9_code
def yX1_isDigit : MethodName := ⟨RX1, "isDigit", "(I)Z"⟩
def RX2 : String := "KingsInches$Holding"
def TX2 : u_T := fun k => match k with
  | 0 => ("KingsInches$Holding", "books", "[LKingsInches$Book;", true)
  | 1 => ("KingsInches$Holding", "rule", "LKingsInches$Text;", true)
  | 2 => ("KingsInches$Holding", "growth", "LKingsInches$Text;", true)
  | _ => ("KingsInches$Holding", "ways", "[I", true)
def tyX2 : Nat → FieldType := fun k => match k with
  | 0 => .array (.object "KingsInches$Book")
  | 1 => .object "KingsInches$Text"
  | 2 => .object "KingsInches$Text"
  | _ => .array .int
theorem nmX2 : ∀ a, a < 4 → ∀ b, b < 4 → a ≠ b → (TX2 a).2.1 ≠ (TX2 b).2.1 := by decide +kernel
theorem tyX2_ok : ∀ k, k < 4 → parseFieldDescriptor (TX2 k).2.2.1 = some (tyX2 k) := by decide +kernel
abbrev cX2_init : ByteArray := prog_4_method_1_code
def yX2_init : MethodName := ⟨RX2, "<init>", "()V"⟩
abbrev cX2_copyFrom : ByteArray := prog_4_method_2_code
def yX2_copyFrom : MethodName := ⟨RX2, "copyFrom", "(LKingsInches$Holding;)V"⟩
abbrev cX2_bookAt : ByteArray := prog_4_method_3_code
def yX2_bookAt : MethodName := ⟨RX2, "bookAt", "(I)LKingsInches$Book;"⟩
abbrev cX2_wayOf : ByteArray := prog_4_method_4_code
def yX2_wayOf : MethodName := ⟨RX2, "wayOf", "(I)I"⟩
abbrev cX2_turn : ByteArray := prog_4_method_5_code
def yX2_turn : MethodName := ⟨RX2, "turn", "(II)V"⟩
abbrev cX2_lineOf : ByteArray := prog_4_method_6_code
def yX2_lineOf : MethodName := ⟨RX2, "lineOf", "(LKingsInches$Book;)I"⟩
abbrev cX2_growthFrom : ByteArray := prog_4_method_7_code
def yX2_growthFrom : MethodName := ⟨RX2, "growthFrom", "(I)I"⟩
abbrev cX2_tenthsGrown : ByteArray := prog_4_method_8_code
def yX2_tenthsGrown : MethodName := ⟨RX2, "tenthsGrown", "(LKingsInches$Book;)I"⟩
abbrev cX2_hundredths : ByteArray := prog_4_method_9_code
def yX2_hundredths : MethodName := ⟨RX2, "hundredths", "(III)I"⟩
def RX3 : String := "KingsInches$Humps"
def TX3 : u_T := fun k => match k with
  | _ => ("KingsInches$Humps", "rows", "[[I", true)
def tyX3 : Nat → FieldType := fun k => match k with
  | _ => .array (.array .int)
theorem nmX3 : ∀ a, a < 1 → ∀ b, b < 1 → a ≠ b → (TX3 a).2.1 ≠ (TX3 b).2.1 := by decide +kernel
theorem tyX3_ok : ∀ k, k < 1 → parseFieldDescriptor (TX3 k).2.2.1 = some (tyX3 k) := by decide +kernel
abbrev cX3_init : ByteArray := prog_5_method_1_code
def yX3_init : MethodName := ⟨RX3, "<init>", "()V"⟩
abbrev cX3_waysOf : ByteArray := prog_5_method_2_code
def yX3_waysOf : MethodName := ⟨RX3, "waysOf", "(II)I"⟩
abbrev cX3_menAt : ByteArray := prog_5_method_3_code
def yX3_menAt : MethodName := ⟨RX3, "menAt", "(III)I"⟩
abbrev cX3_countFrom : ByteArray := prog_5_method_4_code
def yX3_countFrom : MethodName := ⟨RX3, "countFrom", "(III)J"⟩
abbrev cX3_sumFrom : ByteArray := prog_5_method_5_code
def yX3_sumFrom : MethodName := ⟨RX3, "sumFrom", "(III)J"⟩
abbrev cX3_heightOf : ByteArray := prog_5_method_6_code
def yX3_heightOf : MethodName := ⟨RX3, "heightOf", "(III)I"⟩
def RX4 : String := "KingsInches$Maker"
def TX4 : u_T := fun k => match k with
  | 0 => ("KingsInches$Maker", "humps", "LKingsInches$Humps;", true)
  | _ => ("KingsInches$Maker", "seed", "I", false)
def tyX4 : Nat → FieldType := fun k => match k with
  | 0 => .object "KingsInches$Humps"
  | _ => .int
theorem nmX4 : ∀ a, a < 2 → ∀ b, b < 2 → a ≠ b → (TX4 a).2.1 ≠ (TX4 b).2.1 := by decide +kernel
theorem tyX4_ok : ∀ k, k < 2 → parseFieldDescriptor (TX4 k).2.2.1 = some (tyX4 k) := by decide +kernel
abbrev cX4_init : ByteArray := prog_6_method_1_code
def yX4_init : MethodName := ⟨RX4, "<init>", "(LKingsInches$Humps;)V"⟩
abbrev cX4_draw : ByteArray := prog_6_method_2_code
def yX4_draw : MethodName := ⟨RX4, "draw", "(I)I"⟩
abbrev cX4_fill : ByteArray := prog_6_method_3_code
def yX4_fill : MethodName := ⟨RX4, "fill", "(LKingsInches$Book;LKingsInches$Holding;IIII)I"⟩
abbrev cX4_placeOf : ByteArray := prog_6_method_4_code
def yX4_placeOf : MethodName := ⟨RX4, "placeOf", "(IILKingsInches$Holding;)I"⟩
def RX5 : String := "KingsInches$Reading"
def TX5 : u_T := fun k => match k with
  | _ => ("", "", "", false)
def tyX5 : Nat → FieldType := fun k => match k with
  | _ => .int
theorem nmX5 : ∀ a, a < 0 → ∀ b, b < 0 → a ≠ b → (TX5 a).2.1 ≠ (TX5 b).2.1 := by decide +kernel
theorem tyX5_ok : ∀ k, k < 0 → parseFieldDescriptor (TX5 k).2.2.1 = some (tyX5 k) := by decide +kernel
abbrev cX5_lineBy : ByteArray := prog_7_method_2_code
def yX5_lineBy : MethodName := ⟨RX5, "lineBy", "(LKingsInches$Text;II)I"⟩
abbrev cX5_holds : ByteArray := prog_7_method_3_code
def yX5_holds : MethodName := ⟨RX5, "holds", "(III)Z"⟩
abbrev cX5_growthAt : ByteArray := prog_7_method_4_code
def yX5_growthAt : MethodName := ⟨RX5, "growthAt", "(LKingsInches$Text;I)I"⟩
def RX6 : String := "KingsInches$Sorts"
def TX6 : u_T := fun k => match k with
  | 0 => ("KingsInches$Sorts", "sumOne", "J", true)
  | 1 => ("KingsInches$Sorts", "countOne", "J", true)
  | 2 => ("KingsInches$Sorts", "sumTwo", "J", true)
  | _ => ("KingsInches$Sorts", "countTwo", "J", true)
def tyX6 : Nat → FieldType := fun k => match k with
  | 0 => .long
  | 1 => .long
  | 2 => .long
  | _ => .long
theorem nmX6 : ∀ a, a < 4 → ∀ b, b < 4 → a ≠ b → (TX6 a).2.1 ≠ (TX6 b).2.1 := by decide +kernel
theorem tyX6_ok : ∀ k, k < 4 → parseFieldDescriptor (TX6 k).2.2.1 = some (tyX6 k) := by decide +kernel
abbrev cX6_init : ByteArray := prog_8_method_1_code
def yX6_init : MethodName := ⟨RX6, "<init>", "(LKingsInches$Humps;IIII)V"⟩
abbrev cX6_sum : ByteArray := prog_8_method_2_code
def yX6_sum : MethodName := ⟨RX6, "sum", "(I)J"⟩
abbrev cX6_count : ByteArray := prog_8_method_3_code
def yX6_count : MethodName := ⟨RX6, "count", "(I)J"⟩
abbrev cX6_lack : ByteArray := prog_8_method_4_code
def yX6_lack : MethodName := ⟨RX6, "lack", "(I)Z"⟩
abbrev cX6_gap : ByteArray := prog_8_method_5_code
def yX6_gap : MethodName := ⟨RX6, "gap", "(II)J"⟩
abbrev cX6_lesser : ByteArray := prog_8_method_6_code
def yX6_lesser : MethodName := ⟨RX6, "lesser", "(II)I"⟩
abbrev cX6_greater : ByteArray := prog_8_method_7_code
def yX6_greater : MethodName := ⟨RX6, "greater", "(II)I"⟩
def RX7 : String := "KingsInches$Text"
def TX7 : u_T := fun k => match k with
  | 0 => ("KingsInches$Text", "signs", "[I", true)
  | _ => ("KingsInches$Text", "count", "I", false)
def tyX7 : Nat → FieldType := fun k => match k with
  | 0 => .array .int
  | _ => .int
theorem nmX7 : ∀ a, a < 2 → ∀ b, b < 2 → a ≠ b → (TX7 a).2.1 ≠ (TX7 b).2.1 := by decide +kernel
theorem tyX7_ok : ∀ k, k < 2 → parseFieldDescriptor (TX7 k).2.2.1 = some (tyX7 k) := by decide +kernel
abbrev cX7_init : ByteArray := prog_9_method_1_code
def yX7_init : MethodName := ⟨RX7, "<init>", "()V"⟩
abbrev cX7_add : ByteArray := prog_9_method_2_code
def yX7_add : MethodName := ⟨RX7, "add", "(I)Z"⟩
abbrev cX7_clear : ByteArray := prog_9_method_3_code
def yX7_clear : MethodName := ⟨RX7, "clear", "()V"⟩
abbrev cX7_signAt : ByteArray := prog_9_method_4_code
def yX7_signAt : MethodName := ⟨RX7, "signAt", "(I)I"⟩
abbrev cX7_copyFrom : ByteArray := prog_9_method_5_code
def yX7_copyFrom : MethodName := ⟨RX7, "copyFrom", "(LKingsInches$Text;)V"⟩
abbrev cX7_pieces : ByteArray := prog_9_method_6_code
def yX7_pieces : MethodName := ⟨RX7, "pieces", "()I"⟩
def RX8 : String := "KingsInches$Undoing"
def TX8 : u_T := fun k => match k with
  | 0 => ("KingsInches$Undoing", "humps", "LKingsInches$Humps;", true)
  | 1 => ("KingsInches$Undoing", "parts", "[J", true)
  | 2 => ("KingsInches$Undoing", "line", "I", false)
  | 3 => ("KingsInches$Undoing", "middle", "I", false)
  | 4 => ("KingsInches$Undoing", "misfit", "I", false)
  | 5 => ("KingsInches$Undoing", "first", "I", false)
  | _ => ("KingsInches$Undoing", "last", "I", false)
def tyX8 : Nat → FieldType := fun k => match k with
  | 0 => .object "KingsInches$Humps"
  | 1 => .array .long
  | 2 => .int
  | 3 => .int
  | 4 => .int
  | 5 => .int
  | _ => .int
theorem nmX8 : ∀ a, a < 7 → ∀ b, b < 7 → a ≠ b → (TX8 a).2.1 ≠ (TX8 b).2.1 := by decide +kernel
theorem tyX8_ok : ∀ k, k < 7 → parseFieldDescriptor (TX8 k).2.2.1 = some (tyX8 k) := by decide +kernel
abbrev cX8_init : ByteArray := prog_10_method_1_code
def yX8_init : MethodName := ⟨RX8, "<init>", "(LKingsInches$Humps;)V"⟩
abbrev cX8_misfitOf : ByteArray := prog_10_method_2_code
def yX8_misfitOf : MethodName := ⟨RX8, "misfitOf", "(LKingsInches$Book;IIII)I"⟩
abbrev cX8_seekMiddle : ByteArray := prog_10_method_3_code
def yX8_seekMiddle : MethodName := ⟨RX8, "seekMiddle", "(LKingsInches$Book;III)V"⟩
abbrev cX8_seekSpan : ByteArray := prog_10_method_4_code
def yX8_seekSpan : MethodName := ⟨RX8, "seekSpan", "(LKingsInches$Book;IIII)V"⟩
abbrev cX8_seekLine : ByteArray := prog_10_method_5_code
def yX8_seekLine : MethodName := ⟨RX8, "seekLine", "(LKingsInches$Book;II)V"⟩
abbrev cX8_offer : ByteArray := prog_10_method_6_code
def yX8_offer : MethodName := ⟨RX8, "offer", "(III)V"⟩
def RX9 : String := "KingsInches"
def TX9 : u_T := fun k => match k with
  | 0 => ("KingsInches", "pad", "LKingsInches$Text;", true)
  | 1 => ("KingsInches", "now", "LKingsInches$Holding;", true)
  | 2 => ("KingsInches", "images", "[LKingsInches$Holding;", true)
  | 3 => ("KingsInches", "kept", "[Z", true)
  | 4 => ("KingsInches", "humps", "LKingsInches$Humps;", true)
  | 5 => ("KingsInches", "undoing", "LKingsInches$Undoing;", true)
  | 6 => ("KingsInches", "maker", "LKingsInches$Maker;", true)
  | _ => ("KingsInches", "trial", "LKingsInches$Book;", true)
def tyX9 : Nat → FieldType := fun k => match k with
  | 0 => .object "KingsInches$Text"
  | 1 => .object "KingsInches$Holding"
  | 2 => .array (.object "KingsInches$Holding")
  | 3 => .array .boolean
  | 4 => .object "KingsInches$Humps"
  | 5 => .object "KingsInches$Undoing"
  | 6 => .object "KingsInches$Maker"
  | _ => .object "KingsInches$Book"
theorem nmX9 : ∀ a, a < 8 → ∀ b, b < 8 → a ≠ b → (TX9 a).2.1 ≠ (TX9 b).2.1 := by decide +kernel
theorem tyX9_ok : ∀ k, k < 8 → parseFieldDescriptor (TX9 k).2.2.1 = some (tyX9 k) := by decide +kernel
abbrev cX9_init : ByteArray := prog_1_method_1_code
def yX9_init : MethodName := ⟨RX9, "<init>", "()V"⟩
abbrev cX9_men : ByteArray := prog_1_method_2_code
def yX9_men : MethodName := ⟨RX9, "men", "(III)I"⟩
abbrev cX9_set : ByteArray := prog_1_method_3_code
def yX9_set : MethodName := ⟨RX9, "set", "(III)I"⟩
abbrev cX9_way : ByteArray := prog_1_method_4_code
def yX9_way : MethodName := ⟨RX9, "way", "(II)I"⟩
abbrev cX9_say : ByteArray := prog_1_method_5_code
def yX9_say : MethodName := ⟨RX9, "say", "(I)I"⟩
abbrev cX9_wipe : ByteArray := prog_1_method_6_code
def yX9_wipe : MethodName := ⟨RX9, "wipe", "()I"⟩
abbrev cX9_fault : ByteArray := prog_1_method_7_code
def yX9_fault : MethodName := ⟨RX9, "fault", "(I)I"⟩
abbrev cX9_take : ByteArray := prog_1_method_8_code
def yX9_take : MethodName := ⟨RX9, "take", "(I)I"⟩
abbrev cX9_line : ByteArray := prog_1_method_9_code
def yX9_line : MethodName := ⟨RX9, "line", "(I)I"⟩
abbrev cX9_hump : ByteArray := prog_1_method_10_code
def yX9_hump : MethodName := ⟨RX9, "hump", "(III)I"⟩
abbrev cX9_upper : ByteArray := prog_1_method_11_code
def yX9_upper : MethodName := ⟨RX9, "upper", "(IIIII)J"⟩
abbrev cX9_misfit : ByteArray := prog_1_method_12_code
def yX9_misfit : MethodName := ⟨RX9, "misfit", "(IIII)I"⟩
abbrev cX9_fit : ByteArray := prog_1_method_13_code
def yX9_fit : MethodName := ⟨RX9, "fit", "(III)I"⟩
abbrev cX9_span : ByteArray := prog_1_method_14_code
def yX9_span : MethodName := ⟨RX9, "span", "(IIII)I"⟩
abbrev cX9_found : ByteArray := prog_1_method_15_code
def yX9_found : MethodName := ⟨RX9, "found", "(III)I"⟩
abbrev cX9_written : ByteArray := prog_1_method_16_code
def yX9_written : MethodName := ⟨RX9, "written", "(IIII)J"⟩
abbrev cX9_back : ByteArray := prog_1_method_17_code
def yX9_back : MethodName := ⟨RX9, "back", "(IIIIII)J"⟩
abbrev cX9_pile : ByteArray := prog_1_method_18_code
def yX9_pile : MethodName := ⟨RX9, "pile", "(II)J"⟩
abbrev cX9_grown : ByteArray := prog_1_method_19_code
def yX9_grown : MethodName := ⟨RX9, "grown", "(III)J"⟩
abbrev cX9_right : ByteArray := prog_1_method_20_code
def yX9_right : MethodName := ⟨RX9, "right", "(III)J"⟩
abbrev cX9_mix : ByteArray := prog_1_method_21_code
def yX9_mix : MethodName := ⟨RX9, "mix", "(IIIIII)J"⟩
abbrev cX9_fall : ByteArray := prog_1_method_22_code
def yX9_fall : MethodName := ⟨RX9, "fall", "(IIIIIII)J"⟩
abbrev cX9_alone : ByteArray := prog_1_method_23_code
def yX9_alone : MethodName := ⟨RX9, "alone", "(IIIIIIII)J"⟩
abbrev cX9_mean : ByteArray := prog_1_method_24_code
def yX9_mean : MethodName := ⟨RX9, "mean", "(II)J"⟩
abbrev cX9_mode : ByteArray := prog_1_method_25_code
def yX9_mode : MethodName := ⟨RX9, "mode", "(I)I"⟩
abbrev cX9_about : ByteArray := prog_1_method_26_code
def yX9_about : MethodName := ⟨RX9, "about", "(IIII)J"⟩
abbrev cX9_beside : ByteArray := prog_1_method_27_code
def yX9_beside : MethodName := ⟨RX9, "beside", "(IIII)J"⟩
abbrev cX9_shorter : ByteArray := prog_1_method_28_code
def yX9_shorter : MethodName := ⟨RX9, "shorter", "(IIII)I"⟩
abbrev cX9_make : ByteArray := prog_1_method_29_code
def yX9_make : MethodName := ⟨RX9, "make", "(IIIII)I"⟩
abbrev cX9_off : ByteArray := prog_1_method_30_code
def yX9_off : MethodName := ⟨RX9, "off", "(IIIIIII)I"⟩
abbrev cX9_best : ByteArray := prog_1_method_31_code
def yX9_best : MethodName := ⟨RX9, "best", "(IIIIII)I"⟩
abbrev cX9_image : ByteArray := prog_1_method_32_code
def yX9_image : MethodName := ⟨RX9, "image", "(I)I"⟩
abbrev cX9_restore : ByteArray := prog_1_method_33_code
def yX9_restore : MethodName := ⟨RX9, "restore", "(I)I"⟩
abbrev cX9_told : ByteArray := prog_1_method_34_code
def yX9_told : MethodName := ⟨RX9, "told", "(I)I"⟩
abbrev cX9_seekMiddle : ByteArray := prog_1_method_35_code
def yX9_seekMiddle : MethodName := ⟨RX9, "seekMiddle", "(LKingsInches$Book;I)V"⟩
abbrev cX9_seekSpan : ByteArray := prog_1_method_36_code
def yX9_seekSpan : MethodName := ⟨RX9, "seekSpan", "(LKingsInches$Book;II)V"⟩
abbrev cX9_offBy : ByteArray := prog_1_method_37_code
def yX9_offBy : MethodName := ⟨RX9, "offBy", "(LKingsInches$Book;IIIIII)I"⟩
abbrev cX9_undone : ByteArray := prog_1_method_38_code
def yX9_undone : MethodName := ⟨RX9, "undone", "(LKingsInches$Book;II)I"⟩
abbrev cX9_within : ByteArray := prog_1_method_39_code
def yX9_within : MethodName := ⟨RX9, "within", "(III)Z"⟩
abbrev cX9_isHeight : ByteArray := prog_1_method_40_code
def yX9_isHeight : MethodName := ⟨RX9, "isHeight", "(I)Z"⟩
abbrev cX9_isWidth : ByteArray := prog_1_method_41_code
def yX9_isWidth : MethodName := ⟨RX9, "isWidth", "(I)Z"⟩
abbrev cX9_isHump : ByteArray := prog_1_method_42_code
def yX9_isHump : MethodName := ⟨RX9, "isHump", "(II)Z"⟩
abbrev cX9_isPart : ByteArray := prog_1_method_43_code
def yX9_isPart : MethodName := ⟨RX9, "isPart", "(I)Z"⟩
abbrev cX9_isShare : ByteArray := prog_1_method_44_code
def yX9_isShare : MethodName := ⟨RX9, "isShare", "(I)Z"⟩
abbrev cX9_areShares : ByteArray := prog_1_method_45_code
def yX9_areShares : MethodName := ⟨RX9, "areShares", "(I)Z"⟩
abbrev cX9_areSorts : ByteArray := prog_1_method_46_code
def yX9_areSorts : MethodName := ⟨RX9, "areSorts", "(IIII)Z"⟩
abbrev cX9_isWorld : ByteArray := prog_1_method_47_code
def yX9_isWorld : MethodName := ⟨RX9, "isWorld", "(IIII)Z"⟩
abbrev cX9_isImage : ByteArray := prog_1_method_48_code
def yX9_isImage : MethodName := ⟨RX9, "isImage", "(I)Z"⟩
abbrev cX9_nearestInch : ByteArray := prog_1_method_49_code
def yX9_nearestInch : MethodName := ⟨RX9, "nearestInch", "(I)I"⟩
abbrev cX9_tellFall : ByteArray := prog_1_method_50_code
def yX9_tellFall : MethodName := ⟨RX9, "tellFall", "(LKingsInches$Sorts;III)J"⟩
abbrev cX9_tell : ByteArray := prog_1_method_51_code
def yX9_tell : MethodName := ⟨RX9, "tell", "(JJI)J"⟩
abbrev cX9_commonDivisor : ByteArray := prog_1_method_52_code
def yX9_commonDivisor : MethodName := ⟨RX9, "commonDivisor", "(JJ)J"⟩
def RX10 : String := "KingsInchesModel"
def TX10 : u_T := fun k => match k with
  | 0 => ("KingsInchesModel", "men", "[I", true)
  | 1 => ("KingsInchesModel", "years", "[I", true)
  | 2 => ("KingsInchesModel", "ages", "[I", true)
  | 3 => ("KingsInchesModel", "kinds", "[I", true)
  | 4 => ("KingsInchesModel", "ways", "[I", true)
  | 5 => ("KingsInchesModel", "signs", "[I", true)
  | 6 => ("KingsInchesModel", "signMany", "I", false)
  | 7 => ("KingsInchesModel", "caseFrom", "[I", true)
  | 8 => ("KingsInchesModel", "caseSays", "[I", true)
  | 9 => ("KingsInchesModel", "cases", "I", false)
  | 10 => ("KingsInchesModel", "testFact", "[I", true)
  | 11 => ("KingsInchesModel", "testHow", "[I", true)
  | 12 => ("KingsInchesModel", "testNumber", "[I", true)
  | 13 => ("KingsInchesModel", "tests", "I", false)
  | 14 => ("KingsInchesModel", "itemAge", "[I", true)
  | 15 => ("KingsInchesModel", "itemGrows", "[I", true)
  | 16 => ("KingsInchesModel", "items", "I", false)
  | 17 => ("KingsInchesModel", "chosen", "[I", true)
  | 18 => ("KingsInchesModel", "bestLine", "I", false)
  | 19 => ("KingsInchesModel", "bestMiddle", "I", false)
  | 20 => ("KingsInchesModel", "bestMisfit", "I", false)
  | 21 => ("KingsInchesModel", "spanLow", "I", false)
  | 22 => ("KingsInchesModel", "spanHigh", "I", false)
  | 23 => ("KingsInchesModel", "mixUpper", "J", false)
  | 24 => ("KingsInchesModel", "mixLower", "J", false)
  | 25 => ("KingsInchesModel", "endUpper", "J", false)
  | 26 => ("KingsInchesModel", "endLower", "J", false)
  | 27 => ("KingsInchesModel", "seed", "I", false)
  | 28 => ("KingsInchesModel", "held", "[I", true)
  | 29 => ("KingsInchesModel", "kept", "[I", true)
  | 30 => ("KingsInchesModel", "isKept", "[Z", true)
  | 31 => ("KingsInchesModel", "keptAt", "I", false)
  | _ => ("KingsInchesModel", "isWriting", "Z", false)
def tyX10 : Nat → FieldType := fun k => match k with
  | 0 => .array .int
  | 1 => .array .int
  | 2 => .array .int
  | 3 => .array .int
  | 4 => .array .int
  | 5 => .array .int
  | 6 => .int
  | 7 => .array .int
  | 8 => .array .int
  | 9 => .int
  | 10 => .array .int
  | 11 => .array .int
  | 12 => .array .int
  | 13 => .int
  | 14 => .array .int
  | 15 => .array .int
  | 16 => .int
  | 17 => .array .int
  | 18 => .int
  | 19 => .int
  | 20 => .int
  | 21 => .int
  | 22 => .int
  | 23 => .long
  | 24 => .long
  | 25 => .long
  | 26 => .long
  | 27 => .int
  | 28 => .array .int
  | 29 => .array .int
  | 30 => .array .boolean
  | 31 => .int
  | _ => .boolean
theorem nmX10 : ∀ a, a < 33 → ∀ b, b < 33 → a ≠ b → (TX10 a).2.1 ≠ (TX10 b).2.1 := by decide +kernel
theorem tyX10_ok : ∀ k, k < 33 → parseFieldDescriptor (TX10 k).2.2.1 = some (tyX10 k) := by decide +kernel
abbrev cX10_init : ByteArray := prog_12_method_1_code
def yX10_init : MethodName := ⟨RX10, "<init>", "()V"⟩
abbrev cX10_in : ByteArray := prog_12_method_3_code
def yX10_in : MethodName := ⟨RX10, "in", "(JJJ)Z"⟩
abbrev cX10_isBook : ByteArray := prog_12_method_4_code
def yX10_isBook : MethodName := ⟨RX10, "isBook", "(I)Z"⟩
abbrev cX10_isHeight : ByteArray := prog_12_method_5_code
def yX10_isHeight : MethodName := ⟨RX10, "isHeight", "(I)Z"⟩
abbrev cX10_isWidth : ByteArray := prog_12_method_6_code
def yX10_isWidth : MethodName := ⟨RX10, "isWidth", "(I)Z"⟩
abbrev cX10_isEnd : ByteArray := prog_12_method_7_code
def yX10_isEnd : MethodName := ⟨RX10, "isEnd", "(I)Z"⟩
abbrev cX10_apart : ByteArray := prog_12_method_8_code
def yX10_apart : MethodName := ⟨RX10, "apart", "(II)I"⟩
abbrev cX10_common : ByteArray := prog_12_method_9_code
def yX10_common : MethodName := ⟨RX10, "common", "(JJ)J"⟩
abbrev cX10_lowest : ByteArray := prog_12_method_10_code
def yX10_lowest : MethodName := ⟨RX10, "lowest", "(JJI)J"⟩
abbrev cX10_at : ByteArray := prog_12_method_11_code
def yX10_at : MethodName := ⟨RX10, "at", "(II)I"⟩
abbrev cX10_men : ByteArray := prog_12_method_12_code
def yX10_men : MethodName := ⟨RX10, "men", "(III)I"⟩
abbrev cX10_set : ByteArray := prog_12_method_13_code
def yX10_set : MethodName := ⟨RX10, "set", "(III)I"⟩
abbrev cX10_way : ByteArray := prog_12_method_14_code
def yX10_way : MethodName := ⟨RX10, "way", "(II)I"⟩
abbrev cX10_all : ByteArray := prog_12_method_15_code
def yX10_all : MethodName := ⟨RX10, "all", "(I)I"⟩
abbrev cX10_say : ByteArray := prog_12_method_16_code
def yX10_say : MethodName := ⟨RX10, "say", "(I)I"⟩
abbrev cX10_wipe : ByteArray := prog_12_method_17_code
def yX10_wipe : MethodName := ⟨RX10, "wipe", "()I"⟩
abbrev cX10_isDigit : ByteArray := prog_12_method_18_code
def yX10_isDigit : MethodName := ⟨RX10, "isDigit", "(I)Z"⟩
abbrev cX10_ruleStep : ByteArray := prog_12_method_19_code
def yX10_ruleStep : MethodName := ⟨RX10, "ruleStep", "(II)I"⟩
abbrev cX10_growthStep : ByteArray := prog_12_method_20_code
def yX10_growthStep : MethodName := ⟨RX10, "growthStep", "(II)I"⟩
abbrev cX10_faultOf : ByteArray := prog_12_method_21_code
def yX10_faultOf : MethodName := ⟨RX10, "faultOf", "(I)I"⟩
abbrev cX10_fault : ByteArray := prog_12_method_22_code
def yX10_fault : MethodName := ⟨RX10, "fault", "(I)I"⟩
abbrev cX10_takeRule : ByteArray := prog_12_method_23_code
def yX10_takeRule : MethodName := ⟨RX10, "takeRule", "()V"⟩
abbrev cX10_takeGrowth : ByteArray := prog_12_method_24_code
def yX10_takeGrowth : MethodName := ⟨RX10, "takeGrowth", "()V"⟩
abbrev cX10_take : ByteArray := prog_12_method_25_code
def yX10_take : MethodName := ⟨RX10, "take", "(I)I"⟩
abbrev cX10_lineOf : ByteArray := prog_12_method_26_code
def yX10_lineOf : MethodName := ⟨RX10, "lineOf", "(I)I"⟩
abbrev cX10_line : ByteArray := prog_12_method_27_code
def yX10_line : MethodName := ⟨RX10, "line", "(I)I"⟩
abbrev cX10_choose : ByteArray := prog_12_method_28_code
def yX10_choose : MethodName := ⟨RX10, "choose", "(II)I"⟩
abbrev cX10_humpOf : ByteArray := prog_12_method_29_code
def yX10_humpOf : MethodName := ⟨RX10, "humpOf", "(III)I"⟩
abbrev cX10_hump : ByteArray := prog_12_method_30_code
def yX10_hump : MethodName := ⟨RX10, "hump", "(III)I"⟩
abbrev cX10_upper : ByteArray := prog_12_method_31_code
def yX10_upper : MethodName := ⟨RX10, "upper", "(IIIII)J"⟩
abbrev cX10_findChosen : ByteArray := prog_12_method_32_code
def yX10_findChosen : MethodName := ⟨RX10, "findChosen", "(I)V"⟩
abbrev cX10_misfitOf : ByteArray := prog_12_method_33_code
def yX10_misfitOf : MethodName := ⟨RX10, "misfitOf", "(IIIII)I"⟩
abbrev cX10_misfit : ByteArray := prog_12_method_34_code
def yX10_misfit : MethodName := ⟨RX10, "misfit", "(IIII)I"⟩
abbrev cX10_keepBest : ByteArray := prog_12_method_35_code
def yX10_keepBest : MethodName := ⟨RX10, "keepBest", "(III)V"⟩
abbrev cX10_findFit : ByteArray := prog_12_method_36_code
def yX10_findFit : MethodName := ⟨RX10, "findFit", "(II)V"⟩
abbrev cX10_fit : ByteArray := prog_12_method_37_code
def yX10_fit : MethodName := ⟨RX10, "fit", "(III)I"⟩
abbrev cX10_findSpan : ByteArray := prog_12_method_38_code
def yX10_findSpan : MethodName := ⟨RX10, "findSpan", "(III)V"⟩
abbrev cX10_span : ByteArray := prog_12_method_39_code
def yX10_span : MethodName := ⟨RX10, "span", "(IIII)I"⟩
abbrev cX10_findLine : ByteArray := prog_12_method_40_code
def yX10_findLine : MethodName := ⟨RX10, "findLine", "(II)V"⟩
abbrev cX10_found : ByteArray := prog_12_method_41_code
def yX10_found : MethodName := ⟨RX10, "found", "(III)I"⟩
abbrev cX10_inchOf : ByteArray := prog_12_method_42_code
def yX10_inchOf : MethodName := ⟨RX10, "inchOf", "(I)I"⟩
abbrev cX10_writtenOf : ByteArray := prog_12_method_43_code
def yX10_writtenOf : MethodName := ⟨RX10, "writtenOf", "(III)I"⟩
abbrev cX10_written : ByteArray := prog_12_method_44_code
def yX10_written : MethodName := ⟨RX10, "written", "(IIII)J"⟩
abbrev cX10_back : ByteArray := prog_12_method_45_code
def yX10_back : MethodName := ⟨RX10, "back", "(IIIIII)J"⟩
abbrev cX10_pile : ByteArray := prog_12_method_46_code
def yX10_pile : MethodName := ⟨RX10, "pile", "(II)J"⟩
abbrev cX10_growsAt : ByteArray := prog_12_method_47_code
def yX10_growsAt : MethodName := ⟨RX10, "growsAt", "(I)I"⟩
abbrev cX10_grownFrom : ByteArray := prog_12_method_48_code
def yX10_grownFrom : MethodName := ⟨RX10, "grownFrom", "(I)I"⟩
abbrev cX10_meanGrown : ByteArray := prog_12_method_49_code
def yX10_meanGrown : MethodName := ⟨RX10, "meanGrown", "(I)I"⟩
abbrev cX10_grown : ByteArray := prog_12_method_50_code
def yX10_grown : MethodName := ⟨RX10, "grown", "(III)J"⟩
abbrev cX10_right : ByteArray := prog_12_method_51_code
def yX10_right : MethodName := ⟨RX10, "right", "(III)J"⟩
abbrev cX10_findMix : ByteArray := prog_12_method_52_code
def yX10_findMix : MethodName := ⟨RX10, "findMix", "(IIIII)Z"⟩
abbrev cX10_isShare : ByteArray := prog_12_method_53_code
def yX10_isShare : MethodName := ⟨RX10, "isShare", "(I)Z"⟩
abbrev cX10_areHumps : ByteArray := prog_12_method_54_code
def yX10_areHumps : MethodName := ⟨RX10, "areHumps", "(IIII)Z"⟩
abbrev cX10_mix : ByteArray := prog_12_method_55_code
def yX10_mix : MethodName := ⟨RX10, "mix", "(IIIIII)J"⟩
abbrev cX10_less : ByteArray := prog_12_method_56_code
def yX10_less : MethodName := ⟨RX10, "less", "(JJJJI)J"⟩
abbrev cX10_fall : ByteArray := prog_12_method_57_code
def yX10_fall : MethodName := ⟨RX10, "fall", "(IIIIIII)J"⟩
abbrev cX10_areShares : ByteArray := prog_12_method_58_code
def yX10_areShares : MethodName := ⟨RX10, "areShares", "(I)Z"⟩
abbrev cX10_findEnd : ByteArray := prog_12_method_59_code
def yX10_findEnd : MethodName := ⟨RX10, "findEnd", "(IIIIIZ)Z"⟩
abbrev cX10_alone : ByteArray := prog_12_method_60_code
def yX10_alone : MethodName := ⟨RX10, "alone", "(IIIIIIII)J"⟩
abbrev cX10_sumOf : ByteArray := prog_12_method_61_code
def yX10_sumOf : MethodName := ⟨RX10, "sumOf", "(I)J"⟩
abbrev cX10_mean : ByteArray := prog_12_method_62_code
def yX10_mean : MethodName := ⟨RX10, "mean", "(II)J"⟩
abbrev cX10_modeOf : ByteArray := prog_12_method_63_code
def yX10_modeOf : MethodName := ⟨RX10, "modeOf", "(I)I"⟩
abbrev cX10_mode : ByteArray := prog_12_method_64_code
def yX10_mode : MethodName := ⟨RX10, "mode", "(I)I"⟩
abbrev cX10_about : ByteArray := prog_12_method_65_code
def yX10_about : MethodName := ⟨RX10, "about", "(IIII)J"⟩
abbrev cX10_beside : ByteArray := prog_12_method_66_code
def yX10_beside : MethodName := ⟨RX10, "beside", "(IIII)J"⟩
abbrev cX10_shorter : ByteArray := prog_12_method_67_code
def yX10_shorter : MethodName := ⟨RX10, "shorter", "(IIII)I"⟩
abbrev cX10_draw : ByteArray := prog_12_method_68_code
def yX10_draw : MethodName := ⟨RX10, "draw", "(I)I"⟩
abbrev cX10_heightOf : ByteArray := prog_12_method_69_code
def yX10_heightOf : MethodName := ⟨RX10, "heightOf", "(III)I"⟩
abbrev cX10_writtenAt : ByteArray := prog_12_method_70_code
def yX10_writtenAt : MethodName := ⟨RX10, "writtenAt", "(II)I"⟩
abbrev cX10_makeIn : ByteArray := prog_12_method_71_code
def yX10_makeIn : MethodName := ⟨RX10, "makeIn", "(IIIII)I"⟩
abbrev cX10_isWorld : ByteArray := prog_12_method_72_code
def yX10_isWorld : MethodName := ⟨RX10, "isWorld", "(IIII)Z"⟩
abbrev cX10_make : ByteArray := prog_12_method_73_code
def yX10_make : MethodName := ⟨RX10, "make", "(IIIII)I"⟩
abbrev cX10_undone : ByteArray := prog_12_method_74_code
def yX10_undone : MethodName := ⟨RX10, "undone", "(III)I"⟩
abbrev cX10_offOf : ByteArray := prog_12_method_75_code
def yX10_offOf : MethodName := ⟨RX10, "offOf", "(IIIIIII)I"⟩
abbrev cX10_off : ByteArray := prog_12_method_76_code
def yX10_off : MethodName := ⟨RX10, "off", "(IIIIIII)I"⟩
abbrev cX10_best : ByteArray := prog_12_method_77_code
def yX10_best : MethodName := ⟨RX10, "best", "(IIIIII)I"⟩
abbrev cX10_pass : ByteArray := prog_12_method_78_code
def yX10_pass : MethodName := ⟨RX10, "pass", "(I)I"⟩
abbrev cX10_passAll : ByteArray := prog_12_method_79_code
def yX10_passAll : MethodName := ⟨RX10, "passAll", "()V"⟩
abbrev cX10_image : ByteArray := prog_12_method_80_code
def yX10_image : MethodName := ⟨RX10, "image", "(I)I"⟩
abbrev cX10_restore : ByteArray := prog_12_method_81_code
def yX10_restore : MethodName := ⟨RX10, "restore", "(I)I"⟩
abbrev cX10_told : ByteArray := prog_12_method_82_code
def yX10_told : MethodName := ⟨RX10, "told", "(I)I"⟩
def RJx8e188 : String := "java/lang/Cloneable"
def RJ9 : String := "java/lang/Math"
abbrev cJ9_abs_0f7a4 : ByteArray := prog_14_method_59_code
def yJ9_abs_0f7a4 : MethodName := ⟨RJ9, "abs", "(I)I"⟩
abbrev cJ9_abs_067f4 : ByteArray := prog_14_method_61_code
def yJ9_abs_067f4 : MethodName := ⟨RJ9, "abs", "(J)J"⟩
abbrev cJ9_max_7cf53 : ByteArray := prog_14_method_65_code
def yJ9_max_7cf53 : MethodName := ⟨RJ9, "max", "(II)I"⟩
abbrev cJ9_max_f86c9 : ByteArray := prog_14_method_66_code
def yJ9_max_f86c9 : MethodName := ⟨RJ9, "max", "(JJ)J"⟩
abbrev cJ9_min_7cf53 : ByteArray := prog_14_method_69_code
def yJ9_min_7cf53 : MethodName := ⟨RJ9, "min", "(II)I"⟩
def RJ10 : String := "java/lang/System"
def RJ7 : String := "java/util/Arrays"
abbrev cJ7_fill_53178 : ByteArray := prog_16_method_103_code
def yJ7_fill_53178 : MethodName := ⟨RJ7, "fill", "([II)V"⟩
def RL : String := "KingsInchesLaw"
abbrev cL_law : ByteArray := code
def yL_law : MethodName := ⟨RL, "law", "([I)Z"⟩
abbrev vwCl : List vw_C := [(RX0, TX0, 3), (RX2, TX2, 4), (RX3, TX3, 1), (RX4, TX4, 2), (RX6, TX6, 4), (RX7, TX7, 2), (RX8, TX8, 7), (RX9, TX9, 8), (RX10, TX10, 33)]
/-! the words of the tables that any state keeps; a method's record (name, code, locals, type); what a call, a field, a class needs of the tables -/
def kWd (w : Cond) : Prop := w ∈ lw_tbl ∧ goodWord w = true
def kWl : List Cond := lw_tbl.filter goodWord
theorem kWl_in {w : Cond} (h : kWd w) : w ∈ kWl := List.mem_filter.mpr h
theorem kWl_of {w : Cond} (h : w ∈ kWl) : kWd w := List.mem_filter.mp h
theorem kin_t {w : Cond} (h : w ∈ tables_1) : w ∈ lw_tbl := List.mem_append_right _ h
theorem kin1 {w : Cond} (h : w ∈ tables_1_1) : w ∈ lw_tbl := kin_t (List.mem_append_left _ h)
theorem kin2 {w : Cond} (h : w ∈ tables_1_2) : w ∈ lw_tbl := kin_t (List.mem_append_right _ (List.mem_append_left _ h))
theorem kin3 {w : Cond} (h : w ∈ tables_1_3) : w ∈ lw_tbl := kin_t (List.mem_append_right _ (List.mem_append_right _ (List.mem_append_left _ h)))
theorem kin4 {w : Cond} (h : w ∈ tables_1_4) : w ∈ lw_tbl := kin_t (List.mem_append_right _ (List.mem_append_right _ (List.mem_append_right _ (List.mem_append_left _ h))))
theorem kin5 {w : Cond} (h : w ∈ tables_1_5) : w ∈ lw_tbl := kin_t (List.mem_append_right _ (List.mem_append_right _ (List.mem_append_right _ (List.mem_append_right _ (h)))))
theorem kinS {w : Cond} (h : w ∈ k2_sels lw_privs) : w ∈ lw_tbl := List.mem_append_left _ h
abbrev kM : Type := MethodName × ByteArray × Nat × Option FieldType
def kMt (M : kM) (np : Nat) : Prop := plainName M.1.cls = true ∧ (M.1.cls ≠ "java/lang/invoke/MethodHandle" ∧ M.1.cls ≠ "java/lang/invoke/VarHandle" ∧ (parseMethodDescriptor M.1.desc).map (fun d => d.parameters.length) = some np) ∧ kWd (.code M.1 M.2.1 M.2.2.1 M.2.2.2) ∧ kWd (.initialized M.1.cls) ∧ M.2.2.1 ≤ 25
def kIn (M : kM) : Prop := kWd (.instanceMethod M.1) ∧ kWd (.selects M.1.cls M.1 M.1)
def kCl (ci : Nat) (C : String) (T : u_T) (N : Nat) (ty0 : Nat → FieldType) : Prop := vwCl[ci]? = some (C, T, N) ∧ (∀ w ∈ u_ws C T N, kWd w) ∧ (∀ k, k < N → parseFieldDescriptor (T k).2.2.1 = some (ty0 k)) ∧ (∀ a, a < N → ∀ b, b < N → a ≠ b → (T a).2.1 ≠ (T b).2.1) ∧ kWd (.instantiable C N)
def kFd (own : String) (idx ci k : Nat) : Prop := ∃ (C : String) (T : u_T) (N : Nat) (ty0 : Nat → FieldType), kCl ci C T N ty0 ∧ k < N ∧ kWd (.fieldLink own idx (T k).1 (T k).2.1 (T k).2.2.1)
def kPf (own : String) (idx ci k : Nat) (ty : FieldType) (fin : Bool) : Prop := ∃ (C : String) (T : u_T) (N : Nat) (ty0 : Nat → FieldType), kCl ci C T N ty0 ∧ k < N ∧ kWd (.fieldLink own idx (T k).1 (T k).2.1 (T k).2.2.1) ∧ (T k).2.2.2 = fin ∧ parseFieldDescriptor (T k).2.2.1 = some ty ∧ (fin = true → (T k).1 = own)
def kNw (own : String) (idx ci N : Nat) (ty0 : Nat → FieldType) : Prop := ∃ (C : String) (T : u_T), kCl ci C T N ty0 ∧ kWd (.classLink own idx C) ∧ kWd (.initialized C)
end
section
theorem wi_RL : kWd (.initialized RL) := ⟨kin1 (List.mem_of_getElem? (i := 0) (by decide +kernel)), by decide +kernel⟩
theorem wi_RX9 : kWd (.initialized RX9) := ⟨kin1 (List.mem_of_getElem? (i := 1) (by decide +kernel)), by decide +kernel⟩
theorem wi_RX7 : kWd (.initialized RX7) := ⟨kin1 (List.mem_of_getElem? (i := 2) (by decide +kernel)), by decide +kernel⟩
theorem wi_RX2 : kWd (.initialized RX2) := ⟨kin1 (List.mem_of_getElem? (i := 3) (by decide +kernel)), by decide +kernel⟩
theorem wi_RX0 : kWd (.initialized RX0) := ⟨kin1 (List.mem_of_getElem? (i := 4) (by decide +kernel)), by decide +kernel⟩
theorem wi_RX3 : kWd (.initialized RX3) := ⟨kin1 (List.mem_of_getElem? (i := 5) (by decide +kernel)), by decide +kernel⟩
theorem wi_RX8 : kWd (.initialized RX8) := ⟨kin1 (List.mem_of_getElem? (i := 6) (by decide +kernel)), by decide +kernel⟩
theorem wi_RX4 : kWd (.initialized RX4) := ⟨kin1 (List.mem_of_getElem? (i := 7) (by decide +kernel)), by decide +kernel⟩
theorem wi_RX10 : kWd (.initialized RX10) := ⟨kin1 (List.mem_of_getElem? (i := 8) (by decide +kernel)), by decide +kernel⟩
theorem wi_RX1 : kWd (.initialized RX1) := ⟨kin1 (List.mem_of_getElem? (i := 9) (by decide +kernel)), by decide +kernel⟩
theorem wi_RJ10 : kWd (.initialized RJ10) := ⟨kin1 (List.mem_of_getElem? (i := 10) (by decide +kernel)), by decide +kernel⟩
theorem wi_RX5 : kWd (.initialized RX5) := ⟨kin1 (List.mem_of_getElem? (i := 11) (by decide +kernel)), by decide +kernel⟩
theorem wi_RJ9 : kWd (.initialized RJ9) := ⟨kin1 (List.mem_of_getElem? (i := 12) (by decide +kernel)), by decide +kernel⟩
theorem wi_RX6 : kWd (.initialized RX6) := ⟨kin1 (List.mem_of_getElem? (i := 13) (by decide +kernel)), by decide +kernel⟩
theorem wi_RJ7 : kWd (.initialized RJ7) := ⟨kin1 (List.mem_of_getElem? (i := 14) (by decide +kernel)), by decide +kernel⟩
set_option maxRecDepth 100000 in
theorem clX0 : kCl 0 RX0 TX0 3 tyX0 := ⟨rfl, fun w h => ⟨(show ∀ w ∈ u_ws RX0 TX0 3, w ∈ lw_tbl by decide +kernel) w h, (show ∀ w ∈ u_ws RX0 TX0 3, goodWord w = true by decide +kernel) w h⟩, tyX0_ok, nmX0, ⟨kin1 (List.mem_of_getElem? (i := 52) (by decide +kernel)), by decide +kernel⟩⟩
set_option maxRecDepth 100000 in
theorem clX2 : kCl 1 RX2 TX2 4 tyX2 := ⟨rfl, fun w h => ⟨(show ∀ w ∈ u_ws RX2 TX2 4, w ∈ lw_tbl by decide +kernel) w h, (show ∀ w ∈ u_ws RX2 TX2 4, goodWord w = true by decide +kernel) w h⟩, tyX2_ok, nmX2, ⟨kin1 (List.mem_of_getElem? (i := 41) (by decide +kernel)), by decide +kernel⟩⟩
set_option maxRecDepth 100000 in
theorem clX3 : kCl 2 RX3 TX3 1 tyX3 := ⟨rfl, fun w h => ⟨(show ∀ w ∈ u_ws RX3 TX3 1, w ∈ lw_tbl by decide +kernel) w h, (show ∀ w ∈ u_ws RX3 TX3 1, goodWord w = true by decide +kernel) w h⟩, tyX3_ok, nmX3, ⟨kin1 (List.mem_of_getElem? (i := 96) (by decide +kernel)), by decide +kernel⟩⟩
set_option maxRecDepth 100000 in
theorem clX4 : kCl 3 RX4 TX4 2 tyX4 := ⟨rfl, fun w h => ⟨(show ∀ w ∈ u_ws RX4 TX4 2, w ∈ lw_tbl by decide +kernel) w h, (show ∀ w ∈ u_ws RX4 TX4 2, goodWord w = true by decide +kernel) w h⟩, tyX4_ok, nmX4, ⟨kin1 (List.mem_of_getElem? (i := 143) (by decide +kernel)), by decide +kernel⟩⟩
set_option maxRecDepth 100000 in
theorem clX6 : kCl 4 RX6 TX6 4 tyX6 := ⟨rfl, fun w h => ⟨(show ∀ w ∈ u_ws RX6 TX6 4, w ∈ lw_tbl by decide +kernel) w h, (show ∀ w ∈ u_ws RX6 TX6 4, goodWord w = true by decide +kernel) w h⟩, tyX6_ok, nmX6, ⟨kin3 (List.mem_of_getElem? (i := 1) (by decide +kernel)), by decide +kernel⟩⟩
set_option maxRecDepth 100000 in
theorem clX7 : kCl 5 RX7 TX7 2 tyX7 := ⟨rfl, fun w h => ⟨(show ∀ w ∈ u_ws RX7 TX7 2, w ∈ lw_tbl by decide +kernel) w h, (show ∀ w ∈ u_ws RX7 TX7 2, goodWord w = true by decide +kernel) w h⟩, tyX7_ok, nmX7, ⟨kin1 (List.mem_of_getElem? (i := 24) (by decide +kernel)), by decide +kernel⟩⟩
set_option maxRecDepth 100000 in
theorem clX8 : kCl 6 RX8 TX8 7 tyX8 := ⟨rfl, fun w h => ⟨(show ∀ w ∈ u_ws RX8 TX8 7, w ∈ lw_tbl by decide +kernel) w h, (show ∀ w ∈ u_ws RX8 TX8 7, goodWord w = true by decide +kernel) w h⟩, tyX8_ok, nmX8, ⟨kin1 (List.mem_of_getElem? (i := 109) (by decide +kernel)), by decide +kernel⟩⟩
set_option maxRecDepth 100000 in
theorem clX9 : kCl 7 RX9 TX9 8 tyX9 := ⟨rfl, fun w h => ⟨(show ∀ w ∈ u_ws RX9 TX9 8, w ∈ lw_tbl by decide +kernel) w h, (show ∀ w ∈ u_ws RX9 TX9 8, goodWord w = true by decide +kernel) w h⟩, tyX9_ok, nmX9, ⟨kin1 (List.mem_of_getElem? (i := 16) (by decide +kernel)), by decide +kernel⟩⟩
set_option maxRecDepth 100000 in
theorem clX10 : kCl 8 RX10 TX10 33 tyX10 := ⟨rfl, fun w h => ⟨(show ∀ w ∈ u_ws RX10 TX10 33, w ∈ lw_tbl by decide +kernel) w h, (show ∀ w ∈ u_ws RX10 TX10 33, goodWord w = true by decide +kernel) w h⟩, tyX10_ok, nmX10, ⟨kin3 (List.mem_of_getElem? (i := 182) (by decide +kernel)), by decide +kernel⟩⟩
def mX9_init : kM := (yX9_init, cX9_init, 2, none)
theorem mtX9_init : kMt mX9_init 0 := ⟨by decide +kernel, ⟨by decide +kernel, by decide +kernel, by decide +kernel⟩, ⟨kin1 (List.mem_of_getElem? (i := 19) (by decide +kernel)), by decide +kernel⟩, wi_RX9, by decide +kernel⟩
def mX7_init : kM := (yX7_init, cX7_init, 1, none)
theorem mtX7_init : kMt mX7_init 0 := ⟨by decide +kernel, ⟨by decide +kernel, by decide +kernel, by decide +kernel⟩, ⟨kin1 (List.mem_of_getElem? (i := 27) (by decide +kernel)), by decide +kernel⟩, wi_RX7, by decide +kernel⟩
def mX2_init : kM := (yX2_init, cX2_init, 2, none)
theorem mtX2_init : kMt mX2_init 0 := ⟨by decide +kernel, ⟨by decide +kernel, by decide +kernel, by decide +kernel⟩, ⟨kin1 (List.mem_of_getElem? (i := 44) (by decide +kernel)), by decide +kernel⟩, wi_RX2, by decide +kernel⟩
def mX0_init : kM := (yX0_init, cX0_init, 1, none)
theorem mtX0_init : kMt mX0_init 0 := ⟨by decide +kernel, ⟨by decide +kernel, by decide +kernel, by decide +kernel⟩, ⟨kin1 (List.mem_of_getElem? (i := 55) (by decide +kernel)), by decide +kernel⟩, wi_RX0, by decide +kernel⟩
def mX3_init : kM := (yX3_init, cX3_init, 4, none)
theorem mtX3_init : kMt mX3_init 0 := ⟨by decide +kernel, ⟨by decide +kernel, by decide +kernel, by decide +kernel⟩, ⟨kin1 (List.mem_of_getElem? (i := 99) (by decide +kernel)), by decide +kernel⟩, wi_RX3, by decide +kernel⟩
def mX8_init : kM := (yX8_init, cX8_init, 2, none)
theorem mtX8_init : kMt mX8_init 1 := ⟨by decide +kernel, ⟨by decide +kernel, by decide +kernel, by decide +kernel⟩, ⟨kin1 (List.mem_of_getElem? (i := 112) (by decide +kernel)), by decide +kernel⟩, wi_RX8, by decide +kernel⟩
def mX4_init : kM := (yX4_init, cX4_init, 2, none)
theorem mtX4_init : kMt mX4_init 1 := ⟨by decide +kernel, ⟨by decide +kernel, by decide +kernel, by decide +kernel⟩, ⟨kin1 (List.mem_of_getElem? (i := 146) (by decide +kernel)), by decide +kernel⟩, wi_RX4, by decide +kernel⟩
def mX9_men : kM := (yX9_men, cX9_men, 6, (some .int))
theorem mtX9_men : kMt mX9_men 3 := ⟨by decide +kernel, ⟨by decide +kernel, by decide +kernel, by decide +kernel⟩, ⟨kin1 (List.mem_of_getElem? (i := 185) (by decide +kernel)), by decide +kernel⟩, wi_RX9, by decide +kernel⟩
def mX2_bookAt : kM := (yX2_bookAt, cX2_bookAt, 2, (some (.object "KingsInches$Book")))
theorem mtX2_bookAt : kMt mX2_bookAt 1 := ⟨by decide +kernel, ⟨by decide +kernel, by decide +kernel, by decide +kernel⟩, ⟨kin1 (List.mem_of_getElem? (i := 189) (by decide +kernel)), by decide +kernel⟩, wi_RX2, by decide +kernel⟩
def mX9_within : kM := (yX9_within, cX9_within, 3, (some .boolean))
theorem mtX9_within : kMt mX9_within 3 := ⟨by decide +kernel, ⟨by decide +kernel, by decide +kernel, by decide +kernel⟩, ⟨kin1 (List.mem_of_getElem? (i := 192) (by decide +kernel)), by decide +kernel⟩, wi_RX9, by decide +kernel⟩
def mX9_isHeight : kM := (yX9_isHeight, cX9_isHeight, 1, (some .boolean))
theorem mtX9_isHeight : kMt mX9_isHeight 1 := ⟨by decide +kernel, ⟨by decide +kernel, by decide +kernel, by decide +kernel⟩, ⟨kin1 (List.mem_of_getElem? (i := 195) (by decide +kernel)), by decide +kernel⟩, wi_RX9, by decide +kernel⟩
def mX0_menAt : kM := (yX0_menAt, cX0_menAt, 2, (some .int))
theorem mtX0_menAt : kMt mX0_menAt 1 := ⟨by decide +kernel, ⟨by decide +kernel, by decide +kernel, by decide +kernel⟩, ⟨kin1 (List.mem_of_getElem? (i := 200) (by decide +kernel)), by decide +kernel⟩, wi_RX0, by decide +kernel⟩
def mX0_put : kM := (yX0_put, cX0_put, 3, none)
theorem mtX0_put : kMt mX0_put 2 := ⟨by decide +kernel, ⟨by decide +kernel, by decide +kernel, by decide +kernel⟩, ⟨kin1 (List.mem_of_getElem? (i := 204) (by decide +kernel)), by decide +kernel⟩, wi_RX0, by decide +kernel⟩
def mX9_set : kM := (yX9_set, cX9_set, 6, (some .int))
theorem mtX9_set : kMt mX9_set 3 := ⟨by decide +kernel, ⟨by decide +kernel, by decide +kernel, by decide +kernel⟩, ⟨kin1 (List.mem_of_getElem? (i := 209) (by decide +kernel)), by decide +kernel⟩, wi_RX9, by decide +kernel⟩
def mX0_entry : kM := (yX0_entry, cX0_entry, 2, (some .int))
theorem mtX0_entry : kMt mX0_entry 1 := ⟨by decide +kernel, ⟨by decide +kernel, by decide +kernel, by decide +kernel⟩, ⟨kin1 (List.mem_of_getElem? (i := 217) (by decide +kernel)), by decide +kernel⟩, wi_RX0, by decide +kernel⟩
def mX0_enter : kM := (yX0_enter, cX0_enter, 3, none)
theorem mtX0_enter : kMt mX0_enter 2 := ⟨by decide +kernel, ⟨by decide +kernel, by decide +kernel, by decide +kernel⟩, ⟨kin1 (List.mem_of_getElem? (i := 222) (by decide +kernel)), by decide +kernel⟩, wi_RX0, by decide +kernel⟩
def mX9_way : kM := (yX9_way, cX9_way, 4, (some .int))
theorem mtX9_way : kMt mX9_way 2 := ⟨by decide +kernel, ⟨by decide +kernel, by decide +kernel, by decide +kernel⟩, ⟨kin1 (List.mem_of_getElem? (i := 226) (by decide +kernel)), by decide +kernel⟩, wi_RX9, by decide +kernel⟩
def mX2_wayOf : kM := (yX2_wayOf, cX2_wayOf, 2, (some .int))
theorem mtX2_wayOf : kMt mX2_wayOf 1 := ⟨by decide +kernel, ⟨by decide +kernel, by decide +kernel, by decide +kernel⟩, ⟨kin1 (List.mem_of_getElem? (i := 231) (by decide +kernel)), by decide +kernel⟩, wi_RX2, by decide +kernel⟩
def mX2_turn : kM := (yX2_turn, cX2_turn, 3, none)
theorem mtX2_turn : kMt mX2_turn 2 := ⟨by decide +kernel, ⟨by decide +kernel, by decide +kernel, by decide +kernel⟩, ⟨kin1 (List.mem_of_getElem? (i := 235) (by decide +kernel)), by decide +kernel⟩, wi_RX2, by decide +kernel⟩
def mX9_say : kM := (yX9_say, cX9_say, 2, (some .int))
theorem mtX9_say : kMt mX9_say 1 := ⟨by decide +kernel, ⟨by decide +kernel, by decide +kernel, by decide +kernel⟩, ⟨kin1 (List.mem_of_getElem? (i := 239) (by decide +kernel)), by decide +kernel⟩, wi_RX9, by decide +kernel⟩
def mX7_add : kM := (yX7_add, cX7_add, 2, (some .boolean))
theorem mtX7_add : kMt mX7_add 1 := ⟨by decide +kernel, ⟨by decide +kernel, by decide +kernel, by decide +kernel⟩, ⟨kin2 (List.mem_of_getElem? (i := 3) (by decide +kernel)), by decide +kernel⟩, wi_RX7, by decide +kernel⟩
def mX9_wipe : kM := (yX9_wipe, cX9_wipe, 2, (some .int))
theorem mtX9_wipe : kMt mX9_wipe 0 := ⟨by decide +kernel, ⟨by decide +kernel, by decide +kernel, by decide +kernel⟩, ⟨kin2 (List.mem_of_getElem? (i := 7) (by decide +kernel)), by decide +kernel⟩, wi_RX9, by decide +kernel⟩
def mX7_clear : kM := (yX7_clear, cX7_clear, 1, none)
theorem mtX7_clear : kMt mX7_clear 0 := ⟨by decide +kernel, ⟨by decide +kernel, by decide +kernel, by decide +kernel⟩, ⟨kin2 (List.mem_of_getElem? (i := 11) (by decide +kernel)), by decide +kernel⟩, wi_RX7, by decide +kernel⟩
def mX9_fault : kM := (yX9_fault, cX9_fault, 2, (some .int))
theorem mtX9_fault : kMt mX9_fault 1 := ⟨by decide +kernel, ⟨by decide +kernel, by decide +kernel, by decide +kernel⟩, ⟨kin2 (List.mem_of_getElem? (i := 15) (by decide +kernel)), by decide +kernel⟩, wi_RX9, by decide +kernel⟩
def mX1_faultOf : kM := (yX1_faultOf, cX1_faultOf, 4, (some .int))
theorem mtX1_faultOf : kMt mX1_faultOf 2 := ⟨by decide +kernel, ⟨by decide +kernel, by decide +kernel, by decide +kernel⟩, ⟨kin2 (List.mem_of_getElem? (i := 18) (by decide +kernel)), by decide +kernel⟩, wi_RX1, by decide +kernel⟩
def mX7_signAt : kM := (yX7_signAt, cX7_signAt, 2, (some .int))
theorem mtX7_signAt : kMt mX7_signAt 1 := ⟨by decide +kernel, ⟨by decide +kernel, by decide +kernel, by decide +kernel⟩, ⟨kin2 (List.mem_of_getElem? (i := 22) (by decide +kernel)), by decide +kernel⟩, wi_RX7, by decide +kernel⟩
def mX1_after : kM := (yX1_after, cX1_after, 2, (some .int))
theorem mtX1_after : kMt mX1_after 2 := ⟨by decide +kernel, ⟨by decide +kernel, by decide +kernel, by decide +kernel⟩, ⟨kin2 (List.mem_of_getElem? (i := 25) (by decide +kernel)), by decide +kernel⟩, wi_RX1, by decide +kernel⟩
def mX1_beginTest : kM := (yX1_beginTest, cX1_beginTest, 1, (some .int))
theorem mtX1_beginTest : kMt mX1_beginTest 1 := ⟨by decide +kernel, ⟨by decide +kernel, by decide +kernel, by decide +kernel⟩, ⟨kin2 (List.mem_of_getElem? (i := 28) (by decide +kernel)), by decide +kernel⟩, wi_RX1, by decide +kernel⟩
def mX1_isDigit : kM := (yX1_isDigit, cX1_isDigit, 1, (some .boolean))
theorem mtX1_isDigit : kMt mX1_isDigit 1 := ⟨by decide +kernel, ⟨by decide +kernel, by decide +kernel, by decide +kernel⟩, ⟨kin2 (List.mem_of_getElem? (i := 31) (by decide +kernel)), by decide +kernel⟩, wi_RX1, by decide +kernel⟩
def mX1_endTest : kM := (yX1_endTest, cX1_endTest, 1, (some .int))
theorem mtX1_endTest : kMt mX1_endTest 1 := ⟨by decide +kernel, ⟨by decide +kernel, by decide +kernel, by decide +kernel⟩, ⟨kin2 (List.mem_of_getElem? (i := 34) (by decide +kernel)), by decide +kernel⟩, wi_RX1, by decide +kernel⟩
def mX1_endPiece : kM := (yX1_endPiece, cX1_endPiece, 2, (some .int))
theorem mtX1_endPiece : kMt mX1_endPiece 2 := ⟨by decide +kernel, ⟨by decide +kernel, by decide +kernel, by decide +kernel⟩, ⟨kin2 (List.mem_of_getElem? (i := 37) (by decide +kernel)), by decide +kernel⟩, wi_RX1, by decide +kernel⟩
def mX1_afterInGrowth : kM := (yX1_afterInGrowth, cX1_afterInGrowth, 2, (some .int))
theorem mtX1_afterInGrowth : kMt mX1_afterInGrowth 2 := ⟨by decide +kernel, ⟨by decide +kernel, by decide +kernel, by decide +kernel⟩, ⟨kin2 (List.mem_of_getElem? (i := 40) (by decide +kernel)), by decide +kernel⟩, wi_RX1, by decide +kernel⟩
def mX1_endAge : kM := (yX1_endAge, cX1_endAge, 1, (some .int))
theorem mtX1_endAge : kMt mX1_endAge 1 := ⟨by decide +kernel, ⟨by decide +kernel, by decide +kernel, by decide +kernel⟩, ⟨kin2 (List.mem_of_getElem? (i := 43) (by decide +kernel)), by decide +kernel⟩, wi_RX1, by decide +kernel⟩
def mX9_take : kM := (yX9_take, cX9_take, 3, (some .int))
theorem mtX9_take : kMt mX9_take 1 := ⟨by decide +kernel, ⟨by decide +kernel, by decide +kernel, by decide +kernel⟩, ⟨kin2 (List.mem_of_getElem? (i := 47) (by decide +kernel)), by decide +kernel⟩, wi_RX9, by decide +kernel⟩
def mX7_copyFrom : kM := (yX7_copyFrom, cX7_copyFrom, 2, none)
theorem mtX7_copyFrom : kMt mX7_copyFrom 1 := ⟨by decide +kernel, ⟨by decide +kernel, by decide +kernel, by decide +kernel⟩, ⟨kin2 (List.mem_of_getElem? (i := 51) (by decide +kernel)), by decide +kernel⟩, wi_RX7, by decide +kernel⟩
def mX7_pieces : kM := (yX7_pieces, cX7_pieces, 3, (some .int))
theorem mtX7_pieces : kMt mX7_pieces 0 := ⟨by decide +kernel, ⟨by decide +kernel, by decide +kernel, by decide +kernel⟩, ⟨kin2 (List.mem_of_getElem? (i := 58) (by decide +kernel)), by decide +kernel⟩, wi_RX7, by decide +kernel⟩
def mX9_line : kM := (yX9_line, cX9_line, 3, (some .int))
theorem mtX9_line : kMt mX9_line 1 := ⟨by decide +kernel, ⟨by decide +kernel, by decide +kernel, by decide +kernel⟩, ⟨kin2 (List.mem_of_getElem? (i := 63) (by decide +kernel)), by decide +kernel⟩, wi_RX9, by decide +kernel⟩
def mX2_lineOf : kM := (yX2_lineOf, cX2_lineOf, 2, (some .int))
theorem mtX2_lineOf : kMt mX2_lineOf 1 := ⟨by decide +kernel, ⟨by decide +kernel, by decide +kernel, by decide +kernel⟩, ⟨kin2 (List.mem_of_getElem? (i := 67) (by decide +kernel)), by decide +kernel⟩, wi_RX2, by decide +kernel⟩
def mX5_lineBy : kM := (yX5_lineBy, cX5_lineBy, 9, (some .int))
theorem mtX5_lineBy : kMt mX5_lineBy 3 := ⟨by decide +kernel, ⟨by decide +kernel, by decide +kernel, by decide +kernel⟩, ⟨kin2 (List.mem_of_getElem? (i := 71) (by decide +kernel)), by decide +kernel⟩, wi_RX5, by decide +kernel⟩
def mX5_holds : kM := (yX5_holds, cX5_holds, 3, (some .boolean))
theorem mtX5_holds : kMt mX5_holds 3 := ⟨by decide +kernel, ⟨by decide +kernel, by decide +kernel, by decide +kernel⟩, ⟨kin2 (List.mem_of_getElem? (i := 76) (by decide +kernel)), by decide +kernel⟩, wi_RX5, by decide +kernel⟩
def mJ9_min_7cf53 : kM := (yJ9_min_7cf53, cJ9_min_7cf53, 2, (some .int))
theorem mkJ9_min_7cf53 : kWd (.code yJ9_min_7cf53 cJ9_min_7cf53 2 (some .int)) := ⟨kin2 (List.mem_of_getElem? (i := 79) (by decide +kernel)), by decide +kernel⟩
def mX9_hump : kM := (yX9_hump, cX9_hump, 4, (some .int))
theorem mtX9_hump : kMt mX9_hump 3 := ⟨by decide +kernel, ⟨by decide +kernel, by decide +kernel, by decide +kernel⟩, ⟨kin2 (List.mem_of_getElem? (i := 83) (by decide +kernel)), by decide +kernel⟩, wi_RX9, by decide +kernel⟩
def mX9_isHump : kM := (yX9_isHump, cX9_isHump, 2, (some .boolean))
theorem mtX9_isHump : kMt mX9_isHump 2 := ⟨by decide +kernel, ⟨by decide +kernel, by decide +kernel, by decide +kernel⟩, ⟨kin2 (List.mem_of_getElem? (i := 86) (by decide +kernel)), by decide +kernel⟩, wi_RX9, by decide +kernel⟩
def mX9_isWidth : kM := (yX9_isWidth, cX9_isWidth, 1, (some .boolean))
theorem mtX9_isWidth : kMt mX9_isWidth 1 := ⟨by decide +kernel, ⟨by decide +kernel, by decide +kernel, by decide +kernel⟩, ⟨kin2 (List.mem_of_getElem? (i := 89) (by decide +kernel)), by decide +kernel⟩, wi_RX9, by decide +kernel⟩
def mX3_menAt : kM := (yX3_menAt, cX3_menAt, 4, (some .int))
theorem mtX3_menAt : kMt mX3_menAt 3 := ⟨by decide +kernel, ⟨by decide +kernel, by decide +kernel, by decide +kernel⟩, ⟨kin2 (List.mem_of_getElem? (i := 93) (by decide +kernel)), by decide +kernel⟩, wi_RX3, by decide +kernel⟩
def mX3_waysOf : kM := (yX3_waysOf, cX3_waysOf, 3, (some .int))
theorem mtX3_waysOf : kMt mX3_waysOf 2 := ⟨by decide +kernel, ⟨by decide +kernel, by decide +kernel, by decide +kernel⟩, ⟨kin2 (List.mem_of_getElem? (i := 97) (by decide +kernel)), by decide +kernel⟩, wi_RX3, by decide +kernel⟩
def mX9_upper : kM := (yX9_upper, cX9_upper, 8, (some .long))
theorem mtX9_upper : kMt mX9_upper 5 := ⟨by decide +kernel, ⟨by decide +kernel, by decide +kernel, by decide +kernel⟩, ⟨kin2 (List.mem_of_getElem? (i := 101) (by decide +kernel)), by decide +kernel⟩, wi_RX9, by decide +kernel⟩
def mX9_isPart : kM := (yX9_isPart, cX9_isPart, 1, (some .boolean))
theorem mtX9_isPart : kMt mX9_isPart 1 := ⟨by decide +kernel, ⟨by decide +kernel, by decide +kernel, by decide +kernel⟩, ⟨kin2 (List.mem_of_getElem? (i := 104) (by decide +kernel)), by decide +kernel⟩, wi_RX9, by decide +kernel⟩
def mX3_countFrom : kM := (yX3_countFrom, cX3_countFrom, 7, (some .long))
theorem mtX3_countFrom : kMt mX3_countFrom 3 := ⟨by decide +kernel, ⟨by decide +kernel, by decide +kernel, by decide +kernel⟩, ⟨kin2 (List.mem_of_getElem? (i := 109) (by decide +kernel)), by decide +kernel⟩, wi_RX3, by decide +kernel⟩
def mJ9_max_7cf53 : kM := (yJ9_max_7cf53, cJ9_max_7cf53, 2, (some .int))
theorem mkJ9_max_7cf53 : kWd (.code yJ9_max_7cf53 cJ9_max_7cf53 2 (some .int)) := ⟨kin2 (List.mem_of_getElem? (i := 112) (by decide +kernel)), by decide +kernel⟩
def mX9_tell : kM := (yX9_tell, cX9_tell, 5, (some .long))
theorem mtX9_tell : kMt mX9_tell 3 := ⟨by decide +kernel, ⟨by decide +kernel, by decide +kernel, by decide +kernel⟩, ⟨kin2 (List.mem_of_getElem? (i := 116) (by decide +kernel)), by decide +kernel⟩, wi_RX9, by decide +kernel⟩
def mJ9_abs_067f4 : kM := (yJ9_abs_067f4, cJ9_abs_067f4, 2, (some .long))
theorem mkJ9_abs_067f4 : kWd (.code yJ9_abs_067f4 cJ9_abs_067f4 2 (some .long)) := ⟨kin2 (List.mem_of_getElem? (i := 119) (by decide +kernel)), by decide +kernel⟩
def mX9_commonDivisor : kM := (yX9_commonDivisor, cX9_commonDivisor, 11, (some .long))
theorem mtX9_commonDivisor : kMt mX9_commonDivisor 2 := ⟨by decide +kernel, ⟨by decide +kernel, by decide +kernel, by decide +kernel⟩, ⟨kin2 (List.mem_of_getElem? (i := 122) (by decide +kernel)), by decide +kernel⟩, wi_RX9, by decide +kernel⟩
def mJ9_max_f86c9 : kM := (yJ9_max_f86c9, cJ9_max_f86c9, 4, (some .long))
theorem mkJ9_max_f86c9 : kWd (.code yJ9_max_f86c9 cJ9_max_f86c9 4 (some .long)) := ⟨kin2 (List.mem_of_getElem? (i := 125) (by decide +kernel)), by decide +kernel⟩
def mX3_sumFrom : kM := (yX3_sumFrom, cX3_sumFrom, 7, (some .long))
theorem mtX3_sumFrom : kMt mX3_sumFrom 3 := ⟨by decide +kernel, ⟨by decide +kernel, by decide +kernel, by decide +kernel⟩, ⟨kin2 (List.mem_of_getElem? (i := 129) (by decide +kernel)), by decide +kernel⟩, wi_RX3, by decide +kernel⟩
def mX9_misfit : kM := (yX9_misfit, cX9_misfit, 6, (some .int))
theorem mtX9_misfit : kMt mX9_misfit 4 := ⟨by decide +kernel, ⟨by decide +kernel, by decide +kernel, by decide +kernel⟩, ⟨kin2 (List.mem_of_getElem? (i := 133) (by decide +kernel)), by decide +kernel⟩, wi_RX9, by decide +kernel⟩
def mX8_misfitOf : kM := (yX8_misfitOf, cX8_misfitOf, 14, (some .int))
theorem mtX8_misfitOf : kMt mX8_misfitOf 5 := ⟨by decide +kernel, ⟨by decide +kernel, by decide +kernel, by decide +kernel⟩, ⟨kin2 (List.mem_of_getElem? (i := 137) (by decide +kernel)), by decide +kernel⟩, wi_RX8, by decide +kernel⟩
def mX9_fit : kM := (yX9_fit, cX9_fit, 5, (some .int))
theorem mtX9_fit : kMt mX9_fit 3 := ⟨by decide +kernel, ⟨by decide +kernel, by decide +kernel, by decide +kernel⟩, ⟨kin2 (List.mem_of_getElem? (i := 146) (by decide +kernel)), by decide +kernel⟩, wi_RX9, by decide +kernel⟩
def mX9_seekMiddle : kM := (yX9_seekMiddle, cX9_seekMiddle, 3, none)
theorem mtX9_seekMiddle : kMt mX9_seekMiddle 2 := ⟨by decide +kernel, ⟨by decide +kernel, by decide +kernel, by decide +kernel⟩, ⟨kin2 (List.mem_of_getElem? (i := 150) (by decide +kernel)), by decide +kernel⟩, wi_RX9, by decide +kernel⟩
def mX8_seekMiddle : kM := (yX8_seekMiddle, cX8_seekMiddle, 6, none)
theorem mtX8_seekMiddle : kMt mX8_seekMiddle 4 := ⟨by decide +kernel, ⟨by decide +kernel, by decide +kernel, by decide +kernel⟩, ⟨kin2 (List.mem_of_getElem? (i := 154) (by decide +kernel)), by decide +kernel⟩, wi_RX8, by decide +kernel⟩
def mX8_offer : kM := (yX8_offer, cX8_offer, 4, none)
theorem mtX8_offer : kMt mX8_offer 3 := ⟨by decide +kernel, ⟨by decide +kernel, by decide +kernel, by decide +kernel⟩, ⟨kin2 (List.mem_of_getElem? (i := 159) (by decide +kernel)), by decide +kernel⟩, wi_RX8, by decide +kernel⟩
def mX9_span : kM := (yX9_span, cX9_span, 6, (some .int))
theorem mtX9_span : kMt mX9_span 4 := ⟨by decide +kernel, ⟨by decide +kernel, by decide +kernel, by decide +kernel⟩, ⟨kin2 (List.mem_of_getElem? (i := 163) (by decide +kernel)), by decide +kernel⟩, wi_RX9, by decide +kernel⟩
def mX9_seekSpan : kM := (yX9_seekSpan, cX9_seekSpan, 4, none)
theorem mtX9_seekSpan : kMt mX9_seekSpan 3 := ⟨by decide +kernel, ⟨by decide +kernel, by decide +kernel, by decide +kernel⟩, ⟨kin2 (List.mem_of_getElem? (i := 167) (by decide +kernel)), by decide +kernel⟩, wi_RX9, by decide +kernel⟩
def mX8_seekSpan : kM := (yX8_seekSpan, cX8_seekSpan, 8, none)
theorem mtX8_seekSpan : kMt mX8_seekSpan 5 := ⟨by decide +kernel, ⟨by decide +kernel, by decide +kernel, by decide +kernel⟩, ⟨kin2 (List.mem_of_getElem? (i := 171) (by decide +kernel)), by decide +kernel⟩, wi_RX8, by decide +kernel⟩
def mX9_found : kM := (yX9_found, cX9_found, 5, (some .int))
theorem mtX9_found : kMt mX9_found 3 := ⟨by decide +kernel, ⟨by decide +kernel, by decide +kernel, by decide +kernel⟩, ⟨kin2 (List.mem_of_getElem? (i := 176) (by decide +kernel)), by decide +kernel⟩, wi_RX9, by decide +kernel⟩
def mX8_seekLine : kM := (yX8_seekLine, cX8_seekLine, 7, none)
theorem mtX8_seekLine : kMt mX8_seekLine 3 := ⟨by decide +kernel, ⟨by decide +kernel, by decide +kernel, by decide +kernel⟩, ⟨kin2 (List.mem_of_getElem? (i := 180) (by decide +kernel)), by decide +kernel⟩, wi_RX8, by decide +kernel⟩
def mX9_written : kM := (yX9_written, cX9_written, 5, (some .long))
theorem mtX9_written : kMt mX9_written 4 := ⟨by decide +kernel, ⟨by decide +kernel, by decide +kernel, by decide +kernel⟩, ⟨kin2 (List.mem_of_getElem? (i := 184) (by decide +kernel)), by decide +kernel⟩, wi_RX9, by decide +kernel⟩
def mX2_hundredths : kM := (yX2_hundredths, cX2_hundredths, 8, (some .int))
theorem mtX2_hundredths : kMt mX2_hundredths 3 := ⟨by decide +kernel, ⟨by decide +kernel, by decide +kernel, by decide +kernel⟩, ⟨kin2 (List.mem_of_getElem? (i := 188) (by decide +kernel)), by decide +kernel⟩, wi_RX2, by decide +kernel⟩
def mX9_nearestInch : kM := (yX9_nearestInch, cX9_nearestInch, 2, (some .int))
theorem mtX9_nearestInch : kMt mX9_nearestInch 1 := ⟨by decide +kernel, ⟨by decide +kernel, by decide +kernel, by decide +kernel⟩, ⟨kin2 (List.mem_of_getElem? (i := 192) (by decide +kernel)), by decide +kernel⟩, wi_RX9, by decide +kernel⟩
def mX9_back : kM := (yX9_back, cX9_back, 11, (some .long))
theorem mtX9_back : kMt mX9_back 6 := ⟨by decide +kernel, ⟨by decide +kernel, by decide +kernel, by decide +kernel⟩, ⟨kin2 (List.mem_of_getElem? (i := 198) (by decide +kernel)), by decide +kernel⟩, wi_RX9, by decide +kernel⟩
def mX9_pile : kM := (yX9_pile, cX9_pile, 4, (some .long))
theorem mtX9_pile : kMt mX9_pile 2 := ⟨by decide +kernel, ⟨by decide +kernel, by decide +kernel, by decide +kernel⟩, ⟨kin2 (List.mem_of_getElem? (i := 202) (by decide +kernel)), by decide +kernel⟩, wi_RX9, by decide +kernel⟩
def mX0_atWholeInches : kM := (yX0_atWholeInches, cX0_atWholeInches, 3, (some .int))
theorem mtX0_atWholeInches : kMt mX0_atWholeInches 0 := ⟨by decide +kernel, ⟨by decide +kernel, by decide +kernel, by decide +kernel⟩, ⟨kin2 (List.mem_of_getElem? (i := 208) (by decide +kernel)), by decide +kernel⟩, wi_RX0, by decide +kernel⟩
def mX9_grown : kM := (yX9_grown, cX9_grown, 5, (some .long))
theorem mtX9_grown : kMt mX9_grown 3 := ⟨by decide +kernel, ⟨by decide +kernel, by decide +kernel, by decide +kernel⟩, ⟨kin2 (List.mem_of_getElem? (i := 212) (by decide +kernel)), by decide +kernel⟩, wi_RX9, by decide +kernel⟩
def mX2_growthFrom : kM := (yX2_growthFrom, cX2_growthFrom, 4, (some .int))
theorem mtX2_growthFrom : kMt mX2_growthFrom 1 := ⟨by decide +kernel, ⟨by decide +kernel, by decide +kernel, by decide +kernel⟩, ⟨kin2 (List.mem_of_getElem? (i := 216) (by decide +kernel)), by decide +kernel⟩, wi_RX2, by decide +kernel⟩
def mX5_growthAt : kM := (yX5_growthAt, cX5_growthAt, 6, (some .int))
theorem mtX5_growthAt : kMt mX5_growthAt 2 := ⟨by decide +kernel, ⟨by decide +kernel, by decide +kernel, by decide +kernel⟩, ⟨kin2 (List.mem_of_getElem? (i := 219) (by decide +kernel)), by decide +kernel⟩, wi_RX5, by decide +kernel⟩
def mX2_tenthsGrown : kM := (yX2_tenthsGrown, cX2_tenthsGrown, 4, (some .int))
theorem mtX2_tenthsGrown : kMt mX2_tenthsGrown 1 := ⟨by decide +kernel, ⟨by decide +kernel, by decide +kernel, by decide +kernel⟩, ⟨kin2 (List.mem_of_getElem? (i := 223) (by decide +kernel)), by decide +kernel⟩, wi_RX2, by decide +kernel⟩
def mX9_right : kM := (yX9_right, cX9_right, 5, (some .long))
theorem mtX9_right : kMt mX9_right 3 := ⟨by decide +kernel, ⟨by decide +kernel, by decide +kernel, by decide +kernel⟩, ⟨kin2 (List.mem_of_getElem? (i := 229) (by decide +kernel)), by decide +kernel⟩, wi_RX9, by decide +kernel⟩
def mX9_mix : kM := (yX9_mix, cX9_mix, 8, (some .long))
theorem mtX9_mix : kMt mX9_mix 6 := ⟨by decide +kernel, ⟨by decide +kernel, by decide +kernel, by decide +kernel⟩, ⟨kin2 (List.mem_of_getElem? (i := 233) (by decide +kernel)), by decide +kernel⟩, wi_RX9, by decide +kernel⟩
def mX9_areSorts : kM := (yX9_areSorts, cX9_areSorts, 4, (some .boolean))
theorem mtX9_areSorts : kMt mX9_areSorts 4 := ⟨by decide +kernel, ⟨by decide +kernel, by decide +kernel, by decide +kernel⟩, ⟨kin2 (List.mem_of_getElem? (i := 236) (by decide +kernel)), by decide +kernel⟩, wi_RX9, by decide +kernel⟩
def mX9_isShare : kM := (yX9_isShare, cX9_isShare, 1, (some .boolean))
theorem mtX9_isShare : kMt mX9_isShare 1 := ⟨by decide +kernel, ⟨by decide +kernel, by decide +kernel, by decide +kernel⟩, ⟨kin2 (List.mem_of_getElem? (i := 239) (by decide +kernel)), by decide +kernel⟩, wi_RX9, by decide +kernel⟩
def mX6_init : kM := (yX6_init, cX6_init, 6, none)
theorem mtX6_init : kMt mX6_init 5 := ⟨by decide +kernel, ⟨by decide +kernel, by decide +kernel, by decide +kernel⟩, ⟨kin3 (List.mem_of_getElem? (i := 4) (by decide +kernel)), by decide +kernel⟩, wi_RX6, by decide +kernel⟩
def mX6_lack : kM := (yX6_lack, cX6_lack, 2, (some .boolean))
theorem mtX6_lack : kMt mX6_lack 1 := ⟨by decide +kernel, ⟨by decide +kernel, by decide +kernel, by decide +kernel⟩, ⟨kin3 (List.mem_of_getElem? (i := 24) (by decide +kernel)), by decide +kernel⟩, wi_RX6, by decide +kernel⟩
def mX6_count : kM := (yX6_count, cX6_count, 2, (some .long))
theorem mtX6_count : kMt mX6_count 1 := ⟨by decide +kernel, ⟨by decide +kernel, by decide +kernel, by decide +kernel⟩, ⟨kin3 (List.mem_of_getElem? (i := 28) (by decide +kernel)), by decide +kernel⟩, wi_RX6, by decide +kernel⟩
def mX6_sum : kM := (yX6_sum, cX6_sum, 2, (some .long))
theorem mtX6_sum : kMt mX6_sum 1 := ⟨by decide +kernel, ⟨by decide +kernel, by decide +kernel, by decide +kernel⟩, ⟨kin3 (List.mem_of_getElem? (i := 33) (by decide +kernel)), by decide +kernel⟩, wi_RX6, by decide +kernel⟩
def mX9_fall : kM := (yX9_fall, cX9_fall, 9, (some .long))
theorem mtX9_fall : kMt mX9_fall 7 := ⟨by decide +kernel, ⟨by decide +kernel, by decide +kernel, by decide +kernel⟩, ⟨kin3 (List.mem_of_getElem? (i := 38) (by decide +kernel)), by decide +kernel⟩, wi_RX9, by decide +kernel⟩
def mX9_tellFall : kM := (yX9_tellFall, cX9_tellFall, 4, (some .long))
theorem mtX9_tellFall : kMt mX9_tellFall 4 := ⟨by decide +kernel, ⟨by decide +kernel, by decide +kernel, by decide +kernel⟩, ⟨kin3 (List.mem_of_getElem? (i := 41) (by decide +kernel)), by decide +kernel⟩, wi_RX9, by decide +kernel⟩
def mX6_gap : kM := (yX6_gap, cX6_gap, 3, (some .long))
theorem mtX6_gap : kMt mX6_gap 2 := ⟨by decide +kernel, ⟨by decide +kernel, by decide +kernel, by decide +kernel⟩, ⟨kin3 (List.mem_of_getElem? (i := 45) (by decide +kernel)), by decide +kernel⟩, wi_RX6, by decide +kernel⟩
def mX9_alone : kM := (yX9_alone, cX9_alone, 14, (some .long))
theorem mtX9_alone : kMt mX9_alone 8 := ⟨by decide +kernel, ⟨by decide +kernel, by decide +kernel, by decide +kernel⟩, ⟨kin3 (List.mem_of_getElem? (i := 50) (by decide +kernel)), by decide +kernel⟩, wi_RX9, by decide +kernel⟩
def mX9_areShares : kM := (yX9_areShares, cX9_areShares, 3, (some .boolean))
theorem mtX9_areShares : kMt mX9_areShares 1 := ⟨by decide +kernel, ⟨by decide +kernel, by decide +kernel, by decide +kernel⟩, ⟨kin3 (List.mem_of_getElem? (i := 53) (by decide +kernel)), by decide +kernel⟩, wi_RX9, by decide +kernel⟩
def mX6_lesser : kM := (yX6_lesser, cX6_lesser, 3, (some .int))
theorem mtX6_lesser : kMt mX6_lesser 2 := ⟨by decide +kernel, ⟨by decide +kernel, by decide +kernel, by decide +kernel⟩, ⟨kin3 (List.mem_of_getElem? (i := 57) (by decide +kernel)), by decide +kernel⟩, wi_RX6, by decide +kernel⟩
def mX6_greater : kM := (yX6_greater, cX6_greater, 3, (some .int))
theorem mtX6_greater : kMt mX6_greater 2 := ⟨by decide +kernel, ⟨by decide +kernel, by decide +kernel, by decide +kernel⟩, ⟨kin3 (List.mem_of_getElem? (i := 62) (by decide +kernel)), by decide +kernel⟩, wi_RX6, by decide +kernel⟩
def mX9_mean : kM := (yX9_mean, cX9_mean, 4, (some .long))
theorem mtX9_mean : kMt mX9_mean 2 := ⟨by decide +kernel, ⟨by decide +kernel, by decide +kernel, by decide +kernel⟩, ⟨kin3 (List.mem_of_getElem? (i := 66) (by decide +kernel)), by decide +kernel⟩, wi_RX9, by decide +kernel⟩
def mX0_sumMoved : kM := (yX0_sumMoved, cX0_sumMoved, 5, (some .long))
theorem mtX0_sumMoved : kMt mX0_sumMoved 1 := ⟨by decide +kernel, ⟨by decide +kernel, by decide +kernel, by decide +kernel⟩, ⟨kin3 (List.mem_of_getElem? (i := 70) (by decide +kernel)), by decide +kernel⟩, wi_RX0, by decide +kernel⟩
def mX9_mode : kM := (yX9_mode, cX9_mode, 3, (some .int))
theorem mtX9_mode : kMt mX9_mode 1 := ⟨by decide +kernel, ⟨by decide +kernel, by decide +kernel, by decide +kernel⟩, ⟨kin3 (List.mem_of_getElem? (i := 76) (by decide +kernel)), by decide +kernel⟩, wi_RX9, by decide +kernel⟩
def mX0_commonest : kM := (yX0_commonest, cX0_commonest, 3, (some .int))
theorem mtX0_commonest : kMt mX0_commonest 0 := ⟨by decide +kernel, ⟨by decide +kernel, by decide +kernel, by decide +kernel⟩, ⟨kin3 (List.mem_of_getElem? (i := 80) (by decide +kernel)), by decide +kernel⟩, wi_RX0, by decide +kernel⟩
def mX9_about : kM := (yX9_about, cX9_about, 6, (some .long))
theorem mtX9_about : kMt mX9_about 4 := ⟨by decide +kernel, ⟨by decide +kernel, by decide +kernel, by decide +kernel⟩, ⟨kin3 (List.mem_of_getElem? (i := 84) (by decide +kernel)), by decide +kernel⟩, wi_RX9, by decide +kernel⟩
def mX9_beside : kM := (yX9_beside, cX9_beside, 9, (some .long))
theorem mtX9_beside : kMt mX9_beside 4 := ⟨by decide +kernel, ⟨by decide +kernel, by decide +kernel, by decide +kernel⟩, ⟨kin3 (List.mem_of_getElem? (i := 89) (by decide +kernel)), by decide +kernel⟩, wi_RX9, by decide +kernel⟩
def mX9_shorter : kM := (yX9_shorter, cX9_shorter, 8, (some .int))
theorem mtX9_shorter : kMt mX9_shorter 4 := ⟨by decide +kernel, ⟨by decide +kernel, by decide +kernel, by decide +kernel⟩, ⟨kin3 (List.mem_of_getElem? (i := 93) (by decide +kernel)), by decide +kernel⟩, wi_RX9, by decide +kernel⟩
def mX9_make : kM := (yX9_make, cX9_make, 7, (some .int))
theorem mtX9_make : kMt mX9_make 5 := ⟨by decide +kernel, ⟨by decide +kernel, by decide +kernel, by decide +kernel⟩, ⟨kin3 (List.mem_of_getElem? (i := 97) (by decide +kernel)), by decide +kernel⟩, wi_RX9, by decide +kernel⟩
def mX9_isWorld : kM := (yX9_isWorld, cX9_isWorld, 4, (some .boolean))
theorem mtX9_isWorld : kMt mX9_isWorld 4 := ⟨by decide +kernel, ⟨by decide +kernel, by decide +kernel, by decide +kernel⟩, ⟨kin3 (List.mem_of_getElem? (i := 100) (by decide +kernel)), by decide +kernel⟩, wi_RX9, by decide +kernel⟩
def mX4_fill : kM := (yX4_fill, cX4_fill, 12, (some .int))
theorem mtX4_fill : kMt mX4_fill 6 := ⟨by decide +kernel, ⟨by decide +kernel, by decide +kernel, by decide +kernel⟩, ⟨kin3 (List.mem_of_getElem? (i := 104) (by decide +kernel)), by decide +kernel⟩, wi_RX4, by decide +kernel⟩
def mX0_clearMen : kM := (yX0_clearMen, cX0_clearMen, 1, none)
theorem mtX0_clearMen : kMt mX0_clearMen 0 := ⟨by decide +kernel, ⟨by decide +kernel, by decide +kernel, by decide +kernel⟩, ⟨kin3 (List.mem_of_getElem? (i := 108) (by decide +kernel)), by decide +kernel⟩, wi_RX0, by decide +kernel⟩
def mJ7_fill_53178 : kM := (yJ7_fill_53178, cJ7_fill_53178, 4, none)
theorem mtJ7_fill_53178 : kMt mJ7_fill_53178 2 := ⟨by decide +kernel, ⟨by decide +kernel, by decide +kernel, by decide +kernel⟩, ⟨kin3 (List.mem_of_getElem? (i := 111) (by decide +kernel)), by decide +kernel⟩, wi_RJ7, by decide +kernel⟩
def mX4_draw : kM := (yX4_draw, cX4_draw, 2, (some .int))
theorem mtX4_draw : kMt mX4_draw 1 := ⟨by decide +kernel, ⟨by decide +kernel, by decide +kernel, by decide +kernel⟩, ⟨kin3 (List.mem_of_getElem? (i := 116) (by decide +kernel)), by decide +kernel⟩, wi_RX4, by decide +kernel⟩
def mX3_heightOf : kM := (yX3_heightOf, cX3_heightOf, 6, (some .int))
theorem mtX3_heightOf : kMt mX3_heightOf 3 := ⟨by decide +kernel, ⟨by decide +kernel, by decide +kernel, by decide +kernel⟩, ⟨kin3 (List.mem_of_getElem? (i := 121) (by decide +kernel)), by decide +kernel⟩, wi_RX3, by decide +kernel⟩
def mX4_placeOf : kM := (yX4_placeOf, cX4_placeOf, 5, (some .int))
theorem mtX4_placeOf : kMt mX4_placeOf 3 := ⟨by decide +kernel, ⟨by decide +kernel, by decide +kernel, by decide +kernel⟩, ⟨kin3 (List.mem_of_getElem? (i := 126) (by decide +kernel)), by decide +kernel⟩, wi_RX4, by decide +kernel⟩
def mX9_off : kM := (yX9_off, cX9_off, 9, (some .int))
theorem mtX9_off : kMt mX9_off 7 := ⟨by decide +kernel, ⟨by decide +kernel, by decide +kernel, by decide +kernel⟩, ⟨kin3 (List.mem_of_getElem? (i := 134) (by decide +kernel)), by decide +kernel⟩, wi_RX9, by decide +kernel⟩
def mX9_offBy : kM := (yX9_offBy, cX9_offBy, 11, (some .int))
theorem mtX9_offBy : kMt mX9_offBy 7 := ⟨by decide +kernel, ⟨by decide +kernel, by decide +kernel, by decide +kernel⟩, ⟨kin3 (List.mem_of_getElem? (i := 138) (by decide +kernel)), by decide +kernel⟩, wi_RX9, by decide +kernel⟩
def mX0_copyEntries : kM := (yX0_copyEntries, cX0_copyEntries, 2, none)
theorem mtX0_copyEntries : kMt mX0_copyEntries 1 := ⟨by decide +kernel, ⟨by decide +kernel, by decide +kernel, by decide +kernel⟩, ⟨kin3 (List.mem_of_getElem? (i := 142) (by decide +kernel)), by decide +kernel⟩, wi_RX0, by decide +kernel⟩
def mX9_undone : kM := (yX9_undone, cX9_undone, 4, (some .int))
theorem mtX9_undone : kMt mX9_undone 3 := ⟨by decide +kernel, ⟨by decide +kernel, by decide +kernel, by decide +kernel⟩, ⟨kin3 (List.mem_of_getElem? (i := 147) (by decide +kernel)), by decide +kernel⟩, wi_RX9, by decide +kernel⟩
def mJ9_abs_0f7a4 : kM := (yJ9_abs_0f7a4, cJ9_abs_0f7a4, 1, (some .int))
theorem mkJ9_abs_0f7a4 : kWd (.code yJ9_abs_0f7a4 cJ9_abs_0f7a4 1 (some .int)) := ⟨kin3 (List.mem_of_getElem? (i := 150) (by decide +kernel)), by decide +kernel⟩
def mX9_best : kM := (yX9_best, cX9_best, 12, (some .int))
theorem mtX9_best : kMt mX9_best 6 := ⟨by decide +kernel, ⟨by decide +kernel, by decide +kernel, by decide +kernel⟩, ⟨kin3 (List.mem_of_getElem? (i := 154) (by decide +kernel)), by decide +kernel⟩, wi_RX9, by decide +kernel⟩
def mX9_image : kM := (yX9_image, cX9_image, 2, (some .int))
theorem mtX9_image : kMt mX9_image 1 := ⟨by decide +kernel, ⟨by decide +kernel, by decide +kernel, by decide +kernel⟩, ⟨kin3 (List.mem_of_getElem? (i := 158) (by decide +kernel)), by decide +kernel⟩, wi_RX9, by decide +kernel⟩
def mX9_isImage : kM := (yX9_isImage, cX9_isImage, 1, (some .boolean))
theorem mtX9_isImage : kMt mX9_isImage 1 := ⟨by decide +kernel, ⟨by decide +kernel, by decide +kernel, by decide +kernel⟩, ⟨kin3 (List.mem_of_getElem? (i := 161) (by decide +kernel)), by decide +kernel⟩, wi_RX9, by decide +kernel⟩
def mX2_copyFrom : kM := (yX2_copyFrom, cX2_copyFrom, 3, none)
theorem mtX2_copyFrom : kMt mX2_copyFrom 1 := ⟨by decide +kernel, ⟨by decide +kernel, by decide +kernel, by decide +kernel⟩, ⟨kin3 (List.mem_of_getElem? (i := 165) (by decide +kernel)), by decide +kernel⟩, wi_RX2, by decide +kernel⟩
def mX0_copyFrom : kM := (yX0_copyFrom, cX0_copyFrom, 2, none)
theorem mtX0_copyFrom : kMt mX0_copyFrom 1 := ⟨by decide +kernel, ⟨by decide +kernel, by decide +kernel, by decide +kernel⟩, ⟨kin3 (List.mem_of_getElem? (i := 169) (by decide +kernel)), by decide +kernel⟩, wi_RX0, by decide +kernel⟩
def mX9_restore : kM := (yX9_restore, cX9_restore, 2, (some .int))
theorem mtX9_restore : kMt mX9_restore 1 := ⟨by decide +kernel, ⟨by decide +kernel, by decide +kernel, by decide +kernel⟩, ⟨kin3 (List.mem_of_getElem? (i := 176) (by decide +kernel)), by decide +kernel⟩, wi_RX9, by decide +kernel⟩
def mX9_told : kM := (yX9_told, cX9_told, 3, (some .int))
theorem mtX9_told : kMt mX9_told 1 := ⟨by decide +kernel, ⟨by decide +kernel, by decide +kernel, by decide +kernel⟩, ⟨kin3 (List.mem_of_getElem? (i := 180) (by decide +kernel)), by decide +kernel⟩, wi_RX9, by decide +kernel⟩
def mX10_init : kM := (yX10_init, cX10_init, 2, none)
theorem mtX10_init : kMt mX10_init 0 := ⟨by decide +kernel, ⟨by decide +kernel, by decide +kernel, by decide +kernel⟩, ⟨kin3 (List.mem_of_getElem? (i := 185) (by decide +kernel)), by decide +kernel⟩, wi_RX10, by decide +kernel⟩
def mX10_men : kM := (yX10_men, cX10_men, 5, (some .int))
theorem mtX10_men : kMt mX10_men 3 := ⟨by decide +kernel, ⟨by decide +kernel, by decide +kernel, by decide +kernel⟩, ⟨kin4 (List.mem_of_getElem? (i := 50) (by decide +kernel)), by decide +kernel⟩, wi_RX10, by decide +kernel⟩
def mX10_isBook : kM := (yX10_isBook, cX10_isBook, 1, (some .boolean))
theorem mtX10_isBook : kMt mX10_isBook 1 := ⟨by decide +kernel, ⟨by decide +kernel, by decide +kernel, by decide +kernel⟩, ⟨kin4 (List.mem_of_getElem? (i := 53) (by decide +kernel)), by decide +kernel⟩, wi_RX10, by decide +kernel⟩
def mX10_in : kM := (yX10_in, cX10_in, 6, (some .boolean))
theorem mtX10_in : kMt mX10_in 3 := ⟨by decide +kernel, ⟨by decide +kernel, by decide +kernel, by decide +kernel⟩, ⟨kin4 (List.mem_of_getElem? (i := 57) (by decide +kernel)), by decide +kernel⟩, wi_RX10, by decide +kernel⟩
def mX10_isHeight : kM := (yX10_isHeight, cX10_isHeight, 1, (some .boolean))
theorem mtX10_isHeight : kMt mX10_isHeight 1 := ⟨by decide +kernel, ⟨by decide +kernel, by decide +kernel, by decide +kernel⟩, ⟨kin4 (List.mem_of_getElem? (i := 60) (by decide +kernel)), by decide +kernel⟩, wi_RX10, by decide +kernel⟩
def mX10_at : kM := (yX10_at, cX10_at, 2, (some .int))
theorem mtX10_at : kMt mX10_at 2 := ⟨by decide +kernel, ⟨by decide +kernel, by decide +kernel, by decide +kernel⟩, ⟨kin4 (List.mem_of_getElem? (i := 65) (by decide +kernel)), by decide +kernel⟩, wi_RX10, by decide +kernel⟩
def mX10_set : kM := (yX10_set, cX10_set, 5, (some .int))
theorem mtX10_set : kMt mX10_set 3 := ⟨by decide +kernel, ⟨by decide +kernel, by decide +kernel, by decide +kernel⟩, ⟨kin4 (List.mem_of_getElem? (i := 69) (by decide +kernel)), by decide +kernel⟩, wi_RX10, by decide +kernel⟩
def mX10_way : kM := (yX10_way, cX10_way, 4, (some .int))
theorem mtX10_way : kMt mX10_way 2 := ⟨by decide +kernel, ⟨by decide +kernel, by decide +kernel, by decide +kernel⟩, ⟨kin4 (List.mem_of_getElem? (i := 77) (by decide +kernel)), by decide +kernel⟩, wi_RX10, by decide +kernel⟩
def mX10_say : kM := (yX10_say, cX10_say, 2, (some .int))
theorem mtX10_say : kMt mX10_say 1 := ⟨by decide +kernel, ⟨by decide +kernel, by decide +kernel, by decide +kernel⟩, ⟨kin4 (List.mem_of_getElem? (i := 84) (by decide +kernel)), by decide +kernel⟩, wi_RX10, by decide +kernel⟩
def mX10_wipe : kM := (yX10_wipe, cX10_wipe, 2, (some .int))
theorem mtX10_wipe : kMt mX10_wipe 0 := ⟨by decide +kernel, ⟨by decide +kernel, by decide +kernel, by decide +kernel⟩, ⟨kin4 (List.mem_of_getElem? (i := 90) (by decide +kernel)), by decide +kernel⟩, wi_RX10, by decide +kernel⟩
def mX10_fault : kM := (yX10_fault, cX10_fault, 2, (some .int))
theorem mtX10_fault : kMt mX10_fault 1 := ⟨by decide +kernel, ⟨by decide +kernel, by decide +kernel, by decide +kernel⟩, ⟨kin4 (List.mem_of_getElem? (i := 94) (by decide +kernel)), by decide +kernel⟩, wi_RX10, by decide +kernel⟩
def mX10_isEnd : kM := (yX10_isEnd, cX10_isEnd, 1, (some .boolean))
theorem mtX10_isEnd : kMt mX10_isEnd 1 := ⟨by decide +kernel, ⟨by decide +kernel, by decide +kernel, by decide +kernel⟩, ⟨kin4 (List.mem_of_getElem? (i := 97) (by decide +kernel)), by decide +kernel⟩, wi_RX10, by decide +kernel⟩
def mX10_faultOf : kM := (yX10_faultOf, cX10_faultOf, 4, (some .int))
theorem mtX10_faultOf : kMt mX10_faultOf 1 := ⟨by decide +kernel, ⟨by decide +kernel, by decide +kernel, by decide +kernel⟩, ⟨kin4 (List.mem_of_getElem? (i := 101) (by decide +kernel)), by decide +kernel⟩, wi_RX10, by decide +kernel⟩
def mX10_ruleStep : kM := (yX10_ruleStep, cX10_ruleStep, 2, (some .int))
theorem mtX10_ruleStep : kMt mX10_ruleStep 2 := ⟨by decide +kernel, ⟨by decide +kernel, by decide +kernel, by decide +kernel⟩, ⟨kin4 (List.mem_of_getElem? (i := 104) (by decide +kernel)), by decide +kernel⟩, wi_RX10, by decide +kernel⟩
def mX10_isDigit : kM := (yX10_isDigit, cX10_isDigit, 1, (some .boolean))
theorem mtX10_isDigit : kMt mX10_isDigit 1 := ⟨by decide +kernel, ⟨by decide +kernel, by decide +kernel, by decide +kernel⟩, ⟨kin4 (List.mem_of_getElem? (i := 107) (by decide +kernel)), by decide +kernel⟩, wi_RX10, by decide +kernel⟩
def mX10_growthStep : kM := (yX10_growthStep, cX10_growthStep, 2, (some .int))
theorem mtX10_growthStep : kMt mX10_growthStep 2 := ⟨by decide +kernel, ⟨by decide +kernel, by decide +kernel, by decide +kernel⟩, ⟨kin4 (List.mem_of_getElem? (i := 112) (by decide +kernel)), by decide +kernel⟩, wi_RX10, by decide +kernel⟩
def mX10_take : kM := (yX10_take, cX10_take, 2, (some .int))
theorem mtX10_take : kMt mX10_take 1 := ⟨by decide +kernel, ⟨by decide +kernel, by decide +kernel, by decide +kernel⟩, ⟨kin4 (List.mem_of_getElem? (i := 116) (by decide +kernel)), by decide +kernel⟩, wi_RX10, by decide +kernel⟩
def mX10_takeRule : kM := (yX10_takeRule, cX10_takeRule, 4, none)
theorem mtX10_takeRule : kMt mX10_takeRule 0 := ⟨by decide +kernel, ⟨by decide +kernel, by decide +kernel, by decide +kernel⟩, ⟨kin4 (List.mem_of_getElem? (i := 120) (by decide +kernel)), by decide +kernel⟩, wi_RX10, by decide +kernel⟩
def mX10_takeGrowth : kM := (yX10_takeGrowth, cX10_takeGrowth, 4, none)
theorem mtX10_takeGrowth : kMt mX10_takeGrowth 0 := ⟨by decide +kernel, ⟨by decide +kernel, by decide +kernel, by decide +kernel⟩, ⟨kin4 (List.mem_of_getElem? (i := 124) (by decide +kernel)), by decide +kernel⟩, wi_RX10, by decide +kernel⟩
def mX10_line : kM := (yX10_line, cX10_line, 2, (some .int))
theorem mtX10_line : kMt mX10_line 1 := ⟨by decide +kernel, ⟨by decide +kernel, by decide +kernel, by decide +kernel⟩, ⟨kin4 (List.mem_of_getElem? (i := 128) (by decide +kernel)), by decide +kernel⟩, wi_RX10, by decide +kernel⟩
def mX10_lineOf : kM := (yX10_lineOf, cX10_lineOf, 7, (some .int))
theorem mtX10_lineOf : kMt mX10_lineOf 1 := ⟨by decide +kernel, ⟨by decide +kernel, by decide +kernel, by decide +kernel⟩, ⟨kin4 (List.mem_of_getElem? (i := 132) (by decide +kernel)), by decide +kernel⟩, wi_RX10, by decide +kernel⟩
def mX10_hump : kM := (yX10_hump, cX10_hump, 4, (some .int))
theorem mtX10_hump : kMt mX10_hump 3 := ⟨by decide +kernel, ⟨by decide +kernel, by decide +kernel, by decide +kernel⟩, ⟨kin4 (List.mem_of_getElem? (i := 136) (by decide +kernel)), by decide +kernel⟩, wi_RX10, by decide +kernel⟩
def mX10_isWidth : kM := (yX10_isWidth, cX10_isWidth, 1, (some .boolean))
theorem mtX10_isWidth : kMt mX10_isWidth 1 := ⟨by decide +kernel, ⟨by decide +kernel, by decide +kernel, by decide +kernel⟩, ⟨kin4 (List.mem_of_getElem? (i := 139) (by decide +kernel)), by decide +kernel⟩, wi_RX10, by decide +kernel⟩
def mX10_humpOf : kM := (yX10_humpOf, cX10_humpOf, 3, (some .int))
theorem mtX10_humpOf : kMt mX10_humpOf 3 := ⟨by decide +kernel, ⟨by decide +kernel, by decide +kernel, by decide +kernel⟩, ⟨kin4 (List.mem_of_getElem? (i := 143) (by decide +kernel)), by decide +kernel⟩, wi_RX10, by decide +kernel⟩
def mX10_choose : kM := (yX10_choose, cX10_choose, 4, (some .int))
theorem mtX10_choose : kMt mX10_choose 2 := ⟨by decide +kernel, ⟨by decide +kernel, by decide +kernel, by decide +kernel⟩, ⟨kin4 (List.mem_of_getElem? (i := 146) (by decide +kernel)), by decide +kernel⟩, wi_RX10, by decide +kernel⟩
def mX10_upper : kM := (yX10_upper, cX10_upper, 14, (some .long))
theorem mtX10_upper : kMt mX10_upper 5 := ⟨by decide +kernel, ⟨by decide +kernel, by decide +kernel, by decide +kernel⟩, ⟨kin4 (List.mem_of_getElem? (i := 150) (by decide +kernel)), by decide +kernel⟩, wi_RX10, by decide +kernel⟩
def mX10_lowest : kM := (yX10_lowest, cX10_lowest, 7, (some .long))
theorem mtX10_lowest : kMt mX10_lowest 3 := ⟨by decide +kernel, ⟨by decide +kernel, by decide +kernel, by decide +kernel⟩, ⟨kin4 (List.mem_of_getElem? (i := 154) (by decide +kernel)), by decide +kernel⟩, wi_RX10, by decide +kernel⟩
def mX10_common : kM := (yX10_common, cX10_common, 10, (some .long))
theorem mtX10_common : kMt mX10_common 2 := ⟨by decide +kernel, ⟨by decide +kernel, by decide +kernel, by decide +kernel⟩, ⟨kin4 (List.mem_of_getElem? (i := 157) (by decide +kernel)), by decide +kernel⟩, wi_RX10, by decide +kernel⟩
def mX10_misfit : kM := (yX10_misfit, cX10_misfit, 5, (some .int))
theorem mtX10_misfit : kMt mX10_misfit 4 := ⟨by decide +kernel, ⟨by decide +kernel, by decide +kernel, by decide +kernel⟩, ⟨kin4 (List.mem_of_getElem? (i := 161) (by decide +kernel)), by decide +kernel⟩, wi_RX10, by decide +kernel⟩
def mX10_findChosen : kM := (yX10_findChosen, cX10_findChosen, 3, none)
theorem mtX10_findChosen : kMt mX10_findChosen 1 := ⟨by decide +kernel, ⟨by decide +kernel, by decide +kernel, by decide +kernel⟩, ⟨kin4 (List.mem_of_getElem? (i := 165) (by decide +kernel)), by decide +kernel⟩, wi_RX10, by decide +kernel⟩
def mX10_all : kM := (yX10_all, cX10_all, 4, (some .int))
theorem mtX10_all : kMt mX10_all 1 := ⟨by decide +kernel, ⟨by decide +kernel, by decide +kernel, by decide +kernel⟩, ⟨kin4 (List.mem_of_getElem? (i := 169) (by decide +kernel)), by decide +kernel⟩, wi_RX10, by decide +kernel⟩
def mX10_misfitOf : kM := (yX10_misfitOf, cX10_misfitOf, 14, (some .int))
theorem mtX10_misfitOf : kMt mX10_misfitOf 5 := ⟨by decide +kernel, ⟨by decide +kernel, by decide +kernel, by decide +kernel⟩, ⟨kin4 (List.mem_of_getElem? (i := 173) (by decide +kernel)), by decide +kernel⟩, wi_RX10, by decide +kernel⟩
def mX10_apart : kM := (yX10_apart, cX10_apart, 2, (some .int))
theorem mtX10_apart : kMt mX10_apart 2 := ⟨by decide +kernel, ⟨by decide +kernel, by decide +kernel, by decide +kernel⟩, ⟨kin4 (List.mem_of_getElem? (i := 176) (by decide +kernel)), by decide +kernel⟩, wi_RX10, by decide +kernel⟩
def mX10_fit : kM := (yX10_fit, cX10_fit, 4, (some .int))
theorem mtX10_fit : kMt mX10_fit 3 := ⟨by decide +kernel, ⟨by decide +kernel, by decide +kernel, by decide +kernel⟩, ⟨kin4 (List.mem_of_getElem? (i := 180) (by decide +kernel)), by decide +kernel⟩, wi_RX10, by decide +kernel⟩
def mX10_findFit : kM := (yX10_findFit, cX10_findFit, 6, none)
theorem mtX10_findFit : kMt mX10_findFit 2 := ⟨by decide +kernel, ⟨by decide +kernel, by decide +kernel, by decide +kernel⟩, ⟨kin4 (List.mem_of_getElem? (i := 184) (by decide +kernel)), by decide +kernel⟩, wi_RX10, by decide +kernel⟩
def mX10_keepBest : kM := (yX10_keepBest, cX10_keepBest, 4, none)
theorem mtX10_keepBest : kMt mX10_keepBest 3 := ⟨by decide +kernel, ⟨by decide +kernel, by decide +kernel, by decide +kernel⟩, ⟨kin4 (List.mem_of_getElem? (i := 188) (by decide +kernel)), by decide +kernel⟩, wi_RX10, by decide +kernel⟩
def mX10_span : kM := (yX10_span, cX10_span, 5, (some .int))
theorem mtX10_span : kMt mX10_span 4 := ⟨by decide +kernel, ⟨by decide +kernel, by decide +kernel, by decide +kernel⟩, ⟨kin4 (List.mem_of_getElem? (i := 192) (by decide +kernel)), by decide +kernel⟩, wi_RX10, by decide +kernel⟩
def mX10_findSpan : kM := (yX10_findSpan, cX10_findSpan, 8, none)
theorem mtX10_findSpan : kMt mX10_findSpan 3 := ⟨by decide +kernel, ⟨by decide +kernel, by decide +kernel, by decide +kernel⟩, ⟨kin4 (List.mem_of_getElem? (i := 196) (by decide +kernel)), by decide +kernel⟩, wi_RX10, by decide +kernel⟩
def mX10_found : kM := (yX10_found, cX10_found, 4, (some .int))
theorem mtX10_found : kMt mX10_found 3 := ⟨by decide +kernel, ⟨by decide +kernel, by decide +kernel, by decide +kernel⟩, ⟨kin4 (List.mem_of_getElem? (i := 200) (by decide +kernel)), by decide +kernel⟩, wi_RX10, by decide +kernel⟩
def mX10_findLine : kM := (yX10_findLine, cX10_findLine, 6, none)
theorem mtX10_findLine : kMt mX10_findLine 2 := ⟨by decide +kernel, ⟨by decide +kernel, by decide +kernel, by decide +kernel⟩, ⟨kin4 (List.mem_of_getElem? (i := 204) (by decide +kernel)), by decide +kernel⟩, wi_RX10, by decide +kernel⟩
def mX10_written : kM := (yX10_written, cX10_written, 5, (some .long))
theorem mtX10_written : kMt mX10_written 4 := ⟨by decide +kernel, ⟨by decide +kernel, by decide +kernel, by decide +kernel⟩, ⟨kin4 (List.mem_of_getElem? (i := 208) (by decide +kernel)), by decide +kernel⟩, wi_RX10, by decide +kernel⟩
def mX10_writtenOf : kM := (yX10_writtenOf, cX10_writtenOf, 8, (some .int))
theorem mtX10_writtenOf : kMt mX10_writtenOf 3 := ⟨by decide +kernel, ⟨by decide +kernel, by decide +kernel, by decide +kernel⟩, ⟨kin4 (List.mem_of_getElem? (i := 212) (by decide +kernel)), by decide +kernel⟩, wi_RX10, by decide +kernel⟩
def mX10_inchOf : kM := (yX10_inchOf, cX10_inchOf, 3, (some .int))
theorem mtX10_inchOf : kMt mX10_inchOf 1 := ⟨by decide +kernel, ⟨by decide +kernel, by decide +kernel, by decide +kernel⟩, ⟨kin4 (List.mem_of_getElem? (i := 215) (by decide +kernel)), by decide +kernel⟩, wi_RX10, by decide +kernel⟩
def mX10_back : kM := (yX10_back, cX10_back, 10, (some .long))
theorem mtX10_back : kMt mX10_back 6 := ⟨by decide +kernel, ⟨by decide +kernel, by decide +kernel, by decide +kernel⟩, ⟨kin4 (List.mem_of_getElem? (i := 220) (by decide +kernel)), by decide +kernel⟩, wi_RX10, by decide +kernel⟩
def mX10_pile : kM := (yX10_pile, cX10_pile, 6, (some .long))
theorem mtX10_pile : kMt mX10_pile 2 := ⟨by decide +kernel, ⟨by decide +kernel, by decide +kernel, by decide +kernel⟩, ⟨kin4 (List.mem_of_getElem? (i := 224) (by decide +kernel)), by decide +kernel⟩, wi_RX10, by decide +kernel⟩
def mX10_grown : kM := (yX10_grown, cX10_grown, 4, (some .long))
theorem mtX10_grown : kMt mX10_grown 3 := ⟨by decide +kernel, ⟨by decide +kernel, by decide +kernel, by decide +kernel⟩, ⟨kin4 (List.mem_of_getElem? (i := 229) (by decide +kernel)), by decide +kernel⟩, wi_RX10, by decide +kernel⟩
def mX10_grownFrom : kM := (yX10_grownFrom, cX10_grownFrom, 4, (some .int))
theorem mtX10_grownFrom : kMt mX10_grownFrom 1 := ⟨by decide +kernel, ⟨by decide +kernel, by decide +kernel, by decide +kernel⟩, ⟨kin4 (List.mem_of_getElem? (i := 233) (by decide +kernel)), by decide +kernel⟩, wi_RX10, by decide +kernel⟩
def mX10_growsAt : kM := (yX10_growsAt, cX10_growsAt, 3, (some .int))
theorem mtX10_growsAt : kMt mX10_growsAt 1 := ⟨by decide +kernel, ⟨by decide +kernel, by decide +kernel, by decide +kernel⟩, ⟨kin4 (List.mem_of_getElem? (i := 237) (by decide +kernel)), by decide +kernel⟩, wi_RX10, by decide +kernel⟩
def mX10_meanGrown : kM := (yX10_meanGrown, cX10_meanGrown, 2, (some .int))
theorem mtX10_meanGrown : kMt mX10_meanGrown 1 := ⟨by decide +kernel, ⟨by decide +kernel, by decide +kernel, by decide +kernel⟩, ⟨kin5 (List.mem_of_getElem? (i := 1) (by decide +kernel)), by decide +kernel⟩, wi_RX10, by decide +kernel⟩
def mX10_right : kM := (yX10_right, cX10_right, 4, (some .long))
theorem mtX10_right : kMt mX10_right 3 := ⟨by decide +kernel, ⟨by decide +kernel, by decide +kernel, by decide +kernel⟩, ⟨kin5 (List.mem_of_getElem? (i := 5) (by decide +kernel)), by decide +kernel⟩, wi_RX10, by decide +kernel⟩
def mX10_mix : kM := (yX10_mix, cX10_mix, 7, (some .long))
theorem mtX10_mix : kMt mX10_mix 6 := ⟨by decide +kernel, ⟨by decide +kernel, by decide +kernel, by decide +kernel⟩, ⟨kin5 (List.mem_of_getElem? (i := 9) (by decide +kernel)), by decide +kernel⟩, wi_RX10, by decide +kernel⟩
def mX10_areHumps : kM := (yX10_areHumps, cX10_areHumps, 4, (some .boolean))
theorem mtX10_areHumps : kMt mX10_areHumps 4 := ⟨by decide +kernel, ⟨by decide +kernel, by decide +kernel, by decide +kernel⟩, ⟨kin5 (List.mem_of_getElem? (i := 12) (by decide +kernel)), by decide +kernel⟩, wi_RX10, by decide +kernel⟩
def mX10_isShare : kM := (yX10_isShare, cX10_isShare, 1, (some .boolean))
theorem mtX10_isShare : kMt mX10_isShare 1 := ⟨by decide +kernel, ⟨by decide +kernel, by decide +kernel, by decide +kernel⟩, ⟨kin5 (List.mem_of_getElem? (i := 15) (by decide +kernel)), by decide +kernel⟩, wi_RX10, by decide +kernel⟩
def mX10_findMix : kM := (yX10_findMix, cX10_findMix, 9, (some .boolean))
theorem mtX10_findMix : kMt mX10_findMix 5 := ⟨by decide +kernel, ⟨by decide +kernel, by decide +kernel, by decide +kernel⟩, ⟨kin5 (List.mem_of_getElem? (i := 19) (by decide +kernel)), by decide +kernel⟩, wi_RX10, by decide +kernel⟩
def mX10_fall : kM := (yX10_fall, cX10_fall, 13, (some .long))
theorem mtX10_fall : kMt mX10_fall 7 := ⟨by decide +kernel, ⟨by decide +kernel, by decide +kernel, by decide +kernel⟩, ⟨kin5 (List.mem_of_getElem? (i := 24) (by decide +kernel)), by decide +kernel⟩, wi_RX10, by decide +kernel⟩
def mX10_less : kM := (yX10_less, cX10_less, 21, (some .long))
theorem mtX10_less : kMt mX10_less 5 := ⟨by decide +kernel, ⟨by decide +kernel, by decide +kernel, by decide +kernel⟩, ⟨kin5 (List.mem_of_getElem? (i := 27) (by decide +kernel)), by decide +kernel⟩, wi_RX10, by decide +kernel⟩
def mX10_alone : kM := (yX10_alone, cX10_alone, 14, (some .long))
theorem mtX10_alone : kMt mX10_alone 8 := ⟨by decide +kernel, ⟨by decide +kernel, by decide +kernel, by decide +kernel⟩, ⟨kin5 (List.mem_of_getElem? (i := 31) (by decide +kernel)), by decide +kernel⟩, wi_RX10, by decide +kernel⟩
def mX10_areShares : kM := (yX10_areShares, cX10_areShares, 1, (some .boolean))
theorem mtX10_areShares : kMt mX10_areShares 1 := ⟨by decide +kernel, ⟨by decide +kernel, by decide +kernel, by decide +kernel⟩, ⟨kin5 (List.mem_of_getElem? (i := 34) (by decide +kernel)), by decide +kernel⟩, wi_RX10, by decide +kernel⟩
def mX10_findEnd : kM := (yX10_findEnd, cX10_findEnd, 10, (some .boolean))
theorem mtX10_findEnd : kMt mX10_findEnd 6 := ⟨by decide +kernel, ⟨by decide +kernel, by decide +kernel, by decide +kernel⟩, ⟨kin5 (List.mem_of_getElem? (i := 38) (by decide +kernel)), by decide +kernel⟩, wi_RX10, by decide +kernel⟩
def mX10_mean : kM := (yX10_mean, cX10_mean, 3, (some .long))
theorem mtX10_mean : kMt mX10_mean 2 := ⟨by decide +kernel, ⟨by decide +kernel, by decide +kernel, by decide +kernel⟩, ⟨kin5 (List.mem_of_getElem? (i := 42) (by decide +kernel)), by decide +kernel⟩, wi_RX10, by decide +kernel⟩
def mX10_sumOf : kM := (yX10_sumOf, cX10_sumOf, 5, (some .long))
theorem mtX10_sumOf : kMt mX10_sumOf 1 := ⟨by decide +kernel, ⟨by decide +kernel, by decide +kernel, by decide +kernel⟩, ⟨kin5 (List.mem_of_getElem? (i := 46) (by decide +kernel)), by decide +kernel⟩, wi_RX10, by decide +kernel⟩
def mX10_mode : kM := (yX10_mode, cX10_mode, 2, (some .int))
theorem mtX10_mode : kMt mX10_mode 1 := ⟨by decide +kernel, ⟨by decide +kernel, by decide +kernel, by decide +kernel⟩, ⟨kin5 (List.mem_of_getElem? (i := 50) (by decide +kernel)), by decide +kernel⟩, wi_RX10, by decide +kernel⟩
def mX10_modeOf : kM := (yX10_modeOf, cX10_modeOf, 5, (some .int))
theorem mtX10_modeOf : kMt mX10_modeOf 1 := ⟨by decide +kernel, ⟨by decide +kernel, by decide +kernel, by decide +kernel⟩, ⟨kin5 (List.mem_of_getElem? (i := 54) (by decide +kernel)), by decide +kernel⟩, wi_RX10, by decide +kernel⟩
def mX10_about : kM := (yX10_about, cX10_about, 9, (some .long))
theorem mtX10_about : kMt mX10_about 4 := ⟨by decide +kernel, ⟨by decide +kernel, by decide +kernel, by decide +kernel⟩, ⟨kin5 (List.mem_of_getElem? (i := 58) (by decide +kernel)), by decide +kernel⟩, wi_RX10, by decide +kernel⟩
def mX10_beside : kM := (yX10_beside, cX10_beside, 7, (some .long))
theorem mtX10_beside : kMt mX10_beside 4 := ⟨by decide +kernel, ⟨by decide +kernel, by decide +kernel, by decide +kernel⟩, ⟨kin5 (List.mem_of_getElem? (i := 63) (by decide +kernel)), by decide +kernel⟩, wi_RX10, by decide +kernel⟩
def mX10_shorter : kM := (yX10_shorter, cX10_shorter, 6, (some .int))
theorem mtX10_shorter : kMt mX10_shorter 4 := ⟨by decide +kernel, ⟨by decide +kernel, by decide +kernel, by decide +kernel⟩, ⟨kin5 (List.mem_of_getElem? (i := 67) (by decide +kernel)), by decide +kernel⟩, wi_RX10, by decide +kernel⟩
def mX10_make : kM := (yX10_make, cX10_make, 6, (some .int))
theorem mtX10_make : kMt mX10_make 5 := ⟨by decide +kernel, ⟨by decide +kernel, by decide +kernel, by decide +kernel⟩, ⟨kin5 (List.mem_of_getElem? (i := 71) (by decide +kernel)), by decide +kernel⟩, wi_RX10, by decide +kernel⟩
def mX10_isWorld : kM := (yX10_isWorld, cX10_isWorld, 4, (some .boolean))
theorem mtX10_isWorld : kMt mX10_isWorld 4 := ⟨by decide +kernel, ⟨by decide +kernel, by decide +kernel, by decide +kernel⟩, ⟨kin5 (List.mem_of_getElem? (i := 74) (by decide +kernel)), by decide +kernel⟩, wi_RX10, by decide +kernel⟩
def mX10_makeIn : kM := (yX10_makeIn, cX10_makeIn, 11, (some .int))
theorem mtX10_makeIn : kMt mX10_makeIn 5 := ⟨by decide +kernel, ⟨by decide +kernel, by decide +kernel, by decide +kernel⟩, ⟨kin5 (List.mem_of_getElem? (i := 80) (by decide +kernel)), by decide +kernel⟩, wi_RX10, by decide +kernel⟩
def mX10_draw : kM := (yX10_draw, cX10_draw, 2, (some .int))
theorem mtX10_draw : kMt mX10_draw 1 := ⟨by decide +kernel, ⟨by decide +kernel, by decide +kernel, by decide +kernel⟩, ⟨kin5 (List.mem_of_getElem? (i := 84) (by decide +kernel)), by decide +kernel⟩, wi_RX10, by decide +kernel⟩
def mX10_heightOf : kM := (yX10_heightOf, cX10_heightOf, 6, (some .int))
theorem mtX10_heightOf : kMt mX10_heightOf 3 := ⟨by decide +kernel, ⟨by decide +kernel, by decide +kernel, by decide +kernel⟩, ⟨kin5 (List.mem_of_getElem? (i := 89) (by decide +kernel)), by decide +kernel⟩, wi_RX10, by decide +kernel⟩
def mX10_writtenAt : kM := (yX10_writtenAt, cX10_writtenAt, 4, (some .int))
theorem mtX10_writtenAt : kMt mX10_writtenAt 2 := ⟨by decide +kernel, ⟨by decide +kernel, by decide +kernel, by decide +kernel⟩, ⟨kin5 (List.mem_of_getElem? (i := 93) (by decide +kernel)), by decide +kernel⟩, wi_RX10, by decide +kernel⟩
def mX10_off : kM := (yX10_off, cX10_off, 8, (some .int))
theorem mtX10_off : kMt mX10_off 7 := ⟨by decide +kernel, ⟨by decide +kernel, by decide +kernel, by decide +kernel⟩, ⟨kin5 (List.mem_of_getElem? (i := 97) (by decide +kernel)), by decide +kernel⟩, wi_RX10, by decide +kernel⟩
def mX10_offOf : kM := (yX10_offOf, cX10_offOf, 11, (some .int))
theorem mtX10_offOf : kMt mX10_offOf 7 := ⟨by decide +kernel, ⟨by decide +kernel, by decide +kernel, by decide +kernel⟩, ⟨kin5 (List.mem_of_getElem? (i := 102) (by decide +kernel)), by decide +kernel⟩, wi_RX10, by decide +kernel⟩
def mX10_undone : kM := (yX10_undone, cX10_undone, 4, (some .int))
theorem mtX10_undone : kMt mX10_undone 3 := ⟨by decide +kernel, ⟨by decide +kernel, by decide +kernel, by decide +kernel⟩, ⟨kin5 (List.mem_of_getElem? (i := 106) (by decide +kernel)), by decide +kernel⟩, wi_RX10, by decide +kernel⟩
def mX10_best : kM := (yX10_best, cX10_best, 11, (some .int))
theorem mtX10_best : kMt mX10_best 6 := ⟨by decide +kernel, ⟨by decide +kernel, by decide +kernel, by decide +kernel⟩, ⟨kin5 (List.mem_of_getElem? (i := 110) (by decide +kernel)), by decide +kernel⟩, wi_RX10, by decide +kernel⟩
def mX10_image : kM := (yX10_image, cX10_image, 2, (some .int))
theorem mtX10_image : kMt mX10_image 1 := ⟨by decide +kernel, ⟨by decide +kernel, by decide +kernel, by decide +kernel⟩, ⟨kin5 (List.mem_of_getElem? (i := 114) (by decide +kernel)), by decide +kernel⟩, wi_RX10, by decide +kernel⟩
def mX10_passAll : kM := (yX10_passAll, cX10_passAll, 2, none)
theorem mtX10_passAll : kMt mX10_passAll 0 := ⟨by decide +kernel, ⟨by decide +kernel, by decide +kernel, by decide +kernel⟩, ⟨kin5 (List.mem_of_getElem? (i := 118) (by decide +kernel)), by decide +kernel⟩, wi_RX10, by decide +kernel⟩
def mX10_pass : kM := (yX10_pass, cX10_pass, 3, (some .int))
theorem mtX10_pass : kMt mX10_pass 1 := ⟨by decide +kernel, ⟨by decide +kernel, by decide +kernel, by decide +kernel⟩, ⟨kin5 (List.mem_of_getElem? (i := 122) (by decide +kernel)), by decide +kernel⟩, wi_RX10, by decide +kernel⟩
def mX10_restore : kM := (yX10_restore, cX10_restore, 2, (some .int))
theorem mtX10_restore : kMt mX10_restore 1 := ⟨by decide +kernel, ⟨by decide +kernel, by decide +kernel, by decide +kernel⟩, ⟨kin5 (List.mem_of_getElem? (i := 126) (by decide +kernel)), by decide +kernel⟩, wi_RX10, by decide +kernel⟩
def mX10_told : kM := (yX10_told, cX10_told, 2, (some .int))
theorem mtX10_told : kMt mX10_told 1 := ⟨by decide +kernel, ⟨by decide +kernel, by decide +kernel, by decide +kernel⟩, ⟨kin5 (List.mem_of_getElem? (i := 130) (by decide +kernel)), by decide +kernel⟩, wi_RX10, by decide +kernel⟩
theorem miX9_init : kWd (.instanceMethod yX9_init) := ⟨kin1 (List.mem_of_getElem? (i := 18) (by decide +kernel)), by decide +kernel⟩
theorem miX7_init : kWd (.instanceMethod yX7_init) := ⟨kin1 (List.mem_of_getElem? (i := 26) (by decide +kernel)), by decide +kernel⟩
theorem miX2_init : kWd (.instanceMethod yX2_init) := ⟨kin1 (List.mem_of_getElem? (i := 43) (by decide +kernel)), by decide +kernel⟩
theorem miX0_init : kWd (.instanceMethod yX0_init) := ⟨kin1 (List.mem_of_getElem? (i := 54) (by decide +kernel)), by decide +kernel⟩
theorem miX3_init : kWd (.instanceMethod yX3_init) := ⟨kin1 (List.mem_of_getElem? (i := 98) (by decide +kernel)), by decide +kernel⟩
theorem miX8_init : kWd (.instanceMethod yX8_init) := ⟨kin1 (List.mem_of_getElem? (i := 111) (by decide +kernel)), by decide +kernel⟩
theorem miX4_init : kWd (.instanceMethod yX4_init) := ⟨kin1 (List.mem_of_getElem? (i := 145) (by decide +kernel)), by decide +kernel⟩
theorem miX9_men : kIn mX9_men := ⟨⟨kin1 (List.mem_of_getElem? (i := 183) (by decide +kernel)), by decide +kernel⟩, ⟨kin1 (List.mem_of_getElem? (i := 184) (by decide +kernel)), by decide +kernel⟩⟩
theorem miX2_bookAt : kIn mX2_bookAt := ⟨⟨kin1 (List.mem_of_getElem? (i := 187) (by decide +kernel)), by decide +kernel⟩, ⟨kin1 (List.mem_of_getElem? (i := 188) (by decide +kernel)), by decide +kernel⟩⟩
theorem msX9_within : kWd (.static yX9_within) := ⟨kin1 (List.mem_of_getElem? (i := 191) (by decide +kernel)), by decide +kernel⟩
theorem msX9_isHeight : kWd (.static yX9_isHeight) := ⟨kin1 (List.mem_of_getElem? (i := 194) (by decide +kernel)), by decide +kernel⟩
theorem miX0_menAt : kIn mX0_menAt := ⟨⟨kin1 (List.mem_of_getElem? (i := 198) (by decide +kernel)), by decide +kernel⟩, ⟨kin1 (List.mem_of_getElem? (i := 199) (by decide +kernel)), by decide +kernel⟩⟩
theorem miX0_put : kIn mX0_put := ⟨⟨kin1 (List.mem_of_getElem? (i := 202) (by decide +kernel)), by decide +kernel⟩, ⟨kin1 (List.mem_of_getElem? (i := 203) (by decide +kernel)), by decide +kernel⟩⟩
theorem miX9_set : kIn mX9_set := ⟨⟨kin1 (List.mem_of_getElem? (i := 207) (by decide +kernel)), by decide +kernel⟩, ⟨kin1 (List.mem_of_getElem? (i := 208) (by decide +kernel)), by decide +kernel⟩⟩
theorem miX0_entry : kIn mX0_entry := ⟨⟨kin1 (List.mem_of_getElem? (i := 215) (by decide +kernel)), by decide +kernel⟩, ⟨kin1 (List.mem_of_getElem? (i := 216) (by decide +kernel)), by decide +kernel⟩⟩
theorem miX0_enter : kIn mX0_enter := ⟨⟨kin1 (List.mem_of_getElem? (i := 220) (by decide +kernel)), by decide +kernel⟩, ⟨kin1 (List.mem_of_getElem? (i := 221) (by decide +kernel)), by decide +kernel⟩⟩
theorem miX9_way : kIn mX9_way := ⟨⟨kin1 (List.mem_of_getElem? (i := 224) (by decide +kernel)), by decide +kernel⟩, ⟨kin1 (List.mem_of_getElem? (i := 225) (by decide +kernel)), by decide +kernel⟩⟩
theorem miX2_wayOf : kIn mX2_wayOf := ⟨⟨kin1 (List.mem_of_getElem? (i := 229) (by decide +kernel)), by decide +kernel⟩, ⟨kin1 (List.mem_of_getElem? (i := 230) (by decide +kernel)), by decide +kernel⟩⟩
theorem miX2_turn : kIn mX2_turn := ⟨⟨kin1 (List.mem_of_getElem? (i := 233) (by decide +kernel)), by decide +kernel⟩, ⟨kin1 (List.mem_of_getElem? (i := 234) (by decide +kernel)), by decide +kernel⟩⟩
theorem miX9_say : kIn mX9_say := ⟨⟨kin1 (List.mem_of_getElem? (i := 237) (by decide +kernel)), by decide +kernel⟩, ⟨kin1 (List.mem_of_getElem? (i := 238) (by decide +kernel)), by decide +kernel⟩⟩
theorem miX7_add : kIn mX7_add := ⟨⟨kin2 (List.mem_of_getElem? (i := 1) (by decide +kernel)), by decide +kernel⟩, ⟨kin2 (List.mem_of_getElem? (i := 2) (by decide +kernel)), by decide +kernel⟩⟩
theorem miX9_wipe : kIn mX9_wipe := ⟨⟨kin2 (List.mem_of_getElem? (i := 5) (by decide +kernel)), by decide +kernel⟩, ⟨kin2 (List.mem_of_getElem? (i := 6) (by decide +kernel)), by decide +kernel⟩⟩
theorem miX7_clear : kIn mX7_clear := ⟨⟨kin2 (List.mem_of_getElem? (i := 9) (by decide +kernel)), by decide +kernel⟩, ⟨kin2 (List.mem_of_getElem? (i := 10) (by decide +kernel)), by decide +kernel⟩⟩
theorem miX9_fault : kIn mX9_fault := ⟨⟨kin2 (List.mem_of_getElem? (i := 13) (by decide +kernel)), by decide +kernel⟩, ⟨kin2 (List.mem_of_getElem? (i := 14) (by decide +kernel)), by decide +kernel⟩⟩
theorem msX1_faultOf : kWd (.static yX1_faultOf) := ⟨kin2 (List.mem_of_getElem? (i := 17) (by decide +kernel)), by decide +kernel⟩
theorem miX7_signAt : kIn mX7_signAt := ⟨⟨kin2 (List.mem_of_getElem? (i := 20) (by decide +kernel)), by decide +kernel⟩, ⟨kin2 (List.mem_of_getElem? (i := 21) (by decide +kernel)), by decide +kernel⟩⟩
theorem msX1_after : kWd (.static yX1_after) := ⟨kin2 (List.mem_of_getElem? (i := 24) (by decide +kernel)), by decide +kernel⟩
theorem msX1_beginTest : kWd (.static yX1_beginTest) := ⟨kin2 (List.mem_of_getElem? (i := 27) (by decide +kernel)), by decide +kernel⟩
theorem msX1_isDigit : kWd (.static yX1_isDigit) := ⟨kin2 (List.mem_of_getElem? (i := 30) (by decide +kernel)), by decide +kernel⟩
theorem msX1_endTest : kWd (.static yX1_endTest) := ⟨kin2 (List.mem_of_getElem? (i := 33) (by decide +kernel)), by decide +kernel⟩
theorem msX1_endPiece : kWd (.static yX1_endPiece) := ⟨kin2 (List.mem_of_getElem? (i := 36) (by decide +kernel)), by decide +kernel⟩
theorem msX1_afterInGrowth : kWd (.static yX1_afterInGrowth) := ⟨kin2 (List.mem_of_getElem? (i := 39) (by decide +kernel)), by decide +kernel⟩
theorem msX1_endAge : kWd (.static yX1_endAge) := ⟨kin2 (List.mem_of_getElem? (i := 42) (by decide +kernel)), by decide +kernel⟩
theorem miX9_take : kIn mX9_take := ⟨⟨kin2 (List.mem_of_getElem? (i := 45) (by decide +kernel)), by decide +kernel⟩, ⟨kin2 (List.mem_of_getElem? (i := 46) (by decide +kernel)), by decide +kernel⟩⟩
theorem miX7_copyFrom : kIn mX7_copyFrom := ⟨⟨kin2 (List.mem_of_getElem? (i := 49) (by decide +kernel)), by decide +kernel⟩, ⟨kin2 (List.mem_of_getElem? (i := 50) (by decide +kernel)), by decide +kernel⟩⟩
theorem miX7_pieces : kIn mX7_pieces := ⟨⟨kin2 (List.mem_of_getElem? (i := 56) (by decide +kernel)), by decide +kernel⟩, ⟨kin2 (List.mem_of_getElem? (i := 57) (by decide +kernel)), by decide +kernel⟩⟩
theorem miX9_line : kIn mX9_line := ⟨⟨kin2 (List.mem_of_getElem? (i := 61) (by decide +kernel)), by decide +kernel⟩, ⟨kin2 (List.mem_of_getElem? (i := 62) (by decide +kernel)), by decide +kernel⟩⟩
theorem miX2_lineOf : kIn mX2_lineOf := ⟨⟨kin2 (List.mem_of_getElem? (i := 65) (by decide +kernel)), by decide +kernel⟩, ⟨kin2 (List.mem_of_getElem? (i := 66) (by decide +kernel)), by decide +kernel⟩⟩
theorem msX5_lineBy : kWd (.static yX5_lineBy) := ⟨kin2 (List.mem_of_getElem? (i := 70) (by decide +kernel)), by decide +kernel⟩
theorem msX5_holds : kWd (.static yX5_holds) := ⟨kin2 (List.mem_of_getElem? (i := 75) (by decide +kernel)), by decide +kernel⟩
theorem msJ9_min_7cf53 : kWd (.static yJ9_min_7cf53) := ⟨kin2 (List.mem_of_getElem? (i := 78) (by decide +kernel)), by decide +kernel⟩
theorem miX9_hump : kIn mX9_hump := ⟨⟨kin2 (List.mem_of_getElem? (i := 81) (by decide +kernel)), by decide +kernel⟩, ⟨kin2 (List.mem_of_getElem? (i := 82) (by decide +kernel)), by decide +kernel⟩⟩
theorem msX9_isHump : kWd (.static yX9_isHump) := ⟨kin2 (List.mem_of_getElem? (i := 85) (by decide +kernel)), by decide +kernel⟩
theorem msX9_isWidth : kWd (.static yX9_isWidth) := ⟨kin2 (List.mem_of_getElem? (i := 88) (by decide +kernel)), by decide +kernel⟩
theorem miX3_menAt : kIn mX3_menAt := ⟨⟨kin2 (List.mem_of_getElem? (i := 91) (by decide +kernel)), by decide +kernel⟩, ⟨kin2 (List.mem_of_getElem? (i := 92) (by decide +kernel)), by decide +kernel⟩⟩
theorem miX3_waysOf : kIn mX3_waysOf := ⟨⟨kin2 (List.mem_of_getElem? (i := 96) (by decide +kernel)), by decide +kernel⟩, ⟨kinS (List.mem_of_getElem? (i := 0) (by decide +kernel)), by decide +kernel⟩⟩
theorem miX9_upper : kIn mX9_upper := ⟨⟨kin2 (List.mem_of_getElem? (i := 99) (by decide +kernel)), by decide +kernel⟩, ⟨kin2 (List.mem_of_getElem? (i := 100) (by decide +kernel)), by decide +kernel⟩⟩
theorem msX9_isPart : kWd (.static yX9_isPart) := ⟨kin2 (List.mem_of_getElem? (i := 103) (by decide +kernel)), by decide +kernel⟩
theorem miX3_countFrom : kIn mX3_countFrom := ⟨⟨kin2 (List.mem_of_getElem? (i := 107) (by decide +kernel)), by decide +kernel⟩, ⟨kin2 (List.mem_of_getElem? (i := 108) (by decide +kernel)), by decide +kernel⟩⟩
theorem msJ9_max_7cf53 : kWd (.static yJ9_max_7cf53) := ⟨kin2 (List.mem_of_getElem? (i := 111) (by decide +kernel)), by decide +kernel⟩
theorem msX9_tell : kWd (.static yX9_tell) := ⟨kin2 (List.mem_of_getElem? (i := 115) (by decide +kernel)), by decide +kernel⟩
theorem msJ9_abs_067f4 : kWd (.static yJ9_abs_067f4) := ⟨kin2 (List.mem_of_getElem? (i := 118) (by decide +kernel)), by decide +kernel⟩
theorem msX9_commonDivisor : kWd (.static yX9_commonDivisor) := ⟨kin2 (List.mem_of_getElem? (i := 121) (by decide +kernel)), by decide +kernel⟩
theorem msJ9_max_f86c9 : kWd (.static yJ9_max_f86c9) := ⟨kin2 (List.mem_of_getElem? (i := 124) (by decide +kernel)), by decide +kernel⟩
theorem miX3_sumFrom : kIn mX3_sumFrom := ⟨⟨kin2 (List.mem_of_getElem? (i := 127) (by decide +kernel)), by decide +kernel⟩, ⟨kin2 (List.mem_of_getElem? (i := 128) (by decide +kernel)), by decide +kernel⟩⟩
theorem miX9_misfit : kIn mX9_misfit := ⟨⟨kin2 (List.mem_of_getElem? (i := 131) (by decide +kernel)), by decide +kernel⟩, ⟨kin2 (List.mem_of_getElem? (i := 132) (by decide +kernel)), by decide +kernel⟩⟩
theorem miX8_misfitOf : kIn mX8_misfitOf := ⟨⟨kin2 (List.mem_of_getElem? (i := 135) (by decide +kernel)), by decide +kernel⟩, ⟨kin2 (List.mem_of_getElem? (i := 136) (by decide +kernel)), by decide +kernel⟩⟩
theorem miX9_fit : kIn mX9_fit := ⟨⟨kin2 (List.mem_of_getElem? (i := 144) (by decide +kernel)), by decide +kernel⟩, ⟨kin2 (List.mem_of_getElem? (i := 145) (by decide +kernel)), by decide +kernel⟩⟩
theorem miX9_seekMiddle : kIn mX9_seekMiddle := ⟨⟨kin2 (List.mem_of_getElem? (i := 149) (by decide +kernel)), by decide +kernel⟩, ⟨kinS (List.mem_of_getElem? (i := 1) (by decide +kernel)), by decide +kernel⟩⟩
theorem miX8_seekMiddle : kIn mX8_seekMiddle := ⟨⟨kin2 (List.mem_of_getElem? (i := 152) (by decide +kernel)), by decide +kernel⟩, ⟨kin2 (List.mem_of_getElem? (i := 153) (by decide +kernel)), by decide +kernel⟩⟩
theorem miX8_offer : kIn mX8_offer := ⟨⟨kin2 (List.mem_of_getElem? (i := 158) (by decide +kernel)), by decide +kernel⟩, ⟨kinS (List.mem_of_getElem? (i := 2) (by decide +kernel)), by decide +kernel⟩⟩
theorem miX9_span : kIn mX9_span := ⟨⟨kin2 (List.mem_of_getElem? (i := 161) (by decide +kernel)), by decide +kernel⟩, ⟨kin2 (List.mem_of_getElem? (i := 162) (by decide +kernel)), by decide +kernel⟩⟩
theorem miX9_seekSpan : kIn mX9_seekSpan := ⟨⟨kin2 (List.mem_of_getElem? (i := 166) (by decide +kernel)), by decide +kernel⟩, ⟨kinS (List.mem_of_getElem? (i := 3) (by decide +kernel)), by decide +kernel⟩⟩
theorem miX8_seekSpan : kIn mX8_seekSpan := ⟨⟨kin2 (List.mem_of_getElem? (i := 169) (by decide +kernel)), by decide +kernel⟩, ⟨kin2 (List.mem_of_getElem? (i := 170) (by decide +kernel)), by decide +kernel⟩⟩
theorem miX9_found : kIn mX9_found := ⟨⟨kin2 (List.mem_of_getElem? (i := 174) (by decide +kernel)), by decide +kernel⟩, ⟨kin2 (List.mem_of_getElem? (i := 175) (by decide +kernel)), by decide +kernel⟩⟩
theorem miX8_seekLine : kIn mX8_seekLine := ⟨⟨kin2 (List.mem_of_getElem? (i := 178) (by decide +kernel)), by decide +kernel⟩, ⟨kin2 (List.mem_of_getElem? (i := 179) (by decide +kernel)), by decide +kernel⟩⟩
theorem miX9_written : kIn mX9_written := ⟨⟨kin2 (List.mem_of_getElem? (i := 182) (by decide +kernel)), by decide +kernel⟩, ⟨kin2 (List.mem_of_getElem? (i := 183) (by decide +kernel)), by decide +kernel⟩⟩
theorem miX2_hundredths : kIn mX2_hundredths := ⟨⟨kin2 (List.mem_of_getElem? (i := 186) (by decide +kernel)), by decide +kernel⟩, ⟨kin2 (List.mem_of_getElem? (i := 187) (by decide +kernel)), by decide +kernel⟩⟩
theorem msX9_nearestInch : kWd (.static yX9_nearestInch) := ⟨kin2 (List.mem_of_getElem? (i := 191) (by decide +kernel)), by decide +kernel⟩
theorem miX9_back : kIn mX9_back := ⟨⟨kin2 (List.mem_of_getElem? (i := 196) (by decide +kernel)), by decide +kernel⟩, ⟨kin2 (List.mem_of_getElem? (i := 197) (by decide +kernel)), by decide +kernel⟩⟩
theorem miX9_pile : kIn mX9_pile := ⟨⟨kin2 (List.mem_of_getElem? (i := 200) (by decide +kernel)), by decide +kernel⟩, ⟨kin2 (List.mem_of_getElem? (i := 201) (by decide +kernel)), by decide +kernel⟩⟩
theorem miX0_atWholeInches : kIn mX0_atWholeInches := ⟨⟨kin2 (List.mem_of_getElem? (i := 206) (by decide +kernel)), by decide +kernel⟩, ⟨kin2 (List.mem_of_getElem? (i := 207) (by decide +kernel)), by decide +kernel⟩⟩
theorem miX9_grown : kIn mX9_grown := ⟨⟨kin2 (List.mem_of_getElem? (i := 210) (by decide +kernel)), by decide +kernel⟩, ⟨kin2 (List.mem_of_getElem? (i := 211) (by decide +kernel)), by decide +kernel⟩⟩
theorem miX2_growthFrom : kIn mX2_growthFrom := ⟨⟨kin2 (List.mem_of_getElem? (i := 214) (by decide +kernel)), by decide +kernel⟩, ⟨kin2 (List.mem_of_getElem? (i := 215) (by decide +kernel)), by decide +kernel⟩⟩
theorem msX5_growthAt : kWd (.static yX5_growthAt) := ⟨kin2 (List.mem_of_getElem? (i := 218) (by decide +kernel)), by decide +kernel⟩
theorem miX2_tenthsGrown : kIn mX2_tenthsGrown := ⟨⟨kin2 (List.mem_of_getElem? (i := 221) (by decide +kernel)), by decide +kernel⟩, ⟨kin2 (List.mem_of_getElem? (i := 222) (by decide +kernel)), by decide +kernel⟩⟩
theorem miX9_right : kIn mX9_right := ⟨⟨kin2 (List.mem_of_getElem? (i := 227) (by decide +kernel)), by decide +kernel⟩, ⟨kin2 (List.mem_of_getElem? (i := 228) (by decide +kernel)), by decide +kernel⟩⟩
theorem miX9_mix : kIn mX9_mix := ⟨⟨kin2 (List.mem_of_getElem? (i := 231) (by decide +kernel)), by decide +kernel⟩, ⟨kin2 (List.mem_of_getElem? (i := 232) (by decide +kernel)), by decide +kernel⟩⟩
theorem msX9_areSorts : kWd (.static yX9_areSorts) := ⟨kin2 (List.mem_of_getElem? (i := 235) (by decide +kernel)), by decide +kernel⟩
theorem msX9_isShare : kWd (.static yX9_isShare) := ⟨kin2 (List.mem_of_getElem? (i := 238) (by decide +kernel)), by decide +kernel⟩
theorem miX6_init : kWd (.instanceMethod yX6_init) := ⟨kin3 (List.mem_of_getElem? (i := 3) (by decide +kernel)), by decide +kernel⟩
theorem miX6_lack : kIn mX6_lack := ⟨⟨kin3 (List.mem_of_getElem? (i := 22) (by decide +kernel)), by decide +kernel⟩, ⟨kin3 (List.mem_of_getElem? (i := 23) (by decide +kernel)), by decide +kernel⟩⟩
theorem miX6_count : kIn mX6_count := ⟨⟨kin3 (List.mem_of_getElem? (i := 26) (by decide +kernel)), by decide +kernel⟩, ⟨kin3 (List.mem_of_getElem? (i := 27) (by decide +kernel)), by decide +kernel⟩⟩
theorem miX6_sum : kIn mX6_sum := ⟨⟨kin3 (List.mem_of_getElem? (i := 31) (by decide +kernel)), by decide +kernel⟩, ⟨kin3 (List.mem_of_getElem? (i := 32) (by decide +kernel)), by decide +kernel⟩⟩
theorem miX9_fall : kIn mX9_fall := ⟨⟨kin3 (List.mem_of_getElem? (i := 36) (by decide +kernel)), by decide +kernel⟩, ⟨kin3 (List.mem_of_getElem? (i := 37) (by decide +kernel)), by decide +kernel⟩⟩
theorem msX9_tellFall : kWd (.static yX9_tellFall) := ⟨kin3 (List.mem_of_getElem? (i := 40) (by decide +kernel)), by decide +kernel⟩
theorem miX6_gap : kIn mX6_gap := ⟨⟨kin3 (List.mem_of_getElem? (i := 43) (by decide +kernel)), by decide +kernel⟩, ⟨kin3 (List.mem_of_getElem? (i := 44) (by decide +kernel)), by decide +kernel⟩⟩
theorem miX9_alone : kIn mX9_alone := ⟨⟨kin3 (List.mem_of_getElem? (i := 48) (by decide +kernel)), by decide +kernel⟩, ⟨kin3 (List.mem_of_getElem? (i := 49) (by decide +kernel)), by decide +kernel⟩⟩
theorem msX9_areShares : kWd (.static yX9_areShares) := ⟨kin3 (List.mem_of_getElem? (i := 52) (by decide +kernel)), by decide +kernel⟩
theorem miX6_lesser : kIn mX6_lesser := ⟨⟨kin3 (List.mem_of_getElem? (i := 55) (by decide +kernel)), by decide +kernel⟩, ⟨kin3 (List.mem_of_getElem? (i := 56) (by decide +kernel)), by decide +kernel⟩⟩
theorem miX6_greater : kIn mX6_greater := ⟨⟨kin3 (List.mem_of_getElem? (i := 60) (by decide +kernel)), by decide +kernel⟩, ⟨kin3 (List.mem_of_getElem? (i := 61) (by decide +kernel)), by decide +kernel⟩⟩
theorem miX9_mean : kIn mX9_mean := ⟨⟨kin3 (List.mem_of_getElem? (i := 64) (by decide +kernel)), by decide +kernel⟩, ⟨kin3 (List.mem_of_getElem? (i := 65) (by decide +kernel)), by decide +kernel⟩⟩
theorem miX0_sumMoved : kIn mX0_sumMoved := ⟨⟨kin3 (List.mem_of_getElem? (i := 68) (by decide +kernel)), by decide +kernel⟩, ⟨kin3 (List.mem_of_getElem? (i := 69) (by decide +kernel)), by decide +kernel⟩⟩
theorem miX9_mode : kIn mX9_mode := ⟨⟨kin3 (List.mem_of_getElem? (i := 74) (by decide +kernel)), by decide +kernel⟩, ⟨kin3 (List.mem_of_getElem? (i := 75) (by decide +kernel)), by decide +kernel⟩⟩
theorem miX0_commonest : kIn mX0_commonest := ⟨⟨kin3 (List.mem_of_getElem? (i := 78) (by decide +kernel)), by decide +kernel⟩, ⟨kin3 (List.mem_of_getElem? (i := 79) (by decide +kernel)), by decide +kernel⟩⟩
theorem miX9_about : kIn mX9_about := ⟨⟨kin3 (List.mem_of_getElem? (i := 82) (by decide +kernel)), by decide +kernel⟩, ⟨kin3 (List.mem_of_getElem? (i := 83) (by decide +kernel)), by decide +kernel⟩⟩
theorem miX9_beside : kIn mX9_beside := ⟨⟨kin3 (List.mem_of_getElem? (i := 87) (by decide +kernel)), by decide +kernel⟩, ⟨kin3 (List.mem_of_getElem? (i := 88) (by decide +kernel)), by decide +kernel⟩⟩
theorem miX9_shorter : kIn mX9_shorter := ⟨⟨kin3 (List.mem_of_getElem? (i := 91) (by decide +kernel)), by decide +kernel⟩, ⟨kin3 (List.mem_of_getElem? (i := 92) (by decide +kernel)), by decide +kernel⟩⟩
theorem miX9_make : kIn mX9_make := ⟨⟨kin3 (List.mem_of_getElem? (i := 95) (by decide +kernel)), by decide +kernel⟩, ⟨kin3 (List.mem_of_getElem? (i := 96) (by decide +kernel)), by decide +kernel⟩⟩
theorem msX9_isWorld : kWd (.static yX9_isWorld) := ⟨kin3 (List.mem_of_getElem? (i := 99) (by decide +kernel)), by decide +kernel⟩
theorem miX4_fill : kIn mX4_fill := ⟨⟨kin3 (List.mem_of_getElem? (i := 102) (by decide +kernel)), by decide +kernel⟩, ⟨kin3 (List.mem_of_getElem? (i := 103) (by decide +kernel)), by decide +kernel⟩⟩
theorem miX0_clearMen : kIn mX0_clearMen := ⟨⟨kin3 (List.mem_of_getElem? (i := 106) (by decide +kernel)), by decide +kernel⟩, ⟨kin3 (List.mem_of_getElem? (i := 107) (by decide +kernel)), by decide +kernel⟩⟩
theorem msJ7_fill_53178 : kWd (.static yJ7_fill_53178) := ⟨kin3 (List.mem_of_getElem? (i := 110) (by decide +kernel)), by decide +kernel⟩
theorem miX4_draw : kIn mX4_draw := ⟨⟨kin3 (List.mem_of_getElem? (i := 115) (by decide +kernel)), by decide +kernel⟩, ⟨kinS (List.mem_of_getElem? (i := 4) (by decide +kernel)), by decide +kernel⟩⟩
theorem miX3_heightOf : kIn mX3_heightOf := ⟨⟨kin3 (List.mem_of_getElem? (i := 119) (by decide +kernel)), by decide +kernel⟩, ⟨kin3 (List.mem_of_getElem? (i := 120) (by decide +kernel)), by decide +kernel⟩⟩
theorem miX4_placeOf : kIn mX4_placeOf := ⟨⟨kin3 (List.mem_of_getElem? (i := 125) (by decide +kernel)), by decide +kernel⟩, ⟨kinS (List.mem_of_getElem? (i := 5) (by decide +kernel)), by decide +kernel⟩⟩
theorem miX9_off : kIn mX9_off := ⟨⟨kin3 (List.mem_of_getElem? (i := 132) (by decide +kernel)), by decide +kernel⟩, ⟨kin3 (List.mem_of_getElem? (i := 133) (by decide +kernel)), by decide +kernel⟩⟩
theorem miX9_offBy : kIn mX9_offBy := ⟨⟨kin3 (List.mem_of_getElem? (i := 137) (by decide +kernel)), by decide +kernel⟩, ⟨kinS (List.mem_of_getElem? (i := 6) (by decide +kernel)), by decide +kernel⟩⟩
theorem miX0_copyEntries : kIn mX0_copyEntries := ⟨⟨kin3 (List.mem_of_getElem? (i := 140) (by decide +kernel)), by decide +kernel⟩, ⟨kin3 (List.mem_of_getElem? (i := 141) (by decide +kernel)), by decide +kernel⟩⟩
theorem miX9_undone : kIn mX9_undone := ⟨⟨kin3 (List.mem_of_getElem? (i := 146) (by decide +kernel)), by decide +kernel⟩, ⟨kinS (List.mem_of_getElem? (i := 7) (by decide +kernel)), by decide +kernel⟩⟩
theorem msJ9_abs_0f7a4 : kWd (.static yJ9_abs_0f7a4) := ⟨kin3 (List.mem_of_getElem? (i := 149) (by decide +kernel)), by decide +kernel⟩
theorem miX9_best : kIn mX9_best := ⟨⟨kin3 (List.mem_of_getElem? (i := 152) (by decide +kernel)), by decide +kernel⟩, ⟨kin3 (List.mem_of_getElem? (i := 153) (by decide +kernel)), by decide +kernel⟩⟩
theorem miX9_image : kIn mX9_image := ⟨⟨kin3 (List.mem_of_getElem? (i := 156) (by decide +kernel)), by decide +kernel⟩, ⟨kin3 (List.mem_of_getElem? (i := 157) (by decide +kernel)), by decide +kernel⟩⟩
theorem msX9_isImage : kWd (.static yX9_isImage) := ⟨kin3 (List.mem_of_getElem? (i := 160) (by decide +kernel)), by decide +kernel⟩
theorem miX2_copyFrom : kIn mX2_copyFrom := ⟨⟨kin3 (List.mem_of_getElem? (i := 163) (by decide +kernel)), by decide +kernel⟩, ⟨kin3 (List.mem_of_getElem? (i := 164) (by decide +kernel)), by decide +kernel⟩⟩
theorem miX0_copyFrom : kIn mX0_copyFrom := ⟨⟨kin3 (List.mem_of_getElem? (i := 167) (by decide +kernel)), by decide +kernel⟩, ⟨kin3 (List.mem_of_getElem? (i := 168) (by decide +kernel)), by decide +kernel⟩⟩
theorem miX9_restore : kIn mX9_restore := ⟨⟨kin3 (List.mem_of_getElem? (i := 174) (by decide +kernel)), by decide +kernel⟩, ⟨kin3 (List.mem_of_getElem? (i := 175) (by decide +kernel)), by decide +kernel⟩⟩
theorem miX9_told : kIn mX9_told := ⟨⟨kin3 (List.mem_of_getElem? (i := 178) (by decide +kernel)), by decide +kernel⟩, ⟨kin3 (List.mem_of_getElem? (i := 179) (by decide +kernel)), by decide +kernel⟩⟩
theorem miX10_init : kWd (.instanceMethod yX10_init) := ⟨kin3 (List.mem_of_getElem? (i := 184) (by decide +kernel)), by decide +kernel⟩
theorem miX10_men : kIn mX10_men := ⟨⟨kin4 (List.mem_of_getElem? (i := 48) (by decide +kernel)), by decide +kernel⟩, ⟨kin4 (List.mem_of_getElem? (i := 49) (by decide +kernel)), by decide +kernel⟩⟩
theorem msX10_isBook : kWd (.static yX10_isBook) := ⟨kin4 (List.mem_of_getElem? (i := 52) (by decide +kernel)), by decide +kernel⟩
theorem msX10_in : kWd (.static yX10_in) := ⟨kin4 (List.mem_of_getElem? (i := 56) (by decide +kernel)), by decide +kernel⟩
theorem msX10_isHeight : kWd (.static yX10_isHeight) := ⟨kin4 (List.mem_of_getElem? (i := 59) (by decide +kernel)), by decide +kernel⟩
theorem msX10_at : kWd (.static yX10_at) := ⟨kin4 (List.mem_of_getElem? (i := 64) (by decide +kernel)), by decide +kernel⟩
theorem miX10_set : kIn mX10_set := ⟨⟨kin4 (List.mem_of_getElem? (i := 67) (by decide +kernel)), by decide +kernel⟩, ⟨kin4 (List.mem_of_getElem? (i := 68) (by decide +kernel)), by decide +kernel⟩⟩
theorem miX10_way : kIn mX10_way := ⟨⟨kin4 (List.mem_of_getElem? (i := 75) (by decide +kernel)), by decide +kernel⟩, ⟨kin4 (List.mem_of_getElem? (i := 76) (by decide +kernel)), by decide +kernel⟩⟩
theorem miX10_say : kIn mX10_say := ⟨⟨kin4 (List.mem_of_getElem? (i := 82) (by decide +kernel)), by decide +kernel⟩, ⟨kin4 (List.mem_of_getElem? (i := 83) (by decide +kernel)), by decide +kernel⟩⟩
theorem miX10_wipe : kIn mX10_wipe := ⟨⟨kin4 (List.mem_of_getElem? (i := 88) (by decide +kernel)), by decide +kernel⟩, ⟨kin4 (List.mem_of_getElem? (i := 89) (by decide +kernel)), by decide +kernel⟩⟩
theorem miX10_fault : kIn mX10_fault := ⟨⟨kin4 (List.mem_of_getElem? (i := 92) (by decide +kernel)), by decide +kernel⟩, ⟨kin4 (List.mem_of_getElem? (i := 93) (by decide +kernel)), by decide +kernel⟩⟩
theorem msX10_isEnd : kWd (.static yX10_isEnd) := ⟨kin4 (List.mem_of_getElem? (i := 96) (by decide +kernel)), by decide +kernel⟩
theorem miX10_faultOf : kIn mX10_faultOf := ⟨⟨kin4 (List.mem_of_getElem? (i := 100) (by decide +kernel)), by decide +kernel⟩, ⟨kinS (List.mem_of_getElem? (i := 8) (by decide +kernel)), by decide +kernel⟩⟩
theorem msX10_ruleStep : kWd (.static yX10_ruleStep) := ⟨kin4 (List.mem_of_getElem? (i := 103) (by decide +kernel)), by decide +kernel⟩
theorem msX10_isDigit : kWd (.static yX10_isDigit) := ⟨kin4 (List.mem_of_getElem? (i := 106) (by decide +kernel)), by decide +kernel⟩
theorem msX10_growthStep : kWd (.static yX10_growthStep) := ⟨kin4 (List.mem_of_getElem? (i := 111) (by decide +kernel)), by decide +kernel⟩
theorem miX10_take : kIn mX10_take := ⟨⟨kin4 (List.mem_of_getElem? (i := 114) (by decide +kernel)), by decide +kernel⟩, ⟨kin4 (List.mem_of_getElem? (i := 115) (by decide +kernel)), by decide +kernel⟩⟩
theorem miX10_takeRule : kIn mX10_takeRule := ⟨⟨kin4 (List.mem_of_getElem? (i := 119) (by decide +kernel)), by decide +kernel⟩, ⟨kinS (List.mem_of_getElem? (i := 9) (by decide +kernel)), by decide +kernel⟩⟩
theorem miX10_takeGrowth : kIn mX10_takeGrowth := ⟨⟨kin4 (List.mem_of_getElem? (i := 123) (by decide +kernel)), by decide +kernel⟩, ⟨kinS (List.mem_of_getElem? (i := 10) (by decide +kernel)), by decide +kernel⟩⟩
theorem miX10_line : kIn mX10_line := ⟨⟨kin4 (List.mem_of_getElem? (i := 126) (by decide +kernel)), by decide +kernel⟩, ⟨kin4 (List.mem_of_getElem? (i := 127) (by decide +kernel)), by decide +kernel⟩⟩
theorem miX10_lineOf : kIn mX10_lineOf := ⟨⟨kin4 (List.mem_of_getElem? (i := 131) (by decide +kernel)), by decide +kernel⟩, ⟨kinS (List.mem_of_getElem? (i := 11) (by decide +kernel)), by decide +kernel⟩⟩
theorem miX10_hump : kIn mX10_hump := ⟨⟨kin4 (List.mem_of_getElem? (i := 134) (by decide +kernel)), by decide +kernel⟩, ⟨kin4 (List.mem_of_getElem? (i := 135) (by decide +kernel)), by decide +kernel⟩⟩
theorem msX10_isWidth : kWd (.static yX10_isWidth) := ⟨kin4 (List.mem_of_getElem? (i := 138) (by decide +kernel)), by decide +kernel⟩
theorem msX10_humpOf : kWd (.static yX10_humpOf) := ⟨kin4 (List.mem_of_getElem? (i := 142) (by decide +kernel)), by decide +kernel⟩
theorem msX10_choose : kWd (.static yX10_choose) := ⟨kin4 (List.mem_of_getElem? (i := 145) (by decide +kernel)), by decide +kernel⟩
theorem miX10_upper : kIn mX10_upper := ⟨⟨kin4 (List.mem_of_getElem? (i := 148) (by decide +kernel)), by decide +kernel⟩, ⟨kin4 (List.mem_of_getElem? (i := 149) (by decide +kernel)), by decide +kernel⟩⟩
theorem msX10_lowest : kWd (.static yX10_lowest) := ⟨kin4 (List.mem_of_getElem? (i := 153) (by decide +kernel)), by decide +kernel⟩
theorem msX10_common : kWd (.static yX10_common) := ⟨kin4 (List.mem_of_getElem? (i := 156) (by decide +kernel)), by decide +kernel⟩
theorem miX10_misfit : kIn mX10_misfit := ⟨⟨kin4 (List.mem_of_getElem? (i := 159) (by decide +kernel)), by decide +kernel⟩, ⟨kin4 (List.mem_of_getElem? (i := 160) (by decide +kernel)), by decide +kernel⟩⟩
theorem miX10_findChosen : kIn mX10_findChosen := ⟨⟨kin4 (List.mem_of_getElem? (i := 164) (by decide +kernel)), by decide +kernel⟩, ⟨kinS (List.mem_of_getElem? (i := 12) (by decide +kernel)), by decide +kernel⟩⟩
theorem miX10_all : kIn mX10_all := ⟨⟨kin4 (List.mem_of_getElem? (i := 168) (by decide +kernel)), by decide +kernel⟩, ⟨kinS (List.mem_of_getElem? (i := 13) (by decide +kernel)), by decide +kernel⟩⟩
theorem miX10_misfitOf : kIn mX10_misfitOf := ⟨⟨kin4 (List.mem_of_getElem? (i := 172) (by decide +kernel)), by decide +kernel⟩, ⟨kinS (List.mem_of_getElem? (i := 14) (by decide +kernel)), by decide +kernel⟩⟩
theorem msX10_apart : kWd (.static yX10_apart) := ⟨kin4 (List.mem_of_getElem? (i := 175) (by decide +kernel)), by decide +kernel⟩
theorem miX10_fit : kIn mX10_fit := ⟨⟨kin4 (List.mem_of_getElem? (i := 178) (by decide +kernel)), by decide +kernel⟩, ⟨kin4 (List.mem_of_getElem? (i := 179) (by decide +kernel)), by decide +kernel⟩⟩
theorem miX10_findFit : kIn mX10_findFit := ⟨⟨kin4 (List.mem_of_getElem? (i := 183) (by decide +kernel)), by decide +kernel⟩, ⟨kinS (List.mem_of_getElem? (i := 15) (by decide +kernel)), by decide +kernel⟩⟩
theorem miX10_keepBest : kIn mX10_keepBest := ⟨⟨kin4 (List.mem_of_getElem? (i := 187) (by decide +kernel)), by decide +kernel⟩, ⟨kinS (List.mem_of_getElem? (i := 16) (by decide +kernel)), by decide +kernel⟩⟩
theorem miX10_span : kIn mX10_span := ⟨⟨kin4 (List.mem_of_getElem? (i := 190) (by decide +kernel)), by decide +kernel⟩, ⟨kin4 (List.mem_of_getElem? (i := 191) (by decide +kernel)), by decide +kernel⟩⟩
theorem miX10_findSpan : kIn mX10_findSpan := ⟨⟨kin4 (List.mem_of_getElem? (i := 195) (by decide +kernel)), by decide +kernel⟩, ⟨kinS (List.mem_of_getElem? (i := 17) (by decide +kernel)), by decide +kernel⟩⟩
theorem miX10_found : kIn mX10_found := ⟨⟨kin4 (List.mem_of_getElem? (i := 198) (by decide +kernel)), by decide +kernel⟩, ⟨kin4 (List.mem_of_getElem? (i := 199) (by decide +kernel)), by decide +kernel⟩⟩
theorem miX10_findLine : kIn mX10_findLine := ⟨⟨kin4 (List.mem_of_getElem? (i := 203) (by decide +kernel)), by decide +kernel⟩, ⟨kinS (List.mem_of_getElem? (i := 18) (by decide +kernel)), by decide +kernel⟩⟩
theorem miX10_written : kIn mX10_written := ⟨⟨kin4 (List.mem_of_getElem? (i := 206) (by decide +kernel)), by decide +kernel⟩, ⟨kin4 (List.mem_of_getElem? (i := 207) (by decide +kernel)), by decide +kernel⟩⟩
theorem miX10_writtenOf : kIn mX10_writtenOf := ⟨⟨kin4 (List.mem_of_getElem? (i := 211) (by decide +kernel)), by decide +kernel⟩, ⟨kinS (List.mem_of_getElem? (i := 19) (by decide +kernel)), by decide +kernel⟩⟩
theorem msX10_inchOf : kWd (.static yX10_inchOf) := ⟨kin4 (List.mem_of_getElem? (i := 214) (by decide +kernel)), by decide +kernel⟩
theorem miX10_back : kIn mX10_back := ⟨⟨kin4 (List.mem_of_getElem? (i := 218) (by decide +kernel)), by decide +kernel⟩, ⟨kin4 (List.mem_of_getElem? (i := 219) (by decide +kernel)), by decide +kernel⟩⟩
theorem miX10_pile : kIn mX10_pile := ⟨⟨kin4 (List.mem_of_getElem? (i := 222) (by decide +kernel)), by decide +kernel⟩, ⟨kin4 (List.mem_of_getElem? (i := 223) (by decide +kernel)), by decide +kernel⟩⟩
theorem miX10_grown : kIn mX10_grown := ⟨⟨kin4 (List.mem_of_getElem? (i := 227) (by decide +kernel)), by decide +kernel⟩, ⟨kin4 (List.mem_of_getElem? (i := 228) (by decide +kernel)), by decide +kernel⟩⟩
theorem miX10_grownFrom : kIn mX10_grownFrom := ⟨⟨kin4 (List.mem_of_getElem? (i := 232) (by decide +kernel)), by decide +kernel⟩, ⟨kinS (List.mem_of_getElem? (i := 20) (by decide +kernel)), by decide +kernel⟩⟩
theorem miX10_growsAt : kIn mX10_growsAt := ⟨⟨kin4 (List.mem_of_getElem? (i := 236) (by decide +kernel)), by decide +kernel⟩, ⟨kinS (List.mem_of_getElem? (i := 21) (by decide +kernel)), by decide +kernel⟩⟩
theorem miX10_meanGrown : kIn mX10_meanGrown := ⟨⟨kin5 (List.mem_of_getElem? (i := 0) (by decide +kernel)), by decide +kernel⟩, ⟨kinS (List.mem_of_getElem? (i := 22) (by decide +kernel)), by decide +kernel⟩⟩
theorem miX10_right : kIn mX10_right := ⟨⟨kin5 (List.mem_of_getElem? (i := 3) (by decide +kernel)), by decide +kernel⟩, ⟨kin5 (List.mem_of_getElem? (i := 4) (by decide +kernel)), by decide +kernel⟩⟩
theorem miX10_mix : kIn mX10_mix := ⟨⟨kin5 (List.mem_of_getElem? (i := 7) (by decide +kernel)), by decide +kernel⟩, ⟨kin5 (List.mem_of_getElem? (i := 8) (by decide +kernel)), by decide +kernel⟩⟩
theorem msX10_areHumps : kWd (.static yX10_areHumps) := ⟨kin5 (List.mem_of_getElem? (i := 11) (by decide +kernel)), by decide +kernel⟩
theorem msX10_isShare : kWd (.static yX10_isShare) := ⟨kin5 (List.mem_of_getElem? (i := 14) (by decide +kernel)), by decide +kernel⟩
theorem miX10_findMix : kIn mX10_findMix := ⟨⟨kin5 (List.mem_of_getElem? (i := 18) (by decide +kernel)), by decide +kernel⟩, ⟨kinS (List.mem_of_getElem? (i := 23) (by decide +kernel)), by decide +kernel⟩⟩
theorem miX10_fall : kIn mX10_fall := ⟨⟨kin5 (List.mem_of_getElem? (i := 22) (by decide +kernel)), by decide +kernel⟩, ⟨kin5 (List.mem_of_getElem? (i := 23) (by decide +kernel)), by decide +kernel⟩⟩
theorem msX10_less : kWd (.static yX10_less) := ⟨kin5 (List.mem_of_getElem? (i := 26) (by decide +kernel)), by decide +kernel⟩
theorem miX10_alone : kIn mX10_alone := ⟨⟨kin5 (List.mem_of_getElem? (i := 29) (by decide +kernel)), by decide +kernel⟩, ⟨kin5 (List.mem_of_getElem? (i := 30) (by decide +kernel)), by decide +kernel⟩⟩
theorem msX10_areShares : kWd (.static yX10_areShares) := ⟨kin5 (List.mem_of_getElem? (i := 33) (by decide +kernel)), by decide +kernel⟩
theorem miX10_findEnd : kIn mX10_findEnd := ⟨⟨kin5 (List.mem_of_getElem? (i := 37) (by decide +kernel)), by decide +kernel⟩, ⟨kinS (List.mem_of_getElem? (i := 24) (by decide +kernel)), by decide +kernel⟩⟩
theorem miX10_mean : kIn mX10_mean := ⟨⟨kin5 (List.mem_of_getElem? (i := 40) (by decide +kernel)), by decide +kernel⟩, ⟨kin5 (List.mem_of_getElem? (i := 41) (by decide +kernel)), by decide +kernel⟩⟩
theorem miX10_sumOf : kIn mX10_sumOf := ⟨⟨kin5 (List.mem_of_getElem? (i := 45) (by decide +kernel)), by decide +kernel⟩, ⟨kinS (List.mem_of_getElem? (i := 25) (by decide +kernel)), by decide +kernel⟩⟩
theorem miX10_mode : kIn mX10_mode := ⟨⟨kin5 (List.mem_of_getElem? (i := 48) (by decide +kernel)), by decide +kernel⟩, ⟨kin5 (List.mem_of_getElem? (i := 49) (by decide +kernel)), by decide +kernel⟩⟩
theorem miX10_modeOf : kIn mX10_modeOf := ⟨⟨kin5 (List.mem_of_getElem? (i := 53) (by decide +kernel)), by decide +kernel⟩, ⟨kinS (List.mem_of_getElem? (i := 26) (by decide +kernel)), by decide +kernel⟩⟩
theorem miX10_about : kIn mX10_about := ⟨⟨kin5 (List.mem_of_getElem? (i := 56) (by decide +kernel)), by decide +kernel⟩, ⟨kin5 (List.mem_of_getElem? (i := 57) (by decide +kernel)), by decide +kernel⟩⟩
theorem miX10_beside : kIn mX10_beside := ⟨⟨kin5 (List.mem_of_getElem? (i := 61) (by decide +kernel)), by decide +kernel⟩, ⟨kin5 (List.mem_of_getElem? (i := 62) (by decide +kernel)), by decide +kernel⟩⟩
theorem miX10_shorter : kIn mX10_shorter := ⟨⟨kin5 (List.mem_of_getElem? (i := 65) (by decide +kernel)), by decide +kernel⟩, ⟨kin5 (List.mem_of_getElem? (i := 66) (by decide +kernel)), by decide +kernel⟩⟩
theorem miX10_make : kIn mX10_make := ⟨⟨kin5 (List.mem_of_getElem? (i := 69) (by decide +kernel)), by decide +kernel⟩, ⟨kin5 (List.mem_of_getElem? (i := 70) (by decide +kernel)), by decide +kernel⟩⟩
theorem msX10_isWorld : kWd (.static yX10_isWorld) := ⟨kin5 (List.mem_of_getElem? (i := 73) (by decide +kernel)), by decide +kernel⟩
theorem miX10_makeIn : kIn mX10_makeIn := ⟨⟨kin5 (List.mem_of_getElem? (i := 79) (by decide +kernel)), by decide +kernel⟩, ⟨kinS (List.mem_of_getElem? (i := 27) (by decide +kernel)), by decide +kernel⟩⟩
theorem miX10_draw : kIn mX10_draw := ⟨⟨kin5 (List.mem_of_getElem? (i := 83) (by decide +kernel)), by decide +kernel⟩, ⟨kinS (List.mem_of_getElem? (i := 28) (by decide +kernel)), by decide +kernel⟩⟩
theorem miX10_heightOf : kIn mX10_heightOf := ⟨⟨kin5 (List.mem_of_getElem? (i := 88) (by decide +kernel)), by decide +kernel⟩, ⟨kinS (List.mem_of_getElem? (i := 29) (by decide +kernel)), by decide +kernel⟩⟩
theorem miX10_writtenAt : kIn mX10_writtenAt := ⟨⟨kin5 (List.mem_of_getElem? (i := 92) (by decide +kernel)), by decide +kernel⟩, ⟨kinS (List.mem_of_getElem? (i := 30) (by decide +kernel)), by decide +kernel⟩⟩
theorem miX10_off : kIn mX10_off := ⟨⟨kin5 (List.mem_of_getElem? (i := 95) (by decide +kernel)), by decide +kernel⟩, ⟨kin5 (List.mem_of_getElem? (i := 96) (by decide +kernel)), by decide +kernel⟩⟩
theorem miX10_offOf : kIn mX10_offOf := ⟨⟨kin5 (List.mem_of_getElem? (i := 101) (by decide +kernel)), by decide +kernel⟩, ⟨kinS (List.mem_of_getElem? (i := 31) (by decide +kernel)), by decide +kernel⟩⟩
theorem miX10_undone : kIn mX10_undone := ⟨⟨kin5 (List.mem_of_getElem? (i := 105) (by decide +kernel)), by decide +kernel⟩, ⟨kinS (List.mem_of_getElem? (i := 32) (by decide +kernel)), by decide +kernel⟩⟩
theorem miX10_best : kIn mX10_best := ⟨⟨kin5 (List.mem_of_getElem? (i := 108) (by decide +kernel)), by decide +kernel⟩, ⟨kin5 (List.mem_of_getElem? (i := 109) (by decide +kernel)), by decide +kernel⟩⟩
theorem miX10_image : kIn mX10_image := ⟨⟨kin5 (List.mem_of_getElem? (i := 112) (by decide +kernel)), by decide +kernel⟩, ⟨kin5 (List.mem_of_getElem? (i := 113) (by decide +kernel)), by decide +kernel⟩⟩
theorem miX10_passAll : kIn mX10_passAll := ⟨⟨kin5 (List.mem_of_getElem? (i := 117) (by decide +kernel)), by decide +kernel⟩, ⟨kinS (List.mem_of_getElem? (i := 33) (by decide +kernel)), by decide +kernel⟩⟩
theorem miX10_pass : kIn mX10_pass := ⟨⟨kin5 (List.mem_of_getElem? (i := 121) (by decide +kernel)), by decide +kernel⟩, ⟨kinS (List.mem_of_getElem? (i := 34) (by decide +kernel)), by decide +kernel⟩⟩
theorem miX10_restore : kIn mX10_restore := ⟨⟨kin5 (List.mem_of_getElem? (i := 124) (by decide +kernel)), by decide +kernel⟩, ⟨kin5 (List.mem_of_getElem? (i := 125) (by decide +kernel)), by decide +kernel⟩⟩
theorem miX10_told : kIn mX10_told := ⟨⟨kin5 (List.mem_of_getElem? (i := 128) (by decide +kernel)), by decide +kernel⟩, ⟨kin5 (List.mem_of_getElem? (i := 129) (by decide +kernel)), by decide +kernel⟩⟩
theorem cwL_7 : kWd (.classLink RL 7 RX9) := ⟨kin1 (List.mem_of_getElem? (i := 15) (by decide +kernel)), by decide +kernel⟩
theorem nwL_7 : kNw RL 7 7 8 tyX9 := ⟨_, _, clX9, cwL_7, wi_RX9⟩
theorem lkL_9 : kWd (.methodLink RL 9 yX9_init) := ⟨kin1 (List.mem_of_getElem? (i := 17) (by decide +kernel)), by decide +kernel⟩
theorem lkX9_1 : kWd (.methodLink RX9 1 Lib.objectInit) := ⟨kin1 (List.mem_of_getElem? (i := 20) (by decide +kernel)), by decide +kernel⟩
theorem kx_1_21 : kWd (Jvm.Cond.instanceMethod ({ cls := "java/lang/Object", name := "<init>", desc := "()V" } : Jvm.MethodName)) := ⟨kin1 (List.mem_of_getElem? (i := 21) (by decide +kernel)), by decide +kernel⟩
theorem kx_1_22 : kWd (Jvm.Cond.code ({ cls := "java/lang/Object", name := "<init>", desc := "()V" } : Jvm.MethodName) object_method_1_code (1 : Nat) (Option.none : Option Jvm.ClassFile.FieldType)) := ⟨kin1 (List.mem_of_getElem? (i := 22) (by decide +kernel)), by decide +kernel⟩
theorem cwX9_7 : kWd (.classLink RX9 7 RX7) := ⟨kin1 (List.mem_of_getElem? (i := 23) (by decide +kernel)), by decide +kernel⟩
theorem nwX9_7 : kNw RX9 7 5 2 tyX7 := ⟨_, _, clX7, cwX9_7, wi_RX7⟩
theorem lkX7_3 : kWd (.methodLink RX7 3 Lib.objectInit) := ⟨kin1 (List.mem_of_getElem? (i := 28) (by decide +kernel)), by decide +kernel⟩
theorem fdX7_9 : kFd RX7 9 5 0 := ⟨_, _, _, _, clX7, by decide, ⟨kin1 (List.mem_of_getElem? (i := 29) (by decide +kernel)), by decide +kernel⟩⟩
theorem pfX7_9 : kPf RX7 9 5 0 (.array .int) true := ⟨_, _, _, _, clX7, by decide, ⟨kin1 (List.mem_of_getElem? (i := 29) (by decide +kernel)), by decide +kernel⟩, rfl, by decide +kernel, fun _ => rfl⟩
theorem fdX7_15 : kFd RX7 15 5 1 := ⟨_, _, _, _, clX7, by decide, ⟨kin1 (List.mem_of_getElem? (i := 30) (by decide +kernel)), by decide +kernel⟩⟩
theorem pfX7_15 : kPf RX7 15 5 1 .int false := ⟨_, _, _, _, clX7, by decide, ⟨kin1 (List.mem_of_getElem? (i := 30) (by decide +kernel)), by decide +kernel⟩, rfl, by decide +kernel, fun h => by cases h⟩
theorem fdX1_11 : kFd RX1 11 5 1 := ⟨_, _, _, _, clX7, by decide, ⟨kin1 (List.mem_of_getElem? (i := 31) (by decide +kernel)), by decide +kernel⟩⟩
theorem pfX1_11 : kPf RX1 11 5 1 .int false := ⟨_, _, _, _, clX7, by decide, ⟨kin1 (List.mem_of_getElem? (i := 31) (by decide +kernel)), by decide +kernel⟩, rfl, by decide +kernel, fun h => by cases h⟩
theorem fdX5_7 : kFd RX5 7 5 1 := ⟨_, _, _, _, clX7, by decide, ⟨kin1 (List.mem_of_getElem? (i := 32) (by decide +kernel)), by decide +kernel⟩⟩
theorem pfX5_7 : kPf RX5 7 5 1 .int false := ⟨_, _, _, _, clX7, by decide, ⟨kin1 (List.mem_of_getElem? (i := 32) (by decide +kernel)), by decide +kernel⟩, rfl, by decide +kernel, fun h => by cases h⟩
theorem fdX9_106 : kFd RX9 106 5 1 := ⟨_, _, _, _, clX7, by decide, ⟨kin1 (List.mem_of_getElem? (i := 33) (by decide +kernel)), by decide +kernel⟩⟩
theorem pfX9_106 : kPf RX9 106 5 1 .int false := ⟨_, _, _, _, clX7, by decide, ⟨kin1 (List.mem_of_getElem? (i := 33) (by decide +kernel)), by decide +kernel⟩, rfl, by decide +kernel, fun h => by cases h⟩
theorem ka_int : kWd (.arrayClass .int) := ⟨kin1 (List.mem_of_getElem? (i := 39) (by decide +kernel)), by decide +kernel⟩
theorem cwX9_16 : kWd (.classLink RX9 16 RX2) := ⟨kin1 (List.mem_of_getElem? (i := 40) (by decide +kernel)), by decide +kernel⟩
theorem nwX9_16 : kNw RX9 16 1 4 tyX2 := ⟨_, _, clX2, cwX9_16, wi_RX2⟩
theorem lkX9_18 : kWd (.methodLink RX9 18 yX2_init) := ⟨kin1 (List.mem_of_getElem? (i := 42) (by decide +kernel)), by decide +kernel⟩
theorem lkX2_3 : kWd (.methodLink RX2 3 Lib.objectInit) := ⟨kin1 (List.mem_of_getElem? (i := 45) (by decide +kernel)), by decide +kernel⟩
theorem cwX2_9 : kWd (.classLink RX2 9 RX0) := ⟨kin1 (List.mem_of_getElem? (i := 46) (by decide +kernel)), by decide +kernel⟩
theorem nwX2_9 : kNw RX2 9 0 3 tyX0 := ⟨_, _, clX0, cwX2_9, wi_RX0⟩
theorem cwX2_17 : kWd (.classLink RX2 17 RX7) := ⟨kin1 (List.mem_of_getElem? (i := 48) (by decide +kernel)), by decide +kernel⟩
theorem nwX2_17 : kNw RX2 17 5 2 tyX7 := ⟨_, _, clX7, cwX2_17, wi_RX7⟩
theorem kx_1_51 : Jvm.Cond.laysStatic "KingsInches" "MOST_WAY" "[I" ∈ lw_tbl := (kin1 (List.mem_of_getElem? (i := 51) (by decide +kernel)))
theorem lkX0_3 : kWd (.methodLink RX0 3 Lib.objectInit) := ⟨kin1 (List.mem_of_getElem? (i := 56) (by decide +kernel)), by decide +kernel⟩
theorem kx_1_58 : Jvm.Cond.laysStatic "KingsInches" "FIRST_ENTRY" "[I" ∈ lw_tbl := (kin1 (List.mem_of_getElem? (i := 58) (by decide +kernel)))
theorem lkX0_18 : kWd (.methodLink RX0 18 ⟨"[I", "clone", "()Ljava/lang/Object;"⟩) := ⟨kin1 (List.mem_of_getElem? (i := 59) (by decide +kernel)), by decide +kernel⟩
theorem kx_1_60 : kWd (Jvm.Cond.sameMethod "[I" "java/lang/Object" "clone" "()Ljava/lang/Object;") := ⟨kin1 (List.mem_of_getElem? (i := 60) (by decide +kernel)), by decide +kernel⟩
theorem kx_1_61 : kWd (Jvm.Cond.native ({ cls := "java/lang/Object", name := "clone", desc := "()Ljava/lang/Object;" } : Jvm.MethodName)) := ⟨kin1 (List.mem_of_getElem? (i := 61) (by decide +kernel)), by decide +kernel⟩
theorem kx_1_62 : kWd (Jvm.Cond.instanceMethod ({ cls := "java/lang/Object", name := "clone", desc := "()Ljava/lang/Object;" } : Jvm.MethodName)) := ⟨kin1 (List.mem_of_getElem? (i := 62) (by decide +kernel)), by decide +kernel⟩
theorem kx_1_63 : kWd (Jvm.Cond.selects "[I" ({ cls := "[I", name := "clone", desc := "()Ljava/lang/Object;" } : Jvm.MethodName) ({ cls := "java/lang/Object", name := "clone", desc := "()Ljava/lang/Object;" } : Jvm.MethodName)) := ⟨kin1 (List.mem_of_getElem? (i := 63) (by decide +kernel)), by decide +kernel⟩
theorem cwX0_19 : kWd (.classLink RX0 19 "[I") := ⟨kin1 (List.mem_of_getElem? (i := 65) (by decide +kernel)), by decide +kernel⟩
theorem fdX0_9 : kFd RX0 9 0 0 := ⟨_, _, _, _, clX0, by decide, ⟨kin1 (List.mem_of_getElem? (i := 66) (by decide +kernel)), by decide +kernel⟩⟩
theorem pfX0_9 : kPf RX0 9 0 0 (.array .int) true := ⟨_, _, _, _, clX0, by decide, ⟨kin1 (List.mem_of_getElem? (i := 66) (by decide +kernel)), by decide +kernel⟩, rfl, by decide +kernel, fun _ => rfl⟩
theorem fdX0_23 : kFd RX0 23 0 1 := ⟨_, _, _, _, clX0, by decide, ⟨kin1 (List.mem_of_getElem? (i := 67) (by decide +kernel)), by decide +kernel⟩⟩
theorem pfX0_23 : kPf RX0 23 0 1 (.array .int) true := ⟨_, _, _, _, clX0, by decide, ⟨kin1 (List.mem_of_getElem? (i := 67) (by decide +kernel)), by decide +kernel⟩, rfl, by decide +kernel, fun _ => rfl⟩
theorem fdX8_34 : kFd RX8 34 0 2 := ⟨_, _, _, _, clX0, by decide, ⟨kin1 (List.mem_of_getElem? (i := 68) (by decide +kernel)), by decide +kernel⟩⟩
theorem pfX8_34 : kPf RX8 34 0 2 .int false := ⟨_, _, _, _, clX0, by decide, ⟨kin1 (List.mem_of_getElem? (i := 68) (by decide +kernel)), by decide +kernel⟩, rfl, by decide +kernel, fun h => by cases h⟩
theorem fdX0_30 : kFd RX0 30 0 2 := ⟨_, _, _, _, clX0, by decide, ⟨kin1 (List.mem_of_getElem? (i := 69) (by decide +kernel)), by decide +kernel⟩⟩
theorem pfX0_30 : kPf RX0 30 0 2 .int false := ⟨_, _, _, _, clX0, by decide, ⟨kin1 (List.mem_of_getElem? (i := 69) (by decide +kernel)), by decide +kernel⟩, rfl, by decide +kernel, fun h => by cases h⟩
theorem fdX4_56 : kFd RX4 56 0 2 := ⟨_, _, _, _, clX0, by decide, ⟨kin1 (List.mem_of_getElem? (i := 70) (by decide +kernel)), by decide +kernel⟩⟩
theorem pfX4_56 : kPf RX4 56 0 2 .int false := ⟨_, _, _, _, clX0, by decide, ⟨kin1 (List.mem_of_getElem? (i := 70) (by decide +kernel)), by decide +kernel⟩, rfl, by decide +kernel, fun h => by cases h⟩
theorem fdX9_205 : kFd RX9 205 0 2 := ⟨_, _, _, _, clX0, by decide, ⟨kin1 (List.mem_of_getElem? (i := 71) (by decide +kernel)), by decide +kernel⟩⟩
theorem pfX9_205 : kPf RX9 205 0 2 .int false := ⟨_, _, _, _, clX0, by decide, ⟨kin1 (List.mem_of_getElem? (i := 71) (by decide +kernel)), by decide +kernel⟩, rfl, by decide +kernel, fun h => by cases h⟩
theorem fdX2_11 : kFd RX2 11 1 0 := ⟨_, _, _, _, clX2, by decide, ⟨kin1 (List.mem_of_getElem? (i := 79) (by decide +kernel)), by decide +kernel⟩⟩
theorem pfX2_11 : kPf RX2 11 1 0 (.array (.object "KingsInches$Book")) true := ⟨_, _, _, _, clX2, by decide, ⟨kin1 (List.mem_of_getElem? (i := 79) (by decide +kernel)), by decide +kernel⟩, rfl, by decide +kernel, fun _ => rfl⟩
theorem fdX2_20 : kFd RX2 20 1 1 := ⟨_, _, _, _, clX2, by decide, ⟨kin1 (List.mem_of_getElem? (i := 80) (by decide +kernel)), by decide +kernel⟩⟩
theorem pfX2_20 : kPf RX2 20 1 1 (.object "KingsInches$Text") true := ⟨_, _, _, _, clX2, by decide, ⟨kin1 (List.mem_of_getElem? (i := 80) (by decide +kernel)), by decide +kernel⟩, rfl, by decide +kernel, fun _ => rfl⟩
theorem fdX9_119 : kFd RX9 119 1 1 := ⟨_, _, _, _, clX2, by decide, ⟨kin1 (List.mem_of_getElem? (i := 81) (by decide +kernel)), by decide +kernel⟩⟩
theorem fdX2_24 : kFd RX2 24 1 2 := ⟨_, _, _, _, clX2, by decide, ⟨kin1 (List.mem_of_getElem? (i := 82) (by decide +kernel)), by decide +kernel⟩⟩
theorem pfX2_24 : kPf RX2 24 1 2 (.object "KingsInches$Text") true := ⟨_, _, _, _, clX2, by decide, ⟨kin1 (List.mem_of_getElem? (i := 82) (by decide +kernel)), by decide +kernel⟩, rfl, by decide +kernel, fun _ => rfl⟩
theorem fdX9_122 : kFd RX9 122 1 2 := ⟨_, _, _, _, clX2, by decide, ⟨kin1 (List.mem_of_getElem? (i := 83) (by decide +kernel)), by decide +kernel⟩⟩
theorem fdX2_31 : kFd RX2 31 1 3 := ⟨_, _, _, _, clX2, by decide, ⟨kin1 (List.mem_of_getElem? (i := 84) (by decide +kernel)), by decide +kernel⟩⟩
theorem pfX2_31 : kPf RX2 31 1 3 (.array .int) true := ⟨_, _, _, _, clX2, by decide, ⟨kin1 (List.mem_of_getElem? (i := 84) (by decide +kernel)), by decide +kernel⟩, rfl, by decide +kernel, fun _ => rfl⟩
theorem cwX9_31 : kWd (.classLink RX9 31 RX3) := ⟨kin1 (List.mem_of_getElem? (i := 95) (by decide +kernel)), by decide +kernel⟩
theorem nwX9_31 : kNw RX9 31 2 1 tyX3 := ⟨_, _, clX3, cwX9_31, wi_RX3⟩
theorem lkX9_33 : kWd (.methodLink RX9 33 yX3_init) := ⟨kin1 (List.mem_of_getElem? (i := 97) (by decide +kernel)), by decide +kernel⟩
theorem lkX3_3 : kWd (.methodLink RX3 3 Lib.objectInit) := ⟨kin1 (List.mem_of_getElem? (i := 100) (by decide +kernel)), by decide +kernel⟩
theorem cwX3_9 : kWd (.classLink RX3 9 "[[I") := ⟨kin1 (List.mem_of_getElem? (i := 101) (by decide +kernel)), by decide +kernel⟩
theorem fdX3_11 : kFd RX3 11 2 0 := ⟨_, _, _, _, clX3, by decide, ⟨kin1 (List.mem_of_getElem? (i := 103) (by decide +kernel)), by decide +kernel⟩⟩
theorem pfX3_11 : kPf RX3 11 2 0 (.array (.array .int)) true := ⟨_, _, _, _, clX3, by decide, ⟨kin1 (List.mem_of_getElem? (i := 103) (by decide +kernel)), by decide +kernel⟩, rfl, by decide +kernel, fun _ => rfl⟩
theorem ka_boolean : kWd (.arrayClass .boolean) := ⟨kin1 (List.mem_of_getElem? (i := 107) (by decide +kernel)), by decide +kernel⟩
theorem cwX9_38 : kWd (.classLink RX9 38 RX8) := ⟨kin1 (List.mem_of_getElem? (i := 108) (by decide +kernel)), by decide +kernel⟩
theorem nwX9_38 : kNw RX9 38 6 7 tyX8 := ⟨_, _, clX8, cwX9_38, wi_RX8⟩
theorem lkX9_40 : kWd (.methodLink RX9 40 yX8_init) := ⟨kin1 (List.mem_of_getElem? (i := 110) (by decide +kernel)), by decide +kernel⟩
theorem lkX8_3 : kWd (.methodLink RX8 3 Lib.objectInit) := ⟨kin1 (List.mem_of_getElem? (i := 113) (by decide +kernel)), by decide +kernel⟩
theorem fdX8_15 : kFd RX8 15 6 0 := ⟨_, _, _, _, clX8, by decide, ⟨kin1 (List.mem_of_getElem? (i := 114) (by decide +kernel)), by decide +kernel⟩⟩
theorem pfX8_15 : kPf RX8 15 6 0 (.object "KingsInches$Humps") true := ⟨_, _, _, _, clX8, by decide, ⟨kin1 (List.mem_of_getElem? (i := 114) (by decide +kernel)), by decide +kernel⟩, rfl, by decide +kernel, fun _ => rfl⟩
theorem fdX8_9 : kFd RX8 9 6 1 := ⟨_, _, _, _, clX8, by decide, ⟨kin1 (List.mem_of_getElem? (i := 115) (by decide +kernel)), by decide +kernel⟩⟩
theorem pfX8_9 : kPf RX8 9 6 1 (.array .long) true := ⟨_, _, _, _, clX8, by decide, ⟨kin1 (List.mem_of_getElem? (i := 115) (by decide +kernel)), by decide +kernel⟩, rfl, by decide +kernel, fun _ => rfl⟩
theorem fdX8_71 : kFd RX8 71 6 2 := ⟨_, _, _, _, clX8, by decide, ⟨kin1 (List.mem_of_getElem? (i := 116) (by decide +kernel)), by decide +kernel⟩⟩
theorem pfX8_71 : kPf RX8 71 6 2 .int false := ⟨_, _, _, _, clX8, by decide, ⟨kin1 (List.mem_of_getElem? (i := 116) (by decide +kernel)), by decide +kernel⟩, rfl, by decide +kernel, fun h => by cases h⟩
theorem fdX9_190 : kFd RX9 190 6 2 := ⟨_, _, _, _, clX8, by decide, ⟨kin1 (List.mem_of_getElem? (i := 117) (by decide +kernel)), by decide +kernel⟩⟩
theorem pfX9_190 : kPf RX9 190 6 2 .int false := ⟨_, _, _, _, clX8, by decide, ⟨kin1 (List.mem_of_getElem? (i := 117) (by decide +kernel)), by decide +kernel⟩, rfl, by decide +kernel, fun h => by cases h⟩
theorem fdX8_62 : kFd RX8 62 6 3 := ⟨_, _, _, _, clX8, by decide, ⟨kin1 (List.mem_of_getElem? (i := 118) (by decide +kernel)), by decide +kernel⟩⟩
theorem pfX8_62 : kPf RX8 62 6 3 .int false := ⟨_, _, _, _, clX8, by decide, ⟨kin1 (List.mem_of_getElem? (i := 118) (by decide +kernel)), by decide +kernel⟩, rfl, by decide +kernel, fun h => by cases h⟩
theorem fdX9_171 : kFd RX9 171 6 3 := ⟨_, _, _, _, clX8, by decide, ⟨kin1 (List.mem_of_getElem? (i := 119) (by decide +kernel)), by decide +kernel⟩⟩
theorem pfX9_171 : kPf RX9 171 6 3 .int false := ⟨_, _, _, _, clX8, by decide, ⟨kin1 (List.mem_of_getElem? (i := 119) (by decide +kernel)), by decide +kernel⟩, rfl, by decide +kernel, fun h => by cases h⟩
theorem fdX8_47 : kFd RX8 47 6 4 := ⟨_, _, _, _, clX8, by decide, ⟨kin1 (List.mem_of_getElem? (i := 120) (by decide +kernel)), by decide +kernel⟩⟩
theorem pfX8_47 : kPf RX8 47 6 4 .int false := ⟨_, _, _, _, clX8, by decide, ⟨kin1 (List.mem_of_getElem? (i := 120) (by decide +kernel)), by decide +kernel⟩, rfl, by decide +kernel, fun h => by cases h⟩
theorem fdX9_174 : kFd RX9 174 6 4 := ⟨_, _, _, _, clX8, by decide, ⟨kin1 (List.mem_of_getElem? (i := 121) (by decide +kernel)), by decide +kernel⟩⟩
theorem pfX9_174 : kPf RX9 174 6 4 .int false := ⟨_, _, _, _, clX8, by decide, ⟨kin1 (List.mem_of_getElem? (i := 121) (by decide +kernel)), by decide +kernel⟩, rfl, by decide +kernel, fun h => by cases h⟩
theorem fdX8_65 : kFd RX8 65 6 5 := ⟨_, _, _, _, clX8, by decide, ⟨kin1 (List.mem_of_getElem? (i := 122) (by decide +kernel)), by decide +kernel⟩⟩
theorem pfX8_65 : kPf RX8 65 6 5 .int false := ⟨_, _, _, _, clX8, by decide, ⟨kin1 (List.mem_of_getElem? (i := 122) (by decide +kernel)), by decide +kernel⟩, rfl, by decide +kernel, fun h => by cases h⟩
theorem fdX9_181 : kFd RX9 181 6 5 := ⟨_, _, _, _, clX8, by decide, ⟨kin1 (List.mem_of_getElem? (i := 123) (by decide +kernel)), by decide +kernel⟩⟩
theorem pfX9_181 : kPf RX9 181 6 5 .int false := ⟨_, _, _, _, clX8, by decide, ⟨kin1 (List.mem_of_getElem? (i := 123) (by decide +kernel)), by decide +kernel⟩, rfl, by decide +kernel, fun h => by cases h⟩
theorem fdX8_68 : kFd RX8 68 6 6 := ⟨_, _, _, _, clX8, by decide, ⟨kin1 (List.mem_of_getElem? (i := 124) (by decide +kernel)), by decide +kernel⟩⟩
theorem pfX8_68 : kPf RX8 68 6 6 .int false := ⟨_, _, _, _, clX8, by decide, ⟨kin1 (List.mem_of_getElem? (i := 124) (by decide +kernel)), by decide +kernel⟩, rfl, by decide +kernel, fun h => by cases h⟩
theorem fdX9_184 : kFd RX9 184 6 6 := ⟨_, _, _, _, clX8, by decide, ⟨kin1 (List.mem_of_getElem? (i := 125) (by decide +kernel)), by decide +kernel⟩⟩
theorem pfX9_184 : kPf RX9 184 6 6 .int false := ⟨_, _, _, _, clX8, by decide, ⟨kin1 (List.mem_of_getElem? (i := 125) (by decide +kernel)), by decide +kernel⟩, rfl, by decide +kernel, fun h => by cases h⟩
theorem ka_long : kWd (.arrayClass .long) := ⟨kin1 (List.mem_of_getElem? (i := 141) (by decide +kernel)), by decide +kernel⟩
theorem cwX9_47 : kWd (.classLink RX9 47 RX4) := ⟨kin1 (List.mem_of_getElem? (i := 142) (by decide +kernel)), by decide +kernel⟩
theorem nwX9_47 : kNw RX9 47 3 2 tyX4 := ⟨_, _, clX4, cwX9_47, wi_RX4⟩
theorem lkX9_49 : kWd (.methodLink RX9 49 yX4_init) := ⟨kin1 (List.mem_of_getElem? (i := 144) (by decide +kernel)), by decide +kernel⟩
theorem lkX4_3 : kWd (.methodLink RX4 3 Lib.objectInit) := ⟨kin1 (List.mem_of_getElem? (i := 147) (by decide +kernel)), by decide +kernel⟩
theorem fdX4_9 : kFd RX4 9 3 0 := ⟨_, _, _, _, clX4, by decide, ⟨kin1 (List.mem_of_getElem? (i := 148) (by decide +kernel)), by decide +kernel⟩⟩
theorem pfX4_9 : kPf RX4 9 3 0 (.object "KingsInches$Humps") true := ⟨_, _, _, _, clX4, by decide, ⟨kin1 (List.mem_of_getElem? (i := 148) (by decide +kernel)), by decide +kernel⟩, rfl, by decide +kernel, fun _ => rfl⟩
theorem fdX4_15 : kFd RX4 15 3 1 := ⟨_, _, _, _, clX4, by decide, ⟨kin1 (List.mem_of_getElem? (i := 149) (by decide +kernel)), by decide +kernel⟩⟩
theorem pfX4_15 : kPf RX4 15 3 1 .int false := ⟨_, _, _, _, clX4, by decide, ⟨kin1 (List.mem_of_getElem? (i := 149) (by decide +kernel)), by decide +kernel⟩, rfl, by decide +kernel, fun h => by cases h⟩
theorem cwX9_54 : kWd (.classLink RX9 54 RX0) := ⟨kin1 (List.mem_of_getElem? (i := 155) (by decide +kernel)), by decide +kernel⟩
theorem nwX9_54 : kNw RX9 54 0 3 tyX0 := ⟨_, _, clX0, cwX9_54, wi_RX0⟩
theorem fdX9_10 : kFd RX9 10 7 0 := ⟨_, _, _, _, clX9, by decide, ⟨kin1 (List.mem_of_getElem? (i := 157) (by decide +kernel)), by decide +kernel⟩⟩
theorem pfX9_10 : kPf RX9 10 7 0 (.object "KingsInches$Text") true := ⟨_, _, _, _, clX9, by decide, ⟨kin1 (List.mem_of_getElem? (i := 157) (by decide +kernel)), by decide +kernel⟩, rfl, by decide +kernel, fun _ => rfl⟩
theorem fdX9_19 : kFd RX9 19 7 1 := ⟨_, _, _, _, clX9, by decide, ⟨kin1 (List.mem_of_getElem? (i := 158) (by decide +kernel)), by decide +kernel⟩⟩
theorem pfX9_19 : kPf RX9 19 7 1 (.object "KingsInches$Holding") true := ⟨_, _, _, _, clX9, by decide, ⟨kin1 (List.mem_of_getElem? (i := 158) (by decide +kernel)), by decide +kernel⟩, rfl, by decide +kernel, fun _ => rfl⟩
theorem fdX9_23 : kFd RX9 23 7 2 := ⟨_, _, _, _, clX9, by decide, ⟨kin1 (List.mem_of_getElem? (i := 159) (by decide +kernel)), by decide +kernel⟩⟩
theorem pfX9_23 : kPf RX9 23 7 2 (.array (.object "KingsInches$Holding")) true := ⟨_, _, _, _, clX9, by decide, ⟨kin1 (List.mem_of_getElem? (i := 159) (by decide +kernel)), by decide +kernel⟩, rfl, by decide +kernel, fun _ => rfl⟩
theorem fdX9_27 : kFd RX9 27 7 3 := ⟨_, _, _, _, clX9, by decide, ⟨kin1 (List.mem_of_getElem? (i := 160) (by decide +kernel)), by decide +kernel⟩⟩
theorem pfX9_27 : kPf RX9 27 7 3 (.array .boolean) true := ⟨_, _, _, _, clX9, by decide, ⟨kin1 (List.mem_of_getElem? (i := 160) (by decide +kernel)), by decide +kernel⟩, rfl, by decide +kernel, fun _ => rfl⟩
theorem fdX9_34 : kFd RX9 34 7 4 := ⟨_, _, _, _, clX9, by decide, ⟨kin1 (List.mem_of_getElem? (i := 161) (by decide +kernel)), by decide +kernel⟩⟩
theorem pfX9_34 : kPf RX9 34 7 4 (.object "KingsInches$Humps") true := ⟨_, _, _, _, clX9, by decide, ⟨kin1 (List.mem_of_getElem? (i := 161) (by decide +kernel)), by decide +kernel⟩, rfl, by decide +kernel, fun _ => rfl⟩
theorem fdX9_43 : kFd RX9 43 7 5 := ⟨_, _, _, _, clX9, by decide, ⟨kin1 (List.mem_of_getElem? (i := 162) (by decide +kernel)), by decide +kernel⟩⟩
theorem pfX9_43 : kPf RX9 43 7 5 (.object "KingsInches$Undoing") true := ⟨_, _, _, _, clX9, by decide, ⟨kin1 (List.mem_of_getElem? (i := 162) (by decide +kernel)), by decide +kernel⟩, rfl, by decide +kernel, fun _ => rfl⟩
theorem fdX9_50 : kFd RX9 50 7 6 := ⟨_, _, _, _, clX9, by decide, ⟨kin1 (List.mem_of_getElem? (i := 163) (by decide +kernel)), by decide +kernel⟩⟩
theorem pfX9_50 : kPf RX9 50 7 6 (.object "KingsInches$Maker") true := ⟨_, _, _, _, clX9, by decide, ⟨kin1 (List.mem_of_getElem? (i := 163) (by decide +kernel)), by decide +kernel⟩, rfl, by decide +kernel, fun _ => rfl⟩
theorem fdX9_57 : kFd RX9 57 7 7 := ⟨_, _, _, _, clX9, by decide, ⟨kin1 (List.mem_of_getElem? (i := 164) (by decide +kernel)), by decide +kernel⟩⟩
theorem pfX9_57 : kPf RX9 57 7 7 (.object "KingsInches$Book") true := ⟨_, _, _, _, clX9, by decide, ⟨kin1 (List.mem_of_getElem? (i := 164) (by decide +kernel)), by decide +kernel⟩, rfl, by decide +kernel, fun _ => rfl⟩
theorem lkL_13 : kWd (.methodLink RL 13 yX9_men) := ⟨kin1 (List.mem_of_getElem? (i := 182) (by decide +kernel)), by decide +kernel⟩
theorem lkX9_61 : kWd (.methodLink RX9 61 yX2_bookAt) := ⟨kin1 (List.mem_of_getElem? (i := 186) (by decide +kernel)), by decide +kernel⟩
theorem lkX9_65 : kWd (.methodLink RX9 65 yX9_isHeight) := ⟨kin1 (List.mem_of_getElem? (i := 193) (by decide +kernel)), by decide +kernel⟩
theorem lkX9_69 : kWd (.methodLink RX9 69 yX9_within) := ⟨kin1 (List.mem_of_getElem? (i := 196) (by decide +kernel)), by decide +kernel⟩
theorem lkX9_73 : kWd (.methodLink RX9 73 yX0_menAt) := ⟨kin1 (List.mem_of_getElem? (i := 197) (by decide +kernel)), by decide +kernel⟩
theorem lkX9_77 : kWd (.methodLink RX9 77 yX0_put) := ⟨kin1 (List.mem_of_getElem? (i := 201) (by decide +kernel)), by decide +kernel⟩
theorem lkL_18 : kWd (.methodLink RL 18 yX9_set) := ⟨kin1 (List.mem_of_getElem? (i := 206) (by decide +kernel)), by decide +kernel⟩
theorem slX9_81 : kWd (.fieldLink RX9 81 RX9 "LEAST_ENTRY" "[I") := ⟨kin1 (List.mem_of_getElem? (i := 210) (by decide +kernel)), by decide +kernel⟩
theorem kx_1_211 : Jvm.Cond.laysStatic "KingsInches" "LEAST_ENTRY" "[I" ∈ lw_tbl := (kin1 (List.mem_of_getElem? (i := 211) (by decide +kernel)))
theorem slX9_85 : kWd (.fieldLink RX9 85 RX9 "MOST_ENTRY" "[I") := ⟨kin1 (List.mem_of_getElem? (i := 212) (by decide +kernel)), by decide +kernel⟩
theorem kx_1_213 : Jvm.Cond.laysStatic "KingsInches" "MOST_ENTRY" "[I" ∈ lw_tbl := (kin1 (List.mem_of_getElem? (i := 213) (by decide +kernel)))
theorem lkX9_88 : kWd (.methodLink RX9 88 yX0_entry) := ⟨kin1 (List.mem_of_getElem? (i := 214) (by decide +kernel)), by decide +kernel⟩
theorem lkX9_91 : kWd (.methodLink RX9 91 yX0_enter) := ⟨kin1 (List.mem_of_getElem? (i := 219) (by decide +kernel)), by decide +kernel⟩
theorem lkL_22 : kWd (.methodLink RL 22 yX9_way) := ⟨kin1 (List.mem_of_getElem? (i := 223) (by decide +kernel)), by decide +kernel⟩
theorem slX9_94 : kWd (.fieldLink RX9 94 RX9 "MOST_WAY" "[I") := ⟨kin1 (List.mem_of_getElem? (i := 227) (by decide +kernel)), by decide +kernel⟩
theorem lkX9_97 : kWd (.methodLink RX9 97 yX2_wayOf) := ⟨kin1 (List.mem_of_getElem? (i := 228) (by decide +kernel)), by decide +kernel⟩
theorem lkX9_100 : kWd (.methodLink RX9 100 yX2_turn) := ⟨kin1 (List.mem_of_getElem? (i := 232) (by decide +kernel)), by decide +kernel⟩
theorem lkL_27 : kWd (.methodLink RL 27 yX9_say) := ⟨kin1 (List.mem_of_getElem? (i := 236) (by decide +kernel)), by decide +kernel⟩
theorem lkX9_103 : kWd (.methodLink RX9 103 yX7_add) := ⟨kin2 (List.mem_of_getElem? (i := 0) (by decide +kernel)), by decide +kernel⟩
theorem lkL_32 : kWd (.methodLink RL 32 yX9_wipe) := ⟨kin2 (List.mem_of_getElem? (i := 4) (by decide +kernel)), by decide +kernel⟩
theorem lkX9_110 : kWd (.methodLink RX9 110 yX7_clear) := ⟨kin2 (List.mem_of_getElem? (i := 8) (by decide +kernel)), by decide +kernel⟩
theorem lkL_37 : kWd (.methodLink RL 37 yX9_fault) := ⟨kin2 (List.mem_of_getElem? (i := 12) (by decide +kernel)), by decide +kernel⟩
theorem lkX9_113 : kWd (.methodLink RX9 113 yX1_faultOf) := ⟨kin2 (List.mem_of_getElem? (i := 16) (by decide +kernel)), by decide +kernel⟩
theorem lkX1_17 : kWd (.methodLink RX1 17 yX7_signAt) := ⟨kin2 (List.mem_of_getElem? (i := 19) (by decide +kernel)), by decide +kernel⟩
theorem lkX1_21 : kWd (.methodLink RX1 21 yX1_after) := ⟨kin2 (List.mem_of_getElem? (i := 23) (by decide +kernel)), by decide +kernel⟩
theorem lkX1_25 : kWd (.methodLink RX1 25 yX1_beginTest) := ⟨kin2 (List.mem_of_getElem? (i := 26) (by decide +kernel)), by decide +kernel⟩
theorem lkX1_28 : kWd (.methodLink RX1 28 yX1_isDigit) := ⟨kin2 (List.mem_of_getElem? (i := 29) (by decide +kernel)), by decide +kernel⟩
theorem lkX1_32 : kWd (.methodLink RX1 32 yX1_endTest) := ⟨kin2 (List.mem_of_getElem? (i := 32) (by decide +kernel)), by decide +kernel⟩
theorem lkX1_35 : kWd (.methodLink RX1 35 yX1_endPiece) := ⟨kin2 (List.mem_of_getElem? (i := 35) (by decide +kernel)), by decide +kernel⟩
theorem lkX1_38 : kWd (.methodLink RX1 38 yX1_afterInGrowth) := ⟨kin2 (List.mem_of_getElem? (i := 38) (by decide +kernel)), by decide +kernel⟩
theorem lkX1_41 : kWd (.methodLink RX1 41 yX1_endAge) := ⟨kin2 (List.mem_of_getElem? (i := 41) (by decide +kernel)), by decide +kernel⟩
theorem lkL_41 : kWd (.methodLink RL 41 yX9_take) := ⟨kin2 (List.mem_of_getElem? (i := 44) (by decide +kernel)), by decide +kernel⟩
theorem lkX9_125 : kWd (.methodLink RX9 125 yX7_copyFrom) := ⟨kin2 (List.mem_of_getElem? (i := 48) (by decide +kernel)), by decide +kernel⟩
theorem lkX7_19 : kWd (.methodLink RX7 19 ⟨"java/lang/System", "arraycopy", "(Ljava/lang/Object;ILjava/lang/Object;II)V"⟩) := ⟨kin2 (List.mem_of_getElem? (i := 52) (by decide +kernel)), by decide +kernel⟩
theorem kx_2_53 : kWd (Jvm.Cond.static ({ cls := "java/lang/System", name := "arraycopy", desc := "(Ljava/lang/Object;ILjava/lang/Object;II)V" } : Jvm.MethodName)) := ⟨kin2 (List.mem_of_getElem? (i := 53) (by decide +kernel)), by decide +kernel⟩
theorem kx_2_54 : kWd (Jvm.Cond.native ({ cls := "java/lang/System", name := "arraycopy", desc := "(Ljava/lang/Object;ILjava/lang/Object;II)V" } : Jvm.MethodName)) := ⟨kin2 (List.mem_of_getElem? (i := 54) (by decide +kernel)), by decide +kernel⟩
theorem lkX9_129 : kWd (.methodLink RX9 129 yX7_pieces) := ⟨kin2 (List.mem_of_getElem? (i := 55) (by decide +kernel)), by decide +kernel⟩
theorem lkX7_25 : kWd (.methodLink RX7 25 yX7_signAt) := ⟨kin2 (List.mem_of_getElem? (i := 59) (by decide +kernel)), by decide +kernel⟩
theorem lkL_45 : kWd (.methodLink RL 45 yX9_line) := ⟨kin2 (List.mem_of_getElem? (i := 60) (by decide +kernel)), by decide +kernel⟩
theorem lkX9_133 : kWd (.methodLink RX9 133 yX2_lineOf) := ⟨kin2 (List.mem_of_getElem? (i := 64) (by decide +kernel)), by decide +kernel⟩
theorem lkX2_52 : kWd (.methodLink RX2 52 yX0_entry) := ⟨kin2 (List.mem_of_getElem? (i := 68) (by decide +kernel)), by decide +kernel⟩
theorem lkX2_56 : kWd (.methodLink RX2 56 yX5_lineBy) := ⟨kin2 (List.mem_of_getElem? (i := 69) (by decide +kernel)), by decide +kernel⟩
theorem lkX5_13 : kWd (.methodLink RX5 13 yX7_signAt) := ⟨kin2 (List.mem_of_getElem? (i := 72) (by decide +kernel)), by decide +kernel⟩
theorem lkX5_17 : kWd (.methodLink RX5 17 yX1_isDigit) := ⟨kin2 (List.mem_of_getElem? (i := 73) (by decide +kernel)), by decide +kernel⟩
theorem lkX5_23 : kWd (.methodLink RX5 23 yX5_holds) := ⟨kin2 (List.mem_of_getElem? (i := 74) (by decide +kernel)), by decide +kernel⟩
theorem lkX2_62 : kWd (.methodLink RX2 62 yJ9_min_7cf53) := ⟨kin2 (List.mem_of_getElem? (i := 77) (by decide +kernel)), by decide +kernel⟩
theorem lkL_49 : kWd (.methodLink RL 49 yX9_hump) := ⟨kin2 (List.mem_of_getElem? (i := 80) (by decide +kernel)), by decide +kernel⟩
theorem lkX9_137 : kWd (.methodLink RX9 137 yX9_isHump) := ⟨kin2 (List.mem_of_getElem? (i := 84) (by decide +kernel)), by decide +kernel⟩
theorem lkX9_164 : kWd (.methodLink RX9 164 yX9_isWidth) := ⟨kin2 (List.mem_of_getElem? (i := 87) (by decide +kernel)), by decide +kernel⟩
theorem lkX9_141 : kWd (.methodLink RX9 141 yX3_menAt) := ⟨kin2 (List.mem_of_getElem? (i := 90) (by decide +kernel)), by decide +kernel⟩
theorem lkX3_16 : kWd (.methodLink RX3 16 yX3_waysOf) := ⟨kin2 (List.mem_of_getElem? (i := 94) (by decide +kernel)), by decide +kernel⟩
theorem lkL_53 : kWd (.methodLink RL 53 yX9_upper) := ⟨kin2 (List.mem_of_getElem? (i := 98) (by decide +kernel)), by decide +kernel⟩
theorem lkX9_144 : kWd (.methodLink RX9 144 yX9_isPart) := ⟨kin2 (List.mem_of_getElem? (i := 102) (by decide +kernel)), by decide +kernel⟩
theorem kcX9_147 : kWd (.constantLong RX9 147 (-1000000000000000002)) := ⟨kin2 (List.mem_of_getElem? (i := 105) (by decide +kernel)), by decide +kernel⟩
theorem lkX9_149 : kWd (.methodLink RX9 149 yX3_countFrom) := ⟨kin2 (List.mem_of_getElem? (i := 106) (by decide +kernel)), by decide +kernel⟩
theorem lkX3_20 : kWd (.methodLink RX3 20 yJ9_max_7cf53) := ⟨kin2 (List.mem_of_getElem? (i := 110) (by decide +kernel)), by decide +kernel⟩
theorem lkX3_25 : kWd (.methodLink RX3 25 yX3_menAt) := ⟨kin2 (List.mem_of_getElem? (i := 113) (by decide +kernel)), by decide +kernel⟩
theorem lkX9_153 : kWd (.methodLink RX9 153 yX9_tell) := ⟨kin2 (List.mem_of_getElem? (i := 114) (by decide +kernel)), by decide +kernel⟩
theorem lkX9_304 : kWd (.methodLink RX9 304 yJ9_abs_067f4) := ⟨kin2 (List.mem_of_getElem? (i := 117) (by decide +kernel)), by decide +kernel⟩
theorem lkX9_307 : kWd (.methodLink RX9 307 yX9_commonDivisor) := ⟨kin2 (List.mem_of_getElem? (i := 120) (by decide +kernel)), by decide +kernel⟩
theorem lkX9_311 : kWd (.methodLink RX9 311 yJ9_max_f86c9) := ⟨kin2 (List.mem_of_getElem? (i := 123) (by decide +kernel)), by decide +kernel⟩
theorem lkX9_157 : kWd (.methodLink RX9 157 yX3_sumFrom) := ⟨kin2 (List.mem_of_getElem? (i := 126) (by decide +kernel)), by decide +kernel⟩
theorem lkL_58 : kWd (.methodLink RL 58 yX9_misfit) := ⟨kin2 (List.mem_of_getElem? (i := 130) (by decide +kernel)), by decide +kernel⟩
theorem lkX9_160 : kWd (.methodLink RX9 160 yX8_misfitOf) := ⟨kin2 (List.mem_of_getElem? (i := 134) (by decide +kernel)), by decide +kernel⟩
theorem lkX8_19 : kWd (.methodLink RX8 19 yJ9_max_7cf53) := ⟨kin2 (List.mem_of_getElem? (i := 138) (by decide +kernel)), by decide +kernel⟩
theorem lkX8_25 : kWd (.methodLink RX8 25 yJ9_min_7cf53) := ⟨kin2 (List.mem_of_getElem? (i := 139) (by decide +kernel)), by decide +kernel⟩
theorem lkX8_28 : kWd (.methodLink RX8 28 yX3_menAt) := ⟨kin2 (List.mem_of_getElem? (i := 140) (by decide +kernel)), by decide +kernel⟩
theorem lkX8_40 : kWd (.methodLink RX8 40 yX0_menAt) := ⟨kin2 (List.mem_of_getElem? (i := 141) (by decide +kernel)), by decide +kernel⟩
theorem lkX8_43 : kWd (.methodLink RX8 43 yJ9_abs_067f4) := ⟨kin2 (List.mem_of_getElem? (i := 142) (by decide +kernel)), by decide +kernel⟩
theorem lkL_63 : kWd (.methodLink RL 63 yX9_fit) := ⟨kin2 (List.mem_of_getElem? (i := 143) (by decide +kernel)), by decide +kernel⟩
theorem lkX9_167 : kWd (.methodLink RX9 167 yX9_seekMiddle) := ⟨kin2 (List.mem_of_getElem? (i := 147) (by decide +kernel)), by decide +kernel⟩
theorem lkX9_278 : kWd (.methodLink RX9 278 yX8_seekMiddle) := ⟨kin2 (List.mem_of_getElem? (i := 151) (by decide +kernel)), by decide +kernel⟩
theorem lkX8_50 : kWd (.methodLink RX8 50 yX8_misfitOf) := ⟨kin2 (List.mem_of_getElem? (i := 155) (by decide +kernel)), by decide +kernel⟩
theorem lkX8_54 : kWd (.methodLink RX8 54 yX8_offer) := ⟨kin2 (List.mem_of_getElem? (i := 156) (by decide +kernel)), by decide +kernel⟩
theorem lkL_67 : kWd (.methodLink RL 67 yX9_span) := ⟨kin2 (List.mem_of_getElem? (i := 160) (by decide +kernel)), by decide +kernel⟩
theorem lkX9_177 : kWd (.methodLink RX9 177 yX9_seekSpan) := ⟨kin2 (List.mem_of_getElem? (i := 164) (by decide +kernel)), by decide +kernel⟩
theorem lkX9_281 : kWd (.methodLink RX9 281 yX8_seekSpan) := ⟨kin2 (List.mem_of_getElem? (i := 168) (by decide +kernel)), by decide +kernel⟩
theorem lkX8_58 : kWd (.methodLink RX8 58 yX8_seekMiddle) := ⟨kin2 (List.mem_of_getElem? (i := 172) (by decide +kernel)), by decide +kernel⟩
theorem lkL_71 : kWd (.methodLink RL 71 yX9_found) := ⟨kin2 (List.mem_of_getElem? (i := 173) (by decide +kernel)), by decide +kernel⟩
theorem lkX9_187 : kWd (.methodLink RX9 187 yX8_seekLine) := ⟨kin2 (List.mem_of_getElem? (i := 177) (by decide +kernel)), by decide +kernel⟩
theorem lkL_75 : kWd (.methodLink RL 75 yX9_written) := ⟨kin2 (List.mem_of_getElem? (i := 181) (by decide +kernel)), by decide +kernel⟩
theorem lkX9_193 : kWd (.methodLink RX9 193 yX2_hundredths) := ⟨kin2 (List.mem_of_getElem? (i := 185) (by decide +kernel)), by decide +kernel⟩
theorem lkX2_72 : kWd (.methodLink RX2 72 yX2_wayOf) := ⟨kin2 (List.mem_of_getElem? (i := 189) (by decide +kernel)), by decide +kernel⟩
theorem lkX9_297 : kWd (.methodLink RX9 297 yJ9_min_7cf53) := ⟨kin2 (List.mem_of_getElem? (i := 193) (by decide +kernel)), by decide +kernel⟩
theorem kcX9_196 : kWd (.constantLong RX9 196 (100)) := ⟨kin2 (List.mem_of_getElem? (i := 194) (by decide +kernel)), by decide +kernel⟩
theorem lkL_80 : kWd (.methodLink RL 80 yX9_back) := ⟨kin2 (List.mem_of_getElem? (i := 195) (by decide +kernel)), by decide +kernel⟩
theorem lkL_85 : kWd (.methodLink RL 85 yX9_pile) := ⟨kin2 (List.mem_of_getElem? (i := 199) (by decide +kernel)), by decide +kernel⟩
theorem kcX9_198 : kWd (.constantLong RX9 198 (-1000000000000000001)) := ⟨kin2 (List.mem_of_getElem? (i := 203) (by decide +kernel)), by decide +kernel⟩
theorem kcX9_200 : kWd (.constantLong RX9 200 (4)) := ⟨kin2 (List.mem_of_getElem? (i := 204) (by decide +kernel)), by decide +kernel⟩
theorem lkX9_202 : kWd (.methodLink RX9 202 yX0_atWholeInches) := ⟨kin2 (List.mem_of_getElem? (i := 205) (by decide +kernel)), by decide +kernel⟩
theorem lkL_90 : kWd (.methodLink RL 90 yX9_grown) := ⟨kin2 (List.mem_of_getElem? (i := 209) (by decide +kernel)), by decide +kernel⟩
theorem lkX9_208 : kWd (.methodLink RX9 208 yX2_growthFrom) := ⟨kin2 (List.mem_of_getElem? (i := 213) (by decide +kernel)), by decide +kernel⟩
theorem lkX2_68 : kWd (.methodLink RX2 68 yX5_growthAt) := ⟨kin2 (List.mem_of_getElem? (i := 217) (by decide +kernel)), by decide +kernel⟩
theorem lkX9_211 : kWd (.methodLink RX9 211 yX2_tenthsGrown) := ⟨kin2 (List.mem_of_getElem? (i := 220) (by decide +kernel)), by decide +kernel⟩
theorem lkX2_75 : kWd (.methodLink RX2 75 yX2_growthFrom) := ⟨kin2 (List.mem_of_getElem? (i := 224) (by decide +kernel)), by decide +kernel⟩
theorem kcX9_214 : kWd (.constantLong RX9 214 (10)) := ⟨kin2 (List.mem_of_getElem? (i := 225) (by decide +kernel)), by decide +kernel⟩
theorem lkL_95 : kWd (.methodLink RL 95 yX9_right) := ⟨kin2 (List.mem_of_getElem? (i := 226) (by decide +kernel)), by decide +kernel⟩
theorem lkL_99 : kWd (.methodLink RL 99 yX9_mix) := ⟨kin2 (List.mem_of_getElem? (i := 230) (by decide +kernel)), by decide +kernel⟩
theorem lkX9_216 : kWd (.methodLink RX9 216 yX9_areSorts) := ⟨kin2 (List.mem_of_getElem? (i := 234) (by decide +kernel)), by decide +kernel⟩
theorem lkX9_220 : kWd (.methodLink RX9 220 yX9_isShare) := ⟨kin2 (List.mem_of_getElem? (i := 237) (by decide +kernel)), by decide +kernel⟩
theorem cwX9_223 : kWd (.classLink RX9 223 RX6) := ⟨kin3 (List.mem_of_getElem? (i := 0) (by decide +kernel)), by decide +kernel⟩
theorem nwX9_223 : kNw RX9 223 4 4 tyX6 := ⟨_, _, clX6, cwX9_223, wi_RX6⟩
theorem lkX9_225 : kWd (.methodLink RX9 225 yX6_init) := ⟨kin3 (List.mem_of_getElem? (i := 2) (by decide +kernel)), by decide +kernel⟩
theorem lkX6_3 : kWd (.methodLink RX6 3 Lib.objectInit) := ⟨kin3 (List.mem_of_getElem? (i := 5) (by decide +kernel)), by decide +kernel⟩
theorem lkX6_9 : kWd (.methodLink RX6 9 yX3_sumFrom) := ⟨kin3 (List.mem_of_getElem? (i := 6) (by decide +kernel)), by decide +kernel⟩
theorem lkX6_21 : kWd (.methodLink RX6 21 yX3_countFrom) := ⟨kin3 (List.mem_of_getElem? (i := 7) (by decide +kernel)), by decide +kernel⟩
theorem fdX6_15 : kFd RX6 15 4 0 := ⟨_, _, _, _, clX6, by decide, ⟨kin3 (List.mem_of_getElem? (i := 8) (by decide +kernel)), by decide +kernel⟩⟩
theorem pfX6_15 : kPf RX6 15 4 0 .long true := ⟨_, _, _, _, clX6, by decide, ⟨kin3 (List.mem_of_getElem? (i := 8) (by decide +kernel)), by decide +kernel⟩, rfl, by decide +kernel, fun _ => rfl⟩
theorem fdX6_24 : kFd RX6 24 4 1 := ⟨_, _, _, _, clX6, by decide, ⟨kin3 (List.mem_of_getElem? (i := 9) (by decide +kernel)), by decide +kernel⟩⟩
theorem pfX6_24 : kPf RX6 24 4 1 .long true := ⟨_, _, _, _, clX6, by decide, ⟨kin3 (List.mem_of_getElem? (i := 9) (by decide +kernel)), by decide +kernel⟩, rfl, by decide +kernel, fun _ => rfl⟩
theorem fdX6_27 : kFd RX6 27 4 2 := ⟨_, _, _, _, clX6, by decide, ⟨kin3 (List.mem_of_getElem? (i := 10) (by decide +kernel)), by decide +kernel⟩⟩
theorem pfX6_27 : kPf RX6 27 4 2 .long true := ⟨_, _, _, _, clX6, by decide, ⟨kin3 (List.mem_of_getElem? (i := 10) (by decide +kernel)), by decide +kernel⟩, rfl, by decide +kernel, fun _ => rfl⟩
theorem fdX6_30 : kFd RX6 30 4 3 := ⟨_, _, _, _, clX6, by decide, ⟨kin3 (List.mem_of_getElem? (i := 11) (by decide +kernel)), by decide +kernel⟩⟩
theorem pfX6_30 : kPf RX6 30 4 3 .long true := ⟨_, _, _, _, clX6, by decide, ⟨kin3 (List.mem_of_getElem? (i := 11) (by decide +kernel)), by decide +kernel⟩, rfl, by decide +kernel, fun _ => rfl⟩
theorem lkX9_228 : kWd (.methodLink RX9 228 yX6_lack) := ⟨kin3 (List.mem_of_getElem? (i := 21) (by decide +kernel)), by decide +kernel⟩
theorem lkX6_33 : kWd (.methodLink RX6 33 yX6_count) := ⟨kin3 (List.mem_of_getElem? (i := 25) (by decide +kernel)), by decide +kernel⟩
theorem kcX9_231 : kWd (.constantLong RX9 231 (-1000000000000000005)) := ⟨kin3 (List.mem_of_getElem? (i := 29) (by decide +kernel)), by decide +kernel⟩
theorem lkX9_233 : kWd (.methodLink RX9 233 yX6_sum) := ⟨kin3 (List.mem_of_getElem? (i := 30) (by decide +kernel)), by decide +kernel⟩
theorem lkX9_237 : kWd (.methodLink RX9 237 yX6_count) := ⟨kin3 (List.mem_of_getElem? (i := 34) (by decide +kernel)), by decide +kernel⟩
theorem lkL_103 : kWd (.methodLink RL 103 yX9_fall) := ⟨kin3 (List.mem_of_getElem? (i := 35) (by decide +kernel)), by decide +kernel⟩
theorem lkX9_239 : kWd (.methodLink RX9 239 yX9_tellFall) := ⟨kin3 (List.mem_of_getElem? (i := 39) (by decide +kernel)), by decide +kernel⟩
theorem lkX9_300 : kWd (.methodLink RX9 300 yX6_gap) := ⟨kin3 (List.mem_of_getElem? (i := 42) (by decide +kernel)), by decide +kernel⟩
theorem lkX6_37 : kWd (.methodLink RX6 37 yX6_sum) := ⟨kin3 (List.mem_of_getElem? (i := 46) (by decide +kernel)), by decide +kernel⟩
theorem lkL_108 : kWd (.methodLink RL 108 yX9_alone) := ⟨kin3 (List.mem_of_getElem? (i := 47) (by decide +kernel)), by decide +kernel⟩
theorem lkX9_243 : kWd (.methodLink RX9 243 yX9_areShares) := ⟨kin3 (List.mem_of_getElem? (i := 51) (by decide +kernel)), by decide +kernel⟩
theorem lkX9_246 : kWd (.methodLink RX9 246 yX6_lesser) := ⟨kin3 (List.mem_of_getElem? (i := 54) (by decide +kernel)), by decide +kernel⟩
theorem lkX6_40 : kWd (.methodLink RX6 40 yX6_gap) := ⟨kin3 (List.mem_of_getElem? (i := 58) (by decide +kernel)), by decide +kernel⟩
theorem lkX9_250 : kWd (.methodLink RX9 250 yX6_greater) := ⟨kin3 (List.mem_of_getElem? (i := 59) (by decide +kernel)), by decide +kernel⟩
theorem lkL_113 : kWd (.methodLink RL 113 yX9_mean) := ⟨kin3 (List.mem_of_getElem? (i := 63) (by decide +kernel)), by decide +kernel⟩
theorem lkX9_253 : kWd (.methodLink RX9 253 yX0_sumMoved) := ⟨kin3 (List.mem_of_getElem? (i := 67) (by decide +kernel)), by decide +kernel⟩
theorem lkX0_54 : kWd (.methodLink RX0 54 yJ9_min_7cf53) := ⟨kin3 (List.mem_of_getElem? (i := 71) (by decide +kernel)), by decide +kernel⟩
theorem lkX0_60 : kWd (.methodLink RX0 60 yJ9_max_7cf53) := ⟨kin3 (List.mem_of_getElem? (i := 72) (by decide +kernel)), by decide +kernel⟩
theorem lkL_117 : kWd (.methodLink RL 117 yX9_mode) := ⟨kin3 (List.mem_of_getElem? (i := 73) (by decide +kernel)), by decide +kernel⟩
theorem lkX9_256 : kWd (.methodLink RX9 256 yX0_commonest) := ⟨kin3 (List.mem_of_getElem? (i := 77) (by decide +kernel)), by decide +kernel⟩
theorem lkL_121 : kWd (.methodLink RL 121 yX9_about) := ⟨kin3 (List.mem_of_getElem? (i := 81) (by decide +kernel)), by decide +kernel⟩
theorem kcX9_259 : kWd (.constantLong RX9 259 (-1000000000000000003)) := ⟨kin3 (List.mem_of_getElem? (i := 85) (by decide +kernel)), by decide +kernel⟩
theorem lkL_125 : kWd (.methodLink RL 125 yX9_beside) := ⟨kin3 (List.mem_of_getElem? (i := 86) (by decide +kernel)), by decide +kernel⟩
theorem lkL_129 : kWd (.methodLink RL 129 yX9_shorter) := ⟨kin3 (List.mem_of_getElem? (i := 90) (by decide +kernel)), by decide +kernel⟩
theorem lkL_133 : kWd (.methodLink RL 133 yX9_make) := ⟨kin3 (List.mem_of_getElem? (i := 94) (by decide +kernel)), by decide +kernel⟩
theorem lkX9_261 : kWd (.methodLink RX9 261 yX9_isWorld) := ⟨kin3 (List.mem_of_getElem? (i := 98) (by decide +kernel)), by decide +kernel⟩
theorem lkX9_264 : kWd (.methodLink RX9 264 yX4_fill) := ⟨kin3 (List.mem_of_getElem? (i := 101) (by decide +kernel)), by decide +kernel⟩
theorem lkX4_20 : kWd (.methodLink RX4 20 yX0_clearMen) := ⟨kin3 (List.mem_of_getElem? (i := 105) (by decide +kernel)), by decide +kernel⟩
theorem lkX0_38 : kWd (.methodLink RX0 38 yJ7_fill_53178) := ⟨kin3 (List.mem_of_getElem? (i := 109) (by decide +kernel)), by decide +kernel⟩
theorem lkX4_25 : kWd (.methodLink RX4 25 yX2_lineOf) := ⟨kin3 (List.mem_of_getElem? (i := 112) (by decide +kernel)), by decide +kernel⟩
theorem lkX4_31 : kWd (.methodLink RX4 31 yX4_draw) := ⟨kin3 (List.mem_of_getElem? (i := 113) (by decide +kernel)), by decide +kernel⟩
theorem kcX4_19 : kWd (.constant RX4 19 (65537)) := ⟨kin3 (List.mem_of_getElem? (i := 117) (by decide +kernel)), by decide +kernel⟩
theorem lkX4_35 : kWd (.methodLink RX4 35 yX3_heightOf) := ⟨kin3 (List.mem_of_getElem? (i := 118) (by decide +kernel)), by decide +kernel⟩
theorem lkX4_45 : kWd (.methodLink RX4 45 yX4_placeOf) := ⟨kin3 (List.mem_of_getElem? (i := 123) (by decide +kernel)), by decide +kernel⟩
theorem lkX4_59 : kWd (.methodLink RX4 59 yX2_wayOf) := ⟨kin3 (List.mem_of_getElem? (i := 127) (by decide +kernel)), by decide +kernel⟩
theorem lkX4_49 : kWd (.methodLink RX4 49 yX0_menAt) := ⟨kin3 (List.mem_of_getElem? (i := 129) (by decide +kernel)), by decide +kernel⟩
theorem lkX4_52 : kWd (.methodLink RX4 52 yX0_put) := ⟨kin3 (List.mem_of_getElem? (i := 130) (by decide +kernel)), by decide +kernel⟩
theorem lkL_138 : kWd (.methodLink RL 138 yX9_off) := ⟨kin3 (List.mem_of_getElem? (i := 131) (by decide +kernel)), by decide +kernel⟩
theorem lkX9_268 : kWd (.methodLink RX9 268 yX9_offBy) := ⟨kin3 (List.mem_of_getElem? (i := 135) (by decide +kernel)), by decide +kernel⟩
theorem lkX9_284 : kWd (.methodLink RX9 284 yX0_copyEntries) := ⟨kin3 (List.mem_of_getElem? (i := 139) (by decide +kernel)), by decide +kernel⟩
theorem lkX0_44 : kWd (.methodLink RX0 44 ⟨"java/lang/System", "arraycopy", "(Ljava/lang/Object;ILjava/lang/Object;II)V"⟩) := ⟨kin3 (List.mem_of_getElem? (i := 143) (by decide +kernel)), by decide +kernel⟩
theorem lkX9_288 : kWd (.methodLink RX9 288 yX9_undone) := ⟨kin3 (List.mem_of_getElem? (i := 144) (by decide +kernel)), by decide +kernel⟩
theorem lkX9_292 : kWd (.methodLink RX9 292 yJ9_abs_0f7a4) := ⟨kin3 (List.mem_of_getElem? (i := 148) (by decide +kernel)), by decide +kernel⟩
theorem lkL_143 : kWd (.methodLink RL 143 yX9_best) := ⟨kin3 (List.mem_of_getElem? (i := 151) (by decide +kernel)), by decide +kernel⟩
theorem lkL_148 : kWd (.methodLink RL 148 yX9_image) := ⟨kin3 (List.mem_of_getElem? (i := 155) (by decide +kernel)), by decide +kernel⟩
theorem lkX9_272 : kWd (.methodLink RX9 272 yX9_isImage) := ⟨kin3 (List.mem_of_getElem? (i := 159) (by decide +kernel)), by decide +kernel⟩
theorem lkX9_275 : kWd (.methodLink RX9 275 yX2_copyFrom) := ⟨kin3 (List.mem_of_getElem? (i := 162) (by decide +kernel)), by decide +kernel⟩
theorem lkX2_35 : kWd (.methodLink RX2 35 yX0_copyFrom) := ⟨kin3 (List.mem_of_getElem? (i := 166) (by decide +kernel)), by decide +kernel⟩
theorem lkX0_50 : kWd (.methodLink RX0 50 yX0_copyEntries) := ⟨kin3 (List.mem_of_getElem? (i := 170) (by decide +kernel)), by decide +kernel⟩
theorem lkX2_39 : kWd (.methodLink RX2 39 yX7_copyFrom) := ⟨kin3 (List.mem_of_getElem? (i := 171) (by decide +kernel)), by decide +kernel⟩
theorem lkX2_42 : kWd (.methodLink RX2 42 ⟨"java/lang/System", "arraycopy", "(Ljava/lang/Object;ILjava/lang/Object;II)V"⟩) := ⟨kin3 (List.mem_of_getElem? (i := 172) (by decide +kernel)), by decide +kernel⟩
theorem lkL_152 : kWd (.methodLink RL 152 yX9_restore) := ⟨kin3 (List.mem_of_getElem? (i := 173) (by decide +kernel)), by decide +kernel⟩
theorem lkL_156 : kWd (.methodLink RL 156 yX9_told) := ⟨kin3 (List.mem_of_getElem? (i := 177) (by decide +kernel)), by decide +kernel⟩
theorem cwL_10 : kWd (.classLink RL 10 RX10) := ⟨kin3 (List.mem_of_getElem? (i := 181) (by decide +kernel)), by decide +kernel⟩
theorem nwL_10 : kNw RL 10 8 33 tyX10 := ⟨_, _, clX10, cwL_10, wi_RX10⟩
theorem lkL_12 : kWd (.methodLink RL 12 yX10_init) := ⟨kin3 (List.mem_of_getElem? (i := 183) (by decide +kernel)), by decide +kernel⟩
theorem lkX10_1 : kWd (.methodLink RX10 1 Lib.objectInit) := ⟨kin3 (List.mem_of_getElem? (i := 186) (by decide +kernel)), by decide +kernel⟩
theorem fdX10_7 : kFd RX10 7 8 0 := ⟨_, _, _, _, clX10, by decide, ⟨kin3 (List.mem_of_getElem? (i := 187) (by decide +kernel)), by decide +kernel⟩⟩
theorem pfX10_7 : kPf RX10 7 8 0 (.array .int) true := ⟨_, _, _, _, clX10, by decide, ⟨kin3 (List.mem_of_getElem? (i := 187) (by decide +kernel)), by decide +kernel⟩, rfl, by decide +kernel, fun _ => rfl⟩
theorem fdX10_13 : kFd RX10 13 8 1 := ⟨_, _, _, _, clX10, by decide, ⟨kin3 (List.mem_of_getElem? (i := 188) (by decide +kernel)), by decide +kernel⟩⟩
theorem pfX10_13 : kPf RX10 13 8 1 (.array .int) true := ⟨_, _, _, _, clX10, by decide, ⟨kin3 (List.mem_of_getElem? (i := 188) (by decide +kernel)), by decide +kernel⟩, rfl, by decide +kernel, fun _ => rfl⟩
theorem fdX10_16 : kFd RX10 16 8 2 := ⟨_, _, _, _, clX10, by decide, ⟨kin3 (List.mem_of_getElem? (i := 189) (by decide +kernel)), by decide +kernel⟩⟩
theorem pfX10_16 : kPf RX10 16 8 2 (.array .int) true := ⟨_, _, _, _, clX10, by decide, ⟨kin3 (List.mem_of_getElem? (i := 189) (by decide +kernel)), by decide +kernel⟩, rfl, by decide +kernel, fun _ => rfl⟩
theorem fdX10_19 : kFd RX10 19 8 3 := ⟨_, _, _, _, clX10, by decide, ⟨kin3 (List.mem_of_getElem? (i := 190) (by decide +kernel)), by decide +kernel⟩⟩
theorem pfX10_19 : kPf RX10 19 8 3 (.array .int) true := ⟨_, _, _, _, clX10, by decide, ⟨kin3 (List.mem_of_getElem? (i := 190) (by decide +kernel)), by decide +kernel⟩, rfl, by decide +kernel, fun _ => rfl⟩
theorem fdX10_22 : kFd RX10 22 8 4 := ⟨_, _, _, _, clX10, by decide, ⟨kin3 (List.mem_of_getElem? (i := 191) (by decide +kernel)), by decide +kernel⟩⟩
theorem pfX10_22 : kPf RX10 22 8 4 (.array .int) true := ⟨_, _, _, _, clX10, by decide, ⟨kin3 (List.mem_of_getElem? (i := 191) (by decide +kernel)), by decide +kernel⟩, rfl, by decide +kernel, fun _ => rfl⟩
theorem fdX10_25 : kFd RX10 25 8 5 := ⟨_, _, _, _, clX10, by decide, ⟨kin3 (List.mem_of_getElem? (i := 192) (by decide +kernel)), by decide +kernel⟩⟩
theorem pfX10_25 : kPf RX10 25 8 5 (.array .int) true := ⟨_, _, _, _, clX10, by decide, ⟨kin3 (List.mem_of_getElem? (i := 192) (by decide +kernel)), by decide +kernel⟩, rfl, by decide +kernel, fun _ => rfl⟩
theorem fdX10_107 : kFd RX10 107 8 6 := ⟨_, _, _, _, clX10, by decide, ⟨kin3 (List.mem_of_getElem? (i := 193) (by decide +kernel)), by decide +kernel⟩⟩
theorem pfX10_107 : kPf RX10 107 8 6 .int false := ⟨_, _, _, _, clX10, by decide, ⟨kin3 (List.mem_of_getElem? (i := 193) (by decide +kernel)), by decide +kernel⟩, rfl, by decide +kernel, fun h => by cases h⟩
theorem fdX10_28 : kFd RX10 28 8 7 := ⟨_, _, _, _, clX10, by decide, ⟨kin3 (List.mem_of_getElem? (i := 194) (by decide +kernel)), by decide +kernel⟩⟩
theorem pfX10_28 : kPf RX10 28 8 7 (.array .int) true := ⟨_, _, _, _, clX10, by decide, ⟨kin3 (List.mem_of_getElem? (i := 194) (by decide +kernel)), by decide +kernel⟩, rfl, by decide +kernel, fun _ => rfl⟩
theorem fdX10_31 : kFd RX10 31 8 8 := ⟨_, _, _, _, clX10, by decide, ⟨kin3 (List.mem_of_getElem? (i := 195) (by decide +kernel)), by decide +kernel⟩⟩
theorem pfX10_31 : kPf RX10 31 8 8 (.array .int) true := ⟨_, _, _, _, clX10, by decide, ⟨kin3 (List.mem_of_getElem? (i := 195) (by decide +kernel)), by decide +kernel⟩, rfl, by decide +kernel, fun _ => rfl⟩
theorem fdX10_131 : kFd RX10 131 8 9 := ⟨_, _, _, _, clX10, by decide, ⟨kin3 (List.mem_of_getElem? (i := 196) (by decide +kernel)), by decide +kernel⟩⟩
theorem pfX10_131 : kPf RX10 131 8 9 .int false := ⟨_, _, _, _, clX10, by decide, ⟨kin3 (List.mem_of_getElem? (i := 196) (by decide +kernel)), by decide +kernel⟩, rfl, by decide +kernel, fun h => by cases h⟩
theorem fdX10_34 : kFd RX10 34 8 10 := ⟨_, _, _, _, clX10, by decide, ⟨kin3 (List.mem_of_getElem? (i := 197) (by decide +kernel)), by decide +kernel⟩⟩
theorem pfX10_34 : kPf RX10 34 8 10 (.array .int) true := ⟨_, _, _, _, clX10, by decide, ⟨kin3 (List.mem_of_getElem? (i := 197) (by decide +kernel)), by decide +kernel⟩, rfl, by decide +kernel, fun _ => rfl⟩
theorem fdX10_37 : kFd RX10 37 8 11 := ⟨_, _, _, _, clX10, by decide, ⟨kin3 (List.mem_of_getElem? (i := 198) (by decide +kernel)), by decide +kernel⟩⟩
theorem pfX10_37 : kPf RX10 37 8 11 (.array .int) true := ⟨_, _, _, _, clX10, by decide, ⟨kin3 (List.mem_of_getElem? (i := 198) (by decide +kernel)), by decide +kernel⟩, rfl, by decide +kernel, fun _ => rfl⟩
theorem fdX10_40 : kFd RX10 40 8 12 := ⟨_, _, _, _, clX10, by decide, ⟨kin3 (List.mem_of_getElem? (i := 199) (by decide +kernel)), by decide +kernel⟩⟩
theorem pfX10_40 : kPf RX10 40 8 12 (.array .int) true := ⟨_, _, _, _, clX10, by decide, ⟨kin3 (List.mem_of_getElem? (i := 199) (by decide +kernel)), by decide +kernel⟩, rfl, by decide +kernel, fun _ => rfl⟩
theorem fdX10_134 : kFd RX10 134 8 13 := ⟨_, _, _, _, clX10, by decide, ⟨kin3 (List.mem_of_getElem? (i := 200) (by decide +kernel)), by decide +kernel⟩⟩
theorem pfX10_134 : kPf RX10 134 8 13 .int false := ⟨_, _, _, _, clX10, by decide, ⟨kin3 (List.mem_of_getElem? (i := 200) (by decide +kernel)), by decide +kernel⟩, rfl, by decide +kernel, fun h => by cases h⟩
theorem fdX10_43 : kFd RX10 43 8 14 := ⟨_, _, _, _, clX10, by decide, ⟨kin3 (List.mem_of_getElem? (i := 201) (by decide +kernel)), by decide +kernel⟩⟩
theorem pfX10_43 : kPf RX10 43 8 14 (.array .int) true := ⟨_, _, _, _, clX10, by decide, ⟨kin3 (List.mem_of_getElem? (i := 201) (by decide +kernel)), by decide +kernel⟩, rfl, by decide +kernel, fun _ => rfl⟩
theorem fdX10_46 : kFd RX10 46 8 15 := ⟨_, _, _, _, clX10, by decide, ⟨kin3 (List.mem_of_getElem? (i := 202) (by decide +kernel)), by decide +kernel⟩⟩
theorem pfX10_46 : kPf RX10 46 8 15 (.array .int) true := ⟨_, _, _, _, clX10, by decide, ⟨kin3 (List.mem_of_getElem? (i := 202) (by decide +kernel)), by decide +kernel⟩, rfl, by decide +kernel, fun _ => rfl⟩
theorem fdX10_137 : kFd RX10 137 8 16 := ⟨_, _, _, _, clX10, by decide, ⟨kin3 (List.mem_of_getElem? (i := 203) (by decide +kernel)), by decide +kernel⟩⟩
theorem pfX10_137 : kPf RX10 137 8 16 .int false := ⟨_, _, _, _, clX10, by decide, ⟨kin3 (List.mem_of_getElem? (i := 203) (by decide +kernel)), by decide +kernel⟩, rfl, by decide +kernel, fun h => by cases h⟩
theorem fdX10_49 : kFd RX10 49 8 17 := ⟨_, _, _, _, clX10, by decide, ⟨kin3 (List.mem_of_getElem? (i := 204) (by decide +kernel)), by decide +kernel⟩⟩
theorem pfX10_49 : kPf RX10 49 8 17 (.array .int) true := ⟨_, _, _, _, clX10, by decide, ⟨kin3 (List.mem_of_getElem? (i := 204) (by decide +kernel)), by decide +kernel⟩, rfl, by decide +kernel, fun _ => rfl⟩
theorem fdX10_182 : kFd RX10 182 8 18 := ⟨_, _, _, _, clX10, by decide, ⟨kin3 (List.mem_of_getElem? (i := 205) (by decide +kernel)), by decide +kernel⟩⟩
theorem pfX10_182 : kPf RX10 182 8 18 .int false := ⟨_, _, _, _, clX10, by decide, ⟨kin3 (List.mem_of_getElem? (i := 205) (by decide +kernel)), by decide +kernel⟩, rfl, by decide +kernel, fun h => by cases h⟩
theorem fdX10_185 : kFd RX10 185 8 19 := ⟨_, _, _, _, clX10, by decide, ⟨kin3 (List.mem_of_getElem? (i := 206) (by decide +kernel)), by decide +kernel⟩⟩
theorem pfX10_185 : kPf RX10 185 8 19 .int false := ⟨_, _, _, _, clX10, by decide, ⟨kin3 (List.mem_of_getElem? (i := 206) (by decide +kernel)), by decide +kernel⟩, rfl, by decide +kernel, fun h => by cases h⟩
theorem fdX10_179 : kFd RX10 179 8 20 := ⟨_, _, _, _, clX10, by decide, ⟨kin3 (List.mem_of_getElem? (i := 207) (by decide +kernel)), by decide +kernel⟩⟩
theorem pfX10_179 : kPf RX10 179 8 20 .int false := ⟨_, _, _, _, clX10, by decide, ⟨kin3 (List.mem_of_getElem? (i := 207) (by decide +kernel)), by decide +kernel⟩, rfl, by decide +kernel, fun h => by cases h⟩
theorem fdX10_196 : kFd RX10 196 8 21 := ⟨_, _, _, _, clX10, by decide, ⟨kin3 (List.mem_of_getElem? (i := 208) (by decide +kernel)), by decide +kernel⟩⟩
theorem pfX10_196 : kPf RX10 196 8 21 .int false := ⟨_, _, _, _, clX10, by decide, ⟨kin3 (List.mem_of_getElem? (i := 208) (by decide +kernel)), by decide +kernel⟩, rfl, by decide +kernel, fun h => by cases h⟩
theorem fdX10_199 : kFd RX10 199 8 22 := ⟨_, _, _, _, clX10, by decide, ⟨kin3 (List.mem_of_getElem? (i := 209) (by decide +kernel)), by decide +kernel⟩⟩
theorem pfX10_199 : kPf RX10 199 8 22 .int false := ⟨_, _, _, _, clX10, by decide, ⟨kin3 (List.mem_of_getElem? (i := 209) (by decide +kernel)), by decide +kernel⟩, rfl, by decide +kernel, fun h => by cases h⟩
theorem fdX10_227 : kFd RX10 227 8 23 := ⟨_, _, _, _, clX10, by decide, ⟨kin3 (List.mem_of_getElem? (i := 210) (by decide +kernel)), by decide +kernel⟩⟩
theorem pfX10_227 : kPf RX10 227 8 23 .long false := ⟨_, _, _, _, clX10, by decide, ⟨kin3 (List.mem_of_getElem? (i := 210) (by decide +kernel)), by decide +kernel⟩, rfl, by decide +kernel, fun h => by cases h⟩
theorem fdX10_231 : kFd RX10 231 8 24 := ⟨_, _, _, _, clX10, by decide, ⟨kin3 (List.mem_of_getElem? (i := 211) (by decide +kernel)), by decide +kernel⟩⟩
theorem pfX10_231 : kPf RX10 231 8 24 .long false := ⟨_, _, _, _, clX10, by decide, ⟨kin3 (List.mem_of_getElem? (i := 211) (by decide +kernel)), by decide +kernel⟩, rfl, by decide +kernel, fun h => by cases h⟩
theorem fdX10_254 : kFd RX10 254 8 25 := ⟨_, _, _, _, clX10, by decide, ⟨kin3 (List.mem_of_getElem? (i := 212) (by decide +kernel)), by decide +kernel⟩⟩
theorem pfX10_254 : kPf RX10 254 8 25 .long false := ⟨_, _, _, _, clX10, by decide, ⟨kin3 (List.mem_of_getElem? (i := 212) (by decide +kernel)), by decide +kernel⟩, rfl, by decide +kernel, fun h => by cases h⟩
theorem fdX10_251 : kFd RX10 251 8 26 := ⟨_, _, _, _, clX10, by decide, ⟨kin3 (List.mem_of_getElem? (i := 213) (by decide +kernel)), by decide +kernel⟩⟩
theorem pfX10_251 : kPf RX10 251 8 26 .long false := ⟨_, _, _, _, clX10, by decide, ⟨kin3 (List.mem_of_getElem? (i := 213) (by decide +kernel)), by decide +kernel⟩, rfl, by decide +kernel, fun h => by cases h⟩
theorem fdX10_273 : kFd RX10 273 8 27 := ⟨_, _, _, _, clX10, by decide, ⟨kin3 (List.mem_of_getElem? (i := 214) (by decide +kernel)), by decide +kernel⟩⟩
theorem pfX10_273 : kPf RX10 273 8 27 .int false := ⟨_, _, _, _, clX10, by decide, ⟨kin3 (List.mem_of_getElem? (i := 214) (by decide +kernel)), by decide +kernel⟩, rfl, by decide +kernel, fun h => by cases h⟩
theorem fdX10_52 : kFd RX10 52 8 28 := ⟨_, _, _, _, clX10, by decide, ⟨kin3 (List.mem_of_getElem? (i := 215) (by decide +kernel)), by decide +kernel⟩⟩
theorem pfX10_52 : kPf RX10 52 8 28 (.array .int) true := ⟨_, _, _, _, clX10, by decide, ⟨kin3 (List.mem_of_getElem? (i := 215) (by decide +kernel)), by decide +kernel⟩, rfl, by decide +kernel, fun _ => rfl⟩
theorem fdX10_55 : kFd RX10 55 8 29 := ⟨_, _, _, _, clX10, by decide, ⟨kin3 (List.mem_of_getElem? (i := 216) (by decide +kernel)), by decide +kernel⟩⟩
theorem pfX10_55 : kPf RX10 55 8 29 (.array .int) true := ⟨_, _, _, _, clX10, by decide, ⟨kin3 (List.mem_of_getElem? (i := 216) (by decide +kernel)), by decide +kernel⟩, rfl, by decide +kernel, fun _ => rfl⟩
theorem fdX10_58 : kFd RX10 58 8 30 := ⟨_, _, _, _, clX10, by decide, ⟨kin3 (List.mem_of_getElem? (i := 217) (by decide +kernel)), by decide +kernel⟩⟩
theorem pfX10_58 : kPf RX10 58 8 30 (.array .boolean) true := ⟨_, _, _, _, clX10, by decide, ⟨kin3 (List.mem_of_getElem? (i := 217) (by decide +kernel)), by decide +kernel⟩, rfl, by decide +kernel, fun _ => rfl⟩
theorem fdX10_309 : kFd RX10 309 8 31 := ⟨_, _, _, _, clX10, by decide, ⟨kin3 (List.mem_of_getElem? (i := 218) (by decide +kernel)), by decide +kernel⟩⟩
theorem pfX10_309 : kPf RX10 309 8 31 .int false := ⟨_, _, _, _, clX10, by decide, ⟨kin3 (List.mem_of_getElem? (i := 218) (by decide +kernel)), by decide +kernel⟩, rfl, by decide +kernel, fun h => by cases h⟩
theorem fdX10_305 : kFd RX10 305 8 32 := ⟨_, _, _, _, clX10, by decide, ⟨kin3 (List.mem_of_getElem? (i := 219) (by decide +kernel)), by decide +kernel⟩⟩
theorem pfX10_305 : kPf RX10 305 8 32 .boolean false := ⟨_, _, _, _, clX10, by decide, ⟨kin3 (List.mem_of_getElem? (i := 219) (by decide +kernel)), by decide +kernel⟩, rfl, by decide +kernel, fun h => by cases h⟩
theorem lkL_17 : kWd (.methodLink RL 17 yX10_men) := ⟨kin4 (List.mem_of_getElem? (i := 47) (by decide +kernel)), by decide +kernel⟩
theorem lkX10_76 : kWd (.methodLink RX10 76 yX10_isBook) := ⟨kin4 (List.mem_of_getElem? (i := 51) (by decide +kernel)), by decide +kernel⟩
theorem kcX10_62 : kWd (.constantLong RX10 62 (5)) := ⟨kin4 (List.mem_of_getElem? (i := 54) (by decide +kernel)), by decide +kernel⟩
theorem lkX10_64 : kWd (.methodLink RX10 64 yX10_in) := ⟨kin4 (List.mem_of_getElem? (i := 55) (by decide +kernel)), by decide +kernel⟩
theorem lkX10_80 : kWd (.methodLink RX10 80 yX10_isHeight) := ⟨kin4 (List.mem_of_getElem? (i := 58) (by decide +kernel)), by decide +kernel⟩
theorem kcX10_68 : kWd (.constantLong RX10 68 (63)) := ⟨kin4 (List.mem_of_getElem? (i := 61) (by decide +kernel)), by decide +kernel⟩
theorem kcX10_83 : kWd (.constantLong RX10 83 (999)) := ⟨kin4 (List.mem_of_getElem? (i := 62) (by decide +kernel)), by decide +kernel⟩
theorem lkX10_85 : kWd (.methodLink RX10 85 yX10_at) := ⟨kin4 (List.mem_of_getElem? (i := 63) (by decide +kernel)), by decide +kernel⟩
theorem lkL_21 : kWd (.methodLink RL 21 yX10_set) := ⟨kin4 (List.mem_of_getElem? (i := 66) (by decide +kernel)), by decide +kernel⟩
theorem kcX10_89 : kWd (.constantLong RX10 89 (2)) := ⟨kin4 (List.mem_of_getElem? (i := 70) (by decide +kernel)), by decide +kernel⟩
theorem kcX10_91 : kWd (.constantLong RX10 91 (14)) := ⟨kin4 (List.mem_of_getElem? (i := 71) (by decide +kernel)), by decide +kernel⟩
theorem kcX10_93 : kWd (.constantLong RX10 93 (99)) := ⟨kin4 (List.mem_of_getElem? (i := 72) (by decide +kernel)), by decide +kernel⟩
theorem kcX10_95 : kWd (.constantLong RX10 95 (40)) := ⟨kin4 (List.mem_of_getElem? (i := 73) (by decide +kernel)), by decide +kernel⟩
theorem lkL_26 : kWd (.methodLink RL 26 yX10_way) := ⟨kin4 (List.mem_of_getElem? (i := 74) (by decide +kernel)), by decide +kernel⟩
theorem kcX10_97 : kWd (.constantLong RX10 97 (4)) := ⟨kin4 (List.mem_of_getElem? (i := 78) (by decide +kernel)), by decide +kernel⟩
theorem kcX10_99 : kWd (.constantLong RX10 99 (9)) := ⟨kin4 (List.mem_of_getElem? (i := 79) (by decide +kernel)), by decide +kernel⟩
theorem kcX10_101 : kWd (.constantLong RX10 101 (10)) := ⟨kin4 (List.mem_of_getElem? (i := 80) (by decide +kernel)), by decide +kernel⟩
theorem lkL_31 : kWd (.methodLink RL 31 yX10_say) := ⟨kin4 (List.mem_of_getElem? (i := 81) (by decide +kernel)), by decide +kernel⟩
theorem kcX10_103 : kWd (.constantLong RX10 103 (33)) := ⟨kin4 (List.mem_of_getElem? (i := 85) (by decide +kernel)), by decide +kernel⟩
theorem kcX10_105 : kWd (.constantLong RX10 105 (126)) := ⟨kin4 (List.mem_of_getElem? (i := 86) (by decide +kernel)), by decide +kernel⟩
theorem lkL_36 : kWd (.methodLink RL 36 yX10_wipe) := ⟨kin4 (List.mem_of_getElem? (i := 87) (by decide +kernel)), by decide +kernel⟩
theorem lkL_40 : kWd (.methodLink RL 40 yX10_fault) := ⟨kin4 (List.mem_of_getElem? (i := 91) (by decide +kernel)), by decide +kernel⟩
theorem lkX10_124 : kWd (.methodLink RX10 124 yX10_isEnd) := ⟨kin4 (List.mem_of_getElem? (i := 95) (by decide +kernel)), by decide +kernel⟩
theorem lkX10_127 : kWd (.methodLink RX10 127 yX10_faultOf) := ⟨kin4 (List.mem_of_getElem? (i := 98) (by decide +kernel)), by decide +kernel⟩
theorem lkX10_118 : kWd (.methodLink RX10 118 yX10_ruleStep) := ⟨kin4 (List.mem_of_getElem? (i := 102) (by decide +kernel)), by decide +kernel⟩
theorem lkX10_115 : kWd (.methodLink RX10 115 yX10_isDigit) := ⟨kin4 (List.mem_of_getElem? (i := 105) (by decide +kernel)), by decide +kernel⟩
theorem kcX10_111 : kWd (.constantLong RX10 111 (48)) := ⟨kin4 (List.mem_of_getElem? (i := 108) (by decide +kernel)), by decide +kernel⟩
theorem kcX10_113 : kWd (.constantLong RX10 113 (57)) := ⟨kin4 (List.mem_of_getElem? (i := 109) (by decide +kernel)), by decide +kernel⟩
theorem lkX10_121 : kWd (.methodLink RX10 121 yX10_growthStep) := ⟨kin4 (List.mem_of_getElem? (i := 110) (by decide +kernel)), by decide +kernel⟩
theorem lkL_44 : kWd (.methodLink RL 44 yX10_take) := ⟨kin4 (List.mem_of_getElem? (i := 113) (by decide +kernel)), by decide +kernel⟩
theorem lkX10_140 : kWd (.methodLink RX10 140 yX10_takeRule) := ⟨kin4 (List.mem_of_getElem? (i := 117) (by decide +kernel)), by decide +kernel⟩
theorem lkX10_143 : kWd (.methodLink RX10 143 yX10_takeGrowth) := ⟨kin4 (List.mem_of_getElem? (i := 121) (by decide +kernel)), by decide +kernel⟩
theorem lkL_48 : kWd (.methodLink RL 48 yX10_line) := ⟨kin4 (List.mem_of_getElem? (i := 125) (by decide +kernel)), by decide +kernel⟩
theorem lkX10_146 : kWd (.methodLink RX10 146 yX10_lineOf) := ⟨kin4 (List.mem_of_getElem? (i := 129) (by decide +kernel)), by decide +kernel⟩
theorem lkL_52 : kWd (.methodLink RL 52 yX10_hump) := ⟨kin4 (List.mem_of_getElem? (i := 133) (by decide +kernel)), by decide +kernel⟩
theorem lkX10_152 : kWd (.methodLink RX10 152 yX10_isWidth) := ⟨kin4 (List.mem_of_getElem? (i := 137) (by decide +kernel)), by decide +kernel⟩
theorem kcX10_70 : kWd (.constantLong RX10 70 (8)) := ⟨kin4 (List.mem_of_getElem? (i := 140) (by decide +kernel)), by decide +kernel⟩
theorem lkX10_155 : kWd (.methodLink RX10 155 yX10_humpOf) := ⟨kin4 (List.mem_of_getElem? (i := 141) (by decide +kernel)), by decide +kernel⟩
theorem lkX10_149 : kWd (.methodLink RX10 149 yX10_choose) := ⟨kin4 (List.mem_of_getElem? (i := 144) (by decide +kernel)), by decide +kernel⟩
theorem lkL_57 : kWd (.methodLink RL 57 yX10_upper) := ⟨kin4 (List.mem_of_getElem? (i := 147) (by decide +kernel)), by decide +kernel⟩
theorem kcX10_159 : kWd (.constantLong RX10 159 (-1000000000000000002)) := ⟨kin4 (List.mem_of_getElem? (i := 151) (by decide +kernel)), by decide +kernel⟩
theorem lkX10_161 : kWd (.methodLink RX10 161 yX10_lowest) := ⟨kin4 (List.mem_of_getElem? (i := 152) (by decide +kernel)), by decide +kernel⟩
theorem lkX10_72 : kWd (.methodLink RX10 72 yX10_common) := ⟨kin4 (List.mem_of_getElem? (i := 155) (by decide +kernel)), by decide +kernel⟩
theorem lkL_62 : kWd (.methodLink RL 62 yX10_misfit) := ⟨kin4 (List.mem_of_getElem? (i := 158) (by decide +kernel)), by decide +kernel⟩
theorem lkX10_168 : kWd (.methodLink RX10 168 yX10_findChosen) := ⟨kin4 (List.mem_of_getElem? (i := 162) (by decide +kernel)), by decide +kernel⟩
theorem lkX10_172 : kWd (.methodLink RX10 172 yX10_all) := ⟨kin4 (List.mem_of_getElem? (i := 166) (by decide +kernel)), by decide +kernel⟩
theorem lkX10_175 : kWd (.methodLink RX10 175 yX10_misfitOf) := ⟨kin4 (List.mem_of_getElem? (i := 170) (by decide +kernel)), by decide +kernel⟩
theorem lkX10_165 : kWd (.methodLink RX10 165 yX10_apart) := ⟨kin4 (List.mem_of_getElem? (i := 174) (by decide +kernel)), by decide +kernel⟩
theorem lkL_66 : kWd (.methodLink RL 66 yX10_fit) := ⟨kin4 (List.mem_of_getElem? (i := 177) (by decide +kernel)), by decide +kernel⟩
theorem lkX10_192 : kWd (.methodLink RX10 192 yX10_findFit) := ⟨kin4 (List.mem_of_getElem? (i := 181) (by decide +kernel)), by decide +kernel⟩
theorem lkX10_188 : kWd (.methodLink RX10 188 yX10_keepBest) := ⟨kin4 (List.mem_of_getElem? (i := 185) (by decide +kernel)), by decide +kernel⟩
theorem lkL_70 : kWd (.methodLink RL 70 yX10_span) := ⟨kin4 (List.mem_of_getElem? (i := 189) (by decide +kernel)), by decide +kernel⟩
theorem lkX10_202 : kWd (.methodLink RX10 202 yX10_findSpan) := ⟨kin4 (List.mem_of_getElem? (i := 193) (by decide +kernel)), by decide +kernel⟩
theorem lkL_74 : kWd (.methodLink RL 74 yX10_found) := ⟨kin4 (List.mem_of_getElem? (i := 197) (by decide +kernel)), by decide +kernel⟩
theorem lkX10_205 : kWd (.methodLink RX10 205 yX10_findLine) := ⟨kin4 (List.mem_of_getElem? (i := 201) (by decide +kernel)), by decide +kernel⟩
theorem lkL_79 : kWd (.methodLink RL 79 yX10_written) := ⟨kin4 (List.mem_of_getElem? (i := 205) (by decide +kernel)), by decide +kernel⟩
theorem lkX10_211 : kWd (.methodLink RX10 211 yX10_writtenOf) := ⟨kin4 (List.mem_of_getElem? (i := 209) (by decide +kernel)), by decide +kernel⟩
theorem lkX10_208 : kWd (.methodLink RX10 208 yX10_inchOf) := ⟨kin4 (List.mem_of_getElem? (i := 213) (by decide +kernel)), by decide +kernel⟩
theorem kcX10_214 : kWd (.constantLong RX10 214 (100)) := ⟨kin4 (List.mem_of_getElem? (i := 216) (by decide +kernel)), by decide +kernel⟩
theorem lkL_84 : kWd (.methodLink RL 84 yX10_back) := ⟨kin4 (List.mem_of_getElem? (i := 217) (by decide +kernel)), by decide +kernel⟩
theorem lkL_89 : kWd (.methodLink RL 89 yX10_pile) := ⟨kin4 (List.mem_of_getElem? (i := 221) (by decide +kernel)), by decide +kernel⟩
theorem kcX10_216 : kWd (.constantLong RX10 216 (-1000000000000000001)) := ⟨kin4 (List.mem_of_getElem? (i := 225) (by decide +kernel)), by decide +kernel⟩
theorem lkL_94 : kWd (.methodLink RL 94 yX10_grown) := ⟨kin4 (List.mem_of_getElem? (i := 226) (by decide +kernel)), by decide +kernel⟩
theorem lkX10_221 : kWd (.methodLink RX10 221 yX10_grownFrom) := ⟨kin4 (List.mem_of_getElem? (i := 230) (by decide +kernel)), by decide +kernel⟩
theorem lkX10_218 : kWd (.methodLink RX10 218 yX10_growsAt) := ⟨kin4 (List.mem_of_getElem? (i := 234) (by decide +kernel)), by decide +kernel⟩
theorem lkX10_224 : kWd (.methodLink RX10 224 yX10_meanGrown) := ⟨kin4 (List.mem_of_getElem? (i := 238) (by decide +kernel)), by decide +kernel⟩
theorem lkL_98 : kWd (.methodLink RL 98 yX10_right) := ⟨kin5 (List.mem_of_getElem? (i := 2) (by decide +kernel)), by decide +kernel⟩
theorem lkL_102 : kWd (.methodLink RL 102 yX10_mix) := ⟨kin5 (List.mem_of_getElem? (i := 6) (by decide +kernel)), by decide +kernel⟩
theorem lkX10_234 : kWd (.methodLink RX10 234 yX10_areHumps) := ⟨kin5 (List.mem_of_getElem? (i := 10) (by decide +kernel)), by decide +kernel⟩
theorem lkX10_238 : kWd (.methodLink RX10 238 yX10_isShare) := ⟨kin5 (List.mem_of_getElem? (i := 13) (by decide +kernel)), by decide +kernel⟩
theorem lkX10_241 : kWd (.methodLink RX10 241 yX10_findMix) := ⟨kin5 (List.mem_of_getElem? (i := 16) (by decide +kernel)), by decide +kernel⟩
theorem kcX10_245 : kWd (.constantLong RX10 245 (-1000000000000000005)) := ⟨kin5 (List.mem_of_getElem? (i := 20) (by decide +kernel)), by decide +kernel⟩
theorem lkL_107 : kWd (.methodLink RL 107 yX10_fall) := ⟨kin5 (List.mem_of_getElem? (i := 21) (by decide +kernel)), by decide +kernel⟩
theorem lkX10_247 : kWd (.methodLink RX10 247 yX10_less) := ⟨kin5 (List.mem_of_getElem? (i := 25) (by decide +kernel)), by decide +kernel⟩
theorem lkL_112 : kWd (.methodLink RL 112 yX10_alone) := ⟨kin5 (List.mem_of_getElem? (i := 28) (by decide +kernel)), by decide +kernel⟩
theorem lkX10_257 : kWd (.methodLink RX10 257 yX10_areShares) := ⟨kin5 (List.mem_of_getElem? (i := 32) (by decide +kernel)), by decide +kernel⟩
theorem lkX10_260 : kWd (.methodLink RX10 260 yX10_findEnd) := ⟨kin5 (List.mem_of_getElem? (i := 35) (by decide +kernel)), by decide +kernel⟩
theorem lkL_116 : kWd (.methodLink RL 116 yX10_mean) := ⟨kin5 (List.mem_of_getElem? (i := 39) (by decide +kernel)), by decide +kernel⟩
theorem lkX10_264 : kWd (.methodLink RX10 264 yX10_sumOf) := ⟨kin5 (List.mem_of_getElem? (i := 43) (by decide +kernel)), by decide +kernel⟩
theorem lkL_120 : kWd (.methodLink RL 120 yX10_mode) := ⟨kin5 (List.mem_of_getElem? (i := 47) (by decide +kernel)), by decide +kernel⟩
theorem lkX10_268 : kWd (.methodLink RX10 268 yX10_modeOf) := ⟨kin5 (List.mem_of_getElem? (i := 51) (by decide +kernel)), by decide +kernel⟩
theorem lkL_124 : kWd (.methodLink RL 124 yX10_about) := ⟨kin5 (List.mem_of_getElem? (i := 55) (by decide +kernel)), by decide +kernel⟩
theorem kcX10_271 : kWd (.constantLong RX10 271 (-1000000000000000003)) := ⟨kin5 (List.mem_of_getElem? (i := 59) (by decide +kernel)), by decide +kernel⟩
theorem lkL_128 : kWd (.methodLink RL 128 yX10_beside) := ⟨kin5 (List.mem_of_getElem? (i := 60) (by decide +kernel)), by decide +kernel⟩
theorem lkL_132 : kWd (.methodLink RL 132 yX10_shorter) := ⟨kin5 (List.mem_of_getElem? (i := 64) (by decide +kernel)), by decide +kernel⟩
theorem lkL_137 : kWd (.methodLink RL 137 yX10_make) := ⟨kin5 (List.mem_of_getElem? (i := 68) (by decide +kernel)), by decide +kernel⟩
theorem lkX10_290 : kWd (.methodLink RX10 290 yX10_isWorld) := ⟨kin5 (List.mem_of_getElem? (i := 72) (by decide +kernel)), by decide +kernel⟩
theorem kcX10_286 : kWd (.constantLong RX10 286 (9999)) := ⟨kin5 (List.mem_of_getElem? (i := 75) (by decide +kernel)), by decide +kernel⟩
theorem kcX10_288 : kWd (.constantLong RX10 288 (200)) := ⟨kin5 (List.mem_of_getElem? (i := 76) (by decide +kernel)), by decide +kernel⟩
theorem lkX10_293 : kWd (.methodLink RX10 293 yX10_makeIn) := ⟨kin5 (List.mem_of_getElem? (i := 77) (by decide +kernel)), by decide +kernel⟩
theorem lkX10_277 : kWd (.methodLink RX10 277 yX10_draw) := ⟨kin5 (List.mem_of_getElem? (i := 81) (by decide +kernel)), by decide +kernel⟩
theorem kcX10_276 : kWd (.constant RX10 276 (65537)) := ⟨kin5 (List.mem_of_getElem? (i := 85) (by decide +kernel)), by decide +kernel⟩
theorem lkX10_280 : kWd (.methodLink RX10 280 yX10_heightOf) := ⟨kin5 (List.mem_of_getElem? (i := 86) (by decide +kernel)), by decide +kernel⟩
theorem lkX10_283 : kWd (.methodLink RX10 283 yX10_writtenAt) := ⟨kin5 (List.mem_of_getElem? (i := 90) (by decide +kernel)), by decide +kernel⟩
theorem lkL_142 : kWd (.methodLink RL 142 yX10_off) := ⟨kin5 (List.mem_of_getElem? (i := 94) (by decide +kernel)), by decide +kernel⟩
theorem kcX10_299 : kWd (.constantLong RX10 299 (3)) := ⟨kin5 (List.mem_of_getElem? (i := 98) (by decide +kernel)), by decide +kernel⟩
theorem lkX10_301 : kWd (.methodLink RX10 301 yX10_offOf) := ⟨kin5 (List.mem_of_getElem? (i := 99) (by decide +kernel)), by decide +kernel⟩
theorem lkX10_296 : kWd (.methodLink RX10 296 yX10_undone) := ⟨kin5 (List.mem_of_getElem? (i := 103) (by decide +kernel)), by decide +kernel⟩
theorem lkL_147 : kWd (.methodLink RL 147 yX10_best) := ⟨kin5 (List.mem_of_getElem? (i := 107) (by decide +kernel)), by decide +kernel⟩
theorem lkL_151 : kWd (.methodLink RL 151 yX10_image) := ⟨kin5 (List.mem_of_getElem? (i := 111) (by decide +kernel)), by decide +kernel⟩
theorem lkX10_315 : kWd (.methodLink RX10 315 yX10_passAll) := ⟨kin5 (List.mem_of_getElem? (i := 115) (by decide +kernel)), by decide +kernel⟩
theorem lkX10_312 : kWd (.methodLink RX10 312 yX10_pass) := ⟨kin5 (List.mem_of_getElem? (i := 119) (by decide +kernel)), by decide +kernel⟩
theorem lkL_155 : kWd (.methodLink RL 155 yX10_restore) := ⟨kin5 (List.mem_of_getElem? (i := 123) (by decide +kernel)), by decide +kernel⟩
theorem lkL_159 : kWd (.methodLink RL 159 yX10_told) := ⟨kin5 (List.mem_of_getElem? (i := 127) (by decide +kernel)), by decide +kernel⟩
theorem kcX10_318 : kWd (.constantLong RX10 318 (7)) := ⟨kin5 (List.mem_of_getElem? (i := 131) (by decide +kernel)), by decide +kernel⟩
theorem kcX10_320 : kWd (.constantLong RX10 320 (15)) := ⟨kin5 (List.mem_of_getElem? (i := 132) (by decide +kernel)), by decide +kernel⟩
theorem kcX10_322 : kWd (.constantLong RX10 322 (20)) := ⟨kin5 (List.mem_of_getElem? (i := 133) (by decide +kernel)), by decide +kernel⟩
theorem kcX10_324 : kWd (.constantLong RX10 324 (25)) := ⟨kin5 (List.mem_of_getElem? (i := 134) (by decide +kernel)), by decide +kernel⟩
theorem kcX10_326 : kWd (.constantLong RX10 326 (30)) := ⟨kin5 (List.mem_of_getElem? (i := 135) (by decide +kernel)), by decide +kernel⟩
theorem kcX10_328 : kWd (.constantLong RX10 328 (35)) := ⟨kin5 (List.mem_of_getElem? (i := 136) (by decide +kernel)), by decide +kernel⟩
theorem kcX10_330 : kWd (.constantLong RX10 330 (45)) := ⟨kin5 (List.mem_of_getElem? (i := 137) (by decide +kernel)), by decide +kernel⟩
/-- words that a state keeps too, by laws of their own -/
def kNst : List Cond := [.methodLinkNest RX9 9 yX7_init RX9, .arrayOver (.object "KingsInches$Book"), .methodLinkNest RX2 19 yX7_init RX9, .fieldLinkNest RX2 27 RX9 "MOST_WAY" "[I" RX9, .methodLinkNest RX2 34 yX0_init RX9, .fieldLinkNest RX0 15 RX9 "FIRST_ENTRY" "[I" RX9, .castable "[I" "java/lang/Cloneable", .arrayOver (.object "KingsInches$Holding"), .arrayOver (.array .int), .methodLinkNest RX9 56 yX0_init RX9, .methodLinkNest RX2 48 yX9_within RX9, .methodLinkNest RX0 26 yX9_isHeight RX9, .methodLinkNest RX0 34 yX9_within RX9, .methodLinkNest RX2 78 yX9_nearestInch RX9, .methodLinkNest RX4 41 yX9_isHeight RX9, .methodLinkNest RX4 62 yX9_nearestInch RX9]
theorem lnX9_9 : (.methodLinkNest RX9 9 yX7_init RX9 : Cond) ∈ kNst := List.mem_of_getElem? (i := 0) rfl
theorem la_1 : (.arrayOver (.object "KingsInches$Book") : Cond) ∈ kNst := List.mem_of_getElem? (i := 1) rfl
theorem lnX2_19 : (.methodLinkNest RX2 19 yX7_init RX9 : Cond) ∈ kNst := List.mem_of_getElem? (i := 2) rfl
theorem lfX2_27 : (.fieldLinkNest RX2 27 RX9 "MOST_WAY" "[I" RX9 : Cond) ∈ kNst := List.mem_of_getElem? (i := 3) rfl
theorem lnX2_34 : (.methodLinkNest RX2 34 yX0_init RX9 : Cond) ∈ kNst := List.mem_of_getElem? (i := 4) rfl
theorem lfX0_15 : (.fieldLinkNest RX0 15 RX9 "FIRST_ENTRY" "[I" RX9 : Cond) ∈ kNst := List.mem_of_getElem? (i := 5) rfl
theorem lc_0 : (.castable "[I" "java/lang/Cloneable" : Cond) ∈ kNst := List.mem_of_getElem? (i := 6) rfl
theorem la_7 : (.arrayOver (.object "KingsInches$Holding") : Cond) ∈ kNst := List.mem_of_getElem? (i := 7) rfl
theorem la_8 : (.arrayOver (.array .int) : Cond) ∈ kNst := List.mem_of_getElem? (i := 8) rfl
theorem lnX9_56 : (.methodLinkNest RX9 56 yX0_init RX9 : Cond) ∈ kNst := List.mem_of_getElem? (i := 9) rfl
theorem lnX2_48 : (.methodLinkNest RX2 48 yX9_within RX9 : Cond) ∈ kNst := List.mem_of_getElem? (i := 10) rfl
theorem lnX0_26 : (.methodLinkNest RX0 26 yX9_isHeight RX9 : Cond) ∈ kNst := List.mem_of_getElem? (i := 11) rfl
theorem lnX0_34 : (.methodLinkNest RX0 34 yX9_within RX9 : Cond) ∈ kNst := List.mem_of_getElem? (i := 12) rfl
theorem lnX2_78 : (.methodLinkNest RX2 78 yX9_nearestInch RX9 : Cond) ∈ kNst := List.mem_of_getElem? (i := 13) rfl
theorem lnX4_41 : (.methodLinkNest RX4 41 yX9_isHeight RX9 : Cond) ∈ kNst := List.mem_of_getElem? (i := 14) rfl
theorem lnX4_62 : (.methodLinkNest RX4 62 yX9_nearestInch RX9 : Cond) ∈ kNst := List.mem_of_getElem? (i := 15) rfl
theorem kNst_in : ∀ w ∈ kNst, w ∈ lw_tbl := by
  intro w h
  simp only [kNst, List.mem_cons, List.not_mem_nil, or_false] at h
  rcases h with rfl | rfl | rfl | rfl | rfl | rfl | rfl | rfl | rfl | rfl | rfl | rfl | rfl | rfl | rfl | rfl
  · exact kin1 (List.mem_of_getElem? (i := 25) (by decide +kernel))
  · exact kin1 (List.mem_of_getElem? (i := 47) (by decide +kernel))
  · exact kin1 (List.mem_of_getElem? (i := 49) (by decide +kernel))
  · exact kin1 (List.mem_of_getElem? (i := 50) (by decide +kernel))
  · exact kin1 (List.mem_of_getElem? (i := 53) (by decide +kernel))
  · exact kin1 (List.mem_of_getElem? (i := 57) (by decide +kernel))
  · exact kin1 (List.mem_of_getElem? (i := 64) (by decide +kernel))
  · exact kin1 (List.mem_of_getElem? (i := 94) (by decide +kernel))
  · exact kin1 (List.mem_of_getElem? (i := 102) (by decide +kernel))
  · exact kin1 (List.mem_of_getElem? (i := 156) (by decide +kernel))
  · exact kin1 (List.mem_of_getElem? (i := 190) (by decide +kernel))
  · exact kin1 (List.mem_of_getElem? (i := 205) (by decide +kernel))
  · exact kin1 (List.mem_of_getElem? (i := 218) (by decide +kernel))
  · exact kin2 (List.mem_of_getElem? (i := 190) (by decide +kernel))
  · exact kin3 (List.mem_of_getElem? (i := 122) (by decide +kernel))
  · exact kin3 (List.mem_of_getElem? (i := 128) (by decide +kernel))
end
section
theorem dX0_init_0 : decode cX0_init 0 = .ok (.aload_n 0, 1) := by decide +kernel
theorem dX0_init_1 : decode cX0_init 1 = .ok (.invokespecial 3, 3) := by decide +kernel
theorem dX0_init_4 : decode cX0_init 4 = .ok (.aload_n 0, 1) := by decide +kernel
theorem dX0_init_5 : decode cX0_init 5 = .ok (.bipush 64, 2) := by decide +kernel
theorem dX0_init_7 : decode cX0_init 7 = .ok (.newarray .int, 2) := by decide +kernel
theorem dX0_init_9 : decode cX0_init 9 = .ok (.putfield 9, 3) := by decide +kernel
theorem dX0_init_12 : decode cX0_init 12 = .ok (.aload_n 0, 1) := by decide +kernel
theorem dX0_init_13 : decode cX0_init 13 = .ok (.getstatic 15, 3) := by decide +kernel
theorem dX0_init_16 : decode cX0_init 16 = .ok (.invokevirtual 18, 3) := by decide +kernel
theorem dX0_init_19 : decode cX0_init 19 = .ok (.checkcast 19, 3) := by decide +kernel
theorem dX0_init_22 : decode cX0_init 22 = .ok (.putfield 23, 3) := by decide +kernel
theorem dX0_init_25 : decode cX0_init 25 = .ok (.return_, 1) := by decide +kernel
theorem dX0_menAt_0 : decode cX0_menAt 0 = .ok (.iload_n 1, 1) := by decide +kernel
theorem dX0_menAt_1 : decode cX0_menAt 1 = .ok (.ifCond .lt 12, 3) := by decide +kernel
theorem dX0_menAt_4 : decode cX0_menAt 4 = .ok (.iload_n 1, 1) := by decide +kernel
theorem dX0_menAt_5 : decode cX0_menAt 5 = .ok (.aload_n 0, 1) := by decide +kernel
theorem dX0_menAt_6 : decode cX0_menAt 6 = .ok (.getfield 9, 3) := by decide +kernel
theorem dX0_menAt_9 : decode cX0_menAt 9 = .ok (.arraylength, 1) := by decide +kernel
theorem dX0_menAt_10 : decode cX0_menAt 10 = .ok (.if_icmp .lt 7, 3) := by decide +kernel
theorem dX0_menAt_13 : decode cX0_menAt 13 = .ok (.iconst 0, 1) := by decide +kernel
theorem dX0_menAt_14 : decode cX0_menAt 14 = .ok (.goto 9, 3) := by decide +kernel
theorem dX0_menAt_17 : decode cX0_menAt 17 = .ok (.aload_n 0, 1) := by decide +kernel
theorem dX0_menAt_18 : decode cX0_menAt 18 = .ok (.getfield 9, 3) := by decide +kernel
theorem dX0_menAt_21 : decode cX0_menAt 21 = .ok (.iload_n 1, 1) := by decide +kernel
theorem dX0_menAt_22 : decode cX0_menAt 22 = .ok (.iaload, 1) := by decide +kernel
theorem dX0_menAt_23 : decode cX0_menAt 23 = .ok (.ireturn, 1) := by decide +kernel
theorem dX0_put_0 : decode cX0_put 0 = .ok (.iload_n 1, 1) := by decide +kernel
theorem dX0_put_1 : decode cX0_put 1 = .ok (.invokestatic 26, 3) := by decide +kernel
theorem dX0_put_4 : decode cX0_put 4 = .ok (.ifCond .eq 27, 3) := by decide +kernel
theorem dX0_put_7 : decode cX0_put 7 = .ok (.aload_n 0, 1) := by decide +kernel
theorem dX0_put_8 : decode cX0_put 8 = .ok (.dup, 1) := by decide +kernel
theorem dX0_put_9 : decode cX0_put 9 = .ok (.getfield 30, 3) := by decide +kernel
theorem dX0_put_12 : decode cX0_put 12 = .ok (.iload_n 2, 1) := by decide +kernel
theorem dX0_put_13 : decode cX0_put 13 = .ok (.aload_n 0, 1) := by decide +kernel
theorem dX0_put_14 : decode cX0_put 14 = .ok (.getfield 9, 3) := by decide +kernel
theorem dX0_put_17 : decode cX0_put 17 = .ok (.iload_n 1, 1) := by decide +kernel
theorem dX0_put_18 : decode cX0_put 18 = .ok (.iaload, 1) := by decide +kernel
theorem dX0_put_19 : decode cX0_put 19 = .ok (.isub, 1) := by decide +kernel
theorem dX0_put_20 : decode cX0_put 20 = .ok (.iadd, 1) := by decide +kernel
theorem dX0_put_21 : decode cX0_put 21 = .ok (.putfield 30, 3) := by decide +kernel
theorem dX0_put_24 : decode cX0_put 24 = .ok (.aload_n 0, 1) := by decide +kernel
theorem dX0_put_25 : decode cX0_put 25 = .ok (.getfield 9, 3) := by decide +kernel
theorem dX0_put_28 : decode cX0_put 28 = .ok (.iload_n 1, 1) := by decide +kernel
theorem dX0_put_29 : decode cX0_put 29 = .ok (.iload_n 2, 1) := by decide +kernel
theorem dX0_put_30 : decode cX0_put 30 = .ok (.iastore, 1) := by decide +kernel
theorem dX0_put_31 : decode cX0_put 31 = .ok (.return_, 1) := by decide +kernel
theorem dX0_entry_0 : decode cX0_entry 0 = .ok (.iload_n 1, 1) := by decide +kernel
theorem dX0_entry_1 : decode cX0_entry 1 = .ok (.iconst 0, 1) := by decide +kernel
theorem dX0_entry_2 : decode cX0_entry 2 = .ok (.iconst 2, 1) := by decide +kernel
theorem dX0_entry_3 : decode cX0_entry 3 = .ok (.invokestatic 34, 3) := by decide +kernel
theorem dX0_entry_6 : decode cX0_entry 6 = .ok (.ifCond .eq 12, 3) := by decide +kernel
theorem dX0_entry_9 : decode cX0_entry 9 = .ok (.aload_n 0, 1) := by decide +kernel
theorem dX0_entry_10 : decode cX0_entry 10 = .ok (.getfield 23, 3) := by decide +kernel
theorem dX0_entry_13 : decode cX0_entry 13 = .ok (.iload_n 1, 1) := by decide +kernel
theorem dX0_entry_14 : decode cX0_entry 14 = .ok (.iaload, 1) := by decide +kernel
theorem dX0_entry_15 : decode cX0_entry 15 = .ok (.goto 4, 3) := by decide +kernel
theorem dX0_entry_18 : decode cX0_entry 18 = .ok (.iconst 0, 1) := by decide +kernel
theorem dX0_entry_19 : decode cX0_entry 19 = .ok (.ireturn, 1) := by decide +kernel
theorem dX0_enter_0 : decode cX0_enter 0 = .ok (.iload_n 1, 1) := by decide +kernel
theorem dX0_enter_1 : decode cX0_enter 1 = .ok (.iconst 0, 1) := by decide +kernel
theorem dX0_enter_2 : decode cX0_enter 2 = .ok (.iconst 2, 1) := by decide +kernel
theorem dX0_enter_3 : decode cX0_enter 3 = .ok (.invokestatic 34, 3) := by decide +kernel
theorem dX0_enter_6 : decode cX0_enter 6 = .ok (.ifCond .eq 10, 3) := by decide +kernel
theorem dX0_enter_9 : decode cX0_enter 9 = .ok (.aload_n 0, 1) := by decide +kernel
theorem dX0_enter_10 : decode cX0_enter 10 = .ok (.getfield 23, 3) := by decide +kernel
theorem dX0_enter_13 : decode cX0_enter 13 = .ok (.iload_n 1, 1) := by decide +kernel
theorem dX0_enter_14 : decode cX0_enter 14 = .ok (.iload_n 2, 1) := by decide +kernel
theorem dX0_enter_15 : decode cX0_enter 15 = .ok (.iastore, 1) := by decide +kernel
theorem dX0_enter_16 : decode cX0_enter 16 = .ok (.return_, 1) := by decide +kernel
theorem dX0_clearMen_0 : decode cX0_clearMen 0 = .ok (.aload_n 0, 1) := by decide +kernel
theorem dX0_clearMen_1 : decode cX0_clearMen 1 = .ok (.getfield 9, 3) := by decide +kernel
theorem dX0_clearMen_4 : decode cX0_clearMen 4 = .ok (.iconst 0, 1) := by decide +kernel
theorem dX0_clearMen_5 : decode cX0_clearMen 5 = .ok (.invokestatic 38, 3) := by decide +kernel
theorem dX0_clearMen_8 : decode cX0_clearMen 8 = .ok (.aload_n 0, 1) := by decide +kernel
theorem dX0_clearMen_9 : decode cX0_clearMen 9 = .ok (.iconst 0, 1) := by decide +kernel
theorem dX0_clearMen_10 : decode cX0_clearMen 10 = .ok (.putfield 30, 3) := by decide +kernel
theorem dX0_clearMen_13 : decode cX0_clearMen 13 = .ok (.return_, 1) := by decide +kernel
theorem dX0_copyEntries_0 : decode cX0_copyEntries 0 = .ok (.aload_n 1, 1) := by decide +kernel
theorem dX0_copyEntries_1 : decode cX0_copyEntries 1 = .ok (.getfield 23, 3) := by decide +kernel
theorem dX0_copyEntries_4 : decode cX0_copyEntries 4 = .ok (.iconst 0, 1) := by decide +kernel
theorem dX0_copyEntries_5 : decode cX0_copyEntries 5 = .ok (.aload_n 0, 1) := by decide +kernel
theorem dX0_copyEntries_6 : decode cX0_copyEntries 6 = .ok (.getfield 23, 3) := by decide +kernel
theorem dX0_copyEntries_9 : decode cX0_copyEntries 9 = .ok (.iconst 0, 1) := by decide +kernel
theorem dX0_copyEntries_10 : decode cX0_copyEntries 10 = .ok (.aload_n 0, 1) := by decide +kernel
theorem dX0_copyEntries_11 : decode cX0_copyEntries 11 = .ok (.getfield 23, 3) := by decide +kernel
theorem dX0_copyEntries_14 : decode cX0_copyEntries 14 = .ok (.arraylength, 1) := by decide +kernel
theorem dX0_copyEntries_15 : decode cX0_copyEntries 15 = .ok (.invokestatic 44, 3) := by decide +kernel
theorem dX0_copyEntries_18 : decode cX0_copyEntries 18 = .ok (.return_, 1) := by decide +kernel
theorem dX0_copyFrom_0 : decode cX0_copyFrom 0 = .ok (.aload_n 0, 1) := by decide +kernel
theorem dX0_copyFrom_1 : decode cX0_copyFrom 1 = .ok (.aload_n 1, 1) := by decide +kernel
theorem dX0_copyFrom_2 : decode cX0_copyFrom 2 = .ok (.invokevirtual 50, 3) := by decide +kernel
theorem dX0_copyFrom_5 : decode cX0_copyFrom 5 = .ok (.aload_n 1, 1) := by decide +kernel
theorem dX0_copyFrom_6 : decode cX0_copyFrom 6 = .ok (.getfield 9, 3) := by decide +kernel
theorem dX0_copyFrom_9 : decode cX0_copyFrom 9 = .ok (.iconst 0, 1) := by decide +kernel
theorem dX0_copyFrom_10 : decode cX0_copyFrom 10 = .ok (.aload_n 0, 1) := by decide +kernel
theorem dX0_copyFrom_11 : decode cX0_copyFrom 11 = .ok (.getfield 9, 3) := by decide +kernel
theorem dX0_copyFrom_14 : decode cX0_copyFrom 14 = .ok (.iconst 0, 1) := by decide +kernel
theorem dX0_copyFrom_15 : decode cX0_copyFrom 15 = .ok (.aload_n 0, 1) := by decide +kernel
theorem dX0_copyFrom_16 : decode cX0_copyFrom 16 = .ok (.getfield 9, 3) := by decide +kernel
theorem dX0_copyFrom_19 : decode cX0_copyFrom 19 = .ok (.arraylength, 1) := by decide +kernel
theorem dX0_copyFrom_20 : decode cX0_copyFrom 20 = .ok (.invokestatic 44, 3) := by decide +kernel
theorem dX0_copyFrom_23 : decode cX0_copyFrom 23 = .ok (.aload_n 0, 1) := by decide +kernel
theorem dX0_copyFrom_24 : decode cX0_copyFrom 24 = .ok (.aload_n 1, 1) := by decide +kernel
theorem dX0_copyFrom_25 : decode cX0_copyFrom 25 = .ok (.getfield 30, 3) := by decide +kernel
theorem dX0_copyFrom_28 : decode cX0_copyFrom 28 = .ok (.putfield 30, 3) := by decide +kernel
theorem dX0_copyFrom_31 : decode cX0_copyFrom 31 = .ok (.return_, 1) := by decide +kernel
theorem dX0_atWholeInches_0 : decode cX0_atWholeInches 0 = .ok (.iconst 0, 1) := by decide +kernel
theorem dX0_atWholeInches_1 : decode cX0_atWholeInches 1 = .ok (.istore_n 1, 1) := by decide +kernel
theorem dX0_atWholeInches_2 : decode cX0_atWholeInches 2 = .ok (.iconst 0, 1) := by decide +kernel
theorem dX0_atWholeInches_3 : decode cX0_atWholeInches 3 = .ok (.istore_n 2, 1) := by decide +kernel
theorem dX0_atWholeInches_4 : decode cX0_atWholeInches 4 = .ok (.iload_n 2, 1) := by decide +kernel
theorem dX0_atWholeInches_5 : decode cX0_atWholeInches 5 = .ok (.bipush 64, 2) := by decide +kernel
theorem dX0_atWholeInches_7 : decode cX0_atWholeInches 7 = .ok (.if_icmp .ge 18, 3) := by decide +kernel
theorem dX0_atWholeInches_10 : decode cX0_atWholeInches 10 = .ok (.iload_n 1, 1) := by decide +kernel
theorem dX0_atWholeInches_11 : decode cX0_atWholeInches 11 = .ok (.aload_n 0, 1) := by decide +kernel
theorem dX0_atWholeInches_12 : decode cX0_atWholeInches 12 = .ok (.getfield 9, 3) := by decide +kernel
theorem dX0_atWholeInches_15 : decode cX0_atWholeInches 15 = .ok (.iload_n 2, 1) := by decide +kernel
theorem dX0_atWholeInches_16 : decode cX0_atWholeInches 16 = .ok (.iaload, 1) := by decide +kernel
theorem dX0_atWholeInches_17 : decode cX0_atWholeInches 17 = .ok (.iadd, 1) := by decide +kernel
theorem dX0_atWholeInches_18 : decode cX0_atWholeInches 18 = .ok (.istore_n 1, 1) := by decide +kernel
theorem dX0_atWholeInches_19 : decode cX0_atWholeInches 19 = .ok (.iinc 2 4, 3) := by decide +kernel
theorem dX0_atWholeInches_22 : decode cX0_atWholeInches 22 = .ok (.goto (-18), 3) := by decide +kernel
theorem dX0_atWholeInches_25 : decode cX0_atWholeInches 25 = .ok (.iload_n 1, 1) := by decide +kernel
theorem dX0_atWholeInches_26 : decode cX0_atWholeInches 26 = .ok (.ireturn, 1) := by decide +kernel
theorem dX0_sumMoved_0 : decode cX0_sumMoved 0 = .ok (.lconst 0, 1) := by decide +kernel
theorem dX0_sumMoved_1 : decode cX0_sumMoved 1 = .ok (.lstore_n 2, 1) := by decide +kernel
theorem dX0_sumMoved_2 : decode cX0_sumMoved 2 = .ok (.iconst 0, 1) := by decide +kernel
theorem dX0_sumMoved_3 : decode cX0_sumMoved 3 = .ok (.istore 4, 2) := by decide +kernel
theorem dX0_sumMoved_5 : decode cX0_sumMoved 5 = .ok (.iload 4, 2) := by decide +kernel
theorem dX0_sumMoved_7 : decode cX0_sumMoved 7 = .ok (.aload_n 0, 1) := by decide +kernel
theorem dX0_sumMoved_8 : decode cX0_sumMoved 8 = .ok (.getfield 9, 3) := by decide +kernel
theorem dX0_sumMoved_11 : decode cX0_sumMoved 11 = .ok (.arraylength, 1) := by decide +kernel
theorem dX0_sumMoved_12 : decode cX0_sumMoved 12 = .ok (.if_icmp .ge 35, 3) := by decide +kernel
theorem dX0_sumMoved_15 : decode cX0_sumMoved 15 = .ok (.lload_n 2, 1) := by decide +kernel
theorem dX0_sumMoved_16 : decode cX0_sumMoved 16 = .ok (.aload_n 0, 1) := by decide +kernel
theorem dX0_sumMoved_17 : decode cX0_sumMoved 17 = .ok (.getfield 9, 3) := by decide +kernel
theorem dX0_sumMoved_20 : decode cX0_sumMoved 20 = .ok (.iload 4, 2) := by decide +kernel
theorem dX0_sumMoved_22 : decode cX0_sumMoved 22 = .ok (.iaload, 1) := by decide +kernel
theorem dX0_sumMoved_23 : decode cX0_sumMoved 23 = .ok (.i2l, 1) := by decide +kernel
theorem dX0_sumMoved_24 : decode cX0_sumMoved 24 = .ok (.iconst 0, 1) := by decide +kernel
theorem dX0_sumMoved_25 : decode cX0_sumMoved 25 = .ok (.bipush 63, 2) := by decide +kernel
theorem dX0_sumMoved_27 : decode cX0_sumMoved 27 = .ok (.iload 4, 2) := by decide +kernel
theorem dX0_sumMoved_29 : decode cX0_sumMoved 29 = .ok (.iload_n 1, 1) := by decide +kernel
theorem dX0_sumMoved_30 : decode cX0_sumMoved 30 = .ok (.iadd, 1) := by decide +kernel
theorem dX0_sumMoved_31 : decode cX0_sumMoved 31 = .ok (.invokestatic 54, 3) := by decide +kernel
theorem dX0_sumMoved_34 : decode cX0_sumMoved 34 = .ok (.invokestatic 60, 3) := by decide +kernel
theorem dX0_sumMoved_37 : decode cX0_sumMoved 37 = .ok (.i2l, 1) := by decide +kernel
theorem dX0_sumMoved_38 : decode cX0_sumMoved 38 = .ok (.lmul, 1) := by decide +kernel
theorem dX0_sumMoved_39 : decode cX0_sumMoved 39 = .ok (.ladd, 1) := by decide +kernel
theorem dX0_sumMoved_40 : decode cX0_sumMoved 40 = .ok (.lstore_n 2, 1) := by decide +kernel
theorem dX0_sumMoved_41 : decode cX0_sumMoved 41 = .ok (.iinc 4 1, 3) := by decide +kernel
theorem dX0_sumMoved_44 : decode cX0_sumMoved 44 = .ok (.goto (-39), 3) := by decide +kernel
theorem dX0_sumMoved_47 : decode cX0_sumMoved 47 = .ok (.lload_n 2, 1) := by decide +kernel
theorem dX0_sumMoved_48 : decode cX0_sumMoved 48 = .ok (.lreturn, 1) := by decide +kernel
theorem dX0_commonest_0 : decode cX0_commonest 0 = .ok (.iconst 0, 1) := by decide +kernel
theorem dX0_commonest_1 : decode cX0_commonest 1 = .ok (.istore_n 1, 1) := by decide +kernel
theorem dX0_commonest_2 : decode cX0_commonest 2 = .ok (.iconst 1, 1) := by decide +kernel
theorem dX0_commonest_3 : decode cX0_commonest 3 = .ok (.istore_n 2, 1) := by decide +kernel
theorem dX0_commonest_4 : decode cX0_commonest 4 = .ok (.iload_n 2, 1) := by decide +kernel
theorem dX0_commonest_5 : decode cX0_commonest 5 = .ok (.aload_n 0, 1) := by decide +kernel
theorem dX0_commonest_6 : decode cX0_commonest 6 = .ok (.getfield 9, 3) := by decide +kernel
theorem dX0_commonest_9 : decode cX0_commonest 9 = .ok (.arraylength, 1) := by decide +kernel
theorem dX0_commonest_10 : decode cX0_commonest 10 = .ok (.if_icmp .ge 26, 3) := by decide +kernel
theorem dX0_commonest_13 : decode cX0_commonest 13 = .ok (.aload_n 0, 1) := by decide +kernel
theorem dX0_commonest_14 : decode cX0_commonest 14 = .ok (.getfield 9, 3) := by decide +kernel
theorem dX0_commonest_17 : decode cX0_commonest 17 = .ok (.iload_n 2, 1) := by decide +kernel
theorem dX0_commonest_18 : decode cX0_commonest 18 = .ok (.iaload, 1) := by decide +kernel
theorem dX0_commonest_19 : decode cX0_commonest 19 = .ok (.aload_n 0, 1) := by decide +kernel
theorem dX0_commonest_20 : decode cX0_commonest 20 = .ok (.getfield 9, 3) := by decide +kernel
theorem dX0_commonest_23 : decode cX0_commonest 23 = .ok (.iload_n 1, 1) := by decide +kernel
theorem dX0_commonest_24 : decode cX0_commonest 24 = .ok (.iaload, 1) := by decide +kernel
theorem dX0_commonest_25 : decode cX0_commonest 25 = .ok (.if_icmp .le 5, 3) := by decide +kernel
theorem dX0_commonest_28 : decode cX0_commonest 28 = .ok (.iload_n 2, 1) := by decide +kernel
theorem dX0_commonest_29 : decode cX0_commonest 29 = .ok (.istore_n 1, 1) := by decide +kernel
theorem dX0_commonest_30 : decode cX0_commonest 30 = .ok (.iinc 2 1, 3) := by decide +kernel
theorem dX0_commonest_33 : decode cX0_commonest 33 = .ok (.goto (-29), 3) := by decide +kernel
theorem dX0_commonest_36 : decode cX0_commonest 36 = .ok (.iload_n 1, 1) := by decide +kernel
theorem dX0_commonest_37 : decode cX0_commonest 37 = .ok (.ireturn, 1) := by decide +kernel
theorem dX1_faultOf_0 : decode cX1_faultOf 0 = .ok (.iload_n 1, 1) := by decide +kernel
theorem dX1_faultOf_1 : decode cX1_faultOf 1 = .ok (.ifCond .ne 7, 3) := by decide +kernel
theorem dX1_faultOf_4 : decode cX1_faultOf 4 = .ok (.iconst 0, 1) := by decide +kernel
theorem dX1_faultOf_5 : decode cX1_faultOf 5 = .ok (.goto 5, 3) := by decide +kernel
theorem dX1_faultOf_8 : decode cX1_faultOf 8 = .ok (.bipush 10, 2) := by decide +kernel
theorem dX1_faultOf_10 : decode cX1_faultOf 10 = .ok (.istore_n 2, 1) := by decide +kernel
theorem dX1_faultOf_11 : decode cX1_faultOf 11 = .ok (.iconst 0, 1) := by decide +kernel
theorem dX1_faultOf_12 : decode cX1_faultOf 12 = .ok (.istore_n 3, 1) := by decide +kernel
theorem dX1_faultOf_13 : decode cX1_faultOf 13 = .ok (.iload_n 3, 1) := by decide +kernel
theorem dX1_faultOf_14 : decode cX1_faultOf 14 = .ok (.aload_n 0, 1) := by decide +kernel
theorem dX1_faultOf_15 : decode cX1_faultOf 15 = .ok (.getfield 11, 3) := by decide +kernel
theorem dX1_faultOf_18 : decode cX1_faultOf 18 = .ok (.if_icmp .ge 26, 3) := by decide +kernel
theorem dX1_faultOf_21 : decode cX1_faultOf 21 = .ok (.iload_n 2, 1) := by decide +kernel
theorem dX1_faultOf_22 : decode cX1_faultOf 22 = .ok (.aload_n 0, 1) := by decide +kernel
theorem dX1_faultOf_23 : decode cX1_faultOf 23 = .ok (.iload_n 3, 1) := by decide +kernel
theorem dX1_faultOf_24 : decode cX1_faultOf 24 = .ok (.invokevirtual 17, 3) := by decide +kernel
theorem dX1_faultOf_27 : decode cX1_faultOf 27 = .ok (.invokestatic 21, 3) := by decide +kernel
theorem dX1_faultOf_30 : decode cX1_faultOf 30 = .ok (.istore_n 2, 1) := by decide +kernel
theorem dX1_faultOf_31 : decode cX1_faultOf 31 = .ok (.iload_n 2, 1) := by decide +kernel
theorem dX1_faultOf_32 : decode cX1_faultOf 32 = .ok (.iconst (-1), 1) := by decide +kernel
theorem dX1_faultOf_33 : decode cX1_faultOf 33 = .ok (.if_icmp .ne 5, 3) := by decide +kernel
theorem dX1_faultOf_36 : decode cX1_faultOf 36 = .ok (.iload_n 3, 1) := by decide +kernel
theorem dX1_faultOf_37 : decode cX1_faultOf 37 = .ok (.ireturn, 1) := by decide +kernel
theorem dX1_faultOf_38 : decode cX1_faultOf 38 = .ok (.iinc 3 1, 3) := by decide +kernel
theorem dX1_faultOf_41 : decode cX1_faultOf 41 = .ok (.goto (-28), 3) := by decide +kernel
theorem dX1_faultOf_44 : decode cX1_faultOf 44 = .ok (.iload_n 2, 1) := by decide +kernel
theorem dX1_faultOf_45 : decode cX1_faultOf 45 = .ok (.bipush 8, 2) := by decide +kernel
theorem dX1_faultOf_47 : decode cX1_faultOf 47 = .ok (.if_icmp .eq 15, 3) := by decide +kernel
theorem dX1_faultOf_50 : decode cX1_faultOf 50 = .ok (.iload_n 2, 1) := by decide +kernel
theorem dX1_faultOf_51 : decode cX1_faultOf 51 = .ok (.bipush 9, 2) := by decide +kernel
theorem dX1_faultOf_53 : decode cX1_faultOf 53 = .ok (.if_icmp .eq 9, 3) := by decide +kernel
theorem dX1_faultOf_56 : decode cX1_faultOf 56 = .ok (.iload_n 2, 1) := by decide +kernel
theorem dX1_faultOf_57 : decode cX1_faultOf 57 = .ok (.bipush 14, 2) := by decide +kernel
theorem dX1_faultOf_59 : decode cX1_faultOf 59 = .ok (.if_icmp .ne 8, 3) := by decide +kernel
theorem dX1_faultOf_62 : decode cX1_faultOf 62 = .ok (.bipush (-6), 2) := by decide +kernel
theorem dX1_faultOf_64 : decode cX1_faultOf 64 = .ok (.goto 7, 3) := by decide +kernel
theorem dX1_faultOf_67 : decode cX1_faultOf 67 = .ok (.aload_n 0, 1) := by decide +kernel
theorem dX1_faultOf_68 : decode cX1_faultOf 68 = .ok (.getfield 11, 3) := by decide +kernel
theorem dX1_faultOf_71 : decode cX1_faultOf 71 = .ok (.ireturn, 1) := by decide +kernel
theorem dX1_after_0 : decode cX1_after 0 = .ok (.iload_n 0, 1) := by decide +kernel
theorem dX1_after_1 : decode cX1_after 1 = .ok (.tableswitch 185 0 9 #[55, 71, 76, 100, 113, 129, 134, 147, 161, 179], 55) := by decide +kernel
theorem dX1_after_56 : decode cX1_after 56 = .ok (.iload_n 1, 1) := by decide +kernel
theorem dX1_after_57 : decode cX1_after 57 = .ok (.bipush 42, 2) := by decide +kernel
theorem dX1_after_59 : decode cX1_after 59 = .ok (.if_icmp .ne 8, 3) := by decide +kernel
theorem dX1_after_62 : decode cX1_after 62 = .ok (.bipush 6, 2) := by decide +kernel
theorem dX1_after_64 : decode cX1_after 64 = .ok (.goto 7, 3) := by decide +kernel
theorem dX1_after_67 : decode cX1_after 67 = .ok (.iload_n 1, 1) := by decide +kernel
theorem dX1_after_68 : decode cX1_after 68 = .ok (.invokestatic 25, 3) := by decide +kernel
theorem dX1_after_71 : decode cX1_after 71 = .ok (.ireturn, 1) := by decide +kernel
theorem dX1_after_72 : decode cX1_after 72 = .ok (.iload_n 1, 1) := by decide +kernel
theorem dX1_after_73 : decode cX1_after 73 = .ok (.invokestatic 25, 3) := by decide +kernel
theorem dX1_after_76 : decode cX1_after 76 = .ok (.ireturn, 1) := by decide +kernel
theorem dX1_after_77 : decode cX1_after 77 = .ok (.iload_n 1, 1) := by decide +kernel
theorem dX1_after_78 : decode cX1_after 78 = .ok (.bipush 60, 2) := by decide +kernel
theorem dX1_after_80 : decode cX1_after 80 = .ok (.if_icmp .eq 15, 3) := by decide +kernel
theorem dX1_after_83 : decode cX1_after 83 = .ok (.iload_n 1, 1) := by decide +kernel
theorem dX1_after_84 : decode cX1_after 84 = .ok (.bipush 62, 2) := by decide +kernel
theorem dX1_after_86 : decode cX1_after 86 = .ok (.if_icmp .eq 9, 3) := by decide +kernel
theorem dX1_after_89 : decode cX1_after 89 = .ok (.iload_n 1, 1) := by decide +kernel
theorem dX1_after_90 : decode cX1_after 90 = .ok (.bipush 61, 2) := by decide +kernel
theorem dX1_after_92 : decode cX1_after 92 = .ok (.if_icmp .ne 7, 3) := by decide +kernel
theorem dX1_after_95 : decode cX1_after 95 = .ok (.iconst 3, 1) := by decide +kernel
theorem dX1_after_96 : decode cX1_after 96 = .ok (.goto 4, 3) := by decide +kernel
theorem dX1_after_99 : decode cX1_after 99 = .ok (.iconst (-1), 1) := by decide +kernel
theorem dX1_after_100 : decode cX1_after 100 = .ok (.ireturn, 1) := by decide +kernel
theorem dX1_after_101 : decode cX1_after 101 = .ok (.iload_n 1, 1) := by decide +kernel
theorem dX1_after_102 : decode cX1_after 102 = .ok (.invokestatic 28, 3) := by decide +kernel
theorem dX1_after_105 : decode cX1_after 105 = .ok (.ifCond .eq 7, 3) := by decide +kernel
theorem dX1_after_108 : decode cX1_after 108 = .ok (.iconst 4, 1) := by decide +kernel
theorem dX1_after_109 : decode cX1_after 109 = .ok (.goto 4, 3) := by decide +kernel
theorem dX1_after_112 : decode cX1_after 112 = .ok (.iconst (-1), 1) := by decide +kernel
theorem dX1_after_113 : decode cX1_after 113 = .ok (.ireturn, 1) := by decide +kernel
theorem dX1_after_114 : decode cX1_after 114 = .ok (.iload_n 1, 1) := by decide +kernel
theorem dX1_after_115 : decode cX1_after 115 = .ok (.invokestatic 28, 3) := by decide +kernel
theorem dX1_after_118 : decode cX1_after 118 = .ok (.ifCond .eq 7, 3) := by decide +kernel
theorem dX1_after_121 : decode cX1_after 121 = .ok (.iconst 5, 1) := by decide +kernel
theorem dX1_after_122 : decode cX1_after 122 = .ok (.goto 7, 3) := by decide +kernel
theorem dX1_after_125 : decode cX1_after 125 = .ok (.iload_n 1, 1) := by decide +kernel
theorem dX1_after_126 : decode cX1_after 126 = .ok (.invokestatic 32, 3) := by decide +kernel
theorem dX1_after_129 : decode cX1_after 129 = .ok (.ireturn, 1) := by decide +kernel
theorem dX1_after_130 : decode cX1_after 130 = .ok (.iload_n 1, 1) := by decide +kernel
theorem dX1_after_131 : decode cX1_after 131 = .ok (.invokestatic 32, 3) := by decide +kernel
theorem dX1_after_134 : decode cX1_after 134 = .ok (.ireturn, 1) := by decide +kernel
theorem dX1_after_135 : decode cX1_after 135 = .ok (.iload_n 1, 1) := by decide +kernel
theorem dX1_after_136 : decode cX1_after 136 = .ok (.bipush 58, 2) := by decide +kernel
theorem dX1_after_138 : decode cX1_after 138 = .ok (.if_icmp .ne 8, 3) := by decide +kernel
theorem dX1_after_141 : decode cX1_after 141 = .ok (.bipush 7, 2) := by decide +kernel
theorem dX1_after_143 : decode cX1_after 143 = .ok (.goto 4, 3) := by decide +kernel
theorem dX1_after_146 : decode cX1_after 146 = .ok (.iconst (-1), 1) := by decide +kernel
theorem dX1_after_147 : decode cX1_after 147 = .ok (.ireturn, 1) := by decide +kernel
theorem dX1_after_148 : decode cX1_after 148 = .ok (.iload_n 1, 1) := by decide +kernel
theorem dX1_after_149 : decode cX1_after 149 = .ok (.invokestatic 28, 3) := by decide +kernel
theorem dX1_after_152 : decode cX1_after 152 = .ok (.ifCond .eq 8, 3) := by decide +kernel
theorem dX1_after_155 : decode cX1_after 155 = .ok (.bipush 8, 2) := by decide +kernel
theorem dX1_after_157 : decode cX1_after 157 = .ok (.goto 4, 3) := by decide +kernel
theorem dX1_after_160 : decode cX1_after 160 = .ok (.iconst (-1), 1) := by decide +kernel
theorem dX1_after_161 : decode cX1_after 161 = .ok (.ireturn, 1) := by decide +kernel
theorem dX1_after_162 : decode cX1_after 162 = .ok (.iload_n 1, 1) := by decide +kernel
theorem dX1_after_163 : decode cX1_after 163 = .ok (.invokestatic 28, 3) := by decide +kernel
theorem dX1_after_166 : decode cX1_after 166 = .ok (.ifCond .eq 8, 3) := by decide +kernel
theorem dX1_after_169 : decode cX1_after 169 = .ok (.bipush 9, 2) := by decide +kernel
theorem dX1_after_171 : decode cX1_after 171 = .ok (.goto 8, 3) := by decide +kernel
theorem dX1_after_174 : decode cX1_after 174 = .ok (.iload_n 1, 1) := by decide +kernel
theorem dX1_after_175 : decode cX1_after 175 = .ok (.iconst 0, 1) := by decide +kernel
theorem dX1_after_176 : decode cX1_after 176 = .ok (.invokestatic 35, 3) := by decide +kernel
theorem dX1_after_179 : decode cX1_after 179 = .ok (.ireturn, 1) := by decide +kernel
theorem dX1_after_180 : decode cX1_after 180 = .ok (.iload_n 1, 1) := by decide +kernel
theorem dX1_after_181 : decode cX1_after 181 = .ok (.iconst 0, 1) := by decide +kernel
theorem dX1_after_182 : decode cX1_after 182 = .ok (.invokestatic 35, 3) := by decide +kernel
theorem dX1_after_185 : decode cX1_after 185 = .ok (.ireturn, 1) := by decide +kernel
theorem dX1_after_186 : decode cX1_after 186 = .ok (.iload_n 0, 1) := by decide +kernel
theorem dX1_after_187 : decode cX1_after 187 = .ok (.iload_n 1, 1) := by decide +kernel
theorem dX1_after_188 : decode cX1_after 188 = .ok (.invokestatic 38, 3) := by decide +kernel
theorem dX1_after_191 : decode cX1_after 191 = .ok (.ireturn, 1) := by decide +kernel
theorem dX1_afterInGrowth_0 : decode cX1_afterInGrowth 0 = .ok (.iload_n 0, 1) := by decide +kernel
theorem dX1_afterInGrowth_1 : decode cX1_afterInGrowth 1 = .ok (.tableswitch 92 10 14 #[35, 49, 66, 71, 85], 35) := by decide +kernel
theorem dX1_afterInGrowth_36 : decode cX1_afterInGrowth 36 = .ok (.iload_n 1, 1) := by decide +kernel
theorem dX1_afterInGrowth_37 : decode cX1_afterInGrowth 37 = .ok (.invokestatic 28, 3) := by decide +kernel
theorem dX1_afterInGrowth_40 : decode cX1_afterInGrowth 40 = .ok (.ifCond .eq 8, 3) := by decide +kernel
theorem dX1_afterInGrowth_43 : decode cX1_afterInGrowth 43 = .ok (.bipush 11, 2) := by decide +kernel
theorem dX1_afterInGrowth_45 : decode cX1_afterInGrowth 45 = .ok (.goto 4, 3) := by decide +kernel
theorem dX1_afterInGrowth_48 : decode cX1_afterInGrowth 48 = .ok (.iconst (-1), 1) := by decide +kernel
theorem dX1_afterInGrowth_49 : decode cX1_afterInGrowth 49 = .ok (.ireturn, 1) := by decide +kernel
theorem dX1_afterInGrowth_50 : decode cX1_afterInGrowth 50 = .ok (.iload_n 1, 1) := by decide +kernel
theorem dX1_afterInGrowth_51 : decode cX1_afterInGrowth 51 = .ok (.invokestatic 28, 3) := by decide +kernel
theorem dX1_afterInGrowth_54 : decode cX1_afterInGrowth 54 = .ok (.ifCond .eq 8, 3) := by decide +kernel
theorem dX1_afterInGrowth_57 : decode cX1_afterInGrowth 57 = .ok (.bipush 12, 2) := by decide +kernel
theorem dX1_afterInGrowth_59 : decode cX1_afterInGrowth 59 = .ok (.goto 7, 3) := by decide +kernel
theorem dX1_afterInGrowth_62 : decode cX1_afterInGrowth 62 = .ok (.iload_n 1, 1) := by decide +kernel
theorem dX1_afterInGrowth_63 : decode cX1_afterInGrowth 63 = .ok (.invokestatic 41, 3) := by decide +kernel
theorem dX1_afterInGrowth_66 : decode cX1_afterInGrowth 66 = .ok (.ireturn, 1) := by decide +kernel
theorem dX1_afterInGrowth_67 : decode cX1_afterInGrowth 67 = .ok (.iload_n 1, 1) := by decide +kernel
theorem dX1_afterInGrowth_68 : decode cX1_afterInGrowth 68 = .ok (.invokestatic 41, 3) := by decide +kernel
theorem dX1_afterInGrowth_71 : decode cX1_afterInGrowth 71 = .ok (.ireturn, 1) := by decide +kernel
theorem dX1_afterInGrowth_72 : decode cX1_afterInGrowth 72 = .ok (.iload_n 1, 1) := by decide +kernel
theorem dX1_afterInGrowth_73 : decode cX1_afterInGrowth 73 = .ok (.invokestatic 28, 3) := by decide +kernel
theorem dX1_afterInGrowth_76 : decode cX1_afterInGrowth 76 = .ok (.ifCond .eq 8, 3) := by decide +kernel
theorem dX1_afterInGrowth_79 : decode cX1_afterInGrowth 79 = .ok (.bipush 14, 2) := by decide +kernel
theorem dX1_afterInGrowth_81 : decode cX1_afterInGrowth 81 = .ok (.goto 4, 3) := by decide +kernel
theorem dX1_afterInGrowth_84 : decode cX1_afterInGrowth 84 = .ok (.iconst (-1), 1) := by decide +kernel
theorem dX1_afterInGrowth_85 : decode cX1_afterInGrowth 85 = .ok (.ireturn, 1) := by decide +kernel
theorem dX1_afterInGrowth_86 : decode cX1_afterInGrowth 86 = .ok (.iload_n 1, 1) := by decide +kernel
theorem dX1_afterInGrowth_87 : decode cX1_afterInGrowth 87 = .ok (.bipush 10, 2) := by decide +kernel
theorem dX1_afterInGrowth_89 : decode cX1_afterInGrowth 89 = .ok (.invokestatic 35, 3) := by decide +kernel
theorem dX1_afterInGrowth_92 : decode cX1_afterInGrowth 92 = .ok (.ireturn, 1) := by decide +kernel
theorem dX1_afterInGrowth_93 : decode cX1_afterInGrowth 93 = .ok (.iconst (-1), 1) := by decide +kernel
theorem dX1_afterInGrowth_94 : decode cX1_afterInGrowth 94 = .ok (.ireturn, 1) := by decide +kernel
theorem dX1_beginTest_0 : decode cX1_beginTest 0 = .ok (.iload_n 0, 1) := by decide +kernel
theorem dX1_beginTest_1 : decode cX1_beginTest 1 = .ok (.bipush 121, 2) := by decide +kernel
theorem dX1_beginTest_3 : decode cX1_beginTest 3 = .ok (.if_icmp .eq 9, 3) := by decide +kernel
theorem dX1_beginTest_6 : decode cX1_beginTest 6 = .ok (.iload_n 0, 1) := by decide +kernel
theorem dX1_beginTest_7 : decode cX1_beginTest 7 = .ok (.bipush 97, 2) := by decide +kernel
theorem dX1_beginTest_9 : decode cX1_beginTest 9 = .ok (.if_icmp .ne 7, 3) := by decide +kernel
theorem dX1_beginTest_12 : decode cX1_beginTest 12 = .ok (.iconst 2, 1) := by decide +kernel
theorem dX1_beginTest_13 : decode cX1_beginTest 13 = .ok (.goto 4, 3) := by decide +kernel
theorem dX1_beginTest_16 : decode cX1_beginTest 16 = .ok (.iconst (-1), 1) := by decide +kernel
theorem dX1_beginTest_17 : decode cX1_beginTest 17 = .ok (.ireturn, 1) := by decide +kernel
theorem dX1_endTest_0 : decode cX1_endTest 0 = .ok (.iload_n 0, 1) := by decide +kernel
theorem dX1_endTest_1 : decode cX1_endTest 1 = .ok (.bipush 38, 2) := by decide +kernel
theorem dX1_endTest_3 : decode cX1_endTest 3 = .ok (.if_icmp .ne 5, 3) := by decide +kernel
theorem dX1_endTest_6 : decode cX1_endTest 6 = .ok (.iconst 1, 1) := by decide +kernel
theorem dX1_endTest_7 : decode cX1_endTest 7 = .ok (.ireturn, 1) := by decide +kernel
theorem dX1_endTest_8 : decode cX1_endTest 8 = .ok (.iload_n 0, 1) := by decide +kernel
theorem dX1_endTest_9 : decode cX1_endTest 9 = .ok (.bipush 58, 2) := by decide +kernel
theorem dX1_endTest_11 : decode cX1_endTest 11 = .ok (.if_icmp .ne 8, 3) := by decide +kernel
theorem dX1_endTest_14 : decode cX1_endTest 14 = .ok (.bipush 7, 2) := by decide +kernel
theorem dX1_endTest_16 : decode cX1_endTest 16 = .ok (.goto 4, 3) := by decide +kernel
theorem dX1_endTest_19 : decode cX1_endTest 19 = .ok (.iconst (-1), 1) := by decide +kernel
theorem dX1_endTest_20 : decode cX1_endTest 20 = .ok (.ireturn, 1) := by decide +kernel
theorem dX1_endAge_0 : decode cX1_endAge 0 = .ok (.iload_n 0, 1) := by decide +kernel
theorem dX1_endAge_1 : decode cX1_endAge 1 = .ok (.bipush 58, 2) := by decide +kernel
theorem dX1_endAge_3 : decode cX1_endAge 3 = .ok (.if_icmp .ne 8, 3) := by decide +kernel
theorem dX1_endAge_6 : decode cX1_endAge 6 = .ok (.bipush 13, 2) := by decide +kernel
theorem dX1_endAge_8 : decode cX1_endAge 8 = .ok (.goto 4, 3) := by decide +kernel
theorem dX1_endAge_11 : decode cX1_endAge 11 = .ok (.iconst (-1), 1) := by decide +kernel
theorem dX1_endAge_12 : decode cX1_endAge 12 = .ok (.ireturn, 1) := by decide +kernel
theorem dX1_endPiece_0 : decode cX1_endPiece 0 = .ok (.iload_n 0, 1) := by decide +kernel
theorem dX1_endPiece_1 : decode cX1_endPiece 1 = .ok (.bipush 59, 2) := by decide +kernel
theorem dX1_endPiece_3 : decode cX1_endPiece 3 = .ok (.if_icmp .ne 7, 3) := by decide +kernel
theorem dX1_endPiece_6 : decode cX1_endPiece 6 = .ok (.iload_n 1, 1) := by decide +kernel
theorem dX1_endPiece_7 : decode cX1_endPiece 7 = .ok (.goto 4, 3) := by decide +kernel
theorem dX1_endPiece_10 : decode cX1_endPiece 10 = .ok (.iconst (-1), 1) := by decide +kernel
theorem dX1_endPiece_11 : decode cX1_endPiece 11 = .ok (.ireturn, 1) := by decide +kernel
theorem dX1_isDigit_0 : decode cX1_isDigit 0 = .ok (.iload_n 0, 1) := by decide +kernel
theorem dX1_isDigit_1 : decode cX1_isDigit 1 = .ok (.bipush 48, 2) := by decide +kernel
theorem dX1_isDigit_3 : decode cX1_isDigit 3 = .ok (.if_icmp .lt 13, 3) := by decide +kernel
theorem dX1_isDigit_6 : decode cX1_isDigit 6 = .ok (.iload_n 0, 1) := by decide +kernel
theorem dX1_isDigit_7 : decode cX1_isDigit 7 = .ok (.bipush 57, 2) := by decide +kernel
theorem dX1_isDigit_9 : decode cX1_isDigit 9 = .ok (.if_icmp .gt 7, 3) := by decide +kernel
theorem dX1_isDigit_12 : decode cX1_isDigit 12 = .ok (.iconst 1, 1) := by decide +kernel
theorem dX1_isDigit_13 : decode cX1_isDigit 13 = .ok (.goto 4, 3) := by decide +kernel
theorem dX1_isDigit_16 : decode cX1_isDigit 16 = .ok (.iconst 0, 1) := by decide +kernel
theorem dX1_isDigit_17 : decode cX1_isDigit 17 = .ok (.ireturn, 1) := by decide +kernel
theorem dX2_init_0 : decode cX2_init 0 = .ok (.aload_n 0, 1) := by decide +kernel
theorem dX2_init_1 : decode cX2_init 1 = .ok (.invokespecial 3, 3) := by decide +kernel
theorem dX2_init_4 : decode cX2_init 4 = .ok (.aload_n 0, 1) := by decide +kernel
theorem dX2_init_5 : decode cX2_init 5 = .ok (.bipush 6, 2) := by decide +kernel
theorem dX2_init_7 : decode cX2_init 7 = .ok (.anewarray 9, 3) := by decide +kernel
theorem dX2_init_10 : decode cX2_init 10 = .ok (.putfield 11, 3) := by decide +kernel
theorem dX2_init_13 : decode cX2_init 13 = .ok (.aload_n 0, 1) := by decide +kernel
theorem dX2_init_14 : decode cX2_init 14 = .ok (.new 17, 3) := by decide +kernel
theorem dX2_init_17 : decode cX2_init 17 = .ok (.dup, 1) := by decide +kernel
theorem dX2_init_18 : decode cX2_init 18 = .ok (.invokespecial 19, 3) := by decide +kernel
theorem dX2_init_21 : decode cX2_init 21 = .ok (.putfield 20, 3) := by decide +kernel
theorem dX2_init_24 : decode cX2_init 24 = .ok (.aload_n 0, 1) := by decide +kernel
theorem dX2_init_25 : decode cX2_init 25 = .ok (.new 17, 3) := by decide +kernel
theorem dX2_init_28 : decode cX2_init 28 = .ok (.dup, 1) := by decide +kernel
theorem dX2_init_29 : decode cX2_init 29 = .ok (.invokespecial 19, 3) := by decide +kernel
theorem dX2_init_32 : decode cX2_init 32 = .ok (.putfield 24, 3) := by decide +kernel
theorem dX2_init_35 : decode cX2_init 35 = .ok (.aload_n 0, 1) := by decide +kernel
theorem dX2_init_36 : decode cX2_init 36 = .ok (.getstatic 27, 3) := by decide +kernel
theorem dX2_init_39 : decode cX2_init 39 = .ok (.arraylength, 1) := by decide +kernel
theorem dX2_init_40 : decode cX2_init 40 = .ok (.newarray .int, 2) := by decide +kernel
theorem dX2_init_42 : decode cX2_init 42 = .ok (.putfield 31, 3) := by decide +kernel
theorem dX2_init_45 : decode cX2_init 45 = .ok (.iconst 0, 1) := by decide +kernel
theorem dX2_init_46 : decode cX2_init 46 = .ok (.istore_n 1, 1) := by decide +kernel
theorem dX2_init_47 : decode cX2_init 47 = .ok (.iload_n 1, 1) := by decide +kernel
theorem dX2_init_48 : decode cX2_init 48 = .ok (.aload_n 0, 1) := by decide +kernel
theorem dX2_init_49 : decode cX2_init 49 = .ok (.getfield 11, 3) := by decide +kernel
theorem dX2_init_52 : decode cX2_init 52 = .ok (.arraylength, 1) := by decide +kernel
theorem dX2_init_53 : decode cX2_init 53 = .ok (.if_icmp .ge 22, 3) := by decide +kernel
theorem dX2_init_56 : decode cX2_init 56 = .ok (.aload_n 0, 1) := by decide +kernel
theorem dX2_init_57 : decode cX2_init 57 = .ok (.getfield 11, 3) := by decide +kernel
theorem dX2_init_60 : decode cX2_init 60 = .ok (.iload_n 1, 1) := by decide +kernel
theorem dX2_init_61 : decode cX2_init 61 = .ok (.new 9, 3) := by decide +kernel
theorem dX2_init_64 : decode cX2_init 64 = .ok (.dup, 1) := by decide +kernel
theorem dX2_init_65 : decode cX2_init 65 = .ok (.invokespecial 34, 3) := by decide +kernel
theorem dX2_init_68 : decode cX2_init 68 = .ok (.aastore, 1) := by decide +kernel
theorem dX2_init_69 : decode cX2_init 69 = .ok (.iinc 1 1, 3) := by decide +kernel
theorem dX2_init_72 : decode cX2_init 72 = .ok (.goto (-25), 3) := by decide +kernel
theorem dX2_init_75 : decode cX2_init 75 = .ok (.return_, 1) := by decide +kernel
theorem dX2_copyFrom_0 : decode cX2_copyFrom 0 = .ok (.iconst 0, 1) := by decide +kernel
theorem dX2_copyFrom_1 : decode cX2_copyFrom 1 = .ok (.istore_n 2, 1) := by decide +kernel
theorem dX2_copyFrom_2 : decode cX2_copyFrom 2 = .ok (.iload_n 2, 1) := by decide +kernel
theorem dX2_copyFrom_3 : decode cX2_copyFrom 3 = .ok (.aload_n 0, 1) := by decide +kernel
theorem dX2_copyFrom_4 : decode cX2_copyFrom 4 = .ok (.getfield 11, 3) := by decide +kernel
theorem dX2_copyFrom_7 : decode cX2_copyFrom 7 = .ok (.arraylength, 1) := by decide +kernel
theorem dX2_copyFrom_8 : decode cX2_copyFrom 8 = .ok (.if_icmp .ge 24, 3) := by decide +kernel
theorem dX2_copyFrom_11 : decode cX2_copyFrom 11 = .ok (.aload_n 0, 1) := by decide +kernel
theorem dX2_copyFrom_12 : decode cX2_copyFrom 12 = .ok (.getfield 11, 3) := by decide +kernel
theorem dX2_copyFrom_15 : decode cX2_copyFrom 15 = .ok (.iload_n 2, 1) := by decide +kernel
theorem dX2_copyFrom_16 : decode cX2_copyFrom 16 = .ok (.aaload, 1) := by decide +kernel
theorem dX2_copyFrom_17 : decode cX2_copyFrom 17 = .ok (.aload_n 1, 1) := by decide +kernel
theorem dX2_copyFrom_18 : decode cX2_copyFrom 18 = .ok (.getfield 11, 3) := by decide +kernel
theorem dX2_copyFrom_21 : decode cX2_copyFrom 21 = .ok (.iload_n 2, 1) := by decide +kernel
theorem dX2_copyFrom_22 : decode cX2_copyFrom 22 = .ok (.aaload, 1) := by decide +kernel
theorem dX2_copyFrom_23 : decode cX2_copyFrom 23 = .ok (.invokevirtual 35, 3) := by decide +kernel
theorem dX2_copyFrom_26 : decode cX2_copyFrom 26 = .ok (.iinc 2 1, 3) := by decide +kernel
theorem dX2_copyFrom_29 : decode cX2_copyFrom 29 = .ok (.goto (-27), 3) := by decide +kernel
theorem dX2_copyFrom_32 : decode cX2_copyFrom 32 = .ok (.aload_n 0, 1) := by decide +kernel
theorem dX2_copyFrom_33 : decode cX2_copyFrom 33 = .ok (.getfield 20, 3) := by decide +kernel
theorem dX2_copyFrom_36 : decode cX2_copyFrom 36 = .ok (.aload_n 1, 1) := by decide +kernel
theorem dX2_copyFrom_37 : decode cX2_copyFrom 37 = .ok (.getfield 20, 3) := by decide +kernel
theorem dX2_copyFrom_40 : decode cX2_copyFrom 40 = .ok (.invokevirtual 39, 3) := by decide +kernel
theorem dX2_copyFrom_43 : decode cX2_copyFrom 43 = .ok (.aload_n 0, 1) := by decide +kernel
theorem dX2_copyFrom_44 : decode cX2_copyFrom 44 = .ok (.getfield 24, 3) := by decide +kernel
theorem dX2_copyFrom_47 : decode cX2_copyFrom 47 = .ok (.aload_n 1, 1) := by decide +kernel
theorem dX2_copyFrom_48 : decode cX2_copyFrom 48 = .ok (.getfield 24, 3) := by decide +kernel
theorem dX2_copyFrom_51 : decode cX2_copyFrom 51 = .ok (.invokevirtual 39, 3) := by decide +kernel
theorem dX2_copyFrom_54 : decode cX2_copyFrom 54 = .ok (.aload_n 1, 1) := by decide +kernel
theorem dX2_copyFrom_55 : decode cX2_copyFrom 55 = .ok (.getfield 31, 3) := by decide +kernel
theorem dX2_copyFrom_58 : decode cX2_copyFrom 58 = .ok (.iconst 0, 1) := by decide +kernel
theorem dX2_copyFrom_59 : decode cX2_copyFrom 59 = .ok (.aload_n 0, 1) := by decide +kernel
theorem dX2_copyFrom_60 : decode cX2_copyFrom 60 = .ok (.getfield 31, 3) := by decide +kernel
theorem dX2_copyFrom_63 : decode cX2_copyFrom 63 = .ok (.iconst 0, 1) := by decide +kernel
theorem dX2_copyFrom_64 : decode cX2_copyFrom 64 = .ok (.aload_n 0, 1) := by decide +kernel
theorem dX2_copyFrom_65 : decode cX2_copyFrom 65 = .ok (.getfield 31, 3) := by decide +kernel
theorem dX2_copyFrom_68 : decode cX2_copyFrom 68 = .ok (.arraylength, 1) := by decide +kernel
theorem dX2_copyFrom_69 : decode cX2_copyFrom 69 = .ok (.invokestatic 42, 3) := by decide +kernel
theorem dX2_copyFrom_72 : decode cX2_copyFrom 72 = .ok (.return_, 1) := by decide +kernel
theorem dX2_bookAt_0 : decode cX2_bookAt 0 = .ok (.iload_n 1, 1) := by decide +kernel
theorem dX2_bookAt_1 : decode cX2_bookAt 1 = .ok (.iconst 0, 1) := by decide +kernel
theorem dX2_bookAt_2 : decode cX2_bookAt 2 = .ok (.aload_n 0, 1) := by decide +kernel
theorem dX2_bookAt_3 : decode cX2_bookAt 3 = .ok (.getfield 11, 3) := by decide +kernel
theorem dX2_bookAt_6 : decode cX2_bookAt 6 = .ok (.arraylength, 1) := by decide +kernel
theorem dX2_bookAt_7 : decode cX2_bookAt 7 = .ok (.iconst 1, 1) := by decide +kernel
theorem dX2_bookAt_8 : decode cX2_bookAt 8 = .ok (.isub, 1) := by decide +kernel
theorem dX2_bookAt_9 : decode cX2_bookAt 9 = .ok (.invokestatic 48, 3) := by decide +kernel
theorem dX2_bookAt_12 : decode cX2_bookAt 12 = .ok (.ifCond .eq 12, 3) := by decide +kernel
theorem dX2_bookAt_15 : decode cX2_bookAt 15 = .ok (.aload_n 0, 1) := by decide +kernel
theorem dX2_bookAt_16 : decode cX2_bookAt 16 = .ok (.getfield 11, 3) := by decide +kernel
theorem dX2_bookAt_19 : decode cX2_bookAt 19 = .ok (.iload_n 1, 1) := by decide +kernel
theorem dX2_bookAt_20 : decode cX2_bookAt 20 = .ok (.aaload, 1) := by decide +kernel
theorem dX2_bookAt_21 : decode cX2_bookAt 21 = .ok (.goto 4, 3) := by decide +kernel
theorem dX2_bookAt_24 : decode cX2_bookAt 24 = .ok (.aconst_null, 1) := by decide +kernel
theorem dX2_bookAt_25 : decode cX2_bookAt 25 = .ok (.areturn, 1) := by decide +kernel
theorem dX2_wayOf_0 : decode cX2_wayOf 0 = .ok (.iload_n 1, 1) := by decide +kernel
theorem dX2_wayOf_1 : decode cX2_wayOf 1 = .ok (.iconst 0, 1) := by decide +kernel
theorem dX2_wayOf_2 : decode cX2_wayOf 2 = .ok (.aload_n 0, 1) := by decide +kernel
theorem dX2_wayOf_3 : decode cX2_wayOf 3 = .ok (.getfield 31, 3) := by decide +kernel
theorem dX2_wayOf_6 : decode cX2_wayOf 6 = .ok (.arraylength, 1) := by decide +kernel
theorem dX2_wayOf_7 : decode cX2_wayOf 7 = .ok (.iconst 1, 1) := by decide +kernel
theorem dX2_wayOf_8 : decode cX2_wayOf 8 = .ok (.isub, 1) := by decide +kernel
theorem dX2_wayOf_9 : decode cX2_wayOf 9 = .ok (.invokestatic 48, 3) := by decide +kernel
theorem dX2_wayOf_12 : decode cX2_wayOf 12 = .ok (.ifCond .eq 12, 3) := by decide +kernel
theorem dX2_wayOf_15 : decode cX2_wayOf 15 = .ok (.aload_n 0, 1) := by decide +kernel
theorem dX2_wayOf_16 : decode cX2_wayOf 16 = .ok (.getfield 31, 3) := by decide +kernel
theorem dX2_wayOf_19 : decode cX2_wayOf 19 = .ok (.iload_n 1, 1) := by decide +kernel
theorem dX2_wayOf_20 : decode cX2_wayOf 20 = .ok (.iaload, 1) := by decide +kernel
theorem dX2_wayOf_21 : decode cX2_wayOf 21 = .ok (.goto 4, 3) := by decide +kernel
theorem dX2_wayOf_24 : decode cX2_wayOf 24 = .ok (.iconst 0, 1) := by decide +kernel
theorem dX2_wayOf_25 : decode cX2_wayOf 25 = .ok (.ireturn, 1) := by decide +kernel
theorem dX2_turn_0 : decode cX2_turn 0 = .ok (.iload_n 1, 1) := by decide +kernel
theorem dX2_turn_1 : decode cX2_turn 1 = .ok (.iconst 0, 1) := by decide +kernel
theorem dX2_turn_2 : decode cX2_turn 2 = .ok (.aload_n 0, 1) := by decide +kernel
theorem dX2_turn_3 : decode cX2_turn 3 = .ok (.getfield 31, 3) := by decide +kernel
theorem dX2_turn_6 : decode cX2_turn 6 = .ok (.arraylength, 1) := by decide +kernel
theorem dX2_turn_7 : decode cX2_turn 7 = .ok (.iconst 1, 1) := by decide +kernel
theorem dX2_turn_8 : decode cX2_turn 8 = .ok (.isub, 1) := by decide +kernel
theorem dX2_turn_9 : decode cX2_turn 9 = .ok (.invokestatic 48, 3) := by decide +kernel
theorem dX2_turn_12 : decode cX2_turn 12 = .ok (.ifCond .eq 10, 3) := by decide +kernel
theorem dX2_turn_15 : decode cX2_turn 15 = .ok (.aload_n 0, 1) := by decide +kernel
theorem dX2_turn_16 : decode cX2_turn 16 = .ok (.getfield 31, 3) := by decide +kernel
theorem dX2_turn_19 : decode cX2_turn 19 = .ok (.iload_n 1, 1) := by decide +kernel
theorem dX2_turn_20 : decode cX2_turn 20 = .ok (.iload_n 2, 1) := by decide +kernel
theorem dX2_turn_21 : decode cX2_turn 21 = .ok (.iastore, 1) := by decide +kernel
theorem dX2_turn_22 : decode cX2_turn 22 = .ok (.return_, 1) := by decide +kernel
theorem dX2_lineOf_0 : decode cX2_lineOf 0 = .ok (.aload_n 1, 1) := by decide +kernel
theorem dX2_lineOf_1 : decode cX2_lineOf 1 = .ok (.iconst 2, 1) := by decide +kernel
theorem dX2_lineOf_2 : decode cX2_lineOf 2 = .ok (.invokevirtual 52, 3) := by decide +kernel
theorem dX2_lineOf_5 : decode cX2_lineOf 5 = .ok (.ifCond .eq 5, 3) := by decide +kernel
theorem dX2_lineOf_8 : decode cX2_lineOf 8 = .ok (.iconst 0, 1) := by decide +kernel
theorem dX2_lineOf_9 : decode cX2_lineOf 9 = .ok (.ireturn, 1) := by decide +kernel
theorem dX2_lineOf_10 : decode cX2_lineOf 10 = .ok (.bipush 63, 2) := by decide +kernel
theorem dX2_lineOf_12 : decode cX2_lineOf 12 = .ok (.aload_n 0, 1) := by decide +kernel
theorem dX2_lineOf_13 : decode cX2_lineOf 13 = .ok (.getfield 20, 3) := by decide +kernel
theorem dX2_lineOf_16 : decode cX2_lineOf 16 = .ok (.aload_n 1, 1) := by decide +kernel
theorem dX2_lineOf_17 : decode cX2_lineOf 17 = .ok (.iconst 0, 1) := by decide +kernel
theorem dX2_lineOf_18 : decode cX2_lineOf 18 = .ok (.invokevirtual 52, 3) := by decide +kernel
theorem dX2_lineOf_21 : decode cX2_lineOf 21 = .ok (.aload_n 1, 1) := by decide +kernel
theorem dX2_lineOf_22 : decode cX2_lineOf 22 = .ok (.iconst 1, 1) := by decide +kernel
theorem dX2_lineOf_23 : decode cX2_lineOf 23 = .ok (.invokevirtual 52, 3) := by decide +kernel
theorem dX2_lineOf_26 : decode cX2_lineOf 26 = .ok (.invokestatic 56, 3) := by decide +kernel
theorem dX2_lineOf_29 : decode cX2_lineOf 29 = .ok (.invokestatic 62, 3) := by decide +kernel
theorem dX2_lineOf_32 : decode cX2_lineOf 32 = .ok (.ireturn, 1) := by decide +kernel
theorem dX2_growthFrom_0 : decode cX2_growthFrom 0 = .ok (.iconst 0, 1) := by decide +kernel
theorem dX2_growthFrom_1 : decode cX2_growthFrom 1 = .ok (.istore_n 2, 1) := by decide +kernel
theorem dX2_growthFrom_2 : decode cX2_growthFrom 2 = .ok (.iload_n 1, 1) := by decide +kernel
theorem dX2_growthFrom_3 : decode cX2_growthFrom 3 = .ok (.istore_n 3, 1) := by decide +kernel
theorem dX2_growthFrom_4 : decode cX2_growthFrom 4 = .ok (.iload_n 3, 1) := by decide +kernel
theorem dX2_growthFrom_5 : decode cX2_growthFrom 5 = .ok (.bipush 23, 2) := by decide +kernel
theorem dX2_growthFrom_7 : decode cX2_growthFrom 7 = .ok (.if_icmp .ge 20, 3) := by decide +kernel
theorem dX2_growthFrom_10 : decode cX2_growthFrom 10 = .ok (.iload_n 2, 1) := by decide +kernel
theorem dX2_growthFrom_11 : decode cX2_growthFrom 11 = .ok (.aload_n 0, 1) := by decide +kernel
theorem dX2_growthFrom_12 : decode cX2_growthFrom 12 = .ok (.getfield 24, 3) := by decide +kernel
theorem dX2_growthFrom_15 : decode cX2_growthFrom 15 = .ok (.iload_n 3, 1) := by decide +kernel
theorem dX2_growthFrom_16 : decode cX2_growthFrom 16 = .ok (.invokestatic 68, 3) := by decide +kernel
theorem dX2_growthFrom_19 : decode cX2_growthFrom 19 = .ok (.iadd, 1) := by decide +kernel
theorem dX2_growthFrom_20 : decode cX2_growthFrom 20 = .ok (.istore_n 2, 1) := by decide +kernel
theorem dX2_growthFrom_21 : decode cX2_growthFrom 21 = .ok (.iinc 3 1, 3) := by decide +kernel
theorem dX2_growthFrom_24 : decode cX2_growthFrom 24 = .ok (.goto (-20), 3) := by decide +kernel
theorem dX2_growthFrom_27 : decode cX2_growthFrom 27 = .ok (.iload_n 2, 1) := by decide +kernel
theorem dX2_growthFrom_28 : decode cX2_growthFrom 28 = .ok (.ireturn, 1) := by decide +kernel
theorem dX2_tenthsGrown_0 : decode cX2_tenthsGrown 0 = .ok (.aload_n 1, 1) := by decide +kernel
theorem dX2_tenthsGrown_1 : decode cX2_tenthsGrown 1 = .ok (.iconst 1, 1) := by decide +kernel
theorem dX2_tenthsGrown_2 : decode cX2_tenthsGrown 2 = .ok (.invokevirtual 52, 3) := by decide +kernel
theorem dX2_tenthsGrown_5 : decode cX2_tenthsGrown 5 = .ok (.istore_n 2, 1) := by decide +kernel
theorem dX2_tenthsGrown_6 : decode cX2_tenthsGrown 6 = .ok (.aload_n 0, 1) := by decide +kernel
theorem dX2_tenthsGrown_7 : decode cX2_tenthsGrown 7 = .ok (.iconst 4, 1) := by decide +kernel
theorem dX2_tenthsGrown_8 : decode cX2_tenthsGrown 8 = .ok (.invokevirtual 72, 3) := by decide +kernel
theorem dX2_tenthsGrown_11 : decode cX2_tenthsGrown 11 = .ok (.istore_n 3, 1) := by decide +kernel
theorem dX2_tenthsGrown_12 : decode cX2_tenthsGrown 12 = .ok (.bipush 10, 2) := by decide +kernel
theorem dX2_tenthsGrown_14 : decode cX2_tenthsGrown 14 = .ok (.iload_n 3, 1) := by decide +kernel
theorem dX2_tenthsGrown_15 : decode cX2_tenthsGrown 15 = .ok (.isub, 1) := by decide +kernel
theorem dX2_tenthsGrown_16 : decode cX2_tenthsGrown 16 = .ok (.aload_n 0, 1) := by decide +kernel
theorem dX2_tenthsGrown_17 : decode cX2_tenthsGrown 17 = .ok (.iload_n 2, 1) := by decide +kernel
theorem dX2_tenthsGrown_18 : decode cX2_tenthsGrown 18 = .ok (.invokevirtual 75, 3) := by decide +kernel
theorem dX2_tenthsGrown_21 : decode cX2_tenthsGrown 21 = .ok (.imul, 1) := by decide +kernel
theorem dX2_tenthsGrown_22 : decode cX2_tenthsGrown 22 = .ok (.iload_n 3, 1) := by decide +kernel
theorem dX2_tenthsGrown_23 : decode cX2_tenthsGrown 23 = .ok (.aload_n 0, 1) := by decide +kernel
theorem dX2_tenthsGrown_24 : decode cX2_tenthsGrown 24 = .ok (.iload_n 2, 1) := by decide +kernel
theorem dX2_tenthsGrown_25 : decode cX2_tenthsGrown 25 = .ok (.iconst 1, 1) := by decide +kernel
theorem dX2_tenthsGrown_26 : decode cX2_tenthsGrown 26 = .ok (.isub, 1) := by decide +kernel
theorem dX2_tenthsGrown_27 : decode cX2_tenthsGrown 27 = .ok (.invokevirtual 75, 3) := by decide +kernel
theorem dX2_tenthsGrown_30 : decode cX2_tenthsGrown 30 = .ok (.imul, 1) := by decide +kernel
theorem dX2_tenthsGrown_31 : decode cX2_tenthsGrown 31 = .ok (.iadd, 1) := by decide +kernel
theorem dX2_tenthsGrown_32 : decode cX2_tenthsGrown 32 = .ok (.ireturn, 1) := by decide +kernel
theorem dX2_hundredths_0 : decode cX2_hundredths 0 = .ok (.iload_n 2, 1) := by decide +kernel
theorem dX2_hundredths_1 : decode cX2_hundredths 1 = .ok (.iload_n 1, 1) := by decide +kernel
theorem dX2_hundredths_2 : decode cX2_hundredths 2 = .ok (.if_icmp .ge 18, 3) := by decide +kernel
theorem dX2_hundredths_5 : decode cX2_hundredths 5 = .ok (.iload_n 1, 1) := by decide +kernel
theorem dX2_hundredths_6 : decode cX2_hundredths 6 = .ok (.iload_n 2, 1) := by decide +kernel
theorem dX2_hundredths_7 : decode cX2_hundredths 7 = .ok (.isub, 1) := by decide +kernel
theorem dX2_hundredths_8 : decode cX2_hundredths 8 = .ok (.aload_n 0, 1) := by decide +kernel
theorem dX2_hundredths_9 : decode cX2_hundredths 9 = .ok (.iconst 2, 1) := by decide +kernel
theorem dX2_hundredths_10 : decode cX2_hundredths 10 = .ok (.invokevirtual 72, 3) := by decide +kernel
theorem dX2_hundredths_13 : decode cX2_hundredths 13 = .ok (.if_icmp .gt 7, 3) := by decide +kernel
theorem dX2_hundredths_16 : decode cX2_hundredths 16 = .ok (.iconst 1, 1) := by decide +kernel
theorem dX2_hundredths_17 : decode cX2_hundredths 17 = .ok (.goto 4, 3) := by decide +kernel
theorem dX2_hundredths_20 : decode cX2_hundredths 20 = .ok (.iconst 0, 1) := by decide +kernel
theorem dX2_hundredths_21 : decode cX2_hundredths 21 = .ok (.istore 4, 2) := by decide +kernel
theorem dX2_hundredths_23 : decode cX2_hundredths 23 = .ok (.iload 4, 2) := by decide +kernel
theorem dX2_hundredths_25 : decode cX2_hundredths 25 = .ok (.ifCond .eq 11, 3) := by decide +kernel
theorem dX2_hundredths_28 : decode cX2_hundredths 28 = .ok (.aload_n 0, 1) := by decide +kernel
theorem dX2_hundredths_29 : decode cX2_hundredths 29 = .ok (.iconst 3, 1) := by decide +kernel
theorem dX2_hundredths_30 : decode cX2_hundredths 30 = .ok (.invokevirtual 72, 3) := by decide +kernel
theorem dX2_hundredths_33 : decode cX2_hundredths 33 = .ok (.goto 4, 3) := by decide +kernel
theorem dX2_hundredths_36 : decode cX2_hundredths 36 = .ok (.iconst 0, 1) := by decide +kernel
theorem dX2_hundredths_37 : decode cX2_hundredths 37 = .ok (.istore 5, 2) := by decide +kernel
theorem dX2_hundredths_39 : decode cX2_hundredths 39 = .ok (.iload_n 2, 1) := by decide +kernel
theorem dX2_hundredths_40 : decode cX2_hundredths 40 = .ok (.iconst 4, 1) := by decide +kernel
theorem dX2_hundredths_41 : decode cX2_hundredths 41 = .ok (.irem, 1) := by decide +kernel
theorem dX2_hundredths_42 : decode cX2_hundredths 42 = .ok (.ifCond .ne 7, 3) := by decide +kernel
theorem dX2_hundredths_45 : decode cX2_hundredths 45 = .ok (.iconst 0, 1) := by decide +kernel
theorem dX2_hundredths_46 : decode cX2_hundredths 46 = .ok (.goto 8, 3) := by decide +kernel
theorem dX2_hundredths_49 : decode cX2_hundredths 49 = .ok (.aload_n 0, 1) := by decide +kernel
theorem dX2_hundredths_50 : decode cX2_hundredths 50 = .ok (.iconst 1, 1) := by decide +kernel
theorem dX2_hundredths_51 : decode cX2_hundredths 51 = .ok (.invokevirtual 72, 3) := by decide +kernel
theorem dX2_hundredths_54 : decode cX2_hundredths 54 = .ok (.istore 6, 2) := by decide +kernel
theorem dX2_hundredths_56 : decode cX2_hundredths 56 = .ok (.iconst 0, 1) := by decide +kernel
theorem dX2_hundredths_57 : decode cX2_hundredths 57 = .ok (.istore 7, 2) := by decide +kernel
theorem dX2_hundredths_59 : decode cX2_hundredths 59 = .ok (.iload_n 3, 1) := by decide +kernel
theorem dX2_hundredths_60 : decode cX2_hundredths 60 = .ok (.iload_n 1, 1) := by decide +kernel
theorem dX2_hundredths_61 : decode cX2_hundredths 61 = .ok (.if_icmp .ne 13, 3) := by decide +kernel
theorem dX2_hundredths_64 : decode cX2_hundredths 64 = .ok (.iload 7, 2) := by decide +kernel
theorem dX2_hundredths_66 : decode cX2_hundredths 66 = .ok (.bipush 10, 2) := by decide +kernel
theorem dX2_hundredths_68 : decode cX2_hundredths 68 = .ok (.iload 5, 2) := by decide +kernel
theorem dX2_hundredths_70 : decode cX2_hundredths 70 = .ok (.imul, 1) := by decide +kernel
theorem dX2_hundredths_71 : decode cX2_hundredths 71 = .ok (.iadd, 1) := by decide +kernel
theorem dX2_hundredths_72 : decode cX2_hundredths 72 = .ok (.istore 7, 2) := by decide +kernel
theorem dX2_hundredths_74 : decode cX2_hundredths 74 = .ok (.iload_n 3, 1) := by decide +kernel
theorem dX2_hundredths_75 : decode cX2_hundredths 75 = .ok (.iload_n 2, 1) := by decide +kernel
theorem dX2_hundredths_76 : decode cX2_hundredths 76 = .ok (.invokestatic 78, 3) := by decide +kernel
theorem dX2_hundredths_79 : decode cX2_hundredths 79 = .ok (.if_icmp .ne 16, 3) := by decide +kernel
theorem dX2_hundredths_82 : decode cX2_hundredths 82 = .ok (.iload 7, 2) := by decide +kernel
theorem dX2_hundredths_84 : decode cX2_hundredths 84 = .ok (.bipush 10, 2) := by decide +kernel
theorem dX2_hundredths_86 : decode cX2_hundredths 86 = .ok (.iload 5, 2) := by decide +kernel
theorem dX2_hundredths_88 : decode cX2_hundredths 88 = .ok (.isub, 1) := by decide +kernel
theorem dX2_hundredths_89 : decode cX2_hundredths 89 = .ok (.iload 6, 2) := by decide +kernel
theorem dX2_hundredths_91 : decode cX2_hundredths 91 = .ok (.imul, 1) := by decide +kernel
theorem dX2_hundredths_92 : decode cX2_hundredths 92 = .ok (.iadd, 1) := by decide +kernel
theorem dX2_hundredths_93 : decode cX2_hundredths 93 = .ok (.istore 7, 2) := by decide +kernel
theorem dX2_hundredths_95 : decode cX2_hundredths 95 = .ok (.iload_n 3, 1) := by decide +kernel
theorem dX2_hundredths_96 : decode cX2_hundredths 96 = .ok (.iload_n 2, 1) := by decide +kernel
theorem dX2_hundredths_97 : decode cX2_hundredths 97 = .ok (.if_icmp .ne 19, 3) := by decide +kernel
theorem dX2_hundredths_100 : decode cX2_hundredths 100 = .ok (.iload 7, 2) := by decide +kernel
theorem dX2_hundredths_102 : decode cX2_hundredths 102 = .ok (.bipush 10, 2) := by decide +kernel
theorem dX2_hundredths_104 : decode cX2_hundredths 104 = .ok (.iload 5, 2) := by decide +kernel
theorem dX2_hundredths_106 : decode cX2_hundredths 106 = .ok (.isub, 1) := by decide +kernel
theorem dX2_hundredths_107 : decode cX2_hundredths 107 = .ok (.bipush 10, 2) := by decide +kernel
theorem dX2_hundredths_109 : decode cX2_hundredths 109 = .ok (.iload 6, 2) := by decide +kernel
theorem dX2_hundredths_111 : decode cX2_hundredths 111 = .ok (.isub, 1) := by decide +kernel
theorem dX2_hundredths_112 : decode cX2_hundredths 112 = .ok (.imul, 1) := by decide +kernel
theorem dX2_hundredths_113 : decode cX2_hundredths 113 = .ok (.iadd, 1) := by decide +kernel
theorem dX2_hundredths_114 : decode cX2_hundredths 114 = .ok (.istore 7, 2) := by decide +kernel
theorem dX2_hundredths_116 : decode cX2_hundredths 116 = .ok (.iload 7, 2) := by decide +kernel
theorem dX2_hundredths_118 : decode cX2_hundredths 118 = .ok (.ireturn, 1) := by decide +kernel
theorem dX3_init_0 : decode cX3_init 0 = .ok (.aload_n 0, 1) := by decide +kernel
theorem dX3_init_1 : decode cX3_init 1 = .ok (.invokespecial 3, 3) := by decide +kernel
theorem dX3_init_4 : decode cX3_init 4 = .ok (.aload_n 0, 1) := by decide +kernel
theorem dX3_init_5 : decode cX3_init 5 = .ok (.bipush 9, 2) := by decide +kernel
theorem dX3_init_7 : decode cX3_init 7 = .ok (.bipush 17, 2) := by decide +kernel
theorem dX3_init_9 : decode cX3_init 9 = .ok (.multianewarray 9 2, 4) := by decide +kernel
theorem dX3_init_13 : decode cX3_init 13 = .ok (.putfield 11, 3) := by decide +kernel
theorem dX3_init_16 : decode cX3_init 16 = .ok (.iconst 1, 1) := by decide +kernel
theorem dX3_init_17 : decode cX3_init 17 = .ok (.istore_n 1, 1) := by decide +kernel
theorem dX3_init_18 : decode cX3_init 18 = .ok (.iload_n 1, 1) := by decide +kernel
theorem dX3_init_19 : decode cX3_init 19 = .ok (.bipush 8, 2) := by decide +kernel
theorem dX3_init_21 : decode cX3_init 21 = .ok (.if_icmp .gt 47, 3) := by decide +kernel
theorem dX3_init_24 : decode cX3_init 24 = .ok (.iconst 1, 1) := by decide +kernel
theorem dX3_init_25 : decode cX3_init 25 = .ok (.istore_n 2, 1) := by decide +kernel
theorem dX3_init_26 : decode cX3_init 26 = .ok (.iconst 0, 1) := by decide +kernel
theorem dX3_init_27 : decode cX3_init 27 = .ok (.istore_n 3, 1) := by decide +kernel
theorem dX3_init_28 : decode cX3_init 28 = .ok (.iload_n 3, 1) := by decide +kernel
theorem dX3_init_29 : decode cX3_init 29 = .ok (.iconst 2, 1) := by decide +kernel
theorem dX3_init_30 : decode cX3_init 30 = .ok (.iload_n 1, 1) := by decide +kernel
theorem dX3_init_31 : decode cX3_init 31 = .ok (.imul, 1) := by decide +kernel
theorem dX3_init_32 : decode cX3_init 32 = .ok (.if_icmp .gt 30, 3) := by decide +kernel
theorem dX3_init_35 : decode cX3_init 35 = .ok (.aload_n 0, 1) := by decide +kernel
theorem dX3_init_36 : decode cX3_init 36 = .ok (.getfield 11, 3) := by decide +kernel
theorem dX3_init_39 : decode cX3_init 39 = .ok (.iload_n 1, 1) := by decide +kernel
theorem dX3_init_40 : decode cX3_init 40 = .ok (.aaload, 1) := by decide +kernel
theorem dX3_init_41 : decode cX3_init 41 = .ok (.iload_n 3, 1) := by decide +kernel
theorem dX3_init_42 : decode cX3_init 42 = .ok (.iload_n 2, 1) := by decide +kernel
theorem dX3_init_43 : decode cX3_init 43 = .ok (.iastore, 1) := by decide +kernel
theorem dX3_init_44 : decode cX3_init 44 = .ok (.iload_n 2, 1) := by decide +kernel
theorem dX3_init_45 : decode cX3_init 45 = .ok (.iconst 2, 1) := by decide +kernel
theorem dX3_init_46 : decode cX3_init 46 = .ok (.iload_n 1, 1) := by decide +kernel
theorem dX3_init_47 : decode cX3_init 47 = .ok (.imul, 1) := by decide +kernel
theorem dX3_init_48 : decode cX3_init 48 = .ok (.iload_n 3, 1) := by decide +kernel
theorem dX3_init_49 : decode cX3_init 49 = .ok (.isub, 1) := by decide +kernel
theorem dX3_init_50 : decode cX3_init 50 = .ok (.imul, 1) := by decide +kernel
theorem dX3_init_51 : decode cX3_init 51 = .ok (.iload_n 3, 1) := by decide +kernel
theorem dX3_init_52 : decode cX3_init 52 = .ok (.iconst 1, 1) := by decide +kernel
theorem dX3_init_53 : decode cX3_init 53 = .ok (.iadd, 1) := by decide +kernel
theorem dX3_init_54 : decode cX3_init 54 = .ok (.idiv, 1) := by decide +kernel
theorem dX3_init_55 : decode cX3_init 55 = .ok (.istore_n 2, 1) := by decide +kernel
theorem dX3_init_56 : decode cX3_init 56 = .ok (.iinc 3 1, 3) := by decide +kernel
theorem dX3_init_59 : decode cX3_init 59 = .ok (.goto (-31), 3) := by decide +kernel
theorem dX3_init_62 : decode cX3_init 62 = .ok (.iinc 1 1, 3) := by decide +kernel
theorem dX3_init_65 : decode cX3_init 65 = .ok (.goto (-47), 3) := by decide +kernel
theorem dX3_init_68 : decode cX3_init 68 = .ok (.return_, 1) := by decide +kernel
theorem dX3_waysOf_0 : decode cX3_waysOf 0 = .ok (.iload_n 1, 1) := by decide +kernel
theorem dX3_waysOf_1 : decode cX3_waysOf 1 = .ok (.iconst 1, 1) := by decide +kernel
theorem dX3_waysOf_2 : decode cX3_waysOf 2 = .ok (.if_icmp .lt 20, 3) := by decide +kernel
theorem dX3_waysOf_5 : decode cX3_waysOf 5 = .ok (.iload_n 1, 1) := by decide +kernel
theorem dX3_waysOf_6 : decode cX3_waysOf 6 = .ok (.bipush 8, 2) := by decide +kernel
theorem dX3_waysOf_8 : decode cX3_waysOf 8 = .ok (.if_icmp .gt 14, 3) := by decide +kernel
theorem dX3_waysOf_11 : decode cX3_waysOf 11 = .ok (.iload_n 2, 1) := by decide +kernel
theorem dX3_waysOf_12 : decode cX3_waysOf 12 = .ok (.ifCond .lt 10, 3) := by decide +kernel
theorem dX3_waysOf_15 : decode cX3_waysOf 15 = .ok (.iload_n 2, 1) := by decide +kernel
theorem dX3_waysOf_16 : decode cX3_waysOf 16 = .ok (.iconst 2, 1) := by decide +kernel
theorem dX3_waysOf_17 : decode cX3_waysOf 17 = .ok (.iload_n 1, 1) := by decide +kernel
theorem dX3_waysOf_18 : decode cX3_waysOf 18 = .ok (.imul, 1) := by decide +kernel
theorem dX3_waysOf_19 : decode cX3_waysOf 19 = .ok (.if_icmp .le 7, 3) := by decide +kernel
theorem dX3_waysOf_22 : decode cX3_waysOf 22 = .ok (.iconst 0, 1) := by decide +kernel
theorem dX3_waysOf_23 : decode cX3_waysOf 23 = .ok (.goto 11, 3) := by decide +kernel
theorem dX3_waysOf_26 : decode cX3_waysOf 26 = .ok (.aload_n 0, 1) := by decide +kernel
theorem dX3_waysOf_27 : decode cX3_waysOf 27 = .ok (.getfield 11, 3) := by decide +kernel
theorem dX3_waysOf_30 : decode cX3_waysOf 30 = .ok (.iload_n 1, 1) := by decide +kernel
theorem dX3_waysOf_31 : decode cX3_waysOf 31 = .ok (.aaload, 1) := by decide +kernel
theorem dX3_waysOf_32 : decode cX3_waysOf 32 = .ok (.iload_n 2, 1) := by decide +kernel
theorem dX3_waysOf_33 : decode cX3_waysOf 33 = .ok (.iaload, 1) := by decide +kernel
theorem dX3_waysOf_34 : decode cX3_waysOf 34 = .ok (.ireturn, 1) := by decide +kernel
theorem dX3_menAt_0 : decode cX3_menAt 0 = .ok (.iload_n 3, 1) := by decide +kernel
theorem dX3_menAt_1 : decode cX3_menAt 1 = .ok (.ifCond .lt 9, 3) := by decide +kernel
theorem dX3_menAt_4 : decode cX3_menAt 4 = .ok (.iload_n 3, 1) := by decide +kernel
theorem dX3_menAt_5 : decode cX3_menAt 5 = .ok (.bipush 63, 2) := by decide +kernel
theorem dX3_menAt_7 : decode cX3_menAt 7 = .ok (.if_icmp .le 7, 3) := by decide +kernel
theorem dX3_menAt_10 : decode cX3_menAt 10 = .ok (.iconst 0, 1) := by decide +kernel
theorem dX3_menAt_11 : decode cX3_menAt 11 = .ok (.goto 13, 3) := by decide +kernel
theorem dX3_menAt_14 : decode cX3_menAt 14 = .ok (.aload_n 0, 1) := by decide +kernel
theorem dX3_menAt_15 : decode cX3_menAt 15 = .ok (.iload_n 2, 1) := by decide +kernel
theorem dX3_menAt_16 : decode cX3_menAt 16 = .ok (.iload_n 3, 1) := by decide +kernel
theorem dX3_menAt_17 : decode cX3_menAt 17 = .ok (.iload_n 1, 1) := by decide +kernel
theorem dX3_menAt_18 : decode cX3_menAt 18 = .ok (.isub, 1) := by decide +kernel
theorem dX3_menAt_19 : decode cX3_menAt 19 = .ok (.iload_n 2, 1) := by decide +kernel
theorem dX3_menAt_20 : decode cX3_menAt 20 = .ok (.iadd, 1) := by decide +kernel
theorem dX3_menAt_21 : decode cX3_menAt 21 = .ok (.invokevirtual 16, 3) := by decide +kernel
theorem dX3_menAt_24 : decode cX3_menAt 24 = .ok (.ireturn, 1) := by decide +kernel
theorem dX3_countFrom_0 : decode cX3_countFrom 0 = .ok (.lconst 0, 1) := by decide +kernel
theorem dX3_countFrom_1 : decode cX3_countFrom 1 = .ok (.lstore 4, 2) := by decide +kernel
theorem dX3_countFrom_3 : decode cX3_countFrom 3 = .ok (.iload_n 3, 1) := by decide +kernel
theorem dX3_countFrom_4 : decode cX3_countFrom 4 = .ok (.iload_n 1, 1) := by decide +kernel
theorem dX3_countFrom_5 : decode cX3_countFrom 5 = .ok (.iload_n 2, 1) := by decide +kernel
theorem dX3_countFrom_6 : decode cX3_countFrom 6 = .ok (.isub, 1) := by decide +kernel
theorem dX3_countFrom_7 : decode cX3_countFrom 7 = .ok (.invokestatic 20, 3) := by decide +kernel
theorem dX3_countFrom_10 : decode cX3_countFrom 10 = .ok (.istore 6, 2) := by decide +kernel
theorem dX3_countFrom_12 : decode cX3_countFrom 12 = .ok (.iload 6, 2) := by decide +kernel
theorem dX3_countFrom_14 : decode cX3_countFrom 14 = .ok (.iload_n 1, 1) := by decide +kernel
theorem dX3_countFrom_15 : decode cX3_countFrom 15 = .ok (.iload_n 2, 1) := by decide +kernel
theorem dX3_countFrom_16 : decode cX3_countFrom 16 = .ok (.iadd, 1) := by decide +kernel
theorem dX3_countFrom_17 : decode cX3_countFrom 17 = .ok (.if_icmp .gt 23, 3) := by decide +kernel
theorem dX3_countFrom_20 : decode cX3_countFrom 20 = .ok (.lload 4, 2) := by decide +kernel
theorem dX3_countFrom_22 : decode cX3_countFrom 22 = .ok (.aload_n 0, 1) := by decide +kernel
theorem dX3_countFrom_23 : decode cX3_countFrom 23 = .ok (.iload_n 1, 1) := by decide +kernel
theorem dX3_countFrom_24 : decode cX3_countFrom 24 = .ok (.iload_n 2, 1) := by decide +kernel
theorem dX3_countFrom_25 : decode cX3_countFrom 25 = .ok (.iload 6, 2) := by decide +kernel
theorem dX3_countFrom_27 : decode cX3_countFrom 27 = .ok (.invokevirtual 25, 3) := by decide +kernel
theorem dX3_countFrom_30 : decode cX3_countFrom 30 = .ok (.i2l, 1) := by decide +kernel
theorem dX3_countFrom_31 : decode cX3_countFrom 31 = .ok (.ladd, 1) := by decide +kernel
theorem dX3_countFrom_32 : decode cX3_countFrom 32 = .ok (.lstore 4, 2) := by decide +kernel
theorem dX3_countFrom_34 : decode cX3_countFrom 34 = .ok (.iinc 6 1, 3) := by decide +kernel
theorem dX3_countFrom_37 : decode cX3_countFrom 37 = .ok (.goto (-25), 3) := by decide +kernel
theorem dX3_countFrom_40 : decode cX3_countFrom 40 = .ok (.lload 4, 2) := by decide +kernel
theorem dX3_countFrom_42 : decode cX3_countFrom 42 = .ok (.lreturn, 1) := by decide +kernel
theorem dX3_sumFrom_0 : decode cX3_sumFrom 0 = .ok (.lconst 0, 1) := by decide +kernel
theorem dX3_sumFrom_1 : decode cX3_sumFrom 1 = .ok (.lstore 4, 2) := by decide +kernel
theorem dX3_sumFrom_3 : decode cX3_sumFrom 3 = .ok (.iload_n 3, 1) := by decide +kernel
theorem dX3_sumFrom_4 : decode cX3_sumFrom 4 = .ok (.iload_n 1, 1) := by decide +kernel
theorem dX3_sumFrom_5 : decode cX3_sumFrom 5 = .ok (.iload_n 2, 1) := by decide +kernel
theorem dX3_sumFrom_6 : decode cX3_sumFrom 6 = .ok (.isub, 1) := by decide +kernel
theorem dX3_sumFrom_7 : decode cX3_sumFrom 7 = .ok (.invokestatic 20, 3) := by decide +kernel
theorem dX3_sumFrom_10 : decode cX3_sumFrom 10 = .ok (.istore 6, 2) := by decide +kernel
theorem dX3_sumFrom_12 : decode cX3_sumFrom 12 = .ok (.iload 6, 2) := by decide +kernel
theorem dX3_sumFrom_14 : decode cX3_sumFrom 14 = .ok (.iload_n 1, 1) := by decide +kernel
theorem dX3_sumFrom_15 : decode cX3_sumFrom 15 = .ok (.iload_n 2, 1) := by decide +kernel
theorem dX3_sumFrom_16 : decode cX3_sumFrom 16 = .ok (.iadd, 1) := by decide +kernel
theorem dX3_sumFrom_17 : decode cX3_sumFrom 17 = .ok (.if_icmp .gt 27, 3) := by decide +kernel
theorem dX3_sumFrom_20 : decode cX3_sumFrom 20 = .ok (.lload 4, 2) := by decide +kernel
theorem dX3_sumFrom_22 : decode cX3_sumFrom 22 = .ok (.iload 6, 2) := by decide +kernel
theorem dX3_sumFrom_24 : decode cX3_sumFrom 24 = .ok (.i2l, 1) := by decide +kernel
theorem dX3_sumFrom_25 : decode cX3_sumFrom 25 = .ok (.aload_n 0, 1) := by decide +kernel
theorem dX3_sumFrom_26 : decode cX3_sumFrom 26 = .ok (.iload_n 1, 1) := by decide +kernel
theorem dX3_sumFrom_27 : decode cX3_sumFrom 27 = .ok (.iload_n 2, 1) := by decide +kernel
theorem dX3_sumFrom_28 : decode cX3_sumFrom 28 = .ok (.iload 6, 2) := by decide +kernel
theorem dX3_sumFrom_30 : decode cX3_sumFrom 30 = .ok (.invokevirtual 25, 3) := by decide +kernel
theorem dX3_sumFrom_33 : decode cX3_sumFrom 33 = .ok (.i2l, 1) := by decide +kernel
theorem dX3_sumFrom_34 : decode cX3_sumFrom 34 = .ok (.lmul, 1) := by decide +kernel
theorem dX3_sumFrom_35 : decode cX3_sumFrom 35 = .ok (.ladd, 1) := by decide +kernel
theorem dX3_sumFrom_36 : decode cX3_sumFrom 36 = .ok (.lstore 4, 2) := by decide +kernel
theorem dX3_sumFrom_38 : decode cX3_sumFrom 38 = .ok (.iinc 6 1, 3) := by decide +kernel
theorem dX3_sumFrom_41 : decode cX3_sumFrom 41 = .ok (.goto (-29), 3) := by decide +kernel
theorem dX3_sumFrom_44 : decode cX3_sumFrom 44 = .ok (.lload 4, 2) := by decide +kernel
theorem dX3_sumFrom_46 : decode cX3_sumFrom 46 = .ok (.lreturn, 1) := by decide +kernel
theorem dX3_heightOf_0 : decode cX3_heightOf 0 = .ok (.iload_n 3, 1) := by decide +kernel
theorem dX3_heightOf_1 : decode cX3_heightOf 1 = .ok (.istore 4, 2) := by decide +kernel
theorem dX3_heightOf_3 : decode cX3_heightOf 3 = .ok (.iconst 0, 1) := by decide +kernel
theorem dX3_heightOf_4 : decode cX3_heightOf 4 = .ok (.istore 5, 2) := by decide +kernel
theorem dX3_heightOf_6 : decode cX3_heightOf 6 = .ok (.iload 5, 2) := by decide +kernel
theorem dX3_heightOf_8 : decode cX3_heightOf 8 = .ok (.iconst 2, 1) := by decide +kernel
theorem dX3_heightOf_9 : decode cX3_heightOf 9 = .ok (.iload_n 2, 1) := by decide +kernel
theorem dX3_heightOf_10 : decode cX3_heightOf 10 = .ok (.imul, 1) := by decide +kernel
theorem dX3_heightOf_11 : decode cX3_heightOf 11 = .ok (.if_icmp .ge 33, 3) := by decide +kernel
theorem dX3_heightOf_14 : decode cX3_heightOf 14 = .ok (.iload 4, 2) := by decide +kernel
theorem dX3_heightOf_16 : decode cX3_heightOf 16 = .ok (.aload_n 0, 1) := by decide +kernel
theorem dX3_heightOf_17 : decode cX3_heightOf 17 = .ok (.iload_n 2, 1) := by decide +kernel
theorem dX3_heightOf_18 : decode cX3_heightOf 18 = .ok (.iload 5, 2) := by decide +kernel
theorem dX3_heightOf_20 : decode cX3_heightOf 20 = .ok (.invokevirtual 16, 3) := by decide +kernel
theorem dX3_heightOf_23 : decode cX3_heightOf 23 = .ok (.isub, 1) := by decide +kernel
theorem dX3_heightOf_24 : decode cX3_heightOf 24 = .ok (.istore 4, 2) := by decide +kernel
theorem dX3_heightOf_26 : decode cX3_heightOf 26 = .ok (.iload 4, 2) := by decide +kernel
theorem dX3_heightOf_28 : decode cX3_heightOf 28 = .ok (.ifCond .ge 10, 3) := by decide +kernel
theorem dX3_heightOf_31 : decode cX3_heightOf 31 = .ok (.iload_n 1, 1) := by decide +kernel
theorem dX3_heightOf_32 : decode cX3_heightOf 32 = .ok (.iload_n 2, 1) := by decide +kernel
theorem dX3_heightOf_33 : decode cX3_heightOf 33 = .ok (.isub, 1) := by decide +kernel
theorem dX3_heightOf_34 : decode cX3_heightOf 34 = .ok (.iload 5, 2) := by decide +kernel
theorem dX3_heightOf_36 : decode cX3_heightOf 36 = .ok (.iadd, 1) := by decide +kernel
theorem dX3_heightOf_37 : decode cX3_heightOf 37 = .ok (.ireturn, 1) := by decide +kernel
theorem dX3_heightOf_38 : decode cX3_heightOf 38 = .ok (.iinc 5 1, 3) := by decide +kernel
theorem dX3_heightOf_41 : decode cX3_heightOf 41 = .ok (.goto (-35), 3) := by decide +kernel
theorem dX3_heightOf_44 : decode cX3_heightOf 44 = .ok (.iload_n 1, 1) := by decide +kernel
theorem dX3_heightOf_45 : decode cX3_heightOf 45 = .ok (.iload_n 2, 1) := by decide +kernel
theorem dX3_heightOf_46 : decode cX3_heightOf 46 = .ok (.iadd, 1) := by decide +kernel
theorem dX3_heightOf_47 : decode cX3_heightOf 47 = .ok (.ireturn, 1) := by decide +kernel
theorem dX4_init_0 : decode cX4_init 0 = .ok (.aload_n 0, 1) := by decide +kernel
theorem dX4_init_1 : decode cX4_init 1 = .ok (.invokespecial 3, 3) := by decide +kernel
theorem dX4_init_4 : decode cX4_init 4 = .ok (.aload_n 0, 1) := by decide +kernel
theorem dX4_init_5 : decode cX4_init 5 = .ok (.aload_n 1, 1) := by decide +kernel
theorem dX4_init_6 : decode cX4_init 6 = .ok (.putfield 9, 3) := by decide +kernel
theorem dX4_init_9 : decode cX4_init 9 = .ok (.return_, 1) := by decide +kernel
theorem dX4_draw_0 : decode cX4_draw 0 = .ok (.aload_n 0, 1) := by decide +kernel
theorem dX4_draw_1 : decode cX4_draw 1 = .ok (.aload_n 0, 1) := by decide +kernel
theorem dX4_draw_2 : decode cX4_draw 2 = .ok (.getfield 15, 3) := by decide +kernel
theorem dX4_draw_5 : decode cX4_draw 5 = .ok (.bipush 75, 2) := by decide +kernel
theorem dX4_draw_7 : decode cX4_draw 7 = .ok (.imul, 1) := by decide +kernel
theorem dX4_draw_8 : decode cX4_draw 8 = .ok (.bipush 74, 2) := by decide +kernel
theorem dX4_draw_10 : decode cX4_draw 10 = .ok (.iadd, 1) := by decide +kernel
theorem dX4_draw_11 : decode cX4_draw 11 = .ok (.ldc 19, 2) := by decide +kernel
theorem dX4_draw_13 : decode cX4_draw 13 = .ok (.irem, 1) := by decide +kernel
theorem dX4_draw_14 : decode cX4_draw 14 = .ok (.putfield 15, 3) := by decide +kernel
theorem dX4_draw_17 : decode cX4_draw 17 = .ok (.iload_n 1, 1) := by decide +kernel
theorem dX4_draw_18 : decode cX4_draw 18 = .ok (.ifCond .gt 7, 3) := by decide +kernel
theorem dX4_draw_21 : decode cX4_draw 21 = .ok (.iconst 0, 1) := by decide +kernel
theorem dX4_draw_22 : decode cX4_draw 22 = .ok (.goto 9, 3) := by decide +kernel
theorem dX4_draw_25 : decode cX4_draw 25 = .ok (.aload_n 0, 1) := by decide +kernel
theorem dX4_draw_26 : decode cX4_draw 26 = .ok (.getfield 15, 3) := by decide +kernel
theorem dX4_draw_29 : decode cX4_draw 29 = .ok (.iload_n 1, 1) := by decide +kernel
theorem dX4_draw_30 : decode cX4_draw 30 = .ok (.irem, 1) := by decide +kernel
theorem dX4_draw_31 : decode cX4_draw 31 = .ok (.ireturn, 1) := by decide +kernel
theorem dX4_fill_0 : decode cX4_fill 0 = .ok (.aload_n 0, 1) := by decide +kernel
theorem dX4_fill_1 : decode cX4_fill 1 = .ok (.iload_n 3, 1) := by decide +kernel
theorem dX4_fill_2 : decode cX4_fill 2 = .ok (.putfield 15, 3) := by decide +kernel
theorem dX4_fill_5 : decode cX4_fill 5 = .ok (.aload_n 1, 1) := by decide +kernel
theorem dX4_fill_6 : decode cX4_fill 6 = .ok (.invokevirtual 20, 3) := by decide +kernel
theorem dX4_fill_9 : decode cX4_fill 9 = .ok (.aload_n 2, 1) := by decide +kernel
theorem dX4_fill_10 : decode cX4_fill 10 = .ok (.aload_n 1, 1) := by decide +kernel
theorem dX4_fill_11 : decode cX4_fill 11 = .ok (.invokevirtual 25, 3) := by decide +kernel
theorem dX4_fill_14 : decode cX4_fill 14 = .ok (.istore 7, 2) := by decide +kernel
theorem dX4_fill_16 : decode cX4_fill 16 = .ok (.iconst 1, 1) := by decide +kernel
theorem dX4_fill_17 : decode cX4_fill 17 = .ok (.iconst 2, 1) := by decide +kernel
theorem dX4_fill_18 : decode cX4_fill 18 = .ok (.iload 5, 2) := by decide +kernel
theorem dX4_fill_20 : decode cX4_fill 20 = .ok (.imul, 1) := by decide +kernel
theorem dX4_fill_21 : decode cX4_fill 21 = .ok (.ishl, 1) := by decide +kernel
theorem dX4_fill_22 : decode cX4_fill 22 = .ok (.istore 8, 2) := by decide +kernel
theorem dX4_fill_24 : decode cX4_fill 24 = .ok (.iconst 0, 1) := by decide +kernel
theorem dX4_fill_25 : decode cX4_fill 25 = .ok (.istore 9, 2) := by decide +kernel
theorem dX4_fill_27 : decode cX4_fill 27 = .ok (.iload 9, 2) := by decide +kernel
theorem dX4_fill_29 : decode cX4_fill 29 = .ok (.iload 6, 2) := by decide +kernel
theorem dX4_fill_31 : decode cX4_fill 31 = .ok (.if_icmp .ge 73, 3) := by decide +kernel
theorem dX4_fill_34 : decode cX4_fill 34 = .ok (.aload_n 0, 1) := by decide +kernel
theorem dX4_fill_35 : decode cX4_fill 35 = .ok (.getfield 9, 3) := by decide +kernel
theorem dX4_fill_38 : decode cX4_fill 38 = .ok (.iload 4, 2) := by decide +kernel
theorem dX4_fill_40 : decode cX4_fill 40 = .ok (.iload 5, 2) := by decide +kernel
theorem dX4_fill_42 : decode cX4_fill 42 = .ok (.aload_n 0, 1) := by decide +kernel
theorem dX4_fill_43 : decode cX4_fill 43 = .ok (.iload 8, 2) := by decide +kernel
theorem dX4_fill_45 : decode cX4_fill 45 = .ok (.invokevirtual 31, 3) := by decide +kernel
theorem dX4_fill_48 : decode cX4_fill 48 = .ok (.invokevirtual 35, 3) := by decide +kernel
theorem dX4_fill_51 : decode cX4_fill 51 = .ok (.istore 10, 2) := by decide +kernel
theorem dX4_fill_53 : decode cX4_fill 53 = .ok (.iload 10, 2) := by decide +kernel
theorem dX4_fill_55 : decode cX4_fill 55 = .ok (.invokestatic 41, 3) := by decide +kernel
theorem dX4_fill_58 : decode cX4_fill 58 = .ok (.ifCond .eq 15, 3) := by decide +kernel
theorem dX4_fill_61 : decode cX4_fill 61 = .ok (.aload_n 0, 1) := by decide +kernel
theorem dX4_fill_62 : decode cX4_fill 62 = .ok (.iload 10, 2) := by decide +kernel
theorem dX4_fill_64 : decode cX4_fill 64 = .ok (.iload 7, 2) := by decide +kernel
theorem dX4_fill_66 : decode cX4_fill 66 = .ok (.aload_n 2, 1) := by decide +kernel
theorem dX4_fill_67 : decode cX4_fill 67 = .ok (.invokevirtual 45, 3) := by decide +kernel
theorem dX4_fill_70 : decode cX4_fill 70 = .ok (.goto 5, 3) := by decide +kernel
theorem dX4_fill_73 : decode cX4_fill 73 = .ok (.bipush (-6), 2) := by decide +kernel
theorem dX4_fill_75 : decode cX4_fill 75 = .ok (.istore 11, 2) := by decide +kernel
theorem dX4_fill_77 : decode cX4_fill 77 = .ok (.iload 11, 2) := by decide +kernel
theorem dX4_fill_79 : decode cX4_fill 79 = .ok (.bipush (-6), 2) := by decide +kernel
theorem dX4_fill_81 : decode cX4_fill 81 = .ok (.if_icmp .eq 17, 3) := by decide +kernel
theorem dX4_fill_84 : decode cX4_fill 84 = .ok (.aload_n 1, 1) := by decide +kernel
theorem dX4_fill_85 : decode cX4_fill 85 = .ok (.iload 11, 2) := by decide +kernel
theorem dX4_fill_87 : decode cX4_fill 87 = .ok (.aload_n 1, 1) := by decide +kernel
theorem dX4_fill_88 : decode cX4_fill 88 = .ok (.iload 11, 2) := by decide +kernel
theorem dX4_fill_90 : decode cX4_fill 90 = .ok (.invokevirtual 49, 3) := by decide +kernel
theorem dX4_fill_93 : decode cX4_fill 93 = .ok (.iconst 1, 1) := by decide +kernel
theorem dX4_fill_94 : decode cX4_fill 94 = .ok (.iadd, 1) := by decide +kernel
theorem dX4_fill_95 : decode cX4_fill 95 = .ok (.invokevirtual 52, 3) := by decide +kernel
theorem dX4_fill_98 : decode cX4_fill 98 = .ok (.iinc 9 1, 3) := by decide +kernel
theorem dX4_fill_101 : decode cX4_fill 101 = .ok (.goto (-74), 3) := by decide +kernel
theorem dX4_fill_104 : decode cX4_fill 104 = .ok (.aload_n 1, 1) := by decide +kernel
theorem dX4_fill_105 : decode cX4_fill 105 = .ok (.getfield 56, 3) := by decide +kernel
theorem dX4_fill_108 : decode cX4_fill 108 = .ok (.ireturn, 1) := by decide +kernel
theorem dX4_placeOf_0 : decode cX4_placeOf 0 = .ok (.iload_n 1, 1) := by decide +kernel
theorem dX4_placeOf_1 : decode cX4_placeOf 1 = .ok (.iload_n 2, 1) := by decide +kernel
theorem dX4_placeOf_2 : decode cX4_placeOf 2 = .ok (.if_icmp .ge 59, 3) := by decide +kernel
theorem dX4_placeOf_5 : decode cX4_placeOf 5 = .ok (.iload_n 2, 1) := by decide +kernel
theorem dX4_placeOf_6 : decode cX4_placeOf 6 = .ok (.iload_n 1, 1) := by decide +kernel
theorem dX4_placeOf_7 : decode cX4_placeOf 7 = .ok (.isub, 1) := by decide +kernel
theorem dX4_placeOf_8 : decode cX4_placeOf 8 = .ok (.aload_n 3, 1) := by decide +kernel
theorem dX4_placeOf_9 : decode cX4_placeOf 9 = .ok (.iconst 2, 1) := by decide +kernel
theorem dX4_placeOf_10 : decode cX4_placeOf 10 = .ok (.invokevirtual 59, 3) := by decide +kernel
theorem dX4_placeOf_13 : decode cX4_placeOf 13 = .ok (.if_icmp .gt 7, 3) := by decide +kernel
theorem dX4_placeOf_16 : decode cX4_placeOf 16 = .ok (.iconst 1, 1) := by decide +kernel
theorem dX4_placeOf_17 : decode cX4_placeOf 17 = .ok (.goto 4, 3) := by decide +kernel
theorem dX4_placeOf_20 : decode cX4_placeOf 20 = .ok (.iconst 0, 1) := by decide +kernel
theorem dX4_placeOf_21 : decode cX4_placeOf 21 = .ok (.istore 4, 2) := by decide +kernel
theorem dX4_placeOf_23 : decode cX4_placeOf 23 = .ok (.iload 4, 2) := by decide +kernel
theorem dX4_placeOf_25 : decode cX4_placeOf 25 = .ok (.ifCond .eq 19, 3) := by decide +kernel
theorem dX4_placeOf_28 : decode cX4_placeOf 28 = .ok (.aload_n 0, 1) := by decide +kernel
theorem dX4_placeOf_29 : decode cX4_placeOf 29 = .ok (.bipush 10, 2) := by decide +kernel
theorem dX4_placeOf_31 : decode cX4_placeOf 31 = .ok (.invokevirtual 31, 3) := by decide +kernel
theorem dX4_placeOf_34 : decode cX4_placeOf 34 = .ok (.aload_n 3, 1) := by decide +kernel
theorem dX4_placeOf_35 : decode cX4_placeOf 35 = .ok (.iconst 3, 1) := by decide +kernel
theorem dX4_placeOf_36 : decode cX4_placeOf 36 = .ok (.invokevirtual 59, 3) := by decide +kernel
theorem dX4_placeOf_39 : decode cX4_placeOf 39 = .ok (.if_icmp .ge 5, 3) := by decide +kernel
theorem dX4_placeOf_42 : decode cX4_placeOf 42 = .ok (.iload_n 2, 1) := by decide +kernel
theorem dX4_placeOf_43 : decode cX4_placeOf 43 = .ok (.ireturn, 1) := by decide +kernel
theorem dX4_placeOf_44 : decode cX4_placeOf 44 = .ok (.aload_n 0, 1) := by decide +kernel
theorem dX4_placeOf_45 : decode cX4_placeOf 45 = .ok (.bipush 10, 2) := by decide +kernel
theorem dX4_placeOf_47 : decode cX4_placeOf 47 = .ok (.invokevirtual 31, 3) := by decide +kernel
theorem dX4_placeOf_50 : decode cX4_placeOf 50 = .ok (.aload_n 3, 1) := by decide +kernel
theorem dX4_placeOf_51 : decode cX4_placeOf 51 = .ok (.iconst 0, 1) := by decide +kernel
theorem dX4_placeOf_52 : decode cX4_placeOf 52 = .ok (.invokevirtual 59, 3) := by decide +kernel
theorem dX4_placeOf_55 : decode cX4_placeOf 55 = .ok (.if_icmp .lt 6, 3) := by decide +kernel
theorem dX4_placeOf_58 : decode cX4_placeOf 58 = .ok (.bipush (-6), 2) := by decide +kernel
theorem dX4_placeOf_60 : decode cX4_placeOf 60 = .ok (.ireturn, 1) := by decide +kernel
theorem dX4_placeOf_61 : decode cX4_placeOf 61 = .ok (.iload_n 1, 1) := by decide +kernel
theorem dX4_placeOf_62 : decode cX4_placeOf 62 = .ok (.iconst 4, 1) := by decide +kernel
theorem dX4_placeOf_63 : decode cX4_placeOf 63 = .ok (.irem, 1) := by decide +kernel
theorem dX4_placeOf_64 : decode cX4_placeOf 64 = .ok (.ifCond .eq 22, 3) := by decide +kernel
theorem dX4_placeOf_67 : decode cX4_placeOf 67 = .ok (.aload_n 0, 1) := by decide +kernel
theorem dX4_placeOf_68 : decode cX4_placeOf 68 = .ok (.bipush 10, 2) := by decide +kernel
theorem dX4_placeOf_70 : decode cX4_placeOf 70 = .ok (.invokevirtual 31, 3) := by decide +kernel
theorem dX4_placeOf_73 : decode cX4_placeOf 73 = .ok (.aload_n 3, 1) := by decide +kernel
theorem dX4_placeOf_74 : decode cX4_placeOf 74 = .ok (.iconst 1, 1) := by decide +kernel
theorem dX4_placeOf_75 : decode cX4_placeOf 75 = .ok (.invokevirtual 59, 3) := by decide +kernel
theorem dX4_placeOf_78 : decode cX4_placeOf 78 = .ok (.if_icmp .ge 8, 3) := by decide +kernel
theorem dX4_placeOf_81 : decode cX4_placeOf 81 = .ok (.iload_n 1, 1) := by decide +kernel
theorem dX4_placeOf_82 : decode cX4_placeOf 82 = .ok (.invokestatic 62, 3) := by decide +kernel
theorem dX4_placeOf_85 : decode cX4_placeOf 85 = .ok (.ireturn, 1) := by decide +kernel
theorem dX4_placeOf_86 : decode cX4_placeOf 86 = .ok (.iload_n 1, 1) := by decide +kernel
theorem dX4_placeOf_87 : decode cX4_placeOf 87 = .ok (.ireturn, 1) := by decide +kernel
theorem dX5_lineBy_0 : decode cX5_lineBy 0 = .ok (.iconst 1, 1) := by decide +kernel
theorem dX5_lineBy_1 : decode cX5_lineBy 1 = .ok (.istore_n 3, 1) := by decide +kernel
theorem dX5_lineBy_2 : decode cX5_lineBy 2 = .ok (.iconst 0, 1) := by decide +kernel
theorem dX5_lineBy_3 : decode cX5_lineBy 3 = .ok (.istore 4, 2) := by decide +kernel
theorem dX5_lineBy_5 : decode cX5_lineBy 5 = .ok (.bipush 42, 2) := by decide +kernel
theorem dX5_lineBy_7 : decode cX5_lineBy 7 = .ok (.istore 5, 2) := by decide +kernel
theorem dX5_lineBy_9 : decode cX5_lineBy 9 = .ok (.iconst 0, 1) := by decide +kernel
theorem dX5_lineBy_10 : decode cX5_lineBy 10 = .ok (.istore 6, 2) := by decide +kernel
theorem dX5_lineBy_12 : decode cX5_lineBy 12 = .ok (.iconst 0, 1) := by decide +kernel
theorem dX5_lineBy_13 : decode cX5_lineBy 13 = .ok (.istore 7, 2) := by decide +kernel
theorem dX5_lineBy_15 : decode cX5_lineBy 15 = .ok (.iload 7, 2) := by decide +kernel
theorem dX5_lineBy_17 : decode cX5_lineBy 17 = .ok (.aload_n 0, 1) := by decide +kernel
theorem dX5_lineBy_18 : decode cX5_lineBy 18 = .ok (.getfield 7, 3) := by decide +kernel
theorem dX5_lineBy_21 : decode cX5_lineBy 21 = .ok (.if_icmp .ge 140, 3) := by decide +kernel
theorem dX5_lineBy_24 : decode cX5_lineBy 24 = .ok (.aload_n 0, 1) := by decide +kernel
theorem dX5_lineBy_25 : decode cX5_lineBy 25 = .ok (.iload 7, 2) := by decide +kernel
theorem dX5_lineBy_27 : decode cX5_lineBy 27 = .ok (.invokevirtual 13, 3) := by decide +kernel
theorem dX5_lineBy_30 : decode cX5_lineBy 30 = .ok (.istore 8, 2) := by decide +kernel
theorem dX5_lineBy_32 : decode cX5_lineBy 32 = .ok (.iload 8, 2) := by decide +kernel
theorem dX5_lineBy_34 : decode cX5_lineBy 34 = .ok (.invokestatic 17, 3) := by decide +kernel
theorem dX5_lineBy_37 : decode cX5_lineBy 37 = .ok (.ifCond .eq 19, 3) := by decide +kernel
theorem dX5_lineBy_40 : decode cX5_lineBy 40 = .ok (.bipush 10, 2) := by decide +kernel
theorem dX5_lineBy_42 : decode cX5_lineBy 42 = .ok (.iload 6, 2) := by decide +kernel
theorem dX5_lineBy_44 : decode cX5_lineBy 44 = .ok (.imul, 1) := by decide +kernel
theorem dX5_lineBy_45 : decode cX5_lineBy 45 = .ok (.iload 8, 2) := by decide +kernel
theorem dX5_lineBy_47 : decode cX5_lineBy 47 = .ok (.iadd, 1) := by decide +kernel
theorem dX5_lineBy_48 : decode cX5_lineBy 48 = .ok (.bipush 48, 2) := by decide +kernel
theorem dX5_lineBy_50 : decode cX5_lineBy 50 = .ok (.isub, 1) := by decide +kernel
theorem dX5_lineBy_51 : decode cX5_lineBy 51 = .ok (.istore 6, 2) := by decide +kernel
theorem dX5_lineBy_53 : decode cX5_lineBy 53 = .ok (.goto 102, 3) := by decide +kernel
theorem dX5_lineBy_56 : decode cX5_lineBy 56 = .ok (.iload 8, 2) := by decide +kernel
theorem dX5_lineBy_58 : decode cX5_lineBy 58 = .ok (.bipush 121, 2) := by decide +kernel
theorem dX5_lineBy_60 : decode cX5_lineBy 60 = .ok (.if_icmp .eq 10, 3) := by decide +kernel
theorem dX5_lineBy_63 : decode cX5_lineBy 63 = .ok (.iload 8, 2) := by decide +kernel
theorem dX5_lineBy_65 : decode cX5_lineBy 65 = .ok (.bipush 97, 2) := by decide +kernel
theorem dX5_lineBy_67 : decode cX5_lineBy 67 = .ok (.if_icmp .ne 20, 3) := by decide +kernel
theorem dX5_lineBy_70 : decode cX5_lineBy 70 = .ok (.iload 8, 2) := by decide +kernel
theorem dX5_lineBy_72 : decode cX5_lineBy 72 = .ok (.bipush 121, 2) := by decide +kernel
theorem dX5_lineBy_74 : decode cX5_lineBy 74 = .ok (.if_icmp .ne 7, 3) := by decide +kernel
theorem dX5_lineBy_77 : decode cX5_lineBy 77 = .ok (.iload_n 1, 1) := by decide +kernel
theorem dX5_lineBy_78 : decode cX5_lineBy 78 = .ok (.goto 4, 3) := by decide +kernel
theorem dX5_lineBy_81 : decode cX5_lineBy 81 = .ok (.iload_n 2, 1) := by decide +kernel
theorem dX5_lineBy_82 : decode cX5_lineBy 82 = .ok (.istore 4, 2) := by decide +kernel
theorem dX5_lineBy_84 : decode cX5_lineBy 84 = .ok (.goto 71, 3) := by decide +kernel
theorem dX5_lineBy_87 : decode cX5_lineBy 87 = .ok (.iload 8, 2) := by decide +kernel
theorem dX5_lineBy_89 : decode cX5_lineBy 89 = .ok (.bipush 38, 2) := by decide +kernel
theorem dX5_lineBy_91 : decode cX5_lineBy 91 = .ok (.if_icmp .eq 10, 3) := by decide +kernel
theorem dX5_lineBy_94 : decode cX5_lineBy 94 = .ok (.iload 8, 2) := by decide +kernel
theorem dX5_lineBy_96 : decode cX5_lineBy 96 = .ok (.bipush 58, 2) := by decide +kernel
theorem dX5_lineBy_98 : decode cX5_lineBy 98 = .ok (.if_icmp .ne 31, 3) := by decide +kernel
theorem dX5_lineBy_101 : decode cX5_lineBy 101 = .ok (.iload_n 3, 1) := by decide +kernel
theorem dX5_lineBy_102 : decode cX5_lineBy 102 = .ok (.ifCond .eq 19, 3) := by decide +kernel
theorem dX5_lineBy_105 : decode cX5_lineBy 105 = .ok (.iload 4, 2) := by decide +kernel
theorem dX5_lineBy_107 : decode cX5_lineBy 107 = .ok (.iload 5, 2) := by decide +kernel
theorem dX5_lineBy_109 : decode cX5_lineBy 109 = .ok (.iload 6, 2) := by decide +kernel
theorem dX5_lineBy_111 : decode cX5_lineBy 111 = .ok (.invokestatic 23, 3) := by decide +kernel
theorem dX5_lineBy_114 : decode cX5_lineBy 114 = .ok (.ifCond .eq 7, 3) := by decide +kernel
theorem dX5_lineBy_117 : decode cX5_lineBy 117 = .ok (.iconst 1, 1) := by decide +kernel
theorem dX5_lineBy_118 : decode cX5_lineBy 118 = .ok (.goto 4, 3) := by decide +kernel
theorem dX5_lineBy_121 : decode cX5_lineBy 121 = .ok (.iconst 0, 1) := by decide +kernel
theorem dX5_lineBy_122 : decode cX5_lineBy 122 = .ok (.istore_n 3, 1) := by decide +kernel
theorem dX5_lineBy_123 : decode cX5_lineBy 123 = .ok (.iconst 0, 1) := by decide +kernel
theorem dX5_lineBy_124 : decode cX5_lineBy 124 = .ok (.istore 6, 2) := by decide +kernel
theorem dX5_lineBy_126 : decode cX5_lineBy 126 = .ok (.goto 29, 3) := by decide +kernel
theorem dX5_lineBy_129 : decode cX5_lineBy 129 = .ok (.iload 8, 2) := by decide +kernel
theorem dX5_lineBy_131 : decode cX5_lineBy 131 = .ok (.bipush 59, 2) := by decide +kernel
theorem dX5_lineBy_133 : decode cX5_lineBy 133 = .ok (.if_icmp .eq 10, 3) := by decide +kernel
theorem dX5_lineBy_136 : decode cX5_lineBy 136 = .ok (.iload 8, 2) := by decide +kernel
theorem dX5_lineBy_138 : decode cX5_lineBy 138 = .ok (.istore 5, 2) := by decide +kernel
theorem dX5_lineBy_140 : decode cX5_lineBy 140 = .ok (.goto 15, 3) := by decide +kernel
theorem dX5_lineBy_143 : decode cX5_lineBy 143 = .ok (.iload_n 3, 1) := by decide +kernel
theorem dX5_lineBy_144 : decode cX5_lineBy 144 = .ok (.ifCond .eq 6, 3) := by decide +kernel
theorem dX5_lineBy_147 : decode cX5_lineBy 147 = .ok (.iload 6, 2) := by decide +kernel
theorem dX5_lineBy_149 : decode cX5_lineBy 149 = .ok (.ireturn, 1) := by decide +kernel
theorem dX5_lineBy_150 : decode cX5_lineBy 150 = .ok (.iconst 1, 1) := by decide +kernel
theorem dX5_lineBy_151 : decode cX5_lineBy 151 = .ok (.istore_n 3, 1) := by decide +kernel
theorem dX5_lineBy_152 : decode cX5_lineBy 152 = .ok (.iconst 0, 1) := by decide +kernel
theorem dX5_lineBy_153 : decode cX5_lineBy 153 = .ok (.istore 6, 2) := by decide +kernel
theorem dX5_lineBy_155 : decode cX5_lineBy 155 = .ok (.iinc 7 1, 3) := by decide +kernel
theorem dX5_lineBy_158 : decode cX5_lineBy 158 = .ok (.goto (-143), 3) := by decide +kernel
theorem dX5_lineBy_161 : decode cX5_lineBy 161 = .ok (.iload_n 3, 1) := by decide +kernel
theorem dX5_lineBy_162 : decode cX5_lineBy 162 = .ok (.ifCond .eq 8, 3) := by decide +kernel
theorem dX5_lineBy_165 : decode cX5_lineBy 165 = .ok (.iload 6, 2) := by decide +kernel
theorem dX5_lineBy_167 : decode cX5_lineBy 167 = .ok (.goto 4, 3) := by decide +kernel
theorem dX5_lineBy_170 : decode cX5_lineBy 170 = .ok (.iconst 0, 1) := by decide +kernel
theorem dX5_lineBy_171 : decode cX5_lineBy 171 = .ok (.ireturn, 1) := by decide +kernel
theorem dX5_holds_0 : decode cX5_holds 0 = .ok (.iload_n 1, 1) := by decide +kernel
theorem dX5_holds_1 : decode cX5_holds 1 = .ok (.tableswitch 60 60 62 #[27, 49, 38], 27) := by decide +kernel
theorem dX5_holds_28 : decode cX5_holds 28 = .ok (.iload_n 0, 1) := by decide +kernel
theorem dX5_holds_29 : decode cX5_holds 29 = .ok (.iload_n 2, 1) := by decide +kernel
theorem dX5_holds_30 : decode cX5_holds 30 = .ok (.if_icmp .ge 7, 3) := by decide +kernel
theorem dX5_holds_33 : decode cX5_holds 33 = .ok (.iconst 1, 1) := by decide +kernel
theorem dX5_holds_34 : decode cX5_holds 34 = .ok (.goto 4, 3) := by decide +kernel
theorem dX5_holds_37 : decode cX5_holds 37 = .ok (.iconst 0, 1) := by decide +kernel
theorem dX5_holds_38 : decode cX5_holds 38 = .ok (.ireturn, 1) := by decide +kernel
theorem dX5_holds_39 : decode cX5_holds 39 = .ok (.iload_n 0, 1) := by decide +kernel
theorem dX5_holds_40 : decode cX5_holds 40 = .ok (.iload_n 2, 1) := by decide +kernel
theorem dX5_holds_41 : decode cX5_holds 41 = .ok (.if_icmp .le 7, 3) := by decide +kernel
theorem dX5_holds_44 : decode cX5_holds 44 = .ok (.iconst 1, 1) := by decide +kernel
theorem dX5_holds_45 : decode cX5_holds 45 = .ok (.goto 4, 3) := by decide +kernel
theorem dX5_holds_48 : decode cX5_holds 48 = .ok (.iconst 0, 1) := by decide +kernel
theorem dX5_holds_49 : decode cX5_holds 49 = .ok (.ireturn, 1) := by decide +kernel
theorem dX5_holds_50 : decode cX5_holds 50 = .ok (.iload_n 0, 1) := by decide +kernel
theorem dX5_holds_51 : decode cX5_holds 51 = .ok (.iload_n 2, 1) := by decide +kernel
theorem dX5_holds_52 : decode cX5_holds 52 = .ok (.if_icmp .ne 7, 3) := by decide +kernel
theorem dX5_holds_55 : decode cX5_holds 55 = .ok (.iconst 1, 1) := by decide +kernel
theorem dX5_holds_56 : decode cX5_holds 56 = .ok (.goto 4, 3) := by decide +kernel
theorem dX5_holds_59 : decode cX5_holds 59 = .ok (.iconst 0, 1) := by decide +kernel
theorem dX5_holds_60 : decode cX5_holds 60 = .ok (.ireturn, 1) := by decide +kernel
theorem dX5_holds_61 : decode cX5_holds 61 = .ok (.iconst 1, 1) := by decide +kernel
theorem dX5_holds_62 : decode cX5_holds 62 = .ok (.ireturn, 1) := by decide +kernel
theorem dX5_growthAt_0 : decode cX5_growthAt 0 = .ok (.iconst 0, 1) := by decide +kernel
theorem dX5_growthAt_1 : decode cX5_growthAt 1 = .ok (.istore_n 2, 1) := by decide +kernel
theorem dX5_growthAt_2 : decode cX5_growthAt 2 = .ok (.iconst 0, 1) := by decide +kernel
theorem dX5_growthAt_3 : decode cX5_growthAt 3 = .ok (.istore_n 3, 1) := by decide +kernel
theorem dX5_growthAt_4 : decode cX5_growthAt 4 = .ok (.iconst 0, 1) := by decide +kernel
theorem dX5_growthAt_5 : decode cX5_growthAt 5 = .ok (.istore 4, 2) := by decide +kernel
theorem dX5_growthAt_7 : decode cX5_growthAt 7 = .ok (.iload 4, 2) := by decide +kernel
theorem dX5_growthAt_9 : decode cX5_growthAt 9 = .ok (.aload_n 0, 1) := by decide +kernel
theorem dX5_growthAt_10 : decode cX5_growthAt 10 = .ok (.getfield 7, 3) := by decide +kernel
theorem dX5_growthAt_13 : decode cX5_growthAt 13 = .ok (.if_icmp .ge 62, 3) := by decide +kernel
theorem dX5_growthAt_16 : decode cX5_growthAt 16 = .ok (.aload_n 0, 1) := by decide +kernel
theorem dX5_growthAt_17 : decode cX5_growthAt 17 = .ok (.iload 4, 2) := by decide +kernel
theorem dX5_growthAt_19 : decode cX5_growthAt 19 = .ok (.invokevirtual 13, 3) := by decide +kernel
theorem dX5_growthAt_22 : decode cX5_growthAt 22 = .ok (.istore 5, 2) := by decide +kernel
theorem dX5_growthAt_24 : decode cX5_growthAt 24 = .ok (.iload 5, 2) := by decide +kernel
theorem dX5_growthAt_26 : decode cX5_growthAt 26 = .ok (.invokestatic 17, 3) := by decide +kernel
theorem dX5_growthAt_29 : decode cX5_growthAt 29 = .ok (.ifCond .eq 17, 3) := by decide +kernel
theorem dX5_growthAt_32 : decode cX5_growthAt 32 = .ok (.bipush 10, 2) := by decide +kernel
theorem dX5_growthAt_34 : decode cX5_growthAt 34 = .ok (.iload_n 3, 1) := by decide +kernel
theorem dX5_growthAt_35 : decode cX5_growthAt 35 = .ok (.imul, 1) := by decide +kernel
theorem dX5_growthAt_36 : decode cX5_growthAt 36 = .ok (.iload 5, 2) := by decide +kernel
theorem dX5_growthAt_38 : decode cX5_growthAt 38 = .ok (.iadd, 1) := by decide +kernel
theorem dX5_growthAt_39 : decode cX5_growthAt 39 = .ok (.bipush 48, 2) := by decide +kernel
theorem dX5_growthAt_41 : decode cX5_growthAt 41 = .ok (.isub, 1) := by decide +kernel
theorem dX5_growthAt_42 : decode cX5_growthAt 42 = .ok (.istore_n 3, 1) := by decide +kernel
theorem dX5_growthAt_43 : decode cX5_growthAt 43 = .ok (.goto 26, 3) := by decide +kernel
theorem dX5_growthAt_46 : decode cX5_growthAt 46 = .ok (.iload 5, 2) := by decide +kernel
theorem dX5_growthAt_48 : decode cX5_growthAt 48 = .ok (.bipush 58, 2) := by decide +kernel
theorem dX5_growthAt_50 : decode cX5_growthAt 50 = .ok (.if_icmp .ne 10, 3) := by decide +kernel
theorem dX5_growthAt_53 : decode cX5_growthAt 53 = .ok (.iload_n 3, 1) := by decide +kernel
theorem dX5_growthAt_54 : decode cX5_growthAt 54 = .ok (.istore_n 2, 1) := by decide +kernel
theorem dX5_growthAt_55 : decode cX5_growthAt 55 = .ok (.iconst 0, 1) := by decide +kernel
theorem dX5_growthAt_56 : decode cX5_growthAt 56 = .ok (.istore_n 3, 1) := by decide +kernel
theorem dX5_growthAt_57 : decode cX5_growthAt 57 = .ok (.goto 12, 3) := by decide +kernel
theorem dX5_growthAt_60 : decode cX5_growthAt 60 = .ok (.iload_n 2, 1) := by decide +kernel
theorem dX5_growthAt_61 : decode cX5_growthAt 61 = .ok (.iload_n 1, 1) := by decide +kernel
theorem dX5_growthAt_62 : decode cX5_growthAt 62 = .ok (.if_icmp .ne 5, 3) := by decide +kernel
theorem dX5_growthAt_65 : decode cX5_growthAt 65 = .ok (.iload_n 3, 1) := by decide +kernel
theorem dX5_growthAt_66 : decode cX5_growthAt 66 = .ok (.ireturn, 1) := by decide +kernel
theorem dX5_growthAt_67 : decode cX5_growthAt 67 = .ok (.iconst 0, 1) := by decide +kernel
theorem dX5_growthAt_68 : decode cX5_growthAt 68 = .ok (.istore_n 3, 1) := by decide +kernel
theorem dX5_growthAt_69 : decode cX5_growthAt 69 = .ok (.iinc 4 1, 3) := by decide +kernel
theorem dX5_growthAt_72 : decode cX5_growthAt 72 = .ok (.goto (-65), 3) := by decide +kernel
theorem dX5_growthAt_75 : decode cX5_growthAt 75 = .ok (.iload_n 2, 1) := by decide +kernel
theorem dX5_growthAt_76 : decode cX5_growthAt 76 = .ok (.iload_n 1, 1) := by decide +kernel
theorem dX5_growthAt_77 : decode cX5_growthAt 77 = .ok (.if_icmp .ne 7, 3) := by decide +kernel
theorem dX5_growthAt_80 : decode cX5_growthAt 80 = .ok (.iload_n 3, 1) := by decide +kernel
theorem dX5_growthAt_81 : decode cX5_growthAt 81 = .ok (.goto 4, 3) := by decide +kernel
theorem dX5_growthAt_84 : decode cX5_growthAt 84 = .ok (.iconst 0, 1) := by decide +kernel
theorem dX5_growthAt_85 : decode cX5_growthAt 85 = .ok (.ireturn, 1) := by decide +kernel
theorem dX6_init_0 : decode cX6_init 0 = .ok (.aload_n 0, 1) := by decide +kernel
theorem dX6_init_1 : decode cX6_init 1 = .ok (.invokespecial 3, 3) := by decide +kernel
theorem dX6_init_4 : decode cX6_init 4 = .ok (.aload_n 0, 1) := by decide +kernel
theorem dX6_init_5 : decode cX6_init 5 = .ok (.aload_n 1, 1) := by decide +kernel
theorem dX6_init_6 : decode cX6_init 6 = .ok (.iload_n 2, 1) := by decide +kernel
theorem dX6_init_7 : decode cX6_init 7 = .ok (.iload 4, 2) := by decide +kernel
theorem dX6_init_9 : decode cX6_init 9 = .ok (.iload 5, 2) := by decide +kernel
theorem dX6_init_11 : decode cX6_init 11 = .ok (.invokevirtual 9, 3) := by decide +kernel
theorem dX6_init_14 : decode cX6_init 14 = .ok (.putfield 15, 3) := by decide +kernel
theorem dX6_init_17 : decode cX6_init 17 = .ok (.aload_n 0, 1) := by decide +kernel
theorem dX6_init_18 : decode cX6_init 18 = .ok (.aload_n 1, 1) := by decide +kernel
theorem dX6_init_19 : decode cX6_init 19 = .ok (.iload_n 2, 1) := by decide +kernel
theorem dX6_init_20 : decode cX6_init 20 = .ok (.iload 4, 2) := by decide +kernel
theorem dX6_init_22 : decode cX6_init 22 = .ok (.iload 5, 2) := by decide +kernel
theorem dX6_init_24 : decode cX6_init 24 = .ok (.invokevirtual 21, 3) := by decide +kernel
theorem dX6_init_27 : decode cX6_init 27 = .ok (.putfield 24, 3) := by decide +kernel
theorem dX6_init_30 : decode cX6_init 30 = .ok (.aload_n 0, 1) := by decide +kernel
theorem dX6_init_31 : decode cX6_init 31 = .ok (.aload_n 1, 1) := by decide +kernel
theorem dX6_init_32 : decode cX6_init 32 = .ok (.iload_n 3, 1) := by decide +kernel
theorem dX6_init_33 : decode cX6_init 33 = .ok (.iload 4, 2) := by decide +kernel
theorem dX6_init_35 : decode cX6_init 35 = .ok (.iload 5, 2) := by decide +kernel
theorem dX6_init_37 : decode cX6_init 37 = .ok (.invokevirtual 9, 3) := by decide +kernel
theorem dX6_init_40 : decode cX6_init 40 = .ok (.putfield 27, 3) := by decide +kernel
theorem dX6_init_43 : decode cX6_init 43 = .ok (.aload_n 0, 1) := by decide +kernel
theorem dX6_init_44 : decode cX6_init 44 = .ok (.aload_n 1, 1) := by decide +kernel
theorem dX6_init_45 : decode cX6_init 45 = .ok (.iload_n 3, 1) := by decide +kernel
theorem dX6_init_46 : decode cX6_init 46 = .ok (.iload 4, 2) := by decide +kernel
theorem dX6_init_48 : decode cX6_init 48 = .ok (.iload 5, 2) := by decide +kernel
theorem dX6_init_50 : decode cX6_init 50 = .ok (.invokevirtual 21, 3) := by decide +kernel
theorem dX6_init_53 : decode cX6_init 53 = .ok (.putfield 30, 3) := by decide +kernel
theorem dX6_init_56 : decode cX6_init 56 = .ok (.return_, 1) := by decide +kernel
theorem dX6_sum_0 : decode cX6_sum 0 = .ok (.iload_n 1, 1) := by decide +kernel
theorem dX6_sum_1 : decode cX6_sum 1 = .ok (.i2l, 1) := by decide +kernel
theorem dX6_sum_2 : decode cX6_sum 2 = .ok (.aload_n 0, 1) := by decide +kernel
theorem dX6_sum_3 : decode cX6_sum 3 = .ok (.getfield 15, 3) := by decide +kernel
theorem dX6_sum_6 : decode cX6_sum 6 = .ok (.lmul, 1) := by decide +kernel
theorem dX6_sum_7 : decode cX6_sum 7 = .ok (.bipush 100, 2) := by decide +kernel
theorem dX6_sum_9 : decode cX6_sum 9 = .ok (.iload_n 1, 1) := by decide +kernel
theorem dX6_sum_10 : decode cX6_sum 10 = .ok (.isub, 1) := by decide +kernel
theorem dX6_sum_11 : decode cX6_sum 11 = .ok (.i2l, 1) := by decide +kernel
theorem dX6_sum_12 : decode cX6_sum 12 = .ok (.aload_n 0, 1) := by decide +kernel
theorem dX6_sum_13 : decode cX6_sum 13 = .ok (.getfield 27, 3) := by decide +kernel
theorem dX6_sum_16 : decode cX6_sum 16 = .ok (.lmul, 1) := by decide +kernel
theorem dX6_sum_17 : decode cX6_sum 17 = .ok (.ladd, 1) := by decide +kernel
theorem dX6_sum_18 : decode cX6_sum 18 = .ok (.lreturn, 1) := by decide +kernel
theorem dX6_count_0 : decode cX6_count 0 = .ok (.iload_n 1, 1) := by decide +kernel
theorem dX6_count_1 : decode cX6_count 1 = .ok (.i2l, 1) := by decide +kernel
theorem dX6_count_2 : decode cX6_count 2 = .ok (.aload_n 0, 1) := by decide +kernel
theorem dX6_count_3 : decode cX6_count 3 = .ok (.getfield 24, 3) := by decide +kernel
theorem dX6_count_6 : decode cX6_count 6 = .ok (.lmul, 1) := by decide +kernel
theorem dX6_count_7 : decode cX6_count 7 = .ok (.bipush 100, 2) := by decide +kernel
theorem dX6_count_9 : decode cX6_count 9 = .ok (.iload_n 1, 1) := by decide +kernel
theorem dX6_count_10 : decode cX6_count 10 = .ok (.isub, 1) := by decide +kernel
theorem dX6_count_11 : decode cX6_count 11 = .ok (.i2l, 1) := by decide +kernel
theorem dX6_count_12 : decode cX6_count 12 = .ok (.aload_n 0, 1) := by decide +kernel
theorem dX6_count_13 : decode cX6_count 13 = .ok (.getfield 30, 3) := by decide +kernel
theorem dX6_count_16 : decode cX6_count 16 = .ok (.lmul, 1) := by decide +kernel
theorem dX6_count_17 : decode cX6_count 17 = .ok (.ladd, 1) := by decide +kernel
theorem dX6_count_18 : decode cX6_count 18 = .ok (.lreturn, 1) := by decide +kernel
theorem dX6_lack_0 : decode cX6_lack 0 = .ok (.aload_n 0, 1) := by decide +kernel
theorem dX6_lack_1 : decode cX6_lack 1 = .ok (.iload_n 1, 1) := by decide +kernel
theorem dX6_lack_2 : decode cX6_lack 2 = .ok (.invokevirtual 33, 3) := by decide +kernel
theorem dX6_lack_5 : decode cX6_lack 5 = .ok (.lconst 0, 1) := by decide +kernel
theorem dX6_lack_6 : decode cX6_lack 6 = .ok (.lcmp, 1) := by decide +kernel
theorem dX6_lack_7 : decode cX6_lack 7 = .ok (.ifCond .ne 7, 3) := by decide +kernel
theorem dX6_lack_10 : decode cX6_lack 10 = .ok (.iconst 1, 1) := by decide +kernel
theorem dX6_lack_11 : decode cX6_lack 11 = .ok (.goto 4, 3) := by decide +kernel
theorem dX6_lack_14 : decode cX6_lack 14 = .ok (.iconst 0, 1) := by decide +kernel
theorem dX6_lack_15 : decode cX6_lack 15 = .ok (.ireturn, 1) := by decide +kernel
theorem dX6_gap_0 : decode cX6_gap 0 = .ok (.aload_n 0, 1) := by decide +kernel
theorem dX6_gap_1 : decode cX6_gap 1 = .ok (.iload_n 1, 1) := by decide +kernel
theorem dX6_gap_2 : decode cX6_gap 2 = .ok (.invokevirtual 37, 3) := by decide +kernel
theorem dX6_gap_5 : decode cX6_gap 5 = .ok (.aload_n 0, 1) := by decide +kernel
theorem dX6_gap_6 : decode cX6_gap 6 = .ok (.iload_n 2, 1) := by decide +kernel
theorem dX6_gap_7 : decode cX6_gap 7 = .ok (.invokevirtual 33, 3) := by decide +kernel
theorem dX6_gap_10 : decode cX6_gap 10 = .ok (.lmul, 1) := by decide +kernel
theorem dX6_gap_11 : decode cX6_gap 11 = .ok (.aload_n 0, 1) := by decide +kernel
theorem dX6_gap_12 : decode cX6_gap 12 = .ok (.iload_n 2, 1) := by decide +kernel
theorem dX6_gap_13 : decode cX6_gap 13 = .ok (.invokevirtual 37, 3) := by decide +kernel
theorem dX6_gap_16 : decode cX6_gap 16 = .ok (.aload_n 0, 1) := by decide +kernel
theorem dX6_gap_17 : decode cX6_gap 17 = .ok (.iload_n 1, 1) := by decide +kernel
theorem dX6_gap_18 : decode cX6_gap 18 = .ok (.invokevirtual 33, 3) := by decide +kernel
theorem dX6_gap_21 : decode cX6_gap 21 = .ok (.lmul, 1) := by decide +kernel
theorem dX6_gap_22 : decode cX6_gap 22 = .ok (.lsub, 1) := by decide +kernel
theorem dX6_gap_23 : decode cX6_gap 23 = .ok (.lreturn, 1) := by decide +kernel
theorem dX6_lesser_0 : decode cX6_lesser 0 = .ok (.aload_n 0, 1) := by decide +kernel
theorem dX6_lesser_1 : decode cX6_lesser 1 = .ok (.iload_n 1, 1) := by decide +kernel
theorem dX6_lesser_2 : decode cX6_lesser 2 = .ok (.iload_n 2, 1) := by decide +kernel
theorem dX6_lesser_3 : decode cX6_lesser 3 = .ok (.invokevirtual 40, 3) := by decide +kernel
theorem dX6_lesser_6 : decode cX6_lesser 6 = .ok (.lconst 0, 1) := by decide +kernel
theorem dX6_lesser_7 : decode cX6_lesser 7 = .ok (.lcmp, 1) := by decide +kernel
theorem dX6_lesser_8 : decode cX6_lesser 8 = .ok (.ifCond .gt 7, 3) := by decide +kernel
theorem dX6_lesser_11 : decode cX6_lesser 11 = .ok (.iload_n 1, 1) := by decide +kernel
theorem dX6_lesser_12 : decode cX6_lesser 12 = .ok (.goto 4, 3) := by decide +kernel
theorem dX6_lesser_15 : decode cX6_lesser 15 = .ok (.iload_n 2, 1) := by decide +kernel
theorem dX6_lesser_16 : decode cX6_lesser 16 = .ok (.ireturn, 1) := by decide +kernel
theorem dX6_greater_0 : decode cX6_greater 0 = .ok (.aload_n 0, 1) := by decide +kernel
theorem dX6_greater_1 : decode cX6_greater 1 = .ok (.iload_n 1, 1) := by decide +kernel
theorem dX6_greater_2 : decode cX6_greater 2 = .ok (.iload_n 2, 1) := by decide +kernel
theorem dX6_greater_3 : decode cX6_greater 3 = .ok (.invokevirtual 40, 3) := by decide +kernel
theorem dX6_greater_6 : decode cX6_greater 6 = .ok (.lconst 0, 1) := by decide +kernel
theorem dX6_greater_7 : decode cX6_greater 7 = .ok (.lcmp, 1) := by decide +kernel
theorem dX6_greater_8 : decode cX6_greater 8 = .ok (.ifCond .lt 7, 3) := by decide +kernel
theorem dX6_greater_11 : decode cX6_greater 11 = .ok (.iload_n 1, 1) := by decide +kernel
theorem dX6_greater_12 : decode cX6_greater 12 = .ok (.goto 4, 3) := by decide +kernel
theorem dX6_greater_15 : decode cX6_greater 15 = .ok (.iload_n 2, 1) := by decide +kernel
theorem dX6_greater_16 : decode cX6_greater 16 = .ok (.ireturn, 1) := by decide +kernel
theorem dX7_init_0 : decode cX7_init 0 = .ok (.aload_n 0, 1) := by decide +kernel
theorem dX7_init_1 : decode cX7_init 1 = .ok (.invokespecial 3, 3) := by decide +kernel
theorem dX7_init_4 : decode cX7_init 4 = .ok (.aload_n 0, 1) := by decide +kernel
theorem dX7_init_5 : decode cX7_init 5 = .ok (.bipush 60, 2) := by decide +kernel
theorem dX7_init_7 : decode cX7_init 7 = .ok (.newarray .int, 2) := by decide +kernel
theorem dX7_init_9 : decode cX7_init 9 = .ok (.putfield 9, 3) := by decide +kernel
theorem dX7_init_12 : decode cX7_init 12 = .ok (.return_, 1) := by decide +kernel
theorem dX7_add_0 : decode cX7_add 0 = .ok (.aload_n 0, 1) := by decide +kernel
theorem dX7_add_1 : decode cX7_add 1 = .ok (.getfield 15, 3) := by decide +kernel
theorem dX7_add_4 : decode cX7_add 4 = .ok (.ifCond .lt 15, 3) := by decide +kernel
theorem dX7_add_7 : decode cX7_add 7 = .ok (.aload_n 0, 1) := by decide +kernel
theorem dX7_add_8 : decode cX7_add 8 = .ok (.getfield 15, 3) := by decide +kernel
theorem dX7_add_11 : decode cX7_add 11 = .ok (.aload_n 0, 1) := by decide +kernel
theorem dX7_add_12 : decode cX7_add 12 = .ok (.getfield 9, 3) := by decide +kernel
theorem dX7_add_15 : decode cX7_add 15 = .ok (.arraylength, 1) := by decide +kernel
theorem dX7_add_16 : decode cX7_add 16 = .ok (.if_icmp .lt 5, 3) := by decide +kernel
theorem dX7_add_19 : decode cX7_add 19 = .ok (.iconst 0, 1) := by decide +kernel
theorem dX7_add_20 : decode cX7_add 20 = .ok (.ireturn, 1) := by decide +kernel
theorem dX7_add_21 : decode cX7_add 21 = .ok (.aload_n 0, 1) := by decide +kernel
theorem dX7_add_22 : decode cX7_add 22 = .ok (.getfield 9, 3) := by decide +kernel
theorem dX7_add_25 : decode cX7_add 25 = .ok (.aload_n 0, 1) := by decide +kernel
theorem dX7_add_26 : decode cX7_add 26 = .ok (.getfield 15, 3) := by decide +kernel
theorem dX7_add_29 : decode cX7_add 29 = .ok (.iload_n 1, 1) := by decide +kernel
theorem dX7_add_30 : decode cX7_add 30 = .ok (.iastore, 1) := by decide +kernel
theorem dX7_add_31 : decode cX7_add 31 = .ok (.aload_n 0, 1) := by decide +kernel
theorem dX7_add_32 : decode cX7_add 32 = .ok (.dup, 1) := by decide +kernel
theorem dX7_add_33 : decode cX7_add 33 = .ok (.getfield 15, 3) := by decide +kernel
theorem dX7_add_36 : decode cX7_add 36 = .ok (.iconst 1, 1) := by decide +kernel
theorem dX7_add_37 : decode cX7_add 37 = .ok (.iadd, 1) := by decide +kernel
theorem dX7_add_38 : decode cX7_add 38 = .ok (.putfield 15, 3) := by decide +kernel
theorem dX7_add_41 : decode cX7_add 41 = .ok (.iconst 1, 1) := by decide +kernel
theorem dX7_add_42 : decode cX7_add 42 = .ok (.ireturn, 1) := by decide +kernel
theorem dX7_clear_0 : decode cX7_clear 0 = .ok (.aload_n 0, 1) := by decide +kernel
theorem dX7_clear_1 : decode cX7_clear 1 = .ok (.iconst 0, 1) := by decide +kernel
theorem dX7_clear_2 : decode cX7_clear 2 = .ok (.putfield 15, 3) := by decide +kernel
theorem dX7_clear_5 : decode cX7_clear 5 = .ok (.return_, 1) := by decide +kernel
theorem dX7_signAt_0 : decode cX7_signAt 0 = .ok (.iload_n 1, 1) := by decide +kernel
theorem dX7_signAt_1 : decode cX7_signAt 1 = .ok (.ifCond .lt 12, 3) := by decide +kernel
theorem dX7_signAt_4 : decode cX7_signAt 4 = .ok (.iload_n 1, 1) := by decide +kernel
theorem dX7_signAt_5 : decode cX7_signAt 5 = .ok (.aload_n 0, 1) := by decide +kernel
theorem dX7_signAt_6 : decode cX7_signAt 6 = .ok (.getfield 9, 3) := by decide +kernel
theorem dX7_signAt_9 : decode cX7_signAt 9 = .ok (.arraylength, 1) := by decide +kernel
theorem dX7_signAt_10 : decode cX7_signAt 10 = .ok (.if_icmp .lt 7, 3) := by decide +kernel
theorem dX7_signAt_13 : decode cX7_signAt 13 = .ok (.iconst 0, 1) := by decide +kernel
theorem dX7_signAt_14 : decode cX7_signAt 14 = .ok (.goto 9, 3) := by decide +kernel
theorem dX7_signAt_17 : decode cX7_signAt 17 = .ok (.aload_n 0, 1) := by decide +kernel
theorem dX7_signAt_18 : decode cX7_signAt 18 = .ok (.getfield 9, 3) := by decide +kernel
theorem dX7_signAt_21 : decode cX7_signAt 21 = .ok (.iload_n 1, 1) := by decide +kernel
theorem dX7_signAt_22 : decode cX7_signAt 22 = .ok (.iaload, 1) := by decide +kernel
theorem dX7_signAt_23 : decode cX7_signAt 23 = .ok (.ireturn, 1) := by decide +kernel
theorem dX7_copyFrom_0 : decode cX7_copyFrom 0 = .ok (.aload_n 1, 1) := by decide +kernel
theorem dX7_copyFrom_1 : decode cX7_copyFrom 1 = .ok (.getfield 9, 3) := by decide +kernel
theorem dX7_copyFrom_4 : decode cX7_copyFrom 4 = .ok (.iconst 0, 1) := by decide +kernel
theorem dX7_copyFrom_5 : decode cX7_copyFrom 5 = .ok (.aload_n 0, 1) := by decide +kernel
theorem dX7_copyFrom_6 : decode cX7_copyFrom 6 = .ok (.getfield 9, 3) := by decide +kernel
theorem dX7_copyFrom_9 : decode cX7_copyFrom 9 = .ok (.iconst 0, 1) := by decide +kernel
theorem dX7_copyFrom_10 : decode cX7_copyFrom 10 = .ok (.aload_n 0, 1) := by decide +kernel
theorem dX7_copyFrom_11 : decode cX7_copyFrom 11 = .ok (.getfield 9, 3) := by decide +kernel
theorem dX7_copyFrom_14 : decode cX7_copyFrom 14 = .ok (.arraylength, 1) := by decide +kernel
theorem dX7_copyFrom_15 : decode cX7_copyFrom 15 = .ok (.invokestatic 19, 3) := by decide +kernel
theorem dX7_copyFrom_18 : decode cX7_copyFrom 18 = .ok (.aload_n 0, 1) := by decide +kernel
theorem dX7_copyFrom_19 : decode cX7_copyFrom 19 = .ok (.aload_n 1, 1) := by decide +kernel
theorem dX7_copyFrom_20 : decode cX7_copyFrom 20 = .ok (.getfield 15, 3) := by decide +kernel
theorem dX7_copyFrom_23 : decode cX7_copyFrom 23 = .ok (.putfield 15, 3) := by decide +kernel
theorem dX7_copyFrom_26 : decode cX7_copyFrom 26 = .ok (.return_, 1) := by decide +kernel
theorem dX7_pieces_0 : decode cX7_pieces 0 = .ok (.aload_n 0, 1) := by decide +kernel
theorem dX7_pieces_1 : decode cX7_pieces 1 = .ok (.getfield 15, 3) := by decide +kernel
theorem dX7_pieces_4 : decode cX7_pieces 4 = .ok (.ifCond .ne 7, 3) := by decide +kernel
theorem dX7_pieces_7 : decode cX7_pieces 7 = .ok (.iconst 0, 1) := by decide +kernel
theorem dX7_pieces_8 : decode cX7_pieces 8 = .ok (.goto 4, 3) := by decide +kernel
theorem dX7_pieces_11 : decode cX7_pieces 11 = .ok (.iconst 1, 1) := by decide +kernel
theorem dX7_pieces_12 : decode cX7_pieces 12 = .ok (.istore_n 1, 1) := by decide +kernel
theorem dX7_pieces_13 : decode cX7_pieces 13 = .ok (.iconst 0, 1) := by decide +kernel
theorem dX7_pieces_14 : decode cX7_pieces 14 = .ok (.istore_n 2, 1) := by decide +kernel
theorem dX7_pieces_15 : decode cX7_pieces 15 = .ok (.iload_n 2, 1) := by decide +kernel
theorem dX7_pieces_16 : decode cX7_pieces 16 = .ok (.aload_n 0, 1) := by decide +kernel
theorem dX7_pieces_17 : decode cX7_pieces 17 = .ok (.getfield 15, 3) := by decide +kernel
theorem dX7_pieces_20 : decode cX7_pieces 20 = .ok (.if_icmp .ge 27, 3) := by decide +kernel
theorem dX7_pieces_23 : decode cX7_pieces 23 = .ok (.iload_n 1, 1) := by decide +kernel
theorem dX7_pieces_24 : decode cX7_pieces 24 = .ok (.aload_n 0, 1) := by decide +kernel
theorem dX7_pieces_25 : decode cX7_pieces 25 = .ok (.iload_n 2, 1) := by decide +kernel
theorem dX7_pieces_26 : decode cX7_pieces 26 = .ok (.invokevirtual 25, 3) := by decide +kernel
theorem dX7_pieces_29 : decode cX7_pieces 29 = .ok (.bipush 59, 2) := by decide +kernel
theorem dX7_pieces_31 : decode cX7_pieces 31 = .ok (.if_icmp .ne 7, 3) := by decide +kernel
theorem dX7_pieces_34 : decode cX7_pieces 34 = .ok (.iconst 1, 1) := by decide +kernel
theorem dX7_pieces_35 : decode cX7_pieces 35 = .ok (.goto 4, 3) := by decide +kernel
theorem dX7_pieces_38 : decode cX7_pieces 38 = .ok (.iconst 0, 1) := by decide +kernel
theorem dX7_pieces_39 : decode cX7_pieces 39 = .ok (.iadd, 1) := by decide +kernel
theorem dX7_pieces_40 : decode cX7_pieces 40 = .ok (.istore_n 1, 1) := by decide +kernel
theorem dX7_pieces_41 : decode cX7_pieces 41 = .ok (.iinc 2 1, 3) := by decide +kernel
theorem dX7_pieces_44 : decode cX7_pieces 44 = .ok (.goto (-29), 3) := by decide +kernel
theorem dX7_pieces_47 : decode cX7_pieces 47 = .ok (.iload_n 1, 1) := by decide +kernel
theorem dX7_pieces_48 : decode cX7_pieces 48 = .ok (.ireturn, 1) := by decide +kernel
theorem dX8_init_0 : decode cX8_init 0 = .ok (.aload_n 0, 1) := by decide +kernel
theorem dX8_init_1 : decode cX8_init 1 = .ok (.invokespecial 3, 3) := by decide +kernel
theorem dX8_init_4 : decode cX8_init 4 = .ok (.aload_n 0, 1) := by decide +kernel
theorem dX8_init_5 : decode cX8_init 5 = .ok (.bipush 64, 2) := by decide +kernel
theorem dX8_init_7 : decode cX8_init 7 = .ok (.newarray .long, 2) := by decide +kernel
theorem dX8_init_9 : decode cX8_init 9 = .ok (.putfield 9, 3) := by decide +kernel
theorem dX8_init_12 : decode cX8_init 12 = .ok (.aload_n 0, 1) := by decide +kernel
theorem dX8_init_13 : decode cX8_init 13 = .ok (.aload_n 1, 1) := by decide +kernel
theorem dX8_init_14 : decode cX8_init 14 = .ok (.putfield 15, 3) := by decide +kernel
theorem dX8_init_17 : decode cX8_init 17 = .ok (.return_, 1) := by decide +kernel
theorem dX8_misfitOf_0 : decode cX8_misfitOf 0 = .ok (.iconst 0, 1) := by decide +kernel
theorem dX8_misfitOf_1 : decode cX8_misfitOf 1 = .ok (.iload_n 2, 1) := by decide +kernel
theorem dX8_misfitOf_2 : decode cX8_misfitOf 2 = .ok (.iload_n 3, 1) := by decide +kernel
theorem dX8_misfitOf_3 : decode cX8_misfitOf 3 = .ok (.isub, 1) := by decide +kernel
theorem dX8_misfitOf_4 : decode cX8_misfitOf 4 = .ok (.invokestatic 19, 3) := by decide +kernel
end
section
theorem dX8_misfitOf_7 : decode cX8_misfitOf 7 = .ok (.istore 6, 2) := by decide +kernel
theorem dX8_misfitOf_9 : decode cX8_misfitOf 9 = .ok (.aload_n 0, 1) := by decide +kernel
theorem dX8_misfitOf_10 : decode cX8_misfitOf 10 = .ok (.getfield 9, 3) := by decide +kernel
theorem dX8_misfitOf_13 : decode cX8_misfitOf 13 = .ok (.arraylength, 1) := by decide +kernel
theorem dX8_misfitOf_14 : decode cX8_misfitOf 14 = .ok (.iconst 1, 1) := by decide +kernel
theorem dX8_misfitOf_15 : decode cX8_misfitOf 15 = .ok (.isub, 1) := by decide +kernel
theorem dX8_misfitOf_16 : decode cX8_misfitOf 16 = .ok (.iload_n 2, 1) := by decide +kernel
theorem dX8_misfitOf_17 : decode cX8_misfitOf 17 = .ok (.iload_n 3, 1) := by decide +kernel
theorem dX8_misfitOf_18 : decode cX8_misfitOf 18 = .ok (.iadd, 1) := by decide +kernel
theorem dX8_misfitOf_19 : decode cX8_misfitOf 19 = .ok (.invokestatic 25, 3) := by decide +kernel
theorem dX8_misfitOf_22 : decode cX8_misfitOf 22 = .ok (.istore 7, 2) := by decide +kernel
theorem dX8_misfitOf_24 : decode cX8_misfitOf 24 = .ok (.lconst 0, 1) := by decide +kernel
theorem dX8_misfitOf_25 : decode cX8_misfitOf 25 = .ok (.lstore 8, 2) := by decide +kernel
theorem dX8_misfitOf_27 : decode cX8_misfitOf 27 = .ok (.iload 6, 2) := by decide +kernel
theorem dX8_misfitOf_29 : decode cX8_misfitOf 29 = .ok (.istore 10, 2) := by decide +kernel
theorem dX8_misfitOf_31 : decode cX8_misfitOf 31 = .ok (.iload 10, 2) := by decide +kernel
theorem dX8_misfitOf_33 : decode cX8_misfitOf 33 = .ok (.iload 7, 2) := by decide +kernel
theorem dX8_misfitOf_35 : decode cX8_misfitOf 35 = .ok (.if_icmp .gt 56, 3) := by decide +kernel
theorem dX8_misfitOf_38 : decode cX8_misfitOf 38 = .ok (.aload_n 0, 1) := by decide +kernel
theorem dX8_misfitOf_39 : decode cX8_misfitOf 39 = .ok (.getfield 9, 3) := by decide +kernel
theorem dX8_misfitOf_42 : decode cX8_misfitOf 42 = .ok (.iload 10, 2) := by decide +kernel
theorem dX8_misfitOf_44 : decode cX8_misfitOf 44 = .ok (.aload_n 0, 1) := by decide +kernel
theorem dX8_misfitOf_45 : decode cX8_misfitOf 45 = .ok (.getfield 15, 3) := by decide +kernel
theorem dX8_misfitOf_48 : decode cX8_misfitOf 48 = .ok (.iload_n 2, 1) := by decide +kernel
theorem dX8_misfitOf_49 : decode cX8_misfitOf 49 = .ok (.iload_n 3, 1) := by decide +kernel
theorem dX8_misfitOf_50 : decode cX8_misfitOf 50 = .ok (.iload 10, 2) := by decide +kernel
theorem dX8_misfitOf_52 : decode cX8_misfitOf 52 = .ok (.invokevirtual 28, 3) := by decide +kernel
theorem dX8_misfitOf_55 : decode cX8_misfitOf 55 = .ok (.i2l, 1) := by decide +kernel
theorem dX8_misfitOf_56 : decode cX8_misfitOf 56 = .ok (.iload 10, 2) := by decide +kernel
theorem dX8_misfitOf_58 : decode cX8_misfitOf 58 = .ok (.iload 4, 2) := by decide +kernel
theorem dX8_misfitOf_60 : decode cX8_misfitOf 60 = .ok (.if_icmp .lt 8, 3) := by decide +kernel
theorem dX8_misfitOf_63 : decode cX8_misfitOf 63 = .ok (.bipush 10, 2) := by decide +kernel
theorem dX8_misfitOf_65 : decode cX8_misfitOf 65 = .ok (.goto 5, 3) := by decide +kernel
theorem dX8_misfitOf_68 : decode cX8_misfitOf 68 = .ok (.iload 5, 2) := by decide +kernel
theorem dX8_misfitOf_70 : decode cX8_misfitOf 70 = .ok (.i2l, 1) := by decide +kernel
theorem dX8_misfitOf_71 : decode cX8_misfitOf 71 = .ok (.lmul, 1) := by decide +kernel
theorem dX8_misfitOf_72 : decode cX8_misfitOf 72 = .ok (.lastore, 1) := by decide +kernel
theorem dX8_misfitOf_73 : decode cX8_misfitOf 73 = .ok (.lload 8, 2) := by decide +kernel
theorem dX8_misfitOf_75 : decode cX8_misfitOf 75 = .ok (.aload_n 0, 1) := by decide +kernel
theorem dX8_misfitOf_76 : decode cX8_misfitOf 76 = .ok (.getfield 9, 3) := by decide +kernel
theorem dX8_misfitOf_79 : decode cX8_misfitOf 79 = .ok (.iload 10, 2) := by decide +kernel
theorem dX8_misfitOf_81 : decode cX8_misfitOf 81 = .ok (.laload, 1) := by decide +kernel
theorem dX8_misfitOf_82 : decode cX8_misfitOf 82 = .ok (.ladd, 1) := by decide +kernel
theorem dX8_misfitOf_83 : decode cX8_misfitOf 83 = .ok (.lstore 8, 2) := by decide +kernel
theorem dX8_misfitOf_85 : decode cX8_misfitOf 85 = .ok (.iinc 10 1, 3) := by decide +kernel
theorem dX8_misfitOf_88 : decode cX8_misfitOf 88 = .ok (.goto (-57), 3) := by decide +kernel
theorem dX8_misfitOf_91 : decode cX8_misfitOf 91 = .ok (.lload 8, 2) := by decide +kernel
theorem dX8_misfitOf_93 : decode cX8_misfitOf 93 = .ok (.lconst 0, 1) := by decide +kernel
theorem dX8_misfitOf_94 : decode cX8_misfitOf 94 = .ok (.lcmp, 1) := by decide +kernel
theorem dX8_misfitOf_95 : decode cX8_misfitOf 95 = .ok (.ifCond .gt 6, 3) := by decide +kernel
theorem dX8_misfitOf_98 : decode cX8_misfitOf 98 = .ok (.bipush (-5), 2) := by decide +kernel
theorem dX8_misfitOf_100 : decode cX8_misfitOf 100 = .ok (.ireturn, 1) := by decide +kernel
theorem dX8_misfitOf_101 : decode cX8_misfitOf 101 = .ok (.aload_n 1, 1) := by decide +kernel
theorem dX8_misfitOf_102 : decode cX8_misfitOf 102 = .ok (.getfield 34, 3) := by decide +kernel
theorem dX8_misfitOf_105 : decode cX8_misfitOf 105 = .ok (.i2l, 1) := by decide +kernel
theorem dX8_misfitOf_106 : decode cX8_misfitOf 106 = .ok (.lstore 10, 2) := by decide +kernel
theorem dX8_misfitOf_108 : decode cX8_misfitOf 108 = .ok (.iload 6, 2) := by decide +kernel
theorem dX8_misfitOf_110 : decode cX8_misfitOf 110 = .ok (.istore 12, 2) := by decide +kernel
theorem dX8_misfitOf_112 : decode cX8_misfitOf 112 = .ok (.iload 12, 2) := by decide +kernel
theorem dX8_misfitOf_114 : decode cX8_misfitOf 114 = .ok (.iload 7, 2) := by decide +kernel
theorem dX8_misfitOf_116 : decode cX8_misfitOf 116 = .ok (.if_icmp .gt 49, 3) := by decide +kernel
theorem dX8_misfitOf_119 : decode cX8_misfitOf 119 = .ok (.aload_n 1, 1) := by decide +kernel
theorem dX8_misfitOf_120 : decode cX8_misfitOf 120 = .ok (.iload 12, 2) := by decide +kernel
theorem dX8_misfitOf_122 : decode cX8_misfitOf 122 = .ok (.invokevirtual 40, 3) := by decide +kernel
theorem dX8_misfitOf_125 : decode cX8_misfitOf 125 = .ok (.istore 13, 2) := by decide +kernel
theorem dX8_misfitOf_127 : decode cX8_misfitOf 127 = .ok (.lload 10, 2) := by decide +kernel
theorem dX8_misfitOf_129 : decode cX8_misfitOf 129 = .ok (.iload 13, 2) := by decide +kernel
theorem dX8_misfitOf_131 : decode cX8_misfitOf 131 = .ok (.i2l, 1) := by decide +kernel
theorem dX8_misfitOf_132 : decode cX8_misfitOf 132 = .ok (.aload_n 1, 1) := by decide +kernel
theorem dX8_misfitOf_133 : decode cX8_misfitOf 133 = .ok (.getfield 34, 3) := by decide +kernel
theorem dX8_misfitOf_136 : decode cX8_misfitOf 136 = .ok (.i2l, 1) := by decide +kernel
theorem dX8_misfitOf_137 : decode cX8_misfitOf 137 = .ok (.aload_n 0, 1) := by decide +kernel
theorem dX8_misfitOf_138 : decode cX8_misfitOf 138 = .ok (.getfield 9, 3) := by decide +kernel
theorem dX8_misfitOf_141 : decode cX8_misfitOf 141 = .ok (.iload 12, 2) := by decide +kernel
theorem dX8_misfitOf_143 : decode cX8_misfitOf 143 = .ok (.laload, 1) := by decide +kernel
theorem dX8_misfitOf_144 : decode cX8_misfitOf 144 = .ok (.lmul, 1) := by decide +kernel
theorem dX8_misfitOf_145 : decode cX8_misfitOf 145 = .ok (.lload 8, 2) := by decide +kernel
theorem dX8_misfitOf_147 : decode cX8_misfitOf 147 = .ok (.ldiv, 1) := by decide +kernel
theorem dX8_misfitOf_148 : decode cX8_misfitOf 148 = .ok (.lsub, 1) := by decide +kernel
theorem dX8_misfitOf_149 : decode cX8_misfitOf 149 = .ok (.invokestatic 43, 3) := by decide +kernel
theorem dX8_misfitOf_152 : decode cX8_misfitOf 152 = .ok (.iload 13, 2) := by decide +kernel
theorem dX8_misfitOf_154 : decode cX8_misfitOf 154 = .ok (.i2l, 1) := by decide +kernel
theorem dX8_misfitOf_155 : decode cX8_misfitOf 155 = .ok (.lsub, 1) := by decide +kernel
theorem dX8_misfitOf_156 : decode cX8_misfitOf 156 = .ok (.ladd, 1) := by decide +kernel
theorem dX8_misfitOf_157 : decode cX8_misfitOf 157 = .ok (.lstore 10, 2) := by decide +kernel
theorem dX8_misfitOf_159 : decode cX8_misfitOf 159 = .ok (.iinc 12 1, 3) := by decide +kernel
theorem dX8_misfitOf_162 : decode cX8_misfitOf 162 = .ok (.goto (-50), 3) := by decide +kernel
theorem dX8_misfitOf_165 : decode cX8_misfitOf 165 = .ok (.lload 10, 2) := by decide +kernel
theorem dX8_misfitOf_167 : decode cX8_misfitOf 167 = .ok (.l2i, 1) := by decide +kernel
theorem dX8_misfitOf_168 : decode cX8_misfitOf 168 = .ok (.ireturn, 1) := by decide +kernel
theorem dX8_seekMiddle_0 : decode cX8_seekMiddle 0 = .ok (.aload_n 0, 1) := by decide +kernel
theorem dX8_seekMiddle_1 : decode cX8_seekMiddle 1 = .ok (.bipush (-6), 2) := by decide +kernel
theorem dX8_seekMiddle_3 : decode cX8_seekMiddle 3 = .ok (.putfield 47, 3) := by decide +kernel
theorem dX8_seekMiddle_6 : decode cX8_seekMiddle 6 = .ok (.iconst 0, 1) := by decide +kernel
theorem dX8_seekMiddle_7 : decode cX8_seekMiddle 7 = .ok (.istore 5, 2) := by decide +kernel
theorem dX8_seekMiddle_9 : decode cX8_seekMiddle 9 = .ok (.iload 5, 2) := by decide +kernel
theorem dX8_seekMiddle_11 : decode cX8_seekMiddle 11 = .ok (.bipush 64, 2) := by decide +kernel
theorem dX8_seekMiddle_13 : decode cX8_seekMiddle 13 = .ok (.if_icmp .ge 27, 3) := by decide +kernel
theorem dX8_seekMiddle_16 : decode cX8_seekMiddle 16 = .ok (.aload_n 0, 1) := by decide +kernel
theorem dX8_seekMiddle_17 : decode cX8_seekMiddle 17 = .ok (.iload_n 3, 1) := by decide +kernel
theorem dX8_seekMiddle_18 : decode cX8_seekMiddle 18 = .ok (.iload 5, 2) := by decide +kernel
theorem dX8_seekMiddle_20 : decode cX8_seekMiddle 20 = .ok (.aload_n 0, 1) := by decide +kernel
theorem dX8_seekMiddle_21 : decode cX8_seekMiddle 21 = .ok (.aload_n 1, 1) := by decide +kernel
theorem dX8_seekMiddle_22 : decode cX8_seekMiddle 22 = .ok (.iload 5, 2) := by decide +kernel
theorem dX8_seekMiddle_24 : decode cX8_seekMiddle 24 = .ok (.iload_n 2, 1) := by decide +kernel
theorem dX8_seekMiddle_25 : decode cX8_seekMiddle 25 = .ok (.iload_n 3, 1) := by decide +kernel
theorem dX8_seekMiddle_26 : decode cX8_seekMiddle 26 = .ok (.iload 4, 2) := by decide +kernel
theorem dX8_seekMiddle_28 : decode cX8_seekMiddle 28 = .ok (.invokevirtual 50, 3) := by decide +kernel
theorem dX8_seekMiddle_31 : decode cX8_seekMiddle 31 = .ok (.invokevirtual 54, 3) := by decide +kernel
theorem dX8_seekMiddle_34 : decode cX8_seekMiddle 34 = .ok (.iinc 5 1, 3) := by decide +kernel
theorem dX8_seekMiddle_37 : decode cX8_seekMiddle 37 = .ok (.goto (-28), 3) := by decide +kernel
theorem dX8_seekMiddle_40 : decode cX8_seekMiddle 40 = .ok (.return_, 1) := by decide +kernel
theorem dX8_seekSpan_0 : decode cX8_seekSpan 0 = .ok (.aload_n 0, 1) := by decide +kernel
theorem dX8_seekSpan_1 : decode cX8_seekSpan 1 = .ok (.aload_n 1, 1) := by decide +kernel
theorem dX8_seekSpan_2 : decode cX8_seekSpan 2 = .ok (.iload_n 2, 1) := by decide +kernel
theorem dX8_seekSpan_3 : decode cX8_seekSpan 3 = .ok (.iload_n 3, 1) := by decide +kernel
theorem dX8_seekSpan_4 : decode cX8_seekSpan 4 = .ok (.iload 4, 2) := by decide +kernel
theorem dX8_seekSpan_6 : decode cX8_seekSpan 6 = .ok (.invokevirtual 58, 3) := by decide +kernel
theorem dX8_seekSpan_9 : decode cX8_seekSpan 9 = .ok (.aload_n 0, 1) := by decide +kernel
theorem dX8_seekSpan_10 : decode cX8_seekSpan 10 = .ok (.aload_n 0, 1) := by decide +kernel
theorem dX8_seekSpan_11 : decode cX8_seekSpan 11 = .ok (.getfield 62, 3) := by decide +kernel
theorem dX8_seekSpan_14 : decode cX8_seekSpan 14 = .ok (.putfield 65, 3) := by decide +kernel
theorem dX8_seekSpan_17 : decode cX8_seekSpan 17 = .ok (.aload_n 0, 1) := by decide +kernel
theorem dX8_seekSpan_18 : decode cX8_seekSpan 18 = .ok (.aload_n 0, 1) := by decide +kernel
theorem dX8_seekSpan_19 : decode cX8_seekSpan 19 = .ok (.getfield 62, 3) := by decide +kernel
theorem dX8_seekSpan_22 : decode cX8_seekSpan 22 = .ok (.putfield 68, 3) := by decide +kernel
theorem dX8_seekSpan_25 : decode cX8_seekSpan 25 = .ok (.iconst 0, 1) := by decide +kernel
theorem dX8_seekSpan_26 : decode cX8_seekSpan 26 = .ok (.istore 6, 2) := by decide +kernel
theorem dX8_seekSpan_28 : decode cX8_seekSpan 28 = .ok (.iload 6, 2) := by decide +kernel
theorem dX8_seekSpan_30 : decode cX8_seekSpan 30 = .ok (.bipush 64, 2) := by decide +kernel
theorem dX8_seekSpan_32 : decode cX8_seekSpan 32 = .ok (.if_icmp .ge 67, 3) := by decide +kernel
theorem dX8_seekSpan_35 : decode cX8_seekSpan 35 = .ok (.aload_n 0, 1) := by decide +kernel
theorem dX8_seekSpan_36 : decode cX8_seekSpan 36 = .ok (.aload_n 1, 1) := by decide +kernel
theorem dX8_seekSpan_37 : decode cX8_seekSpan 37 = .ok (.iload 6, 2) := by decide +kernel
theorem dX8_seekSpan_39 : decode cX8_seekSpan 39 = .ok (.iload_n 2, 1) := by decide +kernel
theorem dX8_seekSpan_40 : decode cX8_seekSpan 40 = .ok (.iload_n 3, 1) := by decide +kernel
theorem dX8_seekSpan_41 : decode cX8_seekSpan 41 = .ok (.iload 4, 2) := by decide +kernel
theorem dX8_seekSpan_43 : decode cX8_seekSpan 43 = .ok (.invokevirtual 50, 3) := by decide +kernel
theorem dX8_seekSpan_46 : decode cX8_seekSpan 46 = .ok (.istore 7, 2) := by decide +kernel
theorem dX8_seekSpan_48 : decode cX8_seekSpan 48 = .ok (.iload 7, 2) := by decide +kernel
theorem dX8_seekSpan_50 : decode cX8_seekSpan 50 = .ok (.bipush (-5), 2) := by decide +kernel
theorem dX8_seekSpan_52 : decode cX8_seekSpan 52 = .ok (.if_icmp .eq 41, 3) := by decide +kernel
theorem dX8_seekSpan_55 : decode cX8_seekSpan 55 = .ok (.iload 7, 2) := by decide +kernel
theorem dX8_seekSpan_57 : decode cX8_seekSpan 57 = .ok (.aload_n 0, 1) := by decide +kernel
theorem dX8_seekSpan_58 : decode cX8_seekSpan 58 = .ok (.getfield 47, 3) := by decide +kernel
theorem dX8_seekSpan_61 : decode cX8_seekSpan 61 = .ok (.iload 5, 2) := by decide +kernel
theorem dX8_seekSpan_63 : decode cX8_seekSpan 63 = .ok (.iadd, 1) := by decide +kernel
theorem dX8_seekSpan_64 : decode cX8_seekSpan 64 = .ok (.if_icmp .gt 29, 3) := by decide +kernel
theorem dX8_seekSpan_67 : decode cX8_seekSpan 67 = .ok (.aload_n 0, 1) := by decide +kernel
theorem dX8_seekSpan_68 : decode cX8_seekSpan 68 = .ok (.aload_n 0, 1) := by decide +kernel
theorem dX8_seekSpan_69 : decode cX8_seekSpan 69 = .ok (.getfield 65, 3) := by decide +kernel
theorem dX8_seekSpan_72 : decode cX8_seekSpan 72 = .ok (.iload 6, 2) := by decide +kernel
theorem dX8_seekSpan_74 : decode cX8_seekSpan 74 = .ok (.invokestatic 25, 3) := by decide +kernel
theorem dX8_seekSpan_77 : decode cX8_seekSpan 77 = .ok (.putfield 65, 3) := by decide +kernel
theorem dX8_seekSpan_80 : decode cX8_seekSpan 80 = .ok (.aload_n 0, 1) := by decide +kernel
theorem dX8_seekSpan_81 : decode cX8_seekSpan 81 = .ok (.aload_n 0, 1) := by decide +kernel
theorem dX8_seekSpan_82 : decode cX8_seekSpan 82 = .ok (.getfield 68, 3) := by decide +kernel
theorem dX8_seekSpan_85 : decode cX8_seekSpan 85 = .ok (.iload 6, 2) := by decide +kernel
theorem dX8_seekSpan_87 : decode cX8_seekSpan 87 = .ok (.invokestatic 19, 3) := by decide +kernel
theorem dX8_seekSpan_90 : decode cX8_seekSpan 90 = .ok (.putfield 68, 3) := by decide +kernel
theorem dX8_seekSpan_93 : decode cX8_seekSpan 93 = .ok (.iinc 6 1, 3) := by decide +kernel
theorem dX8_seekSpan_96 : decode cX8_seekSpan 96 = .ok (.goto (-68), 3) := by decide +kernel
theorem dX8_seekSpan_99 : decode cX8_seekSpan 99 = .ok (.return_, 1) := by decide +kernel
theorem dX8_seekLine_0 : decode cX8_seekLine 0 = .ok (.aload_n 0, 1) := by decide +kernel
theorem dX8_seekLine_1 : decode cX8_seekLine 1 = .ok (.aload_n 1, 1) := by decide +kernel
theorem dX8_seekLine_2 : decode cX8_seekLine 2 = .ok (.iload_n 2, 1) := by decide +kernel
theorem dX8_seekLine_3 : decode cX8_seekLine 3 = .ok (.iconst 0, 1) := by decide +kernel
theorem dX8_seekLine_4 : decode cX8_seekLine 4 = .ok (.iload_n 3, 1) := by decide +kernel
theorem dX8_seekLine_5 : decode cX8_seekLine 5 = .ok (.invokevirtual 58, 3) := by decide +kernel
theorem dX8_seekLine_8 : decode cX8_seekLine 8 = .ok (.iconst 1, 1) := by decide +kernel
theorem dX8_seekLine_9 : decode cX8_seekLine 9 = .ok (.istore 4, 2) := by decide +kernel
theorem dX8_seekLine_11 : decode cX8_seekLine 11 = .ok (.iload 4, 2) := by decide +kernel
theorem dX8_seekLine_13 : decode cX8_seekLine 13 = .ok (.bipush 64, 2) := by decide +kernel
theorem dX8_seekLine_15 : decode cX8_seekLine 15 = .ok (.if_icmp .ge 64, 3) := by decide +kernel
theorem dX8_seekLine_18 : decode cX8_seekLine 18 = .ok (.bipush 63, 2) := by decide +kernel
theorem dX8_seekLine_20 : decode cX8_seekLine 20 = .ok (.iload 4, 2) := by decide +kernel
theorem dX8_seekLine_22 : decode cX8_seekLine 22 = .ok (.iload_n 2, 1) := by decide +kernel
theorem dX8_seekLine_23 : decode cX8_seekLine 23 = .ok (.iadd, 1) := by decide +kernel
theorem dX8_seekLine_24 : decode cX8_seekLine 24 = .ok (.iconst 1, 1) := by decide +kernel
theorem dX8_seekLine_25 : decode cX8_seekLine 25 = .ok (.isub, 1) := by decide +kernel
theorem dX8_seekLine_26 : decode cX8_seekLine 26 = .ok (.invokestatic 25, 3) := by decide +kernel
theorem dX8_seekLine_29 : decode cX8_seekLine 29 = .ok (.istore 5, 2) := by decide +kernel
theorem dX8_seekLine_31 : decode cX8_seekLine 31 = .ok (.iconst 0, 1) := by decide +kernel
theorem dX8_seekLine_32 : decode cX8_seekLine 32 = .ok (.iload 4, 2) := by decide +kernel
theorem dX8_seekLine_34 : decode cX8_seekLine 34 = .ok (.iload_n 2, 1) := by decide +kernel
theorem dX8_seekLine_35 : decode cX8_seekLine 35 = .ok (.isub, 1) := by decide +kernel
theorem dX8_seekLine_36 : decode cX8_seekLine 36 = .ok (.invokestatic 19, 3) := by decide +kernel
theorem dX8_seekLine_39 : decode cX8_seekLine 39 = .ok (.istore 6, 2) := by decide +kernel
theorem dX8_seekLine_41 : decode cX8_seekLine 41 = .ok (.iload 6, 2) := by decide +kernel
theorem dX8_seekLine_43 : decode cX8_seekLine 43 = .ok (.iload 5, 2) := by decide +kernel
theorem dX8_seekLine_45 : decode cX8_seekLine 45 = .ok (.if_icmp .gt 28, 3) := by decide +kernel
theorem dX8_seekLine_48 : decode cX8_seekLine 48 = .ok (.aload_n 0, 1) := by decide +kernel
theorem dX8_seekLine_49 : decode cX8_seekLine 49 = .ok (.iload 4, 2) := by decide +kernel
theorem dX8_seekLine_51 : decode cX8_seekLine 51 = .ok (.iload 6, 2) := by decide +kernel
theorem dX8_seekLine_53 : decode cX8_seekLine 53 = .ok (.aload_n 0, 1) := by decide +kernel
theorem dX8_seekLine_54 : decode cX8_seekLine 54 = .ok (.aload_n 1, 1) := by decide +kernel
theorem dX8_seekLine_55 : decode cX8_seekLine 55 = .ok (.iload 6, 2) := by decide +kernel
theorem dX8_seekLine_57 : decode cX8_seekLine 57 = .ok (.iload_n 2, 1) := by decide +kernel
theorem dX8_seekLine_58 : decode cX8_seekLine 58 = .ok (.iload 4, 2) := by decide +kernel
theorem dX8_seekLine_60 : decode cX8_seekLine 60 = .ok (.iload_n 3, 1) := by decide +kernel
theorem dX8_seekLine_61 : decode cX8_seekLine 61 = .ok (.invokevirtual 50, 3) := by decide +kernel
theorem dX8_seekLine_64 : decode cX8_seekLine 64 = .ok (.invokevirtual 54, 3) := by decide +kernel
theorem dX8_seekLine_67 : decode cX8_seekLine 67 = .ok (.iinc 6 1, 3) := by decide +kernel
theorem dX8_seekLine_70 : decode cX8_seekLine 70 = .ok (.goto (-29), 3) := by decide +kernel
theorem dX8_seekLine_73 : decode cX8_seekLine 73 = .ok (.iinc 4 1, 3) := by decide +kernel
theorem dX8_seekLine_76 : decode cX8_seekLine 76 = .ok (.goto (-65), 3) := by decide +kernel
theorem dX8_seekLine_79 : decode cX8_seekLine 79 = .ok (.return_, 1) := by decide +kernel
theorem dX8_offer_0 : decode cX8_offer 0 = .ok (.iload_n 3, 1) := by decide +kernel
theorem dX8_offer_1 : decode cX8_offer 1 = .ok (.bipush (-5), 2) := by decide +kernel
theorem dX8_offer_3 : decode cX8_offer 3 = .ok (.if_icmp .eq 35, 3) := by decide +kernel
theorem dX8_offer_6 : decode cX8_offer 6 = .ok (.aload_n 0, 1) := by decide +kernel
theorem dX8_offer_7 : decode cX8_offer 7 = .ok (.getfield 47, 3) := by decide +kernel
theorem dX8_offer_10 : decode cX8_offer 10 = .ok (.bipush (-6), 2) := by decide +kernel
theorem dX8_offer_12 : decode cX8_offer 12 = .ok (.if_icmp .eq 11, 3) := by decide +kernel
theorem dX8_offer_15 : decode cX8_offer 15 = .ok (.iload_n 3, 1) := by decide +kernel
theorem dX8_offer_16 : decode cX8_offer 16 = .ok (.aload_n 0, 1) := by decide +kernel
theorem dX8_offer_17 : decode cX8_offer 17 = .ok (.getfield 47, 3) := by decide +kernel
theorem dX8_offer_20 : decode cX8_offer 20 = .ok (.if_icmp .ge 18, 3) := by decide +kernel
theorem dX8_offer_23 : decode cX8_offer 23 = .ok (.aload_n 0, 1) := by decide +kernel
theorem dX8_offer_24 : decode cX8_offer 24 = .ok (.iload_n 1, 1) := by decide +kernel
theorem dX8_offer_25 : decode cX8_offer 25 = .ok (.putfield 71, 3) := by decide +kernel
theorem dX8_offer_28 : decode cX8_offer 28 = .ok (.aload_n 0, 1) := by decide +kernel
theorem dX8_offer_29 : decode cX8_offer 29 = .ok (.iload_n 2, 1) := by decide +kernel
theorem dX8_offer_30 : decode cX8_offer 30 = .ok (.putfield 62, 3) := by decide +kernel
theorem dX8_offer_33 : decode cX8_offer 33 = .ok (.aload_n 0, 1) := by decide +kernel
theorem dX8_offer_34 : decode cX8_offer 34 = .ok (.iload_n 3, 1) := by decide +kernel
theorem dX8_offer_35 : decode cX8_offer 35 = .ok (.putfield 47, 3) := by decide +kernel
theorem dX8_offer_38 : decode cX8_offer 38 = .ok (.return_, 1) := by decide +kernel
theorem dX9_init_0 : decode cX9_init 0 = .ok (.aload_n 0, 1) := by decide +kernel
theorem dX9_init_1 : decode cX9_init 1 = .ok (.invokespecial 1, 3) := by decide +kernel
theorem dX9_init_4 : decode cX9_init 4 = .ok (.aload_n 0, 1) := by decide +kernel
theorem dX9_init_5 : decode cX9_init 5 = .ok (.new 7, 3) := by decide +kernel
theorem dX9_init_8 : decode cX9_init 8 = .ok (.dup, 1) := by decide +kernel
theorem dX9_init_9 : decode cX9_init 9 = .ok (.invokespecial 9, 3) := by decide +kernel
theorem dX9_init_12 : decode cX9_init 12 = .ok (.putfield 10, 3) := by decide +kernel
theorem dX9_init_15 : decode cX9_init 15 = .ok (.aload_n 0, 1) := by decide +kernel
theorem dX9_init_16 : decode cX9_init 16 = .ok (.new 16, 3) := by decide +kernel
theorem dX9_init_19 : decode cX9_init 19 = .ok (.dup, 1) := by decide +kernel
theorem dX9_init_20 : decode cX9_init 20 = .ok (.invokespecial 18, 3) := by decide +kernel
theorem dX9_init_23 : decode cX9_init 23 = .ok (.putfield 19, 3) := by decide +kernel
theorem dX9_init_26 : decode cX9_init 26 = .ok (.aload_n 0, 1) := by decide +kernel
theorem dX9_init_27 : decode cX9_init 27 = .ok (.iconst 2, 1) := by decide +kernel
theorem dX9_init_28 : decode cX9_init 28 = .ok (.anewarray 16, 3) := by decide +kernel
theorem dX9_init_31 : decode cX9_init 31 = .ok (.putfield 23, 3) := by decide +kernel
theorem dX9_init_34 : decode cX9_init 34 = .ok (.iconst 0, 1) := by decide +kernel
theorem dX9_init_35 : decode cX9_init 35 = .ok (.istore_n 1, 1) := by decide +kernel
theorem dX9_init_36 : decode cX9_init 36 = .ok (.iload_n 1, 1) := by decide +kernel
theorem dX9_init_37 : decode cX9_init 37 = .ok (.aload_n 0, 1) := by decide +kernel
theorem dX9_init_38 : decode cX9_init 38 = .ok (.getfield 23, 3) := by decide +kernel
theorem dX9_init_41 : decode cX9_init 41 = .ok (.arraylength, 1) := by decide +kernel
theorem dX9_init_42 : decode cX9_init 42 = .ok (.if_icmp .ge 22, 3) := by decide +kernel
theorem dX9_init_45 : decode cX9_init 45 = .ok (.aload_n 0, 1) := by decide +kernel
theorem dX9_init_46 : decode cX9_init 46 = .ok (.getfield 23, 3) := by decide +kernel
theorem dX9_init_49 : decode cX9_init 49 = .ok (.iload_n 1, 1) := by decide +kernel
theorem dX9_init_50 : decode cX9_init 50 = .ok (.new 16, 3) := by decide +kernel
theorem dX9_init_53 : decode cX9_init 53 = .ok (.dup, 1) := by decide +kernel
theorem dX9_init_54 : decode cX9_init 54 = .ok (.invokespecial 18, 3) := by decide +kernel
theorem dX9_init_57 : decode cX9_init 57 = .ok (.aastore, 1) := by decide +kernel
theorem dX9_init_58 : decode cX9_init 58 = .ok (.iinc 1 1, 3) := by decide +kernel
theorem dX9_init_61 : decode cX9_init 61 = .ok (.goto (-25), 3) := by decide +kernel
theorem dX9_init_64 : decode cX9_init 64 = .ok (.aload_n 0, 1) := by decide +kernel
theorem dX9_init_65 : decode cX9_init 65 = .ok (.iconst 2, 1) := by decide +kernel
theorem dX9_init_66 : decode cX9_init 66 = .ok (.newarray .boolean, 2) := by decide +kernel
theorem dX9_init_68 : decode cX9_init 68 = .ok (.putfield 27, 3) := by decide +kernel
theorem dX9_init_71 : decode cX9_init 71 = .ok (.aload_n 0, 1) := by decide +kernel
theorem dX9_init_72 : decode cX9_init 72 = .ok (.new 31, 3) := by decide +kernel
theorem dX9_init_75 : decode cX9_init 75 = .ok (.dup, 1) := by decide +kernel
theorem dX9_init_76 : decode cX9_init 76 = .ok (.invokespecial 33, 3) := by decide +kernel
theorem dX9_init_79 : decode cX9_init 79 = .ok (.putfield 34, 3) := by decide +kernel
theorem dX9_init_82 : decode cX9_init 82 = .ok (.aload_n 0, 1) := by decide +kernel
theorem dX9_init_83 : decode cX9_init 83 = .ok (.new 38, 3) := by decide +kernel
theorem dX9_init_86 : decode cX9_init 86 = .ok (.dup, 1) := by decide +kernel
theorem dX9_init_87 : decode cX9_init 87 = .ok (.aload_n 0, 1) := by decide +kernel
theorem dX9_init_88 : decode cX9_init 88 = .ok (.getfield 34, 3) := by decide +kernel
theorem dX9_init_91 : decode cX9_init 91 = .ok (.invokespecial 40, 3) := by decide +kernel
theorem dX9_init_94 : decode cX9_init 94 = .ok (.putfield 43, 3) := by decide +kernel
theorem dX9_init_97 : decode cX9_init 97 = .ok (.aload_n 0, 1) := by decide +kernel
theorem dX9_init_98 : decode cX9_init 98 = .ok (.new 47, 3) := by decide +kernel
theorem dX9_init_101 : decode cX9_init 101 = .ok (.dup, 1) := by decide +kernel
theorem dX9_init_102 : decode cX9_init 102 = .ok (.aload_n 0, 1) := by decide +kernel
theorem dX9_init_103 : decode cX9_init 103 = .ok (.getfield 34, 3) := by decide +kernel
theorem dX9_init_106 : decode cX9_init 106 = .ok (.invokespecial 49, 3) := by decide +kernel
theorem dX9_init_109 : decode cX9_init 109 = .ok (.putfield 50, 3) := by decide +kernel
theorem dX9_init_112 : decode cX9_init 112 = .ok (.aload_n 0, 1) := by decide +kernel
theorem dX9_init_113 : decode cX9_init 113 = .ok (.new 54, 3) := by decide +kernel
theorem dX9_init_116 : decode cX9_init 116 = .ok (.dup, 1) := by decide +kernel
theorem dX9_init_117 : decode cX9_init 117 = .ok (.invokespecial 56, 3) := by decide +kernel
theorem dX9_init_120 : decode cX9_init 120 = .ok (.putfield 57, 3) := by decide +kernel
theorem dX9_init_123 : decode cX9_init 123 = .ok (.return_, 1) := by decide +kernel
theorem dX9_men_0 : decode cX9_men 0 = .ok (.aload_n 0, 1) := by decide +kernel
theorem dX9_men_1 : decode cX9_men 1 = .ok (.getfield 19, 3) := by decide +kernel
theorem dX9_men_4 : decode cX9_men 4 = .ok (.iload_n 1, 1) := by decide +kernel
theorem dX9_men_5 : decode cX9_men 5 = .ok (.invokevirtual 61, 3) := by decide +kernel
theorem dX9_men_8 : decode cX9_men 8 = .ok (.astore 4, 2) := by decide +kernel
theorem dX9_men_10 : decode cX9_men 10 = .ok (.aload 4, 2) := by decide +kernel
theorem dX9_men_12 : decode cX9_men 12 = .ok (.ifnonnull 5, 3) := by decide +kernel
theorem dX9_men_15 : decode cX9_men 15 = .ok (.iconst (-1), 1) := by decide +kernel
theorem dX9_men_16 : decode cX9_men 16 = .ok (.ireturn, 1) := by decide +kernel
theorem dX9_men_17 : decode cX9_men 17 = .ok (.iload_n 2, 1) := by decide +kernel
theorem dX9_men_18 : decode cX9_men 18 = .ok (.invokestatic 65, 3) := by decide +kernel
theorem dX9_men_21 : decode cX9_men 21 = .ok (.ifCond .eq 14, 3) := by decide +kernel
theorem dX9_men_24 : decode cX9_men 24 = .ok (.iload_n 3, 1) := by decide +kernel
theorem dX9_men_25 : decode cX9_men 25 = .ok (.iconst 0, 1) := by decide +kernel
theorem dX9_men_26 : decode cX9_men 26 = .ok (.sipush 999, 3) := by decide +kernel
theorem dX9_men_29 : decode cX9_men 29 = .ok (.invokestatic 69, 3) := by decide +kernel
theorem dX9_men_32 : decode cX9_men 32 = .ok (.ifCond .ne 6, 3) := by decide +kernel
theorem dX9_men_35 : decode cX9_men 35 = .ok (.bipush (-2), 2) := by decide +kernel
theorem dX9_men_37 : decode cX9_men 37 = .ok (.ireturn, 1) := by decide +kernel
theorem dX9_men_38 : decode cX9_men 38 = .ok (.aload 4, 2) := by decide +kernel
theorem dX9_men_40 : decode cX9_men 40 = .ok (.iload_n 2, 1) := by decide +kernel
theorem dX9_men_41 : decode cX9_men 41 = .ok (.invokevirtual 73, 3) := by decide +kernel
theorem dX9_men_44 : decode cX9_men 44 = .ok (.istore 5, 2) := by decide +kernel
theorem dX9_men_46 : decode cX9_men 46 = .ok (.aload 4, 2) := by decide +kernel
theorem dX9_men_48 : decode cX9_men 48 = .ok (.iload_n 2, 1) := by decide +kernel
theorem dX9_men_49 : decode cX9_men 49 = .ok (.iload_n 3, 1) := by decide +kernel
theorem dX9_men_50 : decode cX9_men 50 = .ok (.invokevirtual 77, 3) := by decide +kernel
theorem dX9_men_53 : decode cX9_men 53 = .ok (.iload 5, 2) := by decide +kernel
theorem dX9_men_55 : decode cX9_men 55 = .ok (.ireturn, 1) := by decide +kernel
theorem dX9_set_0 : decode cX9_set 0 = .ok (.aload_n 0, 1) := by decide +kernel
theorem dX9_set_1 : decode cX9_set 1 = .ok (.getfield 19, 3) := by decide +kernel
theorem dX9_set_4 : decode cX9_set 4 = .ok (.iload_n 1, 1) := by decide +kernel
theorem dX9_set_5 : decode cX9_set 5 = .ok (.invokevirtual 61, 3) := by decide +kernel
theorem dX9_set_8 : decode cX9_set 8 = .ok (.astore 4, 2) := by decide +kernel
theorem dX9_set_10 : decode cX9_set 10 = .ok (.aload 4, 2) := by decide +kernel
theorem dX9_set_12 : decode cX9_set 12 = .ok (.ifnonnull 5, 3) := by decide +kernel
theorem dX9_set_15 : decode cX9_set 15 = .ok (.iconst (-1), 1) := by decide +kernel
theorem dX9_set_16 : decode cX9_set 16 = .ok (.ireturn, 1) := by decide +kernel
theorem dX9_set_17 : decode cX9_set 17 = .ok (.iload_n 2, 1) := by decide +kernel
theorem dX9_set_18 : decode cX9_set 18 = .ok (.iconst 0, 1) := by decide +kernel
theorem dX9_set_19 : decode cX9_set 19 = .ok (.iconst 2, 1) := by decide +kernel
theorem dX9_set_20 : decode cX9_set 20 = .ok (.invokestatic 69, 3) := by decide +kernel
theorem dX9_set_23 : decode cX9_set 23 = .ok (.ifCond .eq 20, 3) := by decide +kernel
theorem dX9_set_26 : decode cX9_set 26 = .ok (.iload_n 3, 1) := by decide +kernel
theorem dX9_set_27 : decode cX9_set 27 = .ok (.getstatic 81, 3) := by decide +kernel
theorem dX9_set_30 : decode cX9_set 30 = .ok (.iload_n 2, 1) := by decide +kernel
theorem dX9_set_31 : decode cX9_set 31 = .ok (.iaload, 1) := by decide +kernel
theorem dX9_set_32 : decode cX9_set 32 = .ok (.getstatic 85, 3) := by decide +kernel
theorem dX9_set_35 : decode cX9_set 35 = .ok (.iload_n 2, 1) := by decide +kernel
theorem dX9_set_36 : decode cX9_set 36 = .ok (.iaload, 1) := by decide +kernel
theorem dX9_set_37 : decode cX9_set 37 = .ok (.invokestatic 69, 3) := by decide +kernel
theorem dX9_set_40 : decode cX9_set 40 = .ok (.ifCond .ne 6, 3) := by decide +kernel
theorem dX9_set_43 : decode cX9_set 43 = .ok (.bipush (-2), 2) := by decide +kernel
theorem dX9_set_45 : decode cX9_set 45 = .ok (.ireturn, 1) := by decide +kernel
theorem dX9_set_46 : decode cX9_set 46 = .ok (.aload 4, 2) := by decide +kernel
theorem dX9_set_48 : decode cX9_set 48 = .ok (.iload_n 2, 1) := by decide +kernel
theorem dX9_set_49 : decode cX9_set 49 = .ok (.invokevirtual 88, 3) := by decide +kernel
theorem dX9_set_52 : decode cX9_set 52 = .ok (.istore 5, 2) := by decide +kernel
theorem dX9_set_54 : decode cX9_set 54 = .ok (.aload 4, 2) := by decide +kernel
theorem dX9_set_56 : decode cX9_set 56 = .ok (.iload_n 2, 1) := by decide +kernel
theorem dX9_set_57 : decode cX9_set 57 = .ok (.iload_n 3, 1) := by decide +kernel
theorem dX9_set_58 : decode cX9_set 58 = .ok (.invokevirtual 91, 3) := by decide +kernel
theorem dX9_set_61 : decode cX9_set 61 = .ok (.iload 5, 2) := by decide +kernel
theorem dX9_set_63 : decode cX9_set 63 = .ok (.ireturn, 1) := by decide +kernel
theorem dX9_way_0 : decode cX9_way 0 = .ok (.iload_n 1, 1) := by decide +kernel
theorem dX9_way_1 : decode cX9_way 1 = .ok (.iconst 0, 1) := by decide +kernel
theorem dX9_way_2 : decode cX9_way 2 = .ok (.iconst 4, 1) := by decide +kernel
theorem dX9_way_3 : decode cX9_way 3 = .ok (.invokestatic 69, 3) := by decide +kernel
theorem dX9_way_6 : decode cX9_way 6 = .ok (.ifCond .eq 16, 3) := by decide +kernel
theorem dX9_way_9 : decode cX9_way 9 = .ok (.iload_n 2, 1) := by decide +kernel
theorem dX9_way_10 : decode cX9_way 10 = .ok (.iconst 0, 1) := by decide +kernel
theorem dX9_way_11 : decode cX9_way 11 = .ok (.getstatic 94, 3) := by decide +kernel
theorem dX9_way_14 : decode cX9_way 14 = .ok (.iload_n 1, 1) := by decide +kernel
theorem dX9_way_15 : decode cX9_way 15 = .ok (.iaload, 1) := by decide +kernel
theorem dX9_way_16 : decode cX9_way 16 = .ok (.invokestatic 69, 3) := by decide +kernel
theorem dX9_way_19 : decode cX9_way 19 = .ok (.ifCond .ne 6, 3) := by decide +kernel
theorem dX9_way_22 : decode cX9_way 22 = .ok (.bipush (-2), 2) := by decide +kernel
theorem dX9_way_24 : decode cX9_way 24 = .ok (.ireturn, 1) := by decide +kernel
theorem dX9_way_25 : decode cX9_way 25 = .ok (.aload_n 0, 1) := by decide +kernel
theorem dX9_way_26 : decode cX9_way 26 = .ok (.getfield 19, 3) := by decide +kernel
theorem dX9_way_29 : decode cX9_way 29 = .ok (.iload_n 1, 1) := by decide +kernel
theorem dX9_way_30 : decode cX9_way 30 = .ok (.invokevirtual 97, 3) := by decide +kernel
theorem dX9_way_33 : decode cX9_way 33 = .ok (.istore_n 3, 1) := by decide +kernel
theorem dX9_way_34 : decode cX9_way 34 = .ok (.aload_n 0, 1) := by decide +kernel
theorem dX9_way_35 : decode cX9_way 35 = .ok (.getfield 19, 3) := by decide +kernel
theorem dX9_way_38 : decode cX9_way 38 = .ok (.iload_n 1, 1) := by decide +kernel
theorem dX9_way_39 : decode cX9_way 39 = .ok (.iload_n 2, 1) := by decide +kernel
theorem dX9_way_40 : decode cX9_way 40 = .ok (.invokevirtual 100, 3) := by decide +kernel
theorem dX9_way_43 : decode cX9_way 43 = .ok (.iload_n 3, 1) := by decide +kernel
theorem dX9_way_44 : decode cX9_way 44 = .ok (.ireturn, 1) := by decide +kernel
theorem dX9_say_0 : decode cX9_say 0 = .ok (.iload_n 1, 1) := by decide +kernel
theorem dX9_say_1 : decode cX9_say 1 = .ok (.bipush 33, 2) := by decide +kernel
theorem dX9_say_3 : decode cX9_say 3 = .ok (.bipush 126, 2) := by decide +kernel
theorem dX9_say_5 : decode cX9_say 5 = .ok (.invokestatic 69, 3) := by decide +kernel
theorem dX9_say_8 : decode cX9_say 8 = .ok (.ifCond .ne 6, 3) := by decide +kernel
theorem dX9_say_11 : decode cX9_say 11 = .ok (.bipush (-2), 2) := by decide +kernel
theorem dX9_say_13 : decode cX9_say 13 = .ok (.ireturn, 1) := by decide +kernel
theorem dX9_say_14 : decode cX9_say 14 = .ok (.aload_n 0, 1) := by decide +kernel
theorem dX9_say_15 : decode cX9_say 15 = .ok (.getfield 10, 3) := by decide +kernel
theorem dX9_say_18 : decode cX9_say 18 = .ok (.iload_n 1, 1) := by decide +kernel
theorem dX9_say_19 : decode cX9_say 19 = .ok (.invokevirtual 103, 3) := by decide +kernel
theorem dX9_say_22 : decode cX9_say 22 = .ok (.ifCond .eq 13, 3) := by decide +kernel
theorem dX9_say_25 : decode cX9_say 25 = .ok (.aload_n 0, 1) := by decide +kernel
theorem dX9_say_26 : decode cX9_say 26 = .ok (.getfield 10, 3) := by decide +kernel
theorem dX9_say_29 : decode cX9_say 29 = .ok (.getfield 106, 3) := by decide +kernel
theorem dX9_say_32 : decode cX9_say 32 = .ok (.goto 5, 3) := by decide +kernel
theorem dX9_say_35 : decode cX9_say 35 = .ok (.bipush (-4), 2) := by decide +kernel
theorem dX9_say_37 : decode cX9_say 37 = .ok (.ireturn, 1) := by decide +kernel
theorem dX9_wipe_0 : decode cX9_wipe 0 = .ok (.aload_n 0, 1) := by decide +kernel
theorem dX9_wipe_1 : decode cX9_wipe 1 = .ok (.getfield 10, 3) := by decide +kernel
theorem dX9_wipe_4 : decode cX9_wipe 4 = .ok (.getfield 106, 3) := by decide +kernel
theorem dX9_wipe_7 : decode cX9_wipe 7 = .ok (.istore_n 1, 1) := by decide +kernel
theorem dX9_wipe_8 : decode cX9_wipe 8 = .ok (.aload_n 0, 1) := by decide +kernel
theorem dX9_wipe_9 : decode cX9_wipe 9 = .ok (.getfield 10, 3) := by decide +kernel
theorem dX9_wipe_12 : decode cX9_wipe 12 = .ok (.invokevirtual 110, 3) := by decide +kernel
theorem dX9_wipe_15 : decode cX9_wipe 15 = .ok (.iload_n 1, 1) := by decide +kernel
theorem dX9_wipe_16 : decode cX9_wipe 16 = .ok (.ireturn, 1) := by decide +kernel
theorem dX9_fault_0 : decode cX9_fault 0 = .ok (.iload_n 1, 1) := by decide +kernel
theorem dX9_fault_1 : decode cX9_fault 1 = .ok (.iconst 0, 1) := by decide +kernel
theorem dX9_fault_2 : decode cX9_fault 2 = .ok (.iconst 1, 1) := by decide +kernel
theorem dX9_fault_3 : decode cX9_fault 3 = .ok (.invokestatic 69, 3) := by decide +kernel
theorem dX9_fault_6 : decode cX9_fault 6 = .ok (.ifCond .eq 14, 3) := by decide +kernel
theorem dX9_fault_9 : decode cX9_fault 9 = .ok (.aload_n 0, 1) := by decide +kernel
theorem dX9_fault_10 : decode cX9_fault 10 = .ok (.getfield 10, 3) := by decide +kernel
theorem dX9_fault_13 : decode cX9_fault 13 = .ok (.iload_n 1, 1) := by decide +kernel
theorem dX9_fault_14 : decode cX9_fault 14 = .ok (.invokestatic 113, 3) := by decide +kernel
theorem dX9_fault_17 : decode cX9_fault 17 = .ok (.goto 5, 3) := by decide +kernel
theorem dX9_fault_20 : decode cX9_fault 20 = .ok (.bipush (-2), 2) := by decide +kernel
theorem dX9_fault_22 : decode cX9_fault 22 = .ok (.ireturn, 1) := by decide +kernel
theorem dX9_take_0 : decode cX9_take 0 = .ok (.iload_n 1, 1) := by decide +kernel
theorem dX9_take_1 : decode cX9_take 1 = .ok (.iconst 0, 1) := by decide +kernel
theorem dX9_take_2 : decode cX9_take 2 = .ok (.iconst 1, 1) := by decide +kernel
theorem dX9_take_3 : decode cX9_take 3 = .ok (.invokestatic 69, 3) := by decide +kernel
theorem dX9_take_6 : decode cX9_take 6 = .ok (.ifCond .ne 6, 3) := by decide +kernel
theorem dX9_take_9 : decode cX9_take 9 = .ok (.bipush (-2), 2) := by decide +kernel
theorem dX9_take_11 : decode cX9_take 11 = .ok (.ireturn, 1) := by decide +kernel
theorem dX9_take_12 : decode cX9_take 12 = .ok (.aload_n 0, 1) := by decide +kernel
theorem dX9_take_13 : decode cX9_take 13 = .ok (.getfield 10, 3) := by decide +kernel
theorem dX9_take_16 : decode cX9_take 16 = .ok (.iload_n 1, 1) := by decide +kernel
theorem dX9_take_17 : decode cX9_take 17 = .ok (.invokestatic 113, 3) := by decide +kernel
theorem dX9_take_20 : decode cX9_take 20 = .ok (.bipush (-6), 2) := by decide +kernel
theorem dX9_take_22 : decode cX9_take 22 = .ok (.if_icmp .eq 6, 3) := by decide +kernel
theorem dX9_take_25 : decode cX9_take 25 = .ok (.bipush (-5), 2) := by decide +kernel
theorem dX9_take_27 : decode cX9_take 27 = .ok (.ireturn, 1) := by decide +kernel
theorem dX9_take_28 : decode cX9_take 28 = .ok (.iload_n 1, 1) := by decide +kernel
theorem dX9_take_29 : decode cX9_take 29 = .ok (.ifCond .ne 13, 3) := by decide +kernel
theorem dX9_take_32 : decode cX9_take 32 = .ok (.aload_n 0, 1) := by decide +kernel
theorem dX9_take_33 : decode cX9_take 33 = .ok (.getfield 19, 3) := by decide +kernel
theorem dX9_take_36 : decode cX9_take 36 = .ok (.getfield 119, 3) := by decide +kernel
theorem dX9_take_39 : decode cX9_take 39 = .ok (.goto 10, 3) := by decide +kernel
theorem dX9_take_42 : decode cX9_take 42 = .ok (.aload_n 0, 1) := by decide +kernel
theorem dX9_take_43 : decode cX9_take 43 = .ok (.getfield 19, 3) := by decide +kernel
theorem dX9_take_46 : decode cX9_take 46 = .ok (.getfield 122, 3) := by decide +kernel
theorem dX9_take_49 : decode cX9_take 49 = .ok (.astore_n 2, 1) := by decide +kernel
theorem dX9_take_50 : decode cX9_take 50 = .ok (.aload_n 2, 1) := by decide +kernel
theorem dX9_take_51 : decode cX9_take 51 = .ok (.aload_n 0, 1) := by decide +kernel
theorem dX9_take_52 : decode cX9_take 52 = .ok (.getfield 10, 3) := by decide +kernel
theorem dX9_take_55 : decode cX9_take 55 = .ok (.invokevirtual 125, 3) := by decide +kernel
theorem dX9_take_58 : decode cX9_take 58 = .ok (.aload_n 0, 1) := by decide +kernel
theorem dX9_take_59 : decode cX9_take 59 = .ok (.getfield 10, 3) := by decide +kernel
theorem dX9_take_62 : decode cX9_take 62 = .ok (.invokevirtual 110, 3) := by decide +kernel
theorem dX9_take_65 : decode cX9_take 65 = .ok (.aload_n 2, 1) := by decide +kernel
theorem dX9_take_66 : decode cX9_take 66 = .ok (.invokevirtual 129, 3) := by decide +kernel
theorem dX9_take_69 : decode cX9_take 69 = .ok (.ireturn, 1) := by decide +kernel
theorem dX9_line_0 : decode cX9_line 0 = .ok (.aload_n 0, 1) := by decide +kernel
theorem dX9_line_1 : decode cX9_line 1 = .ok (.getfield 19, 3) := by decide +kernel
theorem dX9_line_4 : decode cX9_line 4 = .ok (.iload_n 1, 1) := by decide +kernel
theorem dX9_line_5 : decode cX9_line 5 = .ok (.invokevirtual 61, 3) := by decide +kernel
theorem dX9_line_8 : decode cX9_line 8 = .ok (.astore_n 2, 1) := by decide +kernel
theorem dX9_line_9 : decode cX9_line 9 = .ok (.aload_n 2, 1) := by decide +kernel
theorem dX9_line_10 : decode cX9_line 10 = .ok (.ifnonnull 7, 3) := by decide +kernel
theorem dX9_line_13 : decode cX9_line 13 = .ok (.iconst (-1), 1) := by decide +kernel
theorem dX9_line_14 : decode cX9_line 14 = .ok (.goto 11, 3) := by decide +kernel
theorem dX9_line_17 : decode cX9_line 17 = .ok (.aload_n 0, 1) := by decide +kernel
theorem dX9_line_18 : decode cX9_line 18 = .ok (.getfield 19, 3) := by decide +kernel
theorem dX9_line_21 : decode cX9_line 21 = .ok (.aload_n 2, 1) := by decide +kernel
theorem dX9_line_22 : decode cX9_line 22 = .ok (.invokevirtual 133, 3) := by decide +kernel
theorem dX9_line_25 : decode cX9_line 25 = .ok (.ireturn, 1) := by decide +kernel
theorem dX9_hump_0 : decode cX9_hump 0 = .ok (.iload_n 1, 1) := by decide +kernel
theorem dX9_hump_1 : decode cX9_hump 1 = .ok (.iload_n 2, 1) := by decide +kernel
theorem dX9_hump_2 : decode cX9_hump 2 = .ok (.invokestatic 137, 3) := by decide +kernel
theorem dX9_hump_5 : decode cX9_hump 5 = .ok (.ifCond .eq 23, 3) := by decide +kernel
theorem dX9_hump_8 : decode cX9_hump 8 = .ok (.iload_n 3, 1) := by decide +kernel
theorem dX9_hump_9 : decode cX9_hump 9 = .ok (.invokestatic 65, 3) := by decide +kernel
theorem dX9_hump_12 : decode cX9_hump 12 = .ok (.ifCond .eq 16, 3) := by decide +kernel
theorem dX9_hump_15 : decode cX9_hump 15 = .ok (.aload_n 0, 1) := by decide +kernel
theorem dX9_hump_16 : decode cX9_hump 16 = .ok (.getfield 34, 3) := by decide +kernel
theorem dX9_hump_19 : decode cX9_hump 19 = .ok (.iload_n 1, 1) := by decide +kernel
theorem dX9_hump_20 : decode cX9_hump 20 = .ok (.iload_n 2, 1) := by decide +kernel
theorem dX9_hump_21 : decode cX9_hump 21 = .ok (.iload_n 3, 1) := by decide +kernel
theorem dX9_hump_22 : decode cX9_hump 22 = .ok (.invokevirtual 141, 3) := by decide +kernel
theorem dX9_hump_25 : decode cX9_hump 25 = .ok (.goto 5, 3) := by decide +kernel
theorem dX9_hump_28 : decode cX9_hump 28 = .ok (.bipush (-2), 2) := by decide +kernel
theorem dX9_hump_30 : decode cX9_hump 30 = .ok (.ireturn, 1) := by decide +kernel
theorem dX9_upper_0 : decode cX9_upper 0 = .ok (.iload_n 1, 1) := by decide +kernel
theorem dX9_upper_1 : decode cX9_upper 1 = .ok (.iload_n 2, 1) := by decide +kernel
theorem dX9_upper_2 : decode cX9_upper 2 = .ok (.invokestatic 137, 3) := by decide +kernel
theorem dX9_upper_5 : decode cX9_upper 5 = .ok (.ifCond .eq 28, 3) := by decide +kernel
theorem dX9_upper_8 : decode cX9_upper 8 = .ok (.iload_n 3, 1) := by decide +kernel
theorem dX9_upper_9 : decode cX9_upper 9 = .ok (.invokestatic 65, 3) := by decide +kernel
theorem dX9_upper_12 : decode cX9_upper 12 = .ok (.ifCond .eq 21, 3) := by decide +kernel
theorem dX9_upper_15 : decode cX9_upper 15 = .ok (.iload 4, 2) := by decide +kernel
theorem dX9_upper_17 : decode cX9_upper 17 = .ok (.iconst 0, 1) := by decide +kernel
theorem dX9_upper_18 : decode cX9_upper 18 = .ok (.iconst 1, 1) := by decide +kernel
theorem dX9_upper_19 : decode cX9_upper 19 = .ok (.invokestatic 69, 3) := by decide +kernel
theorem dX9_upper_22 : decode cX9_upper 22 = .ok (.ifCond .eq 11, 3) := by decide +kernel
theorem dX9_upper_25 : decode cX9_upper 25 = .ok (.iload 5, 2) := by decide +kernel
theorem dX9_upper_27 : decode cX9_upper 27 = .ok (.invokestatic 144, 3) := by decide +kernel
theorem dX9_upper_30 : decode cX9_upper 30 = .ok (.ifCond .ne 7, 3) := by decide +kernel
theorem dX9_upper_33 : decode cX9_upper 33 = .ok (.ldc2_w 147, 3) := by decide +kernel
theorem dX9_upper_36 : decode cX9_upper 36 = .ok (.lreturn, 1) := by decide +kernel
theorem dX9_upper_37 : decode cX9_upper 37 = .ok (.aload_n 0, 1) := by decide +kernel
theorem dX9_upper_38 : decode cX9_upper 38 = .ok (.getfield 34, 3) := by decide +kernel
theorem dX9_upper_41 : decode cX9_upper 41 = .ok (.iload_n 1, 1) := by decide +kernel
theorem dX9_upper_42 : decode cX9_upper 42 = .ok (.iload_n 2, 1) := by decide +kernel
theorem dX9_upper_43 : decode cX9_upper 43 = .ok (.iload_n 3, 1) := by decide +kernel
theorem dX9_upper_44 : decode cX9_upper 44 = .ok (.invokevirtual 149, 3) := by decide +kernel
theorem dX9_upper_47 : decode cX9_upper 47 = .ok (.lstore 6, 2) := by decide +kernel
theorem dX9_upper_49 : decode cX9_upper 49 = .ok (.iload 4, 2) := by decide +kernel
theorem dX9_upper_51 : decode cX9_upper 51 = .ok (.ifCond .ne 21, 3) := by decide +kernel
theorem dX9_upper_54 : decode cX9_upper 54 = .ok (.lload 6, 2) := by decide +kernel
theorem dX9_upper_56 : decode cX9_upper 56 = .ok (.aload_n 0, 1) := by decide +kernel
theorem dX9_upper_57 : decode cX9_upper 57 = .ok (.getfield 34, 3) := by decide +kernel
theorem dX9_upper_60 : decode cX9_upper 60 = .ok (.iload_n 1, 1) := by decide +kernel
theorem dX9_upper_61 : decode cX9_upper 61 = .ok (.iload_n 2, 1) := by decide +kernel
theorem dX9_upper_62 : decode cX9_upper 62 = .ok (.iconst 0, 1) := by decide +kernel
theorem dX9_upper_63 : decode cX9_upper 63 = .ok (.invokevirtual 149, 3) := by decide +kernel
theorem dX9_upper_66 : decode cX9_upper 66 = .ok (.iload 5, 2) := by decide +kernel
theorem dX9_upper_68 : decode cX9_upper 68 = .ok (.invokestatic 153, 3) := by decide +kernel
theorem dX9_upper_71 : decode cX9_upper 71 = .ok (.lreturn, 1) := by decide +kernel
theorem dX9_upper_72 : decode cX9_upper 72 = .ok (.aload_n 0, 1) := by decide +kernel
theorem dX9_upper_73 : decode cX9_upper 73 = .ok (.getfield 34, 3) := by decide +kernel
theorem dX9_upper_76 : decode cX9_upper 76 = .ok (.iload_n 1, 1) := by decide +kernel
theorem dX9_upper_77 : decode cX9_upper 77 = .ok (.iload_n 2, 1) := by decide +kernel
theorem dX9_upper_78 : decode cX9_upper 78 = .ok (.iload_n 3, 1) := by decide +kernel
theorem dX9_upper_79 : decode cX9_upper 79 = .ok (.invokevirtual 157, 3) := by decide +kernel
theorem dX9_upper_82 : decode cX9_upper 82 = .ok (.lload 6, 2) := by decide +kernel
theorem dX9_upper_84 : decode cX9_upper 84 = .ok (.iload 5, 2) := by decide +kernel
theorem dX9_upper_86 : decode cX9_upper 86 = .ok (.invokestatic 153, 3) := by decide +kernel
theorem dX9_upper_89 : decode cX9_upper 89 = .ok (.lreturn, 1) := by decide +kernel
theorem dX9_misfit_0 : decode cX9_misfit 0 = .ok (.aload_n 0, 1) := by decide +kernel
theorem dX9_misfit_1 : decode cX9_misfit 1 = .ok (.getfield 19, 3) := by decide +kernel
theorem dX9_misfit_4 : decode cX9_misfit 4 = .ok (.iload_n 1, 1) := by decide +kernel
theorem dX9_misfit_5 : decode cX9_misfit 5 = .ok (.invokevirtual 61, 3) := by decide +kernel
theorem dX9_misfit_8 : decode cX9_misfit 8 = .ok (.astore 5, 2) := by decide +kernel
theorem dX9_misfit_10 : decode cX9_misfit 10 = .ok (.aload 5, 2) := by decide +kernel
theorem dX9_misfit_12 : decode cX9_misfit 12 = .ok (.ifnonnull 5, 3) := by decide +kernel
theorem dX9_misfit_15 : decode cX9_misfit 15 = .ok (.iconst (-1), 1) := by decide +kernel
theorem dX9_misfit_16 : decode cX9_misfit 16 = .ok (.ireturn, 1) := by decide +kernel
theorem dX9_misfit_17 : decode cX9_misfit 17 = .ok (.iload_n 2, 1) := by decide +kernel
theorem dX9_misfit_18 : decode cX9_misfit 18 = .ok (.iload_n 3, 1) := by decide +kernel
theorem dX9_misfit_19 : decode cX9_misfit 19 = .ok (.invokestatic 137, 3) := by decide +kernel
theorem dX9_misfit_22 : decode cX9_misfit 22 = .ok (.ifCond .eq 11, 3) := by decide +kernel
theorem dX9_misfit_25 : decode cX9_misfit 25 = .ok (.iload 4, 2) := by decide +kernel
theorem dX9_misfit_27 : decode cX9_misfit 27 = .ok (.invokestatic 65, 3) := by decide +kernel
theorem dX9_misfit_30 : decode cX9_misfit 30 = .ok (.ifCond .ne 6, 3) := by decide +kernel
theorem dX9_misfit_33 : decode cX9_misfit 33 = .ok (.bipush (-2), 2) := by decide +kernel
theorem dX9_misfit_35 : decode cX9_misfit 35 = .ok (.ireturn, 1) := by decide +kernel
theorem dX9_misfit_36 : decode cX9_misfit 36 = .ok (.aload_n 0, 1) := by decide +kernel
theorem dX9_misfit_37 : decode cX9_misfit 37 = .ok (.getfield 43, 3) := by decide +kernel
theorem dX9_misfit_40 : decode cX9_misfit 40 = .ok (.aload 5, 2) := by decide +kernel
theorem dX9_misfit_42 : decode cX9_misfit 42 = .ok (.iload_n 2, 1) := by decide +kernel
theorem dX9_misfit_43 : decode cX9_misfit 43 = .ok (.iload_n 3, 1) := by decide +kernel
theorem dX9_misfit_44 : decode cX9_misfit 44 = .ok (.iload 4, 2) := by decide +kernel
theorem dX9_misfit_46 : decode cX9_misfit 46 = .ok (.aload_n 0, 1) := by decide +kernel
theorem dX9_misfit_47 : decode cX9_misfit 47 = .ok (.getfield 19, 3) := by decide +kernel
theorem dX9_misfit_50 : decode cX9_misfit 50 = .ok (.iconst 0, 1) := by decide +kernel
theorem dX9_misfit_51 : decode cX9_misfit 51 = .ok (.invokevirtual 97, 3) := by decide +kernel
theorem dX9_misfit_54 : decode cX9_misfit 54 = .ok (.invokevirtual 160, 3) := by decide +kernel
theorem dX9_misfit_57 : decode cX9_misfit 57 = .ok (.ireturn, 1) := by decide +kernel
theorem dX9_fit_0 : decode cX9_fit 0 = .ok (.aload_n 0, 1) := by decide +kernel
theorem dX9_fit_1 : decode cX9_fit 1 = .ok (.getfield 19, 3) := by decide +kernel
theorem dX9_fit_4 : decode cX9_fit 4 = .ok (.iload_n 1, 1) := by decide +kernel
theorem dX9_fit_5 : decode cX9_fit 5 = .ok (.invokevirtual 61, 3) := by decide +kernel
theorem dX9_fit_8 : decode cX9_fit 8 = .ok (.astore 4, 2) := by decide +kernel
theorem dX9_fit_10 : decode cX9_fit 10 = .ok (.aload 4, 2) := by decide +kernel
theorem dX9_fit_12 : decode cX9_fit 12 = .ok (.ifnonnull 5, 3) := by decide +kernel
theorem dX9_fit_15 : decode cX9_fit 15 = .ok (.iconst (-1), 1) := by decide +kernel
theorem dX9_fit_16 : decode cX9_fit 16 = .ok (.ireturn, 1) := by decide +kernel
theorem dX9_fit_17 : decode cX9_fit 17 = .ok (.iload_n 2, 1) := by decide +kernel
theorem dX9_fit_18 : decode cX9_fit 18 = .ok (.invokestatic 164, 3) := by decide +kernel
theorem dX9_fit_21 : decode cX9_fit 21 = .ok (.ifCond .eq 12, 3) := by decide +kernel
theorem dX9_fit_24 : decode cX9_fit 24 = .ok (.iload_n 3, 1) := by decide +kernel
theorem dX9_fit_25 : decode cX9_fit 25 = .ok (.iconst 0, 1) := by decide +kernel
theorem dX9_fit_26 : decode cX9_fit 26 = .ok (.iconst 1, 1) := by decide +kernel
theorem dX9_fit_27 : decode cX9_fit 27 = .ok (.invokestatic 69, 3) := by decide +kernel
theorem dX9_fit_30 : decode cX9_fit 30 = .ok (.ifCond .ne 6, 3) := by decide +kernel
theorem dX9_fit_33 : decode cX9_fit 33 = .ok (.bipush (-2), 2) := by decide +kernel
theorem dX9_fit_35 : decode cX9_fit 35 = .ok (.ireturn, 1) := by decide +kernel
theorem dX9_fit_36 : decode cX9_fit 36 = .ok (.aload_n 0, 1) := by decide +kernel
theorem dX9_fit_37 : decode cX9_fit 37 = .ok (.aload 4, 2) := by decide +kernel
theorem dX9_fit_39 : decode cX9_fit 39 = .ok (.iload_n 2, 1) := by decide +kernel
theorem dX9_fit_40 : decode cX9_fit 40 = .ok (.invokevirtual 167, 3) := by decide +kernel
theorem dX9_fit_43 : decode cX9_fit 43 = .ok (.iload_n 3, 1) := by decide +kernel
theorem dX9_fit_44 : decode cX9_fit 44 = .ok (.ifCond .ne 13, 3) := by decide +kernel
theorem dX9_fit_47 : decode cX9_fit 47 = .ok (.aload_n 0, 1) := by decide +kernel
theorem dX9_fit_48 : decode cX9_fit 48 = .ok (.getfield 43, 3) := by decide +kernel
theorem dX9_fit_51 : decode cX9_fit 51 = .ok (.getfield 171, 3) := by decide +kernel
theorem dX9_fit_54 : decode cX9_fit 54 = .ok (.goto 10, 3) := by decide +kernel
theorem dX9_fit_57 : decode cX9_fit 57 = .ok (.aload_n 0, 1) := by decide +kernel
theorem dX9_fit_58 : decode cX9_fit 58 = .ok (.getfield 43, 3) := by decide +kernel
theorem dX9_fit_61 : decode cX9_fit 61 = .ok (.getfield 174, 3) := by decide +kernel
theorem dX9_fit_64 : decode cX9_fit 64 = .ok (.ireturn, 1) := by decide +kernel
theorem dX9_span_0 : decode cX9_span 0 = .ok (.aload_n 0, 1) := by decide +kernel
theorem dX9_span_1 : decode cX9_span 1 = .ok (.getfield 19, 3) := by decide +kernel
theorem dX9_span_4 : decode cX9_span 4 = .ok (.iload_n 1, 1) := by decide +kernel
theorem dX9_span_5 : decode cX9_span 5 = .ok (.invokevirtual 61, 3) := by decide +kernel
theorem dX9_span_8 : decode cX9_span 8 = .ok (.astore 5, 2) := by decide +kernel
theorem dX9_span_10 : decode cX9_span 10 = .ok (.aload 5, 2) := by decide +kernel
theorem dX9_span_12 : decode cX9_span 12 = .ok (.ifnonnull 5, 3) := by decide +kernel
theorem dX9_span_15 : decode cX9_span 15 = .ok (.iconst (-1), 1) := by decide +kernel
theorem dX9_span_16 : decode cX9_span 16 = .ok (.ireturn, 1) := by decide +kernel
theorem dX9_span_17 : decode cX9_span 17 = .ok (.iload_n 2, 1) := by decide +kernel
theorem dX9_span_18 : decode cX9_span 18 = .ok (.invokestatic 164, 3) := by decide +kernel
theorem dX9_span_21 : decode cX9_span 21 = .ok (.ifCond .eq 24, 3) := by decide +kernel
theorem dX9_span_24 : decode cX9_span 24 = .ok (.iload_n 3, 1) := by decide +kernel
theorem dX9_span_25 : decode cX9_span 25 = .ok (.iconst 0, 1) := by decide +kernel
theorem dX9_span_26 : decode cX9_span 26 = .ok (.sipush 999, 3) := by decide +kernel
theorem dX9_span_29 : decode cX9_span 29 = .ok (.invokestatic 69, 3) := by decide +kernel
theorem dX9_span_32 : decode cX9_span 32 = .ok (.ifCond .eq 13, 3) := by decide +kernel
theorem dX9_span_35 : decode cX9_span 35 = .ok (.iload 4, 2) := by decide +kernel
theorem dX9_span_37 : decode cX9_span 37 = .ok (.iconst 0, 1) := by decide +kernel
theorem dX9_span_38 : decode cX9_span 38 = .ok (.iconst 1, 1) := by decide +kernel
theorem dX9_span_39 : decode cX9_span 39 = .ok (.invokestatic 69, 3) := by decide +kernel
theorem dX9_span_42 : decode cX9_span 42 = .ok (.ifCond .ne 6, 3) := by decide +kernel
theorem dX9_span_45 : decode cX9_span 45 = .ok (.bipush (-2), 2) := by decide +kernel
theorem dX9_span_47 : decode cX9_span 47 = .ok (.ireturn, 1) := by decide +kernel
theorem dX9_span_48 : decode cX9_span 48 = .ok (.aload_n 0, 1) := by decide +kernel
theorem dX9_span_49 : decode cX9_span 49 = .ok (.aload 5, 2) := by decide +kernel
theorem dX9_span_51 : decode cX9_span 51 = .ok (.iload_n 2, 1) := by decide +kernel
theorem dX9_span_52 : decode cX9_span 52 = .ok (.iload_n 3, 1) := by decide +kernel
theorem dX9_span_53 : decode cX9_span 53 = .ok (.invokevirtual 177, 3) := by decide +kernel
theorem dX9_span_56 : decode cX9_span 56 = .ok (.iload 4, 2) := by decide +kernel
theorem dX9_span_58 : decode cX9_span 58 = .ok (.ifCond .ne 13, 3) := by decide +kernel
theorem dX9_span_61 : decode cX9_span 61 = .ok (.aload_n 0, 1) := by decide +kernel
theorem dX9_span_62 : decode cX9_span 62 = .ok (.getfield 43, 3) := by decide +kernel
theorem dX9_span_65 : decode cX9_span 65 = .ok (.getfield 181, 3) := by decide +kernel
theorem dX9_span_68 : decode cX9_span 68 = .ok (.goto 10, 3) := by decide +kernel
theorem dX9_span_71 : decode cX9_span 71 = .ok (.aload_n 0, 1) := by decide +kernel
theorem dX9_span_72 : decode cX9_span 72 = .ok (.getfield 43, 3) := by decide +kernel
theorem dX9_span_75 : decode cX9_span 75 = .ok (.getfield 184, 3) := by decide +kernel
theorem dX9_span_78 : decode cX9_span 78 = .ok (.ireturn, 1) := by decide +kernel
theorem dX9_found_0 : decode cX9_found 0 = .ok (.aload_n 0, 1) := by decide +kernel
theorem dX9_found_1 : decode cX9_found 1 = .ok (.getfield 19, 3) := by decide +kernel
theorem dX9_found_4 : decode cX9_found 4 = .ok (.iload_n 1, 1) := by decide +kernel
theorem dX9_found_5 : decode cX9_found 5 = .ok (.invokevirtual 61, 3) := by decide +kernel
theorem dX9_found_8 : decode cX9_found 8 = .ok (.astore 4, 2) := by decide +kernel
theorem dX9_found_10 : decode cX9_found 10 = .ok (.aload 4, 2) := by decide +kernel
theorem dX9_found_12 : decode cX9_found 12 = .ok (.ifnonnull 5, 3) := by decide +kernel
theorem dX9_found_15 : decode cX9_found 15 = .ok (.iconst (-1), 1) := by decide +kernel
theorem dX9_found_16 : decode cX9_found 16 = .ok (.ireturn, 1) := by decide +kernel
theorem dX9_found_17 : decode cX9_found 17 = .ok (.iload_n 2, 1) := by decide +kernel
theorem dX9_found_18 : decode cX9_found 18 = .ok (.invokestatic 164, 3) := by decide +kernel
theorem dX9_found_21 : decode cX9_found 21 = .ok (.ifCond .eq 12, 3) := by decide +kernel
theorem dX9_found_24 : decode cX9_found 24 = .ok (.iload_n 3, 1) := by decide +kernel
theorem dX9_found_25 : decode cX9_found 25 = .ok (.iconst 0, 1) := by decide +kernel
theorem dX9_found_26 : decode cX9_found 26 = .ok (.iconst 2, 1) := by decide +kernel
theorem dX9_found_27 : decode cX9_found 27 = .ok (.invokestatic 69, 3) := by decide +kernel
theorem dX9_found_30 : decode cX9_found 30 = .ok (.ifCond .ne 6, 3) := by decide +kernel
theorem dX9_found_33 : decode cX9_found 33 = .ok (.bipush (-2), 2) := by decide +kernel
theorem dX9_found_35 : decode cX9_found 35 = .ok (.ireturn, 1) := by decide +kernel
theorem dX9_found_36 : decode cX9_found 36 = .ok (.aload_n 0, 1) := by decide +kernel
theorem dX9_found_37 : decode cX9_found 37 = .ok (.getfield 43, 3) := by decide +kernel
theorem dX9_found_40 : decode cX9_found 40 = .ok (.aload 4, 2) := by decide +kernel
theorem dX9_found_42 : decode cX9_found 42 = .ok (.iload_n 2, 1) := by decide +kernel
theorem dX9_found_43 : decode cX9_found 43 = .ok (.aload_n 0, 1) := by decide +kernel
theorem dX9_found_44 : decode cX9_found 44 = .ok (.getfield 19, 3) := by decide +kernel
theorem dX9_found_47 : decode cX9_found 47 = .ok (.iconst 0, 1) := by decide +kernel
theorem dX9_found_48 : decode cX9_found 48 = .ok (.invokevirtual 97, 3) := by decide +kernel
theorem dX9_found_51 : decode cX9_found 51 = .ok (.invokevirtual 187, 3) := by decide +kernel
theorem dX9_found_54 : decode cX9_found 54 = .ok (.iload_n 3, 1) := by decide +kernel
theorem dX9_found_55 : decode cX9_found 55 = .ok (.ifCond .ne 11, 3) := by decide +kernel
theorem dX9_found_58 : decode cX9_found 58 = .ok (.aload_n 0, 1) := by decide +kernel
theorem dX9_found_59 : decode cX9_found 59 = .ok (.getfield 43, 3) := by decide +kernel
theorem dX9_found_62 : decode cX9_found 62 = .ok (.getfield 190, 3) := by decide +kernel
theorem dX9_found_65 : decode cX9_found 65 = .ok (.ireturn, 1) := by decide +kernel
theorem dX9_found_66 : decode cX9_found 66 = .ok (.iload_n 3, 1) := by decide +kernel
theorem dX9_found_67 : decode cX9_found 67 = .ok (.iconst 1, 1) := by decide +kernel
theorem dX9_found_68 : decode cX9_found 68 = .ok (.if_icmp .ne 13, 3) := by decide +kernel
theorem dX9_found_71 : decode cX9_found 71 = .ok (.aload_n 0, 1) := by decide +kernel
theorem dX9_found_72 : decode cX9_found 72 = .ok (.getfield 43, 3) := by decide +kernel
theorem dX9_found_75 : decode cX9_found 75 = .ok (.getfield 171, 3) := by decide +kernel
theorem dX9_found_78 : decode cX9_found 78 = .ok (.goto 10, 3) := by decide +kernel
theorem dX9_found_81 : decode cX9_found 81 = .ok (.aload_n 0, 1) := by decide +kernel
theorem dX9_found_82 : decode cX9_found 82 = .ok (.getfield 43, 3) := by decide +kernel
theorem dX9_found_85 : decode cX9_found 85 = .ok (.getfield 174, 3) := by decide +kernel
theorem dX9_found_88 : decode cX9_found 88 = .ok (.ireturn, 1) := by decide +kernel
theorem dX9_written_0 : decode cX9_written 0 = .ok (.iload_n 1, 1) := by decide +kernel
theorem dX9_written_1 : decode cX9_written 1 = .ok (.invokestatic 65, 3) := by decide +kernel
theorem dX9_written_4 : decode cX9_written 4 = .ok (.ifCond .eq 25, 3) := by decide +kernel
theorem dX9_written_7 : decode cX9_written 7 = .ok (.iload_n 2, 1) := by decide +kernel
theorem dX9_written_8 : decode cX9_written 8 = .ok (.invokestatic 65, 3) := by decide +kernel
theorem dX9_written_11 : decode cX9_written 11 = .ok (.ifCond .eq 18, 3) := by decide +kernel
theorem dX9_written_14 : decode cX9_written 14 = .ok (.iload_n 3, 1) := by decide +kernel
theorem dX9_written_15 : decode cX9_written 15 = .ok (.invokestatic 65, 3) := by decide +kernel
theorem dX9_written_18 : decode cX9_written 18 = .ok (.ifCond .eq 11, 3) := by decide +kernel
theorem dX9_written_21 : decode cX9_written 21 = .ok (.iload 4, 2) := by decide +kernel
theorem dX9_written_23 : decode cX9_written 23 = .ok (.invokestatic 144, 3) := by decide +kernel
theorem dX9_written_26 : decode cX9_written 26 = .ok (.ifCond .ne 7, 3) := by decide +kernel
theorem dX9_written_29 : decode cX9_written 29 = .ok (.ldc2_w 147, 3) := by decide +kernel
theorem dX9_written_32 : decode cX9_written 32 = .ok (.lreturn, 1) := by decide +kernel
theorem dX9_written_33 : decode cX9_written 33 = .ok (.aload_n 0, 1) := by decide +kernel
theorem dX9_written_34 : decode cX9_written 34 = .ok (.getfield 19, 3) := by decide +kernel
theorem dX9_written_37 : decode cX9_written 37 = .ok (.iload_n 1, 1) := by decide +kernel
theorem dX9_written_38 : decode cX9_written 38 = .ok (.iload_n 2, 1) := by decide +kernel
theorem dX9_written_39 : decode cX9_written 39 = .ok (.iload_n 3, 1) := by decide +kernel
theorem dX9_written_40 : decode cX9_written 40 = .ok (.invokevirtual 193, 3) := by decide +kernel
theorem dX9_written_43 : decode cX9_written 43 = .ok (.i2l, 1) := by decide +kernel
theorem dX9_written_44 : decode cX9_written 44 = .ok (.ldc2_w 196, 3) := by decide +kernel
theorem dX9_written_47 : decode cX9_written 47 = .ok (.iload 4, 2) := by decide +kernel
theorem dX9_written_49 : decode cX9_written 49 = .ok (.invokestatic 153, 3) := by decide +kernel
theorem dX9_written_52 : decode cX9_written 52 = .ok (.lreturn, 1) := by decide +kernel
theorem dX9_back_0 : decode cX9_back 0 = .ok (.iload_n 1, 1) := by decide +kernel
theorem dX9_back_1 : decode cX9_back 1 = .ok (.iload_n 2, 1) := by decide +kernel
theorem dX9_back_2 : decode cX9_back 2 = .ok (.invokestatic 137, 3) := by decide +kernel
theorem dX9_back_5 : decode cX9_back 5 = .ok (.ifCond .eq 34, 3) := by decide +kernel
theorem dX9_back_8 : decode cX9_back 8 = .ok (.iload_n 3, 1) := by decide +kernel
theorem dX9_back_9 : decode cX9_back 9 = .ok (.invokestatic 65, 3) := by decide +kernel
theorem dX9_back_12 : decode cX9_back 12 = .ok (.ifCond .eq 27, 3) := by decide +kernel
theorem dX9_back_15 : decode cX9_back 15 = .ok (.iload 4, 2) := by decide +kernel
theorem dX9_back_17 : decode cX9_back 17 = .ok (.invokestatic 65, 3) := by decide +kernel
theorem dX9_back_20 : decode cX9_back 20 = .ok (.ifCond .eq 19, 3) := by decide +kernel
theorem dX9_back_23 : decode cX9_back 23 = .ok (.iload 5, 2) := by decide +kernel
theorem dX9_back_25 : decode cX9_back 25 = .ok (.invokestatic 65, 3) := by decide +kernel
theorem dX9_back_28 : decode cX9_back 28 = .ok (.ifCond .eq 11, 3) := by decide +kernel
theorem dX9_back_31 : decode cX9_back 31 = .ok (.iload 6, 2) := by decide +kernel
theorem dX9_back_33 : decode cX9_back 33 = .ok (.invokestatic 144, 3) := by decide +kernel
theorem dX9_back_36 : decode cX9_back 36 = .ok (.ifCond .ne 7, 3) := by decide +kernel
theorem dX9_back_39 : decode cX9_back 39 = .ok (.ldc2_w 147, 3) := by decide +kernel
theorem dX9_back_42 : decode cX9_back 42 = .ok (.lreturn, 1) := by decide +kernel
theorem dX9_back_43 : decode cX9_back 43 = .ok (.lconst 0, 1) := by decide +kernel
theorem dX9_back_44 : decode cX9_back 44 = .ok (.lstore 7, 2) := by decide +kernel
theorem dX9_back_46 : decode cX9_back 46 = .ok (.iconst 0, 1) := by decide +kernel
theorem dX9_back_47 : decode cX9_back 47 = .ok (.istore 9, 2) := by decide +kernel
theorem dX9_back_49 : decode cX9_back 49 = .ok (.iload 9, 2) := by decide +kernel
theorem dX9_back_51 : decode cX9_back 51 = .ok (.bipush 64, 2) := by decide +kernel
theorem dX9_back_53 : decode cX9_back 53 = .ok (.if_icmp .ge 40, 3) := by decide +kernel
theorem dX9_back_56 : decode cX9_back 56 = .ok (.lload 7, 2) := by decide +kernel
theorem dX9_back_58 : decode cX9_back 58 = .ok (.aload_n 0, 1) := by decide +kernel
theorem dX9_back_59 : decode cX9_back 59 = .ok (.getfield 34, 3) := by decide +kernel
theorem dX9_back_62 : decode cX9_back 62 = .ok (.iload_n 1, 1) := by decide +kernel
theorem dX9_back_63 : decode cX9_back 63 = .ok (.iload_n 2, 1) := by decide +kernel
theorem dX9_back_64 : decode cX9_back 64 = .ok (.iload 9, 2) := by decide +kernel
theorem dX9_back_66 : decode cX9_back 66 = .ok (.invokevirtual 141, 3) := by decide +kernel
theorem dX9_back_69 : decode cX9_back 69 = .ok (.i2l, 1) := by decide +kernel
theorem dX9_back_70 : decode cX9_back 70 = .ok (.aload_n 0, 1) := by decide +kernel
theorem dX9_back_71 : decode cX9_back 71 = .ok (.getfield 19, 3) := by decide +kernel
theorem dX9_back_74 : decode cX9_back 74 = .ok (.iload_n 3, 1) := by decide +kernel
theorem dX9_back_75 : decode cX9_back 75 = .ok (.iload 9, 2) := by decide +kernel
theorem dX9_back_77 : decode cX9_back 77 = .ok (.iload 4, 2) := by decide +kernel
theorem dX9_back_79 : decode cX9_back 79 = .ok (.invokevirtual 193, 3) := by decide +kernel
theorem dX9_back_82 : decode cX9_back 82 = .ok (.i2l, 1) := by decide +kernel
theorem dX9_back_83 : decode cX9_back 83 = .ok (.lmul, 1) := by decide +kernel
theorem dX9_back_84 : decode cX9_back 84 = .ok (.ladd, 1) := by decide +kernel
theorem dX9_back_85 : decode cX9_back 85 = .ok (.lstore 7, 2) := by decide +kernel
theorem dX9_back_87 : decode cX9_back 87 = .ok (.iinc 9 1, 3) := by decide +kernel
theorem dX9_back_90 : decode cX9_back 90 = .ok (.goto (-41), 3) := by decide +kernel
theorem dX9_back_93 : decode cX9_back 93 = .ok (.aload_n 0, 1) := by decide +kernel
theorem dX9_back_94 : decode cX9_back 94 = .ok (.getfield 34, 3) := by decide +kernel
theorem dX9_back_97 : decode cX9_back 97 = .ok (.iload_n 1, 1) := by decide +kernel
theorem dX9_back_98 : decode cX9_back 98 = .ok (.iload_n 2, 1) := by decide +kernel
theorem dX9_back_99 : decode cX9_back 99 = .ok (.iload 5, 2) := by decide +kernel
theorem dX9_back_101 : decode cX9_back 101 = .ok (.invokevirtual 141, 3) := by decide +kernel
theorem dX9_back_104 : decode cX9_back 104 = .ok (.i2l, 1) := by decide +kernel
theorem dX9_back_105 : decode cX9_back 105 = .ok (.aload_n 0, 1) := by decide +kernel
theorem dX9_back_106 : decode cX9_back 106 = .ok (.getfield 19, 3) := by decide +kernel
theorem dX9_back_109 : decode cX9_back 109 = .ok (.iload_n 3, 1) := by decide +kernel
theorem dX9_back_110 : decode cX9_back 110 = .ok (.iload 5, 2) := by decide +kernel
theorem dX9_back_112 : decode cX9_back 112 = .ok (.iload 4, 2) := by decide +kernel
theorem dX9_back_114 : decode cX9_back 114 = .ok (.invokevirtual 193, 3) := by decide +kernel
theorem dX9_back_117 : decode cX9_back 117 = .ok (.i2l, 1) := by decide +kernel
theorem dX9_back_118 : decode cX9_back 118 = .ok (.lmul, 1) := by decide +kernel
theorem dX9_back_119 : decode cX9_back 119 = .ok (.lstore 9, 2) := by decide +kernel
theorem dX9_back_121 : decode cX9_back 121 = .ok (.lload 9, 2) := by decide +kernel
theorem dX9_back_123 : decode cX9_back 123 = .ok (.lload 7, 2) := by decide +kernel
theorem dX9_back_125 : decode cX9_back 125 = .ok (.iload 6, 2) := by decide +kernel
theorem dX9_back_127 : decode cX9_back 127 = .ok (.invokestatic 153, 3) := by decide +kernel
theorem dX9_back_130 : decode cX9_back 130 = .ok (.lreturn, 1) := by decide +kernel
theorem dX9_pile_0 : decode cX9_pile 0 = .ok (.aload_n 0, 1) := by decide +kernel
theorem dX9_pile_1 : decode cX9_pile 1 = .ok (.getfield 19, 3) := by decide +kernel
theorem dX9_pile_4 : decode cX9_pile 4 = .ok (.iload_n 1, 1) := by decide +kernel
theorem dX9_pile_5 : decode cX9_pile 5 = .ok (.invokevirtual 61, 3) := by decide +kernel
theorem dX9_pile_8 : decode cX9_pile 8 = .ok (.astore_n 3, 1) := by decide +kernel
theorem dX9_pile_9 : decode cX9_pile 9 = .ok (.aload_n 3, 1) := by decide +kernel
theorem dX9_pile_10 : decode cX9_pile 10 = .ok (.ifnonnull 7, 3) := by decide +kernel
theorem dX9_pile_13 : decode cX9_pile 13 = .ok (.ldc2_w 198, 3) := by decide +kernel
theorem dX9_pile_16 : decode cX9_pile 16 = .ok (.lreturn, 1) := by decide +kernel
theorem dX9_pile_17 : decode cX9_pile 17 = .ok (.iload_n 2, 1) := by decide +kernel
theorem dX9_pile_18 : decode cX9_pile 18 = .ok (.invokestatic 144, 3) := by decide +kernel
theorem dX9_pile_21 : decode cX9_pile 21 = .ok (.ifCond .ne 7, 3) := by decide +kernel
theorem dX9_pile_24 : decode cX9_pile 24 = .ok (.ldc2_w 147, 3) := by decide +kernel
theorem dX9_pile_27 : decode cX9_pile 27 = .ok (.lreturn, 1) := by decide +kernel
theorem dX9_pile_28 : decode cX9_pile 28 = .ok (.ldc2_w 200, 3) := by decide +kernel
theorem dX9_pile_31 : decode cX9_pile 31 = .ok (.aload_n 3, 1) := by decide +kernel
theorem dX9_pile_32 : decode cX9_pile 32 = .ok (.invokevirtual 202, 3) := by decide +kernel
theorem dX9_pile_35 : decode cX9_pile 35 = .ok (.i2l, 1) := by decide +kernel
theorem dX9_pile_36 : decode cX9_pile 36 = .ok (.lmul, 1) := by decide +kernel
theorem dX9_pile_37 : decode cX9_pile 37 = .ok (.aload_n 3, 1) := by decide +kernel
theorem dX9_pile_38 : decode cX9_pile 38 = .ok (.getfield 205, 3) := by decide +kernel
theorem dX9_pile_41 : decode cX9_pile 41 = .ok (.i2l, 1) := by decide +kernel
theorem dX9_pile_42 : decode cX9_pile 42 = .ok (.iload_n 2, 1) := by decide +kernel
theorem dX9_pile_43 : decode cX9_pile 43 = .ok (.invokestatic 153, 3) := by decide +kernel
theorem dX9_pile_46 : decode cX9_pile 46 = .ok (.lreturn, 1) := by decide +kernel
theorem dX9_grown_0 : decode cX9_grown 0 = .ok (.aload_n 0, 1) := by decide +kernel
theorem dX9_grown_1 : decode cX9_grown 1 = .ok (.getfield 19, 3) := by decide +kernel
theorem dX9_grown_4 : decode cX9_grown 4 = .ok (.iload_n 1, 1) := by decide +kernel
theorem dX9_grown_5 : decode cX9_grown 5 = .ok (.invokevirtual 61, 3) := by decide +kernel
theorem dX9_grown_8 : decode cX9_grown 8 = .ok (.astore 4, 2) := by decide +kernel
theorem dX9_grown_10 : decode cX9_grown 10 = .ok (.aload 4, 2) := by decide +kernel
theorem dX9_grown_12 : decode cX9_grown 12 = .ok (.ifnonnull 7, 3) := by decide +kernel
theorem dX9_grown_15 : decode cX9_grown 15 = .ok (.ldc2_w 198, 3) := by decide +kernel
theorem dX9_grown_18 : decode cX9_grown 18 = .ok (.lreturn, 1) := by decide +kernel
theorem dX9_grown_19 : decode cX9_grown 19 = .ok (.iload_n 2, 1) := by decide +kernel
theorem dX9_grown_20 : decode cX9_grown 20 = .ok (.iconst 0, 1) := by decide +kernel
theorem dX9_grown_21 : decode cX9_grown 21 = .ok (.iconst 1, 1) := by decide +kernel
theorem dX9_grown_22 : decode cX9_grown 22 = .ok (.invokestatic 69, 3) := by decide +kernel
theorem dX9_grown_25 : decode cX9_grown 25 = .ok (.ifCond .eq 10, 3) := by decide +kernel
theorem dX9_grown_28 : decode cX9_grown 28 = .ok (.iload_n 3, 1) := by decide +kernel
theorem dX9_grown_29 : decode cX9_grown 29 = .ok (.invokestatic 144, 3) := by decide +kernel
theorem dX9_grown_32 : decode cX9_grown 32 = .ok (.ifCond .ne 7, 3) := by decide +kernel
theorem dX9_grown_35 : decode cX9_grown 35 = .ok (.ldc2_w 147, 3) := by decide +kernel
theorem dX9_grown_38 : decode cX9_grown 38 = .ok (.lreturn, 1) := by decide +kernel
theorem dX9_grown_39 : decode cX9_grown 39 = .ok (.iload_n 2, 1) := by decide +kernel
theorem dX9_grown_40 : decode cX9_grown 40 = .ok (.ifCond .ne 23, 3) := by decide +kernel
theorem dX9_grown_43 : decode cX9_grown 43 = .ok (.aload_n 0, 1) := by decide +kernel
theorem dX9_grown_44 : decode cX9_grown 44 = .ok (.getfield 19, 3) := by decide +kernel
theorem dX9_grown_47 : decode cX9_grown 47 = .ok (.aload 4, 2) := by decide +kernel
theorem dX9_grown_49 : decode cX9_grown 49 = .ok (.iconst 1, 1) := by decide +kernel
theorem dX9_grown_50 : decode cX9_grown 50 = .ok (.invokevirtual 88, 3) := by decide +kernel
theorem dX9_grown_53 : decode cX9_grown 53 = .ok (.invokevirtual 208, 3) := by decide +kernel
theorem dX9_grown_56 : decode cX9_grown 56 = .ok (.i2l, 1) := by decide +kernel
theorem dX9_grown_57 : decode cX9_grown 57 = .ok (.lconst 1, 1) := by decide +kernel
theorem dX9_grown_58 : decode cX9_grown 58 = .ok (.iload_n 3, 1) := by decide +kernel
theorem dX9_grown_59 : decode cX9_grown 59 = .ok (.invokestatic 153, 3) := by decide +kernel
theorem dX9_grown_62 : decode cX9_grown 62 = .ok (.lreturn, 1) := by decide +kernel
theorem dX9_grown_63 : decode cX9_grown 63 = .ok (.aload_n 0, 1) := by decide +kernel
theorem dX9_grown_64 : decode cX9_grown 64 = .ok (.getfield 19, 3) := by decide +kernel
theorem dX9_grown_67 : decode cX9_grown 67 = .ok (.aload 4, 2) := by decide +kernel
theorem dX9_grown_69 : decode cX9_grown 69 = .ok (.invokevirtual 211, 3) := by decide +kernel
theorem dX9_grown_72 : decode cX9_grown 72 = .ok (.i2l, 1) := by decide +kernel
theorem dX9_grown_73 : decode cX9_grown 73 = .ok (.ldc2_w 214, 3) := by decide +kernel
theorem dX9_grown_76 : decode cX9_grown 76 = .ok (.iload_n 3, 1) := by decide +kernel
theorem dX9_grown_77 : decode cX9_grown 77 = .ok (.invokestatic 153, 3) := by decide +kernel
theorem dX9_grown_80 : decode cX9_grown 80 = .ok (.lreturn, 1) := by decide +kernel
theorem dX9_right_0 : decode cX9_right 0 = .ok (.aload_n 0, 1) := by decide +kernel
theorem dX9_right_1 : decode cX9_right 1 = .ok (.getfield 19, 3) := by decide +kernel
theorem dX9_right_4 : decode cX9_right 4 = .ok (.iload_n 1, 1) := by decide +kernel
theorem dX9_right_5 : decode cX9_right 5 = .ok (.invokevirtual 61, 3) := by decide +kernel
theorem dX9_right_8 : decode cX9_right 8 = .ok (.astore 4, 2) := by decide +kernel
theorem dX9_right_10 : decode cX9_right 10 = .ok (.aload 4, 2) := by decide +kernel
theorem dX9_right_12 : decode cX9_right 12 = .ok (.ifnonnull 7, 3) := by decide +kernel
theorem dX9_right_15 : decode cX9_right 15 = .ok (.ldc2_w 198, 3) := by decide +kernel
theorem dX9_right_18 : decode cX9_right 18 = .ok (.lreturn, 1) := by decide +kernel
theorem dX9_right_19 : decode cX9_right 19 = .ok (.iload_n 2, 1) := by decide +kernel
theorem dX9_right_20 : decode cX9_right 20 = .ok (.invokestatic 164, 3) := by decide +kernel
theorem dX9_right_23 : decode cX9_right 23 = .ok (.ifCond .eq 10, 3) := by decide +kernel
theorem dX9_right_26 : decode cX9_right 26 = .ok (.iload_n 3, 1) := by decide +kernel
theorem dX9_right_27 : decode cX9_right 27 = .ok (.invokestatic 144, 3) := by decide +kernel
theorem dX9_right_30 : decode cX9_right 30 = .ok (.ifCond .ne 7, 3) := by decide +kernel
theorem dX9_right_33 : decode cX9_right 33 = .ok (.ldc2_w 147, 3) := by decide +kernel
theorem dX9_right_36 : decode cX9_right 36 = .ok (.lreturn, 1) := by decide +kernel
theorem dX9_right_37 : decode cX9_right 37 = .ok (.aload_n 0, 1) := by decide +kernel
theorem dX9_right_38 : decode cX9_right 38 = .ok (.aload 4, 2) := by decide +kernel
theorem dX9_right_40 : decode cX9_right 40 = .ok (.iload_n 2, 1) := by decide +kernel
theorem dX9_right_41 : decode cX9_right 41 = .ok (.invokevirtual 167, 3) := by decide +kernel
theorem dX9_right_44 : decode cX9_right 44 = .ok (.ldc2_w 214, 3) := by decide +kernel
theorem dX9_right_47 : decode cX9_right 47 = .ok (.aload_n 0, 1) := by decide +kernel
theorem dX9_right_48 : decode cX9_right 48 = .ok (.getfield 43, 3) := by decide +kernel
theorem dX9_right_51 : decode cX9_right 51 = .ok (.getfield 171, 3) := by decide +kernel
theorem dX9_right_54 : decode cX9_right 54 = .ok (.i2l, 1) := by decide +kernel
theorem dX9_right_55 : decode cX9_right 55 = .ok (.lmul, 1) := by decide +kernel
theorem dX9_right_56 : decode cX9_right 56 = .ok (.aload_n 0, 1) := by decide +kernel
theorem dX9_right_57 : decode cX9_right 57 = .ok (.getfield 19, 3) := by decide +kernel
theorem dX9_right_60 : decode cX9_right 60 = .ok (.aload 4, 2) := by decide +kernel
theorem dX9_right_62 : decode cX9_right 62 = .ok (.invokevirtual 211, 3) := by decide +kernel
theorem dX9_right_65 : decode cX9_right 65 = .ok (.i2l, 1) := by decide +kernel
theorem dX9_right_66 : decode cX9_right 66 = .ok (.ladd, 1) := by decide +kernel
theorem dX9_right_67 : decode cX9_right 67 = .ok (.ldc2_w 214, 3) := by decide +kernel
theorem dX9_right_70 : decode cX9_right 70 = .ok (.iload_n 3, 1) := by decide +kernel
theorem dX9_right_71 : decode cX9_right 71 = .ok (.invokestatic 153, 3) := by decide +kernel
theorem dX9_right_74 : decode cX9_right 74 = .ok (.lreturn, 1) := by decide +kernel
theorem dX9_mix_0 : decode cX9_mix 0 = .ok (.iload_n 1, 1) := by decide +kernel
theorem dX9_mix_1 : decode cX9_mix 1 = .ok (.iload_n 2, 1) := by decide +kernel
theorem dX9_mix_2 : decode cX9_mix 2 = .ok (.iload_n 3, 1) := by decide +kernel
theorem dX9_mix_3 : decode cX9_mix 3 = .ok (.iload 4, 2) := by decide +kernel
theorem dX9_mix_5 : decode cX9_mix 5 = .ok (.invokestatic 216, 3) := by decide +kernel
theorem dX9_mix_8 : decode cX9_mix 8 = .ok (.ifCond .eq 19, 3) := by decide +kernel
theorem dX9_mix_11 : decode cX9_mix 11 = .ok (.iload 5, 2) := by decide +kernel
theorem dX9_mix_13 : decode cX9_mix 13 = .ok (.invokestatic 220, 3) := by decide +kernel
theorem dX9_mix_16 : decode cX9_mix 16 = .ok (.ifCond .eq 11, 3) := by decide +kernel
theorem dX9_mix_19 : decode cX9_mix 19 = .ok (.iload 6, 2) := by decide +kernel
theorem dX9_mix_21 : decode cX9_mix 21 = .ok (.invokestatic 144, 3) := by decide +kernel
theorem dX9_mix_24 : decode cX9_mix 24 = .ok (.ifCond .ne 7, 3) := by decide +kernel
theorem dX9_mix_27 : decode cX9_mix 27 = .ok (.ldc2_w 147, 3) := by decide +kernel
theorem dX9_mix_30 : decode cX9_mix 30 = .ok (.lreturn, 1) := by decide +kernel
theorem dX9_mix_31 : decode cX9_mix 31 = .ok (.new 223, 3) := by decide +kernel
theorem dX9_mix_34 : decode cX9_mix 34 = .ok (.dup, 1) := by decide +kernel
theorem dX9_mix_35 : decode cX9_mix 35 = .ok (.aload_n 0, 1) := by decide +kernel
theorem dX9_mix_36 : decode cX9_mix 36 = .ok (.getfield 34, 3) := by decide +kernel
theorem dX9_mix_39 : decode cX9_mix 39 = .ok (.iload_n 1, 1) := by decide +kernel
theorem dX9_mix_40 : decode cX9_mix 40 = .ok (.iload_n 2, 1) := by decide +kernel
theorem dX9_mix_41 : decode cX9_mix 41 = .ok (.iload_n 3, 1) := by decide +kernel
theorem dX9_mix_42 : decode cX9_mix 42 = .ok (.iload 4, 2) := by decide +kernel
theorem dX9_mix_44 : decode cX9_mix 44 = .ok (.invokespecial 225, 3) := by decide +kernel
theorem dX9_mix_47 : decode cX9_mix 47 = .ok (.astore 7, 2) := by decide +kernel
theorem dX9_mix_49 : decode cX9_mix 49 = .ok (.aload 7, 2) := by decide +kernel
theorem dX9_mix_51 : decode cX9_mix 51 = .ok (.iload 5, 2) := by decide +kernel
theorem dX9_mix_53 : decode cX9_mix 53 = .ok (.invokevirtual 228, 3) := by decide +kernel
theorem dX9_mix_56 : decode cX9_mix 56 = .ok (.ifCond .eq 7, 3) := by decide +kernel
theorem dX9_mix_59 : decode cX9_mix 59 = .ok (.ldc2_w 231, 3) := by decide +kernel
theorem dX9_mix_62 : decode cX9_mix 62 = .ok (.lreturn, 1) := by decide +kernel
theorem dX9_mix_63 : decode cX9_mix 63 = .ok (.aload 7, 2) := by decide +kernel
theorem dX9_mix_65 : decode cX9_mix 65 = .ok (.iload 5, 2) := by decide +kernel
theorem dX9_mix_67 : decode cX9_mix 67 = .ok (.invokevirtual 233, 3) := by decide +kernel
theorem dX9_mix_70 : decode cX9_mix 70 = .ok (.aload 7, 2) := by decide +kernel
theorem dX9_mix_72 : decode cX9_mix 72 = .ok (.iload 5, 2) := by decide +kernel
theorem dX9_mix_74 : decode cX9_mix 74 = .ok (.invokevirtual 237, 3) := by decide +kernel
theorem dX9_mix_77 : decode cX9_mix 77 = .ok (.iload 6, 2) := by decide +kernel
theorem dX9_mix_79 : decode cX9_mix 79 = .ok (.invokestatic 153, 3) := by decide +kernel
theorem dX9_mix_82 : decode cX9_mix 82 = .ok (.lreturn, 1) := by decide +kernel
theorem dX9_fall_0 : decode cX9_fall 0 = .ok (.iload_n 1, 1) := by decide +kernel
theorem dX9_fall_1 : decode cX9_fall 1 = .ok (.iload_n 2, 1) := by decide +kernel
theorem dX9_fall_2 : decode cX9_fall 2 = .ok (.iload_n 3, 1) := by decide +kernel
theorem dX9_fall_3 : decode cX9_fall 3 = .ok (.iload 4, 2) := by decide +kernel
theorem dX9_fall_5 : decode cX9_fall 5 = .ok (.invokestatic 216, 3) := by decide +kernel
theorem dX9_fall_8 : decode cX9_fall 8 = .ok (.ifCond .eq 27, 3) := by decide +kernel
theorem dX9_fall_11 : decode cX9_fall 11 = .ok (.iload 5, 2) := by decide +kernel
theorem dX9_fall_13 : decode cX9_fall 13 = .ok (.invokestatic 220, 3) := by decide +kernel
theorem dX9_fall_16 : decode cX9_fall 16 = .ok (.ifCond .eq 19, 3) := by decide +kernel
theorem dX9_fall_19 : decode cX9_fall 19 = .ok (.iload 6, 2) := by decide +kernel
theorem dX9_fall_21 : decode cX9_fall 21 = .ok (.invokestatic 220, 3) := by decide +kernel
theorem dX9_fall_24 : decode cX9_fall 24 = .ok (.ifCond .eq 11, 3) := by decide +kernel
theorem dX9_fall_27 : decode cX9_fall 27 = .ok (.iload 7, 2) := by decide +kernel
theorem dX9_fall_29 : decode cX9_fall 29 = .ok (.invokestatic 144, 3) := by decide +kernel
theorem dX9_fall_32 : decode cX9_fall 32 = .ok (.ifCond .ne 7, 3) := by decide +kernel
theorem dX9_fall_35 : decode cX9_fall 35 = .ok (.ldc2_w 147, 3) := by decide +kernel
theorem dX9_fall_38 : decode cX9_fall 38 = .ok (.lreturn, 1) := by decide +kernel
theorem dX9_fall_39 : decode cX9_fall 39 = .ok (.new 223, 3) := by decide +kernel
theorem dX9_fall_42 : decode cX9_fall 42 = .ok (.dup, 1) := by decide +kernel
theorem dX9_fall_43 : decode cX9_fall 43 = .ok (.aload_n 0, 1) := by decide +kernel
theorem dX9_fall_44 : decode cX9_fall 44 = .ok (.getfield 34, 3) := by decide +kernel
theorem dX9_fall_47 : decode cX9_fall 47 = .ok (.iload_n 1, 1) := by decide +kernel
theorem dX9_fall_48 : decode cX9_fall 48 = .ok (.iload_n 2, 1) := by decide +kernel
theorem dX9_fall_49 : decode cX9_fall 49 = .ok (.iload_n 3, 1) := by decide +kernel
theorem dX9_fall_50 : decode cX9_fall 50 = .ok (.iload 4, 2) := by decide +kernel
theorem dX9_fall_52 : decode cX9_fall 52 = .ok (.invokespecial 225, 3) := by decide +kernel
theorem dX9_fall_55 : decode cX9_fall 55 = .ok (.astore 8, 2) := by decide +kernel
theorem dX9_fall_57 : decode cX9_fall 57 = .ok (.aload 8, 2) := by decide +kernel
theorem dX9_fall_59 : decode cX9_fall 59 = .ok (.iload 5, 2) := by decide +kernel
theorem dX9_fall_61 : decode cX9_fall 61 = .ok (.invokevirtual 228, 3) := by decide +kernel
theorem dX9_fall_64 : decode cX9_fall 64 = .ok (.ifCond .ne 13, 3) := by decide +kernel
theorem dX9_fall_67 : decode cX9_fall 67 = .ok (.aload 8, 2) := by decide +kernel
theorem dX9_fall_69 : decode cX9_fall 69 = .ok (.iload 6, 2) := by decide +kernel
theorem dX9_fall_71 : decode cX9_fall 71 = .ok (.invokevirtual 228, 3) := by decide +kernel
theorem dX9_fall_74 : decode cX9_fall 74 = .ok (.ifCond .eq 7, 3) := by decide +kernel
theorem dX9_fall_77 : decode cX9_fall 77 = .ok (.ldc2_w 231, 3) := by decide +kernel
theorem dX9_fall_80 : decode cX9_fall 80 = .ok (.lreturn, 1) := by decide +kernel
theorem dX9_fall_81 : decode cX9_fall 81 = .ok (.aload 8, 2) := by decide +kernel
theorem dX9_fall_83 : decode cX9_fall 83 = .ok (.iload 5, 2) := by decide +kernel
theorem dX9_fall_85 : decode cX9_fall 85 = .ok (.iload 6, 2) := by decide +kernel
theorem dX9_fall_87 : decode cX9_fall 87 = .ok (.iload 7, 2) := by decide +kernel
theorem dX9_fall_89 : decode cX9_fall 89 = .ok (.invokestatic 239, 3) := by decide +kernel
theorem dX9_fall_92 : decode cX9_fall 92 = .ok (.lreturn, 1) := by decide +kernel
theorem dX9_alone_0 : decode cX9_alone 0 = .ok (.iload_n 1, 1) := by decide +kernel
theorem dX9_alone_1 : decode cX9_alone 1 = .ok (.iload_n 2, 1) := by decide +kernel
theorem dX9_alone_2 : decode cX9_alone 2 = .ok (.iload_n 3, 1) := by decide +kernel
theorem dX9_alone_3 : decode cX9_alone 3 = .ok (.iload 4, 2) := by decide +kernel
theorem dX9_alone_5 : decode cX9_alone 5 = .ok (.invokestatic 216, 3) := by decide +kernel
theorem dX9_alone_8 : decode cX9_alone 8 = .ok (.ifCond .eq 37, 3) := by decide +kernel
theorem dX9_alone_11 : decode cX9_alone 11 = .ok (.iload 5, 2) := by decide +kernel
theorem dX9_alone_13 : decode cX9_alone 13 = .ok (.invokestatic 243, 3) := by decide +kernel
theorem dX9_alone_16 : decode cX9_alone 16 = .ok (.ifCond .eq 29, 3) := by decide +kernel
theorem dX9_alone_19 : decode cX9_alone 19 = .ok (.iload 6, 2) := by decide +kernel
theorem dX9_alone_21 : decode cX9_alone 21 = .ok (.invokestatic 243, 3) := by decide +kernel
theorem dX9_alone_24 : decode cX9_alone 24 = .ok (.ifCond .eq 21, 3) := by decide +kernel
theorem dX9_alone_27 : decode cX9_alone 27 = .ok (.iload 7, 2) := by decide +kernel
theorem dX9_alone_29 : decode cX9_alone 29 = .ok (.iconst 0, 1) := by decide +kernel
theorem dX9_alone_30 : decode cX9_alone 30 = .ok (.iconst 1, 1) := by decide +kernel
theorem dX9_alone_31 : decode cX9_alone 31 = .ok (.invokestatic 69, 3) := by decide +kernel
theorem dX9_alone_34 : decode cX9_alone 34 = .ok (.ifCond .eq 11, 3) := by decide +kernel
theorem dX9_alone_37 : decode cX9_alone 37 = .ok (.iload 8, 2) := by decide +kernel
theorem dX9_alone_39 : decode cX9_alone 39 = .ok (.invokestatic 144, 3) := by decide +kernel
theorem dX9_alone_42 : decode cX9_alone 42 = .ok (.ifCond .ne 7, 3) := by decide +kernel
theorem dX9_alone_45 : decode cX9_alone 45 = .ok (.ldc2_w 147, 3) := by decide +kernel
theorem dX9_alone_48 : decode cX9_alone 48 = .ok (.lreturn, 1) := by decide +kernel
theorem dX9_alone_49 : decode cX9_alone 49 = .ok (.iload 5, 2) := by decide +kernel
theorem dX9_alone_51 : decode cX9_alone 51 = .ok (.sipush 1000, 3) := by decide +kernel
theorem dX9_alone_54 : decode cX9_alone 54 = .ok (.idiv, 1) := by decide +kernel
theorem dX9_alone_55 : decode cX9_alone 55 = .ok (.istore 9, 2) := by decide +kernel
theorem dX9_alone_57 : decode cX9_alone 57 = .ok (.iload 5, 2) := by decide +kernel
theorem dX9_alone_59 : decode cX9_alone 59 = .ok (.sipush 1000, 3) := by decide +kernel
theorem dX9_alone_62 : decode cX9_alone 62 = .ok (.irem, 1) := by decide +kernel
theorem dX9_alone_63 : decode cX9_alone 63 = .ok (.istore 10, 2) := by decide +kernel
theorem dX9_alone_65 : decode cX9_alone 65 = .ok (.iload 6, 2) := by decide +kernel
theorem dX9_alone_67 : decode cX9_alone 67 = .ok (.sipush 1000, 3) := by decide +kernel
theorem dX9_alone_70 : decode cX9_alone 70 = .ok (.idiv, 1) := by decide +kernel
theorem dX9_alone_71 : decode cX9_alone 71 = .ok (.istore 11, 2) := by decide +kernel
theorem dX9_alone_73 : decode cX9_alone 73 = .ok (.iload 6, 2) := by decide +kernel
theorem dX9_alone_75 : decode cX9_alone 75 = .ok (.sipush 1000, 3) := by decide +kernel
theorem dX9_alone_78 : decode cX9_alone 78 = .ok (.irem, 1) := by decide +kernel
theorem dX9_alone_79 : decode cX9_alone 79 = .ok (.istore 12, 2) := by decide +kernel
theorem dX9_alone_81 : decode cX9_alone 81 = .ok (.new 223, 3) := by decide +kernel
theorem dX9_alone_84 : decode cX9_alone 84 = .ok (.dup, 1) := by decide +kernel
theorem dX9_alone_85 : decode cX9_alone 85 = .ok (.aload_n 0, 1) := by decide +kernel
theorem dX9_alone_86 : decode cX9_alone 86 = .ok (.getfield 34, 3) := by decide +kernel
theorem dX9_alone_89 : decode cX9_alone 89 = .ok (.iload_n 1, 1) := by decide +kernel
theorem dX9_alone_90 : decode cX9_alone 90 = .ok (.iload_n 2, 1) := by decide +kernel
theorem dX9_alone_91 : decode cX9_alone 91 = .ok (.iload_n 3, 1) := by decide +kernel
theorem dX9_alone_92 : decode cX9_alone 92 = .ok (.iload 4, 2) := by decide +kernel
theorem dX9_alone_94 : decode cX9_alone 94 = .ok (.invokespecial 225, 3) := by decide +kernel
theorem dX9_alone_97 : decode cX9_alone 97 = .ok (.astore 13, 2) := by decide +kernel
theorem dX9_alone_99 : decode cX9_alone 99 = .ok (.aload 13, 2) := by decide +kernel
theorem dX9_alone_101 : decode cX9_alone 101 = .ok (.iload 9, 2) := by decide +kernel
theorem dX9_alone_103 : decode cX9_alone 103 = .ok (.invokevirtual 228, 3) := by decide +kernel
theorem dX9_alone_106 : decode cX9_alone 106 = .ok (.ifCond .ne 33, 3) := by decide +kernel
theorem dX9_alone_109 : decode cX9_alone 109 = .ok (.aload 13, 2) := by decide +kernel
theorem dX9_alone_111 : decode cX9_alone 111 = .ok (.iload 10, 2) := by decide +kernel
theorem dX9_alone_113 : decode cX9_alone 113 = .ok (.invokevirtual 228, 3) := by decide +kernel
theorem dX9_alone_116 : decode cX9_alone 116 = .ok (.ifCond .ne 23, 3) := by decide +kernel
theorem dX9_alone_119 : decode cX9_alone 119 = .ok (.aload 13, 2) := by decide +kernel
theorem dX9_alone_121 : decode cX9_alone 121 = .ok (.iload 11, 2) := by decide +kernel
theorem dX9_alone_123 : decode cX9_alone 123 = .ok (.invokevirtual 228, 3) := by decide +kernel
theorem dX9_alone_126 : decode cX9_alone 126 = .ok (.ifCond .ne 13, 3) := by decide +kernel
theorem dX9_alone_129 : decode cX9_alone 129 = .ok (.aload 13, 2) := by decide +kernel
theorem dX9_alone_131 : decode cX9_alone 131 = .ok (.iload 12, 2) := by decide +kernel
theorem dX9_alone_133 : decode cX9_alone 133 = .ok (.invokevirtual 228, 3) := by decide +kernel
theorem dX9_alone_136 : decode cX9_alone 136 = .ok (.ifCond .eq 7, 3) := by decide +kernel
theorem dX9_alone_139 : decode cX9_alone 139 = .ok (.ldc2_w 231, 3) := by decide +kernel
theorem dX9_alone_142 : decode cX9_alone 142 = .ok (.lreturn, 1) := by decide +kernel
theorem dX9_alone_143 : decode cX9_alone 143 = .ok (.iload 7, 2) := by decide +kernel
theorem dX9_alone_145 : decode cX9_alone 145 = .ok (.ifCond .ne 29, 3) := by decide +kernel
theorem dX9_alone_148 : decode cX9_alone 148 = .ok (.aload 13, 2) := by decide +kernel
theorem dX9_alone_150 : decode cX9_alone 150 = .ok (.aload 13, 2) := by decide +kernel
theorem dX9_alone_152 : decode cX9_alone 152 = .ok (.iload 9, 2) := by decide +kernel
theorem dX9_alone_154 : decode cX9_alone 154 = .ok (.iload 10, 2) := by decide +kernel
theorem dX9_alone_156 : decode cX9_alone 156 = .ok (.invokevirtual 246, 3) := by decide +kernel
theorem dX9_alone_159 : decode cX9_alone 159 = .ok (.aload 13, 2) := by decide +kernel
theorem dX9_alone_161 : decode cX9_alone 161 = .ok (.iload 11, 2) := by decide +kernel
theorem dX9_alone_163 : decode cX9_alone 163 = .ok (.iload 12, 2) := by decide +kernel
theorem dX9_alone_165 : decode cX9_alone 165 = .ok (.invokevirtual 250, 3) := by decide +kernel
theorem dX9_alone_168 : decode cX9_alone 168 = .ok (.iload 8, 2) := by decide +kernel
theorem dX9_alone_170 : decode cX9_alone 170 = .ok (.invokestatic 239, 3) := by decide +kernel
theorem dX9_alone_173 : decode cX9_alone 173 = .ok (.lreturn, 1) := by decide +kernel
theorem dX9_alone_174 : decode cX9_alone 174 = .ok (.aload 13, 2) := by decide +kernel
theorem dX9_alone_176 : decode cX9_alone 176 = .ok (.aload 13, 2) := by decide +kernel
theorem dX9_alone_178 : decode cX9_alone 178 = .ok (.iload 9, 2) := by decide +kernel
theorem dX9_alone_180 : decode cX9_alone 180 = .ok (.iload 10, 2) := by decide +kernel
theorem dX9_alone_182 : decode cX9_alone 182 = .ok (.invokevirtual 250, 3) := by decide +kernel
theorem dX9_alone_185 : decode cX9_alone 185 = .ok (.aload 13, 2) := by decide +kernel
theorem dX9_alone_187 : decode cX9_alone 187 = .ok (.iload 11, 2) := by decide +kernel
theorem dX9_alone_189 : decode cX9_alone 189 = .ok (.iload 12, 2) := by decide +kernel
theorem dX9_alone_191 : decode cX9_alone 191 = .ok (.invokevirtual 246, 3) := by decide +kernel
theorem dX9_alone_194 : decode cX9_alone 194 = .ok (.iload 8, 2) := by decide +kernel
theorem dX9_alone_196 : decode cX9_alone 196 = .ok (.invokestatic 239, 3) := by decide +kernel
theorem dX9_alone_199 : decode cX9_alone 199 = .ok (.lreturn, 1) := by decide +kernel
theorem dX9_mean_0 : decode cX9_mean 0 = .ok (.aload_n 0, 1) := by decide +kernel
theorem dX9_mean_1 : decode cX9_mean 1 = .ok (.getfield 19, 3) := by decide +kernel
theorem dX9_mean_4 : decode cX9_mean 4 = .ok (.iload_n 1, 1) := by decide +kernel
theorem dX9_mean_5 : decode cX9_mean 5 = .ok (.invokevirtual 61, 3) := by decide +kernel
theorem dX9_mean_8 : decode cX9_mean 8 = .ok (.astore_n 3, 1) := by decide +kernel
theorem dX9_mean_9 : decode cX9_mean 9 = .ok (.aload_n 3, 1) := by decide +kernel
theorem dX9_mean_10 : decode cX9_mean 10 = .ok (.ifnonnull 7, 3) := by decide +kernel
theorem dX9_mean_13 : decode cX9_mean 13 = .ok (.ldc2_w 198, 3) := by decide +kernel
theorem dX9_mean_16 : decode cX9_mean 16 = .ok (.lreturn, 1) := by decide +kernel
theorem dX9_mean_17 : decode cX9_mean 17 = .ok (.iload_n 2, 1) := by decide +kernel
theorem dX9_mean_18 : decode cX9_mean 18 = .ok (.invokestatic 144, 3) := by decide +kernel
theorem dX9_mean_21 : decode cX9_mean 21 = .ok (.ifCond .ne 7, 3) := by decide +kernel
theorem dX9_mean_24 : decode cX9_mean 24 = .ok (.ldc2_w 147, 3) := by decide +kernel
theorem dX9_mean_27 : decode cX9_mean 27 = .ok (.lreturn, 1) := by decide +kernel
theorem dX9_mean_28 : decode cX9_mean 28 = .ok (.aload_n 3, 1) := by decide +kernel
theorem dX9_mean_29 : decode cX9_mean 29 = .ok (.iconst 0, 1) := by decide +kernel
theorem dX9_mean_30 : decode cX9_mean 30 = .ok (.invokevirtual 253, 3) := by decide +kernel
theorem dX9_mean_33 : decode cX9_mean 33 = .ok (.aload_n 3, 1) := by decide +kernel
theorem dX9_mean_34 : decode cX9_mean 34 = .ok (.getfield 205, 3) := by decide +kernel
theorem dX9_mean_37 : decode cX9_mean 37 = .ok (.i2l, 1) := by decide +kernel
theorem dX9_mean_38 : decode cX9_mean 38 = .ok (.iload_n 2, 1) := by decide +kernel
theorem dX9_mean_39 : decode cX9_mean 39 = .ok (.invokestatic 153, 3) := by decide +kernel
theorem dX9_mean_42 : decode cX9_mean 42 = .ok (.lreturn, 1) := by decide +kernel
theorem dX9_mode_0 : decode cX9_mode 0 = .ok (.aload_n 0, 1) := by decide +kernel
theorem dX9_mode_1 : decode cX9_mode 1 = .ok (.getfield 19, 3) := by decide +kernel
theorem dX9_mode_4 : decode cX9_mode 4 = .ok (.iload_n 1, 1) := by decide +kernel
theorem dX9_mode_5 : decode cX9_mode 5 = .ok (.invokevirtual 61, 3) := by decide +kernel
theorem dX9_mode_8 : decode cX9_mode 8 = .ok (.astore_n 2, 1) := by decide +kernel
theorem dX9_mode_9 : decode cX9_mode 9 = .ok (.aload_n 2, 1) := by decide +kernel
theorem dX9_mode_10 : decode cX9_mode 10 = .ok (.ifnonnull 5, 3) := by decide +kernel
theorem dX9_mode_13 : decode cX9_mode 13 = .ok (.iconst (-1), 1) := by decide +kernel
theorem dX9_mode_14 : decode cX9_mode 14 = .ok (.ireturn, 1) := by decide +kernel
theorem dX9_mode_15 : decode cX9_mode 15 = .ok (.aload_n 2, 1) := by decide +kernel
theorem dX9_mode_16 : decode cX9_mode 16 = .ok (.getfield 205, 3) := by decide +kernel
theorem dX9_mode_19 : decode cX9_mode 19 = .ok (.ifCond .ne 8, 3) := by decide +kernel
theorem dX9_mode_22 : decode cX9_mode 22 = .ok (.bipush (-6), 2) := by decide +kernel
theorem dX9_mode_24 : decode cX9_mode 24 = .ok (.goto 7, 3) := by decide +kernel
theorem dX9_mode_27 : decode cX9_mode 27 = .ok (.aload_n 2, 1) := by decide +kernel
theorem dX9_mode_28 : decode cX9_mode 28 = .ok (.invokevirtual 256, 3) := by decide +kernel
theorem dX9_mode_31 : decode cX9_mode 31 = .ok (.ireturn, 1) := by decide +kernel
theorem dX9_about_0 : decode cX9_about 0 = .ok (.aload_n 0, 1) := by decide +kernel
theorem dX9_about_1 : decode cX9_about 1 = .ok (.getfield 19, 3) := by decide +kernel
theorem dX9_about_4 : decode cX9_about 4 = .ok (.iload_n 1, 1) := by decide +kernel
theorem dX9_about_5 : decode cX9_about 5 = .ok (.invokevirtual 61, 3) := by decide +kernel
theorem dX9_about_8 : decode cX9_about 8 = .ok (.astore 5, 2) := by decide +kernel
theorem dX9_about_10 : decode cX9_about 10 = .ok (.aload 5, 2) := by decide +kernel
theorem dX9_about_12 : decode cX9_about 12 = .ok (.ifnonnull 7, 3) := by decide +kernel
theorem dX9_about_15 : decode cX9_about 15 = .ok (.ldc2_w 198, 3) := by decide +kernel
theorem dX9_about_18 : decode cX9_about 18 = .ok (.lreturn, 1) := by decide +kernel
theorem dX9_about_19 : decode cX9_about 19 = .ok (.iload_n 2, 1) := by decide +kernel
theorem dX9_about_20 : decode cX9_about 20 = .ok (.iconst 0, 1) := by decide +kernel
theorem dX9_about_21 : decode cX9_about 21 = .ok (.bipush 8, 2) := by decide +kernel
theorem dX9_about_23 : decode cX9_about 23 = .ok (.invokestatic 69, 3) := by decide +kernel
theorem dX9_about_26 : decode cX9_about 26 = .ok (.ifCond .eq 20, 3) := by decide +kernel
theorem dX9_about_29 : decode cX9_about 29 = .ok (.iload_n 3, 1) := by decide +kernel
theorem dX9_about_30 : decode cX9_about 30 = .ok (.iconst 0, 1) := by decide +kernel
theorem dX9_about_31 : decode cX9_about 31 = .ok (.iconst 1, 1) := by decide +kernel
theorem dX9_about_32 : decode cX9_about 32 = .ok (.invokestatic 69, 3) := by decide +kernel
theorem dX9_about_35 : decode cX9_about 35 = .ok (.ifCond .eq 11, 3) := by decide +kernel
theorem dX9_about_38 : decode cX9_about 38 = .ok (.iload 4, 2) := by decide +kernel
theorem dX9_about_40 : decode cX9_about 40 = .ok (.invokestatic 144, 3) := by decide +kernel
theorem dX9_about_43 : decode cX9_about 43 = .ok (.ifCond .ne 7, 3) := by decide +kernel
theorem dX9_about_46 : decode cX9_about 46 = .ok (.ldc2_w 147, 3) := by decide +kernel
theorem dX9_about_49 : decode cX9_about 49 = .ok (.lreturn, 1) := by decide +kernel
theorem dX9_about_50 : decode cX9_about 50 = .ok (.aload 5, 2) := by decide +kernel
theorem dX9_about_52 : decode cX9_about 52 = .ok (.iconst 2, 1) := by decide +kernel
theorem dX9_about_53 : decode cX9_about 53 = .ok (.invokevirtual 88, 3) := by decide +kernel
theorem dX9_about_56 : decode cX9_about 56 = .ok (.iconst 2, 1) := by decide +kernel
theorem dX9_about_57 : decode cX9_about 57 = .ok (.if_icmp .eq 7, 3) := by decide +kernel
theorem dX9_about_60 : decode cX9_about 60 = .ok (.ldc2_w 259, 3) := by decide +kernel
theorem dX9_about_63 : decode cX9_about 63 = .ok (.lreturn, 1) := by decide +kernel
theorem dX9_about_64 : decode cX9_about 64 = .ok (.aload 5, 2) := by decide +kernel
theorem dX9_about_66 : decode cX9_about 66 = .ok (.iload_n 3, 1) := by decide +kernel
theorem dX9_about_67 : decode cX9_about 67 = .ok (.ifCond .ne 8, 3) := by decide +kernel
theorem dX9_about_70 : decode cX9_about 70 = .ok (.iload_n 2, 1) := by decide +kernel
theorem dX9_about_71 : decode cX9_about 71 = .ok (.ineg, 1) := by decide +kernel
theorem dX9_about_72 : decode cX9_about 72 = .ok (.goto 4, 3) := by decide +kernel
theorem dX9_about_75 : decode cX9_about 75 = .ok (.iload_n 2, 1) := by decide +kernel
theorem dX9_about_76 : decode cX9_about 76 = .ok (.invokevirtual 253, 3) := by decide +kernel
theorem dX9_about_79 : decode cX9_about 79 = .ok (.aload 5, 2) := by decide +kernel
theorem dX9_about_81 : decode cX9_about 81 = .ok (.getfield 205, 3) := by decide +kernel
theorem dX9_about_84 : decode cX9_about 84 = .ok (.i2l, 1) := by decide +kernel
theorem dX9_about_85 : decode cX9_about 85 = .ok (.iload 4, 2) := by decide +kernel
theorem dX9_about_87 : decode cX9_about 87 = .ok (.invokestatic 153, 3) := by decide +kernel
theorem dX9_about_90 : decode cX9_about 90 = .ok (.lreturn, 1) := by decide +kernel
theorem dX9_beside_0 : decode cX9_beside 0 = .ok (.aload_n 0, 1) := by decide +kernel
theorem dX9_beside_1 : decode cX9_beside 1 = .ok (.getfield 19, 3) := by decide +kernel
theorem dX9_beside_4 : decode cX9_beside 4 = .ok (.iload_n 1, 1) := by decide +kernel
theorem dX9_beside_5 : decode cX9_beside 5 = .ok (.invokevirtual 61, 3) := by decide +kernel
theorem dX9_beside_8 : decode cX9_beside 8 = .ok (.astore 5, 2) := by decide +kernel
theorem dX9_beside_10 : decode cX9_beside 10 = .ok (.aload_n 0, 1) := by decide +kernel
theorem dX9_beside_11 : decode cX9_beside 11 = .ok (.getfield 19, 3) := by decide +kernel
theorem dX9_beside_14 : decode cX9_beside 14 = .ok (.iload_n 2, 1) := by decide +kernel
theorem dX9_beside_15 : decode cX9_beside 15 = .ok (.invokevirtual 61, 3) := by decide +kernel
theorem dX9_beside_18 : decode cX9_beside 18 = .ok (.astore 6, 2) := by decide +kernel
theorem dX9_beside_20 : decode cX9_beside 20 = .ok (.aload 5, 2) := by decide +kernel
theorem dX9_beside_22 : decode cX9_beside 22 = .ok (.ifnull 8, 3) := by decide +kernel
theorem dX9_beside_25 : decode cX9_beside 25 = .ok (.aload 6, 2) := by decide +kernel
theorem dX9_beside_27 : decode cX9_beside 27 = .ok (.ifnonnull 7, 3) := by decide +kernel
theorem dX9_beside_30 : decode cX9_beside 30 = .ok (.ldc2_w 198, 3) := by decide +kernel
theorem dX9_beside_33 : decode cX9_beside 33 = .ok (.lreturn, 1) := by decide +kernel
theorem dX9_beside_34 : decode cX9_beside 34 = .ok (.iload_n 3, 1) := by decide +kernel
theorem dX9_beside_35 : decode cX9_beside 35 = .ok (.invokestatic 164, 3) := by decide +kernel
theorem dX9_beside_38 : decode cX9_beside 38 = .ok (.ifCond .eq 11, 3) := by decide +kernel
theorem dX9_beside_41 : decode cX9_beside 41 = .ok (.iload 4, 2) := by decide +kernel
theorem dX9_beside_43 : decode cX9_beside 43 = .ok (.invokestatic 144, 3) := by decide +kernel
theorem dX9_beside_46 : decode cX9_beside 46 = .ok (.ifCond .ne 7, 3) := by decide +kernel
theorem dX9_beside_49 : decode cX9_beside 49 = .ok (.ldc2_w 147, 3) := by decide +kernel
theorem dX9_beside_52 : decode cX9_beside 52 = .ok (.lreturn, 1) := by decide +kernel
theorem dX9_beside_53 : decode cX9_beside 53 = .ok (.aload 5, 2) := by decide +kernel
theorem dX9_beside_55 : decode cX9_beside 55 = .ok (.iconst 2, 1) := by decide +kernel
theorem dX9_beside_56 : decode cX9_beside 56 = .ok (.invokevirtual 88, 3) := by decide +kernel
theorem dX9_beside_59 : decode cX9_beside 59 = .ok (.iconst 1, 1) := by decide +kernel
theorem dX9_beside_60 : decode cX9_beside 60 = .ok (.if_icmp .ne 11, 3) := by decide +kernel
theorem dX9_beside_63 : decode cX9_beside 63 = .ok (.aload 5, 2) := by decide +kernel
theorem dX9_beside_65 : decode cX9_beside 65 = .ok (.getfield 205, 3) := by decide +kernel
theorem dX9_beside_68 : decode cX9_beside 68 = .ok (.ifCond .ne 7, 3) := by decide +kernel
theorem dX9_beside_71 : decode cX9_beside 71 = .ok (.ldc2_w 259, 3) := by decide +kernel
theorem dX9_beside_74 : decode cX9_beside 74 = .ok (.lreturn, 1) := by decide +kernel
theorem dX9_beside_75 : decode cX9_beside 75 = .ok (.aload_n 0, 1) := by decide +kernel
theorem dX9_beside_76 : decode cX9_beside 76 = .ok (.aload 6, 2) := by decide +kernel
theorem dX9_beside_78 : decode cX9_beside 78 = .ok (.iload_n 3, 1) := by decide +kernel
theorem dX9_beside_79 : decode cX9_beside 79 = .ok (.invokevirtual 167, 3) := by decide +kernel
theorem dX9_beside_82 : decode cX9_beside 82 = .ok (.aload 5, 2) := by decide +kernel
theorem dX9_beside_84 : decode cX9_beside 84 = .ok (.getfield 205, 3) := by decide +kernel
theorem dX9_beside_87 : decode cX9_beside 87 = .ok (.i2l, 1) := by decide +kernel
theorem dX9_beside_88 : decode cX9_beside 88 = .ok (.lstore 7, 2) := by decide +kernel
theorem dX9_beside_90 : decode cX9_beside 90 = .ok (.aload 5, 2) := by decide +kernel
theorem dX9_beside_92 : decode cX9_beside 92 = .ok (.iconst 0, 1) := by decide +kernel
theorem dX9_beside_93 : decode cX9_beside 93 = .ok (.invokevirtual 253, 3) := by decide +kernel
theorem dX9_beside_96 : decode cX9_beside 96 = .ok (.aload_n 0, 1) := by decide +kernel
theorem dX9_beside_97 : decode cX9_beside 97 = .ok (.getfield 43, 3) := by decide +kernel
theorem dX9_beside_100 : decode cX9_beside 100 = .ok (.getfield 171, 3) := by decide +kernel
theorem dX9_beside_103 : decode cX9_beside 103 = .ok (.i2l, 1) := by decide +kernel
theorem dX9_beside_104 : decode cX9_beside 104 = .ok (.lload 7, 2) := by decide +kernel
theorem dX9_beside_106 : decode cX9_beside 106 = .ok (.lmul, 1) := by decide +kernel
theorem dX9_beside_107 : decode cX9_beside 107 = .ok (.lsub, 1) := by decide +kernel
theorem dX9_beside_108 : decode cX9_beside 108 = .ok (.lload 7, 2) := by decide +kernel
theorem dX9_beside_110 : decode cX9_beside 110 = .ok (.iload 4, 2) := by decide +kernel
theorem dX9_beside_112 : decode cX9_beside 112 = .ok (.invokestatic 153, 3) := by decide +kernel
theorem dX9_beside_115 : decode cX9_beside 115 = .ok (.lreturn, 1) := by decide +kernel
theorem dX9_shorter_0 : decode cX9_shorter 0 = .ok (.aload_n 0, 1) := by decide +kernel
theorem dX9_shorter_1 : decode cX9_shorter 1 = .ok (.getfield 19, 3) := by decide +kernel
theorem dX9_shorter_4 : decode cX9_shorter 4 = .ok (.iload_n 1, 1) := by decide +kernel
theorem dX9_shorter_5 : decode cX9_shorter 5 = .ok (.invokevirtual 61, 3) := by decide +kernel
theorem dX9_shorter_8 : decode cX9_shorter 8 = .ok (.astore 5, 2) := by decide +kernel
theorem dX9_shorter_10 : decode cX9_shorter 10 = .ok (.aload_n 0, 1) := by decide +kernel
theorem dX9_shorter_11 : decode cX9_shorter 11 = .ok (.getfield 19, 3) := by decide +kernel
theorem dX9_shorter_14 : decode cX9_shorter 14 = .ok (.iload_n 2, 1) := by decide +kernel
theorem dX9_shorter_15 : decode cX9_shorter 15 = .ok (.invokevirtual 61, 3) := by decide +kernel
theorem dX9_shorter_18 : decode cX9_shorter 18 = .ok (.astore 6, 2) := by decide +kernel
theorem dX9_shorter_20 : decode cX9_shorter 20 = .ok (.aload 5, 2) := by decide +kernel
theorem dX9_shorter_22 : decode cX9_shorter 22 = .ok (.ifnull 8, 3) := by decide +kernel
theorem dX9_shorter_25 : decode cX9_shorter 25 = .ok (.aload 6, 2) := by decide +kernel
theorem dX9_shorter_27 : decode cX9_shorter 27 = .ok (.ifnonnull 5, 3) := by decide +kernel
theorem dX9_shorter_30 : decode cX9_shorter 30 = .ok (.iconst (-1), 1) := by decide +kernel
theorem dX9_shorter_31 : decode cX9_shorter 31 = .ok (.ireturn, 1) := by decide +kernel
theorem dX9_shorter_32 : decode cX9_shorter 32 = .ok (.iload_n 3, 1) := by decide +kernel
theorem dX9_shorter_33 : decode cX9_shorter 33 = .ok (.invokestatic 164, 3) := by decide +kernel
theorem dX9_shorter_36 : decode cX9_shorter 36 = .ok (.ifCond .eq 15, 3) := by decide +kernel
theorem dX9_shorter_39 : decode cX9_shorter 39 = .ok (.iload 4, 2) := by decide +kernel
theorem dX9_shorter_41 : decode cX9_shorter 41 = .ok (.iconst 0, 1) := by decide +kernel
theorem dX9_shorter_42 : decode cX9_shorter 42 = .ok (.sipush 999, 3) := by decide +kernel
theorem dX9_shorter_45 : decode cX9_shorter 45 = .ok (.invokestatic 69, 3) := by decide +kernel
theorem dX9_shorter_48 : decode cX9_shorter 48 = .ok (.ifCond .ne 6, 3) := by decide +kernel
theorem dX9_shorter_51 : decode cX9_shorter 51 = .ok (.bipush (-2), 2) := by decide +kernel
theorem dX9_shorter_53 : decode cX9_shorter 53 = .ok (.ireturn, 1) := by decide +kernel
theorem dX9_shorter_54 : decode cX9_shorter 54 = .ok (.aload_n 0, 1) := by decide +kernel
theorem dX9_shorter_55 : decode cX9_shorter 55 = .ok (.aload 5, 2) := by decide +kernel
theorem dX9_shorter_57 : decode cX9_shorter 57 = .ok (.iload_n 3, 1) := by decide +kernel
theorem dX9_shorter_58 : decode cX9_shorter 58 = .ok (.iload 4, 2) := by decide +kernel
theorem dX9_shorter_60 : decode cX9_shorter 60 = .ok (.invokevirtual 177, 3) := by decide +kernel
theorem dX9_shorter_63 : decode cX9_shorter 63 = .ok (.aload_n 0, 1) := by decide +kernel
theorem dX9_shorter_64 : decode cX9_shorter 64 = .ok (.getfield 43, 3) := by decide +kernel
theorem dX9_shorter_67 : decode cX9_shorter 67 = .ok (.getfield 181, 3) := by decide +kernel
theorem dX9_shorter_70 : decode cX9_shorter 70 = .ok (.istore 7, 2) := by decide +kernel
theorem dX9_shorter_72 : decode cX9_shorter 72 = .ok (.aload_n 0, 1) := by decide +kernel
theorem dX9_shorter_73 : decode cX9_shorter 73 = .ok (.aload 6, 2) := by decide +kernel
theorem dX9_shorter_75 : decode cX9_shorter 75 = .ok (.iload_n 3, 1) := by decide +kernel
theorem dX9_shorter_76 : decode cX9_shorter 76 = .ok (.iload 4, 2) := by decide +kernel
theorem dX9_shorter_78 : decode cX9_shorter 78 = .ok (.invokevirtual 177, 3) := by decide +kernel
theorem dX9_shorter_81 : decode cX9_shorter 81 = .ok (.aload_n 0, 1) := by decide +kernel
theorem dX9_shorter_82 : decode cX9_shorter 82 = .ok (.getfield 43, 3) := by decide +kernel
theorem dX9_shorter_85 : decode cX9_shorter 85 = .ok (.getfield 184, 3) := by decide +kernel
theorem dX9_shorter_88 : decode cX9_shorter 88 = .ok (.iload 7, 2) := by decide +kernel
theorem dX9_shorter_90 : decode cX9_shorter 90 = .ok (.if_icmp .ge 5, 3) := by decide +kernel
theorem dX9_shorter_93 : decode cX9_shorter 93 = .ok (.iconst 2, 1) := by decide +kernel
theorem dX9_shorter_94 : decode cX9_shorter 94 = .ok (.ireturn, 1) := by decide +kernel
theorem dX9_shorter_95 : decode cX9_shorter 95 = .ok (.aload_n 0, 1) := by decide +kernel
theorem dX9_shorter_96 : decode cX9_shorter 96 = .ok (.getfield 43, 3) := by decide +kernel
theorem dX9_shorter_99 : decode cX9_shorter 99 = .ok (.getfield 181, 3) := by decide +kernel
theorem dX9_shorter_102 : decode cX9_shorter 102 = .ok (.iload 7, 2) := by decide +kernel
theorem dX9_shorter_104 : decode cX9_shorter 104 = .ok (.if_icmp .lt 7, 3) := by decide +kernel
theorem dX9_shorter_107 : decode cX9_shorter 107 = .ok (.iconst 0, 1) := by decide +kernel
theorem dX9_shorter_108 : decode cX9_shorter 108 = .ok (.goto 4, 3) := by decide +kernel
theorem dX9_shorter_111 : decode cX9_shorter 111 = .ok (.iconst 1, 1) := by decide +kernel
theorem dX9_shorter_112 : decode cX9_shorter 112 = .ok (.ireturn, 1) := by decide +kernel
theorem dX9_make_0 : decode cX9_make 0 = .ok (.aload_n 0, 1) := by decide +kernel
theorem dX9_make_1 : decode cX9_make 1 = .ok (.getfield 19, 3) := by decide +kernel
theorem dX9_make_4 : decode cX9_make 4 = .ok (.iload_n 1, 1) := by decide +kernel
theorem dX9_make_5 : decode cX9_make 5 = .ok (.invokevirtual 61, 3) := by decide +kernel
theorem dX9_make_8 : decode cX9_make 8 = .ok (.astore 6, 2) := by decide +kernel
theorem dX9_make_10 : decode cX9_make 10 = .ok (.aload 6, 2) := by decide +kernel
theorem dX9_make_12 : decode cX9_make 12 = .ok (.ifnonnull 5, 3) := by decide +kernel
theorem dX9_make_15 : decode cX9_make 15 = .ok (.iconst (-1), 1) := by decide +kernel
theorem dX9_make_16 : decode cX9_make 16 = .ok (.ireturn, 1) := by decide +kernel
theorem dX9_make_17 : decode cX9_make 17 = .ok (.iload_n 2, 1) := by decide +kernel
theorem dX9_make_18 : decode cX9_make 18 = .ok (.iload_n 3, 1) := by decide +kernel
theorem dX9_make_19 : decode cX9_make 19 = .ok (.iload 4, 2) := by decide +kernel
theorem dX9_make_21 : decode cX9_make 21 = .ok (.iload 5, 2) := by decide +kernel
theorem dX9_make_23 : decode cX9_make 23 = .ok (.invokestatic 261, 3) := by decide +kernel
theorem dX9_make_26 : decode cX9_make 26 = .ok (.ifCond .eq 25, 3) := by decide +kernel
theorem dX9_make_29 : decode cX9_make 29 = .ok (.aload_n 0, 1) := by decide +kernel
theorem dX9_make_30 : decode cX9_make 30 = .ok (.getfield 50, 3) := by decide +kernel
theorem dX9_make_33 : decode cX9_make 33 = .ok (.aload 6, 2) := by decide +kernel
theorem dX9_make_35 : decode cX9_make 35 = .ok (.aload_n 0, 1) := by decide +kernel
theorem dX9_make_36 : decode cX9_make 36 = .ok (.getfield 19, 3) := by decide +kernel
theorem dX9_make_39 : decode cX9_make 39 = .ok (.iload_n 2, 1) := by decide +kernel
theorem dX9_make_40 : decode cX9_make 40 = .ok (.iload_n 3, 1) := by decide +kernel
theorem dX9_make_41 : decode cX9_make 41 = .ok (.iload 4, 2) := by decide +kernel
theorem dX9_make_43 : decode cX9_make 43 = .ok (.iload 5, 2) := by decide +kernel
theorem dX9_make_45 : decode cX9_make 45 = .ok (.invokevirtual 264, 3) := by decide +kernel
theorem dX9_make_48 : decode cX9_make 48 = .ok (.goto 5, 3) := by decide +kernel
theorem dX9_make_51 : decode cX9_make 51 = .ok (.bipush (-2), 2) := by decide +kernel
theorem dX9_make_53 : decode cX9_make 53 = .ok (.ireturn, 1) := by decide +kernel
theorem dX9_off_0 : decode cX9_off 0 = .ok (.aload_n 0, 1) := by decide +kernel
theorem dX9_off_1 : decode cX9_off 1 = .ok (.getfield 19, 3) := by decide +kernel
theorem dX9_off_4 : decode cX9_off 4 = .ok (.iload_n 1, 1) := by decide +kernel
theorem dX9_off_5 : decode cX9_off 5 = .ok (.invokevirtual 61, 3) := by decide +kernel
theorem dX9_off_8 : decode cX9_off 8 = .ok (.astore 8, 2) := by decide +kernel
theorem dX9_off_10 : decode cX9_off 10 = .ok (.aload 8, 2) := by decide +kernel
theorem dX9_off_12 : decode cX9_off 12 = .ok (.ifnonnull 5, 3) := by decide +kernel
theorem dX9_off_15 : decode cX9_off 15 = .ok (.iconst (-1), 1) := by decide +kernel
theorem dX9_off_16 : decode cX9_off 16 = .ok (.ireturn, 1) := by decide +kernel
theorem dX9_off_17 : decode cX9_off 17 = .ok (.iload_n 2, 1) := by decide +kernel
theorem dX9_off_18 : decode cX9_off 18 = .ok (.iload_n 3, 1) := by decide +kernel
theorem dX9_off_19 : decode cX9_off 19 = .ok (.iload 4, 2) := by decide +kernel
theorem dX9_off_21 : decode cX9_off 21 = .ok (.iload 5, 2) := by decide +kernel
theorem dX9_off_23 : decode cX9_off 23 = .ok (.invokestatic 261, 3) := by decide +kernel
theorem dX9_off_26 : decode cX9_off 26 = .ok (.ifCond .eq 24, 3) := by decide +kernel
theorem dX9_off_29 : decode cX9_off 29 = .ok (.iload 6, 2) := by decide +kernel
theorem dX9_off_31 : decode cX9_off 31 = .ok (.iconst 1, 1) := by decide +kernel
theorem dX9_off_32 : decode cX9_off 32 = .ok (.bipush 8, 2) := by decide +kernel
theorem dX9_off_34 : decode cX9_off 34 = .ok (.invokestatic 69, 3) := by decide +kernel
theorem dX9_off_37 : decode cX9_off 37 = .ok (.ifCond .eq 13, 3) := by decide +kernel
theorem dX9_off_40 : decode cX9_off 40 = .ok (.iload 7, 2) := by decide +kernel
theorem dX9_off_42 : decode cX9_off 42 = .ok (.iconst 0, 1) := by decide +kernel
theorem dX9_off_43 : decode cX9_off 43 = .ok (.iconst 3, 1) := by decide +kernel
theorem dX9_off_44 : decode cX9_off 44 = .ok (.invokestatic 69, 3) := by decide +kernel
theorem dX9_off_47 : decode cX9_off 47 = .ok (.ifCond .ne 6, 3) := by decide +kernel
theorem dX9_off_50 : decode cX9_off 50 = .ok (.bipush (-2), 2) := by decide +kernel
theorem dX9_off_52 : decode cX9_off 52 = .ok (.ireturn, 1) := by decide +kernel
theorem dX9_off_53 : decode cX9_off 53 = .ok (.aload_n 0, 1) := by decide +kernel
theorem dX9_off_54 : decode cX9_off 54 = .ok (.aload 8, 2) := by decide +kernel
theorem dX9_off_56 : decode cX9_off 56 = .ok (.iload_n 2, 1) := by decide +kernel
theorem dX9_off_57 : decode cX9_off 57 = .ok (.iload_n 3, 1) := by decide +kernel
end
section
theorem dX9_off_58 : decode cX9_off 58 = .ok (.iload 4, 2) := by decide +kernel
theorem dX9_off_60 : decode cX9_off 60 = .ok (.iload 5, 2) := by decide +kernel
theorem dX9_off_62 : decode cX9_off 62 = .ok (.iload 6, 2) := by decide +kernel
theorem dX9_off_64 : decode cX9_off 64 = .ok (.iload 7, 2) := by decide +kernel
theorem dX9_off_66 : decode cX9_off 66 = .ok (.invokevirtual 268, 3) := by decide +kernel
theorem dX9_off_69 : decode cX9_off 69 = .ok (.ireturn, 1) := by decide +kernel
theorem dX9_best_0 : decode cX9_best 0 = .ok (.aload_n 0, 1) := by decide +kernel
theorem dX9_best_1 : decode cX9_best 1 = .ok (.getfield 19, 3) := by decide +kernel
theorem dX9_best_4 : decode cX9_best 4 = .ok (.iload_n 1, 1) := by decide +kernel
theorem dX9_best_5 : decode cX9_best 5 = .ok (.invokevirtual 61, 3) := by decide +kernel
theorem dX9_best_8 : decode cX9_best 8 = .ok (.astore 7, 2) := by decide +kernel
theorem dX9_best_10 : decode cX9_best 10 = .ok (.aload 7, 2) := by decide +kernel
theorem dX9_best_12 : decode cX9_best 12 = .ok (.ifnonnull 5, 3) := by decide +kernel
theorem dX9_best_15 : decode cX9_best 15 = .ok (.iconst (-1), 1) := by decide +kernel
theorem dX9_best_16 : decode cX9_best 16 = .ok (.ireturn, 1) := by decide +kernel
theorem dX9_best_17 : decode cX9_best 17 = .ok (.iload_n 2, 1) := by decide +kernel
theorem dX9_best_18 : decode cX9_best 18 = .ok (.iload_n 3, 1) := by decide +kernel
theorem dX9_best_19 : decode cX9_best 19 = .ok (.iload 4, 2) := by decide +kernel
theorem dX9_best_21 : decode cX9_best 21 = .ok (.iload 5, 2) := by decide +kernel
theorem dX9_best_23 : decode cX9_best 23 = .ok (.invokestatic 261, 3) := by decide +kernel
theorem dX9_best_26 : decode cX9_best 26 = .ok (.ifCond .eq 14, 3) := by decide +kernel
theorem dX9_best_29 : decode cX9_best 29 = .ok (.iload 6, 2) := by decide +kernel
theorem dX9_best_31 : decode cX9_best 31 = .ok (.iconst 1, 1) := by decide +kernel
theorem dX9_best_32 : decode cX9_best 32 = .ok (.bipush 8, 2) := by decide +kernel
theorem dX9_best_34 : decode cX9_best 34 = .ok (.invokestatic 69, 3) := by decide +kernel
theorem dX9_best_37 : decode cX9_best 37 = .ok (.ifCond .ne 6, 3) := by decide +kernel
theorem dX9_best_40 : decode cX9_best 40 = .ok (.bipush (-2), 2) := by decide +kernel
theorem dX9_best_42 : decode cX9_best 42 = .ok (.ireturn, 1) := by decide +kernel
theorem dX9_best_43 : decode cX9_best 43 = .ok (.iconst 0, 1) := by decide +kernel
theorem dX9_best_44 : decode cX9_best 44 = .ok (.istore 8, 2) := by decide +kernel
theorem dX9_best_46 : decode cX9_best 46 = .ok (.aload_n 0, 1) := by decide +kernel
theorem dX9_best_47 : decode cX9_best 47 = .ok (.aload 7, 2) := by decide +kernel
theorem dX9_best_49 : decode cX9_best 49 = .ok (.iload_n 2, 1) := by decide +kernel
theorem dX9_best_50 : decode cX9_best 50 = .ok (.iload_n 3, 1) := by decide +kernel
theorem dX9_best_51 : decode cX9_best 51 = .ok (.iload 4, 2) := by decide +kernel
theorem dX9_best_53 : decode cX9_best 53 = .ok (.iload 5, 2) := by decide +kernel
theorem dX9_best_55 : decode cX9_best 55 = .ok (.iload 6, 2) := by decide +kernel
theorem dX9_best_57 : decode cX9_best 57 = .ok (.iconst 0, 1) := by decide +kernel
theorem dX9_best_58 : decode cX9_best 58 = .ok (.invokevirtual 268, 3) := by decide +kernel
theorem dX9_best_61 : decode cX9_best 61 = .ok (.istore 9, 2) := by decide +kernel
theorem dX9_best_63 : decode cX9_best 63 = .ok (.iconst 1, 1) := by decide +kernel
theorem dX9_best_64 : decode cX9_best 64 = .ok (.istore 10, 2) := by decide +kernel
theorem dX9_best_66 : decode cX9_best 66 = .ok (.iload 10, 2) := by decide +kernel
theorem dX9_best_68 : decode cX9_best 68 = .ok (.iconst 4, 1) := by decide +kernel
theorem dX9_best_69 : decode cX9_best 69 = .ok (.if_icmp .ge 42, 3) := by decide +kernel
theorem dX9_best_72 : decode cX9_best 72 = .ok (.aload_n 0, 1) := by decide +kernel
theorem dX9_best_73 : decode cX9_best 73 = .ok (.aload 7, 2) := by decide +kernel
theorem dX9_best_75 : decode cX9_best 75 = .ok (.iload_n 2, 1) := by decide +kernel
theorem dX9_best_76 : decode cX9_best 76 = .ok (.iload_n 3, 1) := by decide +kernel
theorem dX9_best_77 : decode cX9_best 77 = .ok (.iload 4, 2) := by decide +kernel
theorem dX9_best_79 : decode cX9_best 79 = .ok (.iload 5, 2) := by decide +kernel
theorem dX9_best_81 : decode cX9_best 81 = .ok (.iload 6, 2) := by decide +kernel
theorem dX9_best_83 : decode cX9_best 83 = .ok (.iload 10, 2) := by decide +kernel
theorem dX9_best_85 : decode cX9_best 85 = .ok (.invokevirtual 268, 3) := by decide +kernel
theorem dX9_best_88 : decode cX9_best 88 = .ok (.istore 11, 2) := by decide +kernel
theorem dX9_best_90 : decode cX9_best 90 = .ok (.iload 11, 2) := by decide +kernel
theorem dX9_best_92 : decode cX9_best 92 = .ok (.iload 9, 2) := by decide +kernel
theorem dX9_best_94 : decode cX9_best 94 = .ok (.if_icmp .ge 11, 3) := by decide +kernel
theorem dX9_best_97 : decode cX9_best 97 = .ok (.iload 11, 2) := by decide +kernel
theorem dX9_best_99 : decode cX9_best 99 = .ok (.istore 9, 2) := by decide +kernel
theorem dX9_best_101 : decode cX9_best 101 = .ok (.iload 10, 2) := by decide +kernel
theorem dX9_best_103 : decode cX9_best 103 = .ok (.istore 8, 2) := by decide +kernel
theorem dX9_best_105 : decode cX9_best 105 = .ok (.iinc 10 1, 3) := by decide +kernel
theorem dX9_best_108 : decode cX9_best 108 = .ok (.goto (-42), 3) := by decide +kernel
theorem dX9_best_111 : decode cX9_best 111 = .ok (.iload 8, 2) := by decide +kernel
theorem dX9_best_113 : decode cX9_best 113 = .ok (.ireturn, 1) := by decide +kernel
theorem dX9_image_0 : decode cX9_image 0 = .ok (.iload_n 1, 1) := by decide +kernel
theorem dX9_image_1 : decode cX9_image 1 = .ok (.invokestatic 272, 3) := by decide +kernel
theorem dX9_image_4 : decode cX9_image 4 = .ok (.ifCond .ne 6, 3) := by decide +kernel
theorem dX9_image_7 : decode cX9_image 7 = .ok (.bipush (-2), 2) := by decide +kernel
theorem dX9_image_9 : decode cX9_image 9 = .ok (.ireturn, 1) := by decide +kernel
theorem dX9_image_10 : decode cX9_image 10 = .ok (.aload_n 0, 1) := by decide +kernel
theorem dX9_image_11 : decode cX9_image 11 = .ok (.getfield 23, 3) := by decide +kernel
theorem dX9_image_14 : decode cX9_image 14 = .ok (.iload_n 1, 1) := by decide +kernel
theorem dX9_image_15 : decode cX9_image 15 = .ok (.aaload, 1) := by decide +kernel
theorem dX9_image_16 : decode cX9_image 16 = .ok (.aload_n 0, 1) := by decide +kernel
theorem dX9_image_17 : decode cX9_image 17 = .ok (.getfield 19, 3) := by decide +kernel
theorem dX9_image_20 : decode cX9_image 20 = .ok (.invokevirtual 275, 3) := by decide +kernel
theorem dX9_image_23 : decode cX9_image 23 = .ok (.aload_n 0, 1) := by decide +kernel
theorem dX9_image_24 : decode cX9_image 24 = .ok (.getfield 27, 3) := by decide +kernel
theorem dX9_image_27 : decode cX9_image 27 = .ok (.iload_n 1, 1) := by decide +kernel
theorem dX9_image_28 : decode cX9_image 28 = .ok (.iconst 1, 1) := by decide +kernel
theorem dX9_image_29 : decode cX9_image 29 = .ok (.bastore, 1) := by decide +kernel
theorem dX9_image_30 : decode cX9_image 30 = .ok (.iconst 1, 1) := by decide +kernel
theorem dX9_image_31 : decode cX9_image 31 = .ok (.ireturn, 1) := by decide +kernel
theorem dX9_restore_0 : decode cX9_restore 0 = .ok (.iload_n 1, 1) := by decide +kernel
theorem dX9_restore_1 : decode cX9_restore 1 = .ok (.invokestatic 272, 3) := by decide +kernel
theorem dX9_restore_4 : decode cX9_restore 4 = .ok (.ifCond .ne 6, 3) := by decide +kernel
theorem dX9_restore_7 : decode cX9_restore 7 = .ok (.bipush (-2), 2) := by decide +kernel
theorem dX9_restore_9 : decode cX9_restore 9 = .ok (.ireturn, 1) := by decide +kernel
theorem dX9_restore_10 : decode cX9_restore 10 = .ok (.aload_n 0, 1) := by decide +kernel
theorem dX9_restore_11 : decode cX9_restore 11 = .ok (.getfield 27, 3) := by decide +kernel
theorem dX9_restore_14 : decode cX9_restore 14 = .ok (.iload_n 1, 1) := by decide +kernel
theorem dX9_restore_15 : decode cX9_restore 15 = .ok (.baload, 1) := by decide +kernel
theorem dX9_restore_16 : decode cX9_restore 16 = .ok (.ifCond .ne 6, 3) := by decide +kernel
theorem dX9_restore_19 : decode cX9_restore 19 = .ok (.bipush (-3), 2) := by decide +kernel
theorem dX9_restore_21 : decode cX9_restore 21 = .ok (.ireturn, 1) := by decide +kernel
theorem dX9_restore_22 : decode cX9_restore 22 = .ok (.aload_n 0, 1) := by decide +kernel
theorem dX9_restore_23 : decode cX9_restore 23 = .ok (.getfield 19, 3) := by decide +kernel
theorem dX9_restore_26 : decode cX9_restore 26 = .ok (.aload_n 0, 1) := by decide +kernel
theorem dX9_restore_27 : decode cX9_restore 27 = .ok (.getfield 23, 3) := by decide +kernel
theorem dX9_restore_30 : decode cX9_restore 30 = .ok (.iload_n 1, 1) := by decide +kernel
theorem dX9_restore_31 : decode cX9_restore 31 = .ok (.aaload, 1) := by decide +kernel
theorem dX9_restore_32 : decode cX9_restore 32 = .ok (.invokevirtual 275, 3) := by decide +kernel
theorem dX9_restore_35 : decode cX9_restore 35 = .ok (.iconst 1, 1) := by decide +kernel
theorem dX9_restore_36 : decode cX9_restore 36 = .ok (.ireturn, 1) := by decide +kernel
theorem dX9_told_0 : decode cX9_told 0 = .ok (.iload_n 1, 1) := by decide +kernel
theorem dX9_told_1 : decode cX9_told 1 = .ok (.ifCond .ne 11, 3) := by decide +kernel
theorem dX9_told_4 : decode cX9_told 4 = .ok (.aload_n 0, 1) := by decide +kernel
theorem dX9_told_5 : decode cX9_told 5 = .ok (.getfield 10, 3) := by decide +kernel
theorem dX9_told_8 : decode cX9_told 8 = .ok (.getfield 106, 3) := by decide +kernel
theorem dX9_told_11 : decode cX9_told 11 = .ok (.ireturn, 1) := by decide +kernel
theorem dX9_told_12 : decode cX9_told 12 = .ok (.iload_n 1, 1) := by decide +kernel
theorem dX9_told_13 : decode cX9_told 13 = .ok (.iconst 1, 1) := by decide +kernel
theorem dX9_told_14 : decode cX9_told 14 = .ok (.if_icmp .ne 14, 3) := by decide +kernel
theorem dX9_told_17 : decode cX9_told 17 = .ok (.aload_n 0, 1) := by decide +kernel
theorem dX9_told_18 : decode cX9_told 18 = .ok (.getfield 19, 3) := by decide +kernel
theorem dX9_told_21 : decode cX9_told 21 = .ok (.getfield 119, 3) := by decide +kernel
theorem dX9_told_24 : decode cX9_told 24 = .ok (.invokevirtual 129, 3) := by decide +kernel
theorem dX9_told_27 : decode cX9_told 27 = .ok (.ireturn, 1) := by decide +kernel
theorem dX9_told_28 : decode cX9_told 28 = .ok (.iload_n 1, 1) := by decide +kernel
theorem dX9_told_29 : decode cX9_told 29 = .ok (.iconst 2, 1) := by decide +kernel
theorem dX9_told_30 : decode cX9_told 30 = .ok (.if_icmp .ne 14, 3) := by decide +kernel
theorem dX9_told_33 : decode cX9_told 33 = .ok (.aload_n 0, 1) := by decide +kernel
theorem dX9_told_34 : decode cX9_told 34 = .ok (.getfield 19, 3) := by decide +kernel
theorem dX9_told_37 : decode cX9_told 37 = .ok (.getfield 122, 3) := by decide +kernel
theorem dX9_told_40 : decode cX9_told 40 = .ok (.invokevirtual 129, 3) := by decide +kernel
theorem dX9_told_43 : decode cX9_told 43 = .ok (.ireturn, 1) := by decide +kernel
theorem dX9_told_44 : decode cX9_told 44 = .ok (.iload_n 1, 1) := by decide +kernel
theorem dX9_told_45 : decode cX9_told 45 = .ok (.iconst 3, 1) := by decide +kernel
theorem dX9_told_46 : decode cX9_told 46 = .ok (.bipush 7, 2) := by decide +kernel
theorem dX9_told_48 : decode cX9_told 48 = .ok (.invokestatic 69, 3) := by decide +kernel
theorem dX9_told_51 : decode cX9_told 51 = .ok (.ifCond .eq 14, 3) := by decide +kernel
theorem dX9_told_54 : decode cX9_told 54 = .ok (.aload_n 0, 1) := by decide +kernel
theorem dX9_told_55 : decode cX9_told 55 = .ok (.getfield 19, 3) := by decide +kernel
theorem dX9_told_58 : decode cX9_told 58 = .ok (.iload_n 1, 1) := by decide +kernel
theorem dX9_told_59 : decode cX9_told 59 = .ok (.iconst 3, 1) := by decide +kernel
theorem dX9_told_60 : decode cX9_told 60 = .ok (.isub, 1) := by decide +kernel
theorem dX9_told_61 : decode cX9_told 61 = .ok (.invokevirtual 97, 3) := by decide +kernel
theorem dX9_told_64 : decode cX9_told 64 = .ok (.ireturn, 1) := by decide +kernel
theorem dX9_told_65 : decode cX9_told 65 = .ok (.iload_n 1, 1) := by decide +kernel
theorem dX9_told_66 : decode cX9_told 66 = .ok (.bipush 10, 2) := by decide +kernel
theorem dX9_told_68 : decode cX9_told 68 = .ok (.bipush 45, 2) := by decide +kernel
theorem dX9_told_70 : decode cX9_told 70 = .ok (.invokestatic 69, 3) := by decide +kernel
theorem dX9_told_73 : decode cX9_told 73 = .ok (.ifCond .eq 17, 3) := by decide +kernel
theorem dX9_told_76 : decode cX9_told 76 = .ok (.aload_n 0, 1) := by decide +kernel
theorem dX9_told_77 : decode cX9_told 77 = .ok (.getfield 19, 3) := by decide +kernel
theorem dX9_told_80 : decode cX9_told 80 = .ok (.iload_n 1, 1) := by decide +kernel
theorem dX9_told_81 : decode cX9_told 81 = .ok (.bipush 10, 2) := by decide +kernel
theorem dX9_told_83 : decode cX9_told 83 = .ok (.irem, 1) := by decide +kernel
theorem dX9_told_84 : decode cX9_told 84 = .ok (.invokevirtual 61, 3) := by decide +kernel
theorem dX9_told_87 : decode cX9_told 87 = .ok (.goto 4, 3) := by decide +kernel
theorem dX9_told_90 : decode cX9_told 90 = .ok (.aconst_null, 1) := by decide +kernel
theorem dX9_told_91 : decode cX9_told 91 = .ok (.astore_n 2, 1) := by decide +kernel
theorem dX9_told_92 : decode cX9_told 92 = .ok (.aload_n 2, 1) := by decide +kernel
theorem dX9_told_93 : decode cX9_told 93 = .ok (.ifnonnull 6, 3) := by decide +kernel
theorem dX9_told_96 : decode cX9_told 96 = .ok (.bipush (-2), 2) := by decide +kernel
theorem dX9_told_98 : decode cX9_told 98 = .ok (.ireturn, 1) := by decide +kernel
theorem dX9_told_99 : decode cX9_told 99 = .ok (.iload_n 1, 1) := by decide +kernel
theorem dX9_told_100 : decode cX9_told 100 = .ok (.bipush 20, 2) := by decide +kernel
theorem dX9_told_102 : decode cX9_told 102 = .ok (.if_icmp .ge 10, 3) := by decide +kernel
theorem dX9_told_105 : decode cX9_told 105 = .ok (.aload_n 2, 1) := by decide +kernel
theorem dX9_told_106 : decode cX9_told 106 = .ok (.getfield 205, 3) := by decide +kernel
theorem dX9_told_109 : decode cX9_told 109 = .ok (.goto 13, 3) := by decide +kernel
theorem dX9_told_112 : decode cX9_told 112 = .ok (.aload_n 2, 1) := by decide +kernel
theorem dX9_told_113 : decode cX9_told 113 = .ok (.iload_n 1, 1) := by decide +kernel
theorem dX9_told_114 : decode cX9_told 114 = .ok (.bipush 10, 2) := by decide +kernel
theorem dX9_told_116 : decode cX9_told 116 = .ok (.idiv, 1) := by decide +kernel
theorem dX9_told_117 : decode cX9_told 117 = .ok (.iconst 2, 1) := by decide +kernel
theorem dX9_told_118 : decode cX9_told 118 = .ok (.isub, 1) := by decide +kernel
theorem dX9_told_119 : decode cX9_told 119 = .ok (.invokevirtual 88, 3) := by decide +kernel
theorem dX9_told_122 : decode cX9_told 122 = .ok (.ireturn, 1) := by decide +kernel
theorem dX9_seekMiddle_0 : decode cX9_seekMiddle 0 = .ok (.aload_n 0, 1) := by decide +kernel
theorem dX9_seekMiddle_1 : decode cX9_seekMiddle 1 = .ok (.getfield 43, 3) := by decide +kernel
theorem dX9_seekMiddle_4 : decode cX9_seekMiddle 4 = .ok (.aload_n 1, 1) := by decide +kernel
theorem dX9_seekMiddle_5 : decode cX9_seekMiddle 5 = .ok (.iload_n 2, 1) := by decide +kernel
theorem dX9_seekMiddle_6 : decode cX9_seekMiddle 6 = .ok (.aload_n 0, 1) := by decide +kernel
theorem dX9_seekMiddle_7 : decode cX9_seekMiddle 7 = .ok (.getfield 19, 3) := by decide +kernel
theorem dX9_seekMiddle_10 : decode cX9_seekMiddle 10 = .ok (.aload_n 1, 1) := by decide +kernel
theorem dX9_seekMiddle_11 : decode cX9_seekMiddle 11 = .ok (.invokevirtual 133, 3) := by decide +kernel
theorem dX9_seekMiddle_14 : decode cX9_seekMiddle 14 = .ok (.aload_n 0, 1) := by decide +kernel
theorem dX9_seekMiddle_15 : decode cX9_seekMiddle 15 = .ok (.getfield 19, 3) := by decide +kernel
theorem dX9_seekMiddle_18 : decode cX9_seekMiddle 18 = .ok (.iconst 0, 1) := by decide +kernel
theorem dX9_seekMiddle_19 : decode cX9_seekMiddle 19 = .ok (.invokevirtual 97, 3) := by decide +kernel
theorem dX9_seekMiddle_22 : decode cX9_seekMiddle 22 = .ok (.invokevirtual 278, 3) := by decide +kernel
theorem dX9_seekMiddle_25 : decode cX9_seekMiddle 25 = .ok (.return_, 1) := by decide +kernel
theorem dX9_seekSpan_0 : decode cX9_seekSpan 0 = .ok (.aload_n 0, 1) := by decide +kernel
theorem dX9_seekSpan_1 : decode cX9_seekSpan 1 = .ok (.getfield 43, 3) := by decide +kernel
theorem dX9_seekSpan_4 : decode cX9_seekSpan 4 = .ok (.aload_n 1, 1) := by decide +kernel
theorem dX9_seekSpan_5 : decode cX9_seekSpan 5 = .ok (.iload_n 2, 1) := by decide +kernel
theorem dX9_seekSpan_6 : decode cX9_seekSpan 6 = .ok (.aload_n 0, 1) := by decide +kernel
theorem dX9_seekSpan_7 : decode cX9_seekSpan 7 = .ok (.getfield 19, 3) := by decide +kernel
theorem dX9_seekSpan_10 : decode cX9_seekSpan 10 = .ok (.aload_n 1, 1) := by decide +kernel
theorem dX9_seekSpan_11 : decode cX9_seekSpan 11 = .ok (.invokevirtual 133, 3) := by decide +kernel
theorem dX9_seekSpan_14 : decode cX9_seekSpan 14 = .ok (.aload_n 0, 1) := by decide +kernel
theorem dX9_seekSpan_15 : decode cX9_seekSpan 15 = .ok (.getfield 19, 3) := by decide +kernel
theorem dX9_seekSpan_18 : decode cX9_seekSpan 18 = .ok (.iconst 0, 1) := by decide +kernel
theorem dX9_seekSpan_19 : decode cX9_seekSpan 19 = .ok (.invokevirtual 97, 3) := by decide +kernel
theorem dX9_seekSpan_22 : decode cX9_seekSpan 22 = .ok (.iload_n 3, 1) := by decide +kernel
theorem dX9_seekSpan_23 : decode cX9_seekSpan 23 = .ok (.invokevirtual 281, 3) := by decide +kernel
theorem dX9_seekSpan_26 : decode cX9_seekSpan 26 = .ok (.return_, 1) := by decide +kernel
theorem dX9_offBy_0 : decode cX9_offBy 0 = .ok (.aload_n 0, 1) := by decide +kernel
theorem dX9_offBy_1 : decode cX9_offBy 1 = .ok (.getfield 57, 3) := by decide +kernel
theorem dX9_offBy_4 : decode cX9_offBy 4 = .ok (.aload_n 1, 1) := by decide +kernel
theorem dX9_offBy_5 : decode cX9_offBy 5 = .ok (.invokevirtual 284, 3) := by decide +kernel
theorem dX9_offBy_8 : decode cX9_offBy 8 = .ok (.iconst 0, 1) := by decide +kernel
theorem dX9_offBy_9 : decode cX9_offBy 9 = .ok (.istore 8, 2) := by decide +kernel
theorem dX9_offBy_11 : decode cX9_offBy 11 = .ok (.iconst 0, 1) := by decide +kernel
theorem dX9_offBy_12 : decode cX9_offBy 12 = .ok (.istore 9, 2) := by decide +kernel
theorem dX9_offBy_14 : decode cX9_offBy 14 = .ok (.iload 9, 2) := by decide +kernel
theorem dX9_offBy_16 : decode cX9_offBy 16 = .ok (.iload 6, 2) := by decide +kernel
theorem dX9_offBy_18 : decode cX9_offBy 18 = .ok (.if_icmp .ge 67, 3) := by decide +kernel
theorem dX9_offBy_21 : decode cX9_offBy 21 = .ok (.aload_n 0, 1) := by decide +kernel
theorem dX9_offBy_22 : decode cX9_offBy 22 = .ok (.getfield 50, 3) := by decide +kernel
theorem dX9_offBy_25 : decode cX9_offBy 25 = .ok (.aload_n 0, 1) := by decide +kernel
theorem dX9_offBy_26 : decode cX9_offBy 26 = .ok (.getfield 57, 3) := by decide +kernel
theorem dX9_offBy_29 : decode cX9_offBy 29 = .ok (.aload_n 0, 1) := by decide +kernel
theorem dX9_offBy_30 : decode cX9_offBy 30 = .ok (.getfield 19, 3) := by decide +kernel
theorem dX9_offBy_33 : decode cX9_offBy 33 = .ok (.iload_n 2, 1) := by decide +kernel
theorem dX9_offBy_34 : decode cX9_offBy 34 = .ok (.iload 9, 2) := by decide +kernel
theorem dX9_offBy_36 : decode cX9_offBy 36 = .ok (.iadd, 1) := by decide +kernel
theorem dX9_offBy_37 : decode cX9_offBy 37 = .ok (.iload_n 3, 1) := by decide +kernel
theorem dX9_offBy_38 : decode cX9_offBy 38 = .ok (.iload 4, 2) := by decide +kernel
theorem dX9_offBy_40 : decode cX9_offBy 40 = .ok (.iload 5, 2) := by decide +kernel
theorem dX9_offBy_42 : decode cX9_offBy 42 = .ok (.invokevirtual 264, 3) := by decide +kernel
theorem dX9_offBy_45 : decode cX9_offBy 45 = .ok (.istore 10, 2) := by decide +kernel
theorem dX9_offBy_47 : decode cX9_offBy 47 = .ok (.iload 8, 2) := by decide +kernel
theorem dX9_offBy_49 : decode cX9_offBy 49 = .ok (.iload 10, 2) := by decide +kernel
theorem dX9_offBy_51 : decode cX9_offBy 51 = .ok (.ifCond .ne 8, 3) := by decide +kernel
theorem dX9_offBy_54 : decode cX9_offBy 54 = .ok (.bipush 63, 2) := by decide +kernel
theorem dX9_offBy_56 : decode cX9_offBy 56 = .ok (.goto 20, 3) := by decide +kernel
theorem dX9_offBy_59 : decode cX9_offBy 59 = .ok (.aload_n 0, 1) := by decide +kernel
theorem dX9_offBy_60 : decode cX9_offBy 60 = .ok (.aload_n 0, 1) := by decide +kernel
theorem dX9_offBy_61 : decode cX9_offBy 61 = .ok (.getfield 57, 3) := by decide +kernel
theorem dX9_offBy_64 : decode cX9_offBy 64 = .ok (.iload 4, 2) := by decide +kernel
theorem dX9_offBy_66 : decode cX9_offBy 66 = .ok (.iload 7, 2) := by decide +kernel
theorem dX9_offBy_68 : decode cX9_offBy 68 = .ok (.invokevirtual 288, 3) := by decide +kernel
theorem dX9_offBy_71 : decode cX9_offBy 71 = .ok (.iload_n 3, 1) := by decide +kernel
theorem dX9_offBy_72 : decode cX9_offBy 72 = .ok (.isub, 1) := by decide +kernel
theorem dX9_offBy_73 : decode cX9_offBy 73 = .ok (.invokestatic 292, 3) := by decide +kernel
theorem dX9_offBy_76 : decode cX9_offBy 76 = .ok (.iadd, 1) := by decide +kernel
theorem dX9_offBy_77 : decode cX9_offBy 77 = .ok (.istore 8, 2) := by decide +kernel
theorem dX9_offBy_79 : decode cX9_offBy 79 = .ok (.iinc 9 1, 3) := by decide +kernel
theorem dX9_offBy_82 : decode cX9_offBy 82 = .ok (.goto (-68), 3) := by decide +kernel
theorem dX9_offBy_85 : decode cX9_offBy 85 = .ok (.iload 8, 2) := by decide +kernel
theorem dX9_offBy_87 : decode cX9_offBy 87 = .ok (.ireturn, 1) := by decide +kernel
theorem dX9_undone_0 : decode cX9_undone 0 = .ok (.iload_n 3, 1) := by decide +kernel
theorem dX9_undone_1 : decode cX9_undone 1 = .ok (.tableswitch 70 0 2 #[27, 51, 56], 27) := by decide +kernel
theorem dX9_undone_28 : decode cX9_undone 28 = .ok (.aload_n 1, 1) := by decide +kernel
theorem dX9_undone_29 : decode cX9_undone 29 = .ok (.getfield 205, 3) := by decide +kernel
theorem dX9_undone_32 : decode cX9_undone 32 = .ok (.ifCond .ne 7, 3) := by decide +kernel
theorem dX9_undone_35 : decode cX9_undone 35 = .ok (.iconst 0, 1) := by decide +kernel
theorem dX9_undone_36 : decode cX9_undone 36 = .ok (.goto 15, 3) := by decide +kernel
theorem dX9_undone_39 : decode cX9_undone 39 = .ok (.aload_n 1, 1) := by decide +kernel
theorem dX9_undone_40 : decode cX9_undone 40 = .ok (.iconst 0, 1) := by decide +kernel
theorem dX9_undone_41 : decode cX9_undone 41 = .ok (.invokevirtual 253, 3) := by decide +kernel
theorem dX9_undone_44 : decode cX9_undone 44 = .ok (.aload_n 1, 1) := by decide +kernel
theorem dX9_undone_45 : decode cX9_undone 45 = .ok (.getfield 205, 3) := by decide +kernel
theorem dX9_undone_48 : decode cX9_undone 48 = .ok (.i2l, 1) := by decide +kernel
theorem dX9_undone_49 : decode cX9_undone 49 = .ok (.ldiv, 1) := by decide +kernel
theorem dX9_undone_50 : decode cX9_undone 50 = .ok (.l2i, 1) := by decide +kernel
theorem dX9_undone_51 : decode cX9_undone 51 = .ok (.ireturn, 1) := by decide +kernel
theorem dX9_undone_52 : decode cX9_undone 52 = .ok (.aload_n 1, 1) := by decide +kernel
theorem dX9_undone_53 : decode cX9_undone 53 = .ok (.invokevirtual 256, 3) := by decide +kernel
theorem dX9_undone_56 : decode cX9_undone 56 = .ok (.ireturn, 1) := by decide +kernel
theorem dX9_undone_57 : decode cX9_undone 57 = .ok (.aload_n 0, 1) := by decide +kernel
theorem dX9_undone_58 : decode cX9_undone 58 = .ok (.aload_n 1, 1) := by decide +kernel
theorem dX9_undone_59 : decode cX9_undone 59 = .ok (.iload_n 2, 1) := by decide +kernel
theorem dX9_undone_60 : decode cX9_undone 60 = .ok (.invokevirtual 167, 3) := by decide +kernel
theorem dX9_undone_63 : decode cX9_undone 63 = .ok (.aload_n 0, 1) := by decide +kernel
theorem dX9_undone_64 : decode cX9_undone 64 = .ok (.getfield 43, 3) := by decide +kernel
theorem dX9_undone_67 : decode cX9_undone 67 = .ok (.getfield 171, 3) := by decide +kernel
theorem dX9_undone_70 : decode cX9_undone 70 = .ok (.ireturn, 1) := by decide +kernel
theorem dX9_undone_71 : decode cX9_undone 71 = .ok (.aload_n 0, 1) := by decide +kernel
theorem dX9_undone_72 : decode cX9_undone 72 = .ok (.getfield 43, 3) := by decide +kernel
theorem dX9_undone_75 : decode cX9_undone 75 = .ok (.aload_n 1, 1) := by decide +kernel
theorem dX9_undone_76 : decode cX9_undone 76 = .ok (.iload_n 2, 1) := by decide +kernel
theorem dX9_undone_77 : decode cX9_undone 77 = .ok (.aload_n 0, 1) := by decide +kernel
theorem dX9_undone_78 : decode cX9_undone 78 = .ok (.getfield 19, 3) := by decide +kernel
theorem dX9_undone_81 : decode cX9_undone 81 = .ok (.iconst 0, 1) := by decide +kernel
theorem dX9_undone_82 : decode cX9_undone 82 = .ok (.invokevirtual 97, 3) := by decide +kernel
theorem dX9_undone_85 : decode cX9_undone 85 = .ok (.invokevirtual 187, 3) := by decide +kernel
theorem dX9_undone_88 : decode cX9_undone 88 = .ok (.aload_n 0, 1) := by decide +kernel
theorem dX9_undone_89 : decode cX9_undone 89 = .ok (.getfield 43, 3) := by decide +kernel
theorem dX9_undone_92 : decode cX9_undone 92 = .ok (.getfield 171, 3) := by decide +kernel
theorem dX9_undone_95 : decode cX9_undone 95 = .ok (.ireturn, 1) := by decide +kernel
theorem dX9_within_0 : decode cX9_within 0 = .ok (.iload_n 0, 1) := by decide +kernel
theorem dX9_within_1 : decode cX9_within 1 = .ok (.iload_n 1, 1) := by decide +kernel
theorem dX9_within_2 : decode cX9_within 2 = .ok (.if_icmp .lt 12, 3) := by decide +kernel
theorem dX9_within_5 : decode cX9_within 5 = .ok (.iload_n 0, 1) := by decide +kernel
theorem dX9_within_6 : decode cX9_within 6 = .ok (.iload_n 2, 1) := by decide +kernel
theorem dX9_within_7 : decode cX9_within 7 = .ok (.if_icmp .gt 7, 3) := by decide +kernel
theorem dX9_within_10 : decode cX9_within 10 = .ok (.iconst 1, 1) := by decide +kernel
theorem dX9_within_11 : decode cX9_within 11 = .ok (.goto 4, 3) := by decide +kernel
theorem dX9_within_14 : decode cX9_within 14 = .ok (.iconst 0, 1) := by decide +kernel
theorem dX9_within_15 : decode cX9_within 15 = .ok (.ireturn, 1) := by decide +kernel
theorem dX9_isHeight_0 : decode cX9_isHeight 0 = .ok (.iload_n 0, 1) := by decide +kernel
theorem dX9_isHeight_1 : decode cX9_isHeight 1 = .ok (.iconst 0, 1) := by decide +kernel
theorem dX9_isHeight_2 : decode cX9_isHeight 2 = .ok (.bipush 63, 2) := by decide +kernel
theorem dX9_isHeight_4 : decode cX9_isHeight 4 = .ok (.invokestatic 69, 3) := by decide +kernel
theorem dX9_isHeight_7 : decode cX9_isHeight 7 = .ok (.ireturn, 1) := by decide +kernel
theorem dX9_isWidth_0 : decode cX9_isWidth 0 = .ok (.iload_n 0, 1) := by decide +kernel
theorem dX9_isWidth_1 : decode cX9_isWidth 1 = .ok (.iconst 1, 1) := by decide +kernel
theorem dX9_isWidth_2 : decode cX9_isWidth 2 = .ok (.bipush 8, 2) := by decide +kernel
theorem dX9_isWidth_4 : decode cX9_isWidth 4 = .ok (.invokestatic 69, 3) := by decide +kernel
theorem dX9_isWidth_7 : decode cX9_isWidth 7 = .ok (.ireturn, 1) := by decide +kernel
theorem dX9_isHump_0 : decode cX9_isHump 0 = .ok (.iload_n 0, 1) := by decide +kernel
theorem dX9_isHump_1 : decode cX9_isHump 1 = .ok (.invokestatic 65, 3) := by decide +kernel
theorem dX9_isHump_4 : decode cX9_isHump 4 = .ok (.ifCond .eq 14, 3) := by decide +kernel
theorem dX9_isHump_7 : decode cX9_isHump 7 = .ok (.iload_n 1, 1) := by decide +kernel
theorem dX9_isHump_8 : decode cX9_isHump 8 = .ok (.invokestatic 164, 3) := by decide +kernel
theorem dX9_isHump_11 : decode cX9_isHump 11 = .ok (.ifCond .eq 7, 3) := by decide +kernel
theorem dX9_isHump_14 : decode cX9_isHump 14 = .ok (.iconst 1, 1) := by decide +kernel
theorem dX9_isHump_15 : decode cX9_isHump 15 = .ok (.goto 4, 3) := by decide +kernel
theorem dX9_isHump_18 : decode cX9_isHump 18 = .ok (.iconst 0, 1) := by decide +kernel
theorem dX9_isHump_19 : decode cX9_isHump 19 = .ok (.ireturn, 1) := by decide +kernel
theorem dX9_isPart_0 : decode cX9_isPart 0 = .ok (.iload_n 0, 1) := by decide +kernel
theorem dX9_isPart_1 : decode cX9_isPart 1 = .ok (.iconst 0, 1) := by decide +kernel
theorem dX9_isPart_2 : decode cX9_isPart 2 = .ok (.iconst 1, 1) := by decide +kernel
theorem dX9_isPart_3 : decode cX9_isPart 3 = .ok (.invokestatic 69, 3) := by decide +kernel
theorem dX9_isPart_6 : decode cX9_isPart 6 = .ok (.ireturn, 1) := by decide +kernel
theorem dX9_isShare_0 : decode cX9_isShare 0 = .ok (.iload_n 0, 1) := by decide +kernel
theorem dX9_isShare_1 : decode cX9_isShare 1 = .ok (.iconst 0, 1) := by decide +kernel
theorem dX9_isShare_2 : decode cX9_isShare 2 = .ok (.bipush 100, 2) := by decide +kernel
theorem dX9_isShare_4 : decode cX9_isShare 4 = .ok (.invokestatic 69, 3) := by decide +kernel
theorem dX9_isShare_7 : decode cX9_isShare 7 = .ok (.ireturn, 1) := by decide +kernel
theorem dX9_areShares_0 : decode cX9_areShares 0 = .ok (.iload_n 0, 1) := by decide +kernel
theorem dX9_areShares_1 : decode cX9_areShares 1 = .ok (.sipush 1000, 3) := by decide +kernel
theorem dX9_areShares_4 : decode cX9_areShares 4 = .ok (.idiv, 1) := by decide +kernel
theorem dX9_areShares_5 : decode cX9_areShares 5 = .ok (.istore_n 1, 1) := by decide +kernel
theorem dX9_areShares_6 : decode cX9_areShares 6 = .ok (.iload_n 0, 1) := by decide +kernel
theorem dX9_areShares_7 : decode cX9_areShares 7 = .ok (.sipush 1000, 3) := by decide +kernel
theorem dX9_areShares_10 : decode cX9_areShares 10 = .ok (.irem, 1) := by decide +kernel
theorem dX9_areShares_11 : decode cX9_areShares 11 = .ok (.istore_n 2, 1) := by decide +kernel
theorem dX9_areShares_12 : decode cX9_areShares 12 = .ok (.iload_n 0, 1) := by decide +kernel
theorem dX9_areShares_13 : decode cX9_areShares 13 = .ok (.ifCond .lt 18, 3) := by decide +kernel
theorem dX9_areShares_16 : decode cX9_areShares 16 = .ok (.iload_n 1, 1) := by decide +kernel
theorem dX9_areShares_17 : decode cX9_areShares 17 = .ok (.iload_n 2, 1) := by decide +kernel
theorem dX9_areShares_18 : decode cX9_areShares 18 = .ok (.if_icmp .gt 13, 3) := by decide +kernel
theorem dX9_areShares_21 : decode cX9_areShares 21 = .ok (.iload_n 2, 1) := by decide +kernel
theorem dX9_areShares_22 : decode cX9_areShares 22 = .ok (.bipush 100, 2) := by decide +kernel
theorem dX9_areShares_24 : decode cX9_areShares 24 = .ok (.if_icmp .gt 7, 3) := by decide +kernel
theorem dX9_areShares_27 : decode cX9_areShares 27 = .ok (.iconst 1, 1) := by decide +kernel
theorem dX9_areShares_28 : decode cX9_areShares 28 = .ok (.goto 4, 3) := by decide +kernel
theorem dX9_areShares_31 : decode cX9_areShares 31 = .ok (.iconst 0, 1) := by decide +kernel
theorem dX9_areShares_32 : decode cX9_areShares 32 = .ok (.ireturn, 1) := by decide +kernel
theorem dX9_areSorts_0 : decode cX9_areSorts 0 = .ok (.iload_n 0, 1) := by decide +kernel
theorem dX9_areSorts_1 : decode cX9_areSorts 1 = .ok (.iload_n 2, 1) := by decide +kernel
theorem dX9_areSorts_2 : decode cX9_areSorts 2 = .ok (.invokestatic 137, 3) := by decide +kernel
theorem dX9_areSorts_5 : decode cX9_areSorts 5 = .ok (.ifCond .eq 21, 3) := by decide +kernel
theorem dX9_areSorts_8 : decode cX9_areSorts 8 = .ok (.iload_n 1, 1) := by decide +kernel
theorem dX9_areSorts_9 : decode cX9_areSorts 9 = .ok (.invokestatic 65, 3) := by decide +kernel
theorem dX9_areSorts_12 : decode cX9_areSorts 12 = .ok (.ifCond .eq 14, 3) := by decide +kernel
theorem dX9_areSorts_15 : decode cX9_areSorts 15 = .ok (.iload_n 3, 1) := by decide +kernel
theorem dX9_areSorts_16 : decode cX9_areSorts 16 = .ok (.invokestatic 65, 3) := by decide +kernel
theorem dX9_areSorts_19 : decode cX9_areSorts 19 = .ok (.ifCond .eq 7, 3) := by decide +kernel
theorem dX9_areSorts_22 : decode cX9_areSorts 22 = .ok (.iconst 1, 1) := by decide +kernel
theorem dX9_areSorts_23 : decode cX9_areSorts 23 = .ok (.goto 4, 3) := by decide +kernel
theorem dX9_areSorts_26 : decode cX9_areSorts 26 = .ok (.iconst 0, 1) := by decide +kernel
theorem dX9_areSorts_27 : decode cX9_areSorts 27 = .ok (.ireturn, 1) := by decide +kernel
theorem dX9_isWorld_0 : decode cX9_isWorld 0 = .ok (.iload_n 0, 1) := by decide +kernel
theorem dX9_isWorld_1 : decode cX9_isWorld 1 = .ok (.iconst 0, 1) := by decide +kernel
theorem dX9_isWorld_2 : decode cX9_isWorld 2 = .ok (.sipush 9999, 3) := by decide +kernel
theorem dX9_isWorld_5 : decode cX9_isWorld 5 = .ok (.invokestatic 69, 3) := by decide +kernel
theorem dX9_isWorld_8 : decode cX9_isWorld 8 = .ok (.ifCond .eq 26, 3) := by decide +kernel
theorem dX9_isWorld_11 : decode cX9_isWorld 11 = .ok (.iload_n 1, 1) := by decide +kernel
theorem dX9_isWorld_12 : decode cX9_isWorld 12 = .ok (.iload_n 2, 1) := by decide +kernel
theorem dX9_isWorld_13 : decode cX9_isWorld 13 = .ok (.invokestatic 137, 3) := by decide +kernel
theorem dX9_isWorld_16 : decode cX9_isWorld 16 = .ok (.ifCond .eq 18, 3) := by decide +kernel
theorem dX9_isWorld_19 : decode cX9_isWorld 19 = .ok (.iload_n 3, 1) := by decide +kernel
theorem dX9_isWorld_20 : decode cX9_isWorld 20 = .ok (.iconst 1, 1) := by decide +kernel
theorem dX9_isWorld_21 : decode cX9_isWorld 21 = .ok (.sipush 200, 3) := by decide +kernel
theorem dX9_isWorld_24 : decode cX9_isWorld 24 = .ok (.invokestatic 69, 3) := by decide +kernel
theorem dX9_isWorld_27 : decode cX9_isWorld 27 = .ok (.ifCond .eq 7, 3) := by decide +kernel
theorem dX9_isWorld_30 : decode cX9_isWorld 30 = .ok (.iconst 1, 1) := by decide +kernel
theorem dX9_isWorld_31 : decode cX9_isWorld 31 = .ok (.goto 4, 3) := by decide +kernel
theorem dX9_isWorld_34 : decode cX9_isWorld 34 = .ok (.iconst 0, 1) := by decide +kernel
theorem dX9_isWorld_35 : decode cX9_isWorld 35 = .ok (.ireturn, 1) := by decide +kernel
theorem dX9_isImage_0 : decode cX9_isImage 0 = .ok (.iload_n 0, 1) := by decide +kernel
theorem dX9_isImage_1 : decode cX9_isImage 1 = .ok (.iconst 0, 1) := by decide +kernel
theorem dX9_isImage_2 : decode cX9_isImage 2 = .ok (.iconst 1, 1) := by decide +kernel
theorem dX9_isImage_3 : decode cX9_isImage 3 = .ok (.invokestatic 69, 3) := by decide +kernel
theorem dX9_isImage_6 : decode cX9_isImage 6 = .ok (.ireturn, 1) := by decide +kernel
theorem dX9_nearestInch_0 : decode cX9_nearestInch 0 = .ok (.iload_n 0, 1) := by decide +kernel
theorem dX9_nearestInch_1 : decode cX9_nearestInch 1 = .ok (.iconst 4, 1) := by decide +kernel
theorem dX9_nearestInch_2 : decode cX9_nearestInch 2 = .ok (.irem, 1) := by decide +kernel
theorem dX9_nearestInch_3 : decode cX9_nearestInch 3 = .ok (.istore_n 1, 1) := by decide +kernel
theorem dX9_nearestInch_4 : decode cX9_nearestInch 4 = .ok (.iload_n 1, 1) := by decide +kernel
theorem dX9_nearestInch_5 : decode cX9_nearestInch 5 = .ok (.iconst 2, 1) := by decide +kernel
theorem dX9_nearestInch_6 : decode cX9_nearestInch 6 = .ok (.if_icmp .gt 9, 3) := by decide +kernel
theorem dX9_nearestInch_9 : decode cX9_nearestInch 9 = .ok (.iload_n 0, 1) := by decide +kernel
theorem dX9_nearestInch_10 : decode cX9_nearestInch 10 = .ok (.iload_n 1, 1) := by decide +kernel
theorem dX9_nearestInch_11 : decode cX9_nearestInch 11 = .ok (.isub, 1) := by decide +kernel
theorem dX9_nearestInch_12 : decode cX9_nearestInch 12 = .ok (.goto 13, 3) := by decide +kernel
theorem dX9_nearestInch_15 : decode cX9_nearestInch 15 = .ok (.bipush 63, 2) := by decide +kernel
theorem dX9_nearestInch_17 : decode cX9_nearestInch 17 = .ok (.iload_n 0, 1) := by decide +kernel
theorem dX9_nearestInch_18 : decode cX9_nearestInch 18 = .ok (.iload_n 1, 1) := by decide +kernel
theorem dX9_nearestInch_19 : decode cX9_nearestInch 19 = .ok (.isub, 1) := by decide +kernel
theorem dX9_nearestInch_20 : decode cX9_nearestInch 20 = .ok (.iconst 4, 1) := by decide +kernel
theorem dX9_nearestInch_21 : decode cX9_nearestInch 21 = .ok (.iadd, 1) := by decide +kernel
theorem dX9_nearestInch_22 : decode cX9_nearestInch 22 = .ok (.invokestatic 297, 3) := by decide +kernel
theorem dX9_nearestInch_25 : decode cX9_nearestInch 25 = .ok (.ireturn, 1) := by decide +kernel
theorem dX9_tellFall_0 : decode cX9_tellFall 0 = .ok (.aload_n 0, 1) := by decide +kernel
theorem dX9_tellFall_1 : decode cX9_tellFall 1 = .ok (.iload_n 1, 1) := by decide +kernel
theorem dX9_tellFall_2 : decode cX9_tellFall 2 = .ok (.iload_n 2, 1) := by decide +kernel
theorem dX9_tellFall_3 : decode cX9_tellFall 3 = .ok (.invokevirtual 300, 3) := by decide +kernel
theorem dX9_tellFall_6 : decode cX9_tellFall 6 = .ok (.aload_n 0, 1) := by decide +kernel
theorem dX9_tellFall_7 : decode cX9_tellFall 7 = .ok (.iload_n 1, 1) := by decide +kernel
theorem dX9_tellFall_8 : decode cX9_tellFall 8 = .ok (.invokevirtual 237, 3) := by decide +kernel
theorem dX9_tellFall_11 : decode cX9_tellFall 11 = .ok (.aload_n 0, 1) := by decide +kernel
theorem dX9_tellFall_12 : decode cX9_tellFall 12 = .ok (.iload_n 2, 1) := by decide +kernel
theorem dX9_tellFall_13 : decode cX9_tellFall 13 = .ok (.invokevirtual 237, 3) := by decide +kernel
theorem dX9_tellFall_16 : decode cX9_tellFall 16 = .ok (.lmul, 1) := by decide +kernel
theorem dX9_tellFall_17 : decode cX9_tellFall 17 = .ok (.iload_n 3, 1) := by decide +kernel
theorem dX9_tellFall_18 : decode cX9_tellFall 18 = .ok (.invokestatic 153, 3) := by decide +kernel
theorem dX9_tellFall_21 : decode cX9_tellFall 21 = .ok (.lreturn, 1) := by decide +kernel
theorem dX9_tell_0 : decode cX9_tell 0 = .ok (.lload_n 0, 1) := by decide +kernel
theorem dX9_tell_1 : decode cX9_tell 1 = .ok (.lconst 0, 1) := by decide +kernel
theorem dX9_tell_2 : decode cX9_tell 2 = .ok (.lcmp, 1) := by decide +kernel
theorem dX9_tell_3 : decode cX9_tell 3 = .ok (.ifCond .eq 9, 3) := by decide +kernel
theorem dX9_tell_6 : decode cX9_tell 6 = .ok (.lload_n 2, 1) := by decide +kernel
theorem dX9_tell_7 : decode cX9_tell 7 = .ok (.lconst 0, 1) := by decide +kernel
theorem dX9_tell_8 : decode cX9_tell 8 = .ok (.lcmp, 1) := by decide +kernel
theorem dX9_tell_9 : decode cX9_tell 9 = .ok (.ifCond .gt 14, 3) := by decide +kernel
theorem dX9_tell_12 : decode cX9_tell 12 = .ok (.iload 4, 2) := by decide +kernel
theorem dX9_tell_14 : decode cX9_tell 14 = .ok (.ifCond .ne 7, 3) := by decide +kernel
theorem dX9_tell_17 : decode cX9_tell 17 = .ok (.lconst 0, 1) := by decide +kernel
theorem dX9_tell_18 : decode cX9_tell 18 = .ok (.goto 4, 3) := by decide +kernel
theorem dX9_tell_21 : decode cX9_tell 21 = .ok (.lconst 1, 1) := by decide +kernel
theorem dX9_tell_22 : decode cX9_tell 22 = .ok (.lreturn, 1) := by decide +kernel
theorem dX9_tell_23 : decode cX9_tell 23 = .ok (.iload 4, 2) := by decide +kernel
theorem dX9_tell_25 : decode cX9_tell 25 = .ok (.ifCond .ne 7, 3) := by decide +kernel
theorem dX9_tell_28 : decode cX9_tell 28 = .ok (.lload_n 0, 1) := by decide +kernel
theorem dX9_tell_29 : decode cX9_tell 29 = .ok (.goto 4, 3) := by decide +kernel
theorem dX9_tell_32 : decode cX9_tell 32 = .ok (.lload_n 2, 1) := by decide +kernel
theorem dX9_tell_33 : decode cX9_tell 33 = .ok (.lload_n 0, 1) := by decide +kernel
theorem dX9_tell_34 : decode cX9_tell 34 = .ok (.invokestatic 304, 3) := by decide +kernel
theorem dX9_tell_37 : decode cX9_tell 37 = .ok (.lload_n 2, 1) := by decide +kernel
theorem dX9_tell_38 : decode cX9_tell 38 = .ok (.invokestatic 307, 3) := by decide +kernel
theorem dX9_tell_41 : decode cX9_tell 41 = .ok (.ldiv, 1) := by decide +kernel
theorem dX9_tell_42 : decode cX9_tell 42 = .ok (.lreturn, 1) := by decide +kernel
theorem dX9_commonDivisor_0 : decode cX9_commonDivisor 0 = .ok (.lload_n 0, 1) := by decide +kernel
theorem dX9_commonDivisor_1 : decode cX9_commonDivisor 1 = .ok (.lstore 4, 2) := by decide +kernel
theorem dX9_commonDivisor_3 : decode cX9_commonDivisor 3 = .ok (.lload_n 2, 1) := by decide +kernel
theorem dX9_commonDivisor_4 : decode cX9_commonDivisor 4 = .ok (.lstore 6, 2) := by decide +kernel
theorem dX9_commonDivisor_6 : decode cX9_commonDivisor 6 = .ok (.iconst 0, 1) := by decide +kernel
theorem dX9_commonDivisor_7 : decode cX9_commonDivisor 7 = .ok (.istore 8, 2) := by decide +kernel
theorem dX9_commonDivisor_9 : decode cX9_commonDivisor 9 = .ok (.iload 8, 2) := by decide +kernel
theorem dX9_commonDivisor_11 : decode cX9_commonDivisor 11 = .ok (.sipush 200, 3) := by decide +kernel
theorem dX9_commonDivisor_14 : decode cX9_commonDivisor 14 = .ok (.if_icmp .ge 31, 3) := by decide +kernel
theorem dX9_commonDivisor_17 : decode cX9_commonDivisor 17 = .ok (.lload 6, 2) := by decide +kernel
theorem dX9_commonDivisor_19 : decode cX9_commonDivisor 19 = .ok (.lconst 0, 1) := by decide +kernel
theorem dX9_commonDivisor_20 : decode cX9_commonDivisor 20 = .ok (.lcmp, 1) := by decide +kernel
theorem dX9_commonDivisor_21 : decode cX9_commonDivisor 21 = .ok (.ifCond .eq 24, 3) := by decide +kernel
theorem dX9_commonDivisor_24 : decode cX9_commonDivisor 24 = .ok (.lload 4, 2) := by decide +kernel
theorem dX9_commonDivisor_26 : decode cX9_commonDivisor 26 = .ok (.lload 6, 2) := by decide +kernel
theorem dX9_commonDivisor_28 : decode cX9_commonDivisor 28 = .ok (.lrem, 1) := by decide +kernel
theorem dX9_commonDivisor_29 : decode cX9_commonDivisor 29 = .ok (.lstore 9, 2) := by decide +kernel
theorem dX9_commonDivisor_31 : decode cX9_commonDivisor 31 = .ok (.lload 6, 2) := by decide +kernel
theorem dX9_commonDivisor_33 : decode cX9_commonDivisor 33 = .ok (.lstore 4, 2) := by decide +kernel
theorem dX9_commonDivisor_35 : decode cX9_commonDivisor 35 = .ok (.lload 9, 2) := by decide +kernel
theorem dX9_commonDivisor_37 : decode cX9_commonDivisor 37 = .ok (.lstore 6, 2) := by decide +kernel
theorem dX9_commonDivisor_39 : decode cX9_commonDivisor 39 = .ok (.iinc 8 1, 3) := by decide +kernel
theorem dX9_commonDivisor_42 : decode cX9_commonDivisor 42 = .ok (.goto (-33), 3) := by decide +kernel
theorem dX9_commonDivisor_45 : decode cX9_commonDivisor 45 = .ok (.lconst 1, 1) := by decide +kernel
theorem dX9_commonDivisor_46 : decode cX9_commonDivisor 46 = .ok (.lload 4, 2) := by decide +kernel
theorem dX9_commonDivisor_48 : decode cX9_commonDivisor 48 = .ok (.invokestatic 311, 3) := by decide +kernel
theorem dX9_commonDivisor_51 : decode cX9_commonDivisor 51 = .ok (.lreturn, 1) := by decide +kernel
theorem dX10_init_0 : decode cX10_init 0 = .ok (.aload_n 0, 1) := by decide +kernel
theorem dX10_init_1 : decode cX10_init 1 = .ok (.invokespecial 1, 3) := by decide +kernel
theorem dX10_init_4 : decode cX10_init 4 = .ok (.aload_n 0, 1) := by decide +kernel
theorem dX10_init_5 : decode cX10_init 5 = .ok (.sipush 384, 3) := by decide +kernel
theorem dX10_init_8 : decode cX10_init 8 = .ok (.newarray .int, 2) := by decide +kernel
theorem dX10_init_10 : decode cX10_init 10 = .ok (.putfield 7, 3) := by decide +kernel
theorem dX10_init_13 : decode cX10_init 13 = .ok (.aload_n 0, 1) := by decide +kernel
theorem dX10_init_14 : decode cX10_init 14 = .ok (.bipush 6, 2) := by decide +kernel
theorem dX10_init_16 : decode cX10_init 16 = .ok (.newarray .int, 2) := by decide +kernel
theorem dX10_init_18 : decode cX10_init 18 = .ok (.putfield 13, 3) := by decide +kernel
theorem dX10_init_21 : decode cX10_init 21 = .ok (.aload_n 0, 1) := by decide +kernel
theorem dX10_init_22 : decode cX10_init 22 = .ok (.bipush 6, 2) := by decide +kernel
theorem dX10_init_24 : decode cX10_init 24 = .ok (.newarray .int, 2) := by decide +kernel
theorem dX10_init_26 : decode cX10_init 26 = .ok (.putfield 16, 3) := by decide +kernel
theorem dX10_init_29 : decode cX10_init 29 = .ok (.aload_n 0, 1) := by decide +kernel
theorem dX10_init_30 : decode cX10_init 30 = .ok (.bipush 6, 2) := by decide +kernel
theorem dX10_init_32 : decode cX10_init 32 = .ok (.newarray .int, 2) := by decide +kernel
theorem dX10_init_34 : decode cX10_init 34 = .ok (.putfield 19, 3) := by decide +kernel
theorem dX10_init_37 : decode cX10_init 37 = .ok (.aload_n 0, 1) := by decide +kernel
theorem dX10_init_38 : decode cX10_init 38 = .ok (.iconst 5, 1) := by decide +kernel
theorem dX10_init_39 : decode cX10_init 39 = .ok (.newarray .int, 2) := by decide +kernel
theorem dX10_init_41 : decode cX10_init 41 = .ok (.putfield 22, 3) := by decide +kernel
theorem dX10_init_44 : decode cX10_init 44 = .ok (.aload_n 0, 1) := by decide +kernel
theorem dX10_init_45 : decode cX10_init 45 = .ok (.bipush 60, 2) := by decide +kernel
theorem dX10_init_47 : decode cX10_init 47 = .ok (.newarray .int, 2) := by decide +kernel
theorem dX10_init_49 : decode cX10_init 49 = .ok (.putfield 25, 3) := by decide +kernel
theorem dX10_init_52 : decode cX10_init 52 = .ok (.aload_n 0, 1) := by decide +kernel
theorem dX10_init_53 : decode cX10_init 53 = .ok (.bipush 21, 2) := by decide +kernel
theorem dX10_init_55 : decode cX10_init 55 = .ok (.newarray .int, 2) := by decide +kernel
theorem dX10_init_57 : decode cX10_init 57 = .ok (.putfield 28, 3) := by decide +kernel
theorem dX10_init_60 : decode cX10_init 60 = .ok (.aload_n 0, 1) := by decide +kernel
theorem dX10_init_61 : decode cX10_init 61 = .ok (.bipush 20, 2) := by decide +kernel
theorem dX10_init_63 : decode cX10_init 63 = .ok (.newarray .int, 2) := by decide +kernel
theorem dX10_init_65 : decode cX10_init 65 = .ok (.putfield 31, 3) := by decide +kernel
theorem dX10_init_68 : decode cX10_init 68 = .ok (.aload_n 0, 1) := by decide +kernel
theorem dX10_init_69 : decode cX10_init 69 = .ok (.bipush 20, 2) := by decide +kernel
theorem dX10_init_71 : decode cX10_init 71 = .ok (.newarray .int, 2) := by decide +kernel
theorem dX10_init_73 : decode cX10_init 73 = .ok (.putfield 34, 3) := by decide +kernel
theorem dX10_init_76 : decode cX10_init 76 = .ok (.aload_n 0, 1) := by decide +kernel
theorem dX10_init_77 : decode cX10_init 77 = .ok (.bipush 20, 2) := by decide +kernel
theorem dX10_init_79 : decode cX10_init 79 = .ok (.newarray .int, 2) := by decide +kernel
theorem dX10_init_81 : decode cX10_init 81 = .ok (.putfield 37, 3) := by decide +kernel
theorem dX10_init_84 : decode cX10_init 84 = .ok (.aload_n 0, 1) := by decide +kernel
theorem dX10_init_85 : decode cX10_init 85 = .ok (.bipush 20, 2) := by decide +kernel
theorem dX10_init_87 : decode cX10_init 87 = .ok (.newarray .int, 2) := by decide +kernel
theorem dX10_init_89 : decode cX10_init 89 = .ok (.putfield 40, 3) := by decide +kernel
theorem dX10_init_92 : decode cX10_init 92 = .ok (.aload_n 0, 1) := by decide +kernel
theorem dX10_init_93 : decode cX10_init 93 = .ok (.bipush 20, 2) := by decide +kernel
theorem dX10_init_95 : decode cX10_init 95 = .ok (.newarray .int, 2) := by decide +kernel
theorem dX10_init_97 : decode cX10_init 97 = .ok (.putfield 43, 3) := by decide +kernel
theorem dX10_init_100 : decode cX10_init 100 = .ok (.aload_n 0, 1) := by decide +kernel
theorem dX10_init_101 : decode cX10_init 101 = .ok (.bipush 20, 2) := by decide +kernel
theorem dX10_init_103 : decode cX10_init 103 = .ok (.newarray .int, 2) := by decide +kernel
theorem dX10_init_105 : decode cX10_init 105 = .ok (.putfield 46, 3) := by decide +kernel
theorem dX10_init_108 : decode cX10_init 108 = .ok (.aload_n 0, 1) := by decide +kernel
theorem dX10_init_109 : decode cX10_init 109 = .ok (.bipush 17, 2) := by decide +kernel
theorem dX10_init_111 : decode cX10_init 111 = .ok (.newarray .int, 2) := by decide +kernel
theorem dX10_init_113 : decode cX10_init 113 = .ok (.putfield 49, 3) := by decide +kernel
theorem dX10_init_116 : decode cX10_init 116 = .ok (.aload_n 0, 1) := by decide +kernel
theorem dX10_init_117 : decode cX10_init 117 = .ok (.bipush 64, 2) := by decide +kernel
theorem dX10_init_119 : decode cX10_init 119 = .ok (.newarray .int, 2) := by decide +kernel
theorem dX10_init_121 : decode cX10_init 121 = .ok (.putfield 52, 3) := by decide +kernel
theorem dX10_init_124 : decode cX10_init 124 = .ok (.aload_n 0, 1) := by decide +kernel
theorem dX10_init_125 : decode cX10_init 125 = .ok (.sipush 1400, 3) := by decide +kernel
theorem dX10_init_128 : decode cX10_init 128 = .ok (.newarray .int, 2) := by decide +kernel
theorem dX10_init_130 : decode cX10_init 130 = .ok (.putfield 55, 3) := by decide +kernel
theorem dX10_init_133 : decode cX10_init 133 = .ok (.aload_n 0, 1) := by decide +kernel
theorem dX10_init_134 : decode cX10_init 134 = .ok (.iconst 2, 1) := by decide +kernel
theorem dX10_init_135 : decode cX10_init 135 = .ok (.newarray .boolean, 2) := by decide +kernel
theorem dX10_init_137 : decode cX10_init 137 = .ok (.putfield 58, 3) := by decide +kernel
theorem dX10_init_140 : decode cX10_init 140 = .ok (.iconst 0, 1) := by decide +kernel
theorem dX10_init_141 : decode cX10_init 141 = .ok (.istore_n 1, 1) := by decide +kernel
theorem dX10_init_142 : decode cX10_init 142 = .ok (.iload_n 1, 1) := by decide +kernel
theorem dX10_init_143 : decode cX10_init 143 = .ok (.bipush 6, 2) := by decide +kernel
theorem dX10_init_145 : decode cX10_init 145 = .ok (.if_icmp .ge 17, 3) := by decide +kernel
theorem dX10_init_148 : decode cX10_init 148 = .ok (.aload_n 0, 1) := by decide +kernel
theorem dX10_init_149 : decode cX10_init 149 = .ok (.getfield 16, 3) := by decide +kernel
theorem dX10_init_152 : decode cX10_init 152 = .ok (.iload_n 1, 1) := by decide +kernel
theorem dX10_init_153 : decode cX10_init 153 = .ok (.bipush 25, 2) := by decide +kernel
theorem dX10_init_155 : decode cX10_init 155 = .ok (.iastore, 1) := by decide +kernel
theorem dX10_init_156 : decode cX10_init 156 = .ok (.iinc 1 1, 3) := by decide +kernel
theorem dX10_init_159 : decode cX10_init 159 = .ok (.goto (-17), 3) := by decide +kernel
theorem dX10_init_162 : decode cX10_init 162 = .ok (.return_, 1) := by decide +kernel
theorem dX10_in_0 : decode cX10_in 0 = .ok (.lload_n 0, 1) := by decide +kernel
theorem dX10_in_1 : decode cX10_in 1 = .ok (.lload_n 2, 1) := by decide +kernel
theorem dX10_in_2 : decode cX10_in 2 = .ok (.lcmp, 1) := by decide +kernel
theorem dX10_in_3 : decode cX10_in 3 = .ok (.ifCond .lt 14, 3) := by decide +kernel
theorem dX10_in_6 : decode cX10_in 6 = .ok (.lload_n 0, 1) := by decide +kernel
theorem dX10_in_7 : decode cX10_in 7 = .ok (.lload 4, 2) := by decide +kernel
theorem dX10_in_9 : decode cX10_in 9 = .ok (.lcmp, 1) := by decide +kernel
theorem dX10_in_10 : decode cX10_in 10 = .ok (.ifCond .gt 7, 3) := by decide +kernel
theorem dX10_in_13 : decode cX10_in 13 = .ok (.iconst 1, 1) := by decide +kernel
theorem dX10_in_14 : decode cX10_in 14 = .ok (.goto 4, 3) := by decide +kernel
theorem dX10_in_17 : decode cX10_in 17 = .ok (.iconst 0, 1) := by decide +kernel
theorem dX10_in_18 : decode cX10_in 18 = .ok (.ireturn, 1) := by decide +kernel
theorem dX10_isBook_0 : decode cX10_isBook 0 = .ok (.iload_n 0, 1) := by decide +kernel
theorem dX10_isBook_1 : decode cX10_isBook 1 = .ok (.i2l, 1) := by decide +kernel
theorem dX10_isBook_2 : decode cX10_isBook 2 = .ok (.lconst 0, 1) := by decide +kernel
theorem dX10_isBook_3 : decode cX10_isBook 3 = .ok (.ldc2_w 62, 3) := by decide +kernel
theorem dX10_isBook_6 : decode cX10_isBook 6 = .ok (.invokestatic 64, 3) := by decide +kernel
theorem dX10_isBook_9 : decode cX10_isBook 9 = .ok (.ireturn, 1) := by decide +kernel
theorem dX10_isHeight_0 : decode cX10_isHeight 0 = .ok (.iload_n 0, 1) := by decide +kernel
theorem dX10_isHeight_1 : decode cX10_isHeight 1 = .ok (.i2l, 1) := by decide +kernel
theorem dX10_isHeight_2 : decode cX10_isHeight 2 = .ok (.lconst 0, 1) := by decide +kernel
theorem dX10_isHeight_3 : decode cX10_isHeight 3 = .ok (.ldc2_w 68, 3) := by decide +kernel
theorem dX10_isHeight_6 : decode cX10_isHeight 6 = .ok (.invokestatic 64, 3) := by decide +kernel
theorem dX10_isHeight_9 : decode cX10_isHeight 9 = .ok (.ireturn, 1) := by decide +kernel
theorem dX10_isWidth_0 : decode cX10_isWidth 0 = .ok (.iload_n 0, 1) := by decide +kernel
theorem dX10_isWidth_1 : decode cX10_isWidth 1 = .ok (.i2l, 1) := by decide +kernel
theorem dX10_isWidth_2 : decode cX10_isWidth 2 = .ok (.lconst 1, 1) := by decide +kernel
theorem dX10_isWidth_3 : decode cX10_isWidth 3 = .ok (.ldc2_w 70, 3) := by decide +kernel
theorem dX10_isWidth_6 : decode cX10_isWidth 6 = .ok (.invokestatic 64, 3) := by decide +kernel
theorem dX10_isWidth_9 : decode cX10_isWidth 9 = .ok (.ireturn, 1) := by decide +kernel
theorem dX10_isEnd_0 : decode cX10_isEnd 0 = .ok (.iload_n 0, 1) := by decide +kernel
theorem dX10_isEnd_1 : decode cX10_isEnd 1 = .ok (.i2l, 1) := by decide +kernel
theorem dX10_isEnd_2 : decode cX10_isEnd 2 = .ok (.lconst 0, 1) := by decide +kernel
theorem dX10_isEnd_3 : decode cX10_isEnd 3 = .ok (.lconst 1, 1) := by decide +kernel
theorem dX10_isEnd_4 : decode cX10_isEnd 4 = .ok (.invokestatic 64, 3) := by decide +kernel
theorem dX10_isEnd_7 : decode cX10_isEnd 7 = .ok (.ireturn, 1) := by decide +kernel
theorem dX10_apart_0 : decode cX10_apart 0 = .ok (.iload_n 0, 1) := by decide +kernel
theorem dX10_apart_1 : decode cX10_apart 1 = .ok (.iload_n 1, 1) := by decide +kernel
theorem dX10_apart_2 : decode cX10_apart 2 = .ok (.if_icmp .ge 9, 3) := by decide +kernel
theorem dX10_apart_5 : decode cX10_apart 5 = .ok (.iload_n 1, 1) := by decide +kernel
theorem dX10_apart_6 : decode cX10_apart 6 = .ok (.iload_n 0, 1) := by decide +kernel
theorem dX10_apart_7 : decode cX10_apart 7 = .ok (.isub, 1) := by decide +kernel
theorem dX10_apart_8 : decode cX10_apart 8 = .ok (.goto 6, 3) := by decide +kernel
theorem dX10_apart_11 : decode cX10_apart 11 = .ok (.iload_n 0, 1) := by decide +kernel
theorem dX10_apart_12 : decode cX10_apart 12 = .ok (.iload_n 1, 1) := by decide +kernel
theorem dX10_apart_13 : decode cX10_apart 13 = .ok (.isub, 1) := by decide +kernel
theorem dX10_apart_14 : decode cX10_apart 14 = .ok (.ireturn, 1) := by decide +kernel
theorem dX10_common_0 : decode cX10_common 0 = .ok (.lload_n 0, 1) := by decide +kernel
theorem dX10_common_1 : decode cX10_common 1 = .ok (.lconst 0, 1) := by decide +kernel
theorem dX10_common_2 : decode cX10_common 2 = .ok (.lcmp, 1) := by decide +kernel
theorem dX10_common_3 : decode cX10_common 3 = .ok (.ifCond .ge 8, 3) := by decide +kernel
theorem dX10_common_6 : decode cX10_common 6 = .ok (.lload_n 0, 1) := by decide +kernel
theorem dX10_common_7 : decode cX10_common 7 = .ok (.lneg, 1) := by decide +kernel
theorem dX10_common_8 : decode cX10_common 8 = .ok (.goto 4, 3) := by decide +kernel
theorem dX10_common_11 : decode cX10_common 11 = .ok (.lload_n 0, 1) := by decide +kernel
theorem dX10_common_12 : decode cX10_common 12 = .ok (.lstore 4, 2) := by decide +kernel
theorem dX10_common_14 : decode cX10_common 14 = .ok (.lload_n 2, 1) := by decide +kernel
theorem dX10_common_15 : decode cX10_common 15 = .ok (.lstore 6, 2) := by decide +kernel
theorem dX10_common_17 : decode cX10_common 17 = .ok (.lload 6, 2) := by decide +kernel
theorem dX10_common_19 : decode cX10_common 19 = .ok (.lconst 0, 1) := by decide +kernel
theorem dX10_common_20 : decode cX10_common 20 = .ok (.lcmp, 1) := by decide +kernel
theorem dX10_common_21 : decode cX10_common 21 = .ok (.ifCond .eq 21, 3) := by decide +kernel
theorem dX10_common_24 : decode cX10_common 24 = .ok (.lload 4, 2) := by decide +kernel
theorem dX10_common_26 : decode cX10_common 26 = .ok (.lload 6, 2) := by decide +kernel
theorem dX10_common_28 : decode cX10_common 28 = .ok (.lrem, 1) := by decide +kernel
theorem dX10_common_29 : decode cX10_common 29 = .ok (.lstore 8, 2) := by decide +kernel
theorem dX10_common_31 : decode cX10_common 31 = .ok (.lload 6, 2) := by decide +kernel
theorem dX10_common_33 : decode cX10_common 33 = .ok (.lstore 4, 2) := by decide +kernel
theorem dX10_common_35 : decode cX10_common 35 = .ok (.lload 8, 2) := by decide +kernel
theorem dX10_common_37 : decode cX10_common 37 = .ok (.lstore 6, 2) := by decide +kernel
theorem dX10_common_39 : decode cX10_common 39 = .ok (.goto (-22), 3) := by decide +kernel
theorem dX10_common_42 : decode cX10_common 42 = .ok (.lload 4, 2) := by decide +kernel
theorem dX10_common_44 : decode cX10_common 44 = .ok (.lreturn, 1) := by decide +kernel
theorem dX10_lowest_0 : decode cX10_lowest 0 = .ok (.lload_n 2, 1) := by decide +kernel
theorem dX10_lowest_1 : decode cX10_lowest 1 = .ok (.lconst 0, 1) := by decide +kernel
theorem dX10_lowest_2 : decode cX10_lowest 2 = .ok (.lcmp, 1) := by decide +kernel
theorem dX10_lowest_3 : decode cX10_lowest 3 = .ok (.ifCond .ne 7, 3) := by decide +kernel
theorem dX10_lowest_6 : decode cX10_lowest 6 = .ok (.iload 4, 2) := by decide +kernel
theorem dX10_lowest_8 : decode cX10_lowest 8 = .ok (.i2l, 1) := by decide +kernel
theorem dX10_lowest_9 : decode cX10_lowest 9 = .ok (.lreturn, 1) := by decide +kernel
theorem dX10_lowest_10 : decode cX10_lowest 10 = .ok (.lload_n 0, 1) := by decide +kernel
theorem dX10_lowest_11 : decode cX10_lowest 11 = .ok (.lload_n 2, 1) := by decide +kernel
theorem dX10_lowest_12 : decode cX10_lowest 12 = .ok (.invokestatic 72, 3) := by decide +kernel
theorem dX10_lowest_15 : decode cX10_lowest 15 = .ok (.lstore 5, 2) := by decide +kernel
theorem dX10_lowest_17 : decode cX10_lowest 17 = .ok (.iload 4, 2) := by decide +kernel
theorem dX10_lowest_19 : decode cX10_lowest 19 = .ok (.ifCond .ne 10, 3) := by decide +kernel
theorem dX10_lowest_22 : decode cX10_lowest 22 = .ok (.lload_n 0, 1) := by decide +kernel
theorem dX10_lowest_23 : decode cX10_lowest 23 = .ok (.lload 5, 2) := by decide +kernel
theorem dX10_lowest_25 : decode cX10_lowest 25 = .ok (.ldiv, 1) := by decide +kernel
theorem dX10_lowest_26 : decode cX10_lowest 26 = .ok (.goto 7, 3) := by decide +kernel
theorem dX10_lowest_29 : decode cX10_lowest 29 = .ok (.lload_n 2, 1) := by decide +kernel
theorem dX10_lowest_30 : decode cX10_lowest 30 = .ok (.lload 5, 2) := by decide +kernel
theorem dX10_lowest_32 : decode cX10_lowest 32 = .ok (.ldiv, 1) := by decide +kernel
theorem dX10_lowest_33 : decode cX10_lowest 33 = .ok (.lreturn, 1) := by decide +kernel
theorem dX10_at_0 : decode cX10_at 0 = .ok (.bipush 64, 2) := by decide +kernel
theorem dX10_at_2 : decode cX10_at 2 = .ok (.iload_n 0, 1) := by decide +kernel
theorem dX10_at_3 : decode cX10_at 3 = .ok (.imul, 1) := by decide +kernel
theorem dX10_at_4 : decode cX10_at 4 = .ok (.iload_n 1, 1) := by decide +kernel
theorem dX10_at_5 : decode cX10_at 5 = .ok (.iadd, 1) := by decide +kernel
theorem dX10_at_6 : decode cX10_at 6 = .ok (.ireturn, 1) := by decide +kernel
theorem dX10_men_0 : decode cX10_men 0 = .ok (.iload_n 1, 1) := by decide +kernel
theorem dX10_men_1 : decode cX10_men 1 = .ok (.invokestatic 76, 3) := by decide +kernel
theorem dX10_men_4 : decode cX10_men 4 = .ok (.ifCond .ne 5, 3) := by decide +kernel
theorem dX10_men_7 : decode cX10_men 7 = .ok (.iconst (-1), 1) := by decide +kernel
theorem dX10_men_8 : decode cX10_men 8 = .ok (.ireturn, 1) := by decide +kernel
theorem dX10_men_9 : decode cX10_men 9 = .ok (.iload_n 2, 1) := by decide +kernel
theorem dX10_men_10 : decode cX10_men 10 = .ok (.invokestatic 80, 3) := by decide +kernel
theorem dX10_men_13 : decode cX10_men 13 = .ok (.ifCond .eq 15, 3) := by decide +kernel
theorem dX10_men_16 : decode cX10_men 16 = .ok (.iload_n 3, 1) := by decide +kernel
theorem dX10_men_17 : decode cX10_men 17 = .ok (.i2l, 1) := by decide +kernel
theorem dX10_men_18 : decode cX10_men 18 = .ok (.lconst 0, 1) := by decide +kernel
theorem dX10_men_19 : decode cX10_men 19 = .ok (.ldc2_w 83, 3) := by decide +kernel
theorem dX10_men_22 : decode cX10_men 22 = .ok (.invokestatic 64, 3) := by decide +kernel
theorem dX10_men_25 : decode cX10_men 25 = .ok (.ifCond .ne 6, 3) := by decide +kernel
theorem dX10_men_28 : decode cX10_men 28 = .ok (.bipush (-2), 2) := by decide +kernel
theorem dX10_men_30 : decode cX10_men 30 = .ok (.ireturn, 1) := by decide +kernel
theorem dX10_men_31 : decode cX10_men 31 = .ok (.aload_n 0, 1) := by decide +kernel
theorem dX10_men_32 : decode cX10_men 32 = .ok (.getfield 7, 3) := by decide +kernel
theorem dX10_men_35 : decode cX10_men 35 = .ok (.iload_n 1, 1) := by decide +kernel
theorem dX10_men_36 : decode cX10_men 36 = .ok (.iload_n 2, 1) := by decide +kernel
theorem dX10_men_37 : decode cX10_men 37 = .ok (.invokestatic 85, 3) := by decide +kernel
theorem dX10_men_40 : decode cX10_men 40 = .ok (.iaload, 1) := by decide +kernel
theorem dX10_men_41 : decode cX10_men 41 = .ok (.istore 4, 2) := by decide +kernel
theorem dX10_men_43 : decode cX10_men 43 = .ok (.aload_n 0, 1) := by decide +kernel
theorem dX10_men_44 : decode cX10_men 44 = .ok (.getfield 7, 3) := by decide +kernel
theorem dX10_men_47 : decode cX10_men 47 = .ok (.iload_n 1, 1) := by decide +kernel
theorem dX10_men_48 : decode cX10_men 48 = .ok (.iload_n 2, 1) := by decide +kernel
theorem dX10_men_49 : decode cX10_men 49 = .ok (.invokestatic 85, 3) := by decide +kernel
theorem dX10_men_52 : decode cX10_men 52 = .ok (.iload_n 3, 1) := by decide +kernel
theorem dX10_men_53 : decode cX10_men 53 = .ok (.iastore, 1) := by decide +kernel
theorem dX10_men_54 : decode cX10_men 54 = .ok (.iload 4, 2) := by decide +kernel
theorem dX10_men_56 : decode cX10_men 56 = .ok (.ireturn, 1) := by decide +kernel
theorem dX10_set_0 : decode cX10_set 0 = .ok (.iload_n 1, 1) := by decide +kernel
theorem dX10_set_1 : decode cX10_set 1 = .ok (.invokestatic 76, 3) := by decide +kernel
theorem dX10_set_4 : decode cX10_set 4 = .ok (.ifCond .ne 5, 3) := by decide +kernel
theorem dX10_set_7 : decode cX10_set 7 = .ok (.iconst (-1), 1) := by decide +kernel
theorem dX10_set_8 : decode cX10_set 8 = .ok (.ireturn, 1) := by decide +kernel
theorem dX10_set_9 : decode cX10_set 9 = .ok (.iload_n 2, 1) := by decide +kernel
theorem dX10_set_10 : decode cX10_set 10 = .ok (.i2l, 1) := by decide +kernel
theorem dX10_set_11 : decode cX10_set 11 = .ok (.lconst 0, 1) := by decide +kernel
theorem dX10_set_12 : decode cX10_set 12 = .ok (.ldc2_w 89, 3) := by decide +kernel
theorem dX10_set_15 : decode cX10_set 15 = .ok (.invokestatic 64, 3) := by decide +kernel
theorem dX10_set_18 : decode cX10_set 18 = .ok (.ifCond .eq 47, 3) := by decide +kernel
theorem dX10_set_21 : decode cX10_set 21 = .ok (.iload_n 3, 1) := by decide +kernel
theorem dX10_set_22 : decode cX10_set 22 = .ok (.i2l, 1) := by decide +kernel
theorem dX10_set_23 : decode cX10_set 23 = .ok (.iload_n 2, 1) := by decide +kernel
theorem dX10_set_24 : decode cX10_set 24 = .ok (.iconst 1, 1) := by decide +kernel
theorem dX10_set_25 : decode cX10_set 25 = .ok (.if_icmp .ne 9, 3) := by decide +kernel
theorem dX10_set_28 : decode cX10_set 28 = .ok (.ldc2_w 91, 3) := by decide +kernel
theorem dX10_set_31 : decode cX10_set 31 = .ok (.goto 4, 3) := by decide +kernel
theorem dX10_set_34 : decode cX10_set 34 = .ok (.lconst 0, 1) := by decide +kernel
theorem dX10_set_35 : decode cX10_set 35 = .ok (.iload_n 2, 1) := by decide +kernel
theorem dX10_set_36 : decode cX10_set 36 = .ok (.ifCond .ne 9, 3) := by decide +kernel
theorem dX10_set_39 : decode cX10_set 39 = .ok (.ldc2_w 93, 3) := by decide +kernel
theorem dX10_set_42 : decode cX10_set 42 = .ok (.goto 17, 3) := by decide +kernel
theorem dX10_set_45 : decode cX10_set 45 = .ok (.iload_n 2, 1) := by decide +kernel
theorem dX10_set_46 : decode cX10_set 46 = .ok (.iconst 1, 1) := by decide +kernel
theorem dX10_set_47 : decode cX10_set 47 = .ok (.if_icmp .ne 9, 3) := by decide +kernel
theorem dX10_set_50 : decode cX10_set 50 = .ok (.ldc2_w 95, 3) := by decide +kernel
theorem dX10_set_53 : decode cX10_set 53 = .ok (.goto 6, 3) := by decide +kernel
theorem dX10_set_56 : decode cX10_set 56 = .ok (.ldc2_w 89, 3) := by decide +kernel
theorem dX10_set_59 : decode cX10_set 59 = .ok (.invokestatic 64, 3) := by decide +kernel
theorem dX10_set_62 : decode cX10_set 62 = .ok (.ifCond .ne 6, 3) := by decide +kernel
theorem dX10_set_65 : decode cX10_set 65 = .ok (.bipush (-2), 2) := by decide +kernel
theorem dX10_set_67 : decode cX10_set 67 = .ok (.ireturn, 1) := by decide +kernel
theorem dX10_set_68 : decode cX10_set 68 = .ok (.iload_n 2, 1) := by decide +kernel
theorem dX10_set_69 : decode cX10_set 69 = .ok (.ifCond .ne 12, 3) := by decide +kernel
theorem dX10_set_72 : decode cX10_set 72 = .ok (.aload_n 0, 1) := by decide +kernel
theorem dX10_set_73 : decode cX10_set 73 = .ok (.getfield 13, 3) := by decide +kernel
theorem dX10_set_76 : decode cX10_set 76 = .ok (.iload_n 1, 1) := by decide +kernel
theorem dX10_set_77 : decode cX10_set 77 = .ok (.iaload, 1) := by decide +kernel
theorem dX10_set_78 : decode cX10_set 78 = .ok (.goto 23, 3) := by decide +kernel
theorem dX10_set_81 : decode cX10_set 81 = .ok (.iload_n 2, 1) := by decide +kernel
theorem dX10_set_82 : decode cX10_set 82 = .ok (.iconst 1, 1) := by decide +kernel
theorem dX10_set_83 : decode cX10_set 83 = .ok (.if_icmp .ne 12, 3) := by decide +kernel
theorem dX10_set_86 : decode cX10_set 86 = .ok (.aload_n 0, 1) := by decide +kernel
theorem dX10_set_87 : decode cX10_set 87 = .ok (.getfield 16, 3) := by decide +kernel
theorem dX10_set_90 : decode cX10_set 90 = .ok (.iload_n 1, 1) := by decide +kernel
theorem dX10_set_91 : decode cX10_set 91 = .ok (.iaload, 1) := by decide +kernel
theorem dX10_set_92 : decode cX10_set 92 = .ok (.goto 9, 3) := by decide +kernel
theorem dX10_set_95 : decode cX10_set 95 = .ok (.aload_n 0, 1) := by decide +kernel
theorem dX10_set_96 : decode cX10_set 96 = .ok (.getfield 19, 3) := by decide +kernel
theorem dX10_set_99 : decode cX10_set 99 = .ok (.iload_n 1, 1) := by decide +kernel
theorem dX10_set_100 : decode cX10_set 100 = .ok (.iaload, 1) := by decide +kernel
theorem dX10_set_101 : decode cX10_set 101 = .ok (.istore 4, 2) := by decide +kernel
theorem dX10_set_103 : decode cX10_set 103 = .ok (.iload_n 2, 1) := by decide +kernel
theorem dX10_set_104 : decode cX10_set 104 = .ok (.ifCond .ne 13, 3) := by decide +kernel
theorem dX10_set_107 : decode cX10_set 107 = .ok (.aload_n 0, 1) := by decide +kernel
theorem dX10_set_108 : decode cX10_set 108 = .ok (.getfield 13, 3) := by decide +kernel
theorem dX10_set_111 : decode cX10_set 111 = .ok (.iload_n 1, 1) := by decide +kernel
theorem dX10_set_112 : decode cX10_set 112 = .ok (.iload_n 3, 1) := by decide +kernel
theorem dX10_set_113 : decode cX10_set 113 = .ok (.iastore, 1) := by decide +kernel
theorem dX10_set_114 : decode cX10_set 114 = .ok (.goto 25, 3) := by decide +kernel
theorem dX10_set_117 : decode cX10_set 117 = .ok (.iload_n 2, 1) := by decide +kernel
theorem dX10_set_118 : decode cX10_set 118 = .ok (.iconst 1, 1) := by decide +kernel
theorem dX10_set_119 : decode cX10_set 119 = .ok (.if_icmp .ne 13, 3) := by decide +kernel
theorem dX10_set_122 : decode cX10_set 122 = .ok (.aload_n 0, 1) := by decide +kernel
theorem dX10_set_123 : decode cX10_set 123 = .ok (.getfield 16, 3) := by decide +kernel
theorem dX10_set_126 : decode cX10_set 126 = .ok (.iload_n 1, 1) := by decide +kernel
theorem dX10_set_127 : decode cX10_set 127 = .ok (.iload_n 3, 1) := by decide +kernel
theorem dX10_set_128 : decode cX10_set 128 = .ok (.iastore, 1) := by decide +kernel
theorem dX10_set_129 : decode cX10_set 129 = .ok (.goto 10, 3) := by decide +kernel
theorem dX10_set_132 : decode cX10_set 132 = .ok (.aload_n 0, 1) := by decide +kernel
theorem dX10_set_133 : decode cX10_set 133 = .ok (.getfield 19, 3) := by decide +kernel
theorem dX10_set_136 : decode cX10_set 136 = .ok (.iload_n 1, 1) := by decide +kernel
theorem dX10_set_137 : decode cX10_set 137 = .ok (.iload_n 3, 1) := by decide +kernel
theorem dX10_set_138 : decode cX10_set 138 = .ok (.iastore, 1) := by decide +kernel
theorem dX10_set_139 : decode cX10_set 139 = .ok (.iload 4, 2) := by decide +kernel
theorem dX10_set_141 : decode cX10_set 141 = .ok (.ireturn, 1) := by decide +kernel
theorem dX10_way_0 : decode cX10_way 0 = .ok (.iload_n 1, 1) := by decide +kernel
theorem dX10_way_1 : decode cX10_way 1 = .ok (.i2l, 1) := by decide +kernel
theorem dX10_way_2 : decode cX10_way 2 = .ok (.lconst 0, 1) := by decide +kernel
theorem dX10_way_3 : decode cX10_way 3 = .ok (.ldc2_w 97, 3) := by decide +kernel
theorem dX10_way_6 : decode cX10_way 6 = .ok (.invokestatic 64, 3) := by decide +kernel
theorem dX10_way_9 : decode cX10_way 9 = .ok (.ifCond .eq 37, 3) := by decide +kernel
theorem dX10_way_12 : decode cX10_way 12 = .ok (.iload_n 2, 1) := by decide +kernel
theorem dX10_way_13 : decode cX10_way 13 = .ok (.i2l, 1) := by decide +kernel
theorem dX10_way_14 : decode cX10_way 14 = .ok (.lconst 0, 1) := by decide +kernel
theorem dX10_way_15 : decode cX10_way 15 = .ok (.iload_n 1, 1) := by decide +kernel
theorem dX10_way_16 : decode cX10_way 16 = .ok (.iconst 2, 1) := by decide +kernel
theorem dX10_way_17 : decode cX10_way 17 = .ok (.if_icmp .ge 9, 3) := by decide +kernel
theorem dX10_way_20 : decode cX10_way 20 = .ok (.ldc2_w 99, 3) := by decide +kernel
theorem dX10_way_23 : decode cX10_way 23 = .ok (.goto 17, 3) := by decide +kernel
theorem dX10_way_26 : decode cX10_way 26 = .ok (.iload_n 1, 1) := by decide +kernel
theorem dX10_way_27 : decode cX10_way 27 = .ok (.iconst 2, 1) := by decide +kernel
theorem dX10_way_28 : decode cX10_way 28 = .ok (.if_icmp .ne 9, 3) := by decide +kernel
theorem dX10_way_31 : decode cX10_way 31 = .ok (.ldc2_w 97, 3) := by decide +kernel
theorem dX10_way_34 : decode cX10_way 34 = .ok (.goto 6, 3) := by decide +kernel
theorem dX10_way_37 : decode cX10_way 37 = .ok (.ldc2_w 101, 3) := by decide +kernel
theorem dX10_way_40 : decode cX10_way 40 = .ok (.invokestatic 64, 3) := by decide +kernel
theorem dX10_way_43 : decode cX10_way 43 = .ok (.ifCond .ne 6, 3) := by decide +kernel
theorem dX10_way_46 : decode cX10_way 46 = .ok (.bipush (-2), 2) := by decide +kernel
theorem dX10_way_48 : decode cX10_way 48 = .ok (.ireturn, 1) := by decide +kernel
theorem dX10_way_49 : decode cX10_way 49 = .ok (.aload_n 0, 1) := by decide +kernel
theorem dX10_way_50 : decode cX10_way 50 = .ok (.getfield 22, 3) := by decide +kernel
theorem dX10_way_53 : decode cX10_way 53 = .ok (.iload_n 1, 1) := by decide +kernel
theorem dX10_way_54 : decode cX10_way 54 = .ok (.iaload, 1) := by decide +kernel
theorem dX10_way_55 : decode cX10_way 55 = .ok (.istore_n 3, 1) := by decide +kernel
theorem dX10_way_56 : decode cX10_way 56 = .ok (.aload_n 0, 1) := by decide +kernel
theorem dX10_way_57 : decode cX10_way 57 = .ok (.getfield 22, 3) := by decide +kernel
theorem dX10_way_60 : decode cX10_way 60 = .ok (.iload_n 1, 1) := by decide +kernel
theorem dX10_way_61 : decode cX10_way 61 = .ok (.iload_n 2, 1) := by decide +kernel
theorem dX10_way_62 : decode cX10_way 62 = .ok (.iastore, 1) := by decide +kernel
theorem dX10_way_63 : decode cX10_way 63 = .ok (.iload_n 3, 1) := by decide +kernel
theorem dX10_way_64 : decode cX10_way 64 = .ok (.ireturn, 1) := by decide +kernel
theorem dX10_all_0 : decode cX10_all 0 = .ok (.iconst 0, 1) := by decide +kernel
theorem dX10_all_1 : decode cX10_all 1 = .ok (.istore_n 2, 1) := by decide +kernel
theorem dX10_all_2 : decode cX10_all 2 = .ok (.iconst 0, 1) := by decide +kernel
theorem dX10_all_3 : decode cX10_all 3 = .ok (.istore_n 3, 1) := by decide +kernel
theorem dX10_all_4 : decode cX10_all 4 = .ok (.iload_n 3, 1) := by decide +kernel
theorem dX10_all_5 : decode cX10_all 5 = .ok (.bipush 64, 2) := by decide +kernel
theorem dX10_all_7 : decode cX10_all 7 = .ok (.if_icmp .ge 22, 3) := by decide +kernel
theorem dX10_all_10 : decode cX10_all 10 = .ok (.iload_n 2, 1) := by decide +kernel
theorem dX10_all_11 : decode cX10_all 11 = .ok (.aload_n 0, 1) := by decide +kernel
theorem dX10_all_12 : decode cX10_all 12 = .ok (.getfield 7, 3) := by decide +kernel
theorem dX10_all_15 : decode cX10_all 15 = .ok (.iload_n 1, 1) := by decide +kernel
theorem dX10_all_16 : decode cX10_all 16 = .ok (.iload_n 3, 1) := by decide +kernel
theorem dX10_all_17 : decode cX10_all 17 = .ok (.invokestatic 85, 3) := by decide +kernel
theorem dX10_all_20 : decode cX10_all 20 = .ok (.iaload, 1) := by decide +kernel
theorem dX10_all_21 : decode cX10_all 21 = .ok (.iadd, 1) := by decide +kernel
theorem dX10_all_22 : decode cX10_all 22 = .ok (.istore_n 2, 1) := by decide +kernel
theorem dX10_all_23 : decode cX10_all 23 = .ok (.iinc 3 1, 3) := by decide +kernel
theorem dX10_all_26 : decode cX10_all 26 = .ok (.goto (-22), 3) := by decide +kernel
theorem dX10_all_29 : decode cX10_all 29 = .ok (.iload_n 2, 1) := by decide +kernel
theorem dX10_all_30 : decode cX10_all 30 = .ok (.ireturn, 1) := by decide +kernel
theorem dX10_say_0 : decode cX10_say 0 = .ok (.iload_n 1, 1) := by decide +kernel
theorem dX10_say_1 : decode cX10_say 1 = .ok (.i2l, 1) := by decide +kernel
theorem dX10_say_2 : decode cX10_say 2 = .ok (.ldc2_w 103, 3) := by decide +kernel
theorem dX10_say_5 : decode cX10_say 5 = .ok (.ldc2_w 105, 3) := by decide +kernel
theorem dX10_say_8 : decode cX10_say 8 = .ok (.invokestatic 64, 3) := by decide +kernel
theorem dX10_say_11 : decode cX10_say 11 = .ok (.ifCond .ne 6, 3) := by decide +kernel
theorem dX10_say_14 : decode cX10_say 14 = .ok (.bipush (-2), 2) := by decide +kernel
theorem dX10_say_16 : decode cX10_say 16 = .ok (.ireturn, 1) := by decide +kernel
theorem dX10_say_17 : decode cX10_say 17 = .ok (.aload_n 0, 1) := by decide +kernel
theorem dX10_say_18 : decode cX10_say 18 = .ok (.getfield 107, 3) := by decide +kernel
theorem dX10_say_21 : decode cX10_say 21 = .ok (.bipush 60, 2) := by decide +kernel
theorem dX10_say_23 : decode cX10_say 23 = .ok (.if_icmp .ne 6, 3) := by decide +kernel
theorem dX10_say_26 : decode cX10_say 26 = .ok (.bipush (-4), 2) := by decide +kernel
theorem dX10_say_28 : decode cX10_say 28 = .ok (.ireturn, 1) := by decide +kernel
theorem dX10_say_29 : decode cX10_say 29 = .ok (.aload_n 0, 1) := by decide +kernel
theorem dX10_say_30 : decode cX10_say 30 = .ok (.getfield 25, 3) := by decide +kernel
theorem dX10_say_33 : decode cX10_say 33 = .ok (.aload_n 0, 1) := by decide +kernel
theorem dX10_say_34 : decode cX10_say 34 = .ok (.getfield 107, 3) := by decide +kernel
theorem dX10_say_37 : decode cX10_say 37 = .ok (.iload_n 1, 1) := by decide +kernel
theorem dX10_say_38 : decode cX10_say 38 = .ok (.iastore, 1) := by decide +kernel
theorem dX10_say_39 : decode cX10_say 39 = .ok (.aload_n 0, 1) := by decide +kernel
theorem dX10_say_40 : decode cX10_say 40 = .ok (.dup, 1) := by decide +kernel
theorem dX10_say_41 : decode cX10_say 41 = .ok (.getfield 107, 3) := by decide +kernel
theorem dX10_say_44 : decode cX10_say 44 = .ok (.iconst 1, 1) := by decide +kernel
theorem dX10_say_45 : decode cX10_say 45 = .ok (.iadd, 1) := by decide +kernel
theorem dX10_say_46 : decode cX10_say 46 = .ok (.putfield 107, 3) := by decide +kernel
theorem dX10_say_49 : decode cX10_say 49 = .ok (.aload_n 0, 1) := by decide +kernel
theorem dX10_say_50 : decode cX10_say 50 = .ok (.getfield 107, 3) := by decide +kernel
theorem dX10_say_53 : decode cX10_say 53 = .ok (.ireturn, 1) := by decide +kernel
theorem dX10_wipe_0 : decode cX10_wipe 0 = .ok (.aload_n 0, 1) := by decide +kernel
theorem dX10_wipe_1 : decode cX10_wipe 1 = .ok (.getfield 107, 3) := by decide +kernel
theorem dX10_wipe_4 : decode cX10_wipe 4 = .ok (.istore_n 1, 1) := by decide +kernel
theorem dX10_wipe_5 : decode cX10_wipe 5 = .ok (.aload_n 0, 1) := by decide +kernel
theorem dX10_wipe_6 : decode cX10_wipe 6 = .ok (.iconst 0, 1) := by decide +kernel
theorem dX10_wipe_7 : decode cX10_wipe 7 = .ok (.putfield 107, 3) := by decide +kernel
theorem dX10_wipe_10 : decode cX10_wipe 10 = .ok (.iload_n 1, 1) := by decide +kernel
theorem dX10_wipe_11 : decode cX10_wipe 11 = .ok (.ireturn, 1) := by decide +kernel
theorem dX10_isDigit_0 : decode cX10_isDigit 0 = .ok (.iload_n 0, 1) := by decide +kernel
theorem dX10_isDigit_1 : decode cX10_isDigit 1 = .ok (.i2l, 1) := by decide +kernel
theorem dX10_isDigit_2 : decode cX10_isDigit 2 = .ok (.ldc2_w 111, 3) := by decide +kernel
theorem dX10_isDigit_5 : decode cX10_isDigit 5 = .ok (.ldc2_w 113, 3) := by decide +kernel
theorem dX10_isDigit_8 : decode cX10_isDigit 8 = .ok (.invokestatic 64, 3) := by decide +kernel
theorem dX10_isDigit_11 : decode cX10_isDigit 11 = .ok (.ireturn, 1) := by decide +kernel
theorem dX10_ruleStep_0 : decode cX10_ruleStep 0 = .ok (.iload_n 0, 1) := by decide +kernel
theorem dX10_ruleStep_1 : decode cX10_ruleStep 1 = .ok (.tableswitch 205 0 9 #[55, 101, 114, 138, 151, 151, 191, 205, 205, 83], 55) := by decide +kernel
theorem dX10_ruleStep_56 : decode cX10_ruleStep 56 = .ok (.iload_n 1, 1) := by decide +kernel
theorem dX10_ruleStep_57 : decode cX10_ruleStep 57 = .ok (.bipush 42, 2) := by decide +kernel
theorem dX10_ruleStep_59 : decode cX10_ruleStep 59 = .ok (.if_icmp .ne 7, 3) := by decide +kernel
theorem dX10_ruleStep_62 : decode cX10_ruleStep 62 = .ok (.iconst 1, 1) := by decide +kernel
theorem dX10_ruleStep_63 : decode cX10_ruleStep 63 = .ok (.goto 20, 3) := by decide +kernel
theorem dX10_ruleStep_66 : decode cX10_ruleStep 66 = .ok (.iload_n 1, 1) := by decide +kernel
theorem dX10_ruleStep_67 : decode cX10_ruleStep 67 = .ok (.bipush 121, 2) := by decide +kernel
theorem dX10_ruleStep_69 : decode cX10_ruleStep 69 = .ok (.if_icmp .eq 9, 3) := by decide +kernel
theorem dX10_ruleStep_72 : decode cX10_ruleStep 72 = .ok (.iload_n 1, 1) := by decide +kernel
theorem dX10_ruleStep_73 : decode cX10_ruleStep 73 = .ok (.bipush 97, 2) := by decide +kernel
theorem dX10_ruleStep_75 : decode cX10_ruleStep 75 = .ok (.if_icmp .ne 7, 3) := by decide +kernel
theorem dX10_ruleStep_78 : decode cX10_ruleStep 78 = .ok (.iconst 2, 1) := by decide +kernel
theorem dX10_ruleStep_79 : decode cX10_ruleStep 79 = .ok (.goto 4, 3) := by decide +kernel
theorem dX10_ruleStep_82 : decode cX10_ruleStep 82 = .ok (.iconst (-1), 1) := by decide +kernel
theorem dX10_ruleStep_83 : decode cX10_ruleStep 83 = .ok (.ireturn, 1) := by decide +kernel
theorem dX10_ruleStep_84 : decode cX10_ruleStep 84 = .ok (.iload_n 1, 1) := by decide +kernel
theorem dX10_ruleStep_85 : decode cX10_ruleStep 85 = .ok (.bipush 121, 2) := by decide +kernel
theorem dX10_ruleStep_87 : decode cX10_ruleStep 87 = .ok (.if_icmp .eq 9, 3) := by decide +kernel
theorem dX10_ruleStep_90 : decode cX10_ruleStep 90 = .ok (.iload_n 1, 1) := by decide +kernel
theorem dX10_ruleStep_91 : decode cX10_ruleStep 91 = .ok (.bipush 97, 2) := by decide +kernel
theorem dX10_ruleStep_93 : decode cX10_ruleStep 93 = .ok (.if_icmp .ne 7, 3) := by decide +kernel
theorem dX10_ruleStep_96 : decode cX10_ruleStep 96 = .ok (.iconst 2, 1) := by decide +kernel
theorem dX10_ruleStep_97 : decode cX10_ruleStep 97 = .ok (.goto 4, 3) := by decide +kernel
theorem dX10_ruleStep_100 : decode cX10_ruleStep 100 = .ok (.iconst (-1), 1) := by decide +kernel
theorem dX10_ruleStep_101 : decode cX10_ruleStep 101 = .ok (.ireturn, 1) := by decide +kernel
theorem dX10_ruleStep_102 : decode cX10_ruleStep 102 = .ok (.iload_n 1, 1) := by decide +kernel
theorem dX10_ruleStep_103 : decode cX10_ruleStep 103 = .ok (.bipush 58, 2) := by decide +kernel
theorem dX10_ruleStep_105 : decode cX10_ruleStep 105 = .ok (.if_icmp .ne 8, 3) := by decide +kernel
theorem dX10_ruleStep_108 : decode cX10_ruleStep 108 = .ok (.bipush 6, 2) := by decide +kernel
theorem dX10_ruleStep_110 : decode cX10_ruleStep 110 = .ok (.goto 4, 3) := by decide +kernel
theorem dX10_ruleStep_113 : decode cX10_ruleStep 113 = .ok (.iconst (-1), 1) := by decide +kernel
theorem dX10_ruleStep_114 : decode cX10_ruleStep 114 = .ok (.ireturn, 1) := by decide +kernel
theorem dX10_ruleStep_115 : decode cX10_ruleStep 115 = .ok (.iload_n 1, 1) := by decide +kernel
theorem dX10_ruleStep_116 : decode cX10_ruleStep 116 = .ok (.bipush 60, 2) := by decide +kernel
theorem dX10_ruleStep_118 : decode cX10_ruleStep 118 = .ok (.if_icmp .eq 15, 3) := by decide +kernel
theorem dX10_ruleStep_121 : decode cX10_ruleStep 121 = .ok (.iload_n 1, 1) := by decide +kernel
theorem dX10_ruleStep_122 : decode cX10_ruleStep 122 = .ok (.bipush 62, 2) := by decide +kernel
theorem dX10_ruleStep_124 : decode cX10_ruleStep 124 = .ok (.if_icmp .eq 9, 3) := by decide +kernel
theorem dX10_ruleStep_127 : decode cX10_ruleStep 127 = .ok (.iload_n 1, 1) := by decide +kernel
theorem dX10_ruleStep_128 : decode cX10_ruleStep 128 = .ok (.bipush 61, 2) := by decide +kernel
theorem dX10_ruleStep_130 : decode cX10_ruleStep 130 = .ok (.if_icmp .ne 7, 3) := by decide +kernel
theorem dX10_ruleStep_133 : decode cX10_ruleStep 133 = .ok (.iconst 3, 1) := by decide +kernel
theorem dX10_ruleStep_134 : decode cX10_ruleStep 134 = .ok (.goto 4, 3) := by decide +kernel
theorem dX10_ruleStep_137 : decode cX10_ruleStep 137 = .ok (.iconst (-1), 1) := by decide +kernel
theorem dX10_ruleStep_138 : decode cX10_ruleStep 138 = .ok (.ireturn, 1) := by decide +kernel
theorem dX10_ruleStep_139 : decode cX10_ruleStep 139 = .ok (.iload_n 1, 1) := by decide +kernel
theorem dX10_ruleStep_140 : decode cX10_ruleStep 140 = .ok (.invokestatic 115, 3) := by decide +kernel
theorem dX10_ruleStep_143 : decode cX10_ruleStep 143 = .ok (.ifCond .eq 7, 3) := by decide +kernel
theorem dX10_ruleStep_146 : decode cX10_ruleStep 146 = .ok (.iconst 4, 1) := by decide +kernel
theorem dX10_ruleStep_147 : decode cX10_ruleStep 147 = .ok (.goto 4, 3) := by decide +kernel
theorem dX10_ruleStep_150 : decode cX10_ruleStep 150 = .ok (.iconst (-1), 1) := by decide +kernel
theorem dX10_ruleStep_151 : decode cX10_ruleStep 151 = .ok (.ireturn, 1) := by decide +kernel
theorem dX10_ruleStep_152 : decode cX10_ruleStep 152 = .ok (.iload_n 1, 1) := by decide +kernel
theorem dX10_ruleStep_153 : decode cX10_ruleStep 153 = .ok (.invokestatic 115, 3) := by decide +kernel
theorem dX10_ruleStep_156 : decode cX10_ruleStep 156 = .ok (.ifCond .eq 12, 3) := by decide +kernel
theorem dX10_ruleStep_159 : decode cX10_ruleStep 159 = .ok (.iload_n 0, 1) := by decide +kernel
theorem dX10_ruleStep_160 : decode cX10_ruleStep 160 = .ok (.iconst 4, 1) := by decide +kernel
theorem dX10_ruleStep_161 : decode cX10_ruleStep 161 = .ok (.if_icmp .ne 7, 3) := by decide +kernel
theorem dX10_ruleStep_164 : decode cX10_ruleStep 164 = .ok (.iconst 5, 1) := by decide +kernel
theorem dX10_ruleStep_165 : decode cX10_ruleStep 165 = .ok (.goto 26, 3) := by decide +kernel
theorem dX10_ruleStep_168 : decode cX10_ruleStep 168 = .ok (.iload_n 1, 1) := by decide +kernel
theorem dX10_ruleStep_169 : decode cX10_ruleStep 169 = .ok (.bipush 38, 2) := by decide +kernel
theorem dX10_ruleStep_171 : decode cX10_ruleStep 171 = .ok (.if_icmp .ne 8, 3) := by decide +kernel
theorem dX10_ruleStep_174 : decode cX10_ruleStep 174 = .ok (.bipush 9, 2) := by decide +kernel
theorem dX10_ruleStep_176 : decode cX10_ruleStep 176 = .ok (.goto 15, 3) := by decide +kernel
theorem dX10_ruleStep_179 : decode cX10_ruleStep 179 = .ok (.iload_n 1, 1) := by decide +kernel
theorem dX10_ruleStep_180 : decode cX10_ruleStep 180 = .ok (.bipush 58, 2) := by decide +kernel
theorem dX10_ruleStep_182 : decode cX10_ruleStep 182 = .ok (.if_icmp .ne 8, 3) := by decide +kernel
theorem dX10_ruleStep_185 : decode cX10_ruleStep 185 = .ok (.bipush 6, 2) := by decide +kernel
theorem dX10_ruleStep_187 : decode cX10_ruleStep 187 = .ok (.goto 4, 3) := by decide +kernel
theorem dX10_ruleStep_190 : decode cX10_ruleStep 190 = .ok (.iconst (-1), 1) := by decide +kernel
theorem dX10_ruleStep_191 : decode cX10_ruleStep 191 = .ok (.ireturn, 1) := by decide +kernel
theorem dX10_ruleStep_192 : decode cX10_ruleStep 192 = .ok (.iload_n 1, 1) := by decide +kernel
theorem dX10_ruleStep_193 : decode cX10_ruleStep 193 = .ok (.invokestatic 115, 3) := by decide +kernel
theorem dX10_ruleStep_196 : decode cX10_ruleStep 196 = .ok (.ifCond .eq 8, 3) := by decide +kernel
theorem dX10_ruleStep_199 : decode cX10_ruleStep 199 = .ok (.bipush 7, 2) := by decide +kernel
theorem dX10_ruleStep_201 : decode cX10_ruleStep 201 = .ok (.goto 4, 3) := by decide +kernel
theorem dX10_ruleStep_204 : decode cX10_ruleStep 204 = .ok (.iconst (-1), 1) := by decide +kernel
theorem dX10_ruleStep_205 : decode cX10_ruleStep 205 = .ok (.ireturn, 1) := by decide +kernel
theorem dX10_ruleStep_206 : decode cX10_ruleStep 206 = .ok (.iload_n 1, 1) := by decide +kernel
theorem dX10_ruleStep_207 : decode cX10_ruleStep 207 = .ok (.invokestatic 115, 3) := by decide +kernel
theorem dX10_ruleStep_210 : decode cX10_ruleStep 210 = .ok (.ifCond .eq 14, 3) := by decide +kernel
theorem dX10_ruleStep_213 : decode cX10_ruleStep 213 = .ok (.iload_n 0, 1) := by decide +kernel
theorem dX10_ruleStep_214 : decode cX10_ruleStep 214 = .ok (.bipush 7, 2) := by decide +kernel
theorem dX10_ruleStep_216 : decode cX10_ruleStep 216 = .ok (.if_icmp .ne 8, 3) := by decide +kernel
theorem dX10_ruleStep_219 : decode cX10_ruleStep 219 = .ok (.bipush 8, 2) := by decide +kernel
theorem dX10_ruleStep_221 : decode cX10_ruleStep 221 = .ok (.goto 14, 3) := by decide +kernel
theorem dX10_ruleStep_224 : decode cX10_ruleStep 224 = .ok (.iload_n 1, 1) := by decide +kernel
theorem dX10_ruleStep_225 : decode cX10_ruleStep 225 = .ok (.bipush 59, 2) := by decide +kernel
theorem dX10_ruleStep_227 : decode cX10_ruleStep 227 = .ok (.if_icmp .ne 7, 3) := by decide +kernel
theorem dX10_ruleStep_230 : decode cX10_ruleStep 230 = .ok (.iconst 0, 1) := by decide +kernel
theorem dX10_ruleStep_231 : decode cX10_ruleStep 231 = .ok (.goto 4, 3) := by decide +kernel
theorem dX10_ruleStep_234 : decode cX10_ruleStep 234 = .ok (.iconst (-1), 1) := by decide +kernel
theorem dX10_ruleStep_235 : decode cX10_ruleStep 235 = .ok (.ireturn, 1) := by decide +kernel
theorem dX10_growthStep_0 : decode cX10_growthStep 0 = .ok (.iload_n 0, 1) := by decide +kernel
theorem dX10_growthStep_1 : decode cX10_growthStep 1 = .ok (.tableswitch 85 0 3 #[31, 44, 44, 72], 31) := by decide +kernel
theorem dX10_growthStep_32 : decode cX10_growthStep 32 = .ok (.iload_n 1, 1) := by decide +kernel
theorem dX10_growthStep_33 : decode cX10_growthStep 33 = .ok (.invokestatic 115, 3) := by decide +kernel
theorem dX10_growthStep_36 : decode cX10_growthStep 36 = .ok (.ifCond .eq 7, 3) := by decide +kernel
theorem dX10_growthStep_39 : decode cX10_growthStep 39 = .ok (.iconst 1, 1) := by decide +kernel
theorem dX10_growthStep_40 : decode cX10_growthStep 40 = .ok (.goto 4, 3) := by decide +kernel
theorem dX10_growthStep_43 : decode cX10_growthStep 43 = .ok (.iconst (-1), 1) := by decide +kernel
theorem dX10_growthStep_44 : decode cX10_growthStep 44 = .ok (.ireturn, 1) := by decide +kernel
theorem dX10_growthStep_45 : decode cX10_growthStep 45 = .ok (.iload_n 1, 1) := by decide +kernel
theorem dX10_growthStep_46 : decode cX10_growthStep 46 = .ok (.invokestatic 115, 3) := by decide +kernel
theorem dX10_growthStep_49 : decode cX10_growthStep 49 = .ok (.ifCond .eq 12, 3) := by decide +kernel
theorem dX10_growthStep_52 : decode cX10_growthStep 52 = .ok (.iload_n 0, 1) := by decide +kernel
theorem dX10_growthStep_53 : decode cX10_growthStep 53 = .ok (.iconst 1, 1) := by decide +kernel
theorem dX10_growthStep_54 : decode cX10_growthStep 54 = .ok (.if_icmp .ne 7, 3) := by decide +kernel
theorem dX10_growthStep_57 : decode cX10_growthStep 57 = .ok (.iconst 2, 1) := by decide +kernel
theorem dX10_growthStep_58 : decode cX10_growthStep 58 = .ok (.goto 14, 3) := by decide +kernel
theorem dX10_growthStep_61 : decode cX10_growthStep 61 = .ok (.iload_n 1, 1) := by decide +kernel
theorem dX10_growthStep_62 : decode cX10_growthStep 62 = .ok (.bipush 58, 2) := by decide +kernel
theorem dX10_growthStep_64 : decode cX10_growthStep 64 = .ok (.if_icmp .ne 7, 3) := by decide +kernel
theorem dX10_growthStep_67 : decode cX10_growthStep 67 = .ok (.iconst 3, 1) := by decide +kernel
theorem dX10_growthStep_68 : decode cX10_growthStep 68 = .ok (.goto 4, 3) := by decide +kernel
theorem dX10_growthStep_71 : decode cX10_growthStep 71 = .ok (.iconst (-1), 1) := by decide +kernel
theorem dX10_growthStep_72 : decode cX10_growthStep 72 = .ok (.ireturn, 1) := by decide +kernel
theorem dX10_growthStep_73 : decode cX10_growthStep 73 = .ok (.iload_n 1, 1) := by decide +kernel
theorem dX10_growthStep_74 : decode cX10_growthStep 74 = .ok (.invokestatic 115, 3) := by decide +kernel
theorem dX10_growthStep_77 : decode cX10_growthStep 77 = .ok (.ifCond .eq 7, 3) := by decide +kernel
theorem dX10_growthStep_80 : decode cX10_growthStep 80 = .ok (.iconst 4, 1) := by decide +kernel
theorem dX10_growthStep_81 : decode cX10_growthStep 81 = .ok (.goto 4, 3) := by decide +kernel
theorem dX10_growthStep_84 : decode cX10_growthStep 84 = .ok (.iconst (-1), 1) := by decide +kernel
theorem dX10_growthStep_85 : decode cX10_growthStep 85 = .ok (.ireturn, 1) := by decide +kernel
theorem dX10_growthStep_86 : decode cX10_growthStep 86 = .ok (.iload_n 1, 1) := by decide +kernel
theorem dX10_growthStep_87 : decode cX10_growthStep 87 = .ok (.bipush 59, 2) := by decide +kernel
theorem dX10_growthStep_89 : decode cX10_growthStep 89 = .ok (.if_icmp .ne 7, 3) := by decide +kernel
theorem dX10_growthStep_92 : decode cX10_growthStep 92 = .ok (.iconst 0, 1) := by decide +kernel
theorem dX10_growthStep_93 : decode cX10_growthStep 93 = .ok (.goto 4, 3) := by decide +kernel
theorem dX10_growthStep_96 : decode cX10_growthStep 96 = .ok (.iconst (-1), 1) := by decide +kernel
theorem dX10_growthStep_97 : decode cX10_growthStep 97 = .ok (.ireturn, 1) := by decide +kernel
theorem dX10_faultOf_0 : decode cX10_faultOf 0 = .ok (.iconst 0, 1) := by decide +kernel
theorem dX10_faultOf_1 : decode cX10_faultOf 1 = .ok (.istore_n 2, 1) := by decide +kernel
theorem dX10_faultOf_2 : decode cX10_faultOf 2 = .ok (.iconst 0, 1) := by decide +kernel
theorem dX10_faultOf_3 : decode cX10_faultOf 3 = .ok (.istore_n 3, 1) := by decide +kernel
theorem dX10_faultOf_4 : decode cX10_faultOf 4 = .ok (.iload_n 3, 1) := by decide +kernel
theorem dX10_faultOf_5 : decode cX10_faultOf 5 = .ok (.aload_n 0, 1) := by decide +kernel
theorem dX10_faultOf_6 : decode cX10_faultOf 6 = .ok (.getfield 107, 3) := by decide +kernel
theorem dX10_faultOf_9 : decode cX10_faultOf 9 = .ok (.if_icmp .ge 43, 3) := by decide +kernel
theorem dX10_faultOf_12 : decode cX10_faultOf 12 = .ok (.iload_n 1, 1) := by decide +kernel
theorem dX10_faultOf_13 : decode cX10_faultOf 13 = .ok (.ifCond .ne 16, 3) := by decide +kernel
theorem dX10_faultOf_16 : decode cX10_faultOf 16 = .ok (.iload_n 2, 1) := by decide +kernel
theorem dX10_faultOf_17 : decode cX10_faultOf 17 = .ok (.aload_n 0, 1) := by decide +kernel
theorem dX10_faultOf_18 : decode cX10_faultOf 18 = .ok (.getfield 25, 3) := by decide +kernel
theorem dX10_faultOf_21 : decode cX10_faultOf 21 = .ok (.iload_n 3, 1) := by decide +kernel
theorem dX10_faultOf_22 : decode cX10_faultOf 22 = .ok (.iaload, 1) := by decide +kernel
theorem dX10_faultOf_23 : decode cX10_faultOf 23 = .ok (.invokestatic 118, 3) := by decide +kernel
theorem dX10_faultOf_26 : decode cX10_faultOf 26 = .ok (.goto 13, 3) := by decide +kernel
theorem dX10_faultOf_29 : decode cX10_faultOf 29 = .ok (.iload_n 2, 1) := by decide +kernel
theorem dX10_faultOf_30 : decode cX10_faultOf 30 = .ok (.aload_n 0, 1) := by decide +kernel
theorem dX10_faultOf_31 : decode cX10_faultOf 31 = .ok (.getfield 25, 3) := by decide +kernel
theorem dX10_faultOf_34 : decode cX10_faultOf 34 = .ok (.iload_n 3, 1) := by decide +kernel
theorem dX10_faultOf_35 : decode cX10_faultOf 35 = .ok (.iaload, 1) := by decide +kernel
theorem dX10_faultOf_36 : decode cX10_faultOf 36 = .ok (.invokestatic 121, 3) := by decide +kernel
theorem dX10_faultOf_39 : decode cX10_faultOf 39 = .ok (.istore_n 2, 1) := by decide +kernel
theorem dX10_faultOf_40 : decode cX10_faultOf 40 = .ok (.iload_n 2, 1) := by decide +kernel
theorem dX10_faultOf_41 : decode cX10_faultOf 41 = .ok (.ifCond .ge 5, 3) := by decide +kernel
theorem dX10_faultOf_44 : decode cX10_faultOf 44 = .ok (.iload_n 3, 1) := by decide +kernel
theorem dX10_faultOf_45 : decode cX10_faultOf 45 = .ok (.ireturn, 1) := by decide +kernel
theorem dX10_faultOf_46 : decode cX10_faultOf 46 = .ok (.iinc 3 1, 3) := by decide +kernel
theorem dX10_faultOf_49 : decode cX10_faultOf 49 = .ok (.goto (-45), 3) := by decide +kernel
theorem dX10_faultOf_52 : decode cX10_faultOf 52 = .ok (.iload_n 1, 1) := by decide +kernel
theorem dX10_faultOf_53 : decode cX10_faultOf 53 = .ok (.ifCond .ne 15, 3) := by decide +kernel
theorem dX10_faultOf_56 : decode cX10_faultOf 56 = .ok (.iload_n 2, 1) := by decide +kernel
theorem dX10_faultOf_57 : decode cX10_faultOf 57 = .ok (.bipush 7, 2) := by decide +kernel
theorem dX10_faultOf_59 : decode cX10_faultOf 59 = .ok (.if_icmp .eq 19, 3) := by decide +kernel
theorem dX10_faultOf_62 : decode cX10_faultOf 62 = .ok (.iload_n 2, 1) := by decide +kernel
theorem dX10_faultOf_63 : decode cX10_faultOf 63 = .ok (.bipush 8, 2) := by decide +kernel
theorem dX10_faultOf_65 : decode cX10_faultOf 65 = .ok (.if_icmp .eq 13, 3) := by decide +kernel
theorem dX10_faultOf_68 : decode cX10_faultOf 68 = .ok (.iload_n 1, 1) := by decide +kernel
theorem dX10_faultOf_69 : decode cX10_faultOf 69 = .ok (.iconst 1, 1) := by decide +kernel
theorem dX10_faultOf_70 : decode cX10_faultOf 70 = .ok (.if_icmp .ne 13, 3) := by decide +kernel
theorem dX10_faultOf_73 : decode cX10_faultOf 73 = .ok (.iload_n 2, 1) := by decide +kernel
theorem dX10_faultOf_74 : decode cX10_faultOf 74 = .ok (.iconst 4, 1) := by decide +kernel
theorem dX10_faultOf_75 : decode cX10_faultOf 75 = .ok (.if_icmp .ne 8, 3) := by decide +kernel
theorem dX10_faultOf_78 : decode cX10_faultOf 78 = .ok (.bipush (-6), 2) := by decide +kernel
theorem dX10_faultOf_80 : decode cX10_faultOf 80 = .ok (.goto 7, 3) := by decide +kernel
theorem dX10_faultOf_83 : decode cX10_faultOf 83 = .ok (.aload_n 0, 1) := by decide +kernel
theorem dX10_faultOf_84 : decode cX10_faultOf 84 = .ok (.getfield 107, 3) := by decide +kernel
theorem dX10_faultOf_87 : decode cX10_faultOf 87 = .ok (.ireturn, 1) := by decide +kernel
theorem dX10_fault_0 : decode cX10_fault 0 = .ok (.iload_n 1, 1) := by decide +kernel
theorem dX10_fault_1 : decode cX10_fault 1 = .ok (.invokestatic 124, 3) := by decide +kernel
theorem dX10_fault_4 : decode cX10_fault 4 = .ok (.ifCond .eq 11, 3) := by decide +kernel
theorem dX10_fault_7 : decode cX10_fault 7 = .ok (.aload_n 0, 1) := by decide +kernel
theorem dX10_fault_8 : decode cX10_fault 8 = .ok (.iload_n 1, 1) := by decide +kernel
theorem dX10_fault_9 : decode cX10_fault 9 = .ok (.invokevirtual 127, 3) := by decide +kernel
theorem dX10_fault_12 : decode cX10_fault 12 = .ok (.goto 5, 3) := by decide +kernel
theorem dX10_fault_15 : decode cX10_fault 15 = .ok (.bipush (-2), 2) := by decide +kernel
theorem dX10_fault_17 : decode cX10_fault 17 = .ok (.ireturn, 1) := by decide +kernel
theorem dX10_takeRule_0 : decode cX10_takeRule 0 = .ok (.aload_n 0, 1) := by decide +kernel
theorem dX10_takeRule_1 : decode cX10_takeRule 1 = .ok (.iconst 0, 1) := by decide +kernel
theorem dX10_takeRule_2 : decode cX10_takeRule 2 = .ok (.putfield 131, 3) := by decide +kernel
theorem dX10_takeRule_5 : decode cX10_takeRule 5 = .ok (.aload_n 0, 1) := by decide +kernel
theorem dX10_takeRule_6 : decode cX10_takeRule 6 = .ok (.iconst 0, 1) := by decide +kernel
theorem dX10_takeRule_7 : decode cX10_takeRule 7 = .ok (.putfield 134, 3) := by decide +kernel
theorem dX10_takeRule_10 : decode cX10_takeRule 10 = .ok (.aload_n 0, 1) := by decide +kernel
theorem dX10_takeRule_11 : decode cX10_takeRule 11 = .ok (.getfield 28, 3) := by decide +kernel
theorem dX10_takeRule_14 : decode cX10_takeRule 14 = .ok (.iconst 0, 1) := by decide +kernel
theorem dX10_takeRule_15 : decode cX10_takeRule 15 = .ok (.iconst 0, 1) := by decide +kernel
theorem dX10_takeRule_16 : decode cX10_takeRule 16 = .ok (.iastore, 1) := by decide +kernel
theorem dX10_takeRule_17 : decode cX10_takeRule 17 = .ok (.iconst 0, 1) := by decide +kernel
theorem dX10_takeRule_18 : decode cX10_takeRule 18 = .ok (.istore_n 1, 1) := by decide +kernel
theorem dX10_takeRule_19 : decode cX10_takeRule 19 = .ok (.iconst 0, 1) := by decide +kernel
theorem dX10_takeRule_20 : decode cX10_takeRule 20 = .ok (.istore_n 2, 1) := by decide +kernel
theorem dX10_takeRule_21 : decode cX10_takeRule 21 = .ok (.iload_n 2, 1) := by decide +kernel
theorem dX10_takeRule_22 : decode cX10_takeRule 22 = .ok (.aload_n 0, 1) := by decide +kernel
theorem dX10_takeRule_23 : decode cX10_takeRule 23 = .ok (.getfield 107, 3) := by decide +kernel
theorem dX10_takeRule_26 : decode cX10_takeRule 26 = .ok (.if_icmp .ge 214, 3) := by decide +kernel
theorem dX10_takeRule_29 : decode cX10_takeRule 29 = .ok (.aload_n 0, 1) := by decide +kernel
theorem dX10_takeRule_30 : decode cX10_takeRule 30 = .ok (.getfield 25, 3) := by decide +kernel
theorem dX10_takeRule_33 : decode cX10_takeRule 33 = .ok (.iload_n 2, 1) := by decide +kernel
theorem dX10_takeRule_34 : decode cX10_takeRule 34 = .ok (.iaload, 1) := by decide +kernel
theorem dX10_takeRule_35 : decode cX10_takeRule 35 = .ok (.istore_n 3, 1) := by decide +kernel
theorem dX10_takeRule_36 : decode cX10_takeRule 36 = .ok (.iload_n 1, 1) := by decide +kernel
theorem dX10_takeRule_37 : decode cX10_takeRule 37 = .ok (.iload_n 3, 1) := by decide +kernel
theorem dX10_takeRule_38 : decode cX10_takeRule 38 = .ok (.invokestatic 118, 3) := by decide +kernel
theorem dX10_takeRule_41 : decode cX10_takeRule 41 = .ok (.istore_n 1, 1) := by decide +kernel
theorem dX10_takeRule_42 : decode cX10_takeRule 42 = .ok (.iload_n 1, 1) := by decide +kernel
theorem dX10_takeRule_43 : decode cX10_takeRule 43 = .ok (.tableswitch 191 2 8 #[41, 74, 89, 89, 122, 158, 158], 41) := by decide +kernel
theorem dX10_takeRule_84 : decode cX10_takeRule 84 = .ok (.aload_n 0, 1) := by decide +kernel
theorem dX10_takeRule_85 : decode cX10_takeRule 85 = .ok (.getfield 34, 3) := by decide +kernel
theorem dX10_takeRule_88 : decode cX10_takeRule 88 = .ok (.aload_n 0, 1) := by decide +kernel
theorem dX10_takeRule_89 : decode cX10_takeRule 89 = .ok (.getfield 134, 3) := by decide +kernel
theorem dX10_takeRule_92 : decode cX10_takeRule 92 = .ok (.iload_n 3, 1) := by decide +kernel
theorem dX10_takeRule_93 : decode cX10_takeRule 93 = .ok (.iastore, 1) := by decide +kernel
theorem dX10_takeRule_94 : decode cX10_takeRule 94 = .ok (.aload_n 0, 1) := by decide +kernel
theorem dX10_takeRule_95 : decode cX10_takeRule 95 = .ok (.getfield 40, 3) := by decide +kernel
theorem dX10_takeRule_98 : decode cX10_takeRule 98 = .ok (.aload_n 0, 1) := by decide +kernel
theorem dX10_takeRule_99 : decode cX10_takeRule 99 = .ok (.getfield 134, 3) := by decide +kernel
theorem dX10_takeRule_102 : decode cX10_takeRule 102 = .ok (.iconst 0, 1) := by decide +kernel
theorem dX10_takeRule_103 : decode cX10_takeRule 103 = .ok (.iastore, 1) := by decide +kernel
theorem dX10_takeRule_104 : decode cX10_takeRule 104 = .ok (.aload_n 0, 1) := by decide +kernel
theorem dX10_takeRule_105 : decode cX10_takeRule 105 = .ok (.dup, 1) := by decide +kernel
theorem dX10_takeRule_106 : decode cX10_takeRule 106 = .ok (.getfield 134, 3) := by decide +kernel
theorem dX10_takeRule_109 : decode cX10_takeRule 109 = .ok (.iconst 1, 1) := by decide +kernel
theorem dX10_takeRule_110 : decode cX10_takeRule 110 = .ok (.iadd, 1) := by decide +kernel
theorem dX10_takeRule_111 : decode cX10_takeRule 111 = .ok (.putfield 134, 3) := by decide +kernel
theorem dX10_takeRule_114 : decode cX10_takeRule 114 = .ok (.goto 120, 3) := by decide +kernel
theorem dX10_takeRule_117 : decode cX10_takeRule 117 = .ok (.aload_n 0, 1) := by decide +kernel
theorem dX10_takeRule_118 : decode cX10_takeRule 118 = .ok (.getfield 37, 3) := by decide +kernel
theorem dX10_takeRule_121 : decode cX10_takeRule 121 = .ok (.aload_n 0, 1) := by decide +kernel
theorem dX10_takeRule_122 : decode cX10_takeRule 122 = .ok (.getfield 134, 3) := by decide +kernel
theorem dX10_takeRule_125 : decode cX10_takeRule 125 = .ok (.iconst 1, 1) := by decide +kernel
theorem dX10_takeRule_126 : decode cX10_takeRule 126 = .ok (.isub, 1) := by decide +kernel
theorem dX10_takeRule_127 : decode cX10_takeRule 127 = .ok (.iload_n 3, 1) := by decide +kernel
theorem dX10_takeRule_128 : decode cX10_takeRule 128 = .ok (.iastore, 1) := by decide +kernel
theorem dX10_takeRule_129 : decode cX10_takeRule 129 = .ok (.goto 105, 3) := by decide +kernel
theorem dX10_takeRule_132 : decode cX10_takeRule 132 = .ok (.aload_n 0, 1) := by decide +kernel
theorem dX10_takeRule_133 : decode cX10_takeRule 133 = .ok (.getfield 40, 3) := by decide +kernel
theorem dX10_takeRule_136 : decode cX10_takeRule 136 = .ok (.aload_n 0, 1) := by decide +kernel
theorem dX10_takeRule_137 : decode cX10_takeRule 137 = .ok (.getfield 134, 3) := by decide +kernel
theorem dX10_takeRule_140 : decode cX10_takeRule 140 = .ok (.iconst 1, 1) := by decide +kernel
theorem dX10_takeRule_141 : decode cX10_takeRule 141 = .ok (.isub, 1) := by decide +kernel
theorem dX10_takeRule_142 : decode cX10_takeRule 142 = .ok (.bipush 10, 2) := by decide +kernel
theorem dX10_takeRule_144 : decode cX10_takeRule 144 = .ok (.aload_n 0, 1) := by decide +kernel
theorem dX10_takeRule_145 : decode cX10_takeRule 145 = .ok (.getfield 40, 3) := by decide +kernel
theorem dX10_takeRule_148 : decode cX10_takeRule 148 = .ok (.aload_n 0, 1) := by decide +kernel
theorem dX10_takeRule_149 : decode cX10_takeRule 149 = .ok (.getfield 134, 3) := by decide +kernel
theorem dX10_takeRule_152 : decode cX10_takeRule 152 = .ok (.iconst 1, 1) := by decide +kernel
theorem dX10_takeRule_153 : decode cX10_takeRule 153 = .ok (.isub, 1) := by decide +kernel
theorem dX10_takeRule_154 : decode cX10_takeRule 154 = .ok (.iaload, 1) := by decide +kernel
theorem dX10_takeRule_155 : decode cX10_takeRule 155 = .ok (.imul, 1) := by decide +kernel
theorem dX10_takeRule_156 : decode cX10_takeRule 156 = .ok (.iload_n 3, 1) := by decide +kernel
theorem dX10_takeRule_157 : decode cX10_takeRule 157 = .ok (.iadd, 1) := by decide +kernel
theorem dX10_takeRule_158 : decode cX10_takeRule 158 = .ok (.bipush 48, 2) := by decide +kernel
theorem dX10_takeRule_160 : decode cX10_takeRule 160 = .ok (.isub, 1) := by decide +kernel
theorem dX10_takeRule_161 : decode cX10_takeRule 161 = .ok (.iastore, 1) := by decide +kernel
theorem dX10_takeRule_162 : decode cX10_takeRule 162 = .ok (.goto 72, 3) := by decide +kernel
theorem dX10_takeRule_165 : decode cX10_takeRule 165 = .ok (.aload_n 0, 1) := by decide +kernel
theorem dX10_takeRule_166 : decode cX10_takeRule 166 = .ok (.getfield 31, 3) := by decide +kernel
theorem dX10_takeRule_169 : decode cX10_takeRule 169 = .ok (.aload_n 0, 1) := by decide +kernel
theorem dX10_takeRule_170 : decode cX10_takeRule 170 = .ok (.getfield 131, 3) := by decide +kernel
theorem dX10_takeRule_173 : decode cX10_takeRule 173 = .ok (.iconst 0, 1) := by decide +kernel
theorem dX10_takeRule_174 : decode cX10_takeRule 174 = .ok (.iastore, 1) := by decide +kernel
theorem dX10_takeRule_175 : decode cX10_takeRule 175 = .ok (.aload_n 0, 1) := by decide +kernel
theorem dX10_takeRule_176 : decode cX10_takeRule 176 = .ok (.dup, 1) := by decide +kernel
theorem dX10_takeRule_177 : decode cX10_takeRule 177 = .ok (.getfield 131, 3) := by decide +kernel
theorem dX10_takeRule_180 : decode cX10_takeRule 180 = .ok (.iconst 1, 1) := by decide +kernel
theorem dX10_takeRule_181 : decode cX10_takeRule 181 = .ok (.iadd, 1) := by decide +kernel
theorem dX10_takeRule_182 : decode cX10_takeRule 182 = .ok (.putfield 131, 3) := by decide +kernel
theorem dX10_takeRule_185 : decode cX10_takeRule 185 = .ok (.aload_n 0, 1) := by decide +kernel
theorem dX10_takeRule_186 : decode cX10_takeRule 186 = .ok (.getfield 28, 3) := by decide +kernel
theorem dX10_takeRule_189 : decode cX10_takeRule 189 = .ok (.aload_n 0, 1) := by decide +kernel
theorem dX10_takeRule_190 : decode cX10_takeRule 190 = .ok (.getfield 131, 3) := by decide +kernel
theorem dX10_takeRule_193 : decode cX10_takeRule 193 = .ok (.aload_n 0, 1) := by decide +kernel
theorem dX10_takeRule_194 : decode cX10_takeRule 194 = .ok (.getfield 134, 3) := by decide +kernel
theorem dX10_takeRule_197 : decode cX10_takeRule 197 = .ok (.iastore, 1) := by decide +kernel
theorem dX10_takeRule_198 : decode cX10_takeRule 198 = .ok (.goto 36, 3) := by decide +kernel
theorem dX10_takeRule_201 : decode cX10_takeRule 201 = .ok (.aload_n 0, 1) := by decide +kernel
theorem dX10_takeRule_202 : decode cX10_takeRule 202 = .ok (.getfield 31, 3) := by decide +kernel
theorem dX10_takeRule_205 : decode cX10_takeRule 205 = .ok (.aload_n 0, 1) := by decide +kernel
theorem dX10_takeRule_206 : decode cX10_takeRule 206 = .ok (.getfield 131, 3) := by decide +kernel
theorem dX10_takeRule_209 : decode cX10_takeRule 209 = .ok (.iconst 1, 1) := by decide +kernel
theorem dX10_takeRule_210 : decode cX10_takeRule 210 = .ok (.isub, 1) := by decide +kernel
theorem dX10_takeRule_211 : decode cX10_takeRule 211 = .ok (.bipush 10, 2) := by decide +kernel
theorem dX10_takeRule_213 : decode cX10_takeRule 213 = .ok (.aload_n 0, 1) := by decide +kernel
theorem dX10_takeRule_214 : decode cX10_takeRule 214 = .ok (.getfield 31, 3) := by decide +kernel
theorem dX10_takeRule_217 : decode cX10_takeRule 217 = .ok (.aload_n 0, 1) := by decide +kernel
theorem dX10_takeRule_218 : decode cX10_takeRule 218 = .ok (.getfield 131, 3) := by decide +kernel
theorem dX10_takeRule_221 : decode cX10_takeRule 221 = .ok (.iconst 1, 1) := by decide +kernel
theorem dX10_takeRule_222 : decode cX10_takeRule 222 = .ok (.isub, 1) := by decide +kernel
theorem dX10_takeRule_223 : decode cX10_takeRule 223 = .ok (.iaload, 1) := by decide +kernel
theorem dX10_takeRule_224 : decode cX10_takeRule 224 = .ok (.imul, 1) := by decide +kernel
theorem dX10_takeRule_225 : decode cX10_takeRule 225 = .ok (.iload_n 3, 1) := by decide +kernel
theorem dX10_takeRule_226 : decode cX10_takeRule 226 = .ok (.iadd, 1) := by decide +kernel
theorem dX10_takeRule_227 : decode cX10_takeRule 227 = .ok (.bipush 48, 2) := by decide +kernel
theorem dX10_takeRule_229 : decode cX10_takeRule 229 = .ok (.isub, 1) := by decide +kernel
theorem dX10_takeRule_230 : decode cX10_takeRule 230 = .ok (.iastore, 1) := by decide +kernel
theorem dX10_takeRule_231 : decode cX10_takeRule 231 = .ok (.goto 3, 3) := by decide +kernel
theorem dX10_takeRule_234 : decode cX10_takeRule 234 = .ok (.iinc 2 1, 3) := by decide +kernel
theorem dX10_takeRule_237 : decode cX10_takeRule 237 = .ok (.goto (-216), 3) := by decide +kernel
theorem dX10_takeRule_240 : decode cX10_takeRule 240 = .ok (.return_, 1) := by decide +kernel
theorem dX10_takeGrowth_0 : decode cX10_takeGrowth 0 = .ok (.aload_n 0, 1) := by decide +kernel
theorem dX10_takeGrowth_1 : decode cX10_takeGrowth 1 = .ok (.iconst 0, 1) := by decide +kernel
theorem dX10_takeGrowth_2 : decode cX10_takeGrowth 2 = .ok (.putfield 137, 3) := by decide +kernel
theorem dX10_takeGrowth_5 : decode cX10_takeGrowth 5 = .ok (.iconst 0, 1) := by decide +kernel
theorem dX10_takeGrowth_6 : decode cX10_takeGrowth 6 = .ok (.istore_n 1, 1) := by decide +kernel
theorem dX10_takeGrowth_7 : decode cX10_takeGrowth 7 = .ok (.iconst 0, 1) := by decide +kernel
theorem dX10_takeGrowth_8 : decode cX10_takeGrowth 8 = .ok (.istore_n 2, 1) := by decide +kernel
theorem dX10_takeGrowth_9 : decode cX10_takeGrowth 9 = .ok (.iload_n 2, 1) := by decide +kernel
theorem dX10_takeGrowth_10 : decode cX10_takeGrowth 10 = .ok (.aload_n 0, 1) := by decide +kernel
theorem dX10_takeGrowth_11 : decode cX10_takeGrowth 11 = .ok (.getfield 107, 3) := by decide +kernel
theorem dX10_takeGrowth_14 : decode cX10_takeGrowth 14 = .ok (.if_icmp .ge 104, 3) := by decide +kernel
theorem dX10_takeGrowth_17 : decode cX10_takeGrowth 17 = .ok (.aload_n 0, 1) := by decide +kernel
theorem dX10_takeGrowth_18 : decode cX10_takeGrowth 18 = .ok (.getfield 25, 3) := by decide +kernel
theorem dX10_takeGrowth_21 : decode cX10_takeGrowth 21 = .ok (.iload_n 2, 1) := by decide +kernel
theorem dX10_takeGrowth_22 : decode cX10_takeGrowth 22 = .ok (.iaload, 1) := by decide +kernel
theorem dX10_takeGrowth_23 : decode cX10_takeGrowth 23 = .ok (.bipush 48, 2) := by decide +kernel
theorem dX10_takeGrowth_25 : decode cX10_takeGrowth 25 = .ok (.isub, 1) := by decide +kernel
theorem dX10_takeGrowth_26 : decode cX10_takeGrowth 26 = .ok (.istore_n 3, 1) := by decide +kernel
theorem dX10_takeGrowth_27 : decode cX10_takeGrowth 27 = .ok (.iload_n 1, 1) := by decide +kernel
theorem dX10_takeGrowth_28 : decode cX10_takeGrowth 28 = .ok (.aload_n 0, 1) := by decide +kernel
theorem dX10_takeGrowth_29 : decode cX10_takeGrowth 29 = .ok (.getfield 25, 3) := by decide +kernel
theorem dX10_takeGrowth_32 : decode cX10_takeGrowth 32 = .ok (.iload_n 2, 1) := by decide +kernel
theorem dX10_takeGrowth_33 : decode cX10_takeGrowth 33 = .ok (.iaload, 1) := by decide +kernel
theorem dX10_takeGrowth_34 : decode cX10_takeGrowth 34 = .ok (.invokestatic 121, 3) := by decide +kernel
theorem dX10_takeGrowth_37 : decode cX10_takeGrowth 37 = .ok (.istore_n 1, 1) := by decide +kernel
theorem dX10_takeGrowth_38 : decode cX10_takeGrowth 38 = .ok (.iload_n 1, 1) := by decide +kernel
theorem dX10_takeGrowth_39 : decode cX10_takeGrowth 39 = .ok (.iconst 1, 1) := by decide +kernel
theorem dX10_takeGrowth_40 : decode cX10_takeGrowth 40 = .ok (.if_icmp .ne 16, 3) := by decide +kernel
theorem dX10_takeGrowth_43 : decode cX10_takeGrowth 43 = .ok (.aload_n 0, 1) := by decide +kernel
theorem dX10_takeGrowth_44 : decode cX10_takeGrowth 44 = .ok (.getfield 43, 3) := by decide +kernel
theorem dX10_takeGrowth_47 : decode cX10_takeGrowth 47 = .ok (.aload_n 0, 1) := by decide +kernel
theorem dX10_takeGrowth_48 : decode cX10_takeGrowth 48 = .ok (.getfield 137, 3) := by decide +kernel
theorem dX10_takeGrowth_51 : decode cX10_takeGrowth 51 = .ok (.iload_n 3, 1) := by decide +kernel
theorem dX10_takeGrowth_52 : decode cX10_takeGrowth 52 = .ok (.iastore, 1) := by decide +kernel
theorem dX10_takeGrowth_53 : decode cX10_takeGrowth 53 = .ok (.goto 59, 3) := by decide +kernel
theorem dX10_takeGrowth_56 : decode cX10_takeGrowth 56 = .ok (.iload_n 1, 1) := by decide +kernel
theorem dX10_takeGrowth_57 : decode cX10_takeGrowth 57 = .ok (.iconst 2, 1) := by decide +kernel
theorem dX10_takeGrowth_58 : decode cX10_takeGrowth 58 = .ok (.if_icmp .ne 29, 3) := by decide +kernel
theorem dX10_takeGrowth_61 : decode cX10_takeGrowth 61 = .ok (.aload_n 0, 1) := by decide +kernel
theorem dX10_takeGrowth_62 : decode cX10_takeGrowth 62 = .ok (.getfield 43, 3) := by decide +kernel
theorem dX10_takeGrowth_65 : decode cX10_takeGrowth 65 = .ok (.aload_n 0, 1) := by decide +kernel
theorem dX10_takeGrowth_66 : decode cX10_takeGrowth 66 = .ok (.getfield 137, 3) := by decide +kernel
theorem dX10_takeGrowth_69 : decode cX10_takeGrowth 69 = .ok (.bipush 10, 2) := by decide +kernel
theorem dX10_takeGrowth_71 : decode cX10_takeGrowth 71 = .ok (.aload_n 0, 1) := by decide +kernel
theorem dX10_takeGrowth_72 : decode cX10_takeGrowth 72 = .ok (.getfield 43, 3) := by decide +kernel
theorem dX10_takeGrowth_75 : decode cX10_takeGrowth 75 = .ok (.aload_n 0, 1) := by decide +kernel
theorem dX10_takeGrowth_76 : decode cX10_takeGrowth 76 = .ok (.getfield 137, 3) := by decide +kernel
theorem dX10_takeGrowth_79 : decode cX10_takeGrowth 79 = .ok (.iaload, 1) := by decide +kernel
theorem dX10_takeGrowth_80 : decode cX10_takeGrowth 80 = .ok (.imul, 1) := by decide +kernel
theorem dX10_takeGrowth_81 : decode cX10_takeGrowth 81 = .ok (.iload_n 3, 1) := by decide +kernel
theorem dX10_takeGrowth_82 : decode cX10_takeGrowth 82 = .ok (.iadd, 1) := by decide +kernel
theorem dX10_takeGrowth_83 : decode cX10_takeGrowth 83 = .ok (.iastore, 1) := by decide +kernel
theorem dX10_takeGrowth_84 : decode cX10_takeGrowth 84 = .ok (.goto 28, 3) := by decide +kernel
theorem dX10_takeGrowth_87 : decode cX10_takeGrowth 87 = .ok (.iload_n 1, 1) := by decide +kernel
theorem dX10_takeGrowth_88 : decode cX10_takeGrowth 88 = .ok (.iconst 4, 1) := by decide +kernel
theorem dX10_takeGrowth_89 : decode cX10_takeGrowth 89 = .ok (.if_icmp .ne 23, 3) := by decide +kernel
theorem dX10_takeGrowth_92 : decode cX10_takeGrowth 92 = .ok (.aload_n 0, 1) := by decide +kernel
theorem dX10_takeGrowth_93 : decode cX10_takeGrowth 93 = .ok (.getfield 46, 3) := by decide +kernel
theorem dX10_takeGrowth_96 : decode cX10_takeGrowth 96 = .ok (.aload_n 0, 1) := by decide +kernel
theorem dX10_takeGrowth_97 : decode cX10_takeGrowth 97 = .ok (.getfield 137, 3) := by decide +kernel
theorem dX10_takeGrowth_100 : decode cX10_takeGrowth 100 = .ok (.iload_n 3, 1) := by decide +kernel
theorem dX10_takeGrowth_101 : decode cX10_takeGrowth 101 = .ok (.iastore, 1) := by decide +kernel
theorem dX10_takeGrowth_102 : decode cX10_takeGrowth 102 = .ok (.aload_n 0, 1) := by decide +kernel
theorem dX10_takeGrowth_103 : decode cX10_takeGrowth 103 = .ok (.dup, 1) := by decide +kernel
theorem dX10_takeGrowth_104 : decode cX10_takeGrowth 104 = .ok (.getfield 137, 3) := by decide +kernel
theorem dX10_takeGrowth_107 : decode cX10_takeGrowth 107 = .ok (.iconst 1, 1) := by decide +kernel
theorem dX10_takeGrowth_108 : decode cX10_takeGrowth 108 = .ok (.iadd, 1) := by decide +kernel
theorem dX10_takeGrowth_109 : decode cX10_takeGrowth 109 = .ok (.putfield 137, 3) := by decide +kernel
theorem dX10_takeGrowth_112 : decode cX10_takeGrowth 112 = .ok (.iinc 2 1, 3) := by decide +kernel
theorem dX10_takeGrowth_115 : decode cX10_takeGrowth 115 = .ok (.goto (-106), 3) := by decide +kernel
theorem dX10_takeGrowth_118 : decode cX10_takeGrowth 118 = .ok (.return_, 1) := by decide +kernel
theorem dX10_take_0 : decode cX10_take 0 = .ok (.iload_n 1, 1) := by decide +kernel
theorem dX10_take_1 : decode cX10_take 1 = .ok (.invokestatic 124, 3) := by decide +kernel
theorem dX10_take_4 : decode cX10_take 4 = .ok (.ifCond .ne 6, 3) := by decide +kernel
theorem dX10_take_7 : decode cX10_take 7 = .ok (.bipush (-2), 2) := by decide +kernel
theorem dX10_take_9 : decode cX10_take 9 = .ok (.ireturn, 1) := by decide +kernel
theorem dX10_take_10 : decode cX10_take 10 = .ok (.aload_n 0, 1) := by decide +kernel
theorem dX10_take_11 : decode cX10_take 11 = .ok (.iload_n 1, 1) := by decide +kernel
theorem dX10_take_12 : decode cX10_take 12 = .ok (.invokevirtual 127, 3) := by decide +kernel
theorem dX10_take_15 : decode cX10_take 15 = .ok (.ifCond .lt 6, 3) := by decide +kernel
theorem dX10_take_18 : decode cX10_take 18 = .ok (.bipush (-5), 2) := by decide +kernel
theorem dX10_take_20 : decode cX10_take 20 = .ok (.ireturn, 1) := by decide +kernel
theorem dX10_take_21 : decode cX10_take 21 = .ok (.iload_n 1, 1) := by decide +kernel
theorem dX10_take_22 : decode cX10_take 22 = .ok (.ifCond .ne 10, 3) := by decide +kernel
theorem dX10_take_25 : decode cX10_take 25 = .ok (.aload_n 0, 1) := by decide +kernel
theorem dX10_take_26 : decode cX10_take 26 = .ok (.invokevirtual 140, 3) := by decide +kernel
theorem dX10_take_29 : decode cX10_take 29 = .ok (.goto 7, 3) := by decide +kernel
theorem dX10_take_32 : decode cX10_take 32 = .ok (.aload_n 0, 1) := by decide +kernel
theorem dX10_take_33 : decode cX10_take 33 = .ok (.invokevirtual 143, 3) := by decide +kernel
theorem dX10_take_36 : decode cX10_take 36 = .ok (.aload_n 0, 1) := by decide +kernel
theorem dX10_take_37 : decode cX10_take 37 = .ok (.iconst 0, 1) := by decide +kernel
theorem dX10_take_38 : decode cX10_take 38 = .ok (.putfield 107, 3) := by decide +kernel
theorem dX10_take_41 : decode cX10_take 41 = .ok (.iload_n 1, 1) := by decide +kernel
theorem dX10_take_42 : decode cX10_take 42 = .ok (.ifCond .ne 10, 3) := by decide +kernel
theorem dX10_take_45 : decode cX10_take 45 = .ok (.aload_n 0, 1) := by decide +kernel
theorem dX10_take_46 : decode cX10_take 46 = .ok (.getfield 131, 3) := by decide +kernel
theorem dX10_take_49 : decode cX10_take 49 = .ok (.goto 7, 3) := by decide +kernel
theorem dX10_take_52 : decode cX10_take 52 = .ok (.aload_n 0, 1) := by decide +kernel
theorem dX10_take_53 : decode cX10_take 53 = .ok (.getfield 137, 3) := by decide +kernel
theorem dX10_take_56 : decode cX10_take 56 = .ok (.ireturn, 1) := by decide +kernel
theorem dX10_lineOf_0 : decode cX10_lineOf 0 = .ok (.iconst 0, 1) := by decide +kernel
theorem dX10_lineOf_1 : decode cX10_lineOf 1 = .ok (.istore_n 2, 1) := by decide +kernel
theorem dX10_lineOf_2 : decode cX10_lineOf 2 = .ok (.iload_n 2, 1) := by decide +kernel
theorem dX10_lineOf_3 : decode cX10_lineOf 3 = .ok (.aload_n 0, 1) := by decide +kernel
theorem dX10_lineOf_4 : decode cX10_lineOf 4 = .ok (.getfield 131, 3) := by decide +kernel
theorem dX10_lineOf_7 : decode cX10_lineOf 7 = .ok (.if_icmp .ge 178, 3) := by decide +kernel
theorem dX10_lineOf_10 : decode cX10_lineOf 10 = .ok (.aload_n 0, 1) := by decide +kernel
theorem dX10_lineOf_11 : decode cX10_lineOf 11 = .ok (.getfield 19, 3) := by decide +kernel
theorem dX10_lineOf_14 : decode cX10_lineOf 14 = .ok (.iload_n 1, 1) := by decide +kernel
theorem dX10_lineOf_15 : decode cX10_lineOf 15 = .ok (.iaload, 1) := by decide +kernel
theorem dX10_lineOf_16 : decode cX10_lineOf 16 = .ok (.ifCond .ne 169, 3) := by decide +kernel
theorem dX10_lineOf_19 : decode cX10_lineOf 19 = .ok (.iconst 1, 1) := by decide +kernel
theorem dX10_lineOf_20 : decode cX10_lineOf 20 = .ok (.istore_n 3, 1) := by decide +kernel
theorem dX10_lineOf_21 : decode cX10_lineOf 21 = .ok (.aload_n 0, 1) := by decide +kernel
theorem dX10_lineOf_22 : decode cX10_lineOf 22 = .ok (.getfield 28, 3) := by decide +kernel
theorem dX10_lineOf_25 : decode cX10_lineOf 25 = .ok (.iload_n 2, 1) := by decide +kernel
theorem dX10_lineOf_26 : decode cX10_lineOf 26 = .ok (.iaload, 1) := by decide +kernel
theorem dX10_lineOf_27 : decode cX10_lineOf 27 = .ok (.istore 4, 2) := by decide +kernel
theorem dX10_lineOf_29 : decode cX10_lineOf 29 = .ok (.iload 4, 2) := by decide +kernel
theorem dX10_lineOf_31 : decode cX10_lineOf 31 = .ok (.aload_n 0, 1) := by decide +kernel
theorem dX10_lineOf_32 : decode cX10_lineOf 32 = .ok (.getfield 28, 3) := by decide +kernel
theorem dX10_lineOf_35 : decode cX10_lineOf 35 = .ok (.iload_n 2, 1) := by decide +kernel
theorem dX10_lineOf_36 : decode cX10_lineOf 36 = .ok (.iconst 1, 1) := by decide +kernel
theorem dX10_lineOf_37 : decode cX10_lineOf 37 = .ok (.iadd, 1) := by decide +kernel
theorem dX10_lineOf_38 : decode cX10_lineOf 38 = .ok (.iaload, 1) := by decide +kernel
theorem dX10_lineOf_39 : decode cX10_lineOf 39 = .ok (.if_icmp .ge 113, 3) := by decide +kernel
end
section
theorem dX10_lineOf_42 : decode cX10_lineOf 42 = .ok (.aload_n 0, 1) := by decide +kernel
theorem dX10_lineOf_43 : decode cX10_lineOf 43 = .ok (.getfield 34, 3) := by decide +kernel
theorem dX10_lineOf_46 : decode cX10_lineOf 46 = .ok (.iload 4, 2) := by decide +kernel
theorem dX10_lineOf_48 : decode cX10_lineOf 48 = .ok (.iaload, 1) := by decide +kernel
theorem dX10_lineOf_49 : decode cX10_lineOf 49 = .ok (.bipush 121, 2) := by decide +kernel
theorem dX10_lineOf_51 : decode cX10_lineOf 51 = .ok (.if_icmp .ne 12, 3) := by decide +kernel
theorem dX10_lineOf_54 : decode cX10_lineOf 54 = .ok (.aload_n 0, 1) := by decide +kernel
theorem dX10_lineOf_55 : decode cX10_lineOf 55 = .ok (.getfield 13, 3) := by decide +kernel
theorem dX10_lineOf_58 : decode cX10_lineOf 58 = .ok (.iload_n 1, 1) := by decide +kernel
theorem dX10_lineOf_59 : decode cX10_lineOf 59 = .ok (.iaload, 1) := by decide +kernel
theorem dX10_lineOf_60 : decode cX10_lineOf 60 = .ok (.goto 9, 3) := by decide +kernel
theorem dX10_lineOf_63 : decode cX10_lineOf 63 = .ok (.aload_n 0, 1) := by decide +kernel
theorem dX10_lineOf_64 : decode cX10_lineOf 64 = .ok (.getfield 16, 3) := by decide +kernel
theorem dX10_lineOf_67 : decode cX10_lineOf 67 = .ok (.iload_n 1, 1) := by decide +kernel
theorem dX10_lineOf_68 : decode cX10_lineOf 68 = .ok (.iaload, 1) := by decide +kernel
theorem dX10_lineOf_69 : decode cX10_lineOf 69 = .ok (.istore 5, 2) := by decide +kernel
theorem dX10_lineOf_71 : decode cX10_lineOf 71 = .ok (.aload_n 0, 1) := by decide +kernel
theorem dX10_lineOf_72 : decode cX10_lineOf 72 = .ok (.getfield 37, 3) := by decide +kernel
theorem dX10_lineOf_75 : decode cX10_lineOf 75 = .ok (.iload 4, 2) := by decide +kernel
theorem dX10_lineOf_77 : decode cX10_lineOf 77 = .ok (.iaload, 1) := by decide +kernel
theorem dX10_lineOf_78 : decode cX10_lineOf 78 = .ok (.istore 6, 2) := by decide +kernel
theorem dX10_lineOf_80 : decode cX10_lineOf 80 = .ok (.iload_n 3, 1) := by decide +kernel
theorem dX10_lineOf_81 : decode cX10_lineOf 81 = .ok (.ifCond .eq 63, 3) := by decide +kernel
theorem dX10_lineOf_84 : decode cX10_lineOf 84 = .ok (.iload 6, 2) := by decide +kernel
theorem dX10_lineOf_86 : decode cX10_lineOf 86 = .ok (.bipush 60, 2) := by decide +kernel
theorem dX10_lineOf_88 : decode cX10_lineOf 88 = .ok (.if_icmp .ne 18, 3) := by decide +kernel
theorem dX10_lineOf_91 : decode cX10_lineOf 91 = .ok (.iload 5, 2) := by decide +kernel
theorem dX10_lineOf_93 : decode cX10_lineOf 93 = .ok (.aload_n 0, 1) := by decide +kernel
theorem dX10_lineOf_94 : decode cX10_lineOf 94 = .ok (.getfield 40, 3) := by decide +kernel
theorem dX10_lineOf_97 : decode cX10_lineOf 97 = .ok (.iload 4, 2) := by decide +kernel
theorem dX10_lineOf_99 : decode cX10_lineOf 99 = .ok (.iaload, 1) := by decide +kernel
theorem dX10_lineOf_100 : decode cX10_lineOf 100 = .ok (.if_icmp .ge 44, 3) := by decide +kernel
theorem dX10_lineOf_103 : decode cX10_lineOf 103 = .ok (.goto 37, 3) := by decide +kernel
theorem dX10_lineOf_106 : decode cX10_lineOf 106 = .ok (.iload 6, 2) := by decide +kernel
theorem dX10_lineOf_108 : decode cX10_lineOf 108 = .ok (.bipush 62, 2) := by decide +kernel
theorem dX10_lineOf_110 : decode cX10_lineOf 110 = .ok (.if_icmp .ne 18, 3) := by decide +kernel
theorem dX10_lineOf_113 : decode cX10_lineOf 113 = .ok (.iload 5, 2) := by decide +kernel
theorem dX10_lineOf_115 : decode cX10_lineOf 115 = .ok (.aload_n 0, 1) := by decide +kernel
theorem dX10_lineOf_116 : decode cX10_lineOf 116 = .ok (.getfield 40, 3) := by decide +kernel
theorem dX10_lineOf_119 : decode cX10_lineOf 119 = .ok (.iload 4, 2) := by decide +kernel
theorem dX10_lineOf_121 : decode cX10_lineOf 121 = .ok (.iaload, 1) := by decide +kernel
theorem dX10_lineOf_122 : decode cX10_lineOf 122 = .ok (.if_icmp .le 22, 3) := by decide +kernel
theorem dX10_lineOf_125 : decode cX10_lineOf 125 = .ok (.goto 15, 3) := by decide +kernel
theorem dX10_lineOf_128 : decode cX10_lineOf 128 = .ok (.iload 5, 2) := by decide +kernel
theorem dX10_lineOf_130 : decode cX10_lineOf 130 = .ok (.aload_n 0, 1) := by decide +kernel
theorem dX10_lineOf_131 : decode cX10_lineOf 131 = .ok (.getfield 40, 3) := by decide +kernel
theorem dX10_lineOf_134 : decode cX10_lineOf 134 = .ok (.iload 4, 2) := by decide +kernel
theorem dX10_lineOf_136 : decode cX10_lineOf 136 = .ok (.iaload, 1) := by decide +kernel
theorem dX10_lineOf_137 : decode cX10_lineOf 137 = .ok (.if_icmp .ne 7, 3) := by decide +kernel
theorem dX10_lineOf_140 : decode cX10_lineOf 140 = .ok (.iconst 1, 1) := by decide +kernel
theorem dX10_lineOf_141 : decode cX10_lineOf 141 = .ok (.goto 4, 3) := by decide +kernel
theorem dX10_lineOf_144 : decode cX10_lineOf 144 = .ok (.iconst 0, 1) := by decide +kernel
theorem dX10_lineOf_145 : decode cX10_lineOf 145 = .ok (.istore_n 3, 1) := by decide +kernel
theorem dX10_lineOf_146 : decode cX10_lineOf 146 = .ok (.iinc 4 1, 3) := by decide +kernel
theorem dX10_lineOf_149 : decode cX10_lineOf 149 = .ok (.goto (-120), 3) := by decide +kernel
theorem dX10_lineOf_152 : decode cX10_lineOf 152 = .ok (.iload_n 3, 1) := by decide +kernel
theorem dX10_lineOf_153 : decode cX10_lineOf 153 = .ok (.ifCond .eq 26, 3) := by decide +kernel
theorem dX10_lineOf_156 : decode cX10_lineOf 156 = .ok (.aload_n 0, 1) := by decide +kernel
theorem dX10_lineOf_157 : decode cX10_lineOf 157 = .ok (.getfield 31, 3) := by decide +kernel
theorem dX10_lineOf_160 : decode cX10_lineOf 160 = .ok (.iload_n 2, 1) := by decide +kernel
theorem dX10_lineOf_161 : decode cX10_lineOf 161 = .ok (.iaload, 1) := by decide +kernel
theorem dX10_lineOf_162 : decode cX10_lineOf 162 = .ok (.bipush 63, 2) := by decide +kernel
theorem dX10_lineOf_164 : decode cX10_lineOf 164 = .ok (.if_icmp .le 8, 3) := by decide +kernel
theorem dX10_lineOf_167 : decode cX10_lineOf 167 = .ok (.bipush 63, 2) := by decide +kernel
theorem dX10_lineOf_169 : decode cX10_lineOf 169 = .ok (.goto 9, 3) := by decide +kernel
theorem dX10_lineOf_172 : decode cX10_lineOf 172 = .ok (.aload_n 0, 1) := by decide +kernel
theorem dX10_lineOf_173 : decode cX10_lineOf 173 = .ok (.getfield 31, 3) := by decide +kernel
theorem dX10_lineOf_176 : decode cX10_lineOf 176 = .ok (.iload_n 2, 1) := by decide +kernel
theorem dX10_lineOf_177 : decode cX10_lineOf 177 = .ok (.iaload, 1) := by decide +kernel
theorem dX10_lineOf_178 : decode cX10_lineOf 178 = .ok (.ireturn, 1) := by decide +kernel
theorem dX10_lineOf_179 : decode cX10_lineOf 179 = .ok (.iinc 2 1, 3) := by decide +kernel
theorem dX10_lineOf_182 : decode cX10_lineOf 182 = .ok (.goto (-180), 3) := by decide +kernel
theorem dX10_lineOf_185 : decode cX10_lineOf 185 = .ok (.iconst 0, 1) := by decide +kernel
theorem dX10_lineOf_186 : decode cX10_lineOf 186 = .ok (.ireturn, 1) := by decide +kernel
theorem dX10_line_0 : decode cX10_line 0 = .ok (.iload_n 1, 1) := by decide +kernel
theorem dX10_line_1 : decode cX10_line 1 = .ok (.invokestatic 76, 3) := by decide +kernel
theorem dX10_line_4 : decode cX10_line 4 = .ok (.ifCond .eq 11, 3) := by decide +kernel
theorem dX10_line_7 : decode cX10_line 7 = .ok (.aload_n 0, 1) := by decide +kernel
theorem dX10_line_8 : decode cX10_line 8 = .ok (.iload_n 1, 1) := by decide +kernel
theorem dX10_line_9 : decode cX10_line 9 = .ok (.invokevirtual 146, 3) := by decide +kernel
theorem dX10_line_12 : decode cX10_line 12 = .ok (.goto 4, 3) := by decide +kernel
theorem dX10_line_15 : decode cX10_line 15 = .ok (.iconst (-1), 1) := by decide +kernel
theorem dX10_line_16 : decode cX10_line 16 = .ok (.ireturn, 1) := by decide +kernel
theorem dX10_choose_0 : decode cX10_choose 0 = .ok (.iload_n 1, 1) := by decide +kernel
theorem dX10_choose_1 : decode cX10_choose 1 = .ok (.ifCond .lt 8, 3) := by decide +kernel
theorem dX10_choose_4 : decode cX10_choose 4 = .ok (.iload_n 1, 1) := by decide +kernel
theorem dX10_choose_5 : decode cX10_choose 5 = .ok (.iload_n 0, 1) := by decide +kernel
theorem dX10_choose_6 : decode cX10_choose 6 = .ok (.if_icmp .le 5, 3) := by decide +kernel
theorem dX10_choose_9 : decode cX10_choose 9 = .ok (.iconst 0, 1) := by decide +kernel
theorem dX10_choose_10 : decode cX10_choose 10 = .ok (.ireturn, 1) := by decide +kernel
theorem dX10_choose_11 : decode cX10_choose 11 = .ok (.iconst 1, 1) := by decide +kernel
theorem dX10_choose_12 : decode cX10_choose 12 = .ok (.istore_n 2, 1) := by decide +kernel
theorem dX10_choose_13 : decode cX10_choose 13 = .ok (.iconst 1, 1) := by decide +kernel
theorem dX10_choose_14 : decode cX10_choose 14 = .ok (.istore_n 3, 1) := by decide +kernel
theorem dX10_choose_15 : decode cX10_choose 15 = .ok (.iload_n 3, 1) := by decide +kernel
theorem dX10_choose_16 : decode cX10_choose 16 = .ok (.iload_n 1, 1) := by decide +kernel
theorem dX10_choose_17 : decode cX10_choose 17 = .ok (.if_icmp .gt 19, 3) := by decide +kernel
theorem dX10_choose_20 : decode cX10_choose 20 = .ok (.iload_n 2, 1) := by decide +kernel
theorem dX10_choose_21 : decode cX10_choose 21 = .ok (.iload_n 0, 1) := by decide +kernel
theorem dX10_choose_22 : decode cX10_choose 22 = .ok (.iload_n 1, 1) := by decide +kernel
theorem dX10_choose_23 : decode cX10_choose 23 = .ok (.isub, 1) := by decide +kernel
theorem dX10_choose_24 : decode cX10_choose 24 = .ok (.iload_n 3, 1) := by decide +kernel
theorem dX10_choose_25 : decode cX10_choose 25 = .ok (.iadd, 1) := by decide +kernel
theorem dX10_choose_26 : decode cX10_choose 26 = .ok (.imul, 1) := by decide +kernel
theorem dX10_choose_27 : decode cX10_choose 27 = .ok (.iload_n 3, 1) := by decide +kernel
theorem dX10_choose_28 : decode cX10_choose 28 = .ok (.idiv, 1) := by decide +kernel
theorem dX10_choose_29 : decode cX10_choose 29 = .ok (.istore_n 2, 1) := by decide +kernel
theorem dX10_choose_30 : decode cX10_choose 30 = .ok (.iinc 3 1, 3) := by decide +kernel
theorem dX10_choose_33 : decode cX10_choose 33 = .ok (.goto (-18), 3) := by decide +kernel
theorem dX10_choose_36 : decode cX10_choose 36 = .ok (.iload_n 2, 1) := by decide +kernel
theorem dX10_choose_37 : decode cX10_choose 37 = .ok (.ireturn, 1) := by decide +kernel
theorem dX10_humpOf_0 : decode cX10_humpOf 0 = .ok (.iload_n 2, 1) := by decide +kernel
theorem dX10_humpOf_1 : decode cX10_humpOf 1 = .ok (.invokestatic 80, 3) := by decide +kernel
theorem dX10_humpOf_4 : decode cX10_humpOf 4 = .ok (.ifCond .eq 17, 3) := by decide +kernel
theorem dX10_humpOf_7 : decode cX10_humpOf 7 = .ok (.iconst 2, 1) := by decide +kernel
theorem dX10_humpOf_8 : decode cX10_humpOf 8 = .ok (.iload_n 1, 1) := by decide +kernel
theorem dX10_humpOf_9 : decode cX10_humpOf 9 = .ok (.imul, 1) := by decide +kernel
theorem dX10_humpOf_10 : decode cX10_humpOf 10 = .ok (.iload_n 2, 1) := by decide +kernel
theorem dX10_humpOf_11 : decode cX10_humpOf 11 = .ok (.iload_n 0, 1) := by decide +kernel
theorem dX10_humpOf_12 : decode cX10_humpOf 12 = .ok (.isub, 1) := by decide +kernel
theorem dX10_humpOf_13 : decode cX10_humpOf 13 = .ok (.iload_n 1, 1) := by decide +kernel
theorem dX10_humpOf_14 : decode cX10_humpOf 14 = .ok (.iadd, 1) := by decide +kernel
theorem dX10_humpOf_15 : decode cX10_humpOf 15 = .ok (.invokestatic 149, 3) := by decide +kernel
theorem dX10_humpOf_18 : decode cX10_humpOf 18 = .ok (.goto 4, 3) := by decide +kernel
theorem dX10_humpOf_21 : decode cX10_humpOf 21 = .ok (.iconst 0, 1) := by decide +kernel
theorem dX10_humpOf_22 : decode cX10_humpOf 22 = .ok (.ireturn, 1) := by decide +kernel
theorem dX10_hump_0 : decode cX10_hump 0 = .ok (.iload_n 1, 1) := by decide +kernel
theorem dX10_hump_1 : decode cX10_hump 1 = .ok (.invokestatic 80, 3) := by decide +kernel
theorem dX10_hump_4 : decode cX10_hump 4 = .ok (.ifCond .eq 26, 3) := by decide +kernel
theorem dX10_hump_7 : decode cX10_hump 7 = .ok (.iload_n 2, 1) := by decide +kernel
theorem dX10_hump_8 : decode cX10_hump 8 = .ok (.invokestatic 152, 3) := by decide +kernel
theorem dX10_hump_11 : decode cX10_hump 11 = .ok (.ifCond .eq 19, 3) := by decide +kernel
theorem dX10_hump_14 : decode cX10_hump 14 = .ok (.iload_n 3, 1) := by decide +kernel
theorem dX10_hump_15 : decode cX10_hump 15 = .ok (.invokestatic 80, 3) := by decide +kernel
theorem dX10_hump_18 : decode cX10_hump 18 = .ok (.ifCond .eq 12, 3) := by decide +kernel
theorem dX10_hump_21 : decode cX10_hump 21 = .ok (.iload_n 1, 1) := by decide +kernel
theorem dX10_hump_22 : decode cX10_hump 22 = .ok (.iload_n 2, 1) := by decide +kernel
theorem dX10_hump_23 : decode cX10_hump 23 = .ok (.iload_n 3, 1) := by decide +kernel
theorem dX10_hump_24 : decode cX10_hump 24 = .ok (.invokestatic 155, 3) := by decide +kernel
theorem dX10_hump_27 : decode cX10_hump 27 = .ok (.goto 5, 3) := by decide +kernel
theorem dX10_hump_30 : decode cX10_hump 30 = .ok (.bipush (-2), 2) := by decide +kernel
theorem dX10_hump_32 : decode cX10_hump 32 = .ok (.ireturn, 1) := by decide +kernel
theorem dX10_upper_0 : decode cX10_upper 0 = .ok (.iload_n 1, 1) := by decide +kernel
theorem dX10_upper_1 : decode cX10_upper 1 = .ok (.invokestatic 80, 3) := by decide +kernel
theorem dX10_upper_4 : decode cX10_upper 4 = .ok (.ifCond .eq 33, 3) := by decide +kernel
theorem dX10_upper_7 : decode cX10_upper 7 = .ok (.iload_n 2, 1) := by decide +kernel
theorem dX10_upper_8 : decode cX10_upper 8 = .ok (.invokestatic 152, 3) := by decide +kernel
theorem dX10_upper_11 : decode cX10_upper 11 = .ok (.ifCond .eq 26, 3) := by decide +kernel
theorem dX10_upper_14 : decode cX10_upper 14 = .ok (.iload_n 3, 1) := by decide +kernel
theorem dX10_upper_15 : decode cX10_upper 15 = .ok (.invokestatic 80, 3) := by decide +kernel
theorem dX10_upper_18 : decode cX10_upper 18 = .ok (.ifCond .eq 19, 3) := by decide +kernel
theorem dX10_upper_21 : decode cX10_upper 21 = .ok (.iload 4, 2) := by decide +kernel
theorem dX10_upper_23 : decode cX10_upper 23 = .ok (.invokestatic 124, 3) := by decide +kernel
theorem dX10_upper_26 : decode cX10_upper 26 = .ok (.ifCond .eq 11, 3) := by decide +kernel
theorem dX10_upper_29 : decode cX10_upper 29 = .ok (.iload 5, 2) := by decide +kernel
theorem dX10_upper_31 : decode cX10_upper 31 = .ok (.invokestatic 124, 3) := by decide +kernel
theorem dX10_upper_34 : decode cX10_upper 34 = .ok (.ifCond .ne 7, 3) := by decide +kernel
theorem dX10_upper_37 : decode cX10_upper 37 = .ok (.ldc2_w 159, 3) := by decide +kernel
theorem dX10_upper_40 : decode cX10_upper 40 = .ok (.lreturn, 1) := by decide +kernel
theorem dX10_upper_41 : decode cX10_upper 41 = .ok (.lconst 0, 1) := by decide +kernel
theorem dX10_upper_42 : decode cX10_upper 42 = .ok (.lstore 6, 2) := by decide +kernel
theorem dX10_upper_44 : decode cX10_upper 44 = .ok (.lconst 0, 1) := by decide +kernel
theorem dX10_upper_45 : decode cX10_upper 45 = .ok (.lstore 8, 2) := by decide +kernel
theorem dX10_upper_47 : decode cX10_upper 47 = .ok (.lconst 0, 1) := by decide +kernel
theorem dX10_upper_48 : decode cX10_upper 48 = .ok (.lstore 10, 2) := by decide +kernel
theorem dX10_upper_50 : decode cX10_upper 50 = .ok (.iconst 0, 1) := by decide +kernel
theorem dX10_upper_51 : decode cX10_upper 51 = .ok (.istore 12, 2) := by decide +kernel
theorem dX10_upper_53 : decode cX10_upper 53 = .ok (.iload 12, 2) := by decide +kernel
theorem dX10_upper_55 : decode cX10_upper 55 = .ok (.bipush 64, 2) := by decide +kernel
theorem dX10_upper_57 : decode cX10_upper 57 = .ok (.if_icmp .ge 65, 3) := by decide +kernel
theorem dX10_upper_60 : decode cX10_upper 60 = .ok (.iload_n 1, 1) := by decide +kernel
theorem dX10_upper_61 : decode cX10_upper 61 = .ok (.iload_n 2, 1) := by decide +kernel
theorem dX10_upper_62 : decode cX10_upper 62 = .ok (.iload 12, 2) := by decide +kernel
theorem dX10_upper_64 : decode cX10_upper 64 = .ok (.invokestatic 155, 3) := by decide +kernel
theorem dX10_upper_67 : decode cX10_upper 67 = .ok (.istore 13, 2) := by decide +kernel
theorem dX10_upper_69 : decode cX10_upper 69 = .ok (.lload 6, 2) := by decide +kernel
theorem dX10_upper_71 : decode cX10_upper 71 = .ok (.iload 13, 2) := by decide +kernel
theorem dX10_upper_73 : decode cX10_upper 73 = .ok (.i2l, 1) := by decide +kernel
theorem dX10_upper_74 : decode cX10_upper 74 = .ok (.ladd, 1) := by decide +kernel
theorem dX10_upper_75 : decode cX10_upper 75 = .ok (.lstore 6, 2) := by decide +kernel
theorem dX10_upper_77 : decode cX10_upper 77 = .ok (.lload 8, 2) := by decide +kernel
theorem dX10_upper_79 : decode cX10_upper 79 = .ok (.iload 12, 2) := by decide +kernel
theorem dX10_upper_81 : decode cX10_upper 81 = .ok (.iload_n 3, 1) := by decide +kernel
theorem dX10_upper_82 : decode cX10_upper 82 = .ok (.if_icmp .lt 9, 3) := by decide +kernel
theorem dX10_upper_85 : decode cX10_upper 85 = .ok (.iload 13, 2) := by decide +kernel
theorem dX10_upper_87 : decode cX10_upper 87 = .ok (.i2l, 1) := by decide +kernel
theorem dX10_upper_88 : decode cX10_upper 88 = .ok (.goto 4, 3) := by decide +kernel
theorem dX10_upper_91 : decode cX10_upper 91 = .ok (.lconst 0, 1) := by decide +kernel
theorem dX10_upper_92 : decode cX10_upper 92 = .ok (.ladd, 1) := by decide +kernel
theorem dX10_upper_93 : decode cX10_upper 93 = .ok (.lstore 8, 2) := by decide +kernel
theorem dX10_upper_95 : decode cX10_upper 95 = .ok (.lload 10, 2) := by decide +kernel
theorem dX10_upper_97 : decode cX10_upper 97 = .ok (.iload 12, 2) := by decide +kernel
theorem dX10_upper_99 : decode cX10_upper 99 = .ok (.iload_n 3, 1) := by decide +kernel
theorem dX10_upper_100 : decode cX10_upper 100 = .ok (.if_icmp .lt 12, 3) := by decide +kernel
theorem dX10_upper_103 : decode cX10_upper 103 = .ok (.iload 12, 2) := by decide +kernel
theorem dX10_upper_105 : decode cX10_upper 105 = .ok (.iload 13, 2) := by decide +kernel
theorem dX10_upper_107 : decode cX10_upper 107 = .ok (.imul, 1) := by decide +kernel
theorem dX10_upper_108 : decode cX10_upper 108 = .ok (.i2l, 1) := by decide +kernel
theorem dX10_upper_109 : decode cX10_upper 109 = .ok (.goto 4, 3) := by decide +kernel
theorem dX10_upper_112 : decode cX10_upper 112 = .ok (.lconst 0, 1) := by decide +kernel
theorem dX10_upper_113 : decode cX10_upper 113 = .ok (.ladd, 1) := by decide +kernel
theorem dX10_upper_114 : decode cX10_upper 114 = .ok (.lstore 10, 2) := by decide +kernel
theorem dX10_upper_116 : decode cX10_upper 116 = .ok (.iinc 12 1, 3) := by decide +kernel
theorem dX10_upper_119 : decode cX10_upper 119 = .ok (.goto (-66), 3) := by decide +kernel
theorem dX10_upper_122 : decode cX10_upper 122 = .ok (.iload 4, 2) := by decide +kernel
theorem dX10_upper_124 : decode cX10_upper 124 = .ok (.ifCond .ne 15, 3) := by decide +kernel
theorem dX10_upper_127 : decode cX10_upper 127 = .ok (.lload 8, 2) := by decide +kernel
theorem dX10_upper_129 : decode cX10_upper 129 = .ok (.lload 6, 2) := by decide +kernel
theorem dX10_upper_131 : decode cX10_upper 131 = .ok (.iload 5, 2) := by decide +kernel
theorem dX10_upper_133 : decode cX10_upper 133 = .ok (.invokestatic 161, 3) := by decide +kernel
theorem dX10_upper_136 : decode cX10_upper 136 = .ok (.goto 12, 3) := by decide +kernel
theorem dX10_upper_139 : decode cX10_upper 139 = .ok (.lload 10, 2) := by decide +kernel
theorem dX10_upper_141 : decode cX10_upper 141 = .ok (.lload 8, 2) := by decide +kernel
theorem dX10_upper_143 : decode cX10_upper 143 = .ok (.iload 5, 2) := by decide +kernel
theorem dX10_upper_145 : decode cX10_upper 145 = .ok (.invokestatic 161, 3) := by decide +kernel
theorem dX10_upper_148 : decode cX10_upper 148 = .ok (.lreturn, 1) := by decide +kernel
theorem dX10_findChosen_0 : decode cX10_findChosen 0 = .ok (.iconst 0, 1) := by decide +kernel
theorem dX10_findChosen_1 : decode cX10_findChosen 1 = .ok (.istore_n 2, 1) := by decide +kernel
theorem dX10_findChosen_2 : decode cX10_findChosen 2 = .ok (.iload_n 2, 1) := by decide +kernel
theorem dX10_findChosen_3 : decode cX10_findChosen 3 = .ok (.iconst 2, 1) := by decide +kernel
theorem dX10_findChosen_4 : decode cX10_findChosen 4 = .ok (.iload_n 1, 1) := by decide +kernel
theorem dX10_findChosen_5 : decode cX10_findChosen 5 = .ok (.imul, 1) := by decide +kernel
theorem dX10_findChosen_6 : decode cX10_findChosen 6 = .ok (.if_icmp .gt 22, 3) := by decide +kernel
theorem dX10_findChosen_9 : decode cX10_findChosen 9 = .ok (.aload_n 0, 1) := by decide +kernel
theorem dX10_findChosen_10 : decode cX10_findChosen 10 = .ok (.getfield 49, 3) := by decide +kernel
theorem dX10_findChosen_13 : decode cX10_findChosen 13 = .ok (.iload_n 2, 1) := by decide +kernel
theorem dX10_findChosen_14 : decode cX10_findChosen 14 = .ok (.iconst 2, 1) := by decide +kernel
theorem dX10_findChosen_15 : decode cX10_findChosen 15 = .ok (.iload_n 1, 1) := by decide +kernel
theorem dX10_findChosen_16 : decode cX10_findChosen 16 = .ok (.imul, 1) := by decide +kernel
theorem dX10_findChosen_17 : decode cX10_findChosen 17 = .ok (.iload_n 2, 1) := by decide +kernel
theorem dX10_findChosen_18 : decode cX10_findChosen 18 = .ok (.invokestatic 149, 3) := by decide +kernel
theorem dX10_findChosen_21 : decode cX10_findChosen 21 = .ok (.iastore, 1) := by decide +kernel
theorem dX10_findChosen_22 : decode cX10_findChosen 22 = .ok (.iinc 2 1, 3) := by decide +kernel
theorem dX10_findChosen_25 : decode cX10_findChosen 25 = .ok (.goto (-23), 3) := by decide +kernel
theorem dX10_findChosen_28 : decode cX10_findChosen 28 = .ok (.return_, 1) := by decide +kernel
theorem dX10_misfitOf_0 : decode cX10_misfitOf 0 = .ok (.lconst 0, 1) := by decide +kernel
theorem dX10_misfitOf_1 : decode cX10_misfitOf 1 = .ok (.lstore 6, 2) := by decide +kernel
theorem dX10_misfitOf_3 : decode cX10_misfitOf 3 = .ok (.iconst 0, 1) := by decide +kernel
theorem dX10_misfitOf_4 : decode cX10_misfitOf 4 = .ok (.istore 8, 2) := by decide +kernel
theorem dX10_misfitOf_6 : decode cX10_misfitOf 6 = .ok (.iload 8, 2) := by decide +kernel
theorem dX10_misfitOf_8 : decode cX10_misfitOf 8 = .ok (.iconst 2, 1) := by decide +kernel
theorem dX10_misfitOf_9 : decode cX10_misfitOf 9 = .ok (.iload 4, 2) := by decide +kernel
theorem dX10_misfitOf_11 : decode cX10_misfitOf 11 = .ok (.imul, 1) := by decide +kernel
theorem dX10_misfitOf_12 : decode cX10_misfitOf 12 = .ok (.if_icmp .gt 62, 3) := by decide +kernel
theorem dX10_misfitOf_15 : decode cX10_misfitOf 15 = .ok (.iload_n 3, 1) := by decide +kernel
theorem dX10_misfitOf_16 : decode cX10_misfitOf 16 = .ok (.iload 4, 2) := by decide +kernel
theorem dX10_misfitOf_18 : decode cX10_misfitOf 18 = .ok (.isub, 1) := by decide +kernel
theorem dX10_misfitOf_19 : decode cX10_misfitOf 19 = .ok (.iload 8, 2) := by decide +kernel
theorem dX10_misfitOf_21 : decode cX10_misfitOf 21 = .ok (.iadd, 1) := by decide +kernel
theorem dX10_misfitOf_22 : decode cX10_misfitOf 22 = .ok (.istore 9, 2) := by decide +kernel
theorem dX10_misfitOf_24 : decode cX10_misfitOf 24 = .ok (.lload 6, 2) := by decide +kernel
theorem dX10_misfitOf_26 : decode cX10_misfitOf 26 = .ok (.iload 9, 2) := by decide +kernel
theorem dX10_misfitOf_28 : decode cX10_misfitOf 28 = .ok (.invokestatic 80, 3) := by decide +kernel
theorem dX10_misfitOf_31 : decode cX10_misfitOf 31 = .ok (.ifCond .ne 7, 3) := by decide +kernel
theorem dX10_misfitOf_34 : decode cX10_misfitOf 34 = .ok (.lconst 0, 1) := by decide +kernel
theorem dX10_misfitOf_35 : decode cX10_misfitOf 35 = .ok (.goto 30, 3) := by decide +kernel
theorem dX10_misfitOf_38 : decode cX10_misfitOf 38 = .ok (.aload_n 0, 1) := by decide +kernel
theorem dX10_misfitOf_39 : decode cX10_misfitOf 39 = .ok (.getfield 49, 3) := by decide +kernel
theorem dX10_misfitOf_42 : decode cX10_misfitOf 42 = .ok (.iload 8, 2) := by decide +kernel
theorem dX10_misfitOf_44 : decode cX10_misfitOf 44 = .ok (.iaload, 1) := by decide +kernel
theorem dX10_misfitOf_45 : decode cX10_misfitOf 45 = .ok (.iload 9, 2) := by decide +kernel
theorem dX10_misfitOf_47 : decode cX10_misfitOf 47 = .ok (.iload 5, 2) := by decide +kernel
theorem dX10_misfitOf_49 : decode cX10_misfitOf 49 = .ok (.if_icmp .lt 8, 3) := by decide +kernel
theorem dX10_misfitOf_52 : decode cX10_misfitOf 52 = .ok (.bipush 10, 2) := by decide +kernel
theorem dX10_misfitOf_54 : decode cX10_misfitOf 54 = .ok (.goto 9, 3) := by decide +kernel
theorem dX10_misfitOf_57 : decode cX10_misfitOf 57 = .ok (.aload_n 0, 1) := by decide +kernel
theorem dX10_misfitOf_58 : decode cX10_misfitOf 58 = .ok (.getfield 22, 3) := by decide +kernel
theorem dX10_misfitOf_61 : decode cX10_misfitOf 61 = .ok (.iconst 0, 1) := by decide +kernel
theorem dX10_misfitOf_62 : decode cX10_misfitOf 62 = .ok (.iaload, 1) := by decide +kernel
theorem dX10_misfitOf_63 : decode cX10_misfitOf 63 = .ok (.imul, 1) := by decide +kernel
theorem dX10_misfitOf_64 : decode cX10_misfitOf 64 = .ok (.i2l, 1) := by decide +kernel
theorem dX10_misfitOf_65 : decode cX10_misfitOf 65 = .ok (.ladd, 1) := by decide +kernel
theorem dX10_misfitOf_66 : decode cX10_misfitOf 66 = .ok (.lstore 6, 2) := by decide +kernel
theorem dX10_misfitOf_68 : decode cX10_misfitOf 68 = .ok (.iinc 8 1, 3) := by decide +kernel
theorem dX10_misfitOf_71 : decode cX10_misfitOf 71 = .ok (.goto (-65), 3) := by decide +kernel
theorem dX10_misfitOf_74 : decode cX10_misfitOf 74 = .ok (.lload 6, 2) := by decide +kernel
theorem dX10_misfitOf_76 : decode cX10_misfitOf 76 = .ok (.lconst 0, 1) := by decide +kernel
theorem dX10_misfitOf_77 : decode cX10_misfitOf 77 = .ok (.lcmp, 1) := by decide +kernel
theorem dX10_misfitOf_78 : decode cX10_misfitOf 78 = .ok (.ifCond .ne 6, 3) := by decide +kernel
theorem dX10_misfitOf_81 : decode cX10_misfitOf 81 = .ok (.bipush (-5), 2) := by decide +kernel
theorem dX10_misfitOf_83 : decode cX10_misfitOf 83 = .ok (.ireturn, 1) := by decide +kernel
theorem dX10_misfitOf_84 : decode cX10_misfitOf 84 = .ok (.iload_n 2, 1) := by decide +kernel
theorem dX10_misfitOf_85 : decode cX10_misfitOf 85 = .ok (.istore 8, 2) := by decide +kernel
theorem dX10_misfitOf_87 : decode cX10_misfitOf 87 = .ok (.iconst 0, 1) := by decide +kernel
theorem dX10_misfitOf_88 : decode cX10_misfitOf 88 = .ok (.istore 9, 2) := by decide +kernel
theorem dX10_misfitOf_90 : decode cX10_misfitOf 90 = .ok (.iload 9, 2) := by decide +kernel
theorem dX10_misfitOf_92 : decode cX10_misfitOf 92 = .ok (.iconst 2, 1) := by decide +kernel
theorem dX10_misfitOf_93 : decode cX10_misfitOf 93 = .ok (.iload 4, 2) := by decide +kernel
theorem dX10_misfitOf_95 : decode cX10_misfitOf 95 = .ok (.imul, 1) := by decide +kernel
theorem dX10_misfitOf_96 : decode cX10_misfitOf 96 = .ok (.if_icmp .gt 90, 3) := by decide +kernel
theorem dX10_misfitOf_99 : decode cX10_misfitOf 99 = .ok (.iload_n 3, 1) := by decide +kernel
theorem dX10_misfitOf_100 : decode cX10_misfitOf 100 = .ok (.iload 4, 2) := by decide +kernel
theorem dX10_misfitOf_102 : decode cX10_misfitOf 102 = .ok (.isub, 1) := by decide +kernel
theorem dX10_misfitOf_103 : decode cX10_misfitOf 103 = .ok (.iload 9, 2) := by decide +kernel
theorem dX10_misfitOf_105 : decode cX10_misfitOf 105 = .ok (.iadd, 1) := by decide +kernel
theorem dX10_misfitOf_106 : decode cX10_misfitOf 106 = .ok (.istore 10, 2) := by decide +kernel
theorem dX10_misfitOf_108 : decode cX10_misfitOf 108 = .ok (.iload 10, 2) := by decide +kernel
theorem dX10_misfitOf_110 : decode cX10_misfitOf 110 = .ok (.invokestatic 80, 3) := by decide +kernel
theorem dX10_misfitOf_113 : decode cX10_misfitOf 113 = .ok (.ifCond .eq 67, 3) := by decide +kernel
theorem dX10_misfitOf_116 : decode cX10_misfitOf 116 = .ok (.aload_n 0, 1) := by decide +kernel
theorem dX10_misfitOf_117 : decode cX10_misfitOf 117 = .ok (.getfield 7, 3) := by decide +kernel
theorem dX10_misfitOf_120 : decode cX10_misfitOf 120 = .ok (.iload_n 1, 1) := by decide +kernel
theorem dX10_misfitOf_121 : decode cX10_misfitOf 121 = .ok (.iload 10, 2) := by decide +kernel
theorem dX10_misfitOf_123 : decode cX10_misfitOf 123 = .ok (.invokestatic 85, 3) := by decide +kernel
theorem dX10_misfitOf_126 : decode cX10_misfitOf 126 = .ok (.iaload, 1) := by decide +kernel
theorem dX10_misfitOf_127 : decode cX10_misfitOf 127 = .ok (.istore 11, 2) := by decide +kernel
theorem dX10_misfitOf_129 : decode cX10_misfitOf 129 = .ok (.iload_n 2, 1) := by decide +kernel
theorem dX10_misfitOf_130 : decode cX10_misfitOf 130 = .ok (.i2l, 1) := by decide +kernel
theorem dX10_misfitOf_131 : decode cX10_misfitOf 131 = .ok (.aload_n 0, 1) := by decide +kernel
theorem dX10_misfitOf_132 : decode cX10_misfitOf 132 = .ok (.getfield 49, 3) := by decide +kernel
theorem dX10_misfitOf_135 : decode cX10_misfitOf 135 = .ok (.iload 9, 2) := by decide +kernel
theorem dX10_misfitOf_137 : decode cX10_misfitOf 137 = .ok (.iaload, 1) := by decide +kernel
theorem dX10_misfitOf_138 : decode cX10_misfitOf 138 = .ok (.iload 10, 2) := by decide +kernel
theorem dX10_misfitOf_140 : decode cX10_misfitOf 140 = .ok (.iload 5, 2) := by decide +kernel
theorem dX10_misfitOf_142 : decode cX10_misfitOf 142 = .ok (.if_icmp .lt 8, 3) := by decide +kernel
theorem dX10_misfitOf_145 : decode cX10_misfitOf 145 = .ok (.bipush 10, 2) := by decide +kernel
theorem dX10_misfitOf_147 : decode cX10_misfitOf 147 = .ok (.goto 9, 3) := by decide +kernel
theorem dX10_misfitOf_150 : decode cX10_misfitOf 150 = .ok (.aload_n 0, 1) := by decide +kernel
theorem dX10_misfitOf_151 : decode cX10_misfitOf 151 = .ok (.getfield 22, 3) := by decide +kernel
theorem dX10_misfitOf_154 : decode cX10_misfitOf 154 = .ok (.iconst 0, 1) := by decide +kernel
theorem dX10_misfitOf_155 : decode cX10_misfitOf 155 = .ok (.iaload, 1) := by decide +kernel
theorem dX10_misfitOf_156 : decode cX10_misfitOf 156 = .ok (.imul, 1) := by decide +kernel
theorem dX10_misfitOf_157 : decode cX10_misfitOf 157 = .ok (.i2l, 1) := by decide +kernel
theorem dX10_misfitOf_158 : decode cX10_misfitOf 158 = .ok (.lmul, 1) := by decide +kernel
theorem dX10_misfitOf_159 : decode cX10_misfitOf 159 = .ok (.lload 6, 2) := by decide +kernel
theorem dX10_misfitOf_161 : decode cX10_misfitOf 161 = .ok (.ldiv, 1) := by decide +kernel
theorem dX10_misfitOf_162 : decode cX10_misfitOf 162 = .ok (.lstore 12, 2) := by decide +kernel
theorem dX10_misfitOf_164 : decode cX10_misfitOf 164 = .ok (.iload 8, 2) := by decide +kernel
theorem dX10_misfitOf_166 : decode cX10_misfitOf 166 = .ok (.iload 11, 2) := by decide +kernel
theorem dX10_misfitOf_168 : decode cX10_misfitOf 168 = .ok (.lload 12, 2) := by decide +kernel
theorem dX10_misfitOf_170 : decode cX10_misfitOf 170 = .ok (.l2i, 1) := by decide +kernel
theorem dX10_misfitOf_171 : decode cX10_misfitOf 171 = .ok (.invokestatic 165, 3) := by decide +kernel
theorem dX10_misfitOf_174 : decode cX10_misfitOf 174 = .ok (.iload 11, 2) := by decide +kernel
theorem dX10_misfitOf_176 : decode cX10_misfitOf 176 = .ok (.isub, 1) := by decide +kernel
theorem dX10_misfitOf_177 : decode cX10_misfitOf 177 = .ok (.iadd, 1) := by decide +kernel
theorem dX10_misfitOf_178 : decode cX10_misfitOf 178 = .ok (.istore 8, 2) := by decide +kernel
theorem dX10_misfitOf_180 : decode cX10_misfitOf 180 = .ok (.iinc 9 1, 3) := by decide +kernel
theorem dX10_misfitOf_183 : decode cX10_misfitOf 183 = .ok (.goto (-93), 3) := by decide +kernel
theorem dX10_misfitOf_186 : decode cX10_misfitOf 186 = .ok (.iload 8, 2) := by decide +kernel
theorem dX10_misfitOf_188 : decode cX10_misfitOf 188 = .ok (.ireturn, 1) := by decide +kernel
theorem dX10_misfit_0 : decode cX10_misfit 0 = .ok (.iload_n 1, 1) := by decide +kernel
theorem dX10_misfit_1 : decode cX10_misfit 1 = .ok (.invokestatic 76, 3) := by decide +kernel
theorem dX10_misfit_4 : decode cX10_misfit 4 = .ok (.ifCond .ne 5, 3) := by decide +kernel
theorem dX10_misfit_7 : decode cX10_misfit 7 = .ok (.iconst (-1), 1) := by decide +kernel
theorem dX10_misfit_8 : decode cX10_misfit 8 = .ok (.ireturn, 1) := by decide +kernel
theorem dX10_misfit_9 : decode cX10_misfit 9 = .ok (.iload_n 2, 1) := by decide +kernel
theorem dX10_misfit_10 : decode cX10_misfit 10 = .ok (.invokestatic 80, 3) := by decide +kernel
theorem dX10_misfit_13 : decode cX10_misfit 13 = .ok (.ifCond .eq 18, 3) := by decide +kernel
theorem dX10_misfit_16 : decode cX10_misfit 16 = .ok (.iload_n 3, 1) := by decide +kernel
theorem dX10_misfit_17 : decode cX10_misfit 17 = .ok (.invokestatic 152, 3) := by decide +kernel
theorem dX10_misfit_20 : decode cX10_misfit 20 = .ok (.ifCond .eq 11, 3) := by decide +kernel
theorem dX10_misfit_23 : decode cX10_misfit 23 = .ok (.iload 4, 2) := by decide +kernel
theorem dX10_misfit_25 : decode cX10_misfit 25 = .ok (.invokestatic 80, 3) := by decide +kernel
theorem dX10_misfit_28 : decode cX10_misfit 28 = .ok (.ifCond .ne 6, 3) := by decide +kernel
theorem dX10_misfit_31 : decode cX10_misfit 31 = .ok (.bipush (-2), 2) := by decide +kernel
theorem dX10_misfit_33 : decode cX10_misfit 33 = .ok (.ireturn, 1) := by decide +kernel
theorem dX10_misfit_34 : decode cX10_misfit 34 = .ok (.aload_n 0, 1) := by decide +kernel
theorem dX10_misfit_35 : decode cX10_misfit 35 = .ok (.iload_n 3, 1) := by decide +kernel
theorem dX10_misfit_36 : decode cX10_misfit 36 = .ok (.invokevirtual 168, 3) := by decide +kernel
theorem dX10_misfit_39 : decode cX10_misfit 39 = .ok (.aload_n 0, 1) := by decide +kernel
theorem dX10_misfit_40 : decode cX10_misfit 40 = .ok (.iload_n 1, 1) := by decide +kernel
theorem dX10_misfit_41 : decode cX10_misfit 41 = .ok (.aload_n 0, 1) := by decide +kernel
theorem dX10_misfit_42 : decode cX10_misfit 42 = .ok (.iload_n 1, 1) := by decide +kernel
theorem dX10_misfit_43 : decode cX10_misfit 43 = .ok (.invokevirtual 172, 3) := by decide +kernel
theorem dX10_misfit_46 : decode cX10_misfit 46 = .ok (.iload_n 2, 1) := by decide +kernel
theorem dX10_misfit_47 : decode cX10_misfit 47 = .ok (.iload_n 3, 1) := by decide +kernel
theorem dX10_misfit_48 : decode cX10_misfit 48 = .ok (.iload 4, 2) := by decide +kernel
theorem dX10_misfit_50 : decode cX10_misfit 50 = .ok (.invokevirtual 175, 3) := by decide +kernel
theorem dX10_misfit_53 : decode cX10_misfit 53 = .ok (.ireturn, 1) := by decide +kernel
theorem dX10_keepBest_0 : decode cX10_keepBest 0 = .ok (.iload_n 3, 1) := by decide +kernel
theorem dX10_keepBest_1 : decode cX10_keepBest 1 = .ok (.ifCond .lt 33, 3) := by decide +kernel
theorem dX10_keepBest_4 : decode cX10_keepBest 4 = .ok (.aload_n 0, 1) := by decide +kernel
theorem dX10_keepBest_5 : decode cX10_keepBest 5 = .ok (.getfield 179, 3) := by decide +kernel
theorem dX10_keepBest_8 : decode cX10_keepBest 8 = .ok (.ifCond .lt 11, 3) := by decide +kernel
theorem dX10_keepBest_11 : decode cX10_keepBest 11 = .ok (.iload_n 3, 1) := by decide +kernel
theorem dX10_keepBest_12 : decode cX10_keepBest 12 = .ok (.aload_n 0, 1) := by decide +kernel
theorem dX10_keepBest_13 : decode cX10_keepBest 13 = .ok (.getfield 179, 3) := by decide +kernel
theorem dX10_keepBest_16 : decode cX10_keepBest 16 = .ok (.if_icmp .ge 18, 3) := by decide +kernel
theorem dX10_keepBest_19 : decode cX10_keepBest 19 = .ok (.aload_n 0, 1) := by decide +kernel
theorem dX10_keepBest_20 : decode cX10_keepBest 20 = .ok (.iload_n 1, 1) := by decide +kernel
theorem dX10_keepBest_21 : decode cX10_keepBest 21 = .ok (.putfield 182, 3) := by decide +kernel
theorem dX10_keepBest_24 : decode cX10_keepBest 24 = .ok (.aload_n 0, 1) := by decide +kernel
theorem dX10_keepBest_25 : decode cX10_keepBest 25 = .ok (.iload_n 2, 1) := by decide +kernel
theorem dX10_keepBest_26 : decode cX10_keepBest 26 = .ok (.putfield 185, 3) := by decide +kernel
theorem dX10_keepBest_29 : decode cX10_keepBest 29 = .ok (.aload_n 0, 1) := by decide +kernel
theorem dX10_keepBest_30 : decode cX10_keepBest 30 = .ok (.iload_n 3, 1) := by decide +kernel
theorem dX10_keepBest_31 : decode cX10_keepBest 31 = .ok (.putfield 179, 3) := by decide +kernel
theorem dX10_keepBest_34 : decode cX10_keepBest 34 = .ok (.return_, 1) := by decide +kernel
theorem dX10_findFit_0 : decode cX10_findFit 0 = .ok (.aload_n 0, 1) := by decide +kernel
theorem dX10_findFit_1 : decode cX10_findFit 1 = .ok (.iload_n 2, 1) := by decide +kernel
theorem dX10_findFit_2 : decode cX10_findFit 2 = .ok (.invokevirtual 168, 3) := by decide +kernel
theorem dX10_findFit_5 : decode cX10_findFit 5 = .ok (.aload_n 0, 1) := by decide +kernel
theorem dX10_findFit_6 : decode cX10_findFit 6 = .ok (.iload_n 1, 1) := by decide +kernel
theorem dX10_findFit_7 : decode cX10_findFit 7 = .ok (.invokevirtual 172, 3) := by decide +kernel
theorem dX10_findFit_10 : decode cX10_findFit 10 = .ok (.istore_n 3, 1) := by decide +kernel
theorem dX10_findFit_11 : decode cX10_findFit 11 = .ok (.aload_n 0, 1) := by decide +kernel
theorem dX10_findFit_12 : decode cX10_findFit 12 = .ok (.iload_n 1, 1) := by decide +kernel
theorem dX10_findFit_13 : decode cX10_findFit 13 = .ok (.invokevirtual 146, 3) := by decide +kernel
theorem dX10_findFit_16 : decode cX10_findFit 16 = .ok (.istore 4, 2) := by decide +kernel
theorem dX10_findFit_18 : decode cX10_findFit 18 = .ok (.aload_n 0, 1) := by decide +kernel
theorem dX10_findFit_19 : decode cX10_findFit 19 = .ok (.bipush (-6), 2) := by decide +kernel
theorem dX10_findFit_21 : decode cX10_findFit 21 = .ok (.putfield 179, 3) := by decide +kernel
theorem dX10_findFit_24 : decode cX10_findFit 24 = .ok (.iconst 0, 1) := by decide +kernel
theorem dX10_findFit_25 : decode cX10_findFit 25 = .ok (.istore 5, 2) := by decide +kernel
theorem dX10_findFit_27 : decode cX10_findFit 27 = .ok (.iload 5, 2) := by decide +kernel
theorem dX10_findFit_29 : decode cX10_findFit 29 = .ok (.bipush 64, 2) := by decide +kernel
theorem dX10_findFit_31 : decode cX10_findFit 31 = .ok (.if_icmp .ge 28, 3) := by decide +kernel
theorem dX10_findFit_34 : decode cX10_findFit 34 = .ok (.aload_n 0, 1) := by decide +kernel
theorem dX10_findFit_35 : decode cX10_findFit 35 = .ok (.iload 4, 2) := by decide +kernel
theorem dX10_findFit_37 : decode cX10_findFit 37 = .ok (.iload 5, 2) := by decide +kernel
theorem dX10_findFit_39 : decode cX10_findFit 39 = .ok (.aload_n 0, 1) := by decide +kernel
theorem dX10_findFit_40 : decode cX10_findFit 40 = .ok (.iload_n 1, 1) := by decide +kernel
theorem dX10_findFit_41 : decode cX10_findFit 41 = .ok (.iload_n 3, 1) := by decide +kernel
theorem dX10_findFit_42 : decode cX10_findFit 42 = .ok (.iload 5, 2) := by decide +kernel
theorem dX10_findFit_44 : decode cX10_findFit 44 = .ok (.iload_n 2, 1) := by decide +kernel
theorem dX10_findFit_45 : decode cX10_findFit 45 = .ok (.iload 4, 2) := by decide +kernel
theorem dX10_findFit_47 : decode cX10_findFit 47 = .ok (.invokevirtual 175, 3) := by decide +kernel
theorem dX10_findFit_50 : decode cX10_findFit 50 = .ok (.invokevirtual 188, 3) := by decide +kernel
theorem dX10_findFit_53 : decode cX10_findFit 53 = .ok (.iinc 5 1, 3) := by decide +kernel
theorem dX10_findFit_56 : decode cX10_findFit 56 = .ok (.goto (-29), 3) := by decide +kernel
theorem dX10_findFit_59 : decode cX10_findFit 59 = .ok (.return_, 1) := by decide +kernel
theorem dX10_fit_0 : decode cX10_fit 0 = .ok (.iload_n 1, 1) := by decide +kernel
theorem dX10_fit_1 : decode cX10_fit 1 = .ok (.invokestatic 76, 3) := by decide +kernel
theorem dX10_fit_4 : decode cX10_fit 4 = .ok (.ifCond .ne 5, 3) := by decide +kernel
theorem dX10_fit_7 : decode cX10_fit 7 = .ok (.iconst (-1), 1) := by decide +kernel
theorem dX10_fit_8 : decode cX10_fit 8 = .ok (.ireturn, 1) := by decide +kernel
theorem dX10_fit_9 : decode cX10_fit 9 = .ok (.iload_n 2, 1) := by decide +kernel
theorem dX10_fit_10 : decode cX10_fit 10 = .ok (.invokestatic 152, 3) := by decide +kernel
theorem dX10_fit_13 : decode cX10_fit 13 = .ok (.ifCond .eq 10, 3) := by decide +kernel
theorem dX10_fit_16 : decode cX10_fit 16 = .ok (.iload_n 3, 1) := by decide +kernel
theorem dX10_fit_17 : decode cX10_fit 17 = .ok (.invokestatic 124, 3) := by decide +kernel
theorem dX10_fit_20 : decode cX10_fit 20 = .ok (.ifCond .ne 6, 3) := by decide +kernel
theorem dX10_fit_23 : decode cX10_fit 23 = .ok (.bipush (-2), 2) := by decide +kernel
theorem dX10_fit_25 : decode cX10_fit 25 = .ok (.ireturn, 1) := by decide +kernel
theorem dX10_fit_26 : decode cX10_fit 26 = .ok (.aload_n 0, 1) := by decide +kernel
theorem dX10_fit_27 : decode cX10_fit 27 = .ok (.iload_n 1, 1) := by decide +kernel
theorem dX10_fit_28 : decode cX10_fit 28 = .ok (.iload_n 2, 1) := by decide +kernel
theorem dX10_fit_29 : decode cX10_fit 29 = .ok (.invokevirtual 192, 3) := by decide +kernel
theorem dX10_fit_32 : decode cX10_fit 32 = .ok (.iload_n 3, 1) := by decide +kernel
theorem dX10_fit_33 : decode cX10_fit 33 = .ok (.ifCond .ne 10, 3) := by decide +kernel
theorem dX10_fit_36 : decode cX10_fit 36 = .ok (.aload_n 0, 1) := by decide +kernel
theorem dX10_fit_37 : decode cX10_fit 37 = .ok (.getfield 185, 3) := by decide +kernel
theorem dX10_fit_40 : decode cX10_fit 40 = .ok (.goto 7, 3) := by decide +kernel
theorem dX10_fit_43 : decode cX10_fit 43 = .ok (.aload_n 0, 1) := by decide +kernel
theorem dX10_fit_44 : decode cX10_fit 44 = .ok (.getfield 179, 3) := by decide +kernel
theorem dX10_fit_47 : decode cX10_fit 47 = .ok (.ireturn, 1) := by decide +kernel
theorem dX10_findSpan_0 : decode cX10_findSpan 0 = .ok (.aload_n 0, 1) := by decide +kernel
theorem dX10_findSpan_1 : decode cX10_findSpan 1 = .ok (.iload_n 1, 1) := by decide +kernel
theorem dX10_findSpan_2 : decode cX10_findSpan 2 = .ok (.iload_n 2, 1) := by decide +kernel
theorem dX10_findSpan_3 : decode cX10_findSpan 3 = .ok (.invokevirtual 192, 3) := by decide +kernel
theorem dX10_findSpan_6 : decode cX10_findSpan 6 = .ok (.aload_n 0, 1) := by decide +kernel
theorem dX10_findSpan_7 : decode cX10_findSpan 7 = .ok (.iload_n 1, 1) := by decide +kernel
theorem dX10_findSpan_8 : decode cX10_findSpan 8 = .ok (.invokevirtual 172, 3) := by decide +kernel
theorem dX10_findSpan_11 : decode cX10_findSpan 11 = .ok (.istore 4, 2) := by decide +kernel
theorem dX10_findSpan_13 : decode cX10_findSpan 13 = .ok (.aload_n 0, 1) := by decide +kernel
theorem dX10_findSpan_14 : decode cX10_findSpan 14 = .ok (.iload_n 1, 1) := by decide +kernel
theorem dX10_findSpan_15 : decode cX10_findSpan 15 = .ok (.invokevirtual 146, 3) := by decide +kernel
theorem dX10_findSpan_18 : decode cX10_findSpan 18 = .ok (.istore 5, 2) := by decide +kernel
theorem dX10_findSpan_20 : decode cX10_findSpan 20 = .ok (.aload_n 0, 1) := by decide +kernel
theorem dX10_findSpan_21 : decode cX10_findSpan 21 = .ok (.bipush (-6), 2) := by decide +kernel
theorem dX10_findSpan_23 : decode cX10_findSpan 23 = .ok (.putfield 196, 3) := by decide +kernel
theorem dX10_findSpan_26 : decode cX10_findSpan 26 = .ok (.iconst 0, 1) := by decide +kernel
theorem dX10_findSpan_27 : decode cX10_findSpan 27 = .ok (.istore 6, 2) := by decide +kernel
theorem dX10_findSpan_29 : decode cX10_findSpan 29 = .ok (.iload 6, 2) := by decide +kernel
theorem dX10_findSpan_31 : decode cX10_findSpan 31 = .ok (.bipush 64, 2) := by decide +kernel
theorem dX10_findSpan_33 : decode cX10_findSpan 33 = .ok (.if_icmp .ge 65, 3) := by decide +kernel
theorem dX10_findSpan_36 : decode cX10_findSpan 36 = .ok (.aload_n 0, 1) := by decide +kernel
theorem dX10_findSpan_37 : decode cX10_findSpan 37 = .ok (.iload_n 1, 1) := by decide +kernel
theorem dX10_findSpan_38 : decode cX10_findSpan 38 = .ok (.iload 4, 2) := by decide +kernel
theorem dX10_findSpan_40 : decode cX10_findSpan 40 = .ok (.iload 6, 2) := by decide +kernel
theorem dX10_findSpan_42 : decode cX10_findSpan 42 = .ok (.iload_n 2, 1) := by decide +kernel
theorem dX10_findSpan_43 : decode cX10_findSpan 43 = .ok (.iload 5, 2) := by decide +kernel
theorem dX10_findSpan_45 : decode cX10_findSpan 45 = .ok (.invokevirtual 175, 3) := by decide +kernel
theorem dX10_findSpan_48 : decode cX10_findSpan 48 = .ok (.istore 7, 2) := by decide +kernel
theorem dX10_findSpan_50 : decode cX10_findSpan 50 = .ok (.iload 7, 2) := by decide +kernel
theorem dX10_findSpan_52 : decode cX10_findSpan 52 = .ok (.ifCond .lt 40, 3) := by decide +kernel
theorem dX10_findSpan_55 : decode cX10_findSpan 55 = .ok (.iload 7, 2) := by decide +kernel
theorem dX10_findSpan_57 : decode cX10_findSpan 57 = .ok (.aload_n 0, 1) := by decide +kernel
theorem dX10_findSpan_58 : decode cX10_findSpan 58 = .ok (.getfield 179, 3) := by decide +kernel
theorem dX10_findSpan_61 : decode cX10_findSpan 61 = .ok (.iload_n 3, 1) := by decide +kernel
theorem dX10_findSpan_62 : decode cX10_findSpan 62 = .ok (.iadd, 1) := by decide +kernel
theorem dX10_findSpan_63 : decode cX10_findSpan 63 = .ok (.if_icmp .gt 29, 3) := by decide +kernel
theorem dX10_findSpan_66 : decode cX10_findSpan 66 = .ok (.aload_n 0, 1) := by decide +kernel
theorem dX10_findSpan_67 : decode cX10_findSpan 67 = .ok (.aload_n 0, 1) := by decide +kernel
theorem dX10_findSpan_68 : decode cX10_findSpan 68 = .ok (.getfield 196, 3) := by decide +kernel
theorem dX10_findSpan_71 : decode cX10_findSpan 71 = .ok (.ifCond .ge 8, 3) := by decide +kernel
theorem dX10_findSpan_74 : decode cX10_findSpan 74 = .ok (.iload 6, 2) := by decide +kernel
theorem dX10_findSpan_76 : decode cX10_findSpan 76 = .ok (.goto 7, 3) := by decide +kernel
theorem dX10_findSpan_79 : decode cX10_findSpan 79 = .ok (.aload_n 0, 1) := by decide +kernel
theorem dX10_findSpan_80 : decode cX10_findSpan 80 = .ok (.getfield 196, 3) := by decide +kernel
theorem dX10_findSpan_83 : decode cX10_findSpan 83 = .ok (.putfield 196, 3) := by decide +kernel
theorem dX10_findSpan_86 : decode cX10_findSpan 86 = .ok (.aload_n 0, 1) := by decide +kernel
theorem dX10_findSpan_87 : decode cX10_findSpan 87 = .ok (.iload 6, 2) := by decide +kernel
theorem dX10_findSpan_89 : decode cX10_findSpan 89 = .ok (.putfield 199, 3) := by decide +kernel
theorem dX10_findSpan_92 : decode cX10_findSpan 92 = .ok (.iinc 6 1, 3) := by decide +kernel
theorem dX10_findSpan_95 : decode cX10_findSpan 95 = .ok (.goto (-66), 3) := by decide +kernel
theorem dX10_findSpan_98 : decode cX10_findSpan 98 = .ok (.return_, 1) := by decide +kernel
theorem dX10_span_0 : decode cX10_span 0 = .ok (.iload_n 1, 1) := by decide +kernel
theorem dX10_span_1 : decode cX10_span 1 = .ok (.invokestatic 76, 3) := by decide +kernel
theorem dX10_span_4 : decode cX10_span 4 = .ok (.ifCond .ne 5, 3) := by decide +kernel
theorem dX10_span_7 : decode cX10_span 7 = .ok (.iconst (-1), 1) := by decide +kernel
theorem dX10_span_8 : decode cX10_span 8 = .ok (.ireturn, 1) := by decide +kernel
theorem dX10_span_9 : decode cX10_span 9 = .ok (.iload_n 2, 1) := by decide +kernel
theorem dX10_span_10 : decode cX10_span 10 = .ok (.invokestatic 152, 3) := by decide +kernel
theorem dX10_span_13 : decode cX10_span 13 = .ok (.ifCond .eq 23, 3) := by decide +kernel
theorem dX10_span_16 : decode cX10_span 16 = .ok (.iload_n 3, 1) := by decide +kernel
theorem dX10_span_17 : decode cX10_span 17 = .ok (.i2l, 1) := by decide +kernel
theorem dX10_span_18 : decode cX10_span 18 = .ok (.lconst 0, 1) := by decide +kernel
theorem dX10_span_19 : decode cX10_span 19 = .ok (.ldc2_w 83, 3) := by decide +kernel
theorem dX10_span_22 : decode cX10_span 22 = .ok (.invokestatic 64, 3) := by decide +kernel
theorem dX10_span_25 : decode cX10_span 25 = .ok (.ifCond .eq 11, 3) := by decide +kernel
theorem dX10_span_28 : decode cX10_span 28 = .ok (.iload 4, 2) := by decide +kernel
theorem dX10_span_30 : decode cX10_span 30 = .ok (.invokestatic 124, 3) := by decide +kernel
theorem dX10_span_33 : decode cX10_span 33 = .ok (.ifCond .ne 6, 3) := by decide +kernel
theorem dX10_span_36 : decode cX10_span 36 = .ok (.bipush (-2), 2) := by decide +kernel
theorem dX10_span_38 : decode cX10_span 38 = .ok (.ireturn, 1) := by decide +kernel
theorem dX10_span_39 : decode cX10_span 39 = .ok (.aload_n 0, 1) := by decide +kernel
theorem dX10_span_40 : decode cX10_span 40 = .ok (.iload_n 1, 1) := by decide +kernel
theorem dX10_span_41 : decode cX10_span 41 = .ok (.iload_n 2, 1) := by decide +kernel
theorem dX10_span_42 : decode cX10_span 42 = .ok (.iload_n 3, 1) := by decide +kernel
theorem dX10_span_43 : decode cX10_span 43 = .ok (.invokevirtual 202, 3) := by decide +kernel
theorem dX10_span_46 : decode cX10_span 46 = .ok (.iload 4, 2) := by decide +kernel
theorem dX10_span_48 : decode cX10_span 48 = .ok (.ifCond .ne 10, 3) := by decide +kernel
theorem dX10_span_51 : decode cX10_span 51 = .ok (.aload_n 0, 1) := by decide +kernel
theorem dX10_span_52 : decode cX10_span 52 = .ok (.getfield 196, 3) := by decide +kernel
theorem dX10_span_55 : decode cX10_span 55 = .ok (.goto 7, 3) := by decide +kernel
theorem dX10_span_58 : decode cX10_span 58 = .ok (.aload_n 0, 1) := by decide +kernel
theorem dX10_span_59 : decode cX10_span 59 = .ok (.getfield 199, 3) := by decide +kernel
theorem dX10_span_62 : decode cX10_span 62 = .ok (.ireturn, 1) := by decide +kernel
theorem dX10_findLine_0 : decode cX10_findLine 0 = .ok (.aload_n 0, 1) := by decide +kernel
theorem dX10_findLine_1 : decode cX10_findLine 1 = .ok (.iload_n 2, 1) := by decide +kernel
theorem dX10_findLine_2 : decode cX10_findLine 2 = .ok (.invokevirtual 168, 3) := by decide +kernel
theorem dX10_findLine_5 : decode cX10_findLine 5 = .ok (.aload_n 0, 1) := by decide +kernel
theorem dX10_findLine_6 : decode cX10_findLine 6 = .ok (.iload_n 1, 1) := by decide +kernel
theorem dX10_findLine_7 : decode cX10_findLine 7 = .ok (.invokevirtual 172, 3) := by decide +kernel
theorem dX10_findLine_10 : decode cX10_findLine 10 = .ok (.istore_n 3, 1) := by decide +kernel
theorem dX10_findLine_11 : decode cX10_findLine 11 = .ok (.aload_n 0, 1) := by decide +kernel
theorem dX10_findLine_12 : decode cX10_findLine 12 = .ok (.bipush (-6), 2) := by decide +kernel
theorem dX10_findLine_14 : decode cX10_findLine 14 = .ok (.putfield 179, 3) := by decide +kernel
theorem dX10_findLine_17 : decode cX10_findLine 17 = .ok (.iconst 0, 1) := by decide +kernel
theorem dX10_findLine_18 : decode cX10_findLine 18 = .ok (.istore 4, 2) := by decide +kernel
theorem dX10_findLine_20 : decode cX10_findLine 20 = .ok (.iload 4, 2) := by decide +kernel
theorem dX10_findLine_22 : decode cX10_findLine 22 = .ok (.bipush 64, 2) := by decide +kernel
theorem dX10_findLine_24 : decode cX10_findLine 24 = .ok (.if_icmp .ge 44, 3) := by decide +kernel
theorem dX10_findLine_27 : decode cX10_findLine 27 = .ok (.iconst 0, 1) := by decide +kernel
theorem dX10_findLine_28 : decode cX10_findLine 28 = .ok (.istore 5, 2) := by decide +kernel
theorem dX10_findLine_30 : decode cX10_findLine 30 = .ok (.iload 5, 2) := by decide +kernel
theorem dX10_findLine_32 : decode cX10_findLine 32 = .ok (.bipush 64, 2) := by decide +kernel
theorem dX10_findLine_34 : decode cX10_findLine 34 = .ok (.if_icmp .ge 28, 3) := by decide +kernel
theorem dX10_findLine_37 : decode cX10_findLine 37 = .ok (.aload_n 0, 1) := by decide +kernel
theorem dX10_findLine_38 : decode cX10_findLine 38 = .ok (.iload 4, 2) := by decide +kernel
theorem dX10_findLine_40 : decode cX10_findLine 40 = .ok (.iload 5, 2) := by decide +kernel
theorem dX10_findLine_42 : decode cX10_findLine 42 = .ok (.aload_n 0, 1) := by decide +kernel
theorem dX10_findLine_43 : decode cX10_findLine 43 = .ok (.iload_n 1, 1) := by decide +kernel
theorem dX10_findLine_44 : decode cX10_findLine 44 = .ok (.iload_n 3, 1) := by decide +kernel
theorem dX10_findLine_45 : decode cX10_findLine 45 = .ok (.iload 5, 2) := by decide +kernel
theorem dX10_findLine_47 : decode cX10_findLine 47 = .ok (.iload_n 2, 1) := by decide +kernel
theorem dX10_findLine_48 : decode cX10_findLine 48 = .ok (.iload 4, 2) := by decide +kernel
theorem dX10_findLine_50 : decode cX10_findLine 50 = .ok (.invokevirtual 175, 3) := by decide +kernel
theorem dX10_findLine_53 : decode cX10_findLine 53 = .ok (.invokevirtual 188, 3) := by decide +kernel
theorem dX10_findLine_56 : decode cX10_findLine 56 = .ok (.iinc 5 1, 3) := by decide +kernel
theorem dX10_findLine_59 : decode cX10_findLine 59 = .ok (.goto (-29), 3) := by decide +kernel
theorem dX10_findLine_62 : decode cX10_findLine 62 = .ok (.iinc 4 1, 3) := by decide +kernel
theorem dX10_findLine_65 : decode cX10_findLine 65 = .ok (.goto (-45), 3) := by decide +kernel
theorem dX10_findLine_68 : decode cX10_findLine 68 = .ok (.return_, 1) := by decide +kernel
theorem dX10_found_0 : decode cX10_found 0 = .ok (.iload_n 1, 1) := by decide +kernel
theorem dX10_found_1 : decode cX10_found 1 = .ok (.invokestatic 76, 3) := by decide +kernel
theorem dX10_found_4 : decode cX10_found 4 = .ok (.ifCond .ne 5, 3) := by decide +kernel
theorem dX10_found_7 : decode cX10_found 7 = .ok (.iconst (-1), 1) := by decide +kernel
theorem dX10_found_8 : decode cX10_found 8 = .ok (.ireturn, 1) := by decide +kernel
theorem dX10_found_9 : decode cX10_found 9 = .ok (.iload_n 2, 1) := by decide +kernel
theorem dX10_found_10 : decode cX10_found 10 = .ok (.invokestatic 152, 3) := by decide +kernel
theorem dX10_found_13 : decode cX10_found 13 = .ok (.ifCond .eq 15, 3) := by decide +kernel
theorem dX10_found_16 : decode cX10_found 16 = .ok (.iload_n 3, 1) := by decide +kernel
theorem dX10_found_17 : decode cX10_found 17 = .ok (.i2l, 1) := by decide +kernel
theorem dX10_found_18 : decode cX10_found 18 = .ok (.lconst 0, 1) := by decide +kernel
theorem dX10_found_19 : decode cX10_found 19 = .ok (.ldc2_w 89, 3) := by decide +kernel
theorem dX10_found_22 : decode cX10_found 22 = .ok (.invokestatic 64, 3) := by decide +kernel
theorem dX10_found_25 : decode cX10_found 25 = .ok (.ifCond .ne 6, 3) := by decide +kernel
theorem dX10_found_28 : decode cX10_found 28 = .ok (.bipush (-2), 2) := by decide +kernel
theorem dX10_found_30 : decode cX10_found 30 = .ok (.ireturn, 1) := by decide +kernel
theorem dX10_found_31 : decode cX10_found 31 = .ok (.aload_n 0, 1) := by decide +kernel
theorem dX10_found_32 : decode cX10_found 32 = .ok (.iload_n 1, 1) := by decide +kernel
theorem dX10_found_33 : decode cX10_found 33 = .ok (.iload_n 2, 1) := by decide +kernel
theorem dX10_found_34 : decode cX10_found 34 = .ok (.invokevirtual 205, 3) := by decide +kernel
theorem dX10_found_37 : decode cX10_found 37 = .ok (.iload_n 3, 1) := by decide +kernel
theorem dX10_found_38 : decode cX10_found 38 = .ok (.ifCond .ne 10, 3) := by decide +kernel
theorem dX10_found_41 : decode cX10_found 41 = .ok (.aload_n 0, 1) := by decide +kernel
theorem dX10_found_42 : decode cX10_found 42 = .ok (.getfield 182, 3) := by decide +kernel
theorem dX10_found_45 : decode cX10_found 45 = .ok (.goto 19, 3) := by decide +kernel
theorem dX10_found_48 : decode cX10_found 48 = .ok (.iload_n 3, 1) := by decide +kernel
theorem dX10_found_49 : decode cX10_found 49 = .ok (.iconst 1, 1) := by decide +kernel
theorem dX10_found_50 : decode cX10_found 50 = .ok (.if_icmp .ne 10, 3) := by decide +kernel
theorem dX10_found_53 : decode cX10_found 53 = .ok (.aload_n 0, 1) := by decide +kernel
theorem dX10_found_54 : decode cX10_found 54 = .ok (.getfield 185, 3) := by decide +kernel
theorem dX10_found_57 : decode cX10_found 57 = .ok (.goto 7, 3) := by decide +kernel
theorem dX10_found_60 : decode cX10_found 60 = .ok (.aload_n 0, 1) := by decide +kernel
theorem dX10_found_61 : decode cX10_found 61 = .ok (.getfield 179, 3) := by decide +kernel
theorem dX10_found_64 : decode cX10_found 64 = .ok (.ireturn, 1) := by decide +kernel
theorem dX10_inchOf_0 : decode cX10_inchOf 0 = .ok (.iload_n 0, 1) := by decide +kernel
theorem dX10_inchOf_1 : decode cX10_inchOf 1 = .ok (.iconst 4, 1) := by decide +kernel
theorem dX10_inchOf_2 : decode cX10_inchOf 2 = .ok (.irem, 1) := by decide +kernel
theorem dX10_inchOf_3 : decode cX10_inchOf 3 = .ok (.istore_n 1, 1) := by decide +kernel
theorem dX10_inchOf_4 : decode cX10_inchOf 4 = .ok (.iload_n 1, 1) := by decide +kernel
theorem dX10_inchOf_5 : decode cX10_inchOf 5 = .ok (.iconst 3, 1) := by decide +kernel
theorem dX10_inchOf_6 : decode cX10_inchOf 6 = .ok (.if_icmp .ne 9, 3) := by decide +kernel
theorem dX10_inchOf_9 : decode cX10_inchOf 9 = .ok (.iload_n 0, 1) := by decide +kernel
theorem dX10_inchOf_10 : decode cX10_inchOf 10 = .ok (.iconst 1, 1) := by decide +kernel
theorem dX10_inchOf_11 : decode cX10_inchOf 11 = .ok (.iadd, 1) := by decide +kernel
theorem dX10_inchOf_12 : decode cX10_inchOf 12 = .ok (.goto 6, 3) := by decide +kernel
theorem dX10_inchOf_15 : decode cX10_inchOf 15 = .ok (.iload_n 0, 1) := by decide +kernel
theorem dX10_inchOf_16 : decode cX10_inchOf 16 = .ok (.iload_n 1, 1) := by decide +kernel
theorem dX10_inchOf_17 : decode cX10_inchOf 17 = .ok (.isub, 1) := by decide +kernel
theorem dX10_inchOf_18 : decode cX10_inchOf 18 = .ok (.istore_n 2, 1) := by decide +kernel
theorem dX10_inchOf_19 : decode cX10_inchOf 19 = .ok (.iload_n 2, 1) := by decide +kernel
theorem dX10_inchOf_20 : decode cX10_inchOf 20 = .ok (.bipush 63, 2) := by decide +kernel
theorem dX10_inchOf_22 : decode cX10_inchOf 22 = .ok (.if_icmp .le 8, 3) := by decide +kernel
theorem dX10_inchOf_25 : decode cX10_inchOf 25 = .ok (.bipush 63, 2) := by decide +kernel
theorem dX10_inchOf_27 : decode cX10_inchOf 27 = .ok (.goto 4, 3) := by decide +kernel
theorem dX10_inchOf_30 : decode cX10_inchOf 30 = .ok (.iload_n 2, 1) := by decide +kernel
theorem dX10_inchOf_31 : decode cX10_inchOf 31 = .ok (.ireturn, 1) := by decide +kernel
theorem dX10_writtenOf_0 : decode cX10_writtenOf 0 = .ok (.iload_n 1, 1) := by decide +kernel
theorem dX10_writtenOf_1 : decode cX10_writtenOf 1 = .ok (.iload_n 2, 1) := by decide +kernel
theorem dX10_writtenOf_2 : decode cX10_writtenOf 2 = .ok (.isub, 1) := by decide +kernel
theorem dX10_writtenOf_3 : decode cX10_writtenOf 3 = .ok (.istore 4, 2) := by decide +kernel
theorem dX10_writtenOf_5 : decode cX10_writtenOf 5 = .ok (.iload_n 1, 1) := by decide +kernel
theorem dX10_writtenOf_6 : decode cX10_writtenOf 6 = .ok (.ifCond .le 28, 3) := by decide +kernel
theorem dX10_writtenOf_9 : decode cX10_writtenOf 9 = .ok (.iload 4, 2) := by decide +kernel
theorem dX10_writtenOf_11 : decode cX10_writtenOf 11 = .ok (.ifCond .le 23, 3) := by decide +kernel
theorem dX10_writtenOf_14 : decode cX10_writtenOf 14 = .ok (.iload 4, 2) := by decide +kernel
theorem dX10_writtenOf_16 : decode cX10_writtenOf 16 = .ok (.aload_n 0, 1) := by decide +kernel
theorem dX10_writtenOf_17 : decode cX10_writtenOf 17 = .ok (.getfield 22, 3) := by decide +kernel
theorem dX10_writtenOf_20 : decode cX10_writtenOf 20 = .ok (.iconst 2, 1) := by decide +kernel
theorem dX10_writtenOf_21 : decode cX10_writtenOf 21 = .ok (.iaload, 1) := by decide +kernel
theorem dX10_writtenOf_22 : decode cX10_writtenOf 22 = .ok (.if_icmp .gt 12, 3) := by decide +kernel
theorem dX10_writtenOf_25 : decode cX10_writtenOf 25 = .ok (.aload_n 0, 1) := by decide +kernel
theorem dX10_writtenOf_26 : decode cX10_writtenOf 26 = .ok (.getfield 22, 3) := by decide +kernel
theorem dX10_writtenOf_29 : decode cX10_writtenOf 29 = .ok (.iconst 3, 1) := by decide +kernel
theorem dX10_writtenOf_30 : decode cX10_writtenOf 30 = .ok (.iaload, 1) := by decide +kernel
theorem dX10_writtenOf_31 : decode cX10_writtenOf 31 = .ok (.goto 4, 3) := by decide +kernel
theorem dX10_writtenOf_34 : decode cX10_writtenOf 34 = .ok (.iconst 0, 1) := by decide +kernel
theorem dX10_writtenOf_35 : decode cX10_writtenOf 35 = .ok (.istore 5, 2) := by decide +kernel
theorem dX10_writtenOf_37 : decode cX10_writtenOf 37 = .ok (.iload_n 2, 1) := by decide +kernel
theorem dX10_writtenOf_38 : decode cX10_writtenOf 38 = .ok (.iconst 4, 1) := by decide +kernel
theorem dX10_writtenOf_39 : decode cX10_writtenOf 39 = .ok (.irem, 1) := by decide +kernel
theorem dX10_writtenOf_40 : decode cX10_writtenOf 40 = .ok (.ifCond .ne 7, 3) := by decide +kernel
theorem dX10_writtenOf_43 : decode cX10_writtenOf 43 = .ok (.iconst 0, 1) := by decide +kernel
theorem dX10_writtenOf_44 : decode cX10_writtenOf 44 = .ok (.goto 9, 3) := by decide +kernel
theorem dX10_writtenOf_47 : decode cX10_writtenOf 47 = .ok (.aload_n 0, 1) := by decide +kernel
theorem dX10_writtenOf_48 : decode cX10_writtenOf 48 = .ok (.getfield 22, 3) := by decide +kernel
theorem dX10_writtenOf_51 : decode cX10_writtenOf 51 = .ok (.iconst 1, 1) := by decide +kernel
theorem dX10_writtenOf_52 : decode cX10_writtenOf 52 = .ok (.iaload, 1) := by decide +kernel
theorem dX10_writtenOf_53 : decode cX10_writtenOf 53 = .ok (.istore 6, 2) := by decide +kernel
theorem dX10_writtenOf_55 : decode cX10_writtenOf 55 = .ok (.iload_n 3, 1) := by decide +kernel
theorem dX10_writtenOf_56 : decode cX10_writtenOf 56 = .ok (.iload_n 1, 1) := by decide +kernel
theorem dX10_writtenOf_57 : decode cX10_writtenOf 57 = .ok (.if_icmp .ne 11, 3) := by decide +kernel
theorem dX10_writtenOf_60 : decode cX10_writtenOf 60 = .ok (.bipush 10, 2) := by decide +kernel
theorem dX10_writtenOf_62 : decode cX10_writtenOf 62 = .ok (.iload 5, 2) := by decide +kernel
theorem dX10_writtenOf_64 : decode cX10_writtenOf 64 = .ok (.imul, 1) := by decide +kernel
theorem dX10_writtenOf_65 : decode cX10_writtenOf 65 = .ok (.goto 4, 3) := by decide +kernel
theorem dX10_writtenOf_68 : decode cX10_writtenOf 68 = .ok (.iconst 0, 1) := by decide +kernel
theorem dX10_writtenOf_69 : decode cX10_writtenOf 69 = .ok (.istore 7, 2) := by decide +kernel
theorem dX10_writtenOf_71 : decode cX10_writtenOf 71 = .ok (.iload 7, 2) := by decide +kernel
theorem dX10_writtenOf_73 : decode cX10_writtenOf 73 = .ok (.iload_n 3, 1) := by decide +kernel
theorem dX10_writtenOf_74 : decode cX10_writtenOf 74 = .ok (.iload_n 2, 1) := by decide +kernel
theorem dX10_writtenOf_75 : decode cX10_writtenOf 75 = .ok (.invokestatic 208, 3) := by decide +kernel
theorem dX10_writtenOf_78 : decode cX10_writtenOf 78 = .ok (.if_icmp .ne 14, 3) := by decide +kernel
theorem dX10_writtenOf_81 : decode cX10_writtenOf 81 = .ok (.bipush 10, 2) := by decide +kernel
theorem dX10_writtenOf_83 : decode cX10_writtenOf 83 = .ok (.iload 5, 2) := by decide +kernel
theorem dX10_writtenOf_85 : decode cX10_writtenOf 85 = .ok (.isub, 1) := by decide +kernel
theorem dX10_writtenOf_86 : decode cX10_writtenOf 86 = .ok (.iload 6, 2) := by decide +kernel
theorem dX10_writtenOf_88 : decode cX10_writtenOf 88 = .ok (.imul, 1) := by decide +kernel
theorem dX10_writtenOf_89 : decode cX10_writtenOf 89 = .ok (.goto 4, 3) := by decide +kernel
theorem dX10_writtenOf_92 : decode cX10_writtenOf 92 = .ok (.iconst 0, 1) := by decide +kernel
theorem dX10_writtenOf_93 : decode cX10_writtenOf 93 = .ok (.iadd, 1) := by decide +kernel
theorem dX10_writtenOf_94 : decode cX10_writtenOf 94 = .ok (.istore 7, 2) := by decide +kernel
theorem dX10_writtenOf_96 : decode cX10_writtenOf 96 = .ok (.iload 7, 2) := by decide +kernel
theorem dX10_writtenOf_98 : decode cX10_writtenOf 98 = .ok (.iload_n 3, 1) := by decide +kernel
theorem dX10_writtenOf_99 : decode cX10_writtenOf 99 = .ok (.iload_n 2, 1) := by decide +kernel
theorem dX10_writtenOf_100 : decode cX10_writtenOf 100 = .ok (.if_icmp .ne 17, 3) := by decide +kernel
theorem dX10_writtenOf_103 : decode cX10_writtenOf 103 = .ok (.bipush 10, 2) := by decide +kernel
theorem dX10_writtenOf_105 : decode cX10_writtenOf 105 = .ok (.iload 5, 2) := by decide +kernel
theorem dX10_writtenOf_107 : decode cX10_writtenOf 107 = .ok (.isub, 1) := by decide +kernel
theorem dX10_writtenOf_108 : decode cX10_writtenOf 108 = .ok (.bipush 10, 2) := by decide +kernel
theorem dX10_writtenOf_110 : decode cX10_writtenOf 110 = .ok (.iload 6, 2) := by decide +kernel
theorem dX10_writtenOf_112 : decode cX10_writtenOf 112 = .ok (.isub, 1) := by decide +kernel
theorem dX10_writtenOf_113 : decode cX10_writtenOf 113 = .ok (.imul, 1) := by decide +kernel
theorem dX10_writtenOf_114 : decode cX10_writtenOf 114 = .ok (.goto 4, 3) := by decide +kernel
theorem dX10_writtenOf_117 : decode cX10_writtenOf 117 = .ok (.iconst 0, 1) := by decide +kernel
theorem dX10_writtenOf_118 : decode cX10_writtenOf 118 = .ok (.iadd, 1) := by decide +kernel
theorem dX10_writtenOf_119 : decode cX10_writtenOf 119 = .ok (.ireturn, 1) := by decide +kernel
theorem dX10_written_0 : decode cX10_written 0 = .ok (.iload_n 1, 1) := by decide +kernel
theorem dX10_written_1 : decode cX10_written 1 = .ok (.invokestatic 80, 3) := by decide +kernel
theorem dX10_written_4 : decode cX10_written 4 = .ok (.ifCond .eq 25, 3) := by decide +kernel
theorem dX10_written_7 : decode cX10_written 7 = .ok (.iload_n 2, 1) := by decide +kernel
theorem dX10_written_8 : decode cX10_written 8 = .ok (.invokestatic 80, 3) := by decide +kernel
theorem dX10_written_11 : decode cX10_written 11 = .ok (.ifCond .eq 18, 3) := by decide +kernel
theorem dX10_written_14 : decode cX10_written 14 = .ok (.iload_n 3, 1) := by decide +kernel
theorem dX10_written_15 : decode cX10_written 15 = .ok (.invokestatic 80, 3) := by decide +kernel
theorem dX10_written_18 : decode cX10_written 18 = .ok (.ifCond .eq 11, 3) := by decide +kernel
theorem dX10_written_21 : decode cX10_written 21 = .ok (.iload 4, 2) := by decide +kernel
theorem dX10_written_23 : decode cX10_written 23 = .ok (.invokestatic 124, 3) := by decide +kernel
theorem dX10_written_26 : decode cX10_written 26 = .ok (.ifCond .ne 7, 3) := by decide +kernel
theorem dX10_written_29 : decode cX10_written 29 = .ok (.ldc2_w 159, 3) := by decide +kernel
theorem dX10_written_32 : decode cX10_written 32 = .ok (.lreturn, 1) := by decide +kernel
theorem dX10_written_33 : decode cX10_written 33 = .ok (.aload_n 0, 1) := by decide +kernel
theorem dX10_written_34 : decode cX10_written 34 = .ok (.iload_n 1, 1) := by decide +kernel
theorem dX10_written_35 : decode cX10_written 35 = .ok (.iload_n 2, 1) := by decide +kernel
theorem dX10_written_36 : decode cX10_written 36 = .ok (.iload_n 3, 1) := by decide +kernel
theorem dX10_written_37 : decode cX10_written 37 = .ok (.invokevirtual 211, 3) := by decide +kernel
theorem dX10_written_40 : decode cX10_written 40 = .ok (.i2l, 1) := by decide +kernel
theorem dX10_written_41 : decode cX10_written 41 = .ok (.ldc2_w 214, 3) := by decide +kernel
theorem dX10_written_44 : decode cX10_written 44 = .ok (.iload 4, 2) := by decide +kernel
theorem dX10_written_46 : decode cX10_written 46 = .ok (.invokestatic 161, 3) := by decide +kernel
theorem dX10_written_49 : decode cX10_written 49 = .ok (.lreturn, 1) := by decide +kernel
theorem dX10_back_0 : decode cX10_back 0 = .ok (.iload_n 1, 1) := by decide +kernel
theorem dX10_back_1 : decode cX10_back 1 = .ok (.invokestatic 80, 3) := by decide +kernel
theorem dX10_back_4 : decode cX10_back 4 = .ok (.ifCond .eq 41, 3) := by decide +kernel
theorem dX10_back_7 : decode cX10_back 7 = .ok (.iload_n 2, 1) := by decide +kernel
theorem dX10_back_8 : decode cX10_back 8 = .ok (.invokestatic 152, 3) := by decide +kernel
theorem dX10_back_11 : decode cX10_back 11 = .ok (.ifCond .eq 34, 3) := by decide +kernel
theorem dX10_back_14 : decode cX10_back 14 = .ok (.iload_n 3, 1) := by decide +kernel
theorem dX10_back_15 : decode cX10_back 15 = .ok (.invokestatic 80, 3) := by decide +kernel
theorem dX10_back_18 : decode cX10_back 18 = .ok (.ifCond .eq 27, 3) := by decide +kernel
theorem dX10_back_21 : decode cX10_back 21 = .ok (.iload 4, 2) := by decide +kernel
theorem dX10_back_23 : decode cX10_back 23 = .ok (.invokestatic 80, 3) := by decide +kernel
theorem dX10_back_26 : decode cX10_back 26 = .ok (.ifCond .eq 19, 3) := by decide +kernel
theorem dX10_back_29 : decode cX10_back 29 = .ok (.iload 5, 2) := by decide +kernel
theorem dX10_back_31 : decode cX10_back 31 = .ok (.invokestatic 80, 3) := by decide +kernel
theorem dX10_back_34 : decode cX10_back 34 = .ok (.ifCond .eq 11, 3) := by decide +kernel
theorem dX10_back_37 : decode cX10_back 37 = .ok (.iload 6, 2) := by decide +kernel
theorem dX10_back_39 : decode cX10_back 39 = .ok (.invokestatic 124, 3) := by decide +kernel
theorem dX10_back_42 : decode cX10_back 42 = .ok (.ifCond .ne 7, 3) := by decide +kernel
theorem dX10_back_45 : decode cX10_back 45 = .ok (.ldc2_w 159, 3) := by decide +kernel
theorem dX10_back_48 : decode cX10_back 48 = .ok (.lreturn, 1) := by decide +kernel
theorem dX10_back_49 : decode cX10_back 49 = .ok (.lconst 0, 1) := by decide +kernel
theorem dX10_back_50 : decode cX10_back 50 = .ok (.lstore 7, 2) := by decide +kernel
theorem dX10_back_52 : decode cX10_back 52 = .ok (.iconst 0, 1) := by decide +kernel
theorem dX10_back_53 : decode cX10_back 53 = .ok (.istore 9, 2) := by decide +kernel
theorem dX10_back_55 : decode cX10_back 55 = .ok (.iload 9, 2) := by decide +kernel
theorem dX10_back_57 : decode cX10_back 57 = .ok (.bipush 64, 2) := by decide +kernel
theorem dX10_back_59 : decode cX10_back 59 = .ok (.if_icmp .ge 33, 3) := by decide +kernel
theorem dX10_back_62 : decode cX10_back 62 = .ok (.lload 7, 2) := by decide +kernel
theorem dX10_back_64 : decode cX10_back 64 = .ok (.iload_n 1, 1) := by decide +kernel
theorem dX10_back_65 : decode cX10_back 65 = .ok (.iload_n 2, 1) := by decide +kernel
theorem dX10_back_66 : decode cX10_back 66 = .ok (.iload 9, 2) := by decide +kernel
theorem dX10_back_68 : decode cX10_back 68 = .ok (.invokestatic 155, 3) := by decide +kernel
theorem dX10_back_71 : decode cX10_back 71 = .ok (.i2l, 1) := by decide +kernel
theorem dX10_back_72 : decode cX10_back 72 = .ok (.aload_n 0, 1) := by decide +kernel
theorem dX10_back_73 : decode cX10_back 73 = .ok (.iload_n 3, 1) := by decide +kernel
theorem dX10_back_74 : decode cX10_back 74 = .ok (.iload 9, 2) := by decide +kernel
theorem dX10_back_76 : decode cX10_back 76 = .ok (.iload 4, 2) := by decide +kernel
theorem dX10_back_78 : decode cX10_back 78 = .ok (.invokevirtual 211, 3) := by decide +kernel
theorem dX10_back_81 : decode cX10_back 81 = .ok (.i2l, 1) := by decide +kernel
theorem dX10_back_82 : decode cX10_back 82 = .ok (.lmul, 1) := by decide +kernel
theorem dX10_back_83 : decode cX10_back 83 = .ok (.ladd, 1) := by decide +kernel
theorem dX10_back_84 : decode cX10_back 84 = .ok (.lstore 7, 2) := by decide +kernel
theorem dX10_back_86 : decode cX10_back 86 = .ok (.iinc 9 1, 3) := by decide +kernel
theorem dX10_back_89 : decode cX10_back 89 = .ok (.goto (-34), 3) := by decide +kernel
theorem dX10_back_92 : decode cX10_back 92 = .ok (.iload_n 1, 1) := by decide +kernel
theorem dX10_back_93 : decode cX10_back 93 = .ok (.iload_n 2, 1) := by decide +kernel
theorem dX10_back_94 : decode cX10_back 94 = .ok (.iload 5, 2) := by decide +kernel
theorem dX10_back_96 : decode cX10_back 96 = .ok (.invokestatic 155, 3) := by decide +kernel
theorem dX10_back_99 : decode cX10_back 99 = .ok (.i2l, 1) := by decide +kernel
theorem dX10_back_100 : decode cX10_back 100 = .ok (.aload_n 0, 1) := by decide +kernel
theorem dX10_back_101 : decode cX10_back 101 = .ok (.iload_n 3, 1) := by decide +kernel
theorem dX10_back_102 : decode cX10_back 102 = .ok (.iload 5, 2) := by decide +kernel
theorem dX10_back_104 : decode cX10_back 104 = .ok (.iload 4, 2) := by decide +kernel
theorem dX10_back_106 : decode cX10_back 106 = .ok (.invokevirtual 211, 3) := by decide +kernel
theorem dX10_back_109 : decode cX10_back 109 = .ok (.i2l, 1) := by decide +kernel
theorem dX10_back_110 : decode cX10_back 110 = .ok (.lmul, 1) := by decide +kernel
theorem dX10_back_111 : decode cX10_back 111 = .ok (.lload 7, 2) := by decide +kernel
theorem dX10_back_113 : decode cX10_back 113 = .ok (.iload 6, 2) := by decide +kernel
theorem dX10_back_115 : decode cX10_back 115 = .ok (.invokestatic 161, 3) := by decide +kernel
theorem dX10_back_118 : decode cX10_back 118 = .ok (.lreturn, 1) := by decide +kernel
theorem dX10_pile_0 : decode cX10_pile 0 = .ok (.iload_n 1, 1) := by decide +kernel
theorem dX10_pile_1 : decode cX10_pile 1 = .ok (.invokestatic 76, 3) := by decide +kernel
theorem dX10_pile_4 : decode cX10_pile 4 = .ok (.ifCond .ne 7, 3) := by decide +kernel
theorem dX10_pile_7 : decode cX10_pile 7 = .ok (.ldc2_w 216, 3) := by decide +kernel
theorem dX10_pile_10 : decode cX10_pile 10 = .ok (.lreturn, 1) := by decide +kernel
theorem dX10_pile_11 : decode cX10_pile 11 = .ok (.iload_n 2, 1) := by decide +kernel
theorem dX10_pile_12 : decode cX10_pile 12 = .ok (.invokestatic 124, 3) := by decide +kernel
theorem dX10_pile_15 : decode cX10_pile 15 = .ok (.ifCond .ne 7, 3) := by decide +kernel
theorem dX10_pile_18 : decode cX10_pile 18 = .ok (.ldc2_w 159, 3) := by decide +kernel
theorem dX10_pile_21 : decode cX10_pile 21 = .ok (.lreturn, 1) := by decide +kernel
theorem dX10_pile_22 : decode cX10_pile 22 = .ok (.lconst 0, 1) := by decide +kernel
theorem dX10_pile_23 : decode cX10_pile 23 = .ok (.lstore_n 3, 1) := by decide +kernel
theorem dX10_pile_24 : decode cX10_pile 24 = .ok (.iconst 0, 1) := by decide +kernel
theorem dX10_pile_25 : decode cX10_pile 25 = .ok (.istore 5, 2) := by decide +kernel
theorem dX10_pile_27 : decode cX10_pile 27 = .ok (.iload 5, 2) := by decide +kernel
theorem dX10_pile_29 : decode cX10_pile 29 = .ok (.bipush 64, 2) := by decide +kernel
theorem dX10_pile_31 : decode cX10_pile 31 = .ok (.if_icmp .ge 24, 3) := by decide +kernel
theorem dX10_pile_34 : decode cX10_pile 34 = .ok (.lload_n 3, 1) := by decide +kernel
theorem dX10_pile_35 : decode cX10_pile 35 = .ok (.aload_n 0, 1) := by decide +kernel
theorem dX10_pile_36 : decode cX10_pile 36 = .ok (.getfield 7, 3) := by decide +kernel
theorem dX10_pile_39 : decode cX10_pile 39 = .ok (.iload_n 1, 1) := by decide +kernel
theorem dX10_pile_40 : decode cX10_pile 40 = .ok (.iload 5, 2) := by decide +kernel
theorem dX10_pile_42 : decode cX10_pile 42 = .ok (.invokestatic 85, 3) := by decide +kernel
theorem dX10_pile_45 : decode cX10_pile 45 = .ok (.iaload, 1) := by decide +kernel
theorem dX10_pile_46 : decode cX10_pile 46 = .ok (.i2l, 1) := by decide +kernel
theorem dX10_pile_47 : decode cX10_pile 47 = .ok (.ladd, 1) := by decide +kernel
theorem dX10_pile_48 : decode cX10_pile 48 = .ok (.lstore_n 3, 1) := by decide +kernel
theorem dX10_pile_49 : decode cX10_pile 49 = .ok (.iinc 5 4, 3) := by decide +kernel
theorem dX10_pile_52 : decode cX10_pile 52 = .ok (.goto (-25), 3) := by decide +kernel
theorem dX10_pile_55 : decode cX10_pile 55 = .ok (.ldc2_w 97, 3) := by decide +kernel
theorem dX10_pile_58 : decode cX10_pile 58 = .ok (.lload_n 3, 1) := by decide +kernel
theorem dX10_pile_59 : decode cX10_pile 59 = .ok (.lmul, 1) := by decide +kernel
theorem dX10_pile_60 : decode cX10_pile 60 = .ok (.aload_n 0, 1) := by decide +kernel
theorem dX10_pile_61 : decode cX10_pile 61 = .ok (.iload_n 1, 1) := by decide +kernel
theorem dX10_pile_62 : decode cX10_pile 62 = .ok (.invokevirtual 172, 3) := by decide +kernel
theorem dX10_pile_65 : decode cX10_pile 65 = .ok (.i2l, 1) := by decide +kernel
theorem dX10_pile_66 : decode cX10_pile 66 = .ok (.iload_n 2, 1) := by decide +kernel
theorem dX10_pile_67 : decode cX10_pile 67 = .ok (.invokestatic 161, 3) := by decide +kernel
theorem dX10_pile_70 : decode cX10_pile 70 = .ok (.lreturn, 1) := by decide +kernel
theorem dX10_growsAt_0 : decode cX10_growsAt 0 = .ok (.iconst 0, 1) := by decide +kernel
theorem dX10_growsAt_1 : decode cX10_growsAt 1 = .ok (.istore_n 2, 1) := by decide +kernel
theorem dX10_growsAt_2 : decode cX10_growsAt 2 = .ok (.iload_n 2, 1) := by decide +kernel
theorem dX10_growsAt_3 : decode cX10_growsAt 3 = .ok (.aload_n 0, 1) := by decide +kernel
theorem dX10_growsAt_4 : decode cX10_growsAt 4 = .ok (.getfield 137, 3) := by decide +kernel
theorem dX10_growsAt_7 : decode cX10_growsAt 7 = .ok (.if_icmp .ge 26, 3) := by decide +kernel
theorem dX10_growsAt_10 : decode cX10_growsAt 10 = .ok (.aload_n 0, 1) := by decide +kernel
theorem dX10_growsAt_11 : decode cX10_growsAt 11 = .ok (.getfield 43, 3) := by decide +kernel
theorem dX10_growsAt_14 : decode cX10_growsAt 14 = .ok (.iload_n 2, 1) := by decide +kernel
theorem dX10_growsAt_15 : decode cX10_growsAt 15 = .ok (.iaload, 1) := by decide +kernel
theorem dX10_growsAt_16 : decode cX10_growsAt 16 = .ok (.iload_n 1, 1) := by decide +kernel
theorem dX10_growsAt_17 : decode cX10_growsAt 17 = .ok (.if_icmp .ne 10, 3) := by decide +kernel
theorem dX10_growsAt_20 : decode cX10_growsAt 20 = .ok (.aload_n 0, 1) := by decide +kernel
theorem dX10_growsAt_21 : decode cX10_growsAt 21 = .ok (.getfield 46, 3) := by decide +kernel
theorem dX10_growsAt_24 : decode cX10_growsAt 24 = .ok (.iload_n 2, 1) := by decide +kernel
theorem dX10_growsAt_25 : decode cX10_growsAt 25 = .ok (.iaload, 1) := by decide +kernel
theorem dX10_growsAt_26 : decode cX10_growsAt 26 = .ok (.ireturn, 1) := by decide +kernel
theorem dX10_growsAt_27 : decode cX10_growsAt 27 = .ok (.iinc 2 1, 3) := by decide +kernel
theorem dX10_growsAt_30 : decode cX10_growsAt 30 = .ok (.goto (-28), 3) := by decide +kernel
theorem dX10_growsAt_33 : decode cX10_growsAt 33 = .ok (.iconst 0, 1) := by decide +kernel
theorem dX10_growsAt_34 : decode cX10_growsAt 34 = .ok (.ireturn, 1) := by decide +kernel
theorem dX10_grownFrom_0 : decode cX10_grownFrom 0 = .ok (.iconst 0, 1) := by decide +kernel
theorem dX10_grownFrom_1 : decode cX10_grownFrom 1 = .ok (.istore_n 2, 1) := by decide +kernel
theorem dX10_grownFrom_2 : decode cX10_grownFrom 2 = .ok (.iload_n 1, 1) := by decide +kernel
theorem dX10_grownFrom_3 : decode cX10_grownFrom 3 = .ok (.istore_n 3, 1) := by decide +kernel
theorem dX10_grownFrom_4 : decode cX10_grownFrom 4 = .ok (.iload_n 3, 1) := by decide +kernel
theorem dX10_grownFrom_5 : decode cX10_grownFrom 5 = .ok (.bipush 23, 2) := by decide +kernel
theorem dX10_grownFrom_7 : decode cX10_grownFrom 7 = .ok (.if_icmp .ge 17, 3) := by decide +kernel
theorem dX10_grownFrom_10 : decode cX10_grownFrom 10 = .ok (.iload_n 2, 1) := by decide +kernel
theorem dX10_grownFrom_11 : decode cX10_grownFrom 11 = .ok (.aload_n 0, 1) := by decide +kernel
theorem dX10_grownFrom_12 : decode cX10_grownFrom 12 = .ok (.iload_n 3, 1) := by decide +kernel
theorem dX10_grownFrom_13 : decode cX10_grownFrom 13 = .ok (.invokevirtual 218, 3) := by decide +kernel
theorem dX10_grownFrom_16 : decode cX10_grownFrom 16 = .ok (.iadd, 1) := by decide +kernel
theorem dX10_grownFrom_17 : decode cX10_grownFrom 17 = .ok (.istore_n 2, 1) := by decide +kernel
theorem dX10_grownFrom_18 : decode cX10_grownFrom 18 = .ok (.iinc 3 1, 3) := by decide +kernel
theorem dX10_grownFrom_21 : decode cX10_grownFrom 21 = .ok (.goto (-17), 3) := by decide +kernel
theorem dX10_grownFrom_24 : decode cX10_grownFrom 24 = .ok (.iload_n 2, 1) := by decide +kernel
theorem dX10_grownFrom_25 : decode cX10_grownFrom 25 = .ok (.ireturn, 1) := by decide +kernel
theorem dX10_meanGrown_0 : decode cX10_meanGrown 0 = .ok (.bipush 10, 2) := by decide +kernel
theorem dX10_meanGrown_2 : decode cX10_meanGrown 2 = .ok (.aload_n 0, 1) := by decide +kernel
theorem dX10_meanGrown_3 : decode cX10_meanGrown 3 = .ok (.getfield 22, 3) := by decide +kernel
theorem dX10_meanGrown_6 : decode cX10_meanGrown 6 = .ok (.iconst 4, 1) := by decide +kernel
theorem dX10_meanGrown_7 : decode cX10_meanGrown 7 = .ok (.iaload, 1) := by decide +kernel
theorem dX10_meanGrown_8 : decode cX10_meanGrown 8 = .ok (.isub, 1) := by decide +kernel
theorem dX10_meanGrown_9 : decode cX10_meanGrown 9 = .ok (.aload_n 0, 1) := by decide +kernel
theorem dX10_meanGrown_10 : decode cX10_meanGrown 10 = .ok (.aload_n 0, 1) := by decide +kernel
theorem dX10_meanGrown_11 : decode cX10_meanGrown 11 = .ok (.getfield 16, 3) := by decide +kernel
theorem dX10_meanGrown_14 : decode cX10_meanGrown 14 = .ok (.iload_n 1, 1) := by decide +kernel
theorem dX10_meanGrown_15 : decode cX10_meanGrown 15 = .ok (.iaload, 1) := by decide +kernel
theorem dX10_meanGrown_16 : decode cX10_meanGrown 16 = .ok (.invokevirtual 221, 3) := by decide +kernel
theorem dX10_meanGrown_19 : decode cX10_meanGrown 19 = .ok (.imul, 1) := by decide +kernel
theorem dX10_meanGrown_20 : decode cX10_meanGrown 20 = .ok (.aload_n 0, 1) := by decide +kernel
theorem dX10_meanGrown_21 : decode cX10_meanGrown 21 = .ok (.getfield 22, 3) := by decide +kernel
theorem dX10_meanGrown_24 : decode cX10_meanGrown 24 = .ok (.iconst 4, 1) := by decide +kernel
theorem dX10_meanGrown_25 : decode cX10_meanGrown 25 = .ok (.iaload, 1) := by decide +kernel
theorem dX10_meanGrown_26 : decode cX10_meanGrown 26 = .ok (.aload_n 0, 1) := by decide +kernel
theorem dX10_meanGrown_27 : decode cX10_meanGrown 27 = .ok (.aload_n 0, 1) := by decide +kernel
theorem dX10_meanGrown_28 : decode cX10_meanGrown 28 = .ok (.getfield 16, 3) := by decide +kernel
theorem dX10_meanGrown_31 : decode cX10_meanGrown 31 = .ok (.iload_n 1, 1) := by decide +kernel
theorem dX10_meanGrown_32 : decode cX10_meanGrown 32 = .ok (.iaload, 1) := by decide +kernel
theorem dX10_meanGrown_33 : decode cX10_meanGrown 33 = .ok (.iconst 1, 1) := by decide +kernel
theorem dX10_meanGrown_34 : decode cX10_meanGrown 34 = .ok (.isub, 1) := by decide +kernel
theorem dX10_meanGrown_35 : decode cX10_meanGrown 35 = .ok (.invokevirtual 221, 3) := by decide +kernel
theorem dX10_meanGrown_38 : decode cX10_meanGrown 38 = .ok (.imul, 1) := by decide +kernel
theorem dX10_meanGrown_39 : decode cX10_meanGrown 39 = .ok (.iadd, 1) := by decide +kernel
theorem dX10_meanGrown_40 : decode cX10_meanGrown 40 = .ok (.ireturn, 1) := by decide +kernel
theorem dX10_grown_0 : decode cX10_grown 0 = .ok (.iload_n 1, 1) := by decide +kernel
theorem dX10_grown_1 : decode cX10_grown 1 = .ok (.invokestatic 76, 3) := by decide +kernel
theorem dX10_grown_4 : decode cX10_grown 4 = .ok (.ifCond .ne 7, 3) := by decide +kernel
theorem dX10_grown_7 : decode cX10_grown 7 = .ok (.ldc2_w 216, 3) := by decide +kernel
theorem dX10_grown_10 : decode cX10_grown 10 = .ok (.lreturn, 1) := by decide +kernel
theorem dX10_grown_11 : decode cX10_grown 11 = .ok (.iload_n 2, 1) := by decide +kernel
theorem dX10_grown_12 : decode cX10_grown 12 = .ok (.invokestatic 124, 3) := by decide +kernel
theorem dX10_grown_15 : decode cX10_grown 15 = .ok (.ifCond .eq 10, 3) := by decide +kernel
theorem dX10_grown_18 : decode cX10_grown 18 = .ok (.iload_n 3, 1) := by decide +kernel
theorem dX10_grown_19 : decode cX10_grown 19 = .ok (.invokestatic 124, 3) := by decide +kernel
theorem dX10_grown_22 : decode cX10_grown 22 = .ok (.ifCond .ne 7, 3) := by decide +kernel
theorem dX10_grown_25 : decode cX10_grown 25 = .ok (.ldc2_w 159, 3) := by decide +kernel
theorem dX10_grown_28 : decode cX10_grown 28 = .ok (.lreturn, 1) := by decide +kernel
theorem dX10_grown_29 : decode cX10_grown 29 = .ok (.iload_n 2, 1) := by decide +kernel
theorem dX10_grown_30 : decode cX10_grown 30 = .ok (.ifCond .ne 22, 3) := by decide +kernel
theorem dX10_grown_33 : decode cX10_grown 33 = .ok (.aload_n 0, 1) := by decide +kernel
theorem dX10_grown_34 : decode cX10_grown 34 = .ok (.aload_n 0, 1) := by decide +kernel
theorem dX10_grown_35 : decode cX10_grown 35 = .ok (.getfield 16, 3) := by decide +kernel
theorem dX10_grown_38 : decode cX10_grown 38 = .ok (.iload_n 1, 1) := by decide +kernel
theorem dX10_grown_39 : decode cX10_grown 39 = .ok (.iaload, 1) := by decide +kernel
theorem dX10_grown_40 : decode cX10_grown 40 = .ok (.invokevirtual 221, 3) := by decide +kernel
theorem dX10_grown_43 : decode cX10_grown 43 = .ok (.i2l, 1) := by decide +kernel
theorem dX10_grown_44 : decode cX10_grown 44 = .ok (.lconst 1, 1) := by decide +kernel
theorem dX10_grown_45 : decode cX10_grown 45 = .ok (.iload_n 3, 1) := by decide +kernel
theorem dX10_grown_46 : decode cX10_grown 46 = .ok (.invokestatic 161, 3) := by decide +kernel
theorem dX10_grown_49 : decode cX10_grown 49 = .ok (.goto 16, 3) := by decide +kernel
theorem dX10_grown_52 : decode cX10_grown 52 = .ok (.aload_n 0, 1) := by decide +kernel
theorem dX10_grown_53 : decode cX10_grown 53 = .ok (.iload_n 1, 1) := by decide +kernel
theorem dX10_grown_54 : decode cX10_grown 54 = .ok (.invokevirtual 224, 3) := by decide +kernel
theorem dX10_grown_57 : decode cX10_grown 57 = .ok (.i2l, 1) := by decide +kernel
theorem dX10_grown_58 : decode cX10_grown 58 = .ok (.ldc2_w 101, 3) := by decide +kernel
theorem dX10_grown_61 : decode cX10_grown 61 = .ok (.iload_n 3, 1) := by decide +kernel
theorem dX10_grown_62 : decode cX10_grown 62 = .ok (.invokestatic 161, 3) := by decide +kernel
theorem dX10_grown_65 : decode cX10_grown 65 = .ok (.lreturn, 1) := by decide +kernel
theorem dX10_right_0 : decode cX10_right 0 = .ok (.iload_n 1, 1) := by decide +kernel
theorem dX10_right_1 : decode cX10_right 1 = .ok (.invokestatic 76, 3) := by decide +kernel
theorem dX10_right_4 : decode cX10_right 4 = .ok (.ifCond .ne 7, 3) := by decide +kernel
theorem dX10_right_7 : decode cX10_right 7 = .ok (.ldc2_w 216, 3) := by decide +kernel
theorem dX10_right_10 : decode cX10_right 10 = .ok (.lreturn, 1) := by decide +kernel
theorem dX10_right_11 : decode cX10_right 11 = .ok (.iload_n 2, 1) := by decide +kernel
theorem dX10_right_12 : decode cX10_right 12 = .ok (.invokestatic 152, 3) := by decide +kernel
theorem dX10_right_15 : decode cX10_right 15 = .ok (.ifCond .eq 10, 3) := by decide +kernel
theorem dX10_right_18 : decode cX10_right 18 = .ok (.iload_n 3, 1) := by decide +kernel
theorem dX10_right_19 : decode cX10_right 19 = .ok (.invokestatic 124, 3) := by decide +kernel
theorem dX10_right_22 : decode cX10_right 22 = .ok (.ifCond .ne 7, 3) := by decide +kernel
theorem dX10_right_25 : decode cX10_right 25 = .ok (.ldc2_w 159, 3) := by decide +kernel
theorem dX10_right_28 : decode cX10_right 28 = .ok (.lreturn, 1) := by decide +kernel
theorem dX10_right_29 : decode cX10_right 29 = .ok (.aload_n 0, 1) := by decide +kernel
theorem dX10_right_30 : decode cX10_right 30 = .ok (.iload_n 1, 1) := by decide +kernel
theorem dX10_right_31 : decode cX10_right 31 = .ok (.iload_n 2, 1) := by decide +kernel
theorem dX10_right_32 : decode cX10_right 32 = .ok (.invokevirtual 192, 3) := by decide +kernel
theorem dX10_right_35 : decode cX10_right 35 = .ok (.ldc2_w 101, 3) := by decide +kernel
theorem dX10_right_38 : decode cX10_right 38 = .ok (.aload_n 0, 1) := by decide +kernel
theorem dX10_right_39 : decode cX10_right 39 = .ok (.getfield 185, 3) := by decide +kernel
theorem dX10_right_42 : decode cX10_right 42 = .ok (.i2l, 1) := by decide +kernel
theorem dX10_right_43 : decode cX10_right 43 = .ok (.lmul, 1) := by decide +kernel
theorem dX10_right_44 : decode cX10_right 44 = .ok (.aload_n 0, 1) := by decide +kernel
theorem dX10_right_45 : decode cX10_right 45 = .ok (.iload_n 1, 1) := by decide +kernel
theorem dX10_right_46 : decode cX10_right 46 = .ok (.invokevirtual 224, 3) := by decide +kernel
theorem dX10_right_49 : decode cX10_right 49 = .ok (.i2l, 1) := by decide +kernel
theorem dX10_right_50 : decode cX10_right 50 = .ok (.ladd, 1) := by decide +kernel
theorem dX10_right_51 : decode cX10_right 51 = .ok (.ldc2_w 101, 3) := by decide +kernel
theorem dX10_right_54 : decode cX10_right 54 = .ok (.iload_n 3, 1) := by decide +kernel
theorem dX10_right_55 : decode cX10_right 55 = .ok (.invokestatic 161, 3) := by decide +kernel
theorem dX10_right_58 : decode cX10_right 58 = .ok (.lreturn, 1) := by decide +kernel
theorem dX10_findMix_0 : decode cX10_findMix 0 = .ok (.aload_n 0, 1) := by decide +kernel
theorem dX10_findMix_1 : decode cX10_findMix 1 = .ok (.lconst 0, 1) := by decide +kernel
theorem dX10_findMix_2 : decode cX10_findMix 2 = .ok (.putfield 227, 3) := by decide +kernel
theorem dX10_findMix_5 : decode cX10_findMix 5 = .ok (.aload_n 0, 1) := by decide +kernel
theorem dX10_findMix_6 : decode cX10_findMix 6 = .ok (.lconst 0, 1) := by decide +kernel
theorem dX10_findMix_7 : decode cX10_findMix 7 = .ok (.putfield 231, 3) := by decide +kernel
theorem dX10_findMix_10 : decode cX10_findMix 10 = .ok (.iload 4, 2) := by decide +kernel
theorem dX10_findMix_12 : decode cX10_findMix 12 = .ok (.istore 6, 2) := by decide +kernel
theorem dX10_findMix_14 : decode cX10_findMix 14 = .ok (.iload 6, 2) := by decide +kernel
theorem dX10_findMix_16 : decode cX10_findMix 16 = .ok (.bipush 64, 2) := by decide +kernel
theorem dX10_findMix_18 : decode cX10_findMix 18 = .ok (.if_icmp .ge 65, 3) := by decide +kernel
theorem dX10_findMix_21 : decode cX10_findMix 21 = .ok (.iload 5, 2) := by decide +kernel
theorem dX10_findMix_23 : decode cX10_findMix 23 = .ok (.i2l, 1) := by decide +kernel
theorem dX10_findMix_24 : decode cX10_findMix 24 = .ok (.iload_n 1, 1) := by decide +kernel
theorem dX10_findMix_25 : decode cX10_findMix 25 = .ok (.iload_n 3, 1) := by decide +kernel
theorem dX10_findMix_26 : decode cX10_findMix 26 = .ok (.iload 6, 2) := by decide +kernel
theorem dX10_findMix_28 : decode cX10_findMix 28 = .ok (.invokestatic 155, 3) := by decide +kernel
theorem dX10_findMix_31 : decode cX10_findMix 31 = .ok (.i2l, 1) := by decide +kernel
theorem dX10_findMix_32 : decode cX10_findMix 32 = .ok (.lmul, 1) := by decide +kernel
theorem dX10_findMix_33 : decode cX10_findMix 33 = .ok (.bipush 100, 2) := by decide +kernel
theorem dX10_findMix_35 : decode cX10_findMix 35 = .ok (.iload 5, 2) := by decide +kernel
theorem dX10_findMix_37 : decode cX10_findMix 37 = .ok (.isub, 1) := by decide +kernel
theorem dX10_findMix_38 : decode cX10_findMix 38 = .ok (.i2l, 1) := by decide +kernel
theorem dX10_findMix_39 : decode cX10_findMix 39 = .ok (.iload_n 2, 1) := by decide +kernel
theorem dX10_findMix_40 : decode cX10_findMix 40 = .ok (.iload_n 3, 1) := by decide +kernel
theorem dX10_findMix_41 : decode cX10_findMix 41 = .ok (.iload 6, 2) := by decide +kernel
theorem dX10_findMix_43 : decode cX10_findMix 43 = .ok (.invokestatic 155, 3) := by decide +kernel
theorem dX10_findMix_46 : decode cX10_findMix 46 = .ok (.i2l, 1) := by decide +kernel
theorem dX10_findMix_47 : decode cX10_findMix 47 = .ok (.lmul, 1) := by decide +kernel
theorem dX10_findMix_48 : decode cX10_findMix 48 = .ok (.ladd, 1) := by decide +kernel
theorem dX10_findMix_49 : decode cX10_findMix 49 = .ok (.lstore 7, 2) := by decide +kernel
theorem dX10_findMix_51 : decode cX10_findMix 51 = .ok (.aload_n 0, 1) := by decide +kernel
theorem dX10_findMix_52 : decode cX10_findMix 52 = .ok (.dup, 1) := by decide +kernel
theorem dX10_findMix_53 : decode cX10_findMix 53 = .ok (.getfield 231, 3) := by decide +kernel
theorem dX10_findMix_56 : decode cX10_findMix 56 = .ok (.lload 7, 2) := by decide +kernel
theorem dX10_findMix_58 : decode cX10_findMix 58 = .ok (.ladd, 1) := by decide +kernel
theorem dX10_findMix_59 : decode cX10_findMix 59 = .ok (.putfield 231, 3) := by decide +kernel
theorem dX10_findMix_62 : decode cX10_findMix 62 = .ok (.aload_n 0, 1) := by decide +kernel
theorem dX10_findMix_63 : decode cX10_findMix 63 = .ok (.dup, 1) := by decide +kernel
theorem dX10_findMix_64 : decode cX10_findMix 64 = .ok (.getfield 227, 3) := by decide +kernel
theorem dX10_findMix_67 : decode cX10_findMix 67 = .ok (.iload 6, 2) := by decide +kernel
theorem dX10_findMix_69 : decode cX10_findMix 69 = .ok (.i2l, 1) := by decide +kernel
theorem dX10_findMix_70 : decode cX10_findMix 70 = .ok (.lload 7, 2) := by decide +kernel
theorem dX10_findMix_72 : decode cX10_findMix 72 = .ok (.lmul, 1) := by decide +kernel
theorem dX10_findMix_73 : decode cX10_findMix 73 = .ok (.ladd, 1) := by decide +kernel
theorem dX10_findMix_74 : decode cX10_findMix 74 = .ok (.putfield 227, 3) := by decide +kernel
theorem dX10_findMix_77 : decode cX10_findMix 77 = .ok (.iinc 6 1, 3) := by decide +kernel
theorem dX10_findMix_80 : decode cX10_findMix 80 = .ok (.goto (-66), 3) := by decide +kernel
theorem dX10_findMix_83 : decode cX10_findMix 83 = .ok (.aload_n 0, 1) := by decide +kernel
theorem dX10_findMix_84 : decode cX10_findMix 84 = .ok (.getfield 231, 3) := by decide +kernel
theorem dX10_findMix_87 : decode cX10_findMix 87 = .ok (.lconst 0, 1) := by decide +kernel
theorem dX10_findMix_88 : decode cX10_findMix 88 = .ok (.lcmp, 1) := by decide +kernel
theorem dX10_findMix_89 : decode cX10_findMix 89 = .ok (.ifCond .le 7, 3) := by decide +kernel
theorem dX10_findMix_92 : decode cX10_findMix 92 = .ok (.iconst 1, 1) := by decide +kernel
theorem dX10_findMix_93 : decode cX10_findMix 93 = .ok (.goto 4, 3) := by decide +kernel
theorem dX10_findMix_96 : decode cX10_findMix 96 = .ok (.iconst 0, 1) := by decide +kernel
theorem dX10_findMix_97 : decode cX10_findMix 97 = .ok (.ireturn, 1) := by decide +kernel
theorem dX10_isShare_0 : decode cX10_isShare 0 = .ok (.iload_n 0, 1) := by decide +kernel
theorem dX10_isShare_1 : decode cX10_isShare 1 = .ok (.i2l, 1) := by decide +kernel
theorem dX10_isShare_2 : decode cX10_isShare 2 = .ok (.lconst 0, 1) := by decide +kernel
theorem dX10_isShare_3 : decode cX10_isShare 3 = .ok (.ldc2_w 214, 3) := by decide +kernel
theorem dX10_isShare_6 : decode cX10_isShare 6 = .ok (.invokestatic 64, 3) := by decide +kernel
theorem dX10_isShare_9 : decode cX10_isShare 9 = .ok (.ireturn, 1) := by decide +kernel
theorem dX10_areHumps_0 : decode cX10_areHumps 0 = .ok (.iload_n 0, 1) := by decide +kernel
theorem dX10_areHumps_1 : decode cX10_areHumps 1 = .ok (.invokestatic 80, 3) := by decide +kernel
theorem dX10_areHumps_4 : decode cX10_areHumps 4 = .ok (.ifCond .eq 28, 3) := by decide +kernel
theorem dX10_areHumps_7 : decode cX10_areHumps 7 = .ok (.iload_n 1, 1) := by decide +kernel
theorem dX10_areHumps_8 : decode cX10_areHumps 8 = .ok (.invokestatic 80, 3) := by decide +kernel
theorem dX10_areHumps_11 : decode cX10_areHumps 11 = .ok (.ifCond .eq 21, 3) := by decide +kernel
theorem dX10_areHumps_14 : decode cX10_areHumps 14 = .ok (.iload_n 2, 1) := by decide +kernel
theorem dX10_areHumps_15 : decode cX10_areHumps 15 = .ok (.invokestatic 152, 3) := by decide +kernel
theorem dX10_areHumps_18 : decode cX10_areHumps 18 = .ok (.ifCond .eq 14, 3) := by decide +kernel
theorem dX10_areHumps_21 : decode cX10_areHumps 21 = .ok (.iload_n 3, 1) := by decide +kernel
theorem dX10_areHumps_22 : decode cX10_areHumps 22 = .ok (.invokestatic 80, 3) := by decide +kernel
theorem dX10_areHumps_25 : decode cX10_areHumps 25 = .ok (.ifCond .eq 7, 3) := by decide +kernel
theorem dX10_areHumps_28 : decode cX10_areHumps 28 = .ok (.iconst 1, 1) := by decide +kernel
theorem dX10_areHumps_29 : decode cX10_areHumps 29 = .ok (.goto 4, 3) := by decide +kernel
theorem dX10_areHumps_32 : decode cX10_areHumps 32 = .ok (.iconst 0, 1) := by decide +kernel
theorem dX10_areHumps_33 : decode cX10_areHumps 33 = .ok (.ireturn, 1) := by decide +kernel
theorem dX10_mix_0 : decode cX10_mix 0 = .ok (.iload_n 1, 1) := by decide +kernel
theorem dX10_mix_1 : decode cX10_mix 1 = .ok (.iload_n 2, 1) := by decide +kernel
theorem dX10_mix_2 : decode cX10_mix 2 = .ok (.iload_n 3, 1) := by decide +kernel
theorem dX10_mix_3 : decode cX10_mix 3 = .ok (.iload 4, 2) := by decide +kernel
theorem dX10_mix_5 : decode cX10_mix 5 = .ok (.invokestatic 234, 3) := by decide +kernel
theorem dX10_mix_8 : decode cX10_mix 8 = .ok (.ifCond .eq 19, 3) := by decide +kernel
theorem dX10_mix_11 : decode cX10_mix 11 = .ok (.iload 5, 2) := by decide +kernel
theorem dX10_mix_13 : decode cX10_mix 13 = .ok (.invokestatic 238, 3) := by decide +kernel
theorem dX10_mix_16 : decode cX10_mix 16 = .ok (.ifCond .eq 11, 3) := by decide +kernel
theorem dX10_mix_19 : decode cX10_mix 19 = .ok (.iload 6, 2) := by decide +kernel
theorem dX10_mix_21 : decode cX10_mix 21 = .ok (.invokestatic 124, 3) := by decide +kernel
theorem dX10_mix_24 : decode cX10_mix 24 = .ok (.ifCond .ne 7, 3) := by decide +kernel
theorem dX10_mix_27 : decode cX10_mix 27 = .ok (.ldc2_w 159, 3) := by decide +kernel
theorem dX10_mix_30 : decode cX10_mix 30 = .ok (.lreturn, 1) := by decide +kernel
theorem dX10_mix_31 : decode cX10_mix 31 = .ok (.aload_n 0, 1) := by decide +kernel
theorem dX10_mix_32 : decode cX10_mix 32 = .ok (.iload_n 1, 1) := by decide +kernel
theorem dX10_mix_33 : decode cX10_mix 33 = .ok (.iload_n 2, 1) := by decide +kernel
theorem dX10_mix_34 : decode cX10_mix 34 = .ok (.iload_n 3, 1) := by decide +kernel
theorem dX10_mix_35 : decode cX10_mix 35 = .ok (.iload 4, 2) := by decide +kernel
theorem dX10_mix_37 : decode cX10_mix 37 = .ok (.iload 5, 2) := by decide +kernel
theorem dX10_mix_39 : decode cX10_mix 39 = .ok (.invokevirtual 241, 3) := by decide +kernel
theorem dX10_mix_42 : decode cX10_mix 42 = .ok (.ifCond .eq 19, 3) := by decide +kernel
theorem dX10_mix_45 : decode cX10_mix 45 = .ok (.aload_n 0, 1) := by decide +kernel
theorem dX10_mix_46 : decode cX10_mix 46 = .ok (.getfield 227, 3) := by decide +kernel
theorem dX10_mix_49 : decode cX10_mix 49 = .ok (.aload_n 0, 1) := by decide +kernel
theorem dX10_mix_50 : decode cX10_mix 50 = .ok (.getfield 231, 3) := by decide +kernel
theorem dX10_mix_53 : decode cX10_mix 53 = .ok (.iload 6, 2) := by decide +kernel
theorem dX10_mix_55 : decode cX10_mix 55 = .ok (.invokestatic 161, 3) := by decide +kernel
theorem dX10_mix_58 : decode cX10_mix 58 = .ok (.goto 6, 3) := by decide +kernel
theorem dX10_mix_61 : decode cX10_mix 61 = .ok (.ldc2_w 245, 3) := by decide +kernel
theorem dX10_mix_64 : decode cX10_mix 64 = .ok (.lreturn, 1) := by decide +kernel
theorem dX10_less_0 : decode cX10_less 0 = .ok (.lload_n 0, 1) := by decide +kernel
theorem dX10_less_1 : decode cX10_less 1 = .ok (.lload_n 2, 1) := by decide +kernel
theorem dX10_less_2 : decode cX10_less 2 = .ok (.invokestatic 72, 3) := by decide +kernel
theorem dX10_less_5 : decode cX10_less 5 = .ok (.lstore 9, 2) := by decide +kernel
theorem dX10_less_7 : decode cX10_less 7 = .ok (.lload 4, 2) := by decide +kernel
theorem dX10_less_9 : decode cX10_less 9 = .ok (.lload 6, 2) := by decide +kernel
theorem dX10_less_11 : decode cX10_less 11 = .ok (.invokestatic 72, 3) := by decide +kernel
theorem dX10_less_14 : decode cX10_less 14 = .ok (.lstore 11, 2) := by decide +kernel
theorem dX10_less_16 : decode cX10_less 16 = .ok (.lload_n 0, 1) := by decide +kernel
theorem dX10_less_17 : decode cX10_less 17 = .ok (.lload 9, 2) := by decide +kernel
theorem dX10_less_19 : decode cX10_less 19 = .ok (.ldiv, 1) := by decide +kernel
theorem dX10_less_20 : decode cX10_less 20 = .ok (.lstore 13, 2) := by decide +kernel
theorem dX10_less_22 : decode cX10_less 22 = .ok (.lload_n 2, 1) := by decide +kernel
theorem dX10_less_23 : decode cX10_less 23 = .ok (.lload 9, 2) := by decide +kernel
theorem dX10_less_25 : decode cX10_less 25 = .ok (.ldiv, 1) := by decide +kernel
theorem dX10_less_26 : decode cX10_less 26 = .ok (.lstore 15, 2) := by decide +kernel
theorem dX10_less_28 : decode cX10_less 28 = .ok (.lload 4, 2) := by decide +kernel
theorem dX10_less_30 : decode cX10_less 30 = .ok (.lload 11, 2) := by decide +kernel
theorem dX10_less_32 : decode cX10_less 32 = .ok (.ldiv, 1) := by decide +kernel
theorem dX10_less_33 : decode cX10_less 33 = .ok (.lstore 17, 2) := by decide +kernel
theorem dX10_less_35 : decode cX10_less 35 = .ok (.lload 6, 2) := by decide +kernel
theorem dX10_less_37 : decode cX10_less 37 = .ok (.lload 11, 2) := by decide +kernel
theorem dX10_less_39 : decode cX10_less 39 = .ok (.ldiv, 1) := by decide +kernel
theorem dX10_less_40 : decode cX10_less 40 = .ok (.lstore 19, 2) := by decide +kernel
theorem dX10_less_42 : decode cX10_less 42 = .ok (.lload 13, 2) := by decide +kernel
theorem dX10_less_44 : decode cX10_less 44 = .ok (.lload 19, 2) := by decide +kernel
theorem dX10_less_46 : decode cX10_less 46 = .ok (.lmul, 1) := by decide +kernel
theorem dX10_less_47 : decode cX10_less 47 = .ok (.lload 17, 2) := by decide +kernel
theorem dX10_less_49 : decode cX10_less 49 = .ok (.lload 15, 2) := by decide +kernel
theorem dX10_less_51 : decode cX10_less 51 = .ok (.lmul, 1) := by decide +kernel
theorem dX10_less_52 : decode cX10_less 52 = .ok (.lsub, 1) := by decide +kernel
theorem dX10_less_53 : decode cX10_less 53 = .ok (.lload 15, 2) := by decide +kernel
theorem dX10_less_55 : decode cX10_less 55 = .ok (.lload 19, 2) := by decide +kernel
theorem dX10_less_57 : decode cX10_less 57 = .ok (.lmul, 1) := by decide +kernel
theorem dX10_less_58 : decode cX10_less 58 = .ok (.iload 8, 2) := by decide +kernel
theorem dX10_less_60 : decode cX10_less 60 = .ok (.invokestatic 161, 3) := by decide +kernel
theorem dX10_less_63 : decode cX10_less 63 = .ok (.lreturn, 1) := by decide +kernel
theorem dX10_fall_0 : decode cX10_fall 0 = .ok (.iload_n 1, 1) := by decide +kernel
theorem dX10_fall_1 : decode cX10_fall 1 = .ok (.iload_n 2, 1) := by decide +kernel
theorem dX10_fall_2 : decode cX10_fall 2 = .ok (.iload_n 3, 1) := by decide +kernel
theorem dX10_fall_3 : decode cX10_fall 3 = .ok (.iload 4, 2) := by decide +kernel
theorem dX10_fall_5 : decode cX10_fall 5 = .ok (.invokestatic 234, 3) := by decide +kernel
theorem dX10_fall_8 : decode cX10_fall 8 = .ok (.ifCond .eq 27, 3) := by decide +kernel
theorem dX10_fall_11 : decode cX10_fall 11 = .ok (.iload 5, 2) := by decide +kernel
theorem dX10_fall_13 : decode cX10_fall 13 = .ok (.invokestatic 238, 3) := by decide +kernel
theorem dX10_fall_16 : decode cX10_fall 16 = .ok (.ifCond .eq 19, 3) := by decide +kernel
theorem dX10_fall_19 : decode cX10_fall 19 = .ok (.iload 6, 2) := by decide +kernel
theorem dX10_fall_21 : decode cX10_fall 21 = .ok (.invokestatic 238, 3) := by decide +kernel
theorem dX10_fall_24 : decode cX10_fall 24 = .ok (.ifCond .eq 11, 3) := by decide +kernel
theorem dX10_fall_27 : decode cX10_fall 27 = .ok (.iload 7, 2) := by decide +kernel
theorem dX10_fall_29 : decode cX10_fall 29 = .ok (.invokestatic 124, 3) := by decide +kernel
theorem dX10_fall_32 : decode cX10_fall 32 = .ok (.ifCond .ne 7, 3) := by decide +kernel
theorem dX10_fall_35 : decode cX10_fall 35 = .ok (.ldc2_w 159, 3) := by decide +kernel
theorem dX10_fall_38 : decode cX10_fall 38 = .ok (.lreturn, 1) := by decide +kernel
theorem dX10_fall_39 : decode cX10_fall 39 = .ok (.aload_n 0, 1) := by decide +kernel
theorem dX10_fall_40 : decode cX10_fall 40 = .ok (.iload_n 1, 1) := by decide +kernel
theorem dX10_fall_41 : decode cX10_fall 41 = .ok (.iload_n 2, 1) := by decide +kernel
theorem dX10_fall_42 : decode cX10_fall 42 = .ok (.iload_n 3, 1) := by decide +kernel
theorem dX10_fall_43 : decode cX10_fall 43 = .ok (.iload 4, 2) := by decide +kernel
theorem dX10_fall_45 : decode cX10_fall 45 = .ok (.iload 5, 2) := by decide +kernel
theorem dX10_fall_47 : decode cX10_fall 47 = .ok (.invokevirtual 241, 3) := by decide +kernel
theorem dX10_fall_50 : decode cX10_fall 50 = .ok (.istore 8, 2) := by decide +kernel
theorem dX10_fall_52 : decode cX10_fall 52 = .ok (.aload_n 0, 1) := by decide +kernel
theorem dX10_fall_53 : decode cX10_fall 53 = .ok (.getfield 227, 3) := by decide +kernel
theorem dX10_fall_56 : decode cX10_fall 56 = .ok (.lstore 9, 2) := by decide +kernel
theorem dX10_fall_58 : decode cX10_fall 58 = .ok (.aload_n 0, 1) := by decide +kernel
theorem dX10_fall_59 : decode cX10_fall 59 = .ok (.getfield 231, 3) := by decide +kernel
theorem dX10_fall_62 : decode cX10_fall 62 = .ok (.lstore 11, 2) := by decide +kernel
theorem dX10_fall_64 : decode cX10_fall 64 = .ok (.iload 8, 2) := by decide +kernel
theorem dX10_fall_66 : decode cX10_fall 66 = .ok (.ifCond .eq 37, 3) := by decide +kernel
theorem dX10_fall_69 : decode cX10_fall 69 = .ok (.aload_n 0, 1) := by decide +kernel
theorem dX10_fall_70 : decode cX10_fall 70 = .ok (.iload_n 1, 1) := by decide +kernel
theorem dX10_fall_71 : decode cX10_fall 71 = .ok (.iload_n 2, 1) := by decide +kernel
theorem dX10_fall_72 : decode cX10_fall 72 = .ok (.iload_n 3, 1) := by decide +kernel
theorem dX10_fall_73 : decode cX10_fall 73 = .ok (.iload 4, 2) := by decide +kernel
theorem dX10_fall_75 : decode cX10_fall 75 = .ok (.iload 6, 2) := by decide +kernel
theorem dX10_fall_77 : decode cX10_fall 77 = .ok (.invokevirtual 241, 3) := by decide +kernel
theorem dX10_fall_80 : decode cX10_fall 80 = .ok (.ifCond .eq 23, 3) := by decide +kernel
theorem dX10_fall_83 : decode cX10_fall 83 = .ok (.lload 9, 2) := by decide +kernel
theorem dX10_fall_85 : decode cX10_fall 85 = .ok (.lload 11, 2) := by decide +kernel
theorem dX10_fall_87 : decode cX10_fall 87 = .ok (.aload_n 0, 1) := by decide +kernel
theorem dX10_fall_88 : decode cX10_fall 88 = .ok (.getfield 227, 3) := by decide +kernel
theorem dX10_fall_91 : decode cX10_fall 91 = .ok (.aload_n 0, 1) := by decide +kernel
theorem dX10_fall_92 : decode cX10_fall 92 = .ok (.getfield 231, 3) := by decide +kernel
theorem dX10_fall_95 : decode cX10_fall 95 = .ok (.iload 7, 2) := by decide +kernel
theorem dX10_fall_97 : decode cX10_fall 97 = .ok (.invokestatic 247, 3) := by decide +kernel
theorem dX10_fall_100 : decode cX10_fall 100 = .ok (.goto 6, 3) := by decide +kernel
theorem dX10_fall_103 : decode cX10_fall 103 = .ok (.ldc2_w 245, 3) := by decide +kernel
theorem dX10_fall_106 : decode cX10_fall 106 = .ok (.lreturn, 1) := by decide +kernel
theorem dX10_areShares_0 : decode cX10_areShares 0 = .ok (.iload_n 0, 1) := by decide +kernel
theorem dX10_areShares_1 : decode cX10_areShares 1 = .ok (.ifCond .lt 39, 3) := by decide +kernel
theorem dX10_areShares_4 : decode cX10_areShares 4 = .ok (.iload_n 0, 1) := by decide +kernel
theorem dX10_areShares_5 : decode cX10_areShares 5 = .ok (.sipush 1000, 3) := by decide +kernel
theorem dX10_areShares_8 : decode cX10_areShares 8 = .ok (.idiv, 1) := by decide +kernel
theorem dX10_areShares_9 : decode cX10_areShares 9 = .ok (.invokestatic 238, 3) := by decide +kernel
theorem dX10_areShares_12 : decode cX10_areShares 12 = .ok (.ifCond .eq 28, 3) := by decide +kernel
theorem dX10_areShares_15 : decode cX10_areShares 15 = .ok (.iload_n 0, 1) := by decide +kernel
theorem dX10_areShares_16 : decode cX10_areShares 16 = .ok (.sipush 1000, 3) := by decide +kernel
theorem dX10_areShares_19 : decode cX10_areShares 19 = .ok (.irem, 1) := by decide +kernel
theorem dX10_areShares_20 : decode cX10_areShares 20 = .ok (.i2l, 1) := by decide +kernel
theorem dX10_areShares_21 : decode cX10_areShares 21 = .ok (.iload_n 0, 1) := by decide +kernel
theorem dX10_areShares_22 : decode cX10_areShares 22 = .ok (.sipush 1000, 3) := by decide +kernel
theorem dX10_areShares_25 : decode cX10_areShares 25 = .ok (.idiv, 1) := by decide +kernel
theorem dX10_areShares_26 : decode cX10_areShares 26 = .ok (.i2l, 1) := by decide +kernel
theorem dX10_areShares_27 : decode cX10_areShares 27 = .ok (.ldc2_w 214, 3) := by decide +kernel
theorem dX10_areShares_30 : decode cX10_areShares 30 = .ok (.invokestatic 64, 3) := by decide +kernel
theorem dX10_areShares_33 : decode cX10_areShares 33 = .ok (.ifCond .eq 7, 3) := by decide +kernel
theorem dX10_areShares_36 : decode cX10_areShares 36 = .ok (.iconst 1, 1) := by decide +kernel
theorem dX10_areShares_37 : decode cX10_areShares 37 = .ok (.goto 4, 3) := by decide +kernel
theorem dX10_areShares_40 : decode cX10_areShares 40 = .ok (.iconst 0, 1) := by decide +kernel
theorem dX10_areShares_41 : decode cX10_areShares 41 = .ok (.ireturn, 1) := by decide +kernel
theorem dX10_findEnd_0 : decode cX10_findEnd 0 = .ok (.aload_n 0, 1) := by decide +kernel
theorem dX10_findEnd_1 : decode cX10_findEnd 1 = .ok (.lconst 0, 1) := by decide +kernel
theorem dX10_findEnd_2 : decode cX10_findEnd 2 = .ok (.putfield 251, 3) := by decide +kernel
theorem dX10_findEnd_5 : decode cX10_findEnd 5 = .ok (.iload 5, 2) := by decide +kernel
theorem dX10_findEnd_7 : decode cX10_findEnd 7 = .ok (.sipush 1000, 3) := by decide +kernel
theorem dX10_findEnd_10 : decode cX10_findEnd 10 = .ok (.idiv, 1) := by decide +kernel
theorem dX10_findEnd_11 : decode cX10_findEnd 11 = .ok (.istore 7, 2) := by decide +kernel
theorem dX10_findEnd_13 : decode cX10_findEnd 13 = .ok (.iload 7, 2) := by decide +kernel
theorem dX10_findEnd_15 : decode cX10_findEnd 15 = .ok (.iload 5, 2) := by decide +kernel
theorem dX10_findEnd_17 : decode cX10_findEnd 17 = .ok (.sipush 1000, 3) := by decide +kernel
theorem dX10_findEnd_20 : decode cX10_findEnd 20 = .ok (.irem, 1) := by decide +kernel
theorem dX10_findEnd_21 : decode cX10_findEnd 21 = .ok (.if_icmp .gt 93, 3) := by decide +kernel
theorem dX10_findEnd_24 : decode cX10_findEnd 24 = .ok (.aload_n 0, 1) := by decide +kernel
theorem dX10_findEnd_25 : decode cX10_findEnd 25 = .ok (.iload_n 1, 1) := by decide +kernel
theorem dX10_findEnd_26 : decode cX10_findEnd 26 = .ok (.iload_n 2, 1) := by decide +kernel
theorem dX10_findEnd_27 : decode cX10_findEnd 27 = .ok (.iload_n 3, 1) := by decide +kernel
theorem dX10_findEnd_28 : decode cX10_findEnd 28 = .ok (.iload 4, 2) := by decide +kernel
theorem dX10_findEnd_30 : decode cX10_findEnd 30 = .ok (.iload 7, 2) := by decide +kernel
theorem dX10_findEnd_32 : decode cX10_findEnd 32 = .ok (.invokevirtual 241, 3) := by decide +kernel
theorem dX10_findEnd_35 : decode cX10_findEnd 35 = .ok (.ifCond .ne 5, 3) := by decide +kernel
theorem dX10_findEnd_38 : decode cX10_findEnd 38 = .ok (.iconst 0, 1) := by decide +kernel
theorem dX10_findEnd_39 : decode cX10_findEnd 39 = .ok (.ireturn, 1) := by decide +kernel
theorem dX10_findEnd_40 : decode cX10_findEnd 40 = .ok (.aload_n 0, 1) := by decide +kernel
theorem dX10_findEnd_41 : decode cX10_findEnd 41 = .ok (.getfield 227, 3) := by decide +kernel
theorem dX10_findEnd_44 : decode cX10_findEnd 44 = .ok (.aload_n 0, 1) := by decide +kernel
theorem dX10_findEnd_45 : decode cX10_findEnd 45 = .ok (.getfield 251, 3) := by decide +kernel
theorem dX10_findEnd_48 : decode cX10_findEnd 48 = .ok (.lmul, 1) := by decide +kernel
theorem dX10_findEnd_49 : decode cX10_findEnd 49 = .ok (.aload_n 0, 1) := by decide +kernel
theorem dX10_findEnd_50 : decode cX10_findEnd 50 = .ok (.getfield 254, 3) := by decide +kernel
theorem dX10_findEnd_53 : decode cX10_findEnd 53 = .ok (.aload_n 0, 1) := by decide +kernel
theorem dX10_findEnd_54 : decode cX10_findEnd 54 = .ok (.getfield 231, 3) := by decide +kernel
theorem dX10_findEnd_57 : decode cX10_findEnd 57 = .ok (.lmul, 1) := by decide +kernel
theorem dX10_findEnd_58 : decode cX10_findEnd 58 = .ok (.lsub, 1) := by decide +kernel
theorem dX10_findEnd_59 : decode cX10_findEnd 59 = .ok (.lstore 8, 2) := by decide +kernel
theorem dX10_findEnd_61 : decode cX10_findEnd 61 = .ok (.aload_n 0, 1) := by decide +kernel
theorem dX10_findEnd_62 : decode cX10_findEnd 62 = .ok (.getfield 251, 3) := by decide +kernel
theorem dX10_findEnd_65 : decode cX10_findEnd 65 = .ok (.lconst 0, 1) := by decide +kernel
theorem dX10_findEnd_66 : decode cX10_findEnd 66 = .ok (.lcmp, 1) := by decide +kernel
theorem dX10_findEnd_67 : decode cX10_findEnd 67 = .ok (.ifCond .eq 25, 3) := by decide +kernel
theorem dX10_findEnd_70 : decode cX10_findEnd 70 = .ok (.iload 6, 2) := by decide +kernel
theorem dX10_findEnd_72 : decode cX10_findEnd 72 = .ok (.ifCond .eq 13, 3) := by decide +kernel
theorem dX10_findEnd_75 : decode cX10_findEnd 75 = .ok (.lload 8, 2) := by decide +kernel
theorem dX10_findEnd_77 : decode cX10_findEnd 77 = .ok (.lconst 0, 1) := by decide +kernel
theorem dX10_findEnd_78 : decode cX10_findEnd 78 = .ok (.lcmp, 1) := by decide +kernel
theorem dX10_findEnd_79 : decode cX10_findEnd 79 = .ok (.ifCond .le 29, 3) := by decide +kernel
theorem dX10_findEnd_82 : decode cX10_findEnd 82 = .ok (.goto 10, 3) := by decide +kernel
theorem dX10_findEnd_85 : decode cX10_findEnd 85 = .ok (.lload 8, 2) := by decide +kernel
theorem dX10_findEnd_87 : decode cX10_findEnd 87 = .ok (.lconst 0, 1) := by decide +kernel
theorem dX10_findEnd_88 : decode cX10_findEnd 88 = .ok (.lcmp, 1) := by decide +kernel
theorem dX10_findEnd_89 : decode cX10_findEnd 89 = .ok (.ifCond .ge 19, 3) := by decide +kernel
theorem dX10_findEnd_92 : decode cX10_findEnd 92 = .ok (.aload_n 0, 1) := by decide +kernel
theorem dX10_findEnd_93 : decode cX10_findEnd 93 = .ok (.aload_n 0, 1) := by decide +kernel
theorem dX10_findEnd_94 : decode cX10_findEnd 94 = .ok (.getfield 227, 3) := by decide +kernel
theorem dX10_findEnd_97 : decode cX10_findEnd 97 = .ok (.putfield 254, 3) := by decide +kernel
theorem dX10_findEnd_100 : decode cX10_findEnd 100 = .ok (.aload_n 0, 1) := by decide +kernel
theorem dX10_findEnd_101 : decode cX10_findEnd 101 = .ok (.aload_n 0, 1) := by decide +kernel
theorem dX10_findEnd_102 : decode cX10_findEnd 102 = .ok (.getfield 231, 3) := by decide +kernel
theorem dX10_findEnd_105 : decode cX10_findEnd 105 = .ok (.putfield 251, 3) := by decide +kernel
theorem dX10_findEnd_108 : decode cX10_findEnd 108 = .ok (.iinc 7 1, 3) := by decide +kernel
theorem dX10_findEnd_111 : decode cX10_findEnd 111 = .ok (.goto (-98), 3) := by decide +kernel
theorem dX10_findEnd_114 : decode cX10_findEnd 114 = .ok (.iconst 1, 1) := by decide +kernel
theorem dX10_findEnd_115 : decode cX10_findEnd 115 = .ok (.ireturn, 1) := by decide +kernel
theorem dX10_alone_0 : decode cX10_alone 0 = .ok (.iload_n 1, 1) := by decide +kernel
theorem dX10_alone_1 : decode cX10_alone 1 = .ok (.iload_n 2, 1) := by decide +kernel
theorem dX10_alone_2 : decode cX10_alone 2 = .ok (.iload_n 3, 1) := by decide +kernel
theorem dX10_alone_3 : decode cX10_alone 3 = .ok (.iload 4, 2) := by decide +kernel
theorem dX10_alone_5 : decode cX10_alone 5 = .ok (.invokestatic 234, 3) := by decide +kernel
theorem dX10_alone_8 : decode cX10_alone 8 = .ok (.ifCond .eq 35, 3) := by decide +kernel
theorem dX10_alone_11 : decode cX10_alone 11 = .ok (.iload 5, 2) := by decide +kernel
theorem dX10_alone_13 : decode cX10_alone 13 = .ok (.invokestatic 257, 3) := by decide +kernel
theorem dX10_alone_16 : decode cX10_alone 16 = .ok (.ifCond .eq 27, 3) := by decide +kernel
theorem dX10_alone_19 : decode cX10_alone 19 = .ok (.iload 6, 2) := by decide +kernel
theorem dX10_alone_21 : decode cX10_alone 21 = .ok (.invokestatic 257, 3) := by decide +kernel
theorem dX10_alone_24 : decode cX10_alone 24 = .ok (.ifCond .eq 19, 3) := by decide +kernel
theorem dX10_alone_27 : decode cX10_alone 27 = .ok (.iload 7, 2) := by decide +kernel
theorem dX10_alone_29 : decode cX10_alone 29 = .ok (.invokestatic 124, 3) := by decide +kernel
theorem dX10_alone_32 : decode cX10_alone 32 = .ok (.ifCond .eq 11, 3) := by decide +kernel
theorem dX10_alone_35 : decode cX10_alone 35 = .ok (.iload 8, 2) := by decide +kernel
theorem dX10_alone_37 : decode cX10_alone 37 = .ok (.invokestatic 124, 3) := by decide +kernel
theorem dX10_alone_40 : decode cX10_alone 40 = .ok (.ifCond .ne 7, 3) := by decide +kernel
theorem dX10_alone_43 : decode cX10_alone 43 = .ok (.ldc2_w 159, 3) := by decide +kernel
theorem dX10_alone_46 : decode cX10_alone 46 = .ok (.lreturn, 1) := by decide +kernel
theorem dX10_alone_47 : decode cX10_alone 47 = .ok (.aload_n 0, 1) := by decide +kernel
theorem dX10_alone_48 : decode cX10_alone 48 = .ok (.iload_n 1, 1) := by decide +kernel
theorem dX10_alone_49 : decode cX10_alone 49 = .ok (.iload_n 2, 1) := by decide +kernel
theorem dX10_alone_50 : decode cX10_alone 50 = .ok (.iload_n 3, 1) := by decide +kernel
theorem dX10_alone_51 : decode cX10_alone 51 = .ok (.iload 4, 2) := by decide +kernel
theorem dX10_alone_53 : decode cX10_alone 53 = .ok (.iload 5, 2) := by decide +kernel
theorem dX10_alone_55 : decode cX10_alone 55 = .ok (.iload 7, 2) := by decide +kernel
theorem dX10_alone_57 : decode cX10_alone 57 = .ok (.iconst 1, 1) := by decide +kernel
theorem dX10_alone_58 : decode cX10_alone 58 = .ok (.if_icmp .ne 7, 3) := by decide +kernel
theorem dX10_alone_61 : decode cX10_alone 61 = .ok (.iconst 1, 1) := by decide +kernel
theorem dX10_alone_62 : decode cX10_alone 62 = .ok (.goto 4, 3) := by decide +kernel
theorem dX10_alone_65 : decode cX10_alone 65 = .ok (.iconst 0, 1) := by decide +kernel
theorem dX10_alone_66 : decode cX10_alone 66 = .ok (.invokevirtual 260, 3) := by decide +kernel
theorem dX10_alone_69 : decode cX10_alone 69 = .ok (.istore 9, 2) := by decide +kernel
theorem dX10_alone_71 : decode cX10_alone 71 = .ok (.aload_n 0, 1) := by decide +kernel
theorem dX10_alone_72 : decode cX10_alone 72 = .ok (.getfield 254, 3) := by decide +kernel
theorem dX10_alone_75 : decode cX10_alone 75 = .ok (.lstore 10, 2) := by decide +kernel
theorem dX10_alone_77 : decode cX10_alone 77 = .ok (.aload_n 0, 1) := by decide +kernel
theorem dX10_alone_78 : decode cX10_alone 78 = .ok (.getfield 251, 3) := by decide +kernel
theorem dX10_alone_81 : decode cX10_alone 81 = .ok (.lstore 12, 2) := by decide +kernel
theorem dX10_alone_83 : decode cX10_alone 83 = .ok (.iload 9, 2) := by decide +kernel
theorem dX10_alone_85 : decode cX10_alone 85 = .ok (.ifCond .eq 47, 3) := by decide +kernel
theorem dX10_alone_88 : decode cX10_alone 88 = .ok (.aload_n 0, 1) := by decide +kernel
theorem dX10_alone_89 : decode cX10_alone 89 = .ok (.iload_n 1, 1) := by decide +kernel
theorem dX10_alone_90 : decode cX10_alone 90 = .ok (.iload_n 2, 1) := by decide +kernel
theorem dX10_alone_91 : decode cX10_alone 91 = .ok (.iload_n 3, 1) := by decide +kernel
theorem dX10_alone_92 : decode cX10_alone 92 = .ok (.iload 4, 2) := by decide +kernel
theorem dX10_alone_94 : decode cX10_alone 94 = .ok (.iload 6, 2) := by decide +kernel
theorem dX10_alone_96 : decode cX10_alone 96 = .ok (.iload 7, 2) := by decide +kernel
theorem dX10_alone_98 : decode cX10_alone 98 = .ok (.ifCond .ne 7, 3) := by decide +kernel
theorem dX10_alone_101 : decode cX10_alone 101 = .ok (.iconst 1, 1) := by decide +kernel
theorem dX10_alone_102 : decode cX10_alone 102 = .ok (.goto 4, 3) := by decide +kernel
theorem dX10_alone_105 : decode cX10_alone 105 = .ok (.iconst 0, 1) := by decide +kernel
theorem dX10_alone_106 : decode cX10_alone 106 = .ok (.invokevirtual 260, 3) := by decide +kernel
theorem dX10_alone_109 : decode cX10_alone 109 = .ok (.ifCond .eq 23, 3) := by decide +kernel
theorem dX10_alone_112 : decode cX10_alone 112 = .ok (.lload 10, 2) := by decide +kernel
theorem dX10_alone_114 : decode cX10_alone 114 = .ok (.lload 12, 2) := by decide +kernel
theorem dX10_alone_116 : decode cX10_alone 116 = .ok (.aload_n 0, 1) := by decide +kernel
theorem dX10_alone_117 : decode cX10_alone 117 = .ok (.getfield 254, 3) := by decide +kernel
theorem dX10_alone_120 : decode cX10_alone 120 = .ok (.aload_n 0, 1) := by decide +kernel
theorem dX10_alone_121 : decode cX10_alone 121 = .ok (.getfield 251, 3) := by decide +kernel
theorem dX10_alone_124 : decode cX10_alone 124 = .ok (.iload 8, 2) := by decide +kernel
theorem dX10_alone_126 : decode cX10_alone 126 = .ok (.invokestatic 247, 3) := by decide +kernel
theorem dX10_alone_129 : decode cX10_alone 129 = .ok (.goto 6, 3) := by decide +kernel
theorem dX10_alone_132 : decode cX10_alone 132 = .ok (.ldc2_w 245, 3) := by decide +kernel
theorem dX10_alone_135 : decode cX10_alone 135 = .ok (.lreturn, 1) := by decide +kernel
theorem dX10_sumOf_0 : decode cX10_sumOf 0 = .ok (.lconst 0, 1) := by decide +kernel
theorem dX10_sumOf_1 : decode cX10_sumOf 1 = .ok (.lstore_n 2, 1) := by decide +kernel
theorem dX10_sumOf_2 : decode cX10_sumOf 2 = .ok (.iconst 0, 1) := by decide +kernel
theorem dX10_sumOf_3 : decode cX10_sumOf 3 = .ok (.istore 4, 2) := by decide +kernel
theorem dX10_sumOf_5 : decode cX10_sumOf 5 = .ok (.iload 4, 2) := by decide +kernel
theorem dX10_sumOf_7 : decode cX10_sumOf 7 = .ok (.bipush 64, 2) := by decide +kernel
end
section
theorem dX10_sumOf_9 : decode cX10_sumOf 9 = .ok (.if_icmp .ge 27, 3) := by decide +kernel
theorem dX10_sumOf_12 : decode cX10_sumOf 12 = .ok (.lload_n 2, 1) := by decide +kernel
theorem dX10_sumOf_13 : decode cX10_sumOf 13 = .ok (.iload 4, 2) := by decide +kernel
theorem dX10_sumOf_15 : decode cX10_sumOf 15 = .ok (.aload_n 0, 1) := by decide +kernel
theorem dX10_sumOf_16 : decode cX10_sumOf 16 = .ok (.getfield 7, 3) := by decide +kernel
theorem dX10_sumOf_19 : decode cX10_sumOf 19 = .ok (.iload_n 1, 1) := by decide +kernel
theorem dX10_sumOf_20 : decode cX10_sumOf 20 = .ok (.iload 4, 2) := by decide +kernel
theorem dX10_sumOf_22 : decode cX10_sumOf 22 = .ok (.invokestatic 85, 3) := by decide +kernel
theorem dX10_sumOf_25 : decode cX10_sumOf 25 = .ok (.iaload, 1) := by decide +kernel
theorem dX10_sumOf_26 : decode cX10_sumOf 26 = .ok (.imul, 1) := by decide +kernel
theorem dX10_sumOf_27 : decode cX10_sumOf 27 = .ok (.i2l, 1) := by decide +kernel
theorem dX10_sumOf_28 : decode cX10_sumOf 28 = .ok (.ladd, 1) := by decide +kernel
theorem dX10_sumOf_29 : decode cX10_sumOf 29 = .ok (.lstore_n 2, 1) := by decide +kernel
theorem dX10_sumOf_30 : decode cX10_sumOf 30 = .ok (.iinc 4 1, 3) := by decide +kernel
theorem dX10_sumOf_33 : decode cX10_sumOf 33 = .ok (.goto (-28), 3) := by decide +kernel
theorem dX10_sumOf_36 : decode cX10_sumOf 36 = .ok (.lload_n 2, 1) := by decide +kernel
theorem dX10_sumOf_37 : decode cX10_sumOf 37 = .ok (.lreturn, 1) := by decide +kernel
theorem dX10_mean_0 : decode cX10_mean 0 = .ok (.iload_n 1, 1) := by decide +kernel
theorem dX10_mean_1 : decode cX10_mean 1 = .ok (.invokestatic 76, 3) := by decide +kernel
theorem dX10_mean_4 : decode cX10_mean 4 = .ok (.ifCond .ne 7, 3) := by decide +kernel
theorem dX10_mean_7 : decode cX10_mean 7 = .ok (.ldc2_w 216, 3) := by decide +kernel
theorem dX10_mean_10 : decode cX10_mean 10 = .ok (.lreturn, 1) := by decide +kernel
theorem dX10_mean_11 : decode cX10_mean 11 = .ok (.iload_n 2, 1) := by decide +kernel
theorem dX10_mean_12 : decode cX10_mean 12 = .ok (.invokestatic 124, 3) := by decide +kernel
theorem dX10_mean_15 : decode cX10_mean 15 = .ok (.ifCond .eq 21, 3) := by decide +kernel
theorem dX10_mean_18 : decode cX10_mean 18 = .ok (.aload_n 0, 1) := by decide +kernel
theorem dX10_mean_19 : decode cX10_mean 19 = .ok (.iload_n 1, 1) := by decide +kernel
theorem dX10_mean_20 : decode cX10_mean 20 = .ok (.invokevirtual 264, 3) := by decide +kernel
theorem dX10_mean_23 : decode cX10_mean 23 = .ok (.aload_n 0, 1) := by decide +kernel
theorem dX10_mean_24 : decode cX10_mean 24 = .ok (.iload_n 1, 1) := by decide +kernel
theorem dX10_mean_25 : decode cX10_mean 25 = .ok (.invokevirtual 172, 3) := by decide +kernel
theorem dX10_mean_28 : decode cX10_mean 28 = .ok (.i2l, 1) := by decide +kernel
theorem dX10_mean_29 : decode cX10_mean 29 = .ok (.iload_n 2, 1) := by decide +kernel
theorem dX10_mean_30 : decode cX10_mean 30 = .ok (.invokestatic 161, 3) := by decide +kernel
theorem dX10_mean_33 : decode cX10_mean 33 = .ok (.goto 6, 3) := by decide +kernel
theorem dX10_mean_36 : decode cX10_mean 36 = .ok (.ldc2_w 159, 3) := by decide +kernel
theorem dX10_mean_39 : decode cX10_mean 39 = .ok (.lreturn, 1) := by decide +kernel
theorem dX10_modeOf_0 : decode cX10_modeOf 0 = .ok (.bipush (-6), 2) := by decide +kernel
theorem dX10_modeOf_2 : decode cX10_modeOf 2 = .ok (.istore_n 2, 1) := by decide +kernel
theorem dX10_modeOf_3 : decode cX10_modeOf 3 = .ok (.iconst 0, 1) := by decide +kernel
theorem dX10_modeOf_4 : decode cX10_modeOf 4 = .ok (.istore_n 3, 1) := by decide +kernel
theorem dX10_modeOf_5 : decode cX10_modeOf 5 = .ok (.iload_n 3, 1) := by decide +kernel
theorem dX10_modeOf_6 : decode cX10_modeOf 6 = .ok (.bipush 64, 2) := by decide +kernel
theorem dX10_modeOf_8 : decode cX10_modeOf 8 = .ok (.if_icmp .ge 51, 3) := by decide +kernel
theorem dX10_modeOf_11 : decode cX10_modeOf 11 = .ok (.aload_n 0, 1) := by decide +kernel
theorem dX10_modeOf_12 : decode cX10_modeOf 12 = .ok (.getfield 7, 3) := by decide +kernel
theorem dX10_modeOf_15 : decode cX10_modeOf 15 = .ok (.iload_n 1, 1) := by decide +kernel
theorem dX10_modeOf_16 : decode cX10_modeOf 16 = .ok (.iload_n 3, 1) := by decide +kernel
theorem dX10_modeOf_17 : decode cX10_modeOf 17 = .ok (.invokestatic 85, 3) := by decide +kernel
theorem dX10_modeOf_20 : decode cX10_modeOf 20 = .ok (.iaload, 1) := by decide +kernel
theorem dX10_modeOf_21 : decode cX10_modeOf 21 = .ok (.istore 4, 2) := by decide +kernel
theorem dX10_modeOf_23 : decode cX10_modeOf 23 = .ok (.iload 4, 2) := by decide +kernel
theorem dX10_modeOf_25 : decode cX10_modeOf 25 = .ok (.ifCond .le 26, 3) := by decide +kernel
theorem dX10_modeOf_28 : decode cX10_modeOf 28 = .ok (.iload_n 2, 1) := by decide +kernel
theorem dX10_modeOf_29 : decode cX10_modeOf 29 = .ok (.ifCond .lt 18, 3) := by decide +kernel
theorem dX10_modeOf_32 : decode cX10_modeOf 32 = .ok (.iload 4, 2) := by decide +kernel
theorem dX10_modeOf_34 : decode cX10_modeOf 34 = .ok (.aload_n 0, 1) := by decide +kernel
theorem dX10_modeOf_35 : decode cX10_modeOf 35 = .ok (.getfield 7, 3) := by decide +kernel
theorem dX10_modeOf_38 : decode cX10_modeOf 38 = .ok (.iload_n 1, 1) := by decide +kernel
theorem dX10_modeOf_39 : decode cX10_modeOf 39 = .ok (.iload_n 2, 1) := by decide +kernel
theorem dX10_modeOf_40 : decode cX10_modeOf 40 = .ok (.invokestatic 85, 3) := by decide +kernel
theorem dX10_modeOf_43 : decode cX10_modeOf 43 = .ok (.iaload, 1) := by decide +kernel
theorem dX10_modeOf_44 : decode cX10_modeOf 44 = .ok (.if_icmp .le 7, 3) := by decide +kernel
theorem dX10_modeOf_47 : decode cX10_modeOf 47 = .ok (.iload_n 3, 1) := by decide +kernel
theorem dX10_modeOf_48 : decode cX10_modeOf 48 = .ok (.goto 4, 3) := by decide +kernel
theorem dX10_modeOf_51 : decode cX10_modeOf 51 = .ok (.iload_n 2, 1) := by decide +kernel
theorem dX10_modeOf_52 : decode cX10_modeOf 52 = .ok (.istore_n 2, 1) := by decide +kernel
theorem dX10_modeOf_53 : decode cX10_modeOf 53 = .ok (.iinc 3 1, 3) := by decide +kernel
theorem dX10_modeOf_56 : decode cX10_modeOf 56 = .ok (.goto (-51), 3) := by decide +kernel
theorem dX10_modeOf_59 : decode cX10_modeOf 59 = .ok (.iload_n 2, 1) := by decide +kernel
theorem dX10_modeOf_60 : decode cX10_modeOf 60 = .ok (.ireturn, 1) := by decide +kernel
theorem dX10_mode_0 : decode cX10_mode 0 = .ok (.iload_n 1, 1) := by decide +kernel
theorem dX10_mode_1 : decode cX10_mode 1 = .ok (.invokestatic 76, 3) := by decide +kernel
theorem dX10_mode_4 : decode cX10_mode 4 = .ok (.ifCond .eq 11, 3) := by decide +kernel
theorem dX10_mode_7 : decode cX10_mode 7 = .ok (.aload_n 0, 1) := by decide +kernel
theorem dX10_mode_8 : decode cX10_mode 8 = .ok (.iload_n 1, 1) := by decide +kernel
theorem dX10_mode_9 : decode cX10_mode 9 = .ok (.invokevirtual 268, 3) := by decide +kernel
theorem dX10_mode_12 : decode cX10_mode 12 = .ok (.goto 4, 3) := by decide +kernel
theorem dX10_mode_15 : decode cX10_mode 15 = .ok (.iconst (-1), 1) := by decide +kernel
theorem dX10_mode_16 : decode cX10_mode 16 = .ok (.ireturn, 1) := by decide +kernel
theorem dX10_about_0 : decode cX10_about 0 = .ok (.iload_n 1, 1) := by decide +kernel
theorem dX10_about_1 : decode cX10_about 1 = .ok (.invokestatic 76, 3) := by decide +kernel
theorem dX10_about_4 : decode cX10_about 4 = .ok (.ifCond .ne 7, 3) := by decide +kernel
theorem dX10_about_7 : decode cX10_about 7 = .ok (.ldc2_w 216, 3) := by decide +kernel
theorem dX10_about_10 : decode cX10_about 10 = .ok (.lreturn, 1) := by decide +kernel
theorem dX10_about_11 : decode cX10_about 11 = .ok (.iload_n 2, 1) := by decide +kernel
theorem dX10_about_12 : decode cX10_about 12 = .ok (.i2l, 1) := by decide +kernel
theorem dX10_about_13 : decode cX10_about 13 = .ok (.lconst 0, 1) := by decide +kernel
theorem dX10_about_14 : decode cX10_about 14 = .ok (.ldc2_w 70, 3) := by decide +kernel
theorem dX10_about_17 : decode cX10_about 17 = .ok (.invokestatic 64, 3) := by decide +kernel
theorem dX10_about_20 : decode cX10_about 20 = .ok (.ifCond .eq 18, 3) := by decide +kernel
theorem dX10_about_23 : decode cX10_about 23 = .ok (.iload_n 3, 1) := by decide +kernel
theorem dX10_about_24 : decode cX10_about 24 = .ok (.invokestatic 124, 3) := by decide +kernel
theorem dX10_about_27 : decode cX10_about 27 = .ok (.ifCond .eq 11, 3) := by decide +kernel
theorem dX10_about_30 : decode cX10_about 30 = .ok (.iload 4, 2) := by decide +kernel
theorem dX10_about_32 : decode cX10_about 32 = .ok (.invokestatic 124, 3) := by decide +kernel
theorem dX10_about_35 : decode cX10_about 35 = .ok (.ifCond .ne 7, 3) := by decide +kernel
theorem dX10_about_38 : decode cX10_about 38 = .ok (.ldc2_w 159, 3) := by decide +kernel
theorem dX10_about_41 : decode cX10_about 41 = .ok (.lreturn, 1) := by decide +kernel
theorem dX10_about_42 : decode cX10_about 42 = .ok (.aload_n 0, 1) := by decide +kernel
theorem dX10_about_43 : decode cX10_about 43 = .ok (.getfield 19, 3) := by decide +kernel
theorem dX10_about_46 : decode cX10_about 46 = .ok (.iload_n 1, 1) := by decide +kernel
theorem dX10_about_47 : decode cX10_about 47 = .ok (.iaload, 1) := by decide +kernel
theorem dX10_about_48 : decode cX10_about 48 = .ok (.iconst 2, 1) := by decide +kernel
theorem dX10_about_49 : decode cX10_about 49 = .ok (.if_icmp .eq 7, 3) := by decide +kernel
theorem dX10_about_52 : decode cX10_about 52 = .ok (.ldc2_w 271, 3) := by decide +kernel
theorem dX10_about_55 : decode cX10_about 55 = .ok (.lreturn, 1) := by decide +kernel
theorem dX10_about_56 : decode cX10_about 56 = .ok (.lconst 0, 1) := by decide +kernel
theorem dX10_about_57 : decode cX10_about 57 = .ok (.lstore 5, 2) := by decide +kernel
theorem dX10_about_59 : decode cX10_about 59 = .ok (.iconst 0, 1) := by decide +kernel
theorem dX10_about_60 : decode cX10_about 60 = .ok (.istore 7, 2) := by decide +kernel
theorem dX10_about_62 : decode cX10_about 62 = .ok (.iload 7, 2) := by decide +kernel
theorem dX10_about_64 : decode cX10_about 64 = .ok (.bipush 64, 2) := by decide +kernel
theorem dX10_about_66 : decode cX10_about 66 = .ok (.if_icmp .ge 67, 3) := by decide +kernel
theorem dX10_about_69 : decode cX10_about 69 = .ok (.iload_n 3, 1) := by decide +kernel
theorem dX10_about_70 : decode cX10_about 70 = .ok (.ifCond .ne 10, 3) := by decide +kernel
theorem dX10_about_73 : decode cX10_about 73 = .ok (.iload 7, 2) := by decide +kernel
theorem dX10_about_75 : decode cX10_about 75 = .ok (.iload_n 2, 1) := by decide +kernel
theorem dX10_about_76 : decode cX10_about 76 = .ok (.isub, 1) := by decide +kernel
theorem dX10_about_77 : decode cX10_about 77 = .ok (.goto 7, 3) := by decide +kernel
theorem dX10_about_80 : decode cX10_about 80 = .ok (.iload 7, 2) := by decide +kernel
theorem dX10_about_82 : decode cX10_about 82 = .ok (.iload_n 2, 1) := by decide +kernel
theorem dX10_about_83 : decode cX10_about 83 = .ok (.iadd, 1) := by decide +kernel
theorem dX10_about_84 : decode cX10_about 84 = .ok (.istore 8, 2) := by decide +kernel
theorem dX10_about_86 : decode cX10_about 86 = .ok (.lload 5, 2) := by decide +kernel
theorem dX10_about_88 : decode cX10_about 88 = .ok (.iload 8, 2) := by decide +kernel
theorem dX10_about_90 : decode cX10_about 90 = .ok (.ifCond .ge 7, 3) := by decide +kernel
theorem dX10_about_93 : decode cX10_about 93 = .ok (.iconst 0, 1) := by decide +kernel
theorem dX10_about_94 : decode cX10_about 94 = .ok (.goto 17, 3) := by decide +kernel
theorem dX10_about_97 : decode cX10_about 97 = .ok (.iload 8, 2) := by decide +kernel
theorem dX10_about_99 : decode cX10_about 99 = .ok (.bipush 63, 2) := by decide +kernel
theorem dX10_about_101 : decode cX10_about 101 = .ok (.if_icmp .le 8, 3) := by decide +kernel
theorem dX10_about_104 : decode cX10_about 104 = .ok (.bipush 63, 2) := by decide +kernel
theorem dX10_about_106 : decode cX10_about 106 = .ok (.goto 5, 3) := by decide +kernel
theorem dX10_about_109 : decode cX10_about 109 = .ok (.iload 8, 2) := by decide +kernel
theorem dX10_about_111 : decode cX10_about 111 = .ok (.aload_n 0, 1) := by decide +kernel
theorem dX10_about_112 : decode cX10_about 112 = .ok (.getfield 7, 3) := by decide +kernel
theorem dX10_about_115 : decode cX10_about 115 = .ok (.iload_n 1, 1) := by decide +kernel
theorem dX10_about_116 : decode cX10_about 116 = .ok (.iload 7, 2) := by decide +kernel
theorem dX10_about_118 : decode cX10_about 118 = .ok (.invokestatic 85, 3) := by decide +kernel
theorem dX10_about_121 : decode cX10_about 121 = .ok (.iaload, 1) := by decide +kernel
theorem dX10_about_122 : decode cX10_about 122 = .ok (.imul, 1) := by decide +kernel
theorem dX10_about_123 : decode cX10_about 123 = .ok (.i2l, 1) := by decide +kernel
theorem dX10_about_124 : decode cX10_about 124 = .ok (.ladd, 1) := by decide +kernel
theorem dX10_about_125 : decode cX10_about 125 = .ok (.lstore 5, 2) := by decide +kernel
theorem dX10_about_127 : decode cX10_about 127 = .ok (.iinc 7 1, 3) := by decide +kernel
theorem dX10_about_130 : decode cX10_about 130 = .ok (.goto (-68), 3) := by decide +kernel
theorem dX10_about_133 : decode cX10_about 133 = .ok (.lload 5, 2) := by decide +kernel
theorem dX10_about_135 : decode cX10_about 135 = .ok (.aload_n 0, 1) := by decide +kernel
theorem dX10_about_136 : decode cX10_about 136 = .ok (.iload_n 1, 1) := by decide +kernel
theorem dX10_about_137 : decode cX10_about 137 = .ok (.invokevirtual 172, 3) := by decide +kernel
theorem dX10_about_140 : decode cX10_about 140 = .ok (.i2l, 1) := by decide +kernel
theorem dX10_about_141 : decode cX10_about 141 = .ok (.iload 4, 2) := by decide +kernel
theorem dX10_about_143 : decode cX10_about 143 = .ok (.invokestatic 161, 3) := by decide +kernel
theorem dX10_about_146 : decode cX10_about 146 = .ok (.lreturn, 1) := by decide +kernel
theorem dX10_beside_0 : decode cX10_beside 0 = .ok (.iload_n 1, 1) := by decide +kernel
theorem dX10_beside_1 : decode cX10_beside 1 = .ok (.invokestatic 76, 3) := by decide +kernel
theorem dX10_beside_4 : decode cX10_beside 4 = .ok (.ifCond .eq 10, 3) := by decide +kernel
theorem dX10_beside_7 : decode cX10_beside 7 = .ok (.iload_n 2, 1) := by decide +kernel
theorem dX10_beside_8 : decode cX10_beside 8 = .ok (.invokestatic 76, 3) := by decide +kernel
theorem dX10_beside_11 : decode cX10_beside 11 = .ok (.ifCond .ne 7, 3) := by decide +kernel
theorem dX10_beside_14 : decode cX10_beside 14 = .ok (.ldc2_w 216, 3) := by decide +kernel
theorem dX10_beside_17 : decode cX10_beside 17 = .ok (.lreturn, 1) := by decide +kernel
theorem dX10_beside_18 : decode cX10_beside 18 = .ok (.iload_n 3, 1) := by decide +kernel
theorem dX10_beside_19 : decode cX10_beside 19 = .ok (.invokestatic 152, 3) := by decide +kernel
theorem dX10_beside_22 : decode cX10_beside 22 = .ok (.ifCond .eq 11, 3) := by decide +kernel
theorem dX10_beside_25 : decode cX10_beside 25 = .ok (.iload 4, 2) := by decide +kernel
theorem dX10_beside_27 : decode cX10_beside 27 = .ok (.invokestatic 124, 3) := by decide +kernel
theorem dX10_beside_30 : decode cX10_beside 30 = .ok (.ifCond .ne 7, 3) := by decide +kernel
theorem dX10_beside_33 : decode cX10_beside 33 = .ok (.ldc2_w 159, 3) := by decide +kernel
theorem dX10_beside_36 : decode cX10_beside 36 = .ok (.lreturn, 1) := by decide +kernel
theorem dX10_beside_37 : decode cX10_beside 37 = .ok (.aload_n 0, 1) := by decide +kernel
theorem dX10_beside_38 : decode cX10_beside 38 = .ok (.iload_n 1, 1) := by decide +kernel
theorem dX10_beside_39 : decode cX10_beside 39 = .ok (.invokevirtual 172, 3) := by decide +kernel
theorem dX10_beside_42 : decode cX10_beside 42 = .ok (.i2l, 1) := by decide +kernel
theorem dX10_beside_43 : decode cX10_beside 43 = .ok (.lstore 5, 2) := by decide +kernel
theorem dX10_beside_45 : decode cX10_beside 45 = .ok (.aload_n 0, 1) := by decide +kernel
theorem dX10_beside_46 : decode cX10_beside 46 = .ok (.getfield 19, 3) := by decide +kernel
theorem dX10_beside_49 : decode cX10_beside 49 = .ok (.iload_n 1, 1) := by decide +kernel
theorem dX10_beside_50 : decode cX10_beside 50 = .ok (.iaload, 1) := by decide +kernel
theorem dX10_beside_51 : decode cX10_beside 51 = .ok (.iconst 1, 1) := by decide +kernel
theorem dX10_beside_52 : decode cX10_beside 52 = .ok (.if_icmp .ne 10, 3) := by decide +kernel
theorem dX10_beside_55 : decode cX10_beside 55 = .ok (.lload 5, 2) := by decide +kernel
theorem dX10_beside_57 : decode cX10_beside 57 = .ok (.lconst 0, 1) := by decide +kernel
theorem dX10_beside_58 : decode cX10_beside 58 = .ok (.lcmp, 1) := by decide +kernel
theorem dX10_beside_59 : decode cX10_beside 59 = .ok (.ifCond .ne 7, 3) := by decide +kernel
theorem dX10_beside_62 : decode cX10_beside 62 = .ok (.ldc2_w 271, 3) := by decide +kernel
theorem dX10_beside_65 : decode cX10_beside 65 = .ok (.lreturn, 1) := by decide +kernel
theorem dX10_beside_66 : decode cX10_beside 66 = .ok (.aload_n 0, 1) := by decide +kernel
theorem dX10_beside_67 : decode cX10_beside 67 = .ok (.iload_n 2, 1) := by decide +kernel
theorem dX10_beside_68 : decode cX10_beside 68 = .ok (.iload_n 3, 1) := by decide +kernel
theorem dX10_beside_69 : decode cX10_beside 69 = .ok (.invokevirtual 192, 3) := by decide +kernel
theorem dX10_beside_72 : decode cX10_beside 72 = .ok (.aload_n 0, 1) := by decide +kernel
theorem dX10_beside_73 : decode cX10_beside 73 = .ok (.iload_n 1, 1) := by decide +kernel
theorem dX10_beside_74 : decode cX10_beside 74 = .ok (.invokevirtual 264, 3) := by decide +kernel
theorem dX10_beside_77 : decode cX10_beside 77 = .ok (.aload_n 0, 1) := by decide +kernel
theorem dX10_beside_78 : decode cX10_beside 78 = .ok (.getfield 185, 3) := by decide +kernel
theorem dX10_beside_81 : decode cX10_beside 81 = .ok (.i2l, 1) := by decide +kernel
theorem dX10_beside_82 : decode cX10_beside 82 = .ok (.lload 5, 2) := by decide +kernel
theorem dX10_beside_84 : decode cX10_beside 84 = .ok (.lmul, 1) := by decide +kernel
theorem dX10_beside_85 : decode cX10_beside 85 = .ok (.lsub, 1) := by decide +kernel
theorem dX10_beside_86 : decode cX10_beside 86 = .ok (.lload 5, 2) := by decide +kernel
theorem dX10_beside_88 : decode cX10_beside 88 = .ok (.iload 4, 2) := by decide +kernel
theorem dX10_beside_90 : decode cX10_beside 90 = .ok (.invokestatic 161, 3) := by decide +kernel
theorem dX10_beside_93 : decode cX10_beside 93 = .ok (.lreturn, 1) := by decide +kernel
theorem dX10_shorter_0 : decode cX10_shorter 0 = .ok (.iload_n 1, 1) := by decide +kernel
theorem dX10_shorter_1 : decode cX10_shorter 1 = .ok (.invokestatic 76, 3) := by decide +kernel
theorem dX10_shorter_4 : decode cX10_shorter 4 = .ok (.ifCond .eq 10, 3) := by decide +kernel
theorem dX10_shorter_7 : decode cX10_shorter 7 = .ok (.iload_n 2, 1) := by decide +kernel
theorem dX10_shorter_8 : decode cX10_shorter 8 = .ok (.invokestatic 76, 3) := by decide +kernel
theorem dX10_shorter_11 : decode cX10_shorter 11 = .ok (.ifCond .ne 5, 3) := by decide +kernel
theorem dX10_shorter_14 : decode cX10_shorter 14 = .ok (.iconst (-1), 1) := by decide +kernel
theorem dX10_shorter_15 : decode cX10_shorter 15 = .ok (.ireturn, 1) := by decide +kernel
theorem dX10_shorter_16 : decode cX10_shorter 16 = .ok (.iload_n 3, 1) := by decide +kernel
theorem dX10_shorter_17 : decode cX10_shorter 17 = .ok (.invokestatic 152, 3) := by decide +kernel
theorem dX10_shorter_20 : decode cX10_shorter 20 = .ok (.ifCond .eq 16, 3) := by decide +kernel
theorem dX10_shorter_23 : decode cX10_shorter 23 = .ok (.iload 4, 2) := by decide +kernel
theorem dX10_shorter_25 : decode cX10_shorter 25 = .ok (.i2l, 1) := by decide +kernel
theorem dX10_shorter_26 : decode cX10_shorter 26 = .ok (.lconst 0, 1) := by decide +kernel
theorem dX10_shorter_27 : decode cX10_shorter 27 = .ok (.ldc2_w 83, 3) := by decide +kernel
theorem dX10_shorter_30 : decode cX10_shorter 30 = .ok (.invokestatic 64, 3) := by decide +kernel
theorem dX10_shorter_33 : decode cX10_shorter 33 = .ok (.ifCond .ne 6, 3) := by decide +kernel
theorem dX10_shorter_36 : decode cX10_shorter 36 = .ok (.bipush (-2), 2) := by decide +kernel
theorem dX10_shorter_38 : decode cX10_shorter 38 = .ok (.ireturn, 1) := by decide +kernel
theorem dX10_shorter_39 : decode cX10_shorter 39 = .ok (.aload_n 0, 1) := by decide +kernel
theorem dX10_shorter_40 : decode cX10_shorter 40 = .ok (.iload_n 1, 1) := by decide +kernel
theorem dX10_shorter_41 : decode cX10_shorter 41 = .ok (.iload_n 3, 1) := by decide +kernel
theorem dX10_shorter_42 : decode cX10_shorter 42 = .ok (.iload 4, 2) := by decide +kernel
theorem dX10_shorter_44 : decode cX10_shorter 44 = .ok (.invokevirtual 202, 3) := by decide +kernel
theorem dX10_shorter_47 : decode cX10_shorter 47 = .ok (.aload_n 0, 1) := by decide +kernel
theorem dX10_shorter_48 : decode cX10_shorter 48 = .ok (.getfield 196, 3) := by decide +kernel
theorem dX10_shorter_51 : decode cX10_shorter 51 = .ok (.istore 5, 2) := by decide +kernel
theorem dX10_shorter_53 : decode cX10_shorter 53 = .ok (.aload_n 0, 1) := by decide +kernel
theorem dX10_shorter_54 : decode cX10_shorter 54 = .ok (.iload_n 2, 1) := by decide +kernel
theorem dX10_shorter_55 : decode cX10_shorter 55 = .ok (.iload_n 3, 1) := by decide +kernel
theorem dX10_shorter_56 : decode cX10_shorter 56 = .ok (.iload 4, 2) := by decide +kernel
theorem dX10_shorter_58 : decode cX10_shorter 58 = .ok (.invokevirtual 202, 3) := by decide +kernel
theorem dX10_shorter_61 : decode cX10_shorter 61 = .ok (.aload_n 0, 1) := by decide +kernel
theorem dX10_shorter_62 : decode cX10_shorter 62 = .ok (.getfield 199, 3) := by decide +kernel
theorem dX10_shorter_65 : decode cX10_shorter 65 = .ok (.iload 5, 2) := by decide +kernel
theorem dX10_shorter_67 : decode cX10_shorter 67 = .ok (.if_icmp .ge 7, 3) := by decide +kernel
theorem dX10_shorter_70 : decode cX10_shorter 70 = .ok (.iconst 2, 1) := by decide +kernel
theorem dX10_shorter_71 : decode cX10_shorter 71 = .ok (.goto 17, 3) := by decide +kernel
theorem dX10_shorter_74 : decode cX10_shorter 74 = .ok (.aload_n 0, 1) := by decide +kernel
theorem dX10_shorter_75 : decode cX10_shorter 75 = .ok (.getfield 196, 3) := by decide +kernel
theorem dX10_shorter_78 : decode cX10_shorter 78 = .ok (.iload 5, 2) := by decide +kernel
theorem dX10_shorter_80 : decode cX10_shorter 80 = .ok (.if_icmp .lt 7, 3) := by decide +kernel
theorem dX10_shorter_83 : decode cX10_shorter 83 = .ok (.iconst 0, 1) := by decide +kernel
theorem dX10_shorter_84 : decode cX10_shorter 84 = .ok (.goto 4, 3) := by decide +kernel
theorem dX10_shorter_87 : decode cX10_shorter 87 = .ok (.iconst 1, 1) := by decide +kernel
theorem dX10_shorter_88 : decode cX10_shorter 88 = .ok (.ireturn, 1) := by decide +kernel
theorem dX10_draw_0 : decode cX10_draw 0 = .ok (.aload_n 0, 1) := by decide +kernel
theorem dX10_draw_1 : decode cX10_draw 1 = .ok (.bipush 75, 2) := by decide +kernel
theorem dX10_draw_3 : decode cX10_draw 3 = .ok (.aload_n 0, 1) := by decide +kernel
theorem dX10_draw_4 : decode cX10_draw 4 = .ok (.getfield 273, 3) := by decide +kernel
theorem dX10_draw_7 : decode cX10_draw 7 = .ok (.imul, 1) := by decide +kernel
theorem dX10_draw_8 : decode cX10_draw 8 = .ok (.bipush 74, 2) := by decide +kernel
theorem dX10_draw_10 : decode cX10_draw 10 = .ok (.iadd, 1) := by decide +kernel
theorem dX10_draw_11 : decode cX10_draw 11 = .ok (.ldc_w 276, 3) := by decide +kernel
theorem dX10_draw_14 : decode cX10_draw 14 = .ok (.irem, 1) := by decide +kernel
theorem dX10_draw_15 : decode cX10_draw 15 = .ok (.putfield 273, 3) := by decide +kernel
theorem dX10_draw_18 : decode cX10_draw 18 = .ok (.aload_n 0, 1) := by decide +kernel
theorem dX10_draw_19 : decode cX10_draw 19 = .ok (.getfield 273, 3) := by decide +kernel
theorem dX10_draw_22 : decode cX10_draw 22 = .ok (.iload_n 1, 1) := by decide +kernel
theorem dX10_draw_23 : decode cX10_draw 23 = .ok (.irem, 1) := by decide +kernel
theorem dX10_draw_24 : decode cX10_draw 24 = .ok (.ireturn, 1) := by decide +kernel
theorem dX10_heightOf_0 : decode cX10_heightOf 0 = .ok (.iconst 0, 1) := by decide +kernel
theorem dX10_heightOf_1 : decode cX10_heightOf 1 = .ok (.istore 4, 2) := by decide +kernel
theorem dX10_heightOf_3 : decode cX10_heightOf 3 = .ok (.iload_n 3, 1) := by decide +kernel
theorem dX10_heightOf_4 : decode cX10_heightOf 4 = .ok (.istore 5, 2) := by decide +kernel
theorem dX10_heightOf_6 : decode cX10_heightOf 6 = .ok (.iload 5, 2) := by decide +kernel
theorem dX10_heightOf_8 : decode cX10_heightOf 8 = .ok (.aload_n 0, 1) := by decide +kernel
theorem dX10_heightOf_9 : decode cX10_heightOf 9 = .ok (.getfield 49, 3) := by decide +kernel
theorem dX10_heightOf_12 : decode cX10_heightOf 12 = .ok (.iload 4, 2) := by decide +kernel
theorem dX10_heightOf_14 : decode cX10_heightOf 14 = .ok (.iaload, 1) := by decide +kernel
theorem dX10_heightOf_15 : decode cX10_heightOf 15 = .ok (.if_icmp .lt 21, 3) := by decide +kernel
theorem dX10_heightOf_18 : decode cX10_heightOf 18 = .ok (.iload 5, 2) := by decide +kernel
theorem dX10_heightOf_20 : decode cX10_heightOf 20 = .ok (.aload_n 0, 1) := by decide +kernel
theorem dX10_heightOf_21 : decode cX10_heightOf 21 = .ok (.getfield 49, 3) := by decide +kernel
theorem dX10_heightOf_24 : decode cX10_heightOf 24 = .ok (.iload 4, 2) := by decide +kernel
theorem dX10_heightOf_26 : decode cX10_heightOf 26 = .ok (.iaload, 1) := by decide +kernel
theorem dX10_heightOf_27 : decode cX10_heightOf 27 = .ok (.isub, 1) := by decide +kernel
theorem dX10_heightOf_28 : decode cX10_heightOf 28 = .ok (.istore 5, 2) := by decide +kernel
theorem dX10_heightOf_30 : decode cX10_heightOf 30 = .ok (.iinc 4 1, 3) := by decide +kernel
theorem dX10_heightOf_33 : decode cX10_heightOf 33 = .ok (.goto (-27), 3) := by decide +kernel
theorem dX10_heightOf_36 : decode cX10_heightOf 36 = .ok (.iload_n 1, 1) := by decide +kernel
theorem dX10_heightOf_37 : decode cX10_heightOf 37 = .ok (.iload_n 2, 1) := by decide +kernel
theorem dX10_heightOf_38 : decode cX10_heightOf 38 = .ok (.isub, 1) := by decide +kernel
theorem dX10_heightOf_39 : decode cX10_heightOf 39 = .ok (.iload 4, 2) := by decide +kernel
theorem dX10_heightOf_41 : decode cX10_heightOf 41 = .ok (.iadd, 1) := by decide +kernel
theorem dX10_heightOf_42 : decode cX10_heightOf 42 = .ok (.ireturn, 1) := by decide +kernel
theorem dX10_writtenAt_0 : decode cX10_writtenAt 0 = .ok (.iload_n 1, 1) := by decide +kernel
theorem dX10_writtenAt_1 : decode cX10_writtenAt 1 = .ok (.iload_n 2, 1) := by decide +kernel
theorem dX10_writtenAt_2 : decode cX10_writtenAt 2 = .ok (.isub, 1) := by decide +kernel
theorem dX10_writtenAt_3 : decode cX10_writtenAt 3 = .ok (.istore_n 3, 1) := by decide +kernel
theorem dX10_writtenAt_4 : decode cX10_writtenAt 4 = .ok (.iload_n 3, 1) := by decide +kernel
theorem dX10_writtenAt_5 : decode cX10_writtenAt 5 = .ok (.ifCond .le 48, 3) := by decide +kernel
theorem dX10_writtenAt_8 : decode cX10_writtenAt 8 = .ok (.iload_n 3, 1) := by decide +kernel
theorem dX10_writtenAt_9 : decode cX10_writtenAt 9 = .ok (.aload_n 0, 1) := by decide +kernel
theorem dX10_writtenAt_10 : decode cX10_writtenAt 10 = .ok (.getfield 22, 3) := by decide +kernel
theorem dX10_writtenAt_13 : decode cX10_writtenAt 13 = .ok (.iconst 2, 1) := by decide +kernel
theorem dX10_writtenAt_14 : decode cX10_writtenAt 14 = .ok (.iaload, 1) := by decide +kernel
theorem dX10_writtenAt_15 : decode cX10_writtenAt 15 = .ok (.if_icmp .gt 20, 3) := by decide +kernel
theorem dX10_writtenAt_18 : decode cX10_writtenAt 18 = .ok (.aload_n 0, 1) := by decide +kernel
theorem dX10_writtenAt_19 : decode cX10_writtenAt 19 = .ok (.bipush 10, 2) := by decide +kernel
theorem dX10_writtenAt_21 : decode cX10_writtenAt 21 = .ok (.invokevirtual 277, 3) := by decide +kernel
theorem dX10_writtenAt_24 : decode cX10_writtenAt 24 = .ok (.aload_n 0, 1) := by decide +kernel
theorem dX10_writtenAt_25 : decode cX10_writtenAt 25 = .ok (.getfield 22, 3) := by decide +kernel
theorem dX10_writtenAt_28 : decode cX10_writtenAt 28 = .ok (.iconst 3, 1) := by decide +kernel
theorem dX10_writtenAt_29 : decode cX10_writtenAt 29 = .ok (.iaload, 1) := by decide +kernel
theorem dX10_writtenAt_30 : decode cX10_writtenAt 30 = .ok (.if_icmp .ge 5, 3) := by decide +kernel
theorem dX10_writtenAt_33 : decode cX10_writtenAt 33 = .ok (.iload_n 1, 1) := by decide +kernel
theorem dX10_writtenAt_34 : decode cX10_writtenAt 34 = .ok (.ireturn, 1) := by decide +kernel
theorem dX10_writtenAt_35 : decode cX10_writtenAt 35 = .ok (.aload_n 0, 1) := by decide +kernel
theorem dX10_writtenAt_36 : decode cX10_writtenAt 36 = .ok (.bipush 10, 2) := by decide +kernel
theorem dX10_writtenAt_38 : decode cX10_writtenAt 38 = .ok (.invokevirtual 277, 3) := by decide +kernel
theorem dX10_writtenAt_41 : decode cX10_writtenAt 41 = .ok (.aload_n 0, 1) := by decide +kernel
theorem dX10_writtenAt_42 : decode cX10_writtenAt 42 = .ok (.getfield 22, 3) := by decide +kernel
theorem dX10_writtenAt_45 : decode cX10_writtenAt 45 = .ok (.iconst 0, 1) := by decide +kernel
theorem dX10_writtenAt_46 : decode cX10_writtenAt 46 = .ok (.iaload, 1) := by decide +kernel
theorem dX10_writtenAt_47 : decode cX10_writtenAt 47 = .ok (.if_icmp .lt 6, 3) := by decide +kernel
theorem dX10_writtenAt_50 : decode cX10_writtenAt 50 = .ok (.bipush (-6), 2) := by decide +kernel
theorem dX10_writtenAt_52 : decode cX10_writtenAt 52 = .ok (.ireturn, 1) := by decide +kernel
theorem dX10_writtenAt_53 : decode cX10_writtenAt 53 = .ok (.iload_n 2, 1) := by decide +kernel
theorem dX10_writtenAt_54 : decode cX10_writtenAt 54 = .ok (.iconst 4, 1) := by decide +kernel
theorem dX10_writtenAt_55 : decode cX10_writtenAt 55 = .ok (.irem, 1) := by decide +kernel
theorem dX10_writtenAt_56 : decode cX10_writtenAt 56 = .ok (.ifCond .eq 25, 3) := by decide +kernel
theorem dX10_writtenAt_59 : decode cX10_writtenAt 59 = .ok (.aload_n 0, 1) := by decide +kernel
theorem dX10_writtenAt_60 : decode cX10_writtenAt 60 = .ok (.bipush 10, 2) := by decide +kernel
theorem dX10_writtenAt_62 : decode cX10_writtenAt 62 = .ok (.invokevirtual 277, 3) := by decide +kernel
theorem dX10_writtenAt_65 : decode cX10_writtenAt 65 = .ok (.aload_n 0, 1) := by decide +kernel
theorem dX10_writtenAt_66 : decode cX10_writtenAt 66 = .ok (.getfield 22, 3) := by decide +kernel
theorem dX10_writtenAt_69 : decode cX10_writtenAt 69 = .ok (.iconst 1, 1) := by decide +kernel
theorem dX10_writtenAt_70 : decode cX10_writtenAt 70 = .ok (.iaload, 1) := by decide +kernel
theorem dX10_writtenAt_71 : decode cX10_writtenAt 71 = .ok (.if_icmp .ge 10, 3) := by decide +kernel
theorem dX10_writtenAt_74 : decode cX10_writtenAt 74 = .ok (.iload_n 2, 1) := by decide +kernel
theorem dX10_writtenAt_75 : decode cX10_writtenAt 75 = .ok (.invokestatic 208, 3) := by decide +kernel
theorem dX10_writtenAt_78 : decode cX10_writtenAt 78 = .ok (.goto 4, 3) := by decide +kernel
theorem dX10_writtenAt_81 : decode cX10_writtenAt 81 = .ok (.iload_n 2, 1) := by decide +kernel
theorem dX10_writtenAt_82 : decode cX10_writtenAt 82 = .ok (.ireturn, 1) := by decide +kernel
theorem dX10_makeIn_0 : decode cX10_makeIn 0 = .ok (.iconst 0, 1) := by decide +kernel
theorem dX10_makeIn_1 : decode cX10_makeIn 1 = .ok (.istore 6, 2) := by decide +kernel
theorem dX10_makeIn_3 : decode cX10_makeIn 3 = .ok (.iload 6, 2) := by decide +kernel
theorem dX10_makeIn_5 : decode cX10_makeIn 5 = .ok (.bipush 64, 2) := by decide +kernel
theorem dX10_makeIn_7 : decode cX10_makeIn 7 = .ok (.if_icmp .ge 21, 3) := by decide +kernel
theorem dX10_makeIn_10 : decode cX10_makeIn 10 = .ok (.aload_n 0, 1) := by decide +kernel
theorem dX10_makeIn_11 : decode cX10_makeIn 11 = .ok (.getfield 7, 3) := by decide +kernel
theorem dX10_makeIn_14 : decode cX10_makeIn 14 = .ok (.iload_n 1, 1) := by decide +kernel
theorem dX10_makeIn_15 : decode cX10_makeIn 15 = .ok (.iload 6, 2) := by decide +kernel
theorem dX10_makeIn_17 : decode cX10_makeIn 17 = .ok (.invokestatic 85, 3) := by decide +kernel
theorem dX10_makeIn_20 : decode cX10_makeIn 20 = .ok (.iconst 0, 1) := by decide +kernel
theorem dX10_makeIn_21 : decode cX10_makeIn 21 = .ok (.iastore, 1) := by decide +kernel
theorem dX10_makeIn_22 : decode cX10_makeIn 22 = .ok (.iinc 6 1, 3) := by decide +kernel
theorem dX10_makeIn_25 : decode cX10_makeIn 25 = .ok (.goto (-22), 3) := by decide +kernel
theorem dX10_makeIn_28 : decode cX10_makeIn 28 = .ok (.aload_n 0, 1) := by decide +kernel
theorem dX10_makeIn_29 : decode cX10_makeIn 29 = .ok (.iload 4, 2) := by decide +kernel
theorem dX10_makeIn_31 : decode cX10_makeIn 31 = .ok (.invokevirtual 168, 3) := by decide +kernel
theorem dX10_makeIn_34 : decode cX10_makeIn 34 = .ok (.aload_n 0, 1) := by decide +kernel
theorem dX10_makeIn_35 : decode cX10_makeIn 35 = .ok (.iload_n 1, 1) := by decide +kernel
theorem dX10_makeIn_36 : decode cX10_makeIn 36 = .ok (.invokevirtual 146, 3) := by decide +kernel
theorem dX10_makeIn_39 : decode cX10_makeIn 39 = .ok (.istore 6, 2) := by decide +kernel
theorem dX10_makeIn_41 : decode cX10_makeIn 41 = .ok (.iconst 0, 1) := by decide +kernel
theorem dX10_makeIn_42 : decode cX10_makeIn 42 = .ok (.istore 7, 2) := by decide +kernel
theorem dX10_makeIn_44 : decode cX10_makeIn 44 = .ok (.aload_n 0, 1) := by decide +kernel
theorem dX10_makeIn_45 : decode cX10_makeIn 45 = .ok (.iload_n 2, 1) := by decide +kernel
theorem dX10_makeIn_46 : decode cX10_makeIn 46 = .ok (.putfield 273, 3) := by decide +kernel
theorem dX10_makeIn_49 : decode cX10_makeIn 49 = .ok (.iconst 0, 1) := by decide +kernel
theorem dX10_makeIn_50 : decode cX10_makeIn 50 = .ok (.istore 8, 2) := by decide +kernel
theorem dX10_makeIn_52 : decode cX10_makeIn 52 = .ok (.iload 8, 2) := by decide +kernel
theorem dX10_makeIn_54 : decode cX10_makeIn 54 = .ok (.iload 5, 2) := by decide +kernel
theorem dX10_makeIn_56 : decode cX10_makeIn 56 = .ok (.if_icmp .ge 74, 3) := by decide +kernel
theorem dX10_makeIn_59 : decode cX10_makeIn 59 = .ok (.aload_n 0, 1) := by decide +kernel
theorem dX10_makeIn_60 : decode cX10_makeIn 60 = .ok (.iload_n 3, 1) := by decide +kernel
theorem dX10_makeIn_61 : decode cX10_makeIn 61 = .ok (.iload 4, 2) := by decide +kernel
theorem dX10_makeIn_63 : decode cX10_makeIn 63 = .ok (.aload_n 0, 1) := by decide +kernel
theorem dX10_makeIn_64 : decode cX10_makeIn 64 = .ok (.iconst 1, 1) := by decide +kernel
theorem dX10_makeIn_65 : decode cX10_makeIn 65 = .ok (.iconst 2, 1) := by decide +kernel
theorem dX10_makeIn_66 : decode cX10_makeIn 66 = .ok (.iload 4, 2) := by decide +kernel
theorem dX10_makeIn_68 : decode cX10_makeIn 68 = .ok (.imul, 1) := by decide +kernel
theorem dX10_makeIn_69 : decode cX10_makeIn 69 = .ok (.ishl, 1) := by decide +kernel
theorem dX10_makeIn_70 : decode cX10_makeIn 70 = .ok (.invokevirtual 277, 3) := by decide +kernel
theorem dX10_makeIn_73 : decode cX10_makeIn 73 = .ok (.invokevirtual 280, 3) := by decide +kernel
theorem dX10_makeIn_76 : decode cX10_makeIn 76 = .ok (.istore 9, 2) := by decide +kernel
theorem dX10_makeIn_78 : decode cX10_makeIn 78 = .ok (.iload 9, 2) := by decide +kernel
theorem dX10_makeIn_80 : decode cX10_makeIn 80 = .ok (.invokestatic 80, 3) := by decide +kernel
theorem dX10_makeIn_83 : decode cX10_makeIn 83 = .ok (.ifCond .eq 14, 3) := by decide +kernel
theorem dX10_makeIn_86 : decode cX10_makeIn 86 = .ok (.aload_n 0, 1) := by decide +kernel
theorem dX10_makeIn_87 : decode cX10_makeIn 87 = .ok (.iload 6, 2) := by decide +kernel
theorem dX10_makeIn_89 : decode cX10_makeIn 89 = .ok (.iload 9, 2) := by decide +kernel
theorem dX10_makeIn_91 : decode cX10_makeIn 91 = .ok (.invokevirtual 283, 3) := by decide +kernel
theorem dX10_makeIn_94 : decode cX10_makeIn 94 = .ok (.goto 5, 3) := by decide +kernel
theorem dX10_makeIn_97 : decode cX10_makeIn 97 = .ok (.bipush (-6), 2) := by decide +kernel
theorem dX10_makeIn_99 : decode cX10_makeIn 99 = .ok (.istore 10, 2) := by decide +kernel
theorem dX10_makeIn_101 : decode cX10_makeIn 101 = .ok (.iload 10, 2) := by decide +kernel
theorem dX10_makeIn_103 : decode cX10_makeIn 103 = .ok (.ifCond .lt 21, 3) := by decide +kernel
theorem dX10_makeIn_106 : decode cX10_makeIn 106 = .ok (.aload_n 0, 1) := by decide +kernel
theorem dX10_makeIn_107 : decode cX10_makeIn 107 = .ok (.getfield 7, 3) := by decide +kernel
theorem dX10_makeIn_110 : decode cX10_makeIn 110 = .ok (.iload_n 1, 1) := by decide +kernel
theorem dX10_makeIn_111 : decode cX10_makeIn 111 = .ok (.iload 10, 2) := by decide +kernel
theorem dX10_makeIn_113 : decode cX10_makeIn 113 = .ok (.invokestatic 85, 3) := by decide +kernel
theorem dX10_makeIn_116 : decode cX10_makeIn 116 = .ok (.dup2, 1) := by decide +kernel
theorem dX10_makeIn_117 : decode cX10_makeIn 117 = .ok (.iaload, 1) := by decide +kernel
theorem dX10_makeIn_118 : decode cX10_makeIn 118 = .ok (.iconst 1, 1) := by decide +kernel
theorem dX10_makeIn_119 : decode cX10_makeIn 119 = .ok (.iadd, 1) := by decide +kernel
theorem dX10_makeIn_120 : decode cX10_makeIn 120 = .ok (.iastore, 1) := by decide +kernel
theorem dX10_makeIn_121 : decode cX10_makeIn 121 = .ok (.iinc 7 1, 3) := by decide +kernel
theorem dX10_makeIn_124 : decode cX10_makeIn 124 = .ok (.iinc 8 1, 3) := by decide +kernel
theorem dX10_makeIn_127 : decode cX10_makeIn 127 = .ok (.goto (-75), 3) := by decide +kernel
theorem dX10_makeIn_130 : decode cX10_makeIn 130 = .ok (.iload 7, 2) := by decide +kernel
theorem dX10_makeIn_132 : decode cX10_makeIn 132 = .ok (.ireturn, 1) := by decide +kernel
theorem dX10_isWorld_0 : decode cX10_isWorld 0 = .ok (.iload_n 0, 1) := by decide +kernel
theorem dX10_isWorld_1 : decode cX10_isWorld 1 = .ok (.i2l, 1) := by decide +kernel
theorem dX10_isWorld_2 : decode cX10_isWorld 2 = .ok (.lconst 0, 1) := by decide +kernel
theorem dX10_isWorld_3 : decode cX10_isWorld 3 = .ok (.ldc2_w 286, 3) := by decide +kernel
theorem dX10_isWorld_6 : decode cX10_isWorld 6 = .ok (.invokestatic 64, 3) := by decide +kernel
theorem dX10_isWorld_9 : decode cX10_isWorld 9 = .ok (.ifCond .eq 33, 3) := by decide +kernel
theorem dX10_isWorld_12 : decode cX10_isWorld 12 = .ok (.iload_n 1, 1) := by decide +kernel
theorem dX10_isWorld_13 : decode cX10_isWorld 13 = .ok (.invokestatic 80, 3) := by decide +kernel
theorem dX10_isWorld_16 : decode cX10_isWorld 16 = .ok (.ifCond .eq 26, 3) := by decide +kernel
theorem dX10_isWorld_19 : decode cX10_isWorld 19 = .ok (.iload_n 2, 1) := by decide +kernel
theorem dX10_isWorld_20 : decode cX10_isWorld 20 = .ok (.invokestatic 152, 3) := by decide +kernel
theorem dX10_isWorld_23 : decode cX10_isWorld 23 = .ok (.ifCond .eq 19, 3) := by decide +kernel
theorem dX10_isWorld_26 : decode cX10_isWorld 26 = .ok (.iload_n 3, 1) := by decide +kernel
theorem dX10_isWorld_27 : decode cX10_isWorld 27 = .ok (.i2l, 1) := by decide +kernel
theorem dX10_isWorld_28 : decode cX10_isWorld 28 = .ok (.lconst 1, 1) := by decide +kernel
theorem dX10_isWorld_29 : decode cX10_isWorld 29 = .ok (.ldc2_w 288, 3) := by decide +kernel
theorem dX10_isWorld_32 : decode cX10_isWorld 32 = .ok (.invokestatic 64, 3) := by decide +kernel
theorem dX10_isWorld_35 : decode cX10_isWorld 35 = .ok (.ifCond .eq 7, 3) := by decide +kernel
theorem dX10_isWorld_38 : decode cX10_isWorld 38 = .ok (.iconst 1, 1) := by decide +kernel
theorem dX10_isWorld_39 : decode cX10_isWorld 39 = .ok (.goto 4, 3) := by decide +kernel
theorem dX10_isWorld_42 : decode cX10_isWorld 42 = .ok (.iconst 0, 1) := by decide +kernel
theorem dX10_isWorld_43 : decode cX10_isWorld 43 = .ok (.ireturn, 1) := by decide +kernel
theorem dX10_make_0 : decode cX10_make 0 = .ok (.iload_n 1, 1) := by decide +kernel
theorem dX10_make_1 : decode cX10_make 1 = .ok (.invokestatic 76, 3) := by decide +kernel
theorem dX10_make_4 : decode cX10_make 4 = .ok (.ifCond .ne 5, 3) := by decide +kernel
theorem dX10_make_7 : decode cX10_make 7 = .ok (.iconst (-1), 1) := by decide +kernel
theorem dX10_make_8 : decode cX10_make 8 = .ok (.ireturn, 1) := by decide +kernel
theorem dX10_make_9 : decode cX10_make 9 = .ok (.iload_n 2, 1) := by decide +kernel
theorem dX10_make_10 : decode cX10_make 10 = .ok (.iload_n 3, 1) := by decide +kernel
theorem dX10_make_11 : decode cX10_make 11 = .ok (.iload 4, 2) := by decide +kernel
theorem dX10_make_13 : decode cX10_make 13 = .ok (.iload 5, 2) := by decide +kernel
theorem dX10_make_15 : decode cX10_make 15 = .ok (.invokestatic 290, 3) := by decide +kernel
theorem dX10_make_18 : decode cX10_make 18 = .ok (.ifCond .eq 17, 3) := by decide +kernel
theorem dX10_make_21 : decode cX10_make 21 = .ok (.aload_n 0, 1) := by decide +kernel
theorem dX10_make_22 : decode cX10_make 22 = .ok (.iload_n 1, 1) := by decide +kernel
theorem dX10_make_23 : decode cX10_make 23 = .ok (.iload_n 2, 1) := by decide +kernel
theorem dX10_make_24 : decode cX10_make 24 = .ok (.iload_n 3, 1) := by decide +kernel
theorem dX10_make_25 : decode cX10_make 25 = .ok (.iload 4, 2) := by decide +kernel
theorem dX10_make_27 : decode cX10_make 27 = .ok (.iload 5, 2) := by decide +kernel
theorem dX10_make_29 : decode cX10_make 29 = .ok (.invokevirtual 293, 3) := by decide +kernel
theorem dX10_make_32 : decode cX10_make 32 = .ok (.goto 5, 3) := by decide +kernel
theorem dX10_make_35 : decode cX10_make 35 = .ok (.bipush (-2), 2) := by decide +kernel
theorem dX10_make_37 : decode cX10_make 37 = .ok (.ireturn, 1) := by decide +kernel
theorem dX10_undone_0 : decode cX10_undone 0 = .ok (.iload_n 3, 1) := by decide +kernel
theorem dX10_undone_1 : decode cX10_undone 1 = .ok (.ifCond .ne 17, 3) := by decide +kernel
theorem dX10_undone_4 : decode cX10_undone 4 = .ok (.aload_n 0, 1) := by decide +kernel
theorem dX10_undone_5 : decode cX10_undone 5 = .ok (.iload_n 1, 1) := by decide +kernel
theorem dX10_undone_6 : decode cX10_undone 6 = .ok (.invokevirtual 264, 3) := by decide +kernel
theorem dX10_undone_9 : decode cX10_undone 9 = .ok (.aload_n 0, 1) := by decide +kernel
theorem dX10_undone_10 : decode cX10_undone 10 = .ok (.iload_n 1, 1) := by decide +kernel
theorem dX10_undone_11 : decode cX10_undone 11 = .ok (.invokevirtual 172, 3) := by decide +kernel
theorem dX10_undone_14 : decode cX10_undone 14 = .ok (.i2l, 1) := by decide +kernel
theorem dX10_undone_15 : decode cX10_undone 15 = .ok (.ldiv, 1) := by decide +kernel
theorem dX10_undone_16 : decode cX10_undone 16 = .ok (.l2i, 1) := by decide +kernel
theorem dX10_undone_17 : decode cX10_undone 17 = .ok (.ireturn, 1) := by decide +kernel
theorem dX10_undone_18 : decode cX10_undone 18 = .ok (.iload_n 3, 1) := by decide +kernel
theorem dX10_undone_19 : decode cX10_undone 19 = .ok (.iconst 1, 1) := by decide +kernel
theorem dX10_undone_20 : decode cX10_undone 20 = .ok (.if_icmp .ne 9, 3) := by decide +kernel
theorem dX10_undone_23 : decode cX10_undone 23 = .ok (.aload_n 0, 1) := by decide +kernel
theorem dX10_undone_24 : decode cX10_undone 24 = .ok (.iload_n 1, 1) := by decide +kernel
theorem dX10_undone_25 : decode cX10_undone 25 = .ok (.invokevirtual 268, 3) := by decide +kernel
theorem dX10_undone_28 : decode cX10_undone 28 = .ok (.ireturn, 1) := by decide +kernel
theorem dX10_undone_29 : decode cX10_undone 29 = .ok (.iload_n 3, 1) := by decide +kernel
theorem dX10_undone_30 : decode cX10_undone 30 = .ok (.iconst 2, 1) := by decide +kernel
theorem dX10_undone_31 : decode cX10_undone 31 = .ok (.if_icmp .ne 12, 3) := by decide +kernel
theorem dX10_undone_34 : decode cX10_undone 34 = .ok (.aload_n 0, 1) := by decide +kernel
theorem dX10_undone_35 : decode cX10_undone 35 = .ok (.iload_n 1, 1) := by decide +kernel
theorem dX10_undone_36 : decode cX10_undone 36 = .ok (.iload_n 2, 1) := by decide +kernel
theorem dX10_undone_37 : decode cX10_undone 37 = .ok (.invokevirtual 192, 3) := by decide +kernel
theorem dX10_undone_40 : decode cX10_undone 40 = .ok (.goto 9, 3) := by decide +kernel
theorem dX10_undone_43 : decode cX10_undone 43 = .ok (.aload_n 0, 1) := by decide +kernel
theorem dX10_undone_44 : decode cX10_undone 44 = .ok (.iload_n 1, 1) := by decide +kernel
theorem dX10_undone_45 : decode cX10_undone 45 = .ok (.iload_n 2, 1) := by decide +kernel
theorem dX10_undone_46 : decode cX10_undone 46 = .ok (.invokevirtual 205, 3) := by decide +kernel
theorem dX10_undone_49 : decode cX10_undone 49 = .ok (.aload_n 0, 1) := by decide +kernel
theorem dX10_undone_50 : decode cX10_undone 50 = .ok (.getfield 185, 3) := by decide +kernel
theorem dX10_undone_53 : decode cX10_undone 53 = .ok (.ireturn, 1) := by decide +kernel
theorem dX10_offOf_0 : decode cX10_offOf 0 = .ok (.iconst 0, 1) := by decide +kernel
theorem dX10_offOf_1 : decode cX10_offOf 1 = .ok (.istore 8, 2) := by decide +kernel
theorem dX10_offOf_3 : decode cX10_offOf 3 = .ok (.iload 8, 2) := by decide +kernel
theorem dX10_offOf_5 : decode cX10_offOf 5 = .ok (.bipush 64, 2) := by decide +kernel
theorem dX10_offOf_7 : decode cX10_offOf 7 = .ok (.if_icmp .ge 27, 3) := by decide +kernel
theorem dX10_offOf_10 : decode cX10_offOf 10 = .ok (.aload_n 0, 1) := by decide +kernel
theorem dX10_offOf_11 : decode cX10_offOf 11 = .ok (.getfield 52, 3) := by decide +kernel
theorem dX10_offOf_14 : decode cX10_offOf 14 = .ok (.iload 8, 2) := by decide +kernel
theorem dX10_offOf_16 : decode cX10_offOf 16 = .ok (.aload_n 0, 1) := by decide +kernel
theorem dX10_offOf_17 : decode cX10_offOf 17 = .ok (.getfield 7, 3) := by decide +kernel
theorem dX10_offOf_20 : decode cX10_offOf 20 = .ok (.iload_n 1, 1) := by decide +kernel
theorem dX10_offOf_21 : decode cX10_offOf 21 = .ok (.iload 8, 2) := by decide +kernel
theorem dX10_offOf_23 : decode cX10_offOf 23 = .ok (.invokestatic 85, 3) := by decide +kernel
theorem dX10_offOf_26 : decode cX10_offOf 26 = .ok (.iaload, 1) := by decide +kernel
theorem dX10_offOf_27 : decode cX10_offOf 27 = .ok (.iastore, 1) := by decide +kernel
theorem dX10_offOf_28 : decode cX10_offOf 28 = .ok (.iinc 8 1, 3) := by decide +kernel
theorem dX10_offOf_31 : decode cX10_offOf 31 = .ok (.goto (-28), 3) := by decide +kernel
theorem dX10_offOf_34 : decode cX10_offOf 34 = .ok (.iconst 0, 1) := by decide +kernel
theorem dX10_offOf_35 : decode cX10_offOf 35 = .ok (.istore 8, 2) := by decide +kernel
theorem dX10_offOf_37 : decode cX10_offOf 37 = .ok (.iconst 0, 1) := by decide +kernel
theorem dX10_offOf_38 : decode cX10_offOf 38 = .ok (.istore 9, 2) := by decide +kernel
theorem dX10_offOf_40 : decode cX10_offOf 40 = .ok (.iload 9, 2) := by decide +kernel
theorem dX10_offOf_42 : decode cX10_offOf 42 = .ok (.iload 6, 2) := by decide +kernel
theorem dX10_offOf_44 : decode cX10_offOf 44 = .ok (.if_icmp .ge 53, 3) := by decide +kernel
theorem dX10_offOf_47 : decode cX10_offOf 47 = .ok (.aload_n 0, 1) := by decide +kernel
theorem dX10_offOf_48 : decode cX10_offOf 48 = .ok (.iload_n 1, 1) := by decide +kernel
theorem dX10_offOf_49 : decode cX10_offOf 49 = .ok (.iload_n 2, 1) := by decide +kernel
theorem dX10_offOf_50 : decode cX10_offOf 50 = .ok (.iload 9, 2) := by decide +kernel
theorem dX10_offOf_52 : decode cX10_offOf 52 = .ok (.iadd, 1) := by decide +kernel
theorem dX10_offOf_53 : decode cX10_offOf 53 = .ok (.iload_n 3, 1) := by decide +kernel
theorem dX10_offOf_54 : decode cX10_offOf 54 = .ok (.iload 4, 2) := by decide +kernel
theorem dX10_offOf_56 : decode cX10_offOf 56 = .ok (.iload 5, 2) := by decide +kernel
theorem dX10_offOf_58 : decode cX10_offOf 58 = .ok (.invokevirtual 293, 3) := by decide +kernel
theorem dX10_offOf_61 : decode cX10_offOf 61 = .ok (.istore 10, 2) := by decide +kernel
theorem dX10_offOf_63 : decode cX10_offOf 63 = .ok (.iload 8, 2) := by decide +kernel
theorem dX10_offOf_65 : decode cX10_offOf 65 = .ok (.iload 10, 2) := by decide +kernel
theorem dX10_offOf_67 : decode cX10_offOf 67 = .ok (.ifCond .ne 8, 3) := by decide +kernel
theorem dX10_offOf_70 : decode cX10_offOf 70 = .ok (.bipush 63, 2) := by decide +kernel
theorem dX10_offOf_72 : decode cX10_offOf 72 = .ok (.goto 16, 3) := by decide +kernel
theorem dX10_offOf_75 : decode cX10_offOf 75 = .ok (.aload_n 0, 1) := by decide +kernel
theorem dX10_offOf_76 : decode cX10_offOf 76 = .ok (.iload_n 1, 1) := by decide +kernel
theorem dX10_offOf_77 : decode cX10_offOf 77 = .ok (.iload 4, 2) := by decide +kernel
theorem dX10_offOf_79 : decode cX10_offOf 79 = .ok (.iload 7, 2) := by decide +kernel
theorem dX10_offOf_81 : decode cX10_offOf 81 = .ok (.invokevirtual 296, 3) := by decide +kernel
theorem dX10_offOf_84 : decode cX10_offOf 84 = .ok (.iload_n 3, 1) := by decide +kernel
theorem dX10_offOf_85 : decode cX10_offOf 85 = .ok (.invokestatic 165, 3) := by decide +kernel
theorem dX10_offOf_88 : decode cX10_offOf 88 = .ok (.iadd, 1) := by decide +kernel
theorem dX10_offOf_89 : decode cX10_offOf 89 = .ok (.istore 8, 2) := by decide +kernel
theorem dX10_offOf_91 : decode cX10_offOf 91 = .ok (.iinc 9 1, 3) := by decide +kernel
theorem dX10_offOf_94 : decode cX10_offOf 94 = .ok (.goto (-54), 3) := by decide +kernel
theorem dX10_offOf_97 : decode cX10_offOf 97 = .ok (.iconst 0, 1) := by decide +kernel
theorem dX10_offOf_98 : decode cX10_offOf 98 = .ok (.istore 9, 2) := by decide +kernel
theorem dX10_offOf_100 : decode cX10_offOf 100 = .ok (.iload 9, 2) := by decide +kernel
theorem dX10_offOf_102 : decode cX10_offOf 102 = .ok (.bipush 64, 2) := by decide +kernel
theorem dX10_offOf_104 : decode cX10_offOf 104 = .ok (.if_icmp .ge 27, 3) := by decide +kernel
theorem dX10_offOf_107 : decode cX10_offOf 107 = .ok (.aload_n 0, 1) := by decide +kernel
theorem dX10_offOf_108 : decode cX10_offOf 108 = .ok (.getfield 7, 3) := by decide +kernel
theorem dX10_offOf_111 : decode cX10_offOf 111 = .ok (.iload_n 1, 1) := by decide +kernel
theorem dX10_offOf_112 : decode cX10_offOf 112 = .ok (.iload 9, 2) := by decide +kernel
theorem dX10_offOf_114 : decode cX10_offOf 114 = .ok (.invokestatic 85, 3) := by decide +kernel
theorem dX10_offOf_117 : decode cX10_offOf 117 = .ok (.aload_n 0, 1) := by decide +kernel
theorem dX10_offOf_118 : decode cX10_offOf 118 = .ok (.getfield 52, 3) := by decide +kernel
theorem dX10_offOf_121 : decode cX10_offOf 121 = .ok (.iload 9, 2) := by decide +kernel
theorem dX10_offOf_123 : decode cX10_offOf 123 = .ok (.iaload, 1) := by decide +kernel
theorem dX10_offOf_124 : decode cX10_offOf 124 = .ok (.iastore, 1) := by decide +kernel
theorem dX10_offOf_125 : decode cX10_offOf 125 = .ok (.iinc 9 1, 3) := by decide +kernel
theorem dX10_offOf_128 : decode cX10_offOf 128 = .ok (.goto (-28), 3) := by decide +kernel
theorem dX10_offOf_131 : decode cX10_offOf 131 = .ok (.iload 8, 2) := by decide +kernel
theorem dX10_offOf_133 : decode cX10_offOf 133 = .ok (.ireturn, 1) := by decide +kernel
theorem dX10_off_0 : decode cX10_off 0 = .ok (.iload_n 1, 1) := by decide +kernel
theorem dX10_off_1 : decode cX10_off 1 = .ok (.invokestatic 76, 3) := by decide +kernel
theorem dX10_off_4 : decode cX10_off 4 = .ok (.ifCond .ne 5, 3) := by decide +kernel
theorem dX10_off_7 : decode cX10_off 7 = .ok (.iconst (-1), 1) := by decide +kernel
theorem dX10_off_8 : decode cX10_off 8 = .ok (.ireturn, 1) := by decide +kernel
theorem dX10_off_9 : decode cX10_off 9 = .ok (.iload_n 2, 1) := by decide +kernel
theorem dX10_off_10 : decode cX10_off 10 = .ok (.iload_n 3, 1) := by decide +kernel
theorem dX10_off_11 : decode cX10_off 11 = .ok (.iload 4, 2) := by decide +kernel
theorem dX10_off_13 : decode cX10_off 13 = .ok (.iload 5, 2) := by decide +kernel
theorem dX10_off_15 : decode cX10_off 15 = .ok (.invokestatic 290, 3) := by decide +kernel
theorem dX10_off_18 : decode cX10_off 18 = .ok (.ifCond .eq 29, 3) := by decide +kernel
theorem dX10_off_21 : decode cX10_off 21 = .ok (.iload 6, 2) := by decide +kernel
theorem dX10_off_23 : decode cX10_off 23 = .ok (.i2l, 1) := by decide +kernel
theorem dX10_off_24 : decode cX10_off 24 = .ok (.lconst 1, 1) := by decide +kernel
theorem dX10_off_25 : decode cX10_off 25 = .ok (.ldc2_w 70, 3) := by decide +kernel
theorem dX10_off_28 : decode cX10_off 28 = .ok (.invokestatic 64, 3) := by decide +kernel
theorem dX10_off_31 : decode cX10_off 31 = .ok (.ifCond .eq 16, 3) := by decide +kernel
theorem dX10_off_34 : decode cX10_off 34 = .ok (.iload 7, 2) := by decide +kernel
theorem dX10_off_36 : decode cX10_off 36 = .ok (.i2l, 1) := by decide +kernel
theorem dX10_off_37 : decode cX10_off 37 = .ok (.lconst 0, 1) := by decide +kernel
theorem dX10_off_38 : decode cX10_off 38 = .ok (.ldc2_w 299, 3) := by decide +kernel
theorem dX10_off_41 : decode cX10_off 41 = .ok (.invokestatic 64, 3) := by decide +kernel
theorem dX10_off_44 : decode cX10_off 44 = .ok (.ifCond .ne 6, 3) := by decide +kernel
theorem dX10_off_47 : decode cX10_off 47 = .ok (.bipush (-2), 2) := by decide +kernel
theorem dX10_off_49 : decode cX10_off 49 = .ok (.ireturn, 1) := by decide +kernel
theorem dX10_off_50 : decode cX10_off 50 = .ok (.aload_n 0, 1) := by decide +kernel
theorem dX10_off_51 : decode cX10_off 51 = .ok (.iload_n 1, 1) := by decide +kernel
theorem dX10_off_52 : decode cX10_off 52 = .ok (.iload_n 2, 1) := by decide +kernel
theorem dX10_off_53 : decode cX10_off 53 = .ok (.iload_n 3, 1) := by decide +kernel
theorem dX10_off_54 : decode cX10_off 54 = .ok (.iload 4, 2) := by decide +kernel
theorem dX10_off_56 : decode cX10_off 56 = .ok (.iload 5, 2) := by decide +kernel
theorem dX10_off_58 : decode cX10_off 58 = .ok (.iload 6, 2) := by decide +kernel
theorem dX10_off_60 : decode cX10_off 60 = .ok (.iload 7, 2) := by decide +kernel
theorem dX10_off_62 : decode cX10_off 62 = .ok (.invokevirtual 301, 3) := by decide +kernel
theorem dX10_off_65 : decode cX10_off 65 = .ok (.ireturn, 1) := by decide +kernel
theorem dX10_best_0 : decode cX10_best 0 = .ok (.iload_n 1, 1) := by decide +kernel
theorem dX10_best_1 : decode cX10_best 1 = .ok (.invokestatic 76, 3) := by decide +kernel
theorem dX10_best_4 : decode cX10_best 4 = .ok (.ifCond .ne 5, 3) := by decide +kernel
theorem dX10_best_7 : decode cX10_best 7 = .ok (.iconst (-1), 1) := by decide +kernel
theorem dX10_best_8 : decode cX10_best 8 = .ok (.ireturn, 1) := by decide +kernel
theorem dX10_best_9 : decode cX10_best 9 = .ok (.iload_n 2, 1) := by decide +kernel
theorem dX10_best_10 : decode cX10_best 10 = .ok (.iload_n 3, 1) := by decide +kernel
theorem dX10_best_11 : decode cX10_best 11 = .ok (.iload 4, 2) := by decide +kernel
theorem dX10_best_13 : decode cX10_best 13 = .ok (.iload 5, 2) := by decide +kernel
theorem dX10_best_15 : decode cX10_best 15 = .ok (.invokestatic 290, 3) := by decide +kernel
theorem dX10_best_18 : decode cX10_best 18 = .ok (.ifCond .eq 16, 3) := by decide +kernel
theorem dX10_best_21 : decode cX10_best 21 = .ok (.iload 6, 2) := by decide +kernel
theorem dX10_best_23 : decode cX10_best 23 = .ok (.i2l, 1) := by decide +kernel
theorem dX10_best_24 : decode cX10_best 24 = .ok (.lconst 1, 1) := by decide +kernel
theorem dX10_best_25 : decode cX10_best 25 = .ok (.ldc2_w 70, 3) := by decide +kernel
theorem dX10_best_28 : decode cX10_best 28 = .ok (.invokestatic 64, 3) := by decide +kernel
theorem dX10_best_31 : decode cX10_best 31 = .ok (.ifCond .ne 6, 3) := by decide +kernel
theorem dX10_best_34 : decode cX10_best 34 = .ok (.bipush (-2), 2) := by decide +kernel
theorem dX10_best_36 : decode cX10_best 36 = .ok (.ireturn, 1) := by decide +kernel
theorem dX10_best_37 : decode cX10_best 37 = .ok (.iconst 0, 1) := by decide +kernel
theorem dX10_best_38 : decode cX10_best 38 = .ok (.istore 7, 2) := by decide +kernel
theorem dX10_best_40 : decode cX10_best 40 = .ok (.aload_n 0, 1) := by decide +kernel
theorem dX10_best_41 : decode cX10_best 41 = .ok (.iload_n 1, 1) := by decide +kernel
theorem dX10_best_42 : decode cX10_best 42 = .ok (.iload_n 2, 1) := by decide +kernel
theorem dX10_best_43 : decode cX10_best 43 = .ok (.iload_n 3, 1) := by decide +kernel
theorem dX10_best_44 : decode cX10_best 44 = .ok (.iload 4, 2) := by decide +kernel
theorem dX10_best_46 : decode cX10_best 46 = .ok (.iload 5, 2) := by decide +kernel
theorem dX10_best_48 : decode cX10_best 48 = .ok (.iload 6, 2) := by decide +kernel
theorem dX10_best_50 : decode cX10_best 50 = .ok (.iconst 0, 1) := by decide +kernel
theorem dX10_best_51 : decode cX10_best 51 = .ok (.invokevirtual 301, 3) := by decide +kernel
theorem dX10_best_54 : decode cX10_best 54 = .ok (.istore 8, 2) := by decide +kernel
theorem dX10_best_56 : decode cX10_best 56 = .ok (.iconst 1, 1) := by decide +kernel
theorem dX10_best_57 : decode cX10_best 57 = .ok (.istore 9, 2) := by decide +kernel
theorem dX10_best_59 : decode cX10_best 59 = .ok (.iload 9, 2) := by decide +kernel
theorem dX10_best_61 : decode cX10_best 61 = .ok (.iconst 4, 1) := by decide +kernel
theorem dX10_best_62 : decode cX10_best 62 = .ok (.if_icmp .ge 41, 3) := by decide +kernel
theorem dX10_best_65 : decode cX10_best 65 = .ok (.aload_n 0, 1) := by decide +kernel
theorem dX10_best_66 : decode cX10_best 66 = .ok (.iload_n 1, 1) := by decide +kernel
theorem dX10_best_67 : decode cX10_best 67 = .ok (.iload_n 2, 1) := by decide +kernel
theorem dX10_best_68 : decode cX10_best 68 = .ok (.iload_n 3, 1) := by decide +kernel
theorem dX10_best_69 : decode cX10_best 69 = .ok (.iload 4, 2) := by decide +kernel
theorem dX10_best_71 : decode cX10_best 71 = .ok (.iload 5, 2) := by decide +kernel
theorem dX10_best_73 : decode cX10_best 73 = .ok (.iload 6, 2) := by decide +kernel
theorem dX10_best_75 : decode cX10_best 75 = .ok (.iload 9, 2) := by decide +kernel
theorem dX10_best_77 : decode cX10_best 77 = .ok (.invokevirtual 301, 3) := by decide +kernel
theorem dX10_best_80 : decode cX10_best 80 = .ok (.istore 10, 2) := by decide +kernel
theorem dX10_best_82 : decode cX10_best 82 = .ok (.iload 10, 2) := by decide +kernel
theorem dX10_best_84 : decode cX10_best 84 = .ok (.iload 8, 2) := by decide +kernel
theorem dX10_best_86 : decode cX10_best 86 = .ok (.if_icmp .ge 11, 3) := by decide +kernel
theorem dX10_best_89 : decode cX10_best 89 = .ok (.iload 9, 2) := by decide +kernel
theorem dX10_best_91 : decode cX10_best 91 = .ok (.istore 7, 2) := by decide +kernel
theorem dX10_best_93 : decode cX10_best 93 = .ok (.iload 10, 2) := by decide +kernel
theorem dX10_best_95 : decode cX10_best 95 = .ok (.istore 8, 2) := by decide +kernel
theorem dX10_best_97 : decode cX10_best 97 = .ok (.iinc 9 1, 3) := by decide +kernel
theorem dX10_best_100 : decode cX10_best 100 = .ok (.goto (-41), 3) := by decide +kernel
theorem dX10_best_103 : decode cX10_best 103 = .ok (.iload 7, 2) := by decide +kernel
theorem dX10_best_105 : decode cX10_best 105 = .ok (.ireturn, 1) := by decide +kernel
theorem dX10_pass_0 : decode cX10_pass 0 = .ok (.aload_n 0, 1) := by decide +kernel
theorem dX10_pass_1 : decode cX10_pass 1 = .ok (.getfield 305, 3) := by decide +kernel
theorem dX10_pass_4 : decode cX10_pass 4 = .ok (.ifCond .eq 7, 3) := by decide +kernel
theorem dX10_pass_7 : decode cX10_pass 7 = .ok (.iload_n 1, 1) := by decide +kernel
theorem dX10_pass_8 : decode cX10_pass 8 = .ok (.goto 12, 3) := by decide +kernel
theorem dX10_pass_11 : decode cX10_pass 11 = .ok (.aload_n 0, 1) := by decide +kernel
theorem dX10_pass_12 : decode cX10_pass 12 = .ok (.getfield 55, 3) := by decide +kernel
theorem dX10_pass_15 : decode cX10_pass 15 = .ok (.aload_n 0, 1) := by decide +kernel
theorem dX10_pass_16 : decode cX10_pass 16 = .ok (.getfield 309, 3) := by decide +kernel
theorem dX10_pass_19 : decode cX10_pass 19 = .ok (.iaload, 1) := by decide +kernel
theorem dX10_pass_20 : decode cX10_pass 20 = .ok (.istore_n 2, 1) := by decide +kernel
theorem dX10_pass_21 : decode cX10_pass 21 = .ok (.aload_n 0, 1) := by decide +kernel
theorem dX10_pass_22 : decode cX10_pass 22 = .ok (.getfield 55, 3) := by decide +kernel
theorem dX10_pass_25 : decode cX10_pass 25 = .ok (.aload_n 0, 1) := by decide +kernel
theorem dX10_pass_26 : decode cX10_pass 26 = .ok (.getfield 309, 3) := by decide +kernel
theorem dX10_pass_29 : decode cX10_pass 29 = .ok (.iload_n 2, 1) := by decide +kernel
theorem dX10_pass_30 : decode cX10_pass 30 = .ok (.iastore, 1) := by decide +kernel
theorem dX10_pass_31 : decode cX10_pass 31 = .ok (.aload_n 0, 1) := by decide +kernel
theorem dX10_pass_32 : decode cX10_pass 32 = .ok (.dup, 1) := by decide +kernel
theorem dX10_pass_33 : decode cX10_pass 33 = .ok (.getfield 309, 3) := by decide +kernel
theorem dX10_pass_36 : decode cX10_pass 36 = .ok (.iconst 1, 1) := by decide +kernel
theorem dX10_pass_37 : decode cX10_pass 37 = .ok (.iadd, 1) := by decide +kernel
theorem dX10_pass_38 : decode cX10_pass 38 = .ok (.putfield 309, 3) := by decide +kernel
theorem dX10_pass_41 : decode cX10_pass 41 = .ok (.iload_n 2, 1) := by decide +kernel
theorem dX10_pass_42 : decode cX10_pass 42 = .ok (.ireturn, 1) := by decide +kernel
theorem dX10_passAll_0 : decode cX10_passAll 0 = .ok (.aload_n 0, 1) := by decide +kernel
theorem dX10_passAll_1 : decode cX10_passAll 1 = .ok (.aload_n 0, 1) := by decide +kernel
theorem dX10_passAll_2 : decode cX10_passAll 2 = .ok (.aload_n 0, 1) := by decide +kernel
theorem dX10_passAll_3 : decode cX10_passAll 3 = .ok (.getfield 131, 3) := by decide +kernel
theorem dX10_passAll_6 : decode cX10_passAll 6 = .ok (.invokevirtual 312, 3) := by decide +kernel
theorem dX10_passAll_9 : decode cX10_passAll 9 = .ok (.putfield 131, 3) := by decide +kernel
theorem dX10_passAll_12 : decode cX10_passAll 12 = .ok (.aload_n 0, 1) := by decide +kernel
theorem dX10_passAll_13 : decode cX10_passAll 13 = .ok (.aload_n 0, 1) := by decide +kernel
theorem dX10_passAll_14 : decode cX10_passAll 14 = .ok (.aload_n 0, 1) := by decide +kernel
theorem dX10_passAll_15 : decode cX10_passAll 15 = .ok (.getfield 134, 3) := by decide +kernel
theorem dX10_passAll_18 : decode cX10_passAll 18 = .ok (.invokevirtual 312, 3) := by decide +kernel
theorem dX10_passAll_21 : decode cX10_passAll 21 = .ok (.putfield 134, 3) := by decide +kernel
theorem dX10_passAll_24 : decode cX10_passAll 24 = .ok (.aload_n 0, 1) := by decide +kernel
theorem dX10_passAll_25 : decode cX10_passAll 25 = .ok (.aload_n 0, 1) := by decide +kernel
theorem dX10_passAll_26 : decode cX10_passAll 26 = .ok (.aload_n 0, 1) := by decide +kernel
theorem dX10_passAll_27 : decode cX10_passAll 27 = .ok (.getfield 137, 3) := by decide +kernel
theorem dX10_passAll_30 : decode cX10_passAll 30 = .ok (.invokevirtual 312, 3) := by decide +kernel
theorem dX10_passAll_33 : decode cX10_passAll 33 = .ok (.putfield 137, 3) := by decide +kernel
theorem dX10_passAll_36 : decode cX10_passAll 36 = .ok (.iconst 0, 1) := by decide +kernel
theorem dX10_passAll_37 : decode cX10_passAll 37 = .ok (.istore_n 1, 1) := by decide +kernel
theorem dX10_passAll_38 : decode cX10_passAll 38 = .ok (.iload_n 1, 1) := by decide +kernel
theorem dX10_passAll_39 : decode cX10_passAll 39 = .ok (.sipush 384, 3) := by decide +kernel
theorem dX10_passAll_42 : decode cX10_passAll 42 = .ok (.if_icmp .ge 25, 3) := by decide +kernel
theorem dX10_passAll_45 : decode cX10_passAll 45 = .ok (.aload_n 0, 1) := by decide +kernel
theorem dX10_passAll_46 : decode cX10_passAll 46 = .ok (.getfield 7, 3) := by decide +kernel
theorem dX10_passAll_49 : decode cX10_passAll 49 = .ok (.iload_n 1, 1) := by decide +kernel
theorem dX10_passAll_50 : decode cX10_passAll 50 = .ok (.aload_n 0, 1) := by decide +kernel
theorem dX10_passAll_51 : decode cX10_passAll 51 = .ok (.aload_n 0, 1) := by decide +kernel
theorem dX10_passAll_52 : decode cX10_passAll 52 = .ok (.getfield 7, 3) := by decide +kernel
theorem dX10_passAll_55 : decode cX10_passAll 55 = .ok (.iload_n 1, 1) := by decide +kernel
theorem dX10_passAll_56 : decode cX10_passAll 56 = .ok (.iaload, 1) := by decide +kernel
theorem dX10_passAll_57 : decode cX10_passAll 57 = .ok (.invokevirtual 312, 3) := by decide +kernel
theorem dX10_passAll_60 : decode cX10_passAll 60 = .ok (.iastore, 1) := by decide +kernel
theorem dX10_passAll_61 : decode cX10_passAll 61 = .ok (.iinc 1 1, 3) := by decide +kernel
theorem dX10_passAll_64 : decode cX10_passAll 64 = .ok (.goto (-26), 3) := by decide +kernel
theorem dX10_passAll_67 : decode cX10_passAll 67 = .ok (.iconst 0, 1) := by decide +kernel
theorem dX10_passAll_68 : decode cX10_passAll 68 = .ok (.istore_n 1, 1) := by decide +kernel
theorem dX10_passAll_69 : decode cX10_passAll 69 = .ok (.iload_n 1, 1) := by decide +kernel
theorem dX10_passAll_70 : decode cX10_passAll 70 = .ok (.bipush 6, 2) := by decide +kernel
theorem dX10_passAll_72 : decode cX10_passAll 72 = .ok (.if_icmp .ge 57, 3) := by decide +kernel
theorem dX10_passAll_75 : decode cX10_passAll 75 = .ok (.aload_n 0, 1) := by decide +kernel
theorem dX10_passAll_76 : decode cX10_passAll 76 = .ok (.getfield 13, 3) := by decide +kernel
theorem dX10_passAll_79 : decode cX10_passAll 79 = .ok (.iload_n 1, 1) := by decide +kernel
theorem dX10_passAll_80 : decode cX10_passAll 80 = .ok (.aload_n 0, 1) := by decide +kernel
theorem dX10_passAll_81 : decode cX10_passAll 81 = .ok (.aload_n 0, 1) := by decide +kernel
theorem dX10_passAll_82 : decode cX10_passAll 82 = .ok (.getfield 13, 3) := by decide +kernel
theorem dX10_passAll_85 : decode cX10_passAll 85 = .ok (.iload_n 1, 1) := by decide +kernel
theorem dX10_passAll_86 : decode cX10_passAll 86 = .ok (.iaload, 1) := by decide +kernel
theorem dX10_passAll_87 : decode cX10_passAll 87 = .ok (.invokevirtual 312, 3) := by decide +kernel
theorem dX10_passAll_90 : decode cX10_passAll 90 = .ok (.iastore, 1) := by decide +kernel
theorem dX10_passAll_91 : decode cX10_passAll 91 = .ok (.aload_n 0, 1) := by decide +kernel
theorem dX10_passAll_92 : decode cX10_passAll 92 = .ok (.getfield 16, 3) := by decide +kernel
theorem dX10_passAll_95 : decode cX10_passAll 95 = .ok (.iload_n 1, 1) := by decide +kernel
theorem dX10_passAll_96 : decode cX10_passAll 96 = .ok (.aload_n 0, 1) := by decide +kernel
theorem dX10_passAll_97 : decode cX10_passAll 97 = .ok (.aload_n 0, 1) := by decide +kernel
theorem dX10_passAll_98 : decode cX10_passAll 98 = .ok (.getfield 16, 3) := by decide +kernel
theorem dX10_passAll_101 : decode cX10_passAll 101 = .ok (.iload_n 1, 1) := by decide +kernel
theorem dX10_passAll_102 : decode cX10_passAll 102 = .ok (.iaload, 1) := by decide +kernel
theorem dX10_passAll_103 : decode cX10_passAll 103 = .ok (.invokevirtual 312, 3) := by decide +kernel
theorem dX10_passAll_106 : decode cX10_passAll 106 = .ok (.iastore, 1) := by decide +kernel
theorem dX10_passAll_107 : decode cX10_passAll 107 = .ok (.aload_n 0, 1) := by decide +kernel
theorem dX10_passAll_108 : decode cX10_passAll 108 = .ok (.getfield 19, 3) := by decide +kernel
theorem dX10_passAll_111 : decode cX10_passAll 111 = .ok (.iload_n 1, 1) := by decide +kernel
theorem dX10_passAll_112 : decode cX10_passAll 112 = .ok (.aload_n 0, 1) := by decide +kernel
theorem dX10_passAll_113 : decode cX10_passAll 113 = .ok (.aload_n 0, 1) := by decide +kernel
theorem dX10_passAll_114 : decode cX10_passAll 114 = .ok (.getfield 19, 3) := by decide +kernel
theorem dX10_passAll_117 : decode cX10_passAll 117 = .ok (.iload_n 1, 1) := by decide +kernel
theorem dX10_passAll_118 : decode cX10_passAll 118 = .ok (.iaload, 1) := by decide +kernel
theorem dX10_passAll_119 : decode cX10_passAll 119 = .ok (.invokevirtual 312, 3) := by decide +kernel
theorem dX10_passAll_122 : decode cX10_passAll 122 = .ok (.iastore, 1) := by decide +kernel
theorem dX10_passAll_123 : decode cX10_passAll 123 = .ok (.iinc 1 1, 3) := by decide +kernel
theorem dX10_passAll_126 : decode cX10_passAll 126 = .ok (.goto (-57), 3) := by decide +kernel
theorem dX10_passAll_129 : decode cX10_passAll 129 = .ok (.iconst 0, 1) := by decide +kernel
theorem dX10_passAll_130 : decode cX10_passAll 130 = .ok (.istore_n 1, 1) := by decide +kernel
theorem dX10_passAll_131 : decode cX10_passAll 131 = .ok (.iload_n 1, 1) := by decide +kernel
theorem dX10_passAll_132 : decode cX10_passAll 132 = .ok (.iconst 5, 1) := by decide +kernel
theorem dX10_passAll_133 : decode cX10_passAll 133 = .ok (.if_icmp .ge 25, 3) := by decide +kernel
theorem dX10_passAll_136 : decode cX10_passAll 136 = .ok (.aload_n 0, 1) := by decide +kernel
theorem dX10_passAll_137 : decode cX10_passAll 137 = .ok (.getfield 22, 3) := by decide +kernel
theorem dX10_passAll_140 : decode cX10_passAll 140 = .ok (.iload_n 1, 1) := by decide +kernel
theorem dX10_passAll_141 : decode cX10_passAll 141 = .ok (.aload_n 0, 1) := by decide +kernel
theorem dX10_passAll_142 : decode cX10_passAll 142 = .ok (.aload_n 0, 1) := by decide +kernel
theorem dX10_passAll_143 : decode cX10_passAll 143 = .ok (.getfield 22, 3) := by decide +kernel
theorem dX10_passAll_146 : decode cX10_passAll 146 = .ok (.iload_n 1, 1) := by decide +kernel
theorem dX10_passAll_147 : decode cX10_passAll 147 = .ok (.iaload, 1) := by decide +kernel
theorem dX10_passAll_148 : decode cX10_passAll 148 = .ok (.invokevirtual 312, 3) := by decide +kernel
theorem dX10_passAll_151 : decode cX10_passAll 151 = .ok (.iastore, 1) := by decide +kernel
theorem dX10_passAll_152 : decode cX10_passAll 152 = .ok (.iinc 1 1, 3) := by decide +kernel
theorem dX10_passAll_155 : decode cX10_passAll 155 = .ok (.goto (-24), 3) := by decide +kernel
theorem dX10_passAll_158 : decode cX10_passAll 158 = .ok (.iconst 0, 1) := by decide +kernel
theorem dX10_passAll_159 : decode cX10_passAll 159 = .ok (.istore_n 1, 1) := by decide +kernel
theorem dX10_passAll_160 : decode cX10_passAll 160 = .ok (.iload_n 1, 1) := by decide +kernel
theorem dX10_passAll_161 : decode cX10_passAll 161 = .ok (.bipush 20, 2) := by decide +kernel
theorem dX10_passAll_163 : decode cX10_passAll 163 = .ok (.if_icmp .ge 45, 3) := by decide +kernel
theorem dX10_passAll_166 : decode cX10_passAll 166 = .ok (.aload_n 0, 1) := by decide +kernel
theorem dX10_passAll_167 : decode cX10_passAll 167 = .ok (.getfield 28, 3) := by decide +kernel
theorem dX10_passAll_170 : decode cX10_passAll 170 = .ok (.iload_n 1, 1) := by decide +kernel
theorem dX10_passAll_171 : decode cX10_passAll 171 = .ok (.iconst 1, 1) := by decide +kernel
theorem dX10_passAll_172 : decode cX10_passAll 172 = .ok (.iadd, 1) := by decide +kernel
theorem dX10_passAll_173 : decode cX10_passAll 173 = .ok (.aload_n 0, 1) := by decide +kernel
theorem dX10_passAll_174 : decode cX10_passAll 174 = .ok (.aload_n 0, 1) := by decide +kernel
theorem dX10_passAll_175 : decode cX10_passAll 175 = .ok (.getfield 28, 3) := by decide +kernel
theorem dX10_passAll_178 : decode cX10_passAll 178 = .ok (.iload_n 1, 1) := by decide +kernel
theorem dX10_passAll_179 : decode cX10_passAll 179 = .ok (.iconst 1, 1) := by decide +kernel
theorem dX10_passAll_180 : decode cX10_passAll 180 = .ok (.iadd, 1) := by decide +kernel
theorem dX10_passAll_181 : decode cX10_passAll 181 = .ok (.iaload, 1) := by decide +kernel
theorem dX10_passAll_182 : decode cX10_passAll 182 = .ok (.invokevirtual 312, 3) := by decide +kernel
theorem dX10_passAll_185 : decode cX10_passAll 185 = .ok (.iastore, 1) := by decide +kernel
theorem dX10_passAll_186 : decode cX10_passAll 186 = .ok (.aload_n 0, 1) := by decide +kernel
theorem dX10_passAll_187 : decode cX10_passAll 187 = .ok (.getfield 31, 3) := by decide +kernel
theorem dX10_passAll_190 : decode cX10_passAll 190 = .ok (.iload_n 1, 1) := by decide +kernel
theorem dX10_passAll_191 : decode cX10_passAll 191 = .ok (.aload_n 0, 1) := by decide +kernel
theorem dX10_passAll_192 : decode cX10_passAll 192 = .ok (.aload_n 0, 1) := by decide +kernel
theorem dX10_passAll_193 : decode cX10_passAll 193 = .ok (.getfield 31, 3) := by decide +kernel
theorem dX10_passAll_196 : decode cX10_passAll 196 = .ok (.iload_n 1, 1) := by decide +kernel
theorem dX10_passAll_197 : decode cX10_passAll 197 = .ok (.iaload, 1) := by decide +kernel
theorem dX10_passAll_198 : decode cX10_passAll 198 = .ok (.invokevirtual 312, 3) := by decide +kernel
theorem dX10_passAll_201 : decode cX10_passAll 201 = .ok (.iastore, 1) := by decide +kernel
theorem dX10_passAll_202 : decode cX10_passAll 202 = .ok (.iinc 1 1, 3) := by decide +kernel
theorem dX10_passAll_205 : decode cX10_passAll 205 = .ok (.goto (-45), 3) := by decide +kernel
theorem dX10_passAll_208 : decode cX10_passAll 208 = .ok (.iconst 0, 1) := by decide +kernel
theorem dX10_passAll_209 : decode cX10_passAll 209 = .ok (.istore_n 1, 1) := by decide +kernel
theorem dX10_passAll_210 : decode cX10_passAll 210 = .ok (.iload_n 1, 1) := by decide +kernel
theorem dX10_passAll_211 : decode cX10_passAll 211 = .ok (.bipush 20, 2) := by decide +kernel
theorem dX10_passAll_213 : decode cX10_passAll 213 = .ok (.if_icmp .ge 57, 3) := by decide +kernel
theorem dX10_passAll_216 : decode cX10_passAll 216 = .ok (.aload_n 0, 1) := by decide +kernel
theorem dX10_passAll_217 : decode cX10_passAll 217 = .ok (.getfield 34, 3) := by decide +kernel
theorem dX10_passAll_220 : decode cX10_passAll 220 = .ok (.iload_n 1, 1) := by decide +kernel
theorem dX10_passAll_221 : decode cX10_passAll 221 = .ok (.aload_n 0, 1) := by decide +kernel
theorem dX10_passAll_222 : decode cX10_passAll 222 = .ok (.aload_n 0, 1) := by decide +kernel
theorem dX10_passAll_223 : decode cX10_passAll 223 = .ok (.getfield 34, 3) := by decide +kernel
theorem dX10_passAll_226 : decode cX10_passAll 226 = .ok (.iload_n 1, 1) := by decide +kernel
theorem dX10_passAll_227 : decode cX10_passAll 227 = .ok (.iaload, 1) := by decide +kernel
theorem dX10_passAll_228 : decode cX10_passAll 228 = .ok (.invokevirtual 312, 3) := by decide +kernel
theorem dX10_passAll_231 : decode cX10_passAll 231 = .ok (.iastore, 1) := by decide +kernel
theorem dX10_passAll_232 : decode cX10_passAll 232 = .ok (.aload_n 0, 1) := by decide +kernel
theorem dX10_passAll_233 : decode cX10_passAll 233 = .ok (.getfield 37, 3) := by decide +kernel
theorem dX10_passAll_236 : decode cX10_passAll 236 = .ok (.iload_n 1, 1) := by decide +kernel
theorem dX10_passAll_237 : decode cX10_passAll 237 = .ok (.aload_n 0, 1) := by decide +kernel
theorem dX10_passAll_238 : decode cX10_passAll 238 = .ok (.aload_n 0, 1) := by decide +kernel
theorem dX10_passAll_239 : decode cX10_passAll 239 = .ok (.getfield 37, 3) := by decide +kernel
theorem dX10_passAll_242 : decode cX10_passAll 242 = .ok (.iload_n 1, 1) := by decide +kernel
theorem dX10_passAll_243 : decode cX10_passAll 243 = .ok (.iaload, 1) := by decide +kernel
theorem dX10_passAll_244 : decode cX10_passAll 244 = .ok (.invokevirtual 312, 3) := by decide +kernel
theorem dX10_passAll_247 : decode cX10_passAll 247 = .ok (.iastore, 1) := by decide +kernel
theorem dX10_passAll_248 : decode cX10_passAll 248 = .ok (.aload_n 0, 1) := by decide +kernel
theorem dX10_passAll_249 : decode cX10_passAll 249 = .ok (.getfield 40, 3) := by decide +kernel
theorem dX10_passAll_252 : decode cX10_passAll 252 = .ok (.iload_n 1, 1) := by decide +kernel
theorem dX10_passAll_253 : decode cX10_passAll 253 = .ok (.aload_n 0, 1) := by decide +kernel
theorem dX10_passAll_254 : decode cX10_passAll 254 = .ok (.aload_n 0, 1) := by decide +kernel
theorem dX10_passAll_255 : decode cX10_passAll 255 = .ok (.getfield 40, 3) := by decide +kernel
theorem dX10_passAll_258 : decode cX10_passAll 258 = .ok (.iload_n 1, 1) := by decide +kernel
theorem dX10_passAll_259 : decode cX10_passAll 259 = .ok (.iaload, 1) := by decide +kernel
theorem dX10_passAll_260 : decode cX10_passAll 260 = .ok (.invokevirtual 312, 3) := by decide +kernel
theorem dX10_passAll_263 : decode cX10_passAll 263 = .ok (.iastore, 1) := by decide +kernel
theorem dX10_passAll_264 : decode cX10_passAll 264 = .ok (.iinc 1 1, 3) := by decide +kernel
theorem dX10_passAll_267 : decode cX10_passAll 267 = .ok (.goto (-57), 3) := by decide +kernel
theorem dX10_passAll_270 : decode cX10_passAll 270 = .ok (.iconst 0, 1) := by decide +kernel
theorem dX10_passAll_271 : decode cX10_passAll 271 = .ok (.istore_n 1, 1) := by decide +kernel
theorem dX10_passAll_272 : decode cX10_passAll 272 = .ok (.iload_n 1, 1) := by decide +kernel
theorem dX10_passAll_273 : decode cX10_passAll 273 = .ok (.bipush 20, 2) := by decide +kernel
theorem dX10_passAll_275 : decode cX10_passAll 275 = .ok (.if_icmp .ge 41, 3) := by decide +kernel
theorem dX10_passAll_278 : decode cX10_passAll 278 = .ok (.aload_n 0, 1) := by decide +kernel
theorem dX10_passAll_279 : decode cX10_passAll 279 = .ok (.getfield 43, 3) := by decide +kernel
theorem dX10_passAll_282 : decode cX10_passAll 282 = .ok (.iload_n 1, 1) := by decide +kernel
theorem dX10_passAll_283 : decode cX10_passAll 283 = .ok (.aload_n 0, 1) := by decide +kernel
theorem dX10_passAll_284 : decode cX10_passAll 284 = .ok (.aload_n 0, 1) := by decide +kernel
theorem dX10_passAll_285 : decode cX10_passAll 285 = .ok (.getfield 43, 3) := by decide +kernel
theorem dX10_passAll_288 : decode cX10_passAll 288 = .ok (.iload_n 1, 1) := by decide +kernel
theorem dX10_passAll_289 : decode cX10_passAll 289 = .ok (.iaload, 1) := by decide +kernel
theorem dX10_passAll_290 : decode cX10_passAll 290 = .ok (.invokevirtual 312, 3) := by decide +kernel
theorem dX10_passAll_293 : decode cX10_passAll 293 = .ok (.iastore, 1) := by decide +kernel
theorem dX10_passAll_294 : decode cX10_passAll 294 = .ok (.aload_n 0, 1) := by decide +kernel
theorem dX10_passAll_295 : decode cX10_passAll 295 = .ok (.getfield 46, 3) := by decide +kernel
theorem dX10_passAll_298 : decode cX10_passAll 298 = .ok (.iload_n 1, 1) := by decide +kernel
theorem dX10_passAll_299 : decode cX10_passAll 299 = .ok (.aload_n 0, 1) := by decide +kernel
theorem dX10_passAll_300 : decode cX10_passAll 300 = .ok (.aload_n 0, 1) := by decide +kernel
theorem dX10_passAll_301 : decode cX10_passAll 301 = .ok (.getfield 46, 3) := by decide +kernel
theorem dX10_passAll_304 : decode cX10_passAll 304 = .ok (.iload_n 1, 1) := by decide +kernel
theorem dX10_passAll_305 : decode cX10_passAll 305 = .ok (.iaload, 1) := by decide +kernel
theorem dX10_passAll_306 : decode cX10_passAll 306 = .ok (.invokevirtual 312, 3) := by decide +kernel
theorem dX10_passAll_309 : decode cX10_passAll 309 = .ok (.iastore, 1) := by decide +kernel
theorem dX10_passAll_310 : decode cX10_passAll 310 = .ok (.iinc 1 1, 3) := by decide +kernel
theorem dX10_passAll_313 : decode cX10_passAll 313 = .ok (.goto (-41), 3) := by decide +kernel
theorem dX10_passAll_316 : decode cX10_passAll 316 = .ok (.return_, 1) := by decide +kernel
theorem dX10_image_0 : decode cX10_image 0 = .ok (.iload_n 1, 1) := by decide +kernel
theorem dX10_image_1 : decode cX10_image 1 = .ok (.invokestatic 124, 3) := by decide +kernel
theorem dX10_image_4 : decode cX10_image 4 = .ok (.ifCond .ne 6, 3) := by decide +kernel
theorem dX10_image_7 : decode cX10_image 7 = .ok (.bipush (-2), 2) := by decide +kernel
theorem dX10_image_9 : decode cX10_image 9 = .ok (.ireturn, 1) := by decide +kernel
theorem dX10_image_10 : decode cX10_image 10 = .ok (.aload_n 0, 1) := by decide +kernel
theorem dX10_image_11 : decode cX10_image 11 = .ok (.sipush 700, 3) := by decide +kernel
theorem dX10_image_14 : decode cX10_image 14 = .ok (.iload_n 1, 1) := by decide +kernel
theorem dX10_image_15 : decode cX10_image 15 = .ok (.imul, 1) := by decide +kernel
theorem dX10_image_16 : decode cX10_image 16 = .ok (.putfield 309, 3) := by decide +kernel
theorem dX10_image_19 : decode cX10_image 19 = .ok (.aload_n 0, 1) := by decide +kernel
theorem dX10_image_20 : decode cX10_image 20 = .ok (.iconst 1, 1) := by decide +kernel
theorem dX10_image_21 : decode cX10_image 21 = .ok (.putfield 305, 3) := by decide +kernel
theorem dX10_image_24 : decode cX10_image 24 = .ok (.aload_n 0, 1) := by decide +kernel
theorem dX10_image_25 : decode cX10_image 25 = .ok (.invokevirtual 315, 3) := by decide +kernel
theorem dX10_image_28 : decode cX10_image 28 = .ok (.aload_n 0, 1) := by decide +kernel
theorem dX10_image_29 : decode cX10_image 29 = .ok (.getfield 58, 3) := by decide +kernel
theorem dX10_image_32 : decode cX10_image 32 = .ok (.iload_n 1, 1) := by decide +kernel
theorem dX10_image_33 : decode cX10_image 33 = .ok (.iconst 1, 1) := by decide +kernel
theorem dX10_image_34 : decode cX10_image 34 = .ok (.bastore, 1) := by decide +kernel
theorem dX10_image_35 : decode cX10_image 35 = .ok (.iconst 1, 1) := by decide +kernel
theorem dX10_image_36 : decode cX10_image 36 = .ok (.ireturn, 1) := by decide +kernel
theorem dX10_restore_0 : decode cX10_restore 0 = .ok (.iload_n 1, 1) := by decide +kernel
theorem dX10_restore_1 : decode cX10_restore 1 = .ok (.invokestatic 124, 3) := by decide +kernel
theorem dX10_restore_4 : decode cX10_restore 4 = .ok (.ifCond .ne 6, 3) := by decide +kernel
theorem dX10_restore_7 : decode cX10_restore 7 = .ok (.bipush (-2), 2) := by decide +kernel
theorem dX10_restore_9 : decode cX10_restore 9 = .ok (.ireturn, 1) := by decide +kernel
theorem dX10_restore_10 : decode cX10_restore 10 = .ok (.aload_n 0, 1) := by decide +kernel
theorem dX10_restore_11 : decode cX10_restore 11 = .ok (.getfield 58, 3) := by decide +kernel
theorem dX10_restore_14 : decode cX10_restore 14 = .ok (.iload_n 1, 1) := by decide +kernel
theorem dX10_restore_15 : decode cX10_restore 15 = .ok (.baload, 1) := by decide +kernel
theorem dX10_restore_16 : decode cX10_restore 16 = .ok (.ifCond .ne 6, 3) := by decide +kernel
theorem dX10_restore_19 : decode cX10_restore 19 = .ok (.bipush (-3), 2) := by decide +kernel
theorem dX10_restore_21 : decode cX10_restore 21 = .ok (.ireturn, 1) := by decide +kernel
theorem dX10_restore_22 : decode cX10_restore 22 = .ok (.aload_n 0, 1) := by decide +kernel
theorem dX10_restore_23 : decode cX10_restore 23 = .ok (.sipush 700, 3) := by decide +kernel
theorem dX10_restore_26 : decode cX10_restore 26 = .ok (.iload_n 1, 1) := by decide +kernel
theorem dX10_restore_27 : decode cX10_restore 27 = .ok (.imul, 1) := by decide +kernel
theorem dX10_restore_28 : decode cX10_restore 28 = .ok (.putfield 309, 3) := by decide +kernel
theorem dX10_restore_31 : decode cX10_restore 31 = .ok (.aload_n 0, 1) := by decide +kernel
theorem dX10_restore_32 : decode cX10_restore 32 = .ok (.iconst 0, 1) := by decide +kernel
theorem dX10_restore_33 : decode cX10_restore 33 = .ok (.putfield 305, 3) := by decide +kernel
theorem dX10_restore_36 : decode cX10_restore 36 = .ok (.aload_n 0, 1) := by decide +kernel
theorem dX10_restore_37 : decode cX10_restore 37 = .ok (.invokevirtual 315, 3) := by decide +kernel
theorem dX10_restore_40 : decode cX10_restore 40 = .ok (.iconst 1, 1) := by decide +kernel
theorem dX10_restore_41 : decode cX10_restore 41 = .ok (.ireturn, 1) := by decide +kernel
theorem dX10_told_0 : decode cX10_told 0 = .ok (.iload_n 1, 1) := by decide +kernel
theorem dX10_told_1 : decode cX10_told 1 = .ok (.i2l, 1) := by decide +kernel
theorem dX10_told_2 : decode cX10_told 2 = .ok (.ldc2_w 299, 3) := by decide +kernel
theorem dX10_told_5 : decode cX10_told 5 = .ok (.ldc2_w 318, 3) := by decide +kernel
theorem dX10_told_8 : decode cX10_told 8 = .ok (.invokestatic 64, 3) := by decide +kernel
theorem dX10_told_11 : decode cX10_told 11 = .ok (.ifCond .eq 12, 3) := by decide +kernel
theorem dX10_told_14 : decode cX10_told 14 = .ok (.aload_n 0, 1) := by decide +kernel
theorem dX10_told_15 : decode cX10_told 15 = .ok (.getfield 22, 3) := by decide +kernel
theorem dX10_told_18 : decode cX10_told 18 = .ok (.iload_n 1, 1) := by decide +kernel
theorem dX10_told_19 : decode cX10_told 19 = .ok (.iconst 3, 1) := by decide +kernel
theorem dX10_told_20 : decode cX10_told 20 = .ok (.isub, 1) := by decide +kernel
theorem dX10_told_21 : decode cX10_told 21 = .ok (.iaload, 1) := by decide +kernel
theorem dX10_told_22 : decode cX10_told 22 = .ok (.ireturn, 1) := by decide +kernel
theorem dX10_told_23 : decode cX10_told 23 = .ok (.iload_n 1, 1) := by decide +kernel
theorem dX10_told_24 : decode cX10_told 24 = .ok (.i2l, 1) := by decide +kernel
theorem dX10_told_25 : decode cX10_told 25 = .ok (.ldc2_w 101, 3) := by decide +kernel
theorem dX10_told_28 : decode cX10_told 28 = .ok (.ldc2_w 320, 3) := by decide +kernel
theorem dX10_told_31 : decode cX10_told 31 = .ok (.invokestatic 64, 3) := by decide +kernel
theorem dX10_told_34 : decode cX10_told 34 = .ok (.ifCond .eq 12, 3) := by decide +kernel
theorem dX10_told_37 : decode cX10_told 37 = .ok (.aload_n 0, 1) := by decide +kernel
theorem dX10_told_38 : decode cX10_told 38 = .ok (.iload_n 1, 1) := by decide +kernel
theorem dX10_told_39 : decode cX10_told 39 = .ok (.bipush 10, 2) := by decide +kernel
theorem dX10_told_41 : decode cX10_told 41 = .ok (.isub, 1) := by decide +kernel
theorem dX10_told_42 : decode cX10_told 42 = .ok (.invokevirtual 172, 3) := by decide +kernel
theorem dX10_told_45 : decode cX10_told 45 = .ok (.ireturn, 1) := by decide +kernel
theorem dX10_told_46 : decode cX10_told 46 = .ok (.iload_n 1, 1) := by decide +kernel
theorem dX10_told_47 : decode cX10_told 47 = .ok (.i2l, 1) := by decide +kernel
theorem dX10_told_48 : decode cX10_told 48 = .ok (.ldc2_w 322, 3) := by decide +kernel
theorem dX10_told_51 : decode cX10_told 51 = .ok (.ldc2_w 324, 3) := by decide +kernel
theorem dX10_told_54 : decode cX10_told 54 = .ok (.invokestatic 64, 3) := by decide +kernel
theorem dX10_told_57 : decode cX10_told 57 = .ok (.ifCond .eq 13, 3) := by decide +kernel
theorem dX10_told_60 : decode cX10_told 60 = .ok (.aload_n 0, 1) := by decide +kernel
theorem dX10_told_61 : decode cX10_told 61 = .ok (.getfield 13, 3) := by decide +kernel
theorem dX10_told_64 : decode cX10_told 64 = .ok (.iload_n 1, 1) := by decide +kernel
theorem dX10_told_65 : decode cX10_told 65 = .ok (.bipush 20, 2) := by decide +kernel
theorem dX10_told_67 : decode cX10_told 67 = .ok (.isub, 1) := by decide +kernel
theorem dX10_told_68 : decode cX10_told 68 = .ok (.iaload, 1) := by decide +kernel
theorem dX10_told_69 : decode cX10_told 69 = .ok (.ireturn, 1) := by decide +kernel
theorem dX10_told_70 : decode cX10_told 70 = .ok (.iload_n 1, 1) := by decide +kernel
theorem dX10_told_71 : decode cX10_told 71 = .ok (.i2l, 1) := by decide +kernel
theorem dX10_told_72 : decode cX10_told 72 = .ok (.ldc2_w 326, 3) := by decide +kernel
theorem dX10_told_75 : decode cX10_told 75 = .ok (.ldc2_w 328, 3) := by decide +kernel
theorem dX10_told_78 : decode cX10_told 78 = .ok (.invokestatic 64, 3) := by decide +kernel
theorem dX10_told_81 : decode cX10_told 81 = .ok (.ifCond .eq 13, 3) := by decide +kernel
theorem dX10_told_84 : decode cX10_told 84 = .ok (.aload_n 0, 1) := by decide +kernel
theorem dX10_told_85 : decode cX10_told 85 = .ok (.getfield 16, 3) := by decide +kernel
theorem dX10_told_88 : decode cX10_told 88 = .ok (.iload_n 1, 1) := by decide +kernel
theorem dX10_told_89 : decode cX10_told 89 = .ok (.bipush 30, 2) := by decide +kernel
theorem dX10_told_91 : decode cX10_told 91 = .ok (.isub, 1) := by decide +kernel
theorem dX10_told_92 : decode cX10_told 92 = .ok (.iaload, 1) := by decide +kernel
theorem dX10_told_93 : decode cX10_told 93 = .ok (.ireturn, 1) := by decide +kernel
theorem dX10_told_94 : decode cX10_told 94 = .ok (.iload_n 1, 1) := by decide +kernel
theorem dX10_told_95 : decode cX10_told 95 = .ok (.i2l, 1) := by decide +kernel
theorem dX10_told_96 : decode cX10_told 96 = .ok (.ldc2_w 95, 3) := by decide +kernel
theorem dX10_told_99 : decode cX10_told 99 = .ok (.ldc2_w 330, 3) := by decide +kernel
theorem dX10_told_102 : decode cX10_told 102 = .ok (.invokestatic 64, 3) := by decide +kernel
theorem dX10_told_105 : decode cX10_told 105 = .ok (.ifCond .eq 13, 3) := by decide +kernel
theorem dX10_told_108 : decode cX10_told 108 = .ok (.aload_n 0, 1) := by decide +kernel
theorem dX10_told_109 : decode cX10_told 109 = .ok (.getfield 19, 3) := by decide +kernel
theorem dX10_told_112 : decode cX10_told 112 = .ok (.iload_n 1, 1) := by decide +kernel
theorem dX10_told_113 : decode cX10_told 113 = .ok (.bipush 40, 2) := by decide +kernel
theorem dX10_told_115 : decode cX10_told 115 = .ok (.isub, 1) := by decide +kernel
theorem dX10_told_116 : decode cX10_told 116 = .ok (.iaload, 1) := by decide +kernel
theorem dX10_told_117 : decode cX10_told 117 = .ok (.ireturn, 1) := by decide +kernel
theorem dX10_told_118 : decode cX10_told 118 = .ok (.iload_n 1, 1) := by decide +kernel
theorem dX10_told_119 : decode cX10_told 119 = .ok (.ifCond .ne 10, 3) := by decide +kernel
theorem dX10_told_122 : decode cX10_told 122 = .ok (.aload_n 0, 1) := by decide +kernel
theorem dX10_told_123 : decode cX10_told 123 = .ok (.getfield 107, 3) := by decide +kernel
theorem dX10_told_126 : decode cX10_told 126 = .ok (.goto 29, 3) := by decide +kernel
theorem dX10_told_129 : decode cX10_told 129 = .ok (.iload_n 1, 1) := by decide +kernel
theorem dX10_told_130 : decode cX10_told 130 = .ok (.iconst 1, 1) := by decide +kernel
theorem dX10_told_131 : decode cX10_told 131 = .ok (.if_icmp .ne 10, 3) := by decide +kernel
theorem dX10_told_134 : decode cX10_told 134 = .ok (.aload_n 0, 1) := by decide +kernel
theorem dX10_told_135 : decode cX10_told 135 = .ok (.getfield 131, 3) := by decide +kernel
theorem dX10_told_138 : decode cX10_told 138 = .ok (.goto 17, 3) := by decide +kernel
theorem dX10_told_141 : decode cX10_told 141 = .ok (.iload_n 1, 1) := by decide +kernel
theorem dX10_told_142 : decode cX10_told 142 = .ok (.iconst 2, 1) := by decide +kernel
theorem dX10_told_143 : decode cX10_told 143 = .ok (.if_icmp .ne 10, 3) := by decide +kernel
theorem dX10_told_146 : decode cX10_told 146 = .ok (.aload_n 0, 1) := by decide +kernel
theorem dX10_told_147 : decode cX10_told 147 = .ok (.getfield 137, 3) := by decide +kernel
theorem dX10_told_150 : decode cX10_told 150 = .ok (.goto 5, 3) := by decide +kernel
theorem dX10_told_153 : decode cX10_told 153 = .ok (.bipush (-2), 2) := by decide +kernel
theorem dX10_told_155 : decode cX10_told 155 = .ok (.ireturn, 1) := by decide +kernel
theorem dJ9_abs_0f7a4_0 : decode cJ9_abs_0f7a4 0 = .ok (.iload_n 0, 1) := by decide +kernel
theorem dJ9_abs_0f7a4_1 : decode cJ9_abs_0f7a4 1 = .ok (.ifCond .ge 8, 3) := by decide +kernel
theorem dJ9_abs_0f7a4_4 : decode cJ9_abs_0f7a4 4 = .ok (.iload_n 0, 1) := by decide +kernel
theorem dJ9_abs_0f7a4_5 : decode cJ9_abs_0f7a4 5 = .ok (.ineg, 1) := by decide +kernel
theorem dJ9_abs_0f7a4_6 : decode cJ9_abs_0f7a4 6 = .ok (.goto 4, 3) := by decide +kernel
theorem dJ9_abs_0f7a4_9 : decode cJ9_abs_0f7a4 9 = .ok (.iload_n 0, 1) := by decide +kernel
theorem dJ9_abs_0f7a4_10 : decode cJ9_abs_0f7a4 10 = .ok (.ireturn, 1) := by decide +kernel
theorem dJ9_abs_067f4_0 : decode cJ9_abs_067f4 0 = .ok (.lload_n 0, 1) := by decide +kernel
theorem dJ9_abs_067f4_1 : decode cJ9_abs_067f4 1 = .ok (.lconst 0, 1) := by decide +kernel
theorem dJ9_abs_067f4_2 : decode cJ9_abs_067f4 2 = .ok (.lcmp, 1) := by decide +kernel
theorem dJ9_abs_067f4_3 : decode cJ9_abs_067f4 3 = .ok (.ifCond .ge 8, 3) := by decide +kernel
theorem dJ9_abs_067f4_6 : decode cJ9_abs_067f4 6 = .ok (.lload_n 0, 1) := by decide +kernel
theorem dJ9_abs_067f4_7 : decode cJ9_abs_067f4 7 = .ok (.lneg, 1) := by decide +kernel
theorem dJ9_abs_067f4_8 : decode cJ9_abs_067f4 8 = .ok (.goto 4, 3) := by decide +kernel
theorem dJ9_abs_067f4_11 : decode cJ9_abs_067f4 11 = .ok (.lload_n 0, 1) := by decide +kernel
theorem dJ9_abs_067f4_12 : decode cJ9_abs_067f4 12 = .ok (.lreturn, 1) := by decide +kernel
theorem dJ9_max_7cf53_0 : decode cJ9_max_7cf53 0 = .ok (.iload_n 0, 1) := by decide +kernel
theorem dJ9_max_7cf53_1 : decode cJ9_max_7cf53 1 = .ok (.iload_n 1, 1) := by decide +kernel
theorem dJ9_max_7cf53_2 : decode cJ9_max_7cf53 2 = .ok (.if_icmp .lt 7, 3) := by decide +kernel
theorem dJ9_max_7cf53_5 : decode cJ9_max_7cf53 5 = .ok (.iload_n 0, 1) := by decide +kernel
theorem dJ9_max_7cf53_6 : decode cJ9_max_7cf53 6 = .ok (.goto 4, 3) := by decide +kernel
theorem dJ9_max_7cf53_9 : decode cJ9_max_7cf53 9 = .ok (.iload_n 1, 1) := by decide +kernel
theorem dJ9_max_7cf53_10 : decode cJ9_max_7cf53 10 = .ok (.ireturn, 1) := by decide +kernel
theorem dJ9_max_f86c9_0 : decode cJ9_max_f86c9 0 = .ok (.lload_n 0, 1) := by decide +kernel
theorem dJ9_max_f86c9_1 : decode cJ9_max_f86c9 1 = .ok (.lload_n 2, 1) := by decide +kernel
theorem dJ9_max_f86c9_2 : decode cJ9_max_f86c9 2 = .ok (.lcmp, 1) := by decide +kernel
theorem dJ9_max_f86c9_3 : decode cJ9_max_f86c9 3 = .ok (.ifCond .lt 7, 3) := by decide +kernel
theorem dJ9_max_f86c9_6 : decode cJ9_max_f86c9 6 = .ok (.lload_n 0, 1) := by decide +kernel
theorem dJ9_max_f86c9_7 : decode cJ9_max_f86c9 7 = .ok (.goto 4, 3) := by decide +kernel
theorem dJ9_max_f86c9_10 : decode cJ9_max_f86c9 10 = .ok (.lload_n 2, 1) := by decide +kernel
theorem dJ9_max_f86c9_11 : decode cJ9_max_f86c9 11 = .ok (.lreturn, 1) := by decide +kernel
theorem dJ9_min_7cf53_0 : decode cJ9_min_7cf53 0 = .ok (.iload_n 0, 1) := by decide +kernel
theorem dJ9_min_7cf53_1 : decode cJ9_min_7cf53 1 = .ok (.iload_n 1, 1) := by decide +kernel
theorem dJ9_min_7cf53_2 : decode cJ9_min_7cf53 2 = .ok (.if_icmp .gt 7, 3) := by decide +kernel
theorem dJ9_min_7cf53_5 : decode cJ9_min_7cf53 5 = .ok (.iload_n 0, 1) := by decide +kernel
theorem dJ9_min_7cf53_6 : decode cJ9_min_7cf53 6 = .ok (.goto 4, 3) := by decide +kernel
theorem dJ9_min_7cf53_9 : decode cJ9_min_7cf53 9 = .ok (.iload_n 1, 1) := by decide +kernel
theorem dJ9_min_7cf53_10 : decode cJ9_min_7cf53 10 = .ok (.ireturn, 1) := by decide +kernel
theorem dJ7_fill_53178_0 : decode cJ7_fill_53178 0 = .ok (.iconst 0, 1) := by decide +kernel
theorem dJ7_fill_53178_1 : decode cJ7_fill_53178 1 = .ok (.istore_n 2, 1) := by decide +kernel
theorem dJ7_fill_53178_2 : decode cJ7_fill_53178 2 = .ok (.aload_n 0, 1) := by decide +kernel
theorem dJ7_fill_53178_3 : decode cJ7_fill_53178 3 = .ok (.arraylength, 1) := by decide +kernel
theorem dJ7_fill_53178_4 : decode cJ7_fill_53178 4 = .ok (.istore_n 3, 1) := by decide +kernel
theorem dJ7_fill_53178_5 : decode cJ7_fill_53178 5 = .ok (.iload_n 2, 1) := by decide +kernel
theorem dJ7_fill_53178_6 : decode cJ7_fill_53178 6 = .ok (.iload_n 3, 1) := by decide +kernel
theorem dJ7_fill_53178_7 : decode cJ7_fill_53178 7 = .ok (.if_icmp .ge 13, 3) := by decide +kernel
theorem dJ7_fill_53178_10 : decode cJ7_fill_53178 10 = .ok (.aload_n 0, 1) := by decide +kernel
theorem dJ7_fill_53178_11 : decode cJ7_fill_53178 11 = .ok (.iload_n 2, 1) := by decide +kernel
theorem dJ7_fill_53178_12 : decode cJ7_fill_53178 12 = .ok (.iload_n 1, 1) := by decide +kernel
theorem dJ7_fill_53178_13 : decode cJ7_fill_53178 13 = .ok (.iastore, 1) := by decide +kernel
theorem dJ7_fill_53178_14 : decode cJ7_fill_53178 14 = .ok (.iinc 2 1, 3) := by decide +kernel
theorem dJ7_fill_53178_17 : decode cJ7_fill_53178 17 = .ok (.goto (-12), 3) := by decide +kernel
theorem dJ7_fill_53178_20 : decode cJ7_fill_53178 20 = .ok (.return_, 1) := by decide +kernel
theorem dL_law_0 : decode cL_law 0 = .ok (.new 7, 3) := by decide +kernel
theorem dL_law_3 : decode cL_law 3 = .ok (.dup, 1) := by decide +kernel
theorem dL_law_4 : decode cL_law 4 = .ok (.invokespecial 9, 3) := by decide +kernel
theorem dL_law_7 : decode cL_law 7 = .ok (.astore_n 1, 1) := by decide +kernel
theorem dL_law_8 : decode cL_law 8 = .ok (.new 10, 3) := by decide +kernel
theorem dL_law_11 : decode cL_law 11 = .ok (.dup, 1) := by decide +kernel
theorem dL_law_12 : decode cL_law 12 = .ok (.invokespecial 12, 3) := by decide +kernel
theorem dL_law_15 : decode cL_law 15 = .ok (.astore_n 2, 1) := by decide +kernel
theorem dL_law_16 : decode cL_law 16 = .ok (.iconst 0, 1) := by decide +kernel
theorem dL_law_17 : decode cL_law 17 = .ok (.istore_n 3, 1) := by decide +kernel
theorem dL_law_18 : decode cL_law 18 = .ok (.iload_n 3, 1) := by decide +kernel
theorem dL_law_19 : decode cL_law 19 = .ok (.aload_n 0, 1) := by decide +kernel
theorem dL_law_20 : decode cL_law 20 = .ok (.arraylength, 1) := by decide +kernel
theorem dL_law_21 : decode cL_law 21 = .ok (.bipush 9, 2) := by decide +kernel
theorem dL_law_23 : decode cL_law 23 = .ok (.isub, 1) := by decide +kernel
theorem dL_law_24 : decode cL_law 24 = .ok (.if_icmp .gt 1713, 3) := by decide +kernel
theorem dL_law_27 : decode cL_law 27 = .ok (.aload_n 0, 1) := by decide +kernel
theorem dL_law_28 : decode cL_law 28 = .ok (.iload_n 3, 1) := by decide +kernel
theorem dL_law_29 : decode cL_law 29 = .ok (.iaload, 1) := by decide +kernel
theorem dL_law_30 : decode cL_law 30 = .ok (.bipush 63, 2) := by decide +kernel
theorem dL_law_32 : decode cL_law 32 = .ok (.iand, 1) := by decide +kernel
theorem dL_law_33 : decode cL_law 33 = .ok (.tableswitch 1698 0 32 #[147, 190, 233, 266, 289, 302, 325, 348, 371, 414, 478, 531, 574, 627, 670, 724, 800, 834, 878, 922, 998, 1086, 1186, 1220, 1243, 1297, 1351, 1404, 1467, 1554, 1629, 1652, 1675], 147) := by decide +kernel
theorem dL_law_180 : decode cL_law 180 = .ok (.aload_n 1, 1) := by decide +kernel
theorem dL_law_181 : decode cL_law 181 = .ok (.aload_n 0, 1) := by decide +kernel
theorem dL_law_182 : decode cL_law 182 = .ok (.iload_n 3, 1) := by decide +kernel
theorem dL_law_183 : decode cL_law 183 = .ok (.iconst 1, 1) := by decide +kernel
theorem dL_law_184 : decode cL_law 184 = .ok (.iadd, 1) := by decide +kernel
theorem dL_law_185 : decode cL_law 185 = .ok (.iaload, 1) := by decide +kernel
theorem dL_law_186 : decode cL_law 186 = .ok (.aload_n 0, 1) := by decide +kernel
theorem dL_law_187 : decode cL_law 187 = .ok (.iload_n 3, 1) := by decide +kernel
theorem dL_law_188 : decode cL_law 188 = .ok (.iconst 2, 1) := by decide +kernel
theorem dL_law_189 : decode cL_law 189 = .ok (.iadd, 1) := by decide +kernel
theorem dL_law_190 : decode cL_law 190 = .ok (.iaload, 1) := by decide +kernel
theorem dL_law_191 : decode cL_law 191 = .ok (.aload_n 0, 1) := by decide +kernel
theorem dL_law_192 : decode cL_law 192 = .ok (.iload_n 3, 1) := by decide +kernel
theorem dL_law_193 : decode cL_law 193 = .ok (.iconst 3, 1) := by decide +kernel
theorem dL_law_194 : decode cL_law 194 = .ok (.iadd, 1) := by decide +kernel
theorem dL_law_195 : decode cL_law 195 = .ok (.iaload, 1) := by decide +kernel
theorem dL_law_196 : decode cL_law 196 = .ok (.invokevirtual 13, 3) := by decide +kernel
theorem dL_law_199 : decode cL_law 199 = .ok (.aload_n 2, 1) := by decide +kernel
theorem dL_law_200 : decode cL_law 200 = .ok (.aload_n 0, 1) := by decide +kernel
theorem dL_law_201 : decode cL_law 201 = .ok (.iload_n 3, 1) := by decide +kernel
theorem dL_law_202 : decode cL_law 202 = .ok (.iconst 1, 1) := by decide +kernel
theorem dL_law_203 : decode cL_law 203 = .ok (.iadd, 1) := by decide +kernel
theorem dL_law_204 : decode cL_law 204 = .ok (.iaload, 1) := by decide +kernel
theorem dL_law_205 : decode cL_law 205 = .ok (.aload_n 0, 1) := by decide +kernel
theorem dL_law_206 : decode cL_law 206 = .ok (.iload_n 3, 1) := by decide +kernel
theorem dL_law_207 : decode cL_law 207 = .ok (.iconst 2, 1) := by decide +kernel
theorem dL_law_208 : decode cL_law 208 = .ok (.iadd, 1) := by decide +kernel
theorem dL_law_209 : decode cL_law 209 = .ok (.iaload, 1) := by decide +kernel
theorem dL_law_210 : decode cL_law 210 = .ok (.aload_n 0, 1) := by decide +kernel
theorem dL_law_211 : decode cL_law 211 = .ok (.iload_n 3, 1) := by decide +kernel
theorem dL_law_212 : decode cL_law 212 = .ok (.iconst 3, 1) := by decide +kernel
theorem dL_law_213 : decode cL_law 213 = .ok (.iadd, 1) := by decide +kernel
theorem dL_law_214 : decode cL_law 214 = .ok (.iaload, 1) := by decide +kernel
theorem dL_law_215 : decode cL_law 215 = .ok (.invokevirtual 17, 3) := by decide +kernel
theorem dL_law_218 : decode cL_law 218 = .ok (.if_icmp .eq 1513, 3) := by decide +kernel
theorem dL_law_221 : decode cL_law 221 = .ok (.iconst 0, 1) := by decide +kernel
theorem dL_law_222 : decode cL_law 222 = .ok (.ireturn, 1) := by decide +kernel
theorem dL_law_223 : decode cL_law 223 = .ok (.aload_n 1, 1) := by decide +kernel
theorem dL_law_224 : decode cL_law 224 = .ok (.aload_n 0, 1) := by decide +kernel
theorem dL_law_225 : decode cL_law 225 = .ok (.iload_n 3, 1) := by decide +kernel
theorem dL_law_226 : decode cL_law 226 = .ok (.iconst 1, 1) := by decide +kernel
theorem dL_law_227 : decode cL_law 227 = .ok (.iadd, 1) := by decide +kernel
theorem dL_law_228 : decode cL_law 228 = .ok (.iaload, 1) := by decide +kernel
theorem dL_law_229 : decode cL_law 229 = .ok (.aload_n 0, 1) := by decide +kernel
theorem dL_law_230 : decode cL_law 230 = .ok (.iload_n 3, 1) := by decide +kernel
theorem dL_law_231 : decode cL_law 231 = .ok (.iconst 2, 1) := by decide +kernel
theorem dL_law_232 : decode cL_law 232 = .ok (.iadd, 1) := by decide +kernel
theorem dL_law_233 : decode cL_law 233 = .ok (.iaload, 1) := by decide +kernel
theorem dL_law_234 : decode cL_law 234 = .ok (.aload_n 0, 1) := by decide +kernel
theorem dL_law_235 : decode cL_law 235 = .ok (.iload_n 3, 1) := by decide +kernel
theorem dL_law_236 : decode cL_law 236 = .ok (.iconst 3, 1) := by decide +kernel
theorem dL_law_237 : decode cL_law 237 = .ok (.iadd, 1) := by decide +kernel
theorem dL_law_238 : decode cL_law 238 = .ok (.iaload, 1) := by decide +kernel
theorem dL_law_239 : decode cL_law 239 = .ok (.invokevirtual 18, 3) := by decide +kernel
theorem dL_law_242 : decode cL_law 242 = .ok (.aload_n 2, 1) := by decide +kernel
theorem dL_law_243 : decode cL_law 243 = .ok (.aload_n 0, 1) := by decide +kernel
theorem dL_law_244 : decode cL_law 244 = .ok (.iload_n 3, 1) := by decide +kernel
theorem dL_law_245 : decode cL_law 245 = .ok (.iconst 1, 1) := by decide +kernel
theorem dL_law_246 : decode cL_law 246 = .ok (.iadd, 1) := by decide +kernel
theorem dL_law_247 : decode cL_law 247 = .ok (.iaload, 1) := by decide +kernel
theorem dL_law_248 : decode cL_law 248 = .ok (.aload_n 0, 1) := by decide +kernel
theorem dL_law_249 : decode cL_law 249 = .ok (.iload_n 3, 1) := by decide +kernel
theorem dL_law_250 : decode cL_law 250 = .ok (.iconst 2, 1) := by decide +kernel
theorem dL_law_251 : decode cL_law 251 = .ok (.iadd, 1) := by decide +kernel
theorem dL_law_252 : decode cL_law 252 = .ok (.iaload, 1) := by decide +kernel
theorem dL_law_253 : decode cL_law 253 = .ok (.aload_n 0, 1) := by decide +kernel
theorem dL_law_254 : decode cL_law 254 = .ok (.iload_n 3, 1) := by decide +kernel
theorem dL_law_255 : decode cL_law 255 = .ok (.iconst 3, 1) := by decide +kernel
theorem dL_law_256 : decode cL_law 256 = .ok (.iadd, 1) := by decide +kernel
theorem dL_law_257 : decode cL_law 257 = .ok (.iaload, 1) := by decide +kernel
theorem dL_law_258 : decode cL_law 258 = .ok (.invokevirtual 21, 3) := by decide +kernel
theorem dL_law_261 : decode cL_law 261 = .ok (.if_icmp .eq 1470, 3) := by decide +kernel
theorem dL_law_264 : decode cL_law 264 = .ok (.iconst 0, 1) := by decide +kernel
theorem dL_law_265 : decode cL_law 265 = .ok (.ireturn, 1) := by decide +kernel
theorem dL_law_266 : decode cL_law 266 = .ok (.aload_n 1, 1) := by decide +kernel
theorem dL_law_267 : decode cL_law 267 = .ok (.aload_n 0, 1) := by decide +kernel
theorem dL_law_268 : decode cL_law 268 = .ok (.iload_n 3, 1) := by decide +kernel
theorem dL_law_269 : decode cL_law 269 = .ok (.iconst 1, 1) := by decide +kernel
theorem dL_law_270 : decode cL_law 270 = .ok (.iadd, 1) := by decide +kernel
theorem dL_law_271 : decode cL_law 271 = .ok (.iaload, 1) := by decide +kernel
theorem dL_law_272 : decode cL_law 272 = .ok (.aload_n 0, 1) := by decide +kernel
theorem dL_law_273 : decode cL_law 273 = .ok (.iload_n 3, 1) := by decide +kernel
theorem dL_law_274 : decode cL_law 274 = .ok (.iconst 2, 1) := by decide +kernel
theorem dL_law_275 : decode cL_law 275 = .ok (.iadd, 1) := by decide +kernel
theorem dL_law_276 : decode cL_law 276 = .ok (.iaload, 1) := by decide +kernel
theorem dL_law_277 : decode cL_law 277 = .ok (.invokevirtual 22, 3) := by decide +kernel
theorem dL_law_280 : decode cL_law 280 = .ok (.aload_n 2, 1) := by decide +kernel
theorem dL_law_281 : decode cL_law 281 = .ok (.aload_n 0, 1) := by decide +kernel
theorem dL_law_282 : decode cL_law 282 = .ok (.iload_n 3, 1) := by decide +kernel
theorem dL_law_283 : decode cL_law 283 = .ok (.iconst 1, 1) := by decide +kernel
theorem dL_law_284 : decode cL_law 284 = .ok (.iadd, 1) := by decide +kernel
theorem dL_law_285 : decode cL_law 285 = .ok (.iaload, 1) := by decide +kernel
theorem dL_law_286 : decode cL_law 286 = .ok (.aload_n 0, 1) := by decide +kernel
theorem dL_law_287 : decode cL_law 287 = .ok (.iload_n 3, 1) := by decide +kernel
theorem dL_law_288 : decode cL_law 288 = .ok (.iconst 2, 1) := by decide +kernel
theorem dL_law_289 : decode cL_law 289 = .ok (.iadd, 1) := by decide +kernel
theorem dL_law_290 : decode cL_law 290 = .ok (.iaload, 1) := by decide +kernel
theorem dL_law_291 : decode cL_law 291 = .ok (.invokevirtual 26, 3) := by decide +kernel
theorem dL_law_294 : decode cL_law 294 = .ok (.if_icmp .eq 1437, 3) := by decide +kernel
theorem dL_law_297 : decode cL_law 297 = .ok (.iconst 0, 1) := by decide +kernel
theorem dL_law_298 : decode cL_law 298 = .ok (.ireturn, 1) := by decide +kernel
theorem dL_law_299 : decode cL_law 299 = .ok (.aload_n 1, 1) := by decide +kernel
theorem dL_law_300 : decode cL_law 300 = .ok (.aload_n 0, 1) := by decide +kernel
theorem dL_law_301 : decode cL_law 301 = .ok (.iload_n 3, 1) := by decide +kernel
theorem dL_law_302 : decode cL_law 302 = .ok (.iconst 1, 1) := by decide +kernel
theorem dL_law_303 : decode cL_law 303 = .ok (.iadd, 1) := by decide +kernel
theorem dL_law_304 : decode cL_law 304 = .ok (.iaload, 1) := by decide +kernel
theorem dL_law_305 : decode cL_law 305 = .ok (.invokevirtual 27, 3) := by decide +kernel
theorem dL_law_308 : decode cL_law 308 = .ok (.aload_n 2, 1) := by decide +kernel
theorem dL_law_309 : decode cL_law 309 = .ok (.aload_n 0, 1) := by decide +kernel
theorem dL_law_310 : decode cL_law 310 = .ok (.iload_n 3, 1) := by decide +kernel
theorem dL_law_311 : decode cL_law 311 = .ok (.iconst 1, 1) := by decide +kernel
theorem dL_law_312 : decode cL_law 312 = .ok (.iadd, 1) := by decide +kernel
theorem dL_law_313 : decode cL_law 313 = .ok (.iaload, 1) := by decide +kernel
theorem dL_law_314 : decode cL_law 314 = .ok (.invokevirtual 31, 3) := by decide +kernel
theorem dL_law_317 : decode cL_law 317 = .ok (.if_icmp .eq 1414, 3) := by decide +kernel
theorem dL_law_320 : decode cL_law 320 = .ok (.iconst 0, 1) := by decide +kernel
theorem dL_law_321 : decode cL_law 321 = .ok (.ireturn, 1) := by decide +kernel
theorem dL_law_322 : decode cL_law 322 = .ok (.aload_n 1, 1) := by decide +kernel
theorem dL_law_323 : decode cL_law 323 = .ok (.invokevirtual 32, 3) := by decide +kernel
theorem dL_law_326 : decode cL_law 326 = .ok (.aload_n 2, 1) := by decide +kernel
theorem dL_law_327 : decode cL_law 327 = .ok (.invokevirtual 36, 3) := by decide +kernel
theorem dL_law_330 : decode cL_law 330 = .ok (.if_icmp .eq 1401, 3) := by decide +kernel
theorem dL_law_333 : decode cL_law 333 = .ok (.iconst 0, 1) := by decide +kernel
theorem dL_law_334 : decode cL_law 334 = .ok (.ireturn, 1) := by decide +kernel
theorem dL_law_335 : decode cL_law 335 = .ok (.aload_n 1, 1) := by decide +kernel
theorem dL_law_336 : decode cL_law 336 = .ok (.aload_n 0, 1) := by decide +kernel
theorem dL_law_337 : decode cL_law 337 = .ok (.iload_n 3, 1) := by decide +kernel
theorem dL_law_338 : decode cL_law 338 = .ok (.iconst 1, 1) := by decide +kernel
theorem dL_law_339 : decode cL_law 339 = .ok (.iadd, 1) := by decide +kernel
theorem dL_law_340 : decode cL_law 340 = .ok (.iaload, 1) := by decide +kernel
theorem dL_law_341 : decode cL_law 341 = .ok (.invokevirtual 37, 3) := by decide +kernel
theorem dL_law_344 : decode cL_law 344 = .ok (.aload_n 2, 1) := by decide +kernel
theorem dL_law_345 : decode cL_law 345 = .ok (.aload_n 0, 1) := by decide +kernel
theorem dL_law_346 : decode cL_law 346 = .ok (.iload_n 3, 1) := by decide +kernel
theorem dL_law_347 : decode cL_law 347 = .ok (.iconst 1, 1) := by decide +kernel
theorem dL_law_348 : decode cL_law 348 = .ok (.iadd, 1) := by decide +kernel
theorem dL_law_349 : decode cL_law 349 = .ok (.iaload, 1) := by decide +kernel
theorem dL_law_350 : decode cL_law 350 = .ok (.invokevirtual 40, 3) := by decide +kernel
theorem dL_law_353 : decode cL_law 353 = .ok (.if_icmp .eq 1378, 3) := by decide +kernel
theorem dL_law_356 : decode cL_law 356 = .ok (.iconst 0, 1) := by decide +kernel
theorem dL_law_357 : decode cL_law 357 = .ok (.ireturn, 1) := by decide +kernel
theorem dL_law_358 : decode cL_law 358 = .ok (.aload_n 1, 1) := by decide +kernel
theorem dL_law_359 : decode cL_law 359 = .ok (.aload_n 0, 1) := by decide +kernel
theorem dL_law_360 : decode cL_law 360 = .ok (.iload_n 3, 1) := by decide +kernel
theorem dL_law_361 : decode cL_law 361 = .ok (.iconst 1, 1) := by decide +kernel
theorem dL_law_362 : decode cL_law 362 = .ok (.iadd, 1) := by decide +kernel
theorem dL_law_363 : decode cL_law 363 = .ok (.iaload, 1) := by decide +kernel
theorem dL_law_364 : decode cL_law 364 = .ok (.invokevirtual 41, 3) := by decide +kernel
theorem dL_law_367 : decode cL_law 367 = .ok (.aload_n 2, 1) := by decide +kernel
theorem dL_law_368 : decode cL_law 368 = .ok (.aload_n 0, 1) := by decide +kernel
theorem dL_law_369 : decode cL_law 369 = .ok (.iload_n 3, 1) := by decide +kernel
theorem dL_law_370 : decode cL_law 370 = .ok (.iconst 1, 1) := by decide +kernel
theorem dL_law_371 : decode cL_law 371 = .ok (.iadd, 1) := by decide +kernel
theorem dL_law_372 : decode cL_law 372 = .ok (.iaload, 1) := by decide +kernel
theorem dL_law_373 : decode cL_law 373 = .ok (.invokevirtual 44, 3) := by decide +kernel
theorem dL_law_376 : decode cL_law 376 = .ok (.if_icmp .eq 1355, 3) := by decide +kernel
theorem dL_law_379 : decode cL_law 379 = .ok (.iconst 0, 1) := by decide +kernel
theorem dL_law_380 : decode cL_law 380 = .ok (.ireturn, 1) := by decide +kernel
theorem dL_law_381 : decode cL_law 381 = .ok (.aload_n 1, 1) := by decide +kernel
theorem dL_law_382 : decode cL_law 382 = .ok (.aload_n 0, 1) := by decide +kernel
theorem dL_law_383 : decode cL_law 383 = .ok (.iload_n 3, 1) := by decide +kernel
theorem dL_law_384 : decode cL_law 384 = .ok (.iconst 1, 1) := by decide +kernel
theorem dL_law_385 : decode cL_law 385 = .ok (.iadd, 1) := by decide +kernel
theorem dL_law_386 : decode cL_law 386 = .ok (.iaload, 1) := by decide +kernel
theorem dL_law_387 : decode cL_law 387 = .ok (.invokevirtual 45, 3) := by decide +kernel
theorem dL_law_390 : decode cL_law 390 = .ok (.aload_n 2, 1) := by decide +kernel
theorem dL_law_391 : decode cL_law 391 = .ok (.aload_n 0, 1) := by decide +kernel
theorem dL_law_392 : decode cL_law 392 = .ok (.iload_n 3, 1) := by decide +kernel
theorem dL_law_393 : decode cL_law 393 = .ok (.iconst 1, 1) := by decide +kernel
theorem dL_law_394 : decode cL_law 394 = .ok (.iadd, 1) := by decide +kernel
theorem dL_law_395 : decode cL_law 395 = .ok (.iaload, 1) := by decide +kernel
theorem dL_law_396 : decode cL_law 396 = .ok (.invokevirtual 48, 3) := by decide +kernel
theorem dL_law_399 : decode cL_law 399 = .ok (.if_icmp .eq 1332, 3) := by decide +kernel
theorem dL_law_402 : decode cL_law 402 = .ok (.iconst 0, 1) := by decide +kernel
theorem dL_law_403 : decode cL_law 403 = .ok (.ireturn, 1) := by decide +kernel
theorem dL_law_404 : decode cL_law 404 = .ok (.aload_n 1, 1) := by decide +kernel
theorem dL_law_405 : decode cL_law 405 = .ok (.aload_n 0, 1) := by decide +kernel
theorem dL_law_406 : decode cL_law 406 = .ok (.iload_n 3, 1) := by decide +kernel
theorem dL_law_407 : decode cL_law 407 = .ok (.iconst 1, 1) := by decide +kernel
theorem dL_law_408 : decode cL_law 408 = .ok (.iadd, 1) := by decide +kernel
theorem dL_law_409 : decode cL_law 409 = .ok (.iaload, 1) := by decide +kernel
theorem dL_law_410 : decode cL_law 410 = .ok (.aload_n 0, 1) := by decide +kernel
theorem dL_law_411 : decode cL_law 411 = .ok (.iload_n 3, 1) := by decide +kernel
theorem dL_law_412 : decode cL_law 412 = .ok (.iconst 2, 1) := by decide +kernel
theorem dL_law_413 : decode cL_law 413 = .ok (.iadd, 1) := by decide +kernel
theorem dL_law_414 : decode cL_law 414 = .ok (.iaload, 1) := by decide +kernel
theorem dL_law_415 : decode cL_law 415 = .ok (.aload_n 0, 1) := by decide +kernel
theorem dL_law_416 : decode cL_law 416 = .ok (.iload_n 3, 1) := by decide +kernel
theorem dL_law_417 : decode cL_law 417 = .ok (.iconst 3, 1) := by decide +kernel
theorem dL_law_418 : decode cL_law 418 = .ok (.iadd, 1) := by decide +kernel
theorem dL_law_419 : decode cL_law 419 = .ok (.iaload, 1) := by decide +kernel
theorem dL_law_420 : decode cL_law 420 = .ok (.invokevirtual 49, 3) := by decide +kernel
theorem dL_law_423 : decode cL_law 423 = .ok (.aload_n 2, 1) := by decide +kernel
theorem dL_law_424 : decode cL_law 424 = .ok (.aload_n 0, 1) := by decide +kernel
theorem dL_law_425 : decode cL_law 425 = .ok (.iload_n 3, 1) := by decide +kernel
theorem dL_law_426 : decode cL_law 426 = .ok (.iconst 1, 1) := by decide +kernel
theorem dL_law_427 : decode cL_law 427 = .ok (.iadd, 1) := by decide +kernel
theorem dL_law_428 : decode cL_law 428 = .ok (.iaload, 1) := by decide +kernel
theorem dL_law_429 : decode cL_law 429 = .ok (.aload_n 0, 1) := by decide +kernel
theorem dL_law_430 : decode cL_law 430 = .ok (.iload_n 3, 1) := by decide +kernel
theorem dL_law_431 : decode cL_law 431 = .ok (.iconst 2, 1) := by decide +kernel
theorem dL_law_432 : decode cL_law 432 = .ok (.iadd, 1) := by decide +kernel
theorem dL_law_433 : decode cL_law 433 = .ok (.iaload, 1) := by decide +kernel
theorem dL_law_434 : decode cL_law 434 = .ok (.aload_n 0, 1) := by decide +kernel
theorem dL_law_435 : decode cL_law 435 = .ok (.iload_n 3, 1) := by decide +kernel
theorem dL_law_436 : decode cL_law 436 = .ok (.iconst 3, 1) := by decide +kernel
theorem dL_law_437 : decode cL_law 437 = .ok (.iadd, 1) := by decide +kernel
theorem dL_law_438 : decode cL_law 438 = .ok (.iaload, 1) := by decide +kernel
theorem dL_law_439 : decode cL_law 439 = .ok (.invokevirtual 52, 3) := by decide +kernel
theorem dL_law_442 : decode cL_law 442 = .ok (.if_icmp .eq 1289, 3) := by decide +kernel
theorem dL_law_445 : decode cL_law 445 = .ok (.iconst 0, 1) := by decide +kernel
theorem dL_law_446 : decode cL_law 446 = .ok (.ireturn, 1) := by decide +kernel
theorem dL_law_447 : decode cL_law 447 = .ok (.aload_n 1, 1) := by decide +kernel
theorem dL_law_448 : decode cL_law 448 = .ok (.aload_n 0, 1) := by decide +kernel
theorem dL_law_449 : decode cL_law 449 = .ok (.iload_n 3, 1) := by decide +kernel
theorem dL_law_450 : decode cL_law 450 = .ok (.iconst 1, 1) := by decide +kernel
theorem dL_law_451 : decode cL_law 451 = .ok (.iadd, 1) := by decide +kernel
theorem dL_law_452 : decode cL_law 452 = .ok (.iaload, 1) := by decide +kernel
theorem dL_law_453 : decode cL_law 453 = .ok (.aload_n 0, 1) := by decide +kernel
theorem dL_law_454 : decode cL_law 454 = .ok (.iload_n 3, 1) := by decide +kernel
theorem dL_law_455 : decode cL_law 455 = .ok (.iconst 2, 1) := by decide +kernel
theorem dL_law_456 : decode cL_law 456 = .ok (.iadd, 1) := by decide +kernel
theorem dL_law_457 : decode cL_law 457 = .ok (.iaload, 1) := by decide +kernel
theorem dL_law_458 : decode cL_law 458 = .ok (.aload_n 0, 1) := by decide +kernel
theorem dL_law_459 : decode cL_law 459 = .ok (.iload_n 3, 1) := by decide +kernel
theorem dL_law_460 : decode cL_law 460 = .ok (.iconst 3, 1) := by decide +kernel
theorem dL_law_461 : decode cL_law 461 = .ok (.iadd, 1) := by decide +kernel
theorem dL_law_462 : decode cL_law 462 = .ok (.iaload, 1) := by decide +kernel
theorem dL_law_463 : decode cL_law 463 = .ok (.aload_n 0, 1) := by decide +kernel
theorem dL_law_464 : decode cL_law 464 = .ok (.iload_n 3, 1) := by decide +kernel
theorem dL_law_465 : decode cL_law 465 = .ok (.iconst 4, 1) := by decide +kernel
theorem dL_law_466 : decode cL_law 466 = .ok (.iadd, 1) := by decide +kernel
theorem dL_law_467 : decode cL_law 467 = .ok (.iaload, 1) := by decide +kernel
theorem dL_law_468 : decode cL_law 468 = .ok (.aload_n 0, 1) := by decide +kernel
theorem dL_law_469 : decode cL_law 469 = .ok (.iload_n 3, 1) := by decide +kernel
theorem dL_law_470 : decode cL_law 470 = .ok (.iconst 5, 1) := by decide +kernel
theorem dL_law_471 : decode cL_law 471 = .ok (.iadd, 1) := by decide +kernel
end
section
theorem dL_law_472 : decode cL_law 472 = .ok (.iaload, 1) := by decide +kernel
theorem dL_law_473 : decode cL_law 473 = .ok (.invokevirtual 53, 3) := by decide +kernel
theorem dL_law_476 : decode cL_law 476 = .ok (.aload_n 2, 1) := by decide +kernel
theorem dL_law_477 : decode cL_law 477 = .ok (.aload_n 0, 1) := by decide +kernel
theorem dL_law_478 : decode cL_law 478 = .ok (.iload_n 3, 1) := by decide +kernel
theorem dL_law_479 : decode cL_law 479 = .ok (.iconst 1, 1) := by decide +kernel
theorem dL_law_480 : decode cL_law 480 = .ok (.iadd, 1) := by decide +kernel
theorem dL_law_481 : decode cL_law 481 = .ok (.iaload, 1) := by decide +kernel
theorem dL_law_482 : decode cL_law 482 = .ok (.aload_n 0, 1) := by decide +kernel
theorem dL_law_483 : decode cL_law 483 = .ok (.iload_n 3, 1) := by decide +kernel
theorem dL_law_484 : decode cL_law 484 = .ok (.iconst 2, 1) := by decide +kernel
theorem dL_law_485 : decode cL_law 485 = .ok (.iadd, 1) := by decide +kernel
theorem dL_law_486 : decode cL_law 486 = .ok (.iaload, 1) := by decide +kernel
theorem dL_law_487 : decode cL_law 487 = .ok (.aload_n 0, 1) := by decide +kernel
theorem dL_law_488 : decode cL_law 488 = .ok (.iload_n 3, 1) := by decide +kernel
theorem dL_law_489 : decode cL_law 489 = .ok (.iconst 3, 1) := by decide +kernel
theorem dL_law_490 : decode cL_law 490 = .ok (.iadd, 1) := by decide +kernel
theorem dL_law_491 : decode cL_law 491 = .ok (.iaload, 1) := by decide +kernel
theorem dL_law_492 : decode cL_law 492 = .ok (.aload_n 0, 1) := by decide +kernel
theorem dL_law_493 : decode cL_law 493 = .ok (.iload_n 3, 1) := by decide +kernel
theorem dL_law_494 : decode cL_law 494 = .ok (.iconst 4, 1) := by decide +kernel
theorem dL_law_495 : decode cL_law 495 = .ok (.iadd, 1) := by decide +kernel
theorem dL_law_496 : decode cL_law 496 = .ok (.iaload, 1) := by decide +kernel
theorem dL_law_497 : decode cL_law 497 = .ok (.aload_n 0, 1) := by decide +kernel
theorem dL_law_498 : decode cL_law 498 = .ok (.iload_n 3, 1) := by decide +kernel
theorem dL_law_499 : decode cL_law 499 = .ok (.iconst 5, 1) := by decide +kernel
theorem dL_law_500 : decode cL_law 500 = .ok (.iadd, 1) := by decide +kernel
theorem dL_law_501 : decode cL_law 501 = .ok (.iaload, 1) := by decide +kernel
theorem dL_law_502 : decode cL_law 502 = .ok (.invokevirtual 57, 3) := by decide +kernel
theorem dL_law_505 : decode cL_law 505 = .ok (.lcmp, 1) := by decide +kernel
theorem dL_law_506 : decode cL_law 506 = .ok (.ifCond .eq 1225, 3) := by decide +kernel
theorem dL_law_509 : decode cL_law 509 = .ok (.iconst 0, 1) := by decide +kernel
theorem dL_law_510 : decode cL_law 510 = .ok (.ireturn, 1) := by decide +kernel
theorem dL_law_511 : decode cL_law 511 = .ok (.aload_n 1, 1) := by decide +kernel
theorem dL_law_512 : decode cL_law 512 = .ok (.aload_n 0, 1) := by decide +kernel
theorem dL_law_513 : decode cL_law 513 = .ok (.iload_n 3, 1) := by decide +kernel
theorem dL_law_514 : decode cL_law 514 = .ok (.iconst 1, 1) := by decide +kernel
theorem dL_law_515 : decode cL_law 515 = .ok (.iadd, 1) := by decide +kernel
theorem dL_law_516 : decode cL_law 516 = .ok (.iaload, 1) := by decide +kernel
theorem dL_law_517 : decode cL_law 517 = .ok (.aload_n 0, 1) := by decide +kernel
theorem dL_law_518 : decode cL_law 518 = .ok (.iload_n 3, 1) := by decide +kernel
theorem dL_law_519 : decode cL_law 519 = .ok (.iconst 2, 1) := by decide +kernel
theorem dL_law_520 : decode cL_law 520 = .ok (.iadd, 1) := by decide +kernel
theorem dL_law_521 : decode cL_law 521 = .ok (.iaload, 1) := by decide +kernel
theorem dL_law_522 : decode cL_law 522 = .ok (.aload_n 0, 1) := by decide +kernel
theorem dL_law_523 : decode cL_law 523 = .ok (.iload_n 3, 1) := by decide +kernel
theorem dL_law_524 : decode cL_law 524 = .ok (.iconst 3, 1) := by decide +kernel
theorem dL_law_525 : decode cL_law 525 = .ok (.iadd, 1) := by decide +kernel
theorem dL_law_526 : decode cL_law 526 = .ok (.iaload, 1) := by decide +kernel
theorem dL_law_527 : decode cL_law 527 = .ok (.aload_n 0, 1) := by decide +kernel
theorem dL_law_528 : decode cL_law 528 = .ok (.iload_n 3, 1) := by decide +kernel
theorem dL_law_529 : decode cL_law 529 = .ok (.iconst 4, 1) := by decide +kernel
theorem dL_law_530 : decode cL_law 530 = .ok (.iadd, 1) := by decide +kernel
theorem dL_law_531 : decode cL_law 531 = .ok (.iaload, 1) := by decide +kernel
theorem dL_law_532 : decode cL_law 532 = .ok (.invokevirtual 58, 3) := by decide +kernel
theorem dL_law_535 : decode cL_law 535 = .ok (.aload_n 2, 1) := by decide +kernel
theorem dL_law_536 : decode cL_law 536 = .ok (.aload_n 0, 1) := by decide +kernel
theorem dL_law_537 : decode cL_law 537 = .ok (.iload_n 3, 1) := by decide +kernel
theorem dL_law_538 : decode cL_law 538 = .ok (.iconst 1, 1) := by decide +kernel
theorem dL_law_539 : decode cL_law 539 = .ok (.iadd, 1) := by decide +kernel
theorem dL_law_540 : decode cL_law 540 = .ok (.iaload, 1) := by decide +kernel
theorem dL_law_541 : decode cL_law 541 = .ok (.aload_n 0, 1) := by decide +kernel
theorem dL_law_542 : decode cL_law 542 = .ok (.iload_n 3, 1) := by decide +kernel
theorem dL_law_543 : decode cL_law 543 = .ok (.iconst 2, 1) := by decide +kernel
theorem dL_law_544 : decode cL_law 544 = .ok (.iadd, 1) := by decide +kernel
theorem dL_law_545 : decode cL_law 545 = .ok (.iaload, 1) := by decide +kernel
theorem dL_law_546 : decode cL_law 546 = .ok (.aload_n 0, 1) := by decide +kernel
theorem dL_law_547 : decode cL_law 547 = .ok (.iload_n 3, 1) := by decide +kernel
theorem dL_law_548 : decode cL_law 548 = .ok (.iconst 3, 1) := by decide +kernel
theorem dL_law_549 : decode cL_law 549 = .ok (.iadd, 1) := by decide +kernel
theorem dL_law_550 : decode cL_law 550 = .ok (.iaload, 1) := by decide +kernel
theorem dL_law_551 : decode cL_law 551 = .ok (.aload_n 0, 1) := by decide +kernel
theorem dL_law_552 : decode cL_law 552 = .ok (.iload_n 3, 1) := by decide +kernel
theorem dL_law_553 : decode cL_law 553 = .ok (.iconst 4, 1) := by decide +kernel
theorem dL_law_554 : decode cL_law 554 = .ok (.iadd, 1) := by decide +kernel
theorem dL_law_555 : decode cL_law 555 = .ok (.iaload, 1) := by decide +kernel
theorem dL_law_556 : decode cL_law 556 = .ok (.invokevirtual 62, 3) := by decide +kernel
theorem dL_law_559 : decode cL_law 559 = .ok (.if_icmp .eq 1172, 3) := by decide +kernel
theorem dL_law_562 : decode cL_law 562 = .ok (.iconst 0, 1) := by decide +kernel
theorem dL_law_563 : decode cL_law 563 = .ok (.ireturn, 1) := by decide +kernel
theorem dL_law_564 : decode cL_law 564 = .ok (.aload_n 1, 1) := by decide +kernel
theorem dL_law_565 : decode cL_law 565 = .ok (.aload_n 0, 1) := by decide +kernel
theorem dL_law_566 : decode cL_law 566 = .ok (.iload_n 3, 1) := by decide +kernel
theorem dL_law_567 : decode cL_law 567 = .ok (.iconst 1, 1) := by decide +kernel
theorem dL_law_568 : decode cL_law 568 = .ok (.iadd, 1) := by decide +kernel
theorem dL_law_569 : decode cL_law 569 = .ok (.iaload, 1) := by decide +kernel
theorem dL_law_570 : decode cL_law 570 = .ok (.aload_n 0, 1) := by decide +kernel
theorem dL_law_571 : decode cL_law 571 = .ok (.iload_n 3, 1) := by decide +kernel
theorem dL_law_572 : decode cL_law 572 = .ok (.iconst 2, 1) := by decide +kernel
theorem dL_law_573 : decode cL_law 573 = .ok (.iadd, 1) := by decide +kernel
theorem dL_law_574 : decode cL_law 574 = .ok (.iaload, 1) := by decide +kernel
theorem dL_law_575 : decode cL_law 575 = .ok (.aload_n 0, 1) := by decide +kernel
theorem dL_law_576 : decode cL_law 576 = .ok (.iload_n 3, 1) := by decide +kernel
theorem dL_law_577 : decode cL_law 577 = .ok (.iconst 3, 1) := by decide +kernel
theorem dL_law_578 : decode cL_law 578 = .ok (.iadd, 1) := by decide +kernel
theorem dL_law_579 : decode cL_law 579 = .ok (.iaload, 1) := by decide +kernel
theorem dL_law_580 : decode cL_law 580 = .ok (.invokevirtual 63, 3) := by decide +kernel
theorem dL_law_583 : decode cL_law 583 = .ok (.aload_n 2, 1) := by decide +kernel
theorem dL_law_584 : decode cL_law 584 = .ok (.aload_n 0, 1) := by decide +kernel
theorem dL_law_585 : decode cL_law 585 = .ok (.iload_n 3, 1) := by decide +kernel
theorem dL_law_586 : decode cL_law 586 = .ok (.iconst 1, 1) := by decide +kernel
theorem dL_law_587 : decode cL_law 587 = .ok (.iadd, 1) := by decide +kernel
theorem dL_law_588 : decode cL_law 588 = .ok (.iaload, 1) := by decide +kernel
theorem dL_law_589 : decode cL_law 589 = .ok (.aload_n 0, 1) := by decide +kernel
theorem dL_law_590 : decode cL_law 590 = .ok (.iload_n 3, 1) := by decide +kernel
theorem dL_law_591 : decode cL_law 591 = .ok (.iconst 2, 1) := by decide +kernel
theorem dL_law_592 : decode cL_law 592 = .ok (.iadd, 1) := by decide +kernel
theorem dL_law_593 : decode cL_law 593 = .ok (.iaload, 1) := by decide +kernel
theorem dL_law_594 : decode cL_law 594 = .ok (.aload_n 0, 1) := by decide +kernel
theorem dL_law_595 : decode cL_law 595 = .ok (.iload_n 3, 1) := by decide +kernel
theorem dL_law_596 : decode cL_law 596 = .ok (.iconst 3, 1) := by decide +kernel
theorem dL_law_597 : decode cL_law 597 = .ok (.iadd, 1) := by decide +kernel
theorem dL_law_598 : decode cL_law 598 = .ok (.iaload, 1) := by decide +kernel
theorem dL_law_599 : decode cL_law 599 = .ok (.invokevirtual 66, 3) := by decide +kernel
theorem dL_law_602 : decode cL_law 602 = .ok (.if_icmp .eq 1129, 3) := by decide +kernel
theorem dL_law_605 : decode cL_law 605 = .ok (.iconst 0, 1) := by decide +kernel
theorem dL_law_606 : decode cL_law 606 = .ok (.ireturn, 1) := by decide +kernel
theorem dL_law_607 : decode cL_law 607 = .ok (.aload_n 1, 1) := by decide +kernel
theorem dL_law_608 : decode cL_law 608 = .ok (.aload_n 0, 1) := by decide +kernel
theorem dL_law_609 : decode cL_law 609 = .ok (.iload_n 3, 1) := by decide +kernel
theorem dL_law_610 : decode cL_law 610 = .ok (.iconst 1, 1) := by decide +kernel
theorem dL_law_611 : decode cL_law 611 = .ok (.iadd, 1) := by decide +kernel
theorem dL_law_612 : decode cL_law 612 = .ok (.iaload, 1) := by decide +kernel
theorem dL_law_613 : decode cL_law 613 = .ok (.aload_n 0, 1) := by decide +kernel
theorem dL_law_614 : decode cL_law 614 = .ok (.iload_n 3, 1) := by decide +kernel
theorem dL_law_615 : decode cL_law 615 = .ok (.iconst 2, 1) := by decide +kernel
theorem dL_law_616 : decode cL_law 616 = .ok (.iadd, 1) := by decide +kernel
theorem dL_law_617 : decode cL_law 617 = .ok (.iaload, 1) := by decide +kernel
theorem dL_law_618 : decode cL_law 618 = .ok (.aload_n 0, 1) := by decide +kernel
theorem dL_law_619 : decode cL_law 619 = .ok (.iload_n 3, 1) := by decide +kernel
theorem dL_law_620 : decode cL_law 620 = .ok (.iconst 3, 1) := by decide +kernel
theorem dL_law_621 : decode cL_law 621 = .ok (.iadd, 1) := by decide +kernel
theorem dL_law_622 : decode cL_law 622 = .ok (.iaload, 1) := by decide +kernel
theorem dL_law_623 : decode cL_law 623 = .ok (.aload_n 0, 1) := by decide +kernel
theorem dL_law_624 : decode cL_law 624 = .ok (.iload_n 3, 1) := by decide +kernel
theorem dL_law_625 : decode cL_law 625 = .ok (.iconst 4, 1) := by decide +kernel
theorem dL_law_626 : decode cL_law 626 = .ok (.iadd, 1) := by decide +kernel
theorem dL_law_627 : decode cL_law 627 = .ok (.iaload, 1) := by decide +kernel
theorem dL_law_628 : decode cL_law 628 = .ok (.invokevirtual 67, 3) := by decide +kernel
theorem dL_law_631 : decode cL_law 631 = .ok (.aload_n 2, 1) := by decide +kernel
theorem dL_law_632 : decode cL_law 632 = .ok (.aload_n 0, 1) := by decide +kernel
theorem dL_law_633 : decode cL_law 633 = .ok (.iload_n 3, 1) := by decide +kernel
theorem dL_law_634 : decode cL_law 634 = .ok (.iconst 1, 1) := by decide +kernel
theorem dL_law_635 : decode cL_law 635 = .ok (.iadd, 1) := by decide +kernel
theorem dL_law_636 : decode cL_law 636 = .ok (.iaload, 1) := by decide +kernel
theorem dL_law_637 : decode cL_law 637 = .ok (.aload_n 0, 1) := by decide +kernel
theorem dL_law_638 : decode cL_law 638 = .ok (.iload_n 3, 1) := by decide +kernel
theorem dL_law_639 : decode cL_law 639 = .ok (.iconst 2, 1) := by decide +kernel
theorem dL_law_640 : decode cL_law 640 = .ok (.iadd, 1) := by decide +kernel
theorem dL_law_641 : decode cL_law 641 = .ok (.iaload, 1) := by decide +kernel
theorem dL_law_642 : decode cL_law 642 = .ok (.aload_n 0, 1) := by decide +kernel
theorem dL_law_643 : decode cL_law 643 = .ok (.iload_n 3, 1) := by decide +kernel
theorem dL_law_644 : decode cL_law 644 = .ok (.iconst 3, 1) := by decide +kernel
theorem dL_law_645 : decode cL_law 645 = .ok (.iadd, 1) := by decide +kernel
theorem dL_law_646 : decode cL_law 646 = .ok (.iaload, 1) := by decide +kernel
theorem dL_law_647 : decode cL_law 647 = .ok (.aload_n 0, 1) := by decide +kernel
theorem dL_law_648 : decode cL_law 648 = .ok (.iload_n 3, 1) := by decide +kernel
theorem dL_law_649 : decode cL_law 649 = .ok (.iconst 4, 1) := by decide +kernel
theorem dL_law_650 : decode cL_law 650 = .ok (.iadd, 1) := by decide +kernel
theorem dL_law_651 : decode cL_law 651 = .ok (.iaload, 1) := by decide +kernel
theorem dL_law_652 : decode cL_law 652 = .ok (.invokevirtual 70, 3) := by decide +kernel
theorem dL_law_655 : decode cL_law 655 = .ok (.if_icmp .eq 1076, 3) := by decide +kernel
theorem dL_law_658 : decode cL_law 658 = .ok (.iconst 0, 1) := by decide +kernel
theorem dL_law_659 : decode cL_law 659 = .ok (.ireturn, 1) := by decide +kernel
theorem dL_law_660 : decode cL_law 660 = .ok (.aload_n 1, 1) := by decide +kernel
theorem dL_law_661 : decode cL_law 661 = .ok (.aload_n 0, 1) := by decide +kernel
theorem dL_law_662 : decode cL_law 662 = .ok (.iload_n 3, 1) := by decide +kernel
theorem dL_law_663 : decode cL_law 663 = .ok (.iconst 1, 1) := by decide +kernel
theorem dL_law_664 : decode cL_law 664 = .ok (.iadd, 1) := by decide +kernel
theorem dL_law_665 : decode cL_law 665 = .ok (.iaload, 1) := by decide +kernel
theorem dL_law_666 : decode cL_law 666 = .ok (.aload_n 0, 1) := by decide +kernel
theorem dL_law_667 : decode cL_law 667 = .ok (.iload_n 3, 1) := by decide +kernel
theorem dL_law_668 : decode cL_law 668 = .ok (.iconst 2, 1) := by decide +kernel
theorem dL_law_669 : decode cL_law 669 = .ok (.iadd, 1) := by decide +kernel
theorem dL_law_670 : decode cL_law 670 = .ok (.iaload, 1) := by decide +kernel
theorem dL_law_671 : decode cL_law 671 = .ok (.aload_n 0, 1) := by decide +kernel
theorem dL_law_672 : decode cL_law 672 = .ok (.iload_n 3, 1) := by decide +kernel
theorem dL_law_673 : decode cL_law 673 = .ok (.iconst 3, 1) := by decide +kernel
theorem dL_law_674 : decode cL_law 674 = .ok (.iadd, 1) := by decide +kernel
theorem dL_law_675 : decode cL_law 675 = .ok (.iaload, 1) := by decide +kernel
theorem dL_law_676 : decode cL_law 676 = .ok (.invokevirtual 71, 3) := by decide +kernel
theorem dL_law_679 : decode cL_law 679 = .ok (.aload_n 2, 1) := by decide +kernel
theorem dL_law_680 : decode cL_law 680 = .ok (.aload_n 0, 1) := by decide +kernel
theorem dL_law_681 : decode cL_law 681 = .ok (.iload_n 3, 1) := by decide +kernel
theorem dL_law_682 : decode cL_law 682 = .ok (.iconst 1, 1) := by decide +kernel
theorem dL_law_683 : decode cL_law 683 = .ok (.iadd, 1) := by decide +kernel
theorem dL_law_684 : decode cL_law 684 = .ok (.iaload, 1) := by decide +kernel
theorem dL_law_685 : decode cL_law 685 = .ok (.aload_n 0, 1) := by decide +kernel
theorem dL_law_686 : decode cL_law 686 = .ok (.iload_n 3, 1) := by decide +kernel
theorem dL_law_687 : decode cL_law 687 = .ok (.iconst 2, 1) := by decide +kernel
theorem dL_law_688 : decode cL_law 688 = .ok (.iadd, 1) := by decide +kernel
theorem dL_law_689 : decode cL_law 689 = .ok (.iaload, 1) := by decide +kernel
theorem dL_law_690 : decode cL_law 690 = .ok (.aload_n 0, 1) := by decide +kernel
theorem dL_law_691 : decode cL_law 691 = .ok (.iload_n 3, 1) := by decide +kernel
theorem dL_law_692 : decode cL_law 692 = .ok (.iconst 3, 1) := by decide +kernel
theorem dL_law_693 : decode cL_law 693 = .ok (.iadd, 1) := by decide +kernel
theorem dL_law_694 : decode cL_law 694 = .ok (.iaload, 1) := by decide +kernel
theorem dL_law_695 : decode cL_law 695 = .ok (.invokevirtual 74, 3) := by decide +kernel
theorem dL_law_698 : decode cL_law 698 = .ok (.if_icmp .eq 1033, 3) := by decide +kernel
theorem dL_law_701 : decode cL_law 701 = .ok (.iconst 0, 1) := by decide +kernel
theorem dL_law_702 : decode cL_law 702 = .ok (.ireturn, 1) := by decide +kernel
theorem dL_law_703 : decode cL_law 703 = .ok (.aload_n 1, 1) := by decide +kernel
theorem dL_law_704 : decode cL_law 704 = .ok (.aload_n 0, 1) := by decide +kernel
theorem dL_law_705 : decode cL_law 705 = .ok (.iload_n 3, 1) := by decide +kernel
theorem dL_law_706 : decode cL_law 706 = .ok (.iconst 1, 1) := by decide +kernel
theorem dL_law_707 : decode cL_law 707 = .ok (.iadd, 1) := by decide +kernel
theorem dL_law_708 : decode cL_law 708 = .ok (.iaload, 1) := by decide +kernel
theorem dL_law_709 : decode cL_law 709 = .ok (.aload_n 0, 1) := by decide +kernel
theorem dL_law_710 : decode cL_law 710 = .ok (.iload_n 3, 1) := by decide +kernel
theorem dL_law_711 : decode cL_law 711 = .ok (.iconst 2, 1) := by decide +kernel
theorem dL_law_712 : decode cL_law 712 = .ok (.iadd, 1) := by decide +kernel
theorem dL_law_713 : decode cL_law 713 = .ok (.iaload, 1) := by decide +kernel
theorem dL_law_714 : decode cL_law 714 = .ok (.aload_n 0, 1) := by decide +kernel
theorem dL_law_715 : decode cL_law 715 = .ok (.iload_n 3, 1) := by decide +kernel
theorem dL_law_716 : decode cL_law 716 = .ok (.iconst 3, 1) := by decide +kernel
theorem dL_law_717 : decode cL_law 717 = .ok (.iadd, 1) := by decide +kernel
theorem dL_law_718 : decode cL_law 718 = .ok (.iaload, 1) := by decide +kernel
theorem dL_law_719 : decode cL_law 719 = .ok (.aload_n 0, 1) := by decide +kernel
theorem dL_law_720 : decode cL_law 720 = .ok (.iload_n 3, 1) := by decide +kernel
theorem dL_law_721 : decode cL_law 721 = .ok (.iconst 4, 1) := by decide +kernel
theorem dL_law_722 : decode cL_law 722 = .ok (.iadd, 1) := by decide +kernel
theorem dL_law_723 : decode cL_law 723 = .ok (.iaload, 1) := by decide +kernel
theorem dL_law_724 : decode cL_law 724 = .ok (.invokevirtual 75, 3) := by decide +kernel
theorem dL_law_727 : decode cL_law 727 = .ok (.aload_n 2, 1) := by decide +kernel
theorem dL_law_728 : decode cL_law 728 = .ok (.aload_n 0, 1) := by decide +kernel
theorem dL_law_729 : decode cL_law 729 = .ok (.iload_n 3, 1) := by decide +kernel
theorem dL_law_730 : decode cL_law 730 = .ok (.iconst 1, 1) := by decide +kernel
theorem dL_law_731 : decode cL_law 731 = .ok (.iadd, 1) := by decide +kernel
theorem dL_law_732 : decode cL_law 732 = .ok (.iaload, 1) := by decide +kernel
theorem dL_law_733 : decode cL_law 733 = .ok (.aload_n 0, 1) := by decide +kernel
theorem dL_law_734 : decode cL_law 734 = .ok (.iload_n 3, 1) := by decide +kernel
theorem dL_law_735 : decode cL_law 735 = .ok (.iconst 2, 1) := by decide +kernel
theorem dL_law_736 : decode cL_law 736 = .ok (.iadd, 1) := by decide +kernel
theorem dL_law_737 : decode cL_law 737 = .ok (.iaload, 1) := by decide +kernel
theorem dL_law_738 : decode cL_law 738 = .ok (.aload_n 0, 1) := by decide +kernel
theorem dL_law_739 : decode cL_law 739 = .ok (.iload_n 3, 1) := by decide +kernel
theorem dL_law_740 : decode cL_law 740 = .ok (.iconst 3, 1) := by decide +kernel
theorem dL_law_741 : decode cL_law 741 = .ok (.iadd, 1) := by decide +kernel
theorem dL_law_742 : decode cL_law 742 = .ok (.iaload, 1) := by decide +kernel
theorem dL_law_743 : decode cL_law 743 = .ok (.aload_n 0, 1) := by decide +kernel
theorem dL_law_744 : decode cL_law 744 = .ok (.iload_n 3, 1) := by decide +kernel
theorem dL_law_745 : decode cL_law 745 = .ok (.iconst 4, 1) := by decide +kernel
theorem dL_law_746 : decode cL_law 746 = .ok (.iadd, 1) := by decide +kernel
theorem dL_law_747 : decode cL_law 747 = .ok (.iaload, 1) := by decide +kernel
theorem dL_law_748 : decode cL_law 748 = .ok (.invokevirtual 79, 3) := by decide +kernel
theorem dL_law_751 : decode cL_law 751 = .ok (.lcmp, 1) := by decide +kernel
theorem dL_law_752 : decode cL_law 752 = .ok (.ifCond .eq 979, 3) := by decide +kernel
theorem dL_law_755 : decode cL_law 755 = .ok (.iconst 0, 1) := by decide +kernel
theorem dL_law_756 : decode cL_law 756 = .ok (.ireturn, 1) := by decide +kernel
theorem dL_law_757 : decode cL_law 757 = .ok (.aload_n 1, 1) := by decide +kernel
theorem dL_law_758 : decode cL_law 758 = .ok (.aload_n 0, 1) := by decide +kernel
theorem dL_law_759 : decode cL_law 759 = .ok (.iload_n 3, 1) := by decide +kernel
theorem dL_law_760 : decode cL_law 760 = .ok (.iconst 1, 1) := by decide +kernel
theorem dL_law_761 : decode cL_law 761 = .ok (.iadd, 1) := by decide +kernel
theorem dL_law_762 : decode cL_law 762 = .ok (.iaload, 1) := by decide +kernel
theorem dL_law_763 : decode cL_law 763 = .ok (.aload_n 0, 1) := by decide +kernel
theorem dL_law_764 : decode cL_law 764 = .ok (.iload_n 3, 1) := by decide +kernel
theorem dL_law_765 : decode cL_law 765 = .ok (.iconst 2, 1) := by decide +kernel
theorem dL_law_766 : decode cL_law 766 = .ok (.iadd, 1) := by decide +kernel
theorem dL_law_767 : decode cL_law 767 = .ok (.iaload, 1) := by decide +kernel
theorem dL_law_768 : decode cL_law 768 = .ok (.aload_n 0, 1) := by decide +kernel
theorem dL_law_769 : decode cL_law 769 = .ok (.iload_n 3, 1) := by decide +kernel
theorem dL_law_770 : decode cL_law 770 = .ok (.iconst 3, 1) := by decide +kernel
theorem dL_law_771 : decode cL_law 771 = .ok (.iadd, 1) := by decide +kernel
theorem dL_law_772 : decode cL_law 772 = .ok (.iaload, 1) := by decide +kernel
theorem dL_law_773 : decode cL_law 773 = .ok (.aload_n 0, 1) := by decide +kernel
theorem dL_law_774 : decode cL_law 774 = .ok (.iload_n 3, 1) := by decide +kernel
theorem dL_law_775 : decode cL_law 775 = .ok (.iconst 4, 1) := by decide +kernel
theorem dL_law_776 : decode cL_law 776 = .ok (.iadd, 1) := by decide +kernel
theorem dL_law_777 : decode cL_law 777 = .ok (.iaload, 1) := by decide +kernel
theorem dL_law_778 : decode cL_law 778 = .ok (.aload_n 0, 1) := by decide +kernel
theorem dL_law_779 : decode cL_law 779 = .ok (.iload_n 3, 1) := by decide +kernel
theorem dL_law_780 : decode cL_law 780 = .ok (.iconst 5, 1) := by decide +kernel
theorem dL_law_781 : decode cL_law 781 = .ok (.iadd, 1) := by decide +kernel
theorem dL_law_782 : decode cL_law 782 = .ok (.iaload, 1) := by decide +kernel
theorem dL_law_783 : decode cL_law 783 = .ok (.aload_n 0, 1) := by decide +kernel
theorem dL_law_784 : decode cL_law 784 = .ok (.iload_n 3, 1) := by decide +kernel
theorem dL_law_785 : decode cL_law 785 = .ok (.bipush 6, 2) := by decide +kernel
theorem dL_law_787 : decode cL_law 787 = .ok (.iadd, 1) := by decide +kernel
theorem dL_law_788 : decode cL_law 788 = .ok (.iaload, 1) := by decide +kernel
theorem dL_law_789 : decode cL_law 789 = .ok (.invokevirtual 80, 3) := by decide +kernel
theorem dL_law_792 : decode cL_law 792 = .ok (.aload_n 2, 1) := by decide +kernel
theorem dL_law_793 : decode cL_law 793 = .ok (.aload_n 0, 1) := by decide +kernel
theorem dL_law_794 : decode cL_law 794 = .ok (.iload_n 3, 1) := by decide +kernel
theorem dL_law_795 : decode cL_law 795 = .ok (.iconst 1, 1) := by decide +kernel
theorem dL_law_796 : decode cL_law 796 = .ok (.iadd, 1) := by decide +kernel
theorem dL_law_797 : decode cL_law 797 = .ok (.iaload, 1) := by decide +kernel
theorem dL_law_798 : decode cL_law 798 = .ok (.aload_n 0, 1) := by decide +kernel
theorem dL_law_799 : decode cL_law 799 = .ok (.iload_n 3, 1) := by decide +kernel
theorem dL_law_800 : decode cL_law 800 = .ok (.iconst 2, 1) := by decide +kernel
theorem dL_law_801 : decode cL_law 801 = .ok (.iadd, 1) := by decide +kernel
theorem dL_law_802 : decode cL_law 802 = .ok (.iaload, 1) := by decide +kernel
theorem dL_law_803 : decode cL_law 803 = .ok (.aload_n 0, 1) := by decide +kernel
theorem dL_law_804 : decode cL_law 804 = .ok (.iload_n 3, 1) := by decide +kernel
theorem dL_law_805 : decode cL_law 805 = .ok (.iconst 3, 1) := by decide +kernel
theorem dL_law_806 : decode cL_law 806 = .ok (.iadd, 1) := by decide +kernel
theorem dL_law_807 : decode cL_law 807 = .ok (.iaload, 1) := by decide +kernel
theorem dL_law_808 : decode cL_law 808 = .ok (.aload_n 0, 1) := by decide +kernel
theorem dL_law_809 : decode cL_law 809 = .ok (.iload_n 3, 1) := by decide +kernel
theorem dL_law_810 : decode cL_law 810 = .ok (.iconst 4, 1) := by decide +kernel
theorem dL_law_811 : decode cL_law 811 = .ok (.iadd, 1) := by decide +kernel
theorem dL_law_812 : decode cL_law 812 = .ok (.iaload, 1) := by decide +kernel
theorem dL_law_813 : decode cL_law 813 = .ok (.aload_n 0, 1) := by decide +kernel
theorem dL_law_814 : decode cL_law 814 = .ok (.iload_n 3, 1) := by decide +kernel
theorem dL_law_815 : decode cL_law 815 = .ok (.iconst 5, 1) := by decide +kernel
theorem dL_law_816 : decode cL_law 816 = .ok (.iadd, 1) := by decide +kernel
theorem dL_law_817 : decode cL_law 817 = .ok (.iaload, 1) := by decide +kernel
theorem dL_law_818 : decode cL_law 818 = .ok (.aload_n 0, 1) := by decide +kernel
theorem dL_law_819 : decode cL_law 819 = .ok (.iload_n 3, 1) := by decide +kernel
theorem dL_law_820 : decode cL_law 820 = .ok (.bipush 6, 2) := by decide +kernel
theorem dL_law_822 : decode cL_law 822 = .ok (.iadd, 1) := by decide +kernel
theorem dL_law_823 : decode cL_law 823 = .ok (.iaload, 1) := by decide +kernel
theorem dL_law_824 : decode cL_law 824 = .ok (.invokevirtual 84, 3) := by decide +kernel
theorem dL_law_827 : decode cL_law 827 = .ok (.lcmp, 1) := by decide +kernel
theorem dL_law_828 : decode cL_law 828 = .ok (.ifCond .eq 903, 3) := by decide +kernel
theorem dL_law_831 : decode cL_law 831 = .ok (.iconst 0, 1) := by decide +kernel
theorem dL_law_832 : decode cL_law 832 = .ok (.ireturn, 1) := by decide +kernel
theorem dL_law_833 : decode cL_law 833 = .ok (.aload_n 1, 1) := by decide +kernel
theorem dL_law_834 : decode cL_law 834 = .ok (.aload_n 0, 1) := by decide +kernel
theorem dL_law_835 : decode cL_law 835 = .ok (.iload_n 3, 1) := by decide +kernel
theorem dL_law_836 : decode cL_law 836 = .ok (.iconst 1, 1) := by decide +kernel
theorem dL_law_837 : decode cL_law 837 = .ok (.iadd, 1) := by decide +kernel
theorem dL_law_838 : decode cL_law 838 = .ok (.iaload, 1) := by decide +kernel
theorem dL_law_839 : decode cL_law 839 = .ok (.aload_n 0, 1) := by decide +kernel
theorem dL_law_840 : decode cL_law 840 = .ok (.iload_n 3, 1) := by decide +kernel
theorem dL_law_841 : decode cL_law 841 = .ok (.iconst 2, 1) := by decide +kernel
theorem dL_law_842 : decode cL_law 842 = .ok (.iadd, 1) := by decide +kernel
theorem dL_law_843 : decode cL_law 843 = .ok (.iaload, 1) := by decide +kernel
theorem dL_law_844 : decode cL_law 844 = .ok (.invokevirtual 85, 3) := by decide +kernel
theorem dL_law_847 : decode cL_law 847 = .ok (.aload_n 2, 1) := by decide +kernel
theorem dL_law_848 : decode cL_law 848 = .ok (.aload_n 0, 1) := by decide +kernel
theorem dL_law_849 : decode cL_law 849 = .ok (.iload_n 3, 1) := by decide +kernel
theorem dL_law_850 : decode cL_law 850 = .ok (.iconst 1, 1) := by decide +kernel
theorem dL_law_851 : decode cL_law 851 = .ok (.iadd, 1) := by decide +kernel
theorem dL_law_852 : decode cL_law 852 = .ok (.iaload, 1) := by decide +kernel
theorem dL_law_853 : decode cL_law 853 = .ok (.aload_n 0, 1) := by decide +kernel
theorem dL_law_854 : decode cL_law 854 = .ok (.iload_n 3, 1) := by decide +kernel
theorem dL_law_855 : decode cL_law 855 = .ok (.iconst 2, 1) := by decide +kernel
theorem dL_law_856 : decode cL_law 856 = .ok (.iadd, 1) := by decide +kernel
theorem dL_law_857 : decode cL_law 857 = .ok (.iaload, 1) := by decide +kernel
theorem dL_law_858 : decode cL_law 858 = .ok (.invokevirtual 89, 3) := by decide +kernel
theorem dL_law_861 : decode cL_law 861 = .ok (.lcmp, 1) := by decide +kernel
theorem dL_law_862 : decode cL_law 862 = .ok (.ifCond .eq 869, 3) := by decide +kernel
theorem dL_law_865 : decode cL_law 865 = .ok (.iconst 0, 1) := by decide +kernel
theorem dL_law_866 : decode cL_law 866 = .ok (.ireturn, 1) := by decide +kernel
theorem dL_law_867 : decode cL_law 867 = .ok (.aload_n 1, 1) := by decide +kernel
theorem dL_law_868 : decode cL_law 868 = .ok (.aload_n 0, 1) := by decide +kernel
theorem dL_law_869 : decode cL_law 869 = .ok (.iload_n 3, 1) := by decide +kernel
theorem dL_law_870 : decode cL_law 870 = .ok (.iconst 1, 1) := by decide +kernel
theorem dL_law_871 : decode cL_law 871 = .ok (.iadd, 1) := by decide +kernel
theorem dL_law_872 : decode cL_law 872 = .ok (.iaload, 1) := by decide +kernel
theorem dL_law_873 : decode cL_law 873 = .ok (.aload_n 0, 1) := by decide +kernel
theorem dL_law_874 : decode cL_law 874 = .ok (.iload_n 3, 1) := by decide +kernel
theorem dL_law_875 : decode cL_law 875 = .ok (.iconst 2, 1) := by decide +kernel
theorem dL_law_876 : decode cL_law 876 = .ok (.iadd, 1) := by decide +kernel
theorem dL_law_877 : decode cL_law 877 = .ok (.iaload, 1) := by decide +kernel
theorem dL_law_878 : decode cL_law 878 = .ok (.aload_n 0, 1) := by decide +kernel
theorem dL_law_879 : decode cL_law 879 = .ok (.iload_n 3, 1) := by decide +kernel
theorem dL_law_880 : decode cL_law 880 = .ok (.iconst 3, 1) := by decide +kernel
theorem dL_law_881 : decode cL_law 881 = .ok (.iadd, 1) := by decide +kernel
theorem dL_law_882 : decode cL_law 882 = .ok (.iaload, 1) := by decide +kernel
theorem dL_law_883 : decode cL_law 883 = .ok (.invokevirtual 90, 3) := by decide +kernel
theorem dL_law_886 : decode cL_law 886 = .ok (.aload_n 2, 1) := by decide +kernel
theorem dL_law_887 : decode cL_law 887 = .ok (.aload_n 0, 1) := by decide +kernel
theorem dL_law_888 : decode cL_law 888 = .ok (.iload_n 3, 1) := by decide +kernel
theorem dL_law_889 : decode cL_law 889 = .ok (.iconst 1, 1) := by decide +kernel
theorem dL_law_890 : decode cL_law 890 = .ok (.iadd, 1) := by decide +kernel
theorem dL_law_891 : decode cL_law 891 = .ok (.iaload, 1) := by decide +kernel
theorem dL_law_892 : decode cL_law 892 = .ok (.aload_n 0, 1) := by decide +kernel
theorem dL_law_893 : decode cL_law 893 = .ok (.iload_n 3, 1) := by decide +kernel
theorem dL_law_894 : decode cL_law 894 = .ok (.iconst 2, 1) := by decide +kernel
theorem dL_law_895 : decode cL_law 895 = .ok (.iadd, 1) := by decide +kernel
theorem dL_law_896 : decode cL_law 896 = .ok (.iaload, 1) := by decide +kernel
theorem dL_law_897 : decode cL_law 897 = .ok (.aload_n 0, 1) := by decide +kernel
theorem dL_law_898 : decode cL_law 898 = .ok (.iload_n 3, 1) := by decide +kernel
theorem dL_law_899 : decode cL_law 899 = .ok (.iconst 3, 1) := by decide +kernel
theorem dL_law_900 : decode cL_law 900 = .ok (.iadd, 1) := by decide +kernel
theorem dL_law_901 : decode cL_law 901 = .ok (.iaload, 1) := by decide +kernel
theorem dL_law_902 : decode cL_law 902 = .ok (.invokevirtual 94, 3) := by decide +kernel
theorem dL_law_905 : decode cL_law 905 = .ok (.lcmp, 1) := by decide +kernel
theorem dL_law_906 : decode cL_law 906 = .ok (.ifCond .eq 825, 3) := by decide +kernel
theorem dL_law_909 : decode cL_law 909 = .ok (.iconst 0, 1) := by decide +kernel
theorem dL_law_910 : decode cL_law 910 = .ok (.ireturn, 1) := by decide +kernel
theorem dL_law_911 : decode cL_law 911 = .ok (.aload_n 1, 1) := by decide +kernel
theorem dL_law_912 : decode cL_law 912 = .ok (.aload_n 0, 1) := by decide +kernel
theorem dL_law_913 : decode cL_law 913 = .ok (.iload_n 3, 1) := by decide +kernel
theorem dL_law_914 : decode cL_law 914 = .ok (.iconst 1, 1) := by decide +kernel
theorem dL_law_915 : decode cL_law 915 = .ok (.iadd, 1) := by decide +kernel
theorem dL_law_916 : decode cL_law 916 = .ok (.iaload, 1) := by decide +kernel
theorem dL_law_917 : decode cL_law 917 = .ok (.aload_n 0, 1) := by decide +kernel
theorem dL_law_918 : decode cL_law 918 = .ok (.iload_n 3, 1) := by decide +kernel
theorem dL_law_919 : decode cL_law 919 = .ok (.iconst 2, 1) := by decide +kernel
theorem dL_law_920 : decode cL_law 920 = .ok (.iadd, 1) := by decide +kernel
theorem dL_law_921 : decode cL_law 921 = .ok (.iaload, 1) := by decide +kernel
theorem dL_law_922 : decode cL_law 922 = .ok (.aload_n 0, 1) := by decide +kernel
theorem dL_law_923 : decode cL_law 923 = .ok (.iload_n 3, 1) := by decide +kernel
theorem dL_law_924 : decode cL_law 924 = .ok (.iconst 3, 1) := by decide +kernel
theorem dL_law_925 : decode cL_law 925 = .ok (.iadd, 1) := by decide +kernel
theorem dL_law_926 : decode cL_law 926 = .ok (.iaload, 1) := by decide +kernel
theorem dL_law_927 : decode cL_law 927 = .ok (.invokevirtual 95, 3) := by decide +kernel
theorem dL_law_930 : decode cL_law 930 = .ok (.aload_n 2, 1) := by decide +kernel
theorem dL_law_931 : decode cL_law 931 = .ok (.aload_n 0, 1) := by decide +kernel
theorem dL_law_932 : decode cL_law 932 = .ok (.iload_n 3, 1) := by decide +kernel
theorem dL_law_933 : decode cL_law 933 = .ok (.iconst 1, 1) := by decide +kernel
theorem dL_law_934 : decode cL_law 934 = .ok (.iadd, 1) := by decide +kernel
theorem dL_law_935 : decode cL_law 935 = .ok (.iaload, 1) := by decide +kernel
theorem dL_law_936 : decode cL_law 936 = .ok (.aload_n 0, 1) := by decide +kernel
theorem dL_law_937 : decode cL_law 937 = .ok (.iload_n 3, 1) := by decide +kernel
theorem dL_law_938 : decode cL_law 938 = .ok (.iconst 2, 1) := by decide +kernel
theorem dL_law_939 : decode cL_law 939 = .ok (.iadd, 1) := by decide +kernel
theorem dL_law_940 : decode cL_law 940 = .ok (.iaload, 1) := by decide +kernel
theorem dL_law_941 : decode cL_law 941 = .ok (.aload_n 0, 1) := by decide +kernel
theorem dL_law_942 : decode cL_law 942 = .ok (.iload_n 3, 1) := by decide +kernel
theorem dL_law_943 : decode cL_law 943 = .ok (.iconst 3, 1) := by decide +kernel
theorem dL_law_944 : decode cL_law 944 = .ok (.iadd, 1) := by decide +kernel
theorem dL_law_945 : decode cL_law 945 = .ok (.iaload, 1) := by decide +kernel
theorem dL_law_946 : decode cL_law 946 = .ok (.invokevirtual 98, 3) := by decide +kernel
theorem dL_law_949 : decode cL_law 949 = .ok (.lcmp, 1) := by decide +kernel
theorem dL_law_950 : decode cL_law 950 = .ok (.ifCond .eq 781, 3) := by decide +kernel
theorem dL_law_953 : decode cL_law 953 = .ok (.iconst 0, 1) := by decide +kernel
theorem dL_law_954 : decode cL_law 954 = .ok (.ireturn, 1) := by decide +kernel
theorem dL_law_955 : decode cL_law 955 = .ok (.aload_n 1, 1) := by decide +kernel
theorem dL_law_956 : decode cL_law 956 = .ok (.aload_n 0, 1) := by decide +kernel
theorem dL_law_957 : decode cL_law 957 = .ok (.iload_n 3, 1) := by decide +kernel
theorem dL_law_958 : decode cL_law 958 = .ok (.iconst 1, 1) := by decide +kernel
theorem dL_law_959 : decode cL_law 959 = .ok (.iadd, 1) := by decide +kernel
theorem dL_law_960 : decode cL_law 960 = .ok (.iaload, 1) := by decide +kernel
theorem dL_law_961 : decode cL_law 961 = .ok (.aload_n 0, 1) := by decide +kernel
theorem dL_law_962 : decode cL_law 962 = .ok (.iload_n 3, 1) := by decide +kernel
theorem dL_law_963 : decode cL_law 963 = .ok (.iconst 2, 1) := by decide +kernel
theorem dL_law_964 : decode cL_law 964 = .ok (.iadd, 1) := by decide +kernel
theorem dL_law_965 : decode cL_law 965 = .ok (.iaload, 1) := by decide +kernel
theorem dL_law_966 : decode cL_law 966 = .ok (.aload_n 0, 1) := by decide +kernel
theorem dL_law_967 : decode cL_law 967 = .ok (.iload_n 3, 1) := by decide +kernel
theorem dL_law_968 : decode cL_law 968 = .ok (.iconst 3, 1) := by decide +kernel
theorem dL_law_969 : decode cL_law 969 = .ok (.iadd, 1) := by decide +kernel
theorem dL_law_970 : decode cL_law 970 = .ok (.iaload, 1) := by decide +kernel
theorem dL_law_971 : decode cL_law 971 = .ok (.aload_n 0, 1) := by decide +kernel
theorem dL_law_972 : decode cL_law 972 = .ok (.iload_n 3, 1) := by decide +kernel
theorem dL_law_973 : decode cL_law 973 = .ok (.iconst 4, 1) := by decide +kernel
theorem dL_law_974 : decode cL_law 974 = .ok (.iadd, 1) := by decide +kernel
theorem dL_law_975 : decode cL_law 975 = .ok (.iaload, 1) := by decide +kernel
theorem dL_law_976 : decode cL_law 976 = .ok (.aload_n 0, 1) := by decide +kernel
theorem dL_law_977 : decode cL_law 977 = .ok (.iload_n 3, 1) := by decide +kernel
theorem dL_law_978 : decode cL_law 978 = .ok (.iconst 5, 1) := by decide +kernel
theorem dL_law_979 : decode cL_law 979 = .ok (.iadd, 1) := by decide +kernel
theorem dL_law_980 : decode cL_law 980 = .ok (.iaload, 1) := by decide +kernel
theorem dL_law_981 : decode cL_law 981 = .ok (.aload_n 0, 1) := by decide +kernel
theorem dL_law_982 : decode cL_law 982 = .ok (.iload_n 3, 1) := by decide +kernel
theorem dL_law_983 : decode cL_law 983 = .ok (.bipush 6, 2) := by decide +kernel
theorem dL_law_985 : decode cL_law 985 = .ok (.iadd, 1) := by decide +kernel
theorem dL_law_986 : decode cL_law 986 = .ok (.iaload, 1) := by decide +kernel
theorem dL_law_987 : decode cL_law 987 = .ok (.invokevirtual 99, 3) := by decide +kernel
theorem dL_law_990 : decode cL_law 990 = .ok (.aload_n 2, 1) := by decide +kernel
theorem dL_law_991 : decode cL_law 991 = .ok (.aload_n 0, 1) := by decide +kernel
theorem dL_law_992 : decode cL_law 992 = .ok (.iload_n 3, 1) := by decide +kernel
theorem dL_law_993 : decode cL_law 993 = .ok (.iconst 1, 1) := by decide +kernel
theorem dL_law_994 : decode cL_law 994 = .ok (.iadd, 1) := by decide +kernel
theorem dL_law_995 : decode cL_law 995 = .ok (.iaload, 1) := by decide +kernel
theorem dL_law_996 : decode cL_law 996 = .ok (.aload_n 0, 1) := by decide +kernel
theorem dL_law_997 : decode cL_law 997 = .ok (.iload_n 3, 1) := by decide +kernel
theorem dL_law_998 : decode cL_law 998 = .ok (.iconst 2, 1) := by decide +kernel
theorem dL_law_999 : decode cL_law 999 = .ok (.iadd, 1) := by decide +kernel
theorem dL_law_1000 : decode cL_law 1000 = .ok (.iaload, 1) := by decide +kernel
theorem dL_law_1001 : decode cL_law 1001 = .ok (.aload_n 0, 1) := by decide +kernel
theorem dL_law_1002 : decode cL_law 1002 = .ok (.iload_n 3, 1) := by decide +kernel
theorem dL_law_1003 : decode cL_law 1003 = .ok (.iconst 3, 1) := by decide +kernel
theorem dL_law_1004 : decode cL_law 1004 = .ok (.iadd, 1) := by decide +kernel
theorem dL_law_1005 : decode cL_law 1005 = .ok (.iaload, 1) := by decide +kernel
theorem dL_law_1006 : decode cL_law 1006 = .ok (.aload_n 0, 1) := by decide +kernel
theorem dL_law_1007 : decode cL_law 1007 = .ok (.iload_n 3, 1) := by decide +kernel
theorem dL_law_1008 : decode cL_law 1008 = .ok (.iconst 4, 1) := by decide +kernel
theorem dL_law_1009 : decode cL_law 1009 = .ok (.iadd, 1) := by decide +kernel
theorem dL_law_1010 : decode cL_law 1010 = .ok (.iaload, 1) := by decide +kernel
theorem dL_law_1011 : decode cL_law 1011 = .ok (.aload_n 0, 1) := by decide +kernel
theorem dL_law_1012 : decode cL_law 1012 = .ok (.iload_n 3, 1) := by decide +kernel
theorem dL_law_1013 : decode cL_law 1013 = .ok (.iconst 5, 1) := by decide +kernel
theorem dL_law_1014 : decode cL_law 1014 = .ok (.iadd, 1) := by decide +kernel
theorem dL_law_1015 : decode cL_law 1015 = .ok (.iaload, 1) := by decide +kernel
theorem dL_law_1016 : decode cL_law 1016 = .ok (.aload_n 0, 1) := by decide +kernel
theorem dL_law_1017 : decode cL_law 1017 = .ok (.iload_n 3, 1) := by decide +kernel
theorem dL_law_1018 : decode cL_law 1018 = .ok (.bipush 6, 2) := by decide +kernel
theorem dL_law_1020 : decode cL_law 1020 = .ok (.iadd, 1) := by decide +kernel
theorem dL_law_1021 : decode cL_law 1021 = .ok (.iaload, 1) := by decide +kernel
theorem dL_law_1022 : decode cL_law 1022 = .ok (.invokevirtual 102, 3) := by decide +kernel
theorem dL_law_1025 : decode cL_law 1025 = .ok (.lcmp, 1) := by decide +kernel
theorem dL_law_1026 : decode cL_law 1026 = .ok (.ifCond .eq 705, 3) := by decide +kernel
theorem dL_law_1029 : decode cL_law 1029 = .ok (.iconst 0, 1) := by decide +kernel
theorem dL_law_1030 : decode cL_law 1030 = .ok (.ireturn, 1) := by decide +kernel
theorem dL_law_1031 : decode cL_law 1031 = .ok (.aload_n 1, 1) := by decide +kernel
theorem dL_law_1032 : decode cL_law 1032 = .ok (.aload_n 0, 1) := by decide +kernel
theorem dL_law_1033 : decode cL_law 1033 = .ok (.iload_n 3, 1) := by decide +kernel
theorem dL_law_1034 : decode cL_law 1034 = .ok (.iconst 1, 1) := by decide +kernel
theorem dL_law_1035 : decode cL_law 1035 = .ok (.iadd, 1) := by decide +kernel
theorem dL_law_1036 : decode cL_law 1036 = .ok (.iaload, 1) := by decide +kernel
theorem dL_law_1037 : decode cL_law 1037 = .ok (.aload_n 0, 1) := by decide +kernel
theorem dL_law_1038 : decode cL_law 1038 = .ok (.iload_n 3, 1) := by decide +kernel
theorem dL_law_1039 : decode cL_law 1039 = .ok (.iconst 2, 1) := by decide +kernel
theorem dL_law_1040 : decode cL_law 1040 = .ok (.iadd, 1) := by decide +kernel
theorem dL_law_1041 : decode cL_law 1041 = .ok (.iaload, 1) := by decide +kernel
theorem dL_law_1042 : decode cL_law 1042 = .ok (.aload_n 0, 1) := by decide +kernel
theorem dL_law_1043 : decode cL_law 1043 = .ok (.iload_n 3, 1) := by decide +kernel
theorem dL_law_1044 : decode cL_law 1044 = .ok (.iconst 3, 1) := by decide +kernel
theorem dL_law_1045 : decode cL_law 1045 = .ok (.iadd, 1) := by decide +kernel
theorem dL_law_1046 : decode cL_law 1046 = .ok (.iaload, 1) := by decide +kernel
theorem dL_law_1047 : decode cL_law 1047 = .ok (.aload_n 0, 1) := by decide +kernel
theorem dL_law_1048 : decode cL_law 1048 = .ok (.iload_n 3, 1) := by decide +kernel
theorem dL_law_1049 : decode cL_law 1049 = .ok (.iconst 4, 1) := by decide +kernel
theorem dL_law_1050 : decode cL_law 1050 = .ok (.iadd, 1) := by decide +kernel
theorem dL_law_1051 : decode cL_law 1051 = .ok (.iaload, 1) := by decide +kernel
theorem dL_law_1052 : decode cL_law 1052 = .ok (.aload_n 0, 1) := by decide +kernel
theorem dL_law_1053 : decode cL_law 1053 = .ok (.iload_n 3, 1) := by decide +kernel
theorem dL_law_1054 : decode cL_law 1054 = .ok (.iconst 5, 1) := by decide +kernel
theorem dL_law_1055 : decode cL_law 1055 = .ok (.iadd, 1) := by decide +kernel
theorem dL_law_1056 : decode cL_law 1056 = .ok (.iaload, 1) := by decide +kernel
theorem dL_law_1057 : decode cL_law 1057 = .ok (.aload_n 0, 1) := by decide +kernel
theorem dL_law_1058 : decode cL_law 1058 = .ok (.iload_n 3, 1) := by decide +kernel
theorem dL_law_1059 : decode cL_law 1059 = .ok (.bipush 6, 2) := by decide +kernel
theorem dL_law_1061 : decode cL_law 1061 = .ok (.iadd, 1) := by decide +kernel
theorem dL_law_1062 : decode cL_law 1062 = .ok (.iaload, 1) := by decide +kernel
theorem dL_law_1063 : decode cL_law 1063 = .ok (.aload_n 0, 1) := by decide +kernel
theorem dL_law_1064 : decode cL_law 1064 = .ok (.iload_n 3, 1) := by decide +kernel
theorem dL_law_1065 : decode cL_law 1065 = .ok (.bipush 7, 2) := by decide +kernel
theorem dL_law_1067 : decode cL_law 1067 = .ok (.iadd, 1) := by decide +kernel
theorem dL_law_1068 : decode cL_law 1068 = .ok (.iaload, 1) := by decide +kernel
theorem dL_law_1069 : decode cL_law 1069 = .ok (.invokevirtual 103, 3) := by decide +kernel
theorem dL_law_1072 : decode cL_law 1072 = .ok (.aload_n 2, 1) := by decide +kernel
theorem dL_law_1073 : decode cL_law 1073 = .ok (.aload_n 0, 1) := by decide +kernel
theorem dL_law_1074 : decode cL_law 1074 = .ok (.iload_n 3, 1) := by decide +kernel
theorem dL_law_1075 : decode cL_law 1075 = .ok (.iconst 1, 1) := by decide +kernel
theorem dL_law_1076 : decode cL_law 1076 = .ok (.iadd, 1) := by decide +kernel
theorem dL_law_1077 : decode cL_law 1077 = .ok (.iaload, 1) := by decide +kernel
theorem dL_law_1078 : decode cL_law 1078 = .ok (.aload_n 0, 1) := by decide +kernel
theorem dL_law_1079 : decode cL_law 1079 = .ok (.iload_n 3, 1) := by decide +kernel
theorem dL_law_1080 : decode cL_law 1080 = .ok (.iconst 2, 1) := by decide +kernel
theorem dL_law_1081 : decode cL_law 1081 = .ok (.iadd, 1) := by decide +kernel
theorem dL_law_1082 : decode cL_law 1082 = .ok (.iaload, 1) := by decide +kernel
theorem dL_law_1083 : decode cL_law 1083 = .ok (.aload_n 0, 1) := by decide +kernel
theorem dL_law_1084 : decode cL_law 1084 = .ok (.iload_n 3, 1) := by decide +kernel
theorem dL_law_1085 : decode cL_law 1085 = .ok (.iconst 3, 1) := by decide +kernel
theorem dL_law_1086 : decode cL_law 1086 = .ok (.iadd, 1) := by decide +kernel
theorem dL_law_1087 : decode cL_law 1087 = .ok (.iaload, 1) := by decide +kernel
theorem dL_law_1088 : decode cL_law 1088 = .ok (.aload_n 0, 1) := by decide +kernel
theorem dL_law_1089 : decode cL_law 1089 = .ok (.iload_n 3, 1) := by decide +kernel
theorem dL_law_1090 : decode cL_law 1090 = .ok (.iconst 4, 1) := by decide +kernel
theorem dL_law_1091 : decode cL_law 1091 = .ok (.iadd, 1) := by decide +kernel
theorem dL_law_1092 : decode cL_law 1092 = .ok (.iaload, 1) := by decide +kernel
theorem dL_law_1093 : decode cL_law 1093 = .ok (.aload_n 0, 1) := by decide +kernel
theorem dL_law_1094 : decode cL_law 1094 = .ok (.iload_n 3, 1) := by decide +kernel
theorem dL_law_1095 : decode cL_law 1095 = .ok (.iconst 5, 1) := by decide +kernel
theorem dL_law_1096 : decode cL_law 1096 = .ok (.iadd, 1) := by decide +kernel
theorem dL_law_1097 : decode cL_law 1097 = .ok (.iaload, 1) := by decide +kernel
theorem dL_law_1098 : decode cL_law 1098 = .ok (.aload_n 0, 1) := by decide +kernel
theorem dL_law_1099 : decode cL_law 1099 = .ok (.iload_n 3, 1) := by decide +kernel
theorem dL_law_1100 : decode cL_law 1100 = .ok (.bipush 6, 2) := by decide +kernel
theorem dL_law_1102 : decode cL_law 1102 = .ok (.iadd, 1) := by decide +kernel
theorem dL_law_1103 : decode cL_law 1103 = .ok (.iaload, 1) := by decide +kernel
theorem dL_law_1104 : decode cL_law 1104 = .ok (.aload_n 0, 1) := by decide +kernel
theorem dL_law_1105 : decode cL_law 1105 = .ok (.iload_n 3, 1) := by decide +kernel
theorem dL_law_1106 : decode cL_law 1106 = .ok (.bipush 7, 2) := by decide +kernel
theorem dL_law_1108 : decode cL_law 1108 = .ok (.iadd, 1) := by decide +kernel
theorem dL_law_1109 : decode cL_law 1109 = .ok (.iaload, 1) := by decide +kernel
theorem dL_law_1110 : decode cL_law 1110 = .ok (.invokevirtual 107, 3) := by decide +kernel
theorem dL_law_1113 : decode cL_law 1113 = .ok (.lcmp, 1) := by decide +kernel
theorem dL_law_1114 : decode cL_law 1114 = .ok (.ifCond .eq 617, 3) := by decide +kernel
theorem dL_law_1117 : decode cL_law 1117 = .ok (.iconst 0, 1) := by decide +kernel
theorem dL_law_1118 : decode cL_law 1118 = .ok (.ireturn, 1) := by decide +kernel
theorem dL_law_1119 : decode cL_law 1119 = .ok (.aload_n 1, 1) := by decide +kernel
theorem dL_law_1120 : decode cL_law 1120 = .ok (.aload_n 0, 1) := by decide +kernel
theorem dL_law_1121 : decode cL_law 1121 = .ok (.iload_n 3, 1) := by decide +kernel
theorem dL_law_1122 : decode cL_law 1122 = .ok (.iconst 1, 1) := by decide +kernel
theorem dL_law_1123 : decode cL_law 1123 = .ok (.iadd, 1) := by decide +kernel
theorem dL_law_1124 : decode cL_law 1124 = .ok (.iaload, 1) := by decide +kernel
theorem dL_law_1125 : decode cL_law 1125 = .ok (.aload_n 0, 1) := by decide +kernel
theorem dL_law_1126 : decode cL_law 1126 = .ok (.iload_n 3, 1) := by decide +kernel
theorem dL_law_1127 : decode cL_law 1127 = .ok (.iconst 2, 1) := by decide +kernel
theorem dL_law_1128 : decode cL_law 1128 = .ok (.iadd, 1) := by decide +kernel
theorem dL_law_1129 : decode cL_law 1129 = .ok (.iaload, 1) := by decide +kernel
theorem dL_law_1130 : decode cL_law 1130 = .ok (.aload_n 0, 1) := by decide +kernel
theorem dL_law_1131 : decode cL_law 1131 = .ok (.iload_n 3, 1) := by decide +kernel
theorem dL_law_1132 : decode cL_law 1132 = .ok (.iconst 3, 1) := by decide +kernel
theorem dL_law_1133 : decode cL_law 1133 = .ok (.iadd, 1) := by decide +kernel
theorem dL_law_1134 : decode cL_law 1134 = .ok (.iaload, 1) := by decide +kernel
theorem dL_law_1135 : decode cL_law 1135 = .ok (.aload_n 0, 1) := by decide +kernel
theorem dL_law_1136 : decode cL_law 1136 = .ok (.iload_n 3, 1) := by decide +kernel
theorem dL_law_1137 : decode cL_law 1137 = .ok (.iconst 4, 1) := by decide +kernel
theorem dL_law_1138 : decode cL_law 1138 = .ok (.iadd, 1) := by decide +kernel
theorem dL_law_1139 : decode cL_law 1139 = .ok (.iaload, 1) := by decide +kernel
theorem dL_law_1140 : decode cL_law 1140 = .ok (.aload_n 0, 1) := by decide +kernel
theorem dL_law_1141 : decode cL_law 1141 = .ok (.iload_n 3, 1) := by decide +kernel
theorem dL_law_1142 : decode cL_law 1142 = .ok (.iconst 5, 1) := by decide +kernel
theorem dL_law_1143 : decode cL_law 1143 = .ok (.iadd, 1) := by decide +kernel
theorem dL_law_1144 : decode cL_law 1144 = .ok (.iaload, 1) := by decide +kernel
theorem dL_law_1145 : decode cL_law 1145 = .ok (.aload_n 0, 1) := by decide +kernel
theorem dL_law_1146 : decode cL_law 1146 = .ok (.iload_n 3, 1) := by decide +kernel
theorem dL_law_1147 : decode cL_law 1147 = .ok (.bipush 6, 2) := by decide +kernel
theorem dL_law_1149 : decode cL_law 1149 = .ok (.iadd, 1) := by decide +kernel
theorem dL_law_1150 : decode cL_law 1150 = .ok (.iaload, 1) := by decide +kernel
theorem dL_law_1151 : decode cL_law 1151 = .ok (.aload_n 0, 1) := by decide +kernel
theorem dL_law_1152 : decode cL_law 1152 = .ok (.iload_n 3, 1) := by decide +kernel
theorem dL_law_1153 : decode cL_law 1153 = .ok (.bipush 7, 2) := by decide +kernel
theorem dL_law_1155 : decode cL_law 1155 = .ok (.iadd, 1) := by decide +kernel
theorem dL_law_1156 : decode cL_law 1156 = .ok (.iaload, 1) := by decide +kernel
theorem dL_law_1157 : decode cL_law 1157 = .ok (.aload_n 0, 1) := by decide +kernel
theorem dL_law_1158 : decode cL_law 1158 = .ok (.iload_n 3, 1) := by decide +kernel
theorem dL_law_1159 : decode cL_law 1159 = .ok (.bipush 8, 2) := by decide +kernel
theorem dL_law_1161 : decode cL_law 1161 = .ok (.iadd, 1) := by decide +kernel
theorem dL_law_1162 : decode cL_law 1162 = .ok (.iaload, 1) := by decide +kernel
theorem dL_law_1163 : decode cL_law 1163 = .ok (.invokevirtual 108, 3) := by decide +kernel
theorem dL_law_1166 : decode cL_law 1166 = .ok (.aload_n 2, 1) := by decide +kernel
theorem dL_law_1167 : decode cL_law 1167 = .ok (.aload_n 0, 1) := by decide +kernel
theorem dL_law_1168 : decode cL_law 1168 = .ok (.iload_n 3, 1) := by decide +kernel
theorem dL_law_1169 : decode cL_law 1169 = .ok (.iconst 1, 1) := by decide +kernel
theorem dL_law_1170 : decode cL_law 1170 = .ok (.iadd, 1) := by decide +kernel
theorem dL_law_1171 : decode cL_law 1171 = .ok (.iaload, 1) := by decide +kernel
theorem dL_law_1172 : decode cL_law 1172 = .ok (.aload_n 0, 1) := by decide +kernel
theorem dL_law_1173 : decode cL_law 1173 = .ok (.iload_n 3, 1) := by decide +kernel
theorem dL_law_1174 : decode cL_law 1174 = .ok (.iconst 2, 1) := by decide +kernel
theorem dL_law_1175 : decode cL_law 1175 = .ok (.iadd, 1) := by decide +kernel
theorem dL_law_1176 : decode cL_law 1176 = .ok (.iaload, 1) := by decide +kernel
theorem dL_law_1177 : decode cL_law 1177 = .ok (.aload_n 0, 1) := by decide +kernel
theorem dL_law_1178 : decode cL_law 1178 = .ok (.iload_n 3, 1) := by decide +kernel
theorem dL_law_1179 : decode cL_law 1179 = .ok (.iconst 3, 1) := by decide +kernel
theorem dL_law_1180 : decode cL_law 1180 = .ok (.iadd, 1) := by decide +kernel
theorem dL_law_1181 : decode cL_law 1181 = .ok (.iaload, 1) := by decide +kernel
theorem dL_law_1182 : decode cL_law 1182 = .ok (.aload_n 0, 1) := by decide +kernel
theorem dL_law_1183 : decode cL_law 1183 = .ok (.iload_n 3, 1) := by decide +kernel
theorem dL_law_1184 : decode cL_law 1184 = .ok (.iconst 4, 1) := by decide +kernel
theorem dL_law_1185 : decode cL_law 1185 = .ok (.iadd, 1) := by decide +kernel
theorem dL_law_1186 : decode cL_law 1186 = .ok (.iaload, 1) := by decide +kernel
theorem dL_law_1187 : decode cL_law 1187 = .ok (.aload_n 0, 1) := by decide +kernel
theorem dL_law_1188 : decode cL_law 1188 = .ok (.iload_n 3, 1) := by decide +kernel
theorem dL_law_1189 : decode cL_law 1189 = .ok (.iconst 5, 1) := by decide +kernel
theorem dL_law_1190 : decode cL_law 1190 = .ok (.iadd, 1) := by decide +kernel
theorem dL_law_1191 : decode cL_law 1191 = .ok (.iaload, 1) := by decide +kernel
theorem dL_law_1192 : decode cL_law 1192 = .ok (.aload_n 0, 1) := by decide +kernel
theorem dL_law_1193 : decode cL_law 1193 = .ok (.iload_n 3, 1) := by decide +kernel
theorem dL_law_1194 : decode cL_law 1194 = .ok (.bipush 6, 2) := by decide +kernel
theorem dL_law_1196 : decode cL_law 1196 = .ok (.iadd, 1) := by decide +kernel
theorem dL_law_1197 : decode cL_law 1197 = .ok (.iaload, 1) := by decide +kernel
theorem dL_law_1198 : decode cL_law 1198 = .ok (.aload_n 0, 1) := by decide +kernel
theorem dL_law_1199 : decode cL_law 1199 = .ok (.iload_n 3, 1) := by decide +kernel
theorem dL_law_1200 : decode cL_law 1200 = .ok (.bipush 7, 2) := by decide +kernel
theorem dL_law_1202 : decode cL_law 1202 = .ok (.iadd, 1) := by decide +kernel
theorem dL_law_1203 : decode cL_law 1203 = .ok (.iaload, 1) := by decide +kernel
theorem dL_law_1204 : decode cL_law 1204 = .ok (.aload_n 0, 1) := by decide +kernel
theorem dL_law_1205 : decode cL_law 1205 = .ok (.iload_n 3, 1) := by decide +kernel
theorem dL_law_1206 : decode cL_law 1206 = .ok (.bipush 8, 2) := by decide +kernel
theorem dL_law_1208 : decode cL_law 1208 = .ok (.iadd, 1) := by decide +kernel
theorem dL_law_1209 : decode cL_law 1209 = .ok (.iaload, 1) := by decide +kernel
theorem dL_law_1210 : decode cL_law 1210 = .ok (.invokevirtual 112, 3) := by decide +kernel
theorem dL_law_1213 : decode cL_law 1213 = .ok (.lcmp, 1) := by decide +kernel
theorem dL_law_1214 : decode cL_law 1214 = .ok (.ifCond .eq 517, 3) := by decide +kernel
theorem dL_law_1217 : decode cL_law 1217 = .ok (.iconst 0, 1) := by decide +kernel
theorem dL_law_1218 : decode cL_law 1218 = .ok (.ireturn, 1) := by decide +kernel
theorem dL_law_1219 : decode cL_law 1219 = .ok (.aload_n 1, 1) := by decide +kernel
theorem dL_law_1220 : decode cL_law 1220 = .ok (.aload_n 0, 1) := by decide +kernel
theorem dL_law_1221 : decode cL_law 1221 = .ok (.iload_n 3, 1) := by decide +kernel
theorem dL_law_1222 : decode cL_law 1222 = .ok (.iconst 1, 1) := by decide +kernel
theorem dL_law_1223 : decode cL_law 1223 = .ok (.iadd, 1) := by decide +kernel
theorem dL_law_1224 : decode cL_law 1224 = .ok (.iaload, 1) := by decide +kernel
theorem dL_law_1225 : decode cL_law 1225 = .ok (.aload_n 0, 1) := by decide +kernel
theorem dL_law_1226 : decode cL_law 1226 = .ok (.iload_n 3, 1) := by decide +kernel
theorem dL_law_1227 : decode cL_law 1227 = .ok (.iconst 2, 1) := by decide +kernel
theorem dL_law_1228 : decode cL_law 1228 = .ok (.iadd, 1) := by decide +kernel
theorem dL_law_1229 : decode cL_law 1229 = .ok (.iaload, 1) := by decide +kernel
theorem dL_law_1230 : decode cL_law 1230 = .ok (.invokevirtual 113, 3) := by decide +kernel
theorem dL_law_1233 : decode cL_law 1233 = .ok (.aload_n 2, 1) := by decide +kernel
theorem dL_law_1234 : decode cL_law 1234 = .ok (.aload_n 0, 1) := by decide +kernel
theorem dL_law_1235 : decode cL_law 1235 = .ok (.iload_n 3, 1) := by decide +kernel
theorem dL_law_1236 : decode cL_law 1236 = .ok (.iconst 1, 1) := by decide +kernel
theorem dL_law_1237 : decode cL_law 1237 = .ok (.iadd, 1) := by decide +kernel
theorem dL_law_1238 : decode cL_law 1238 = .ok (.iaload, 1) := by decide +kernel
theorem dL_law_1239 : decode cL_law 1239 = .ok (.aload_n 0, 1) := by decide +kernel
theorem dL_law_1240 : decode cL_law 1240 = .ok (.iload_n 3, 1) := by decide +kernel
theorem dL_law_1241 : decode cL_law 1241 = .ok (.iconst 2, 1) := by decide +kernel
theorem dL_law_1242 : decode cL_law 1242 = .ok (.iadd, 1) := by decide +kernel
theorem dL_law_1243 : decode cL_law 1243 = .ok (.iaload, 1) := by decide +kernel
theorem dL_law_1244 : decode cL_law 1244 = .ok (.invokevirtual 116, 3) := by decide +kernel
theorem dL_law_1247 : decode cL_law 1247 = .ok (.lcmp, 1) := by decide +kernel
theorem dL_law_1248 : decode cL_law 1248 = .ok (.ifCond .eq 483, 3) := by decide +kernel
theorem dL_law_1251 : decode cL_law 1251 = .ok (.iconst 0, 1) := by decide +kernel
theorem dL_law_1252 : decode cL_law 1252 = .ok (.ireturn, 1) := by decide +kernel
theorem dL_law_1253 : decode cL_law 1253 = .ok (.aload_n 1, 1) := by decide +kernel
theorem dL_law_1254 : decode cL_law 1254 = .ok (.aload_n 0, 1) := by decide +kernel
theorem dL_law_1255 : decode cL_law 1255 = .ok (.iload_n 3, 1) := by decide +kernel
theorem dL_law_1256 : decode cL_law 1256 = .ok (.iconst 1, 1) := by decide +kernel
theorem dL_law_1257 : decode cL_law 1257 = .ok (.iadd, 1) := by decide +kernel
theorem dL_law_1258 : decode cL_law 1258 = .ok (.iaload, 1) := by decide +kernel
theorem dL_law_1259 : decode cL_law 1259 = .ok (.invokevirtual 117, 3) := by decide +kernel
theorem dL_law_1262 : decode cL_law 1262 = .ok (.aload_n 2, 1) := by decide +kernel
theorem dL_law_1263 : decode cL_law 1263 = .ok (.aload_n 0, 1) := by decide +kernel
theorem dL_law_1264 : decode cL_law 1264 = .ok (.iload_n 3, 1) := by decide +kernel
theorem dL_law_1265 : decode cL_law 1265 = .ok (.iconst 1, 1) := by decide +kernel
theorem dL_law_1266 : decode cL_law 1266 = .ok (.iadd, 1) := by decide +kernel
theorem dL_law_1267 : decode cL_law 1267 = .ok (.iaload, 1) := by decide +kernel
theorem dL_law_1268 : decode cL_law 1268 = .ok (.invokevirtual 120, 3) := by decide +kernel
theorem dL_law_1271 : decode cL_law 1271 = .ok (.if_icmp .eq 460, 3) := by decide +kernel
theorem dL_law_1274 : decode cL_law 1274 = .ok (.iconst 0, 1) := by decide +kernel
theorem dL_law_1275 : decode cL_law 1275 = .ok (.ireturn, 1) := by decide +kernel
theorem dL_law_1276 : decode cL_law 1276 = .ok (.aload_n 1, 1) := by decide +kernel
theorem dL_law_1277 : decode cL_law 1277 = .ok (.aload_n 0, 1) := by decide +kernel
theorem dL_law_1278 : decode cL_law 1278 = .ok (.iload_n 3, 1) := by decide +kernel
theorem dL_law_1279 : decode cL_law 1279 = .ok (.iconst 1, 1) := by decide +kernel
theorem dL_law_1280 : decode cL_law 1280 = .ok (.iadd, 1) := by decide +kernel
theorem dL_law_1281 : decode cL_law 1281 = .ok (.iaload, 1) := by decide +kernel
theorem dL_law_1282 : decode cL_law 1282 = .ok (.aload_n 0, 1) := by decide +kernel
theorem dL_law_1283 : decode cL_law 1283 = .ok (.iload_n 3, 1) := by decide +kernel
theorem dL_law_1284 : decode cL_law 1284 = .ok (.iconst 2, 1) := by decide +kernel
theorem dL_law_1285 : decode cL_law 1285 = .ok (.iadd, 1) := by decide +kernel
theorem dL_law_1286 : decode cL_law 1286 = .ok (.iaload, 1) := by decide +kernel
theorem dL_law_1287 : decode cL_law 1287 = .ok (.aload_n 0, 1) := by decide +kernel
theorem dL_law_1288 : decode cL_law 1288 = .ok (.iload_n 3, 1) := by decide +kernel
theorem dL_law_1289 : decode cL_law 1289 = .ok (.iconst 3, 1) := by decide +kernel
theorem dL_law_1290 : decode cL_law 1290 = .ok (.iadd, 1) := by decide +kernel
theorem dL_law_1291 : decode cL_law 1291 = .ok (.iaload, 1) := by decide +kernel
theorem dL_law_1292 : decode cL_law 1292 = .ok (.aload_n 0, 1) := by decide +kernel
theorem dL_law_1293 : decode cL_law 1293 = .ok (.iload_n 3, 1) := by decide +kernel
theorem dL_law_1294 : decode cL_law 1294 = .ok (.iconst 4, 1) := by decide +kernel
theorem dL_law_1295 : decode cL_law 1295 = .ok (.iadd, 1) := by decide +kernel
theorem dL_law_1296 : decode cL_law 1296 = .ok (.iaload, 1) := by decide +kernel
theorem dL_law_1297 : decode cL_law 1297 = .ok (.invokevirtual 121, 3) := by decide +kernel
theorem dL_law_1300 : decode cL_law 1300 = .ok (.aload_n 2, 1) := by decide +kernel
theorem dL_law_1301 : decode cL_law 1301 = .ok (.aload_n 0, 1) := by decide +kernel
theorem dL_law_1302 : decode cL_law 1302 = .ok (.iload_n 3, 1) := by decide +kernel
theorem dL_law_1303 : decode cL_law 1303 = .ok (.iconst 1, 1) := by decide +kernel
theorem dL_law_1304 : decode cL_law 1304 = .ok (.iadd, 1) := by decide +kernel
theorem dL_law_1305 : decode cL_law 1305 = .ok (.iaload, 1) := by decide +kernel
theorem dL_law_1306 : decode cL_law 1306 = .ok (.aload_n 0, 1) := by decide +kernel
theorem dL_law_1307 : decode cL_law 1307 = .ok (.iload_n 3, 1) := by decide +kernel
theorem dL_law_1308 : decode cL_law 1308 = .ok (.iconst 2, 1) := by decide +kernel
theorem dL_law_1309 : decode cL_law 1309 = .ok (.iadd, 1) := by decide +kernel
theorem dL_law_1310 : decode cL_law 1310 = .ok (.iaload, 1) := by decide +kernel
theorem dL_law_1311 : decode cL_law 1311 = .ok (.aload_n 0, 1) := by decide +kernel
theorem dL_law_1312 : decode cL_law 1312 = .ok (.iload_n 3, 1) := by decide +kernel
theorem dL_law_1313 : decode cL_law 1313 = .ok (.iconst 3, 1) := by decide +kernel
theorem dL_law_1314 : decode cL_law 1314 = .ok (.iadd, 1) := by decide +kernel
theorem dL_law_1315 : decode cL_law 1315 = .ok (.iaload, 1) := by decide +kernel
theorem dL_law_1316 : decode cL_law 1316 = .ok (.aload_n 0, 1) := by decide +kernel
theorem dL_law_1317 : decode cL_law 1317 = .ok (.iload_n 3, 1) := by decide +kernel
theorem dL_law_1318 : decode cL_law 1318 = .ok (.iconst 4, 1) := by decide +kernel
theorem dL_law_1319 : decode cL_law 1319 = .ok (.iadd, 1) := by decide +kernel
theorem dL_law_1320 : decode cL_law 1320 = .ok (.iaload, 1) := by decide +kernel
theorem dL_law_1321 : decode cL_law 1321 = .ok (.invokevirtual 124, 3) := by decide +kernel
theorem dL_law_1324 : decode cL_law 1324 = .ok (.lcmp, 1) := by decide +kernel
theorem dL_law_1325 : decode cL_law 1325 = .ok (.ifCond .eq 406, 3) := by decide +kernel
theorem dL_law_1328 : decode cL_law 1328 = .ok (.iconst 0, 1) := by decide +kernel
theorem dL_law_1329 : decode cL_law 1329 = .ok (.ireturn, 1) := by decide +kernel
theorem dL_law_1330 : decode cL_law 1330 = .ok (.aload_n 1, 1) := by decide +kernel
theorem dL_law_1331 : decode cL_law 1331 = .ok (.aload_n 0, 1) := by decide +kernel
theorem dL_law_1332 : decode cL_law 1332 = .ok (.iload_n 3, 1) := by decide +kernel
theorem dL_law_1333 : decode cL_law 1333 = .ok (.iconst 1, 1) := by decide +kernel
theorem dL_law_1334 : decode cL_law 1334 = .ok (.iadd, 1) := by decide +kernel
theorem dL_law_1335 : decode cL_law 1335 = .ok (.iaload, 1) := by decide +kernel
theorem dL_law_1336 : decode cL_law 1336 = .ok (.aload_n 0, 1) := by decide +kernel
theorem dL_law_1337 : decode cL_law 1337 = .ok (.iload_n 3, 1) := by decide +kernel
theorem dL_law_1338 : decode cL_law 1338 = .ok (.iconst 2, 1) := by decide +kernel
theorem dL_law_1339 : decode cL_law 1339 = .ok (.iadd, 1) := by decide +kernel
theorem dL_law_1340 : decode cL_law 1340 = .ok (.iaload, 1) := by decide +kernel
theorem dL_law_1341 : decode cL_law 1341 = .ok (.aload_n 0, 1) := by decide +kernel
theorem dL_law_1342 : decode cL_law 1342 = .ok (.iload_n 3, 1) := by decide +kernel
theorem dL_law_1343 : decode cL_law 1343 = .ok (.iconst 3, 1) := by decide +kernel
theorem dL_law_1344 : decode cL_law 1344 = .ok (.iadd, 1) := by decide +kernel
theorem dL_law_1345 : decode cL_law 1345 = .ok (.iaload, 1) := by decide +kernel
theorem dL_law_1346 : decode cL_law 1346 = .ok (.aload_n 0, 1) := by decide +kernel
theorem dL_law_1347 : decode cL_law 1347 = .ok (.iload_n 3, 1) := by decide +kernel
theorem dL_law_1348 : decode cL_law 1348 = .ok (.iconst 4, 1) := by decide +kernel
theorem dL_law_1349 : decode cL_law 1349 = .ok (.iadd, 1) := by decide +kernel
theorem dL_law_1350 : decode cL_law 1350 = .ok (.iaload, 1) := by decide +kernel
theorem dL_law_1351 : decode cL_law 1351 = .ok (.invokevirtual 125, 3) := by decide +kernel
theorem dL_law_1354 : decode cL_law 1354 = .ok (.aload_n 2, 1) := by decide +kernel
theorem dL_law_1355 : decode cL_law 1355 = .ok (.aload_n 0, 1) := by decide +kernel
theorem dL_law_1356 : decode cL_law 1356 = .ok (.iload_n 3, 1) := by decide +kernel
theorem dL_law_1357 : decode cL_law 1357 = .ok (.iconst 1, 1) := by decide +kernel
theorem dL_law_1358 : decode cL_law 1358 = .ok (.iadd, 1) := by decide +kernel
theorem dL_law_1359 : decode cL_law 1359 = .ok (.iaload, 1) := by decide +kernel
theorem dL_law_1360 : decode cL_law 1360 = .ok (.aload_n 0, 1) := by decide +kernel
theorem dL_law_1361 : decode cL_law 1361 = .ok (.iload_n 3, 1) := by decide +kernel
theorem dL_law_1362 : decode cL_law 1362 = .ok (.iconst 2, 1) := by decide +kernel
theorem dL_law_1363 : decode cL_law 1363 = .ok (.iadd, 1) := by decide +kernel
theorem dL_law_1364 : decode cL_law 1364 = .ok (.iaload, 1) := by decide +kernel
theorem dL_law_1365 : decode cL_law 1365 = .ok (.aload_n 0, 1) := by decide +kernel
theorem dL_law_1366 : decode cL_law 1366 = .ok (.iload_n 3, 1) := by decide +kernel
theorem dL_law_1367 : decode cL_law 1367 = .ok (.iconst 3, 1) := by decide +kernel
theorem dL_law_1368 : decode cL_law 1368 = .ok (.iadd, 1) := by decide +kernel
theorem dL_law_1369 : decode cL_law 1369 = .ok (.iaload, 1) := by decide +kernel
theorem dL_law_1370 : decode cL_law 1370 = .ok (.aload_n 0, 1) := by decide +kernel
theorem dL_law_1371 : decode cL_law 1371 = .ok (.iload_n 3, 1) := by decide +kernel
theorem dL_law_1372 : decode cL_law 1372 = .ok (.iconst 4, 1) := by decide +kernel
theorem dL_law_1373 : decode cL_law 1373 = .ok (.iadd, 1) := by decide +kernel
theorem dL_law_1374 : decode cL_law 1374 = .ok (.iaload, 1) := by decide +kernel
theorem dL_law_1375 : decode cL_law 1375 = .ok (.invokevirtual 128, 3) := by decide +kernel
theorem dL_law_1378 : decode cL_law 1378 = .ok (.lcmp, 1) := by decide +kernel
theorem dL_law_1379 : decode cL_law 1379 = .ok (.ifCond .eq 352, 3) := by decide +kernel
theorem dL_law_1382 : decode cL_law 1382 = .ok (.iconst 0, 1) := by decide +kernel
theorem dL_law_1383 : decode cL_law 1383 = .ok (.ireturn, 1) := by decide +kernel
theorem dL_law_1384 : decode cL_law 1384 = .ok (.aload_n 1, 1) := by decide +kernel
theorem dL_law_1385 : decode cL_law 1385 = .ok (.aload_n 0, 1) := by decide +kernel
theorem dL_law_1386 : decode cL_law 1386 = .ok (.iload_n 3, 1) := by decide +kernel
theorem dL_law_1387 : decode cL_law 1387 = .ok (.iconst 1, 1) := by decide +kernel
theorem dL_law_1388 : decode cL_law 1388 = .ok (.iadd, 1) := by decide +kernel
theorem dL_law_1389 : decode cL_law 1389 = .ok (.iaload, 1) := by decide +kernel
theorem dL_law_1390 : decode cL_law 1390 = .ok (.aload_n 0, 1) := by decide +kernel
theorem dL_law_1391 : decode cL_law 1391 = .ok (.iload_n 3, 1) := by decide +kernel
theorem dL_law_1392 : decode cL_law 1392 = .ok (.iconst 2, 1) := by decide +kernel
theorem dL_law_1393 : decode cL_law 1393 = .ok (.iadd, 1) := by decide +kernel
theorem dL_law_1394 : decode cL_law 1394 = .ok (.iaload, 1) := by decide +kernel
theorem dL_law_1395 : decode cL_law 1395 = .ok (.aload_n 0, 1) := by decide +kernel
theorem dL_law_1396 : decode cL_law 1396 = .ok (.iload_n 3, 1) := by decide +kernel
theorem dL_law_1397 : decode cL_law 1397 = .ok (.iconst 3, 1) := by decide +kernel
theorem dL_law_1398 : decode cL_law 1398 = .ok (.iadd, 1) := by decide +kernel
theorem dL_law_1399 : decode cL_law 1399 = .ok (.iaload, 1) := by decide +kernel
theorem dL_law_1400 : decode cL_law 1400 = .ok (.aload_n 0, 1) := by decide +kernel
theorem dL_law_1401 : decode cL_law 1401 = .ok (.iload_n 3, 1) := by decide +kernel
theorem dL_law_1402 : decode cL_law 1402 = .ok (.iconst 4, 1) := by decide +kernel
theorem dL_law_1403 : decode cL_law 1403 = .ok (.iadd, 1) := by decide +kernel
theorem dL_law_1404 : decode cL_law 1404 = .ok (.iaload, 1) := by decide +kernel
theorem dL_law_1405 : decode cL_law 1405 = .ok (.invokevirtual 129, 3) := by decide +kernel
theorem dL_law_1408 : decode cL_law 1408 = .ok (.aload_n 2, 1) := by decide +kernel
theorem dL_law_1409 : decode cL_law 1409 = .ok (.aload_n 0, 1) := by decide +kernel
theorem dL_law_1410 : decode cL_law 1410 = .ok (.iload_n 3, 1) := by decide +kernel
theorem dL_law_1411 : decode cL_law 1411 = .ok (.iconst 1, 1) := by decide +kernel
theorem dL_law_1412 : decode cL_law 1412 = .ok (.iadd, 1) := by decide +kernel
theorem dL_law_1413 : decode cL_law 1413 = .ok (.iaload, 1) := by decide +kernel
theorem dL_law_1414 : decode cL_law 1414 = .ok (.aload_n 0, 1) := by decide +kernel
theorem dL_law_1415 : decode cL_law 1415 = .ok (.iload_n 3, 1) := by decide +kernel
theorem dL_law_1416 : decode cL_law 1416 = .ok (.iconst 2, 1) := by decide +kernel
theorem dL_law_1417 : decode cL_law 1417 = .ok (.iadd, 1) := by decide +kernel
theorem dL_law_1418 : decode cL_law 1418 = .ok (.iaload, 1) := by decide +kernel
theorem dL_law_1419 : decode cL_law 1419 = .ok (.aload_n 0, 1) := by decide +kernel
theorem dL_law_1420 : decode cL_law 1420 = .ok (.iload_n 3, 1) := by decide +kernel
theorem dL_law_1421 : decode cL_law 1421 = .ok (.iconst 3, 1) := by decide +kernel
theorem dL_law_1422 : decode cL_law 1422 = .ok (.iadd, 1) := by decide +kernel
theorem dL_law_1423 : decode cL_law 1423 = .ok (.iaload, 1) := by decide +kernel
theorem dL_law_1424 : decode cL_law 1424 = .ok (.aload_n 0, 1) := by decide +kernel
theorem dL_law_1425 : decode cL_law 1425 = .ok (.iload_n 3, 1) := by decide +kernel
theorem dL_law_1426 : decode cL_law 1426 = .ok (.iconst 4, 1) := by decide +kernel
theorem dL_law_1427 : decode cL_law 1427 = .ok (.iadd, 1) := by decide +kernel
theorem dL_law_1428 : decode cL_law 1428 = .ok (.iaload, 1) := by decide +kernel
theorem dL_law_1429 : decode cL_law 1429 = .ok (.invokevirtual 132, 3) := by decide +kernel
theorem dL_law_1432 : decode cL_law 1432 = .ok (.if_icmp .eq 299, 3) := by decide +kernel
theorem dL_law_1435 : decode cL_law 1435 = .ok (.iconst 0, 1) := by decide +kernel
theorem dL_law_1436 : decode cL_law 1436 = .ok (.ireturn, 1) := by decide +kernel
theorem dL_law_1437 : decode cL_law 1437 = .ok (.aload_n 1, 1) := by decide +kernel
theorem dL_law_1438 : decode cL_law 1438 = .ok (.aload_n 0, 1) := by decide +kernel
theorem dL_law_1439 : decode cL_law 1439 = .ok (.iload_n 3, 1) := by decide +kernel
theorem dL_law_1440 : decode cL_law 1440 = .ok (.iconst 1, 1) := by decide +kernel
theorem dL_law_1441 : decode cL_law 1441 = .ok (.iadd, 1) := by decide +kernel
theorem dL_law_1442 : decode cL_law 1442 = .ok (.iaload, 1) := by decide +kernel
theorem dL_law_1443 : decode cL_law 1443 = .ok (.aload_n 0, 1) := by decide +kernel
theorem dL_law_1444 : decode cL_law 1444 = .ok (.iload_n 3, 1) := by decide +kernel
theorem dL_law_1445 : decode cL_law 1445 = .ok (.iconst 2, 1) := by decide +kernel
theorem dL_law_1446 : decode cL_law 1446 = .ok (.iadd, 1) := by decide +kernel
theorem dL_law_1447 : decode cL_law 1447 = .ok (.iaload, 1) := by decide +kernel
theorem dL_law_1448 : decode cL_law 1448 = .ok (.aload_n 0, 1) := by decide +kernel
theorem dL_law_1449 : decode cL_law 1449 = .ok (.iload_n 3, 1) := by decide +kernel
theorem dL_law_1450 : decode cL_law 1450 = .ok (.iconst 3, 1) := by decide +kernel
theorem dL_law_1451 : decode cL_law 1451 = .ok (.iadd, 1) := by decide +kernel
theorem dL_law_1452 : decode cL_law 1452 = .ok (.iaload, 1) := by decide +kernel
theorem dL_law_1453 : decode cL_law 1453 = .ok (.aload_n 0, 1) := by decide +kernel
theorem dL_law_1454 : decode cL_law 1454 = .ok (.iload_n 3, 1) := by decide +kernel
theorem dL_law_1455 : decode cL_law 1455 = .ok (.iconst 4, 1) := by decide +kernel
theorem dL_law_1456 : decode cL_law 1456 = .ok (.iadd, 1) := by decide +kernel
theorem dL_law_1457 : decode cL_law 1457 = .ok (.iaload, 1) := by decide +kernel
theorem dL_law_1458 : decode cL_law 1458 = .ok (.aload_n 0, 1) := by decide +kernel
theorem dL_law_1459 : decode cL_law 1459 = .ok (.iload_n 3, 1) := by decide +kernel
theorem dL_law_1460 : decode cL_law 1460 = .ok (.iconst 5, 1) := by decide +kernel
theorem dL_law_1461 : decode cL_law 1461 = .ok (.iadd, 1) := by decide +kernel
theorem dL_law_1462 : decode cL_law 1462 = .ok (.iaload, 1) := by decide +kernel
theorem dL_law_1463 : decode cL_law 1463 = .ok (.invokevirtual 133, 3) := by decide +kernel
theorem dL_law_1466 : decode cL_law 1466 = .ok (.aload_n 2, 1) := by decide +kernel
theorem dL_law_1467 : decode cL_law 1467 = .ok (.aload_n 0, 1) := by decide +kernel
theorem dL_law_1468 : decode cL_law 1468 = .ok (.iload_n 3, 1) := by decide +kernel
theorem dL_law_1469 : decode cL_law 1469 = .ok (.iconst 1, 1) := by decide +kernel
theorem dL_law_1470 : decode cL_law 1470 = .ok (.iadd, 1) := by decide +kernel
theorem dL_law_1471 : decode cL_law 1471 = .ok (.iaload, 1) := by decide +kernel
theorem dL_law_1472 : decode cL_law 1472 = .ok (.aload_n 0, 1) := by decide +kernel
theorem dL_law_1473 : decode cL_law 1473 = .ok (.iload_n 3, 1) := by decide +kernel
theorem dL_law_1474 : decode cL_law 1474 = .ok (.iconst 2, 1) := by decide +kernel
theorem dL_law_1475 : decode cL_law 1475 = .ok (.iadd, 1) := by decide +kernel
theorem dL_law_1476 : decode cL_law 1476 = .ok (.iaload, 1) := by decide +kernel
theorem dL_law_1477 : decode cL_law 1477 = .ok (.aload_n 0, 1) := by decide +kernel
theorem dL_law_1478 : decode cL_law 1478 = .ok (.iload_n 3, 1) := by decide +kernel
theorem dL_law_1479 : decode cL_law 1479 = .ok (.iconst 3, 1) := by decide +kernel
theorem dL_law_1480 : decode cL_law 1480 = .ok (.iadd, 1) := by decide +kernel
theorem dL_law_1481 : decode cL_law 1481 = .ok (.iaload, 1) := by decide +kernel
theorem dL_law_1482 : decode cL_law 1482 = .ok (.aload_n 0, 1) := by decide +kernel
theorem dL_law_1483 : decode cL_law 1483 = .ok (.iload_n 3, 1) := by decide +kernel
theorem dL_law_1484 : decode cL_law 1484 = .ok (.iconst 4, 1) := by decide +kernel
theorem dL_law_1485 : decode cL_law 1485 = .ok (.iadd, 1) := by decide +kernel
theorem dL_law_1486 : decode cL_law 1486 = .ok (.iaload, 1) := by decide +kernel
theorem dL_law_1487 : decode cL_law 1487 = .ok (.aload_n 0, 1) := by decide +kernel
theorem dL_law_1488 : decode cL_law 1488 = .ok (.iload_n 3, 1) := by decide +kernel
theorem dL_law_1489 : decode cL_law 1489 = .ok (.iconst 5, 1) := by decide +kernel
theorem dL_law_1490 : decode cL_law 1490 = .ok (.iadd, 1) := by decide +kernel
theorem dL_law_1491 : decode cL_law 1491 = .ok (.iaload, 1) := by decide +kernel
theorem dL_law_1492 : decode cL_law 1492 = .ok (.invokevirtual 137, 3) := by decide +kernel
theorem dL_law_1495 : decode cL_law 1495 = .ok (.if_icmp .eq 236, 3) := by decide +kernel
theorem dL_law_1498 : decode cL_law 1498 = .ok (.iconst 0, 1) := by decide +kernel
theorem dL_law_1499 : decode cL_law 1499 = .ok (.ireturn, 1) := by decide +kernel
theorem dL_law_1500 : decode cL_law 1500 = .ok (.aload_n 1, 1) := by decide +kernel
theorem dL_law_1501 : decode cL_law 1501 = .ok (.aload_n 0, 1) := by decide +kernel
theorem dL_law_1502 : decode cL_law 1502 = .ok (.iload_n 3, 1) := by decide +kernel
theorem dL_law_1503 : decode cL_law 1503 = .ok (.iconst 1, 1) := by decide +kernel
theorem dL_law_1504 : decode cL_law 1504 = .ok (.iadd, 1) := by decide +kernel
theorem dL_law_1505 : decode cL_law 1505 = .ok (.iaload, 1) := by decide +kernel
theorem dL_law_1506 : decode cL_law 1506 = .ok (.aload_n 0, 1) := by decide +kernel
theorem dL_law_1507 : decode cL_law 1507 = .ok (.iload_n 3, 1) := by decide +kernel
theorem dL_law_1508 : decode cL_law 1508 = .ok (.iconst 2, 1) := by decide +kernel
theorem dL_law_1509 : decode cL_law 1509 = .ok (.iadd, 1) := by decide +kernel
theorem dL_law_1510 : decode cL_law 1510 = .ok (.iaload, 1) := by decide +kernel
theorem dL_law_1511 : decode cL_law 1511 = .ok (.aload_n 0, 1) := by decide +kernel
theorem dL_law_1512 : decode cL_law 1512 = .ok (.iload_n 3, 1) := by decide +kernel
theorem dL_law_1513 : decode cL_law 1513 = .ok (.iconst 3, 1) := by decide +kernel
theorem dL_law_1514 : decode cL_law 1514 = .ok (.iadd, 1) := by decide +kernel
theorem dL_law_1515 : decode cL_law 1515 = .ok (.iaload, 1) := by decide +kernel
theorem dL_law_1516 : decode cL_law 1516 = .ok (.aload_n 0, 1) := by decide +kernel
theorem dL_law_1517 : decode cL_law 1517 = .ok (.iload_n 3, 1) := by decide +kernel
theorem dL_law_1518 : decode cL_law 1518 = .ok (.iconst 4, 1) := by decide +kernel
theorem dL_law_1519 : decode cL_law 1519 = .ok (.iadd, 1) := by decide +kernel
theorem dL_law_1520 : decode cL_law 1520 = .ok (.iaload, 1) := by decide +kernel
theorem dL_law_1521 : decode cL_law 1521 = .ok (.aload_n 0, 1) := by decide +kernel
theorem dL_law_1522 : decode cL_law 1522 = .ok (.iload_n 3, 1) := by decide +kernel
theorem dL_law_1523 : decode cL_law 1523 = .ok (.iconst 5, 1) := by decide +kernel
theorem dL_law_1524 : decode cL_law 1524 = .ok (.iadd, 1) := by decide +kernel
theorem dL_law_1525 : decode cL_law 1525 = .ok (.iaload, 1) := by decide +kernel
theorem dL_law_1526 : decode cL_law 1526 = .ok (.aload_n 0, 1) := by decide +kernel
theorem dL_law_1527 : decode cL_law 1527 = .ok (.iload_n 3, 1) := by decide +kernel
theorem dL_law_1528 : decode cL_law 1528 = .ok (.bipush 6, 2) := by decide +kernel
theorem dL_law_1530 : decode cL_law 1530 = .ok (.iadd, 1) := by decide +kernel
theorem dL_law_1531 : decode cL_law 1531 = .ok (.iaload, 1) := by decide +kernel
theorem dL_law_1532 : decode cL_law 1532 = .ok (.aload_n 0, 1) := by decide +kernel
theorem dL_law_1533 : decode cL_law 1533 = .ok (.iload_n 3, 1) := by decide +kernel
theorem dL_law_1534 : decode cL_law 1534 = .ok (.bipush 7, 2) := by decide +kernel
theorem dL_law_1536 : decode cL_law 1536 = .ok (.iadd, 1) := by decide +kernel
theorem dL_law_1537 : decode cL_law 1537 = .ok (.iaload, 1) := by decide +kernel
theorem dL_law_1538 : decode cL_law 1538 = .ok (.invokevirtual 138, 3) := by decide +kernel
theorem dL_law_1541 : decode cL_law 1541 = .ok (.aload_n 2, 1) := by decide +kernel
theorem dL_law_1542 : decode cL_law 1542 = .ok (.aload_n 0, 1) := by decide +kernel
theorem dL_law_1543 : decode cL_law 1543 = .ok (.iload_n 3, 1) := by decide +kernel
theorem dL_law_1544 : decode cL_law 1544 = .ok (.iconst 1, 1) := by decide +kernel
theorem dL_law_1545 : decode cL_law 1545 = .ok (.iadd, 1) := by decide +kernel
theorem dL_law_1546 : decode cL_law 1546 = .ok (.iaload, 1) := by decide +kernel
theorem dL_law_1547 : decode cL_law 1547 = .ok (.aload_n 0, 1) := by decide +kernel
theorem dL_law_1548 : decode cL_law 1548 = .ok (.iload_n 3, 1) := by decide +kernel
theorem dL_law_1549 : decode cL_law 1549 = .ok (.iconst 2, 1) := by decide +kernel
theorem dL_law_1550 : decode cL_law 1550 = .ok (.iadd, 1) := by decide +kernel
theorem dL_law_1551 : decode cL_law 1551 = .ok (.iaload, 1) := by decide +kernel
theorem dL_law_1552 : decode cL_law 1552 = .ok (.aload_n 0, 1) := by decide +kernel
theorem dL_law_1553 : decode cL_law 1553 = .ok (.iload_n 3, 1) := by decide +kernel
theorem dL_law_1554 : decode cL_law 1554 = .ok (.iconst 3, 1) := by decide +kernel
theorem dL_law_1555 : decode cL_law 1555 = .ok (.iadd, 1) := by decide +kernel
theorem dL_law_1556 : decode cL_law 1556 = .ok (.iaload, 1) := by decide +kernel
theorem dL_law_1557 : decode cL_law 1557 = .ok (.aload_n 0, 1) := by decide +kernel
theorem dL_law_1558 : decode cL_law 1558 = .ok (.iload_n 3, 1) := by decide +kernel
theorem dL_law_1559 : decode cL_law 1559 = .ok (.iconst 4, 1) := by decide +kernel
theorem dL_law_1560 : decode cL_law 1560 = .ok (.iadd, 1) := by decide +kernel
theorem dL_law_1561 : decode cL_law 1561 = .ok (.iaload, 1) := by decide +kernel
theorem dL_law_1562 : decode cL_law 1562 = .ok (.aload_n 0, 1) := by decide +kernel
theorem dL_law_1563 : decode cL_law 1563 = .ok (.iload_n 3, 1) := by decide +kernel
theorem dL_law_1564 : decode cL_law 1564 = .ok (.iconst 5, 1) := by decide +kernel
theorem dL_law_1565 : decode cL_law 1565 = .ok (.iadd, 1) := by decide +kernel
theorem dL_law_1566 : decode cL_law 1566 = .ok (.iaload, 1) := by decide +kernel
theorem dL_law_1567 : decode cL_law 1567 = .ok (.aload_n 0, 1) := by decide +kernel
theorem dL_law_1568 : decode cL_law 1568 = .ok (.iload_n 3, 1) := by decide +kernel
theorem dL_law_1569 : decode cL_law 1569 = .ok (.bipush 6, 2) := by decide +kernel
theorem dL_law_1571 : decode cL_law 1571 = .ok (.iadd, 1) := by decide +kernel
theorem dL_law_1572 : decode cL_law 1572 = .ok (.iaload, 1) := by decide +kernel
theorem dL_law_1573 : decode cL_law 1573 = .ok (.aload_n 0, 1) := by decide +kernel
theorem dL_law_1574 : decode cL_law 1574 = .ok (.iload_n 3, 1) := by decide +kernel
theorem dL_law_1575 : decode cL_law 1575 = .ok (.bipush 7, 2) := by decide +kernel
theorem dL_law_1577 : decode cL_law 1577 = .ok (.iadd, 1) := by decide +kernel
theorem dL_law_1578 : decode cL_law 1578 = .ok (.iaload, 1) := by decide +kernel
theorem dL_law_1579 : decode cL_law 1579 = .ok (.invokevirtual 142, 3) := by decide +kernel
theorem dL_law_1582 : decode cL_law 1582 = .ok (.if_icmp .eq 149, 3) := by decide +kernel
theorem dL_law_1585 : decode cL_law 1585 = .ok (.iconst 0, 1) := by decide +kernel
theorem dL_law_1586 : decode cL_law 1586 = .ok (.ireturn, 1) := by decide +kernel
theorem dL_law_1587 : decode cL_law 1587 = .ok (.aload_n 1, 1) := by decide +kernel
theorem dL_law_1588 : decode cL_law 1588 = .ok (.aload_n 0, 1) := by decide +kernel
theorem dL_law_1589 : decode cL_law 1589 = .ok (.iload_n 3, 1) := by decide +kernel
theorem dL_law_1590 : decode cL_law 1590 = .ok (.iconst 1, 1) := by decide +kernel
theorem dL_law_1591 : decode cL_law 1591 = .ok (.iadd, 1) := by decide +kernel
theorem dL_law_1592 : decode cL_law 1592 = .ok (.iaload, 1) := by decide +kernel
theorem dL_law_1593 : decode cL_law 1593 = .ok (.aload_n 0, 1) := by decide +kernel
theorem dL_law_1594 : decode cL_law 1594 = .ok (.iload_n 3, 1) := by decide +kernel
theorem dL_law_1595 : decode cL_law 1595 = .ok (.iconst 2, 1) := by decide +kernel
theorem dL_law_1596 : decode cL_law 1596 = .ok (.iadd, 1) := by decide +kernel
theorem dL_law_1597 : decode cL_law 1597 = .ok (.iaload, 1) := by decide +kernel
theorem dL_law_1598 : decode cL_law 1598 = .ok (.aload_n 0, 1) := by decide +kernel
theorem dL_law_1599 : decode cL_law 1599 = .ok (.iload_n 3, 1) := by decide +kernel
theorem dL_law_1600 : decode cL_law 1600 = .ok (.iconst 3, 1) := by decide +kernel
theorem dL_law_1601 : decode cL_law 1601 = .ok (.iadd, 1) := by decide +kernel
theorem dL_law_1602 : decode cL_law 1602 = .ok (.iaload, 1) := by decide +kernel
theorem dL_law_1603 : decode cL_law 1603 = .ok (.aload_n 0, 1) := by decide +kernel
theorem dL_law_1604 : decode cL_law 1604 = .ok (.iload_n 3, 1) := by decide +kernel
theorem dL_law_1605 : decode cL_law 1605 = .ok (.iconst 4, 1) := by decide +kernel
theorem dL_law_1606 : decode cL_law 1606 = .ok (.iadd, 1) := by decide +kernel
theorem dL_law_1607 : decode cL_law 1607 = .ok (.iaload, 1) := by decide +kernel
theorem dL_law_1608 : decode cL_law 1608 = .ok (.aload_n 0, 1) := by decide +kernel
theorem dL_law_1609 : decode cL_law 1609 = .ok (.iload_n 3, 1) := by decide +kernel
theorem dL_law_1610 : decode cL_law 1610 = .ok (.iconst 5, 1) := by decide +kernel
theorem dL_law_1611 : decode cL_law 1611 = .ok (.iadd, 1) := by decide +kernel
theorem dL_law_1612 : decode cL_law 1612 = .ok (.iaload, 1) := by decide +kernel
theorem dL_law_1613 : decode cL_law 1613 = .ok (.aload_n 0, 1) := by decide +kernel
theorem dL_law_1614 : decode cL_law 1614 = .ok (.iload_n 3, 1) := by decide +kernel
theorem dL_law_1615 : decode cL_law 1615 = .ok (.bipush 6, 2) := by decide +kernel
theorem dL_law_1617 : decode cL_law 1617 = .ok (.iadd, 1) := by decide +kernel
theorem dL_law_1618 : decode cL_law 1618 = .ok (.iaload, 1) := by decide +kernel
theorem dL_law_1619 : decode cL_law 1619 = .ok (.invokevirtual 143, 3) := by decide +kernel
theorem dL_law_1622 : decode cL_law 1622 = .ok (.aload_n 2, 1) := by decide +kernel
theorem dL_law_1623 : decode cL_law 1623 = .ok (.aload_n 0, 1) := by decide +kernel
theorem dL_law_1624 : decode cL_law 1624 = .ok (.iload_n 3, 1) := by decide +kernel
theorem dL_law_1625 : decode cL_law 1625 = .ok (.iconst 1, 1) := by decide +kernel
theorem dL_law_1626 : decode cL_law 1626 = .ok (.iadd, 1) := by decide +kernel
theorem dL_law_1627 : decode cL_law 1627 = .ok (.iaload, 1) := by decide +kernel
theorem dL_law_1628 : decode cL_law 1628 = .ok (.aload_n 0, 1) := by decide +kernel
theorem dL_law_1629 : decode cL_law 1629 = .ok (.iload_n 3, 1) := by decide +kernel
theorem dL_law_1630 : decode cL_law 1630 = .ok (.iconst 2, 1) := by decide +kernel
theorem dL_law_1631 : decode cL_law 1631 = .ok (.iadd, 1) := by decide +kernel
theorem dL_law_1632 : decode cL_law 1632 = .ok (.iaload, 1) := by decide +kernel
theorem dL_law_1633 : decode cL_law 1633 = .ok (.aload_n 0, 1) := by decide +kernel
theorem dL_law_1634 : decode cL_law 1634 = .ok (.iload_n 3, 1) := by decide +kernel
theorem dL_law_1635 : decode cL_law 1635 = .ok (.iconst 3, 1) := by decide +kernel
theorem dL_law_1636 : decode cL_law 1636 = .ok (.iadd, 1) := by decide +kernel
theorem dL_law_1637 : decode cL_law 1637 = .ok (.iaload, 1) := by decide +kernel
theorem dL_law_1638 : decode cL_law 1638 = .ok (.aload_n 0, 1) := by decide +kernel
theorem dL_law_1639 : decode cL_law 1639 = .ok (.iload_n 3, 1) := by decide +kernel
theorem dL_law_1640 : decode cL_law 1640 = .ok (.iconst 4, 1) := by decide +kernel
theorem dL_law_1641 : decode cL_law 1641 = .ok (.iadd, 1) := by decide +kernel
theorem dL_law_1642 : decode cL_law 1642 = .ok (.iaload, 1) := by decide +kernel
theorem dL_law_1643 : decode cL_law 1643 = .ok (.aload_n 0, 1) := by decide +kernel
theorem dL_law_1644 : decode cL_law 1644 = .ok (.iload_n 3, 1) := by decide +kernel
theorem dL_law_1645 : decode cL_law 1645 = .ok (.iconst 5, 1) := by decide +kernel
theorem dL_law_1646 : decode cL_law 1646 = .ok (.iadd, 1) := by decide +kernel
theorem dL_law_1647 : decode cL_law 1647 = .ok (.iaload, 1) := by decide +kernel
theorem dL_law_1648 : decode cL_law 1648 = .ok (.aload_n 0, 1) := by decide +kernel
theorem dL_law_1649 : decode cL_law 1649 = .ok (.iload_n 3, 1) := by decide +kernel
theorem dL_law_1650 : decode cL_law 1650 = .ok (.bipush 6, 2) := by decide +kernel
theorem dL_law_1652 : decode cL_law 1652 = .ok (.iadd, 1) := by decide +kernel
theorem dL_law_1653 : decode cL_law 1653 = .ok (.iaload, 1) := by decide +kernel
theorem dL_law_1654 : decode cL_law 1654 = .ok (.invokevirtual 147, 3) := by decide +kernel
theorem dL_law_1657 : decode cL_law 1657 = .ok (.if_icmp .eq 74, 3) := by decide +kernel
theorem dL_law_1660 : decode cL_law 1660 = .ok (.iconst 0, 1) := by decide +kernel
theorem dL_law_1661 : decode cL_law 1661 = .ok (.ireturn, 1) := by decide +kernel
theorem dL_law_1662 : decode cL_law 1662 = .ok (.aload_n 1, 1) := by decide +kernel
theorem dL_law_1663 : decode cL_law 1663 = .ok (.aload_n 0, 1) := by decide +kernel
theorem dL_law_1664 : decode cL_law 1664 = .ok (.iload_n 3, 1) := by decide +kernel
theorem dL_law_1665 : decode cL_law 1665 = .ok (.iconst 1, 1) := by decide +kernel
theorem dL_law_1666 : decode cL_law 1666 = .ok (.iadd, 1) := by decide +kernel
theorem dL_law_1667 : decode cL_law 1667 = .ok (.iaload, 1) := by decide +kernel
theorem dL_law_1668 : decode cL_law 1668 = .ok (.invokevirtual 148, 3) := by decide +kernel
theorem dL_law_1671 : decode cL_law 1671 = .ok (.aload_n 2, 1) := by decide +kernel
theorem dL_law_1672 : decode cL_law 1672 = .ok (.aload_n 0, 1) := by decide +kernel
theorem dL_law_1673 : decode cL_law 1673 = .ok (.iload_n 3, 1) := by decide +kernel
theorem dL_law_1674 : decode cL_law 1674 = .ok (.iconst 1, 1) := by decide +kernel
theorem dL_law_1675 : decode cL_law 1675 = .ok (.iadd, 1) := by decide +kernel
theorem dL_law_1676 : decode cL_law 1676 = .ok (.iaload, 1) := by decide +kernel
theorem dL_law_1677 : decode cL_law 1677 = .ok (.invokevirtual 151, 3) := by decide +kernel
theorem dL_law_1680 : decode cL_law 1680 = .ok (.if_icmp .eq 51, 3) := by decide +kernel
theorem dL_law_1683 : decode cL_law 1683 = .ok (.iconst 0, 1) := by decide +kernel
theorem dL_law_1684 : decode cL_law 1684 = .ok (.ireturn, 1) := by decide +kernel
theorem dL_law_1685 : decode cL_law 1685 = .ok (.aload_n 1, 1) := by decide +kernel
theorem dL_law_1686 : decode cL_law 1686 = .ok (.aload_n 0, 1) := by decide +kernel
theorem dL_law_1687 : decode cL_law 1687 = .ok (.iload_n 3, 1) := by decide +kernel
theorem dL_law_1688 : decode cL_law 1688 = .ok (.iconst 1, 1) := by decide +kernel
theorem dL_law_1689 : decode cL_law 1689 = .ok (.iadd, 1) := by decide +kernel
theorem dL_law_1690 : decode cL_law 1690 = .ok (.iaload, 1) := by decide +kernel
theorem dL_law_1691 : decode cL_law 1691 = .ok (.invokevirtual 152, 3) := by decide +kernel
theorem dL_law_1694 : decode cL_law 1694 = .ok (.aload_n 2, 1) := by decide +kernel
theorem dL_law_1695 : decode cL_law 1695 = .ok (.aload_n 0, 1) := by decide +kernel
theorem dL_law_1696 : decode cL_law 1696 = .ok (.iload_n 3, 1) := by decide +kernel
theorem dL_law_1697 : decode cL_law 1697 = .ok (.iconst 1, 1) := by decide +kernel
theorem dL_law_1698 : decode cL_law 1698 = .ok (.iadd, 1) := by decide +kernel
theorem dL_law_1699 : decode cL_law 1699 = .ok (.iaload, 1) := by decide +kernel
theorem dL_law_1700 : decode cL_law 1700 = .ok (.invokevirtual 155, 3) := by decide +kernel
theorem dL_law_1703 : decode cL_law 1703 = .ok (.if_icmp .eq 28, 3) := by decide +kernel
theorem dL_law_1706 : decode cL_law 1706 = .ok (.iconst 0, 1) := by decide +kernel
theorem dL_law_1707 : decode cL_law 1707 = .ok (.ireturn, 1) := by decide +kernel
theorem dL_law_1708 : decode cL_law 1708 = .ok (.aload_n 1, 1) := by decide +kernel
theorem dL_law_1709 : decode cL_law 1709 = .ok (.aload_n 0, 1) := by decide +kernel
theorem dL_law_1710 : decode cL_law 1710 = .ok (.iload_n 3, 1) := by decide +kernel
theorem dL_law_1711 : decode cL_law 1711 = .ok (.iconst 1, 1) := by decide +kernel
theorem dL_law_1712 : decode cL_law 1712 = .ok (.iadd, 1) := by decide +kernel
theorem dL_law_1713 : decode cL_law 1713 = .ok (.iaload, 1) := by decide +kernel
theorem dL_law_1714 : decode cL_law 1714 = .ok (.invokevirtual 156, 3) := by decide +kernel
theorem dL_law_1717 : decode cL_law 1717 = .ok (.aload_n 2, 1) := by decide +kernel
theorem dL_law_1718 : decode cL_law 1718 = .ok (.aload_n 0, 1) := by decide +kernel
theorem dL_law_1719 : decode cL_law 1719 = .ok (.iload_n 3, 1) := by decide +kernel
theorem dL_law_1720 : decode cL_law 1720 = .ok (.iconst 1, 1) := by decide +kernel
theorem dL_law_1721 : decode cL_law 1721 = .ok (.iadd, 1) := by decide +kernel
theorem dL_law_1722 : decode cL_law 1722 = .ok (.iaload, 1) := by decide +kernel
theorem dL_law_1723 : decode cL_law 1723 = .ok (.invokevirtual 159, 3) := by decide +kernel
theorem dL_law_1726 : decode cL_law 1726 = .ok (.if_icmp .eq 5, 3) := by decide +kernel
theorem dL_law_1729 : decode cL_law 1729 = .ok (.iconst 0, 1) := by decide +kernel
theorem dL_law_1730 : decode cL_law 1730 = .ok (.ireturn, 1) := by decide +kernel
theorem dL_law_1731 : decode cL_law 1731 = .ok (.iinc 3 9, 3) := by decide +kernel
theorem dL_law_1734 : decode cL_law 1734 = .ok (.goto (-1716), 3) := by decide +kernel
theorem dL_law_1737 : decode cL_law 1737 = .ok (.iconst 1, 1) := by decide +kernel
theorem dL_law_1738 : decode cL_law 1738 = .ok (.ireturn, 1) := by decide +kernel
end

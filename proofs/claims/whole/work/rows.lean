section
-- ===== PART A: goes FIRST, ahead of the names: the tables' words, and 'selects' of the private methods out of them =====
/-- a private method of a class that the tables say can be made, by its rows of tables_1 -/
def lw_okq (q : MethodName × Nat) : Prop := (q.1.cls ≠ "java/lang/invoke/MethodHandle" ∧ q.1.cls ≠ "java/lang/invoke/VarHandle") ∧ Cond.instantiable q.1.cls q.2 ∈ tables_1 ∧ Cond.privateMethod q.1 ∈ tables_1 ∧ Cond.instanceMethod q.1 ∈ tables_1
theorem lw_p0 : lw_okq (⟨"StemMill$Bucking", "choose", "(I)V"⟩, 6) := ⟨⟨by decide +kernel, by decide +kernel⟩, List.mem_of_getElem? (i := 28) (by decide +kernel), List.mem_of_getElem? (i := 345) (by decide +kernel), List.mem_of_getElem? (i := 346) (by decide +kernel)⟩
theorem lw_p1 : lw_okq (⟨"StemMill$Bucking", "priceFrom", "(ILStemMill$LogKind;)I"⟩, 6) := ⟨⟨by decide +kernel, by decide +kernel⟩, List.mem_of_getElem? (i := 28) (by decide +kernel), List.mem_of_getElem? (i := 356) (by decide +kernel), List.mem_of_getElem? (i := 357) (by decide +kernel)⟩
theorem lw_p2 : lw_okq (⟨"StemMill$Bucking", "addLog", "(II)Z"⟩, 6) := ⟨⟨by decide +kernel, by decide +kernel⟩, List.mem_of_getElem? (i := 28) (by decide +kernel), List.mem_of_getElem? (i := 366) (by decide +kernel), List.mem_of_getElem? (i := 367) (by decide +kernel)⟩
theorem lw_p3 : lw_okq (⟨"StemMill$Bucking", "keepSpare", "()I"⟩, 6) := ⟨⟨by decide +kernel, by decide +kernel⟩, List.mem_of_getElem? (i := 28) (by decide +kernel), List.mem_of_getElem? (i := 374) (by decide +kernel), List.mem_of_getElem? (i := 375) (by decide +kernel)⟩
theorem lw_p4 : lw_okq (⟨"StemMill", "isToldSize", "(I)Z"⟩, 6) := ⟨⟨by decide +kernel, by decide +kernel⟩, List.mem_of_getElem? (i := 20) (by decide +kernel), List.mem_of_getElem? (i := 403) (by decide +kernel), List.mem_of_getElem? (i := 404) (by decide +kernel)⟩
theorem lw_p5 : lw_okq (⟨"java/lang/Throwable", "fillInStackTrace", "(I)Ljava/lang/Throwable;"⟩, 6) := ⟨⟨by decide +kernel, by decide +kernel⟩, List.mem_of_getElem? (i := 502) (by decide +kernel), List.mem_of_getElem? (i := 500) (by decide +kernel), List.mem_of_getElem? (i := 501) (by decide +kernel)⟩
theorem lw_p6 : lw_okq (⟨"StemMill$Sawing", "prepare", "(II)V"⟩, 8) := ⟨⟨by decide +kernel, by decide +kernel⟩, List.mem_of_getElem? (i := 129) (by decide +kernel), List.mem_of_getElem? (i := 542) (by decide +kernel), List.mem_of_getElem? (i := 543) (by decide +kernel)⟩
theorem lw_p7 : lw_okq (⟨"StemMill$Sawing", "tryWithoutCant", "()V"⟩, 8) := ⟨⟨by decide +kernel, by decide +kernel⟩, List.mem_of_getElem? (i := 129) (by decide +kernel), List.mem_of_getElem? (i := 553) (by decide +kernel), List.mem_of_getElem? (i := 554) (by decide +kernel)⟩
theorem lw_p8 : lw_okq (⟨"StemMill$Sawing", "stackFrom", "(I)I"⟩, 8) := ⟨⟨by decide +kernel, by decide +kernel⟩, List.mem_of_getElem? (i := 129) (by decide +kernel), List.mem_of_getElem? (i := 557) (by decide +kernel), List.mem_of_getElem? (i := 558) (by decide +kernel)⟩
theorem lw_p9 : lw_okq (⟨"StemMill$Chain", "farthestLimit", "()I"⟩, 4) := ⟨⟨by decide +kernel, by decide +kernel⟩, List.mem_of_getElem? (i := 156) (by decide +kernel), List.mem_of_getElem? (i := 565) (by decide +kernel), List.mem_of_getElem? (i := 566) (by decide +kernel)⟩
theorem lw_p10 : lw_okq (⟨"StemMill$Chain", "reachOnFrom", "(I)V"⟩, 4) := ⟨⟨by decide +kernel, by decide +kernel⟩, List.mem_of_getElem? (i := 156) (by decide +kernel), List.mem_of_getElem? (i := 571) (by decide +kernel), List.mem_of_getElem? (i := 572) (by decide +kernel)⟩
theorem lw_p11 : lw_okq (⟨"StemMill$Chain", "mostFrom", "(I)I"⟩, 4) := ⟨⟨by decide +kernel, by decide +kernel⟩, List.mem_of_getElem? (i := 156) (by decide +kernel), List.mem_of_getElem? (i := 575) (by decide +kernel), List.mem_of_getElem? (i := 576) (by decide +kernel)⟩
theorem lw_p12 : lw_okq (⟨"StemMill$Chain", "lowestFrom", "(I)I"⟩, 4) := ⟨⟨by decide +kernel, by decide +kernel⟩, List.mem_of_getElem? (i := 156) (by decide +kernel), List.mem_of_getElem? (i := 583) (by decide +kernel), List.mem_of_getElem? (i := 584) (by decide +kernel)⟩
theorem lw_p13 : lw_okq (⟨"StemMill$Sawing", "keepTrial", "()V"⟩, 8) := ⟨⟨by decide +kernel, by decide +kernel⟩, List.mem_of_getElem? (i := 129) (by decide +kernel), List.mem_of_getElem? (i := 591) (by decide +kernel), List.mem_of_getElem? (i := 592) (by decide +kernel)⟩
theorem lw_p14 : lw_okq (⟨"StemMill$Sawing", "tryHeight", "(II)Z"⟩, 8) := ⟨⟨by decide +kernel, by decide +kernel⟩, List.mem_of_getElem? (i := 129) (by decide +kernel), List.mem_of_getElem? (i := 595) (by decide +kernel), List.mem_of_getElem? (i := 596) (by decide +kernel)⟩
theorem lw_p15 : lw_okq (⟨"StemMill$Pattern", "factOf", "(LStemMill$Line;III)I"⟩, 5) := ⟨⟨by decide +kernel, by decide +kernel⟩, List.mem_of_getElem? (i := 178) (by decide +kernel), List.mem_of_getElem? (i := 626) (by decide +kernel), List.mem_of_getElem? (i := 627) (by decide +kernel)⟩
def lw_privs_1 : List (MethodName × Nat) := [(⟨"StemMill$Bucking", "choose", "(I)V"⟩, 6), (⟨"StemMill$Bucking", "priceFrom", "(ILStemMill$LogKind;)I"⟩, 6), (⟨"StemMill$Bucking", "addLog", "(II)Z"⟩, 6), (⟨"StemMill$Bucking", "keepSpare", "()I"⟩, 6), (⟨"StemMill", "isToldSize", "(I)Z"⟩, 6), (⟨"java/lang/Throwable", "fillInStackTrace", "(I)Ljava/lang/Throwable;"⟩, 6), (⟨"StemMill$Sawing", "prepare", "(II)V"⟩, 8), (⟨"StemMill$Sawing", "tryWithoutCant", "()V"⟩, 8), (⟨"StemMill$Sawing", "stackFrom", "(I)I"⟩, 8), (⟨"StemMill$Chain", "farthestLimit", "()I"⟩, 4), (⟨"StemMill$Chain", "reachOnFrom", "(I)V"⟩, 4), (⟨"StemMill$Chain", "mostFrom", "(I)I"⟩, 4), (⟨"StemMill$Chain", "lowestFrom", "(I)I"⟩, 4), (⟨"StemMill$Sawing", "keepTrial", "()V"⟩, 8), (⟨"StemMill$Sawing", "tryHeight", "(II)Z"⟩, 8), (⟨"StemMill$Pattern", "factOf", "(LStemMill$Line;III)I"⟩, 5)]
theorem lw_r1 : ∀ q ∈ lw_privs_1, lw_okq q := List.forall_mem_cons.mpr ⟨lw_p0, List.forall_mem_cons.mpr ⟨lw_p1, List.forall_mem_cons.mpr ⟨lw_p2, List.forall_mem_cons.mpr ⟨lw_p3, List.forall_mem_cons.mpr ⟨lw_p4, List.forall_mem_cons.mpr ⟨lw_p5, List.forall_mem_cons.mpr ⟨lw_p6, List.forall_mem_cons.mpr ⟨lw_p7, List.forall_mem_cons.mpr ⟨lw_p8, List.forall_mem_cons.mpr ⟨lw_p9, List.forall_mem_cons.mpr ⟨lw_p10, List.forall_mem_cons.mpr ⟨lw_p11, List.forall_mem_cons.mpr ⟨lw_p12, List.forall_mem_cons.mpr ⟨lw_p13, List.forall_mem_cons.mpr ⟨lw_p14, List.forall_mem_cons.mpr ⟨lw_p15, fun _ h => absurd h List.not_mem_nil⟩⟩⟩⟩⟩⟩⟩⟩⟩⟩⟩⟩⟩⟩⟩⟩
theorem lw_p16 : lw_okq (⟨"StemMillModel", "isAllowed", "(II)Z"⟩, 29) := ⟨⟨by decide +kernel, by decide +kernel⟩, List.mem_of_getElem? (i := 630) (by decide +kernel), List.mem_of_getElem? (i := 753) (by decide +kernel), List.mem_of_getElem? (i := 754) (by decide +kernel)⟩
theorem lw_p17 : lw_okq (⟨"StemMillModel", "topOf", "(II)I"⟩, 29) := ⟨⟨by decide +kernel, by decide +kernel⟩, List.mem_of_getElem? (i := 630) (by decide +kernel), List.mem_of_getElem? (i := 757) (by decide +kernel), List.mem_of_getElem? (i := 758) (by decide +kernel)⟩
theorem lw_p18 : lw_okq (⟨"StemMillModel", "worth", "(II)I"⟩, 29) := ⟨⟨by decide +kernel, by decide +kernel⟩, List.mem_of_getElem? (i := 630) (by decide +kernel), List.mem_of_getElem? (i := 761) (by decide +kernel), List.mem_of_getElem? (i := 762) (by decide +kernel)⟩
theorem lw_p19 : lw_okq (⟨"StemMillModel", "gradeOf", "(II)I"⟩, 29) := ⟨⟨by decide +kernel, by decide +kernel⟩, List.mem_of_getElem? (i := 630) (by decide +kernel), List.mem_of_getElem? (i := 765) (by decide +kernel), List.mem_of_getElem? (i := 766) (by decide +kernel)⟩
theorem lw_p20 : lw_okq (⟨"StemMillModel", "steps", "(II)Z"⟩, 29) := ⟨⟨by decide +kernel, by decide +kernel⟩, List.mem_of_getElem? (i := 630) (by decide +kernel), List.mem_of_getElem? (i := 769) (by decide +kernel), List.mem_of_getElem? (i := 770) (by decide +kernel)⟩
theorem lw_p21 : lw_okq (⟨"StemMillModel", "add", "(II)V"⟩, 29) := ⟨⟨by decide +kernel, by decide +kernel⟩, List.mem_of_getElem? (i := 630) (by decide +kernel), List.mem_of_getElem? (i := 773) (by decide +kernel), List.mem_of_getElem? (i := 774) (by decide +kernel)⟩
theorem lw_p22 : lw_okq (⟨"StemMillModel", "prices", "(I)V"⟩, 29) := ⟨⟨by decide +kernel, by decide +kernel⟩, List.mem_of_getElem? (i := 630) (by decide +kernel), List.mem_of_getElem? (i := 823) (by decide +kernel), List.mem_of_getElem? (i := 824) (by decide +kernel)⟩
theorem lw_p23 : lw_okq (⟨"StemMillModel", "sequence", "(ZIII[I)I"⟩, 29) := ⟨⟨by decide +kernel, by decide +kernel⟩, List.mem_of_getElem? (i := 630) (by decide +kernel), List.mem_of_getElem? (i := 827) (by decide +kernel), List.mem_of_getElem? (i := 828) (by decide +kernel)⟩
theorem lw_p24 : lw_okq (⟨"StemMillModel", "step", "(ZIIII)I"⟩, 29) := ⟨⟨by decide +kernel, by decide +kernel⟩, List.mem_of_getElem? (i := 630) (by decide +kernel), List.mem_of_getElem? (i := 831) (by decide +kernel), List.mem_of_getElem? (i := 832) (by decide +kernel)⟩
theorem lw_p25 : lw_okq (⟨"StemMillModel", "beside", "(IIII)I"⟩, 29) := ⟨⟨by decide +kernel, by decide +kernel⟩, List.mem_of_getElem? (i := 630) (by decide +kernel), List.mem_of_getElem? (i := 835) (by decide +kernel), List.mem_of_getElem? (i := 836) (by decide +kernel)⟩
theorem lw_p26 : lw_okq (⟨"StemMillModel", "above", "(III)I"⟩, 29) := ⟨⟨by decide +kernel, by decide +kernel⟩, List.mem_of_getElem? (i := 630) (by decide +kernel), List.mem_of_getElem? (i := 842) (by decide +kernel), List.mem_of_getElem? (i := 843) (by decide +kernel)⟩
theorem lw_p27 : lw_okq (⟨"StemMillModel", "isBest", "(ZIIII)Z"⟩, 29) := ⟨⟨by decide +kernel, by decide +kernel⟩, List.mem_of_getElem? (i := 630) (by decide +kernel), List.mem_of_getElem? (i := 846) (by decide +kernel), List.mem_of_getElem? (i := 847) (by decide +kernel)⟩
theorem lw_p28 : lw_okq (⟨"StemMillModel", "lay", "(I)V"⟩, 29) := ⟨⟨by decide +kernel, by decide +kernel⟩, List.mem_of_getElem? (i := 630) (by decide +kernel), List.mem_of_getElem? (i := 850) (by decide +kernel), List.mem_of_getElem? (i := 851) (by decide +kernel)⟩
theorem lw_p29 : lw_okq (⟨"StemMillModel", "put", "(III)V"⟩, 29) := ⟨⟨by decide +kernel, by decide +kernel⟩, List.mem_of_getElem? (i := 630) (by decide +kernel), List.mem_of_getElem? (i := 854) (by decide +kernel), List.mem_of_getElem? (i := 855) (by decide +kernel)⟩
def lw_privs_2 : List (MethodName × Nat) := [(⟨"StemMillModel", "isAllowed", "(II)Z"⟩, 29), (⟨"StemMillModel", "topOf", "(II)I"⟩, 29), (⟨"StemMillModel", "worth", "(II)I"⟩, 29), (⟨"StemMillModel", "gradeOf", "(II)I"⟩, 29), (⟨"StemMillModel", "steps", "(II)Z"⟩, 29), (⟨"StemMillModel", "add", "(II)V"⟩, 29), (⟨"StemMillModel", "prices", "(I)V"⟩, 29), (⟨"StemMillModel", "sequence", "(ZIII[I)I"⟩, 29), (⟨"StemMillModel", "step", "(ZIIII)I"⟩, 29), (⟨"StemMillModel", "beside", "(IIII)I"⟩, 29), (⟨"StemMillModel", "above", "(III)I"⟩, 29), (⟨"StemMillModel", "isBest", "(ZIIII)Z"⟩, 29), (⟨"StemMillModel", "lay", "(I)V"⟩, 29), (⟨"StemMillModel", "put", "(III)V"⟩, 29)]
theorem lw_r2 : ∀ q ∈ lw_privs_2, lw_okq q := List.forall_mem_cons.mpr ⟨lw_p16, List.forall_mem_cons.mpr ⟨lw_p17, List.forall_mem_cons.mpr ⟨lw_p18, List.forall_mem_cons.mpr ⟨lw_p19, List.forall_mem_cons.mpr ⟨lw_p20, List.forall_mem_cons.mpr ⟨lw_p21, List.forall_mem_cons.mpr ⟨lw_p22, List.forall_mem_cons.mpr ⟨lw_p23, List.forall_mem_cons.mpr ⟨lw_p24, List.forall_mem_cons.mpr ⟨lw_p25, List.forall_mem_cons.mpr ⟨lw_p26, List.forall_mem_cons.mpr ⟨lw_p27, List.forall_mem_cons.mpr ⟨lw_p28, List.forall_mem_cons.mpr ⟨lw_p29, fun _ h => absurd h List.not_mem_nil⟩⟩⟩⟩⟩⟩⟩⟩⟩⟩⟩⟩⟩⟩
def lw_privs : List (MethodName × Nat) := lw_privs_1 ++ (lw_privs_2)
def lw_tbl : List Cond := k2_sels lw_privs ++ tables_1
theorem lw_privs_ok : ∀ q ∈ lw_privs, lw_okq q := by
  show ∀ q ∈ lw_privs_1 ++ (lw_privs_2), lw_okq q
  exact List.forall_mem_append.mpr ⟨lw_r1, lw_r2⟩
end
section
def RX0 : String := "StemMill$BoardSize"
def TX0 : u_T := fun k => match k with
  | 0 => ("StemMill$BoardSize", "thickness", "I", false)
  | 1 => ("StemMill$BoardSize", "width", "I", false)
  | _ => ("StemMill$BoardSize", "prices", "[I", true)
def tyX0 : Nat → FieldType := fun k => match k with
  | 0 => .int
  | 1 => .int
  | _ => .array .int
abbrev wsX00 : List Cond := u_ws RX0 TX0 3
theorem nmX0 : ∀ a, a < 3 → ∀ b, b < 3 → a ≠ b → (TX0 a).2.1 ≠ (TX0 b).2.1 := by decide +kernel
theorem tyX0_ok : ∀ k, k < 3 → parseFieldDescriptor (TX0 k).2.2.1 = some (tyX0 k) := by decide +kernel
abbrev cX0_init : ByteArray := prog_2_method_1_code
def yX0_init : MethodName := ⟨RX0, "<init>", "()V"⟩
abbrev cX0_isTold : ByteArray := prog_2_method_2_code
def yX0_isTold : MethodName := ⟨RX0, "isTold", "()Z"⟩
abbrev cX0_become : ByteArray := prog_2_method_3_code
def yX0_become : MethodName := ⟨RX0, "become", "(II)V"⟩
def RX1 : String := "StemMill$Bucking"
def TX1 : u_T := fun k => match k with
  | 0 => ("StemMill$Bucking", "stem", "LStemMill$Stem;", true)
  | 1 => ("StemMill$Bucking", "kinds", "[LStemMill$LogKind;", true)
  | 2 => ("StemMill$Bucking", "best", "[I", true)
  | 3 => ("StemMill$Bucking", "chosen", "[I", true)
  | 4 => ("StemMill$Bucking", "bucked", "LStemMill$Cutting;", false)
  | _ => ("StemMill$Bucking", "spare", "LStemMill$Cutting;", false)
def tyX1 : Nat → FieldType := fun k => match k with
  | 0 => .object "StemMill$Stem"
  | 1 => .array (.object "StemMill$LogKind")
  | 2 => .array .int
  | 3 => .array .int
  | 4 => .object "StemMill$Cutting"
  | _ => .object "StemMill$Cutting"
abbrev wsX10 : List Cond := u_ws RX1 TX1 6
theorem nmX1 : ∀ a, a < 6 → ∀ b, b < 6 → a ≠ b → (TX1 a).2.1 ≠ (TX1 b).2.1 := by decide +kernel
theorem tyX1_ok : ∀ k, k < 6 → parseFieldDescriptor (TX1 k).2.2.1 = some (tyX1 k) := by decide +kernel
abbrev cX1_init : ByteArray := prog_3_method_1_code
def yX1_init : MethodName := ⟨RX1, "<init>", "(I)V"⟩
abbrev cX1_cutBest : ByteArray := prog_3_method_2_code
def yX1_cutBest : MethodName := ⟨RX1, "cutBest", "()I"⟩
abbrev cX1_choose : ByteArray := prog_3_method_3_code
def yX1_choose : MethodName := ⟨RX1, "choose", "(I)V"⟩
abbrev cX1_cutAsTold : ByteArray := prog_3_method_4_code
def yX1_cutAsTold : MethodName := ⟨RX1, "cutAsTold", "(J)I"⟩
abbrev cX1_addLog : ByteArray := prog_3_method_5_code
def yX1_addLog : MethodName := ⟨RX1, "addLog", "(II)Z"⟩
abbrev cX1_priceFrom : ByteArray := prog_3_method_6_code
def yX1_priceFrom : MethodName := ⟨RX1, "priceFrom", "(ILStemMill$LogKind;)I"⟩
abbrev cX1_keepSpare : ByteArray := prog_3_method_7_code
def yX1_keepSpare : MethodName := ⟨RX1, "keepSpare", "()I"⟩
def RX2 : String := "StemMill$Chain"
def TX2 : u_T := fun k => match k with
  | 0 => ("StemMill$Chain", "steps", "[I", true)
  | 1 => ("StemMill$Chain", "prices", "[I", true)
  | 2 => ("StemMill$Chain", "limits", "[I", true)
  | _ => ("StemMill$Chain", "gains", "[I", true)
def tyX2 : Nat → FieldType := fun k => match k with
  | 0 => .array .int
  | 1 => .array .int
  | 2 => .array .int
  | _ => .array .int
abbrev wsX20 : List Cond := u_ws RX2 TX2 4
theorem nmX2 : ∀ a, a < 4 → ∀ b, b < 4 → a ≠ b → (TX2 a).2.1 ≠ (TX2 b).2.1 := by decide +kernel
theorem tyX2_ok : ∀ k, k < 4 → parseFieldDescriptor (TX2 k).2.2.1 = some (tyX2 k) := by decide +kernel
abbrev cX2_init : ByteArray := prog_4_method_1_code
def yX2_init : MethodName := ⟨RX2, "<init>", "()V"⟩
abbrev cX2_solve : ByteArray := prog_4_method_2_code
def yX2_solve : MethodName := ⟨RX2, "solve", "()I"⟩
abbrev cX2_lay : ByteArray := prog_4_method_3_code
def yX2_lay : MethodName := ⟨RX2, "lay", "(LStemMill$Line;)V"⟩
abbrev cX2_farthestLimit : ByteArray := prog_4_method_4_code
def yX2_farthestLimit : MethodName := ⟨RX2, "farthestLimit", "()I"⟩
abbrev cX2_reachOnFrom : ByteArray := prog_4_method_5_code
def yX2_reachOnFrom : MethodName := ⟨RX2, "reachOnFrom", "(I)V"⟩
abbrev cX2_mostFrom : ByteArray := prog_4_method_6_code
def yX2_mostFrom : MethodName := ⟨RX2, "mostFrom", "(I)I"⟩
abbrev cX2_lowestFrom : ByteArray := prog_4_method_7_code
def yX2_lowestFrom : MethodName := ⟨RX2, "lowestFrom", "(I)I"⟩
def RX3 : String := "StemMill$Cutting"
def TX3 : u_T := fun k => match k with
  | 0 => ("StemMill$Cutting", "count", "I", false)
  | 1 => ("StemMill$Cutting", "value", "I", false)
  | _ => ("StemMill$Cutting", "facts", "[I", true)
def tyX3 : Nat → FieldType := fun k => match k with
  | 0 => .int
  | 1 => .int
  | _ => .array .int
abbrev wsX30 : List Cond := u_ws RX3 TX3 3
theorem nmX3 : ∀ a, a < 3 → ∀ b, b < 3 → a ≠ b → (TX3 a).2.1 ≠ (TX3 b).2.1 := by decide +kernel
theorem tyX3_ok : ∀ k, k < 3 → parseFieldDescriptor (TX3 k).2.2.1 = some (tyX3 k) := by decide +kernel
abbrev cX3_init : ByteArray := prog_5_method_1_code
def yX3_init : MethodName := ⟨RX3, "<init>", "()V"⟩
abbrev cX3_clear : ByteArray := prog_5_method_2_code
def yX3_clear : MethodName := ⟨RX3, "clear", "()V"⟩
abbrev cX3_add : ByteArray := prog_5_method_3_code
def yX3_add : MethodName := ⟨RX3, "add", "(IIIII)V"⟩
abbrev cX3_fact : ByteArray := prog_5_method_4_code
def yX3_fact : MethodName := ⟨RX3, "fact", "(II)I"⟩
def RX4 : String := "StemMill$Line"
def TX4 : u_T := fun k => match k with
  | 0 => ("StemMill$Line", "count", "I", false)
  | 1 => ("StemMill$Line", "sizes", "[I", true)
  | _ => ("StemMill$Line", "places", "[I", true)
def tyX4 : Nat → FieldType := fun k => match k with
  | 0 => .int
  | 1 => .array .int
  | _ => .array .int
abbrev wsX40 : List Cond := u_ws RX4 TX4 3
theorem nmX4 : ∀ a, a < 3 → ∀ b, b < 3 → a ≠ b → (TX4 a).2.1 ≠ (TX4 b).2.1 := by decide +kernel
theorem tyX4_ok : ∀ k, k < 3 → parseFieldDescriptor (TX4 k).2.2.1 = some (tyX4 k) := by decide +kernel
abbrev cX4_init : ByteArray := prog_6_method_1_code
def yX4_init : MethodName := ⟨RX4, "<init>", "(I)V"⟩
abbrev cX4_add : ByteArray := prog_6_method_2_code
def yX4_add : MethodName := ⟨RX4, "add", "(II)V"⟩
abbrev cX4_countOf : ByteArray := prog_6_method_3_code
def yX4_countOf : MethodName := ⟨RX4, "countOf", "(I)I"⟩
def RX5 : String := "StemMill$LogKind"
def TX5 : u_T := fun k => match k with
  | 0 => ("StemMill$LogKind", "length", "I", false)
  | 1 => ("StemMill$LogKind", "leastTop", "I", false)
  | _ => ("StemMill$LogKind", "prices", "[I", true)
def tyX5 : Nat → FieldType := fun k => match k with
  | 0 => .int
  | 1 => .int
  | _ => .array .int
abbrev wsX50 : List Cond := u_ws RX5 TX5 3
theorem nmX5 : ∀ a, a < 3 → ∀ b, b < 3 → a ≠ b → (TX5 a).2.1 ≠ (TX5 b).2.1 := by decide +kernel
theorem tyX5_ok : ∀ k, k < 3 → parseFieldDescriptor (TX5 k).2.2.1 = some (tyX5 k) := by decide +kernel
abbrev cX5_init : ByteArray := prog_7_method_1_code
def yX5_init : MethodName := ⟨RX5, "<init>", "()V"⟩
abbrev cX5_isTold : ByteArray := prog_7_method_2_code
def yX5_isTold : MethodName := ⟨RX5, "isTold", "()Z"⟩
abbrev cX5_become : ByteArray := prog_7_method_3_code
def yX5_become : MethodName := ⟨RX5, "become", "(II)V"⟩
abbrev cX5_slot : ByteArray := prog_7_method_4_code
def yX5_slot : MethodName := ⟨RX5, "slot", "(II)I"⟩
def RX6 : String := "StemMill$Orders"
def TX6 : u_T := fun k => match k with
  | 0 => ("StemMill$Orders", "needs", "[I", true)
  | 1 => ("StemMill$Orders", "shortages", "[I", true)
  | _ => ("StemMill$Orders", "additions", "[I", true)
def tyX6 : Nat → FieldType := fun k => match k with
  | 0 => .array .int
  | 1 => .array .int
  | _ => .array .int
abbrev wsX60 : List Cond := u_ws RX6 TX6 3
theorem nmX6 : ∀ a, a < 3 → ∀ b, b < 3 → a ≠ b → (TX6 a).2.1 ≠ (TX6 b).2.1 := by decide +kernel
theorem tyX6_ok : ∀ k, k < 3 → parseFieldDescriptor (TX6 k).2.2.1 = some (tyX6 k) := by decide +kernel
abbrev cX6_init : ByteArray := prog_8_method_1_code
def yX6_init : MethodName := ⟨RX6, "<init>", "()V"⟩
abbrev cX6_additionFor : ByteArray := prog_8_method_2_code
def yX6_additionFor : MethodName := ⟨RX6, "additionFor", "(I)I"⟩
abbrev cX6_deliver : ByteArray := prog_8_method_3_code
def yX6_deliver : MethodName := ⟨RX6, "deliver", "(II)V"⟩
def RX7 : String := "StemMill$Pattern"
def TX7 : u_T := fun k => match k with
  | 0 => ("StemMill$Pattern", "height", "I", false)
  | 1 => ("StemMill$Pattern", "value", "I", false)
  | 2 => ("StemMill$Pattern", "row", "LStemMill$Line;", true)
  | 3 => ("StemMill$Pattern", "stack", "LStemMill$Line;", true)
  | _ => ("StemMill$Pattern", "prices", "[I", true)
def tyX7 : Nat → FieldType := fun k => match k with
  | 0 => .int
  | 1 => .int
  | 2 => .object "StemMill$Line"
  | 3 => .object "StemMill$Line"
  | _ => .array .int
abbrev wsX70 : List Cond := u_ws RX7 TX7 5
theorem nmX7 : ∀ a, a < 5 → ∀ b, b < 5 → a ≠ b → (TX7 a).2.1 ≠ (TX7 b).2.1 := by decide +kernel
theorem tyX7_ok : ∀ k, k < 5 → parseFieldDescriptor (TX7 k).2.2.1 = some (tyX7 k) := by decide +kernel
abbrev cX7_init : ByteArray := prog_9_method_1_code
def yX7_init : MethodName := ⟨RX7, "<init>", "()V"⟩
abbrev cX7_stacks : ByteArray := prog_9_method_2_code
def yX7_stacks : MethodName := ⟨RX7, "stacks", "()I"⟩
abbrev cX7_count : ByteArray := prog_9_method_3_code
def yX7_count : MethodName := ⟨RX7, "count", "()I"⟩
abbrev cX7_countOf : ByteArray := prog_9_method_4_code
def yX7_countOf : MethodName := ⟨RX7, "countOf", "(I)I"⟩
abbrev cX7_isBetterThan : ByteArray := prog_9_method_5_code
def yX7_isBetterThan : MethodName := ⟨RX7, "isBetterThan", "(LStemMill$Pattern;)Z"⟩
abbrev cX7_fact : ByteArray := prog_9_method_6_code
def yX7_fact : MethodName := ⟨RX7, "fact", "(II)I"⟩
abbrev cX7_factOf : ByteArray := prog_9_method_7_code
def yX7_factOf : MethodName := ⟨RX7, "factOf", "(LStemMill$Line;III)I"⟩
def RX8 : String := "StemMill$Sawing"
def TX8 : u_T := fun k => match k with
  | 0 => ("StemMill$Sawing", "sizes", "[LStemMill$BoardSize;", true)
  | 1 => ("StemMill$Sawing", "orders", "LStemMill$Orders;", true)
  | 2 => ("StemMill$Sawing", "heights", "[I", true)
  | 3 => ("StemMill$Sawing", "gap", "I", false)
  | 4 => ("StemMill$Sawing", "chain", "LStemMill$Chain;", true)
  | 5 => ("StemMill$Sawing", "reaches", "[I", true)
  | 6 => ("StemMill$Sawing", "latest", "LStemMill$Pattern;", false)
  | _ => ("StemMill$Sawing", "trial", "LStemMill$Pattern;", false)
def tyX8 : Nat → FieldType := fun k => match k with
  | 0 => .array (.object "StemMill$BoardSize")
  | 1 => .object "StemMill$Orders"
  | 2 => .array .int
  | 3 => .int
  | 4 => .object "StemMill$Chain"
  | 5 => .array .int
  | 6 => .object "StemMill$Pattern"
  | _ => .object "StemMill$Pattern"
abbrev wsX80 : List Cond := u_ws RX8 TX8 8
theorem nmX8 : ∀ a, a < 8 → ∀ b, b < 8 → a ≠ b → (TX8 a).2.1 ≠ (TX8 b).2.1 := by decide +kernel
theorem tyX8_ok : ∀ k, k < 8 → parseFieldDescriptor (TX8 k).2.2.1 = some (tyX8 k) := by decide +kernel
abbrev cX8_init : ByteArray := prog_10_method_1_code
def yX8_init : MethodName := ⟨RX8, "<init>", "()V"⟩
abbrev cX8_sawThrough : ByteArray := prog_10_method_2_code
def yX8_sawThrough : MethodName := ⟨RX8, "sawThrough", "(II)I"⟩
abbrev cX8_prepare : ByteArray := prog_10_method_3_code
def yX8_prepare : MethodName := ⟨RX8, "prepare", "(II)V"⟩
abbrev cX8_tryWithoutCant : ByteArray := prog_10_method_4_code
def yX8_tryWithoutCant : MethodName := ⟨RX8, "tryWithoutCant", "()V"⟩
abbrev cX8_tryHeight : ByteArray := prog_10_method_5_code
def yX8_tryHeight : MethodName := ⟨RX8, "tryHeight", "(II)Z"⟩
abbrev cX8_stackFrom : ByteArray := prog_10_method_6_code
def yX8_stackFrom : MethodName := ⟨RX8, "stackFrom", "(I)I"⟩
abbrev cX8_keepTrial : ByteArray := prog_10_method_7_code
def yX8_keepTrial : MethodName := ⟨RX8, "keepTrial", "()V"⟩
def RX9 : String := "StemMill$Stem"
def TX9 : u_T := fun k => match k with
  | 0 => ("StemMill$Stem", "last", "I", true)
  | 1 => ("StemMill$Stem", "diameters", "[I", true)
  | 2 => ("StemMill$Stem", "grades", "[I", true)
  | 3 => ("StemMill$Stem", "defects", "I", false)
  | 4 => ("StemMill$Stem", "tops", "[I", true)
  | _ => ("StemMill$Stem", "worst", "[I", true)
def tyX9 : Nat → FieldType := fun k => match k with
  | 0 => .int
  | 1 => .array .int
  | 2 => .array .int
  | 3 => .int
  | 4 => .array .int
  | _ => .array .int
abbrev wsX90 : List Cond := u_ws RX9 TX9 6
theorem nmX9 : ∀ a, a < 6 → ∀ b, b < 6 → a ≠ b → (TX9 a).2.1 ≠ (TX9 b).2.1 := by decide +kernel
theorem tyX9_ok : ∀ k, k < 6 → parseFieldDescriptor (TX9 k).2.2.1 = some (tyX9 k) := by decide +kernel
abbrev cX9_init : ByteArray := prog_11_method_1_code
def yX9_init : MethodName := ⟨RX9, "<init>", "(I)V"⟩
abbrev cX9_spoil : ByteArray := prog_11_method_2_code
def yX9_spoil : MethodName := ⟨RX9, "spoil", "(III)Z"⟩
abbrev cX9_lookFrom : ByteArray := prog_11_method_3_code
def yX9_lookFrom : MethodName := ⟨RX9, "lookFrom", "(I)V"⟩
def RX10 : String := "StemMill"
def TX10 : u_T := fun k => match k with
  | 0 => ("StemMill", "bucking", "LStemMill$Bucking;", true)
  | 1 => ("StemMill", "stem", "LStemMill$Stem;", true)
  | 2 => ("StemMill", "kinds", "[LStemMill$LogKind;", true)
  | 3 => ("StemMill", "sawing", "LStemMill$Sawing;", true)
  | 4 => ("StemMill", "sizes", "[LStemMill$BoardSize;", true)
  | _ => ("StemMill", "orders", "LStemMill$Orders;", true)
def tyX10 : Nat → FieldType := fun k => match k with
  | 0 => .object "StemMill$Bucking"
  | 1 => .object "StemMill$Stem"
  | 2 => .array (.object "StemMill$LogKind")
  | 3 => .object "StemMill$Sawing"
  | 4 => .array (.object "StemMill$BoardSize")
  | _ => .object "StemMill$Orders"
abbrev wsX100 : List Cond := u_ws RX10 TX10 6
theorem nmX10 : ∀ a, a < 6 → ∀ b, b < 6 → a ≠ b → (TX10 a).2.1 ≠ (TX10 b).2.1 := by decide +kernel
theorem tyX10_ok : ∀ k, k < 6 → parseFieldDescriptor (TX10 k).2.2.1 = some (tyX10 k) := by decide +kernel
abbrev cX10_init : ByteArray := prog_1_method_1_code
def yX10_init : MethodName := ⟨RX10, "<init>", "(I)V"⟩
abbrev cX10_diameter : ByteArray := prog_1_method_2_code
def yX10_diameter : MethodName := ⟨RX10, "diameter", "(II)Z"⟩
abbrev cX10_defect : ByteArray := prog_1_method_3_code
def yX10_defect : MethodName := ⟨RX10, "defect", "(III)Z"⟩
abbrev cX10_logKind : ByteArray := prog_1_method_4_code
def yX10_logKind : MethodName := ⟨RX10, "logKind", "(III)Z"⟩
abbrev cX10_priceOf : ByteArray := prog_1_method_5_code
def yX10_priceOf : MethodName := ⟨RX10, "priceOf", "(IIII)Z"⟩
abbrev cX10_buck : ByteArray := prog_1_method_6_code
def yX10_buck : MethodName := ⟨RX10, "buck", "()I"⟩
abbrev cX10_byHand : ByteArray := prog_1_method_7_code
def yX10_byHand : MethodName := ⟨RX10, "byHand", "(J)I"⟩
abbrev cX10_logs : ByteArray := prog_1_method_8_code
def yX10_logs : MethodName := ⟨RX10, "logs", "()I"⟩
abbrev cX10_log : ByteArray := prog_1_method_9_code
def yX10_log : MethodName := ⟨RX10, "log", "(II)I"⟩
abbrev cX10_size : ByteArray := prog_1_method_10_code
def yX10_size : MethodName := ⟨RX10, "size", "(III)Z"⟩
abbrev cX10_boardPrice : ByteArray := prog_1_method_11_code
def yX10_boardPrice : MethodName := ⟨RX10, "boardPrice", "(III)Z"⟩
abbrev cX10_height : ByteArray := prog_1_method_12_code
def yX10_height : MethodName := ⟨RX10, "height", "(II)Z"⟩
abbrev cX10_kerf : ByteArray := prog_1_method_13_code
def yX10_kerf : MethodName := ⟨RX10, "kerf", "(I)Z"⟩
abbrev cX10_need : ByteArray := prog_1_method_14_code
def yX10_need : MethodName := ⟨RX10, "need", "(II)Z"⟩
abbrev cX10_ladder : ByteArray := prog_1_method_15_code
def yX10_ladder : MethodName := ⟨RX10, "ladder", "(III)Z"⟩
abbrev cX10_needNow : ByteArray := prog_1_method_16_code
def yX10_needNow : MethodName := ⟨RX10, "needNow", "(I)I"⟩
abbrev cX10_saw : ByteArray := prog_1_method_17_code
def yX10_saw : MethodName := ⟨RX10, "saw", "(I)I"⟩
abbrev cX10_boards : ByteArray := prog_1_method_18_code
def yX10_boards : MethodName := ⟨RX10, "boards", "()I"⟩
abbrev cX10_board : ByteArray := prog_1_method_19_code
def yX10_board : MethodName := ⟨RX10, "board", "(II)I"⟩
abbrev cX10_cant : ByteArray := prog_1_method_20_code
def yX10_cant : MethodName := ⟨RX10, "cant", "()I"⟩
abbrev cX10_fits : ByteArray := prog_1_method_21_code
def yX10_fits : MethodName := ⟨RX10, "fits", "(III)Z"⟩
abbrev cX10_isToldSize : ByteArray := prog_1_method_22_code
def yX10_isToldSize : MethodName := ⟨RX10, "isToldSize", "(I)Z"⟩
abbrev cX10_within : ByteArray := prog_1_method_23_code
def yX10_within : MethodName := ⟨RX10, "within", "(III)Z"⟩
abbrev cX10_room : ByteArray := prog_1_method_24_code
def yX10_room : MethodName := ⟨RX10, "room", "(II)I"⟩
def RX11 : String := "StemMillModel"
def TX11 : u_T := fun k => match k with
  | 0 => ("StemMillModel", "thrown", "I", false)
  | 1 => ("StemMillModel", "last", "I", true)
  | 2 => ("StemMillModel", "diameters", "[I", true)
  | 3 => ("StemMillModel", "defects", "I", false)
  | 4 => ("StemMillModel", "defectFrom", "[I", true)
  | 5 => ("StemMillModel", "defectTo", "[I", true)
  | 6 => ("StemMillModel", "defectGrade", "[I", true)
  | 7 => ("StemMillModel", "kindLength", "[I", true)
  | 8 => ("StemMillModel", "kindTop", "[I", true)
  | 9 => ("StemMillModel", "kindPrice", "[I", true)
  | 10 => ("StemMillModel", "logs", "I", false)
  | 11 => ("StemMillModel", "logPart", "[I", true)
  | 12 => ("StemMillModel", "thick", "[I", true)
  | 13 => ("StemMillModel", "wide", "[I", true)
  | 14 => ("StemMillModel", "boardPrices", "[I", true)
  | 15 => ("StemMillModel", "needs", "[I", true)
  | 16 => ("StemMillModel", "heights", "[I", true)
  | 17 => ("StemMillModel", "kerf", "I", false)
  | 18 => ("StemMillModel", "shortage", "[I", true)
  | 19 => ("StemMillModel", "addition", "[I", true)
  | 20 => ("StemMillModel", "boards", "I", false)
  | 21 => ("StemMillModel", "cant", "I", false)
  | 22 => ("StemMillModel", "board", "[I", true)
  | 23 => ("StemMillModel", "price", "[I", true)
  | 24 => ("StemMillModel", "row", "[I", true)
  | 25 => ("StemMillModel", "stack", "[I", true)
  | 26 => ("StemMillModel", "best", "[I", true)
  | 27 => ("StemMillModel", "value", "[I", true)
  | _ => ("StemMillModel", "leads", "[Z", true)
def tyX11 : Nat → FieldType := fun k => match k with
  | 0 => .int
  | 1 => .int
  | 2 => .array .int
  | 3 => .int
  | 4 => .array .int
  | 5 => .array .int
  | 6 => .array .int
  | 7 => .array .int
  | 8 => .array .int
  | 9 => .array .int
  | 10 => .int
  | 11 => .array .int
  | 12 => .array .int
  | 13 => .array .int
  | 14 => .array .int
  | 15 => .array .int
  | 16 => .array .int
  | 17 => .int
  | 18 => .array .int
  | 19 => .array .int
  | 20 => .int
  | 21 => .int
  | 22 => .array .int
  | 23 => .array .int
  | 24 => .array .int
  | 25 => .array .int
  | 26 => .array .int
  | 27 => .array .int
  | _ => .array .boolean
abbrev wsX110 : List Cond := u_ws RX11 TX11 29
theorem nmX11 : ∀ a, a < 29 → ∀ b, b < 29 → a ≠ b → (TX11 a).2.1 ≠ (TX11 b).2.1 := by decide +kernel
theorem tyX11_ok : ∀ k, k < 29 → parseFieldDescriptor (TX11 k).2.2.1 = some (tyX11 k) := by decide +kernel
abbrev cX11_init : ByteArray := prog_13_method_1_code
def yX11_init : MethodName := ⟨RX11, "<init>", "(I)V"⟩
abbrev cX11_thrown : ByteArray := prog_13_method_2_code
def yX11_thrown : MethodName := ⟨RX11, "thrown", "()I"⟩
abbrev cX11_in : ByteArray := prog_13_method_3_code
def yX11_in : MethodName := ⟨RX11, "in", "(III)Z"⟩
abbrev cX11_diameter : ByteArray := prog_13_method_4_code
def yX11_diameter : MethodName := ⟨RX11, "diameter", "(II)Z"⟩
abbrev cX11_defect : ByteArray := prog_13_method_5_code
def yX11_defect : MethodName := ⟨RX11, "defect", "(III)Z"⟩
abbrev cX11_logKind : ByteArray := prog_13_method_6_code
def yX11_logKind : MethodName := ⟨RX11, "logKind", "(III)Z"⟩
abbrev cX11_priceOf : ByteArray := prog_13_method_7_code
def yX11_priceOf : MethodName := ⟨RX11, "priceOf", "(IIII)Z"⟩
abbrev cX11_topOf : ByteArray := prog_13_method_8_code
def yX11_topOf : MethodName := ⟨RX11, "topOf", "(II)I"⟩
abbrev cX11_gradeOf : ByteArray := prog_13_method_9_code
def yX11_gradeOf : MethodName := ⟨RX11, "gradeOf", "(II)I"⟩
abbrev cX11_isAllowed : ByteArray := prog_13_method_10_code
def yX11_isAllowed : MethodName := ⟨RX11, "isAllowed", "(II)Z"⟩
abbrev cX11_worth : ByteArray := prog_13_method_11_code
def yX11_worth : MethodName := ⟨RX11, "worth", "(II)I"⟩
abbrev cX11_add : ByteArray := prog_13_method_12_code
def yX11_add : MethodName := ⟨RX11, "add", "(II)V"⟩
abbrev cX11_buck : ByteArray := prog_13_method_13_code
def yX11_buck : MethodName := ⟨RX11, "buck", "()I"⟩
abbrev cX11_steps : ByteArray := prog_13_method_14_code
def yX11_steps : MethodName := ⟨RX11, "steps", "(II)Z"⟩
abbrev cX11_byHand : ByteArray := prog_13_method_15_code
def yX11_byHand : MethodName := ⟨RX11, "byHand", "(J)I"⟩
abbrev cX11_logs : ByteArray := prog_13_method_16_code
def yX11_logs : MethodName := ⟨RX11, "logs", "()I"⟩
abbrev cX11_log : ByteArray := prog_13_method_17_code
def yX11_log : MethodName := ⟨RX11, "log", "(II)I"⟩
abbrev cX11_size : ByteArray := prog_13_method_18_code
def yX11_size : MethodName := ⟨RX11, "size", "(III)Z"⟩
abbrev cX11_boardPrice : ByteArray := prog_13_method_19_code
def yX11_boardPrice : MethodName := ⟨RX11, "boardPrice", "(III)Z"⟩
abbrev cX11_height : ByteArray := prog_13_method_20_code
def yX11_height : MethodName := ⟨RX11, "height", "(II)Z"⟩
abbrev cX11_kerf : ByteArray := prog_13_method_21_code
def yX11_kerf : MethodName := ⟨RX11, "kerf", "(I)Z"⟩
abbrev cX11_need : ByteArray := prog_13_method_22_code
def yX11_need : MethodName := ⟨RX11, "need", "(II)Z"⟩
abbrev cX11_ladder : ByteArray := prog_13_method_23_code
def yX11_ladder : MethodName := ⟨RX11, "ladder", "(III)Z"⟩
abbrev cX11_needNow : ByteArray := prog_13_method_24_code
def yX11_needNow : MethodName := ⟨RX11, "needNow", "(I)I"⟩
abbrev cX11_prices : ByteArray := prog_13_method_25_code
def yX11_prices : MethodName := ⟨RX11, "prices", "(I)V"⟩
abbrev cX11_isWithin : ByteArray := prog_13_method_26_code
def yX11_isWithin : MethodName := ⟨RX11, "isWithin", "(III)Z"⟩
abbrev cX11_beside : ByteArray := prog_13_method_27_code
def yX11_beside : MethodName := ⟨RX11, "beside", "(IIII)I"⟩
abbrev cX11_above : ByteArray := prog_13_method_28_code
def yX11_above : MethodName := ⟨RX11, "above", "(III)I"⟩
abbrev cX11_step : ByteArray := prog_13_method_29_code
def yX11_step : MethodName := ⟨RX11, "step", "(ZIIII)I"⟩
abbrev cX11_sequence : ByteArray := prog_13_method_30_code
def yX11_sequence : MethodName := ⟨RX11, "sequence", "(ZIII[I)I"⟩
abbrev cX11_isBest : ByteArray := prog_13_method_31_code
def yX11_isBest : MethodName := ⟨RX11, "isBest", "(ZIIII)Z"⟩
abbrev cX11_saw : ByteArray := prog_13_method_32_code
def yX11_saw : MethodName := ⟨RX11, "saw", "(I)I"⟩
abbrev cX11_put : ByteArray := prog_13_method_33_code
def yX11_put : MethodName := ⟨RX11, "put", "(III)V"⟩
abbrev cX11_lay : ByteArray := prog_13_method_34_code
def yX11_lay : MethodName := ⟨RX11, "lay", "(I)V"⟩
abbrev cX11_boards : ByteArray := prog_13_method_35_code
def yX11_boards : MethodName := ⟨RX11, "boards", "()I"⟩
abbrev cX11_board : ByteArray := prog_13_method_36_code
def yX11_board : MethodName := ⟨RX11, "board", "(II)I"⟩
abbrev cX11_cant : ByteArray := prog_13_method_37_code
def yX11_cant : MethodName := ⟨RX11, "cant", "()I"⟩
abbrev cX11_fits : ByteArray := prog_13_method_38_code
def yX11_fits : MethodName := ⟨RX11, "fits", "(III)Z"⟩
def RJ9 : String := "java/lang/Math"
def TJ9 : u_T := fun k => match k with
  | _ => ("", "", "", false)
def tyJ9 : Nat → FieldType := fun k => match k with
  | _ => .int
abbrev wsJ90 : List Cond := u_ws RJ9 TJ9 0
theorem nmJ9 : ∀ a, a < 0 → ∀ b, b < 0 → a ≠ b → (TJ9 a).2.1 ≠ (TJ9 b).2.1 := by decide +kernel
theorem tyJ9_ok : ∀ k, k < 0 → parseFieldDescriptor (TJ9 k).2.2.1 = some (tyJ9 k) := by decide +kernel
abbrev cJ9_max_7cf53 : ByteArray := prog_15_method_65_code
def yJ9_max_7cf53 : MethodName := ⟨RJ9, "max", "(II)I"⟩
abbrev cJ9_min_7cf53 : ByteArray := prog_15_method_69_code
def yJ9_min_7cf53 : MethodName := ⟨RJ9, "min", "(II)I"⟩
def RJ7 : String := "java/util/Arrays"
def TJ7 : u_T := fun k => match k with
  | _ => ("", "", "", false)
def tyJ7 : Nat → FieldType := fun k => match k with
  | _ => .int
abbrev wsJ70 : List Cond := u_ws RJ7 TJ7 0
theorem nmJ7 : ∀ a, a < 0 → ∀ b, b < 0 → a ≠ b → (TJ7 a).2.1 ≠ (TJ7 b).2.1 := by decide +kernel
theorem tyJ7_ok : ∀ k, k < 0 → parseFieldDescriptor (TJ7 k).2.2.1 = some (tyJ7 k) := by decide +kernel
abbrev cJ7_fill_53178 : ByteArray := prog_18_method_103_code
def yJ7_fill_53178 : MethodName := ⟨RJ7, "fill", "([II)V"⟩
def RL : String := "StemMillLaw"
abbrev cL_cell : ByteArray := method_2_code
def yL_cell : MethodName := ⟨RL, "cell", "([II)I"⟩
abbrev cL_log : ByteArray := method_3_code
def yL_log : MethodName := ⟨RL, "log", "(LStemMill;II[J)I"⟩
abbrev cL_saw : ByteArray := method_4_code
def yL_saw : MethodName := ⟨RL, "saw", "(LStemMill;I[J)I"⟩
abbrev cL_board : ByteArray := method_5_code
def yL_board : MethodName := ⟨RL, "board", "(LStemMill;II[J)I"⟩
abbrev cL_law : ByteArray := code
def yL_law : MethodName := ⟨RL, "law", "([I)Z"⟩
/-- the words that every method of the system rests on: those of the tables that stay true while the machine runs -/
def zt_W : List Cond := lw_tbl.filter goodWord
theorem zt_ok : ∀ w ∈ zt_W, w ∈ zt_W ∧ ((w.onTables && w.keeps) = true ∨ ∃ ty, w = .arrayClass ty) := fun _ h => ⟨h, good_of_word (List.mem_filter.mp h).2⟩
theorem zt_mem {w : Cond} (i : Nat) (h : lw_tbl[i]? = some w) (hg : goodWord w = true) : w ∈ zt_W := List.mem_filter.mpr ⟨List.mem_of_getElem? h, hg⟩
/-- the classes whose objects the world holds -/
abbrev zt_cl : List vw_C := [(RX0, TX0, 3), (RX1, TX1, 6), (RX2, TX2, 4), (RX3, TX3, 3), (RX4, TX4, 3), (RX5, TX5, 3), (RX6, TX6, 3), (RX7, TX7, 5), (RX8, TX8, 8), (RX9, TX9, 6), (RX10, TX10, 6), (RX11, TX11, 29)]
abbrev zt_C3 : String := "StemMill$LogKind"
abbrev zt_C4 : String := "StemMill$BoardSize"
theorem zt_e0 : u_ws RX0 TX0 3 = [Cond.lays "StemMill$BoardSize" "StemMill$BoardSize" "thickness" "I", Cond.lays "StemMill$BoardSize" "StemMill$BoardSize" "width" "I", Cond.laysFinal "StemMill$BoardSize" "StemMill$BoardSize" "prices" "[I"] := by decide +kernel
theorem zt_inX0 : ∀ w ∈ u_ws RX0 TX0 3, w ∈ zt_W := by
  rw [zt_e0]
  exact List.forall_mem_cons.mpr ⟨(zt_mem 272 (by decide +kernel) rfl), List.forall_mem_cons.mpr ⟨(zt_mem 274 (by decide +kernel) rfl), List.forall_mem_cons.mpr ⟨(zt_mem 276 (by decide +kernel) rfl), fun _ h => absurd h List.not_mem_nil⟩⟩⟩
theorem zt_e1 : u_ws RX1 TX1 6 = [Cond.laysFinal "StemMill$Bucking" "StemMill$Bucking" "stem" "LStemMill$Stem;", Cond.laysFinal "StemMill$Bucking" "StemMill$Bucking" "kinds" "[LStemMill$LogKind;", Cond.laysFinal "StemMill$Bucking" "StemMill$Bucking" "best" "[I", Cond.laysFinal "StemMill$Bucking" "StemMill$Bucking" "chosen" "[I", Cond.lays "StemMill$Bucking" "StemMill$Bucking" "bucked" "LStemMill$Cutting;", Cond.lays "StemMill$Bucking" "StemMill$Bucking" "spare" "LStemMill$Cutting;"] := by decide +kernel
theorem zt_inX1 : ∀ w ∈ u_ws RX1 TX1 6, w ∈ zt_W := by
  rw [zt_e1]
  exact List.forall_mem_cons.mpr ⟨(zt_mem 145 (by decide +kernel) rfl), List.forall_mem_cons.mpr ⟨(zt_mem 147 (by decide +kernel) rfl), List.forall_mem_cons.mpr ⟨(zt_mem 149 (by decide +kernel) rfl), List.forall_mem_cons.mpr ⟨(zt_mem 151 (by decide +kernel) rfl), List.forall_mem_cons.mpr ⟨(zt_mem 153 (by decide +kernel) rfl), List.forall_mem_cons.mpr ⟨(zt_mem 155 (by decide +kernel) rfl), fun _ h => absurd h List.not_mem_nil⟩⟩⟩⟩⟩⟩
theorem zt_e2 : u_ws RX2 TX2 4 = [Cond.laysFinal "StemMill$Chain" "StemMill$Chain" "steps" "[I", Cond.laysFinal "StemMill$Chain" "StemMill$Chain" "prices" "[I", Cond.laysFinal "StemMill$Chain" "StemMill$Chain" "limits" "[I", Cond.laysFinal "StemMill$Chain" "StemMill$Chain" "gains" "[I"] := by decide +kernel
theorem zt_inX2 : ∀ w ∈ u_ws RX2 TX2 4, w ∈ zt_W := by
  rw [zt_e2]
  exact List.forall_mem_cons.mpr ⟨(zt_mem 198 (by decide +kernel) rfl), List.forall_mem_cons.mpr ⟨(zt_mem 200 (by decide +kernel) rfl), List.forall_mem_cons.mpr ⟨(zt_mem 202 (by decide +kernel) rfl), List.forall_mem_cons.mpr ⟨(zt_mem 204 (by decide +kernel) rfl), fun _ h => absurd h List.not_mem_nil⟩⟩⟩⟩
theorem zt_e3 : u_ws RX3 TX3 3 = [Cond.lays "StemMill$Cutting" "StemMill$Cutting" "count" "I", Cond.lays "StemMill$Cutting" "StemMill$Cutting" "value" "I", Cond.laysFinal "StemMill$Cutting" "StemMill$Cutting" "facts" "[I"] := by decide +kernel
theorem zt_inX3 : ∀ w ∈ u_ws RX3 TX3 3, w ∈ zt_W := by
  rw [zt_e3]
  exact List.forall_mem_cons.mpr ⟨(zt_mem 79 (by decide +kernel) rfl), List.forall_mem_cons.mpr ⟨(zt_mem 81 (by decide +kernel) rfl), List.forall_mem_cons.mpr ⟨(zt_mem 83 (by decide +kernel) rfl), fun _ h => absurd h List.not_mem_nil⟩⟩⟩
theorem zt_e4 : u_ws RX4 TX4 3 = [Cond.lays "StemMill$Line" "StemMill$Line" "count" "I", Cond.laysFinal "StemMill$Line" "StemMill$Line" "sizes" "[I", Cond.laysFinal "StemMill$Line" "StemMill$Line" "places" "[I"] := by decide +kernel
theorem zt_inX4 : ∀ w ∈ u_ws RX4 TX4 3, w ∈ zt_W := by
  rw [zt_e4]
  exact List.forall_mem_cons.mpr ⟨(zt_mem 229 (by decide +kernel) rfl), List.forall_mem_cons.mpr ⟨(zt_mem 231 (by decide +kernel) rfl), List.forall_mem_cons.mpr ⟨(zt_mem 233 (by decide +kernel) rfl), fun _ h => absurd h List.not_mem_nil⟩⟩⟩
theorem zt_e5 : u_ws RX5 TX5 3 = [Cond.lays "StemMill$LogKind" "StemMill$LogKind" "length" "I", Cond.lays "StemMill$LogKind" "StemMill$LogKind" "leastTop" "I", Cond.laysFinal "StemMill$LogKind" "StemMill$LogKind" "prices" "[I"] := by decide +kernel
theorem zt_inX5 : ∀ w ∈ u_ws RX5 TX5 3, w ∈ zt_W := by
  rw [zt_e5]
  exact List.forall_mem_cons.mpr ⟨(zt_mem 129 (by decide +kernel) rfl), List.forall_mem_cons.mpr ⟨(zt_mem 131 (by decide +kernel) rfl), List.forall_mem_cons.mpr ⟨(zt_mem 133 (by decide +kernel) rfl), fun _ h => absurd h List.not_mem_nil⟩⟩⟩
theorem zt_e6 : u_ws RX6 TX6 3 = [Cond.laysFinal "StemMill$Orders" "StemMill$Orders" "needs" "[I", Cond.laysFinal "StemMill$Orders" "StemMill$Orders" "shortages" "[I", Cond.laysFinal "StemMill$Orders" "StemMill$Orders" "additions" "[I"] := by decide +kernel
theorem zt_inX6 : ∀ w ∈ u_ws RX6 TX6 3, w ∈ zt_W := by
  rw [zt_e6]
  exact List.forall_mem_cons.mpr ⟨(zt_mem 178 (by decide +kernel) rfl), List.forall_mem_cons.mpr ⟨(zt_mem 180 (by decide +kernel) rfl), List.forall_mem_cons.mpr ⟨(zt_mem 182 (by decide +kernel) rfl), fun _ h => absurd h List.not_mem_nil⟩⟩⟩
theorem zt_e7 : u_ws RX7 TX7 5 = [Cond.lays "StemMill$Pattern" "StemMill$Pattern" "height" "I", Cond.lays "StemMill$Pattern" "StemMill$Pattern" "value" "I", Cond.laysFinal "StemMill$Pattern" "StemMill$Pattern" "row" "LStemMill$Line;", Cond.laysFinal "StemMill$Pattern" "StemMill$Pattern" "stack" "LStemMill$Line;", Cond.laysFinal "StemMill$Pattern" "StemMill$Pattern" "prices" "[I"] := by decide +kernel
theorem zt_inX7 : ∀ w ∈ u_ws RX7 TX7 5, w ∈ zt_W := by
  rw [zt_e7]
  exact List.forall_mem_cons.mpr ⟨(zt_mem 247 (by decide +kernel) rfl), List.forall_mem_cons.mpr ⟨(zt_mem 249 (by decide +kernel) rfl), List.forall_mem_cons.mpr ⟨(zt_mem 251 (by decide +kernel) rfl), List.forall_mem_cons.mpr ⟨(zt_mem 253 (by decide +kernel) rfl), List.forall_mem_cons.mpr ⟨(zt_mem 255 (by decide +kernel) rfl), fun _ h => absurd h List.not_mem_nil⟩⟩⟩⟩⟩
theorem zt_e8 : u_ws RX8 TX8 8 = [Cond.laysFinal "StemMill$Sawing" "StemMill$Sawing" "sizes" "[LStemMill$BoardSize;", Cond.laysFinal "StemMill$Sawing" "StemMill$Sawing" "orders" "LStemMill$Orders;", Cond.laysFinal "StemMill$Sawing" "StemMill$Sawing" "heights" "[I", Cond.lays "StemMill$Sawing" "StemMill$Sawing" "gap" "I", Cond.laysFinal "StemMill$Sawing" "StemMill$Sawing" "chain" "LStemMill$Chain;", Cond.laysFinal "StemMill$Sawing" "StemMill$Sawing" "reaches" "[I", Cond.lays "StemMill$Sawing" "StemMill$Sawing" "latest" "LStemMill$Pattern;", Cond.lays "StemMill$Sawing" "StemMill$Sawing" "trial" "LStemMill$Pattern;"] := by decide +kernel
theorem zt_inX8 : ∀ w ∈ u_ws RX8 TX8 8, w ∈ zt_W := by
  rw [zt_e8]
  exact List.forall_mem_cons.mpr ⟨(zt_mem 292 (by decide +kernel) rfl), List.forall_mem_cons.mpr ⟨(zt_mem 294 (by decide +kernel) rfl), List.forall_mem_cons.mpr ⟨(zt_mem 296 (by decide +kernel) rfl), List.forall_mem_cons.mpr ⟨(zt_mem 298 (by decide +kernel) rfl), List.forall_mem_cons.mpr ⟨(zt_mem 300 (by decide +kernel) rfl), List.forall_mem_cons.mpr ⟨(zt_mem 302 (by decide +kernel) rfl), List.forall_mem_cons.mpr ⟨(zt_mem 304 (by decide +kernel) rfl), List.forall_mem_cons.mpr ⟨(zt_mem 306 (by decide +kernel) rfl), fun _ h => absurd h List.not_mem_nil⟩⟩⟩⟩⟩⟩⟩⟩
theorem zt_e9 : u_ws RX9 TX9 6 = [Cond.laysFinal "StemMill$Stem" "StemMill$Stem" "last" "I", Cond.laysFinal "StemMill$Stem" "StemMill$Stem" "diameters" "[I", Cond.laysFinal "StemMill$Stem" "StemMill$Stem" "grades" "[I", Cond.lays "StemMill$Stem" "StemMill$Stem" "defects" "I", Cond.laysFinal "StemMill$Stem" "StemMill$Stem" "tops" "[I", Cond.laysFinal "StemMill$Stem" "StemMill$Stem" "worst" "[I"] := by decide +kernel
theorem zt_inX9 : ∀ w ∈ u_ws RX9 TX9 6, w ∈ zt_W := by
  rw [zt_e9]
  exact List.forall_mem_cons.mpr ⟨(zt_mem 104 (by decide +kernel) rfl), List.forall_mem_cons.mpr ⟨(zt_mem 106 (by decide +kernel) rfl), List.forall_mem_cons.mpr ⟨(zt_mem 108 (by decide +kernel) rfl), List.forall_mem_cons.mpr ⟨(zt_mem 110 (by decide +kernel) rfl), List.forall_mem_cons.mpr ⟨(zt_mem 112 (by decide +kernel) rfl), List.forall_mem_cons.mpr ⟨(zt_mem 114 (by decide +kernel) rfl), fun _ h => absurd h List.not_mem_nil⟩⟩⟩⟩⟩⟩
theorem zt_e10 : u_ws RX10 TX10 6 = [Cond.laysFinal "StemMill" "StemMill" "bucking" "LStemMill$Bucking;", Cond.laysFinal "StemMill" "StemMill" "stem" "LStemMill$Stem;", Cond.laysFinal "StemMill" "StemMill" "kinds" "[LStemMill$LogKind;", Cond.laysFinal "StemMill" "StemMill" "sawing" "LStemMill$Sawing;", Cond.laysFinal "StemMill" "StemMill" "sizes" "[LStemMill$BoardSize;", Cond.laysFinal "StemMill" "StemMill" "orders" "LStemMill$Orders;"] := by decide +kernel
theorem zt_inX10 : ∀ w ∈ u_ws RX10 TX10 6, w ∈ zt_W := by
  rw [zt_e10]
  exact List.forall_mem_cons.mpr ⟨(zt_mem 315 (by decide +kernel) rfl), List.forall_mem_cons.mpr ⟨(zt_mem 317 (by decide +kernel) rfl), List.forall_mem_cons.mpr ⟨(zt_mem 319 (by decide +kernel) rfl), List.forall_mem_cons.mpr ⟨(zt_mem 321 (by decide +kernel) rfl), List.forall_mem_cons.mpr ⟨(zt_mem 323 (by decide +kernel) rfl), List.forall_mem_cons.mpr ⟨(zt_mem 325 (by decide +kernel) rfl), fun _ h => absurd h List.not_mem_nil⟩⟩⟩⟩⟩⟩
theorem zt_e11 : u_ws RX11 TX11 29 = [Cond.lays "StemMillModel" "StemMillModel" "thrown" "I", Cond.laysFinal "StemMillModel" "StemMillModel" "last" "I", Cond.laysFinal "StemMillModel" "StemMillModel" "diameters" "[I", Cond.lays "StemMillModel" "StemMillModel" "defects" "I", Cond.laysFinal "StemMillModel" "StemMillModel" "defectFrom" "[I", Cond.laysFinal "StemMillModel" "StemMillModel" "defectTo" "[I", Cond.laysFinal "StemMillModel" "StemMillModel" "defectGrade" "[I", Cond.laysFinal "StemMillModel" "StemMillModel" "kindLength" "[I", Cond.laysFinal "StemMillModel" "StemMillModel" "kindTop" "[I", Cond.laysFinal "StemMillModel" "StemMillModel" "kindPrice" "[I", Cond.lays "StemMillModel" "StemMillModel" "logs" "I", Cond.laysFinal "StemMillModel" "StemMillModel" "logPart" "[I", Cond.laysFinal "StemMillModel" "StemMillModel" "thick" "[I", Cond.laysFinal "StemMillModel" "StemMillModel" "wide" "[I", Cond.laysFinal "StemMillModel" "StemMillModel" "boardPrices" "[I", Cond.laysFinal "StemMillModel" "StemMillModel" "needs" "[I", Cond.laysFinal "StemMillModel" "StemMillModel" "heights" "[I", Cond.lays "StemMillModel" "StemMillModel" "kerf" "I", Cond.laysFinal "StemMillModel" "StemMillModel" "shortage" "[I", Cond.laysFinal "StemMillModel" "StemMillModel" "addition" "[I", Cond.lays "StemMillModel" "StemMillModel" "boards" "I", Cond.lays "StemMillModel" "StemMillModel" "cant" "I", Cond.laysFinal "StemMillModel" "StemMillModel" "board" "[I", Cond.laysFinal "StemMillModel" "StemMillModel" "price" "[I", Cond.laysFinal "StemMillModel" "StemMillModel" "row" "[I", Cond.laysFinal "StemMillModel" "StemMillModel" "stack" "[I", Cond.laysFinal "StemMillModel" "StemMillModel" "best" "[I", Cond.laysFinal "StemMillModel" "StemMillModel" "value" "[I", Cond.laysFinal "StemMillModel" "StemMillModel" "leads" "[Z"] := by decide +kernel
theorem zt_inX11 : ∀ w ∈ u_ws RX11 TX11 29, w ∈ zt_W := by
  rw [zt_e11]
  exact List.forall_mem_cons.mpr ⟨(zt_mem 694 (by decide +kernel) rfl), List.forall_mem_cons.mpr ⟨(zt_mem 696 (by decide +kernel) rfl), List.forall_mem_cons.mpr ⟨(zt_mem 698 (by decide +kernel) rfl), List.forall_mem_cons.mpr ⟨(zt_mem 700 (by decide +kernel) rfl), List.forall_mem_cons.mpr ⟨(zt_mem 702 (by decide +kernel) rfl), List.forall_mem_cons.mpr ⟨(zt_mem 704 (by decide +kernel) rfl), List.forall_mem_cons.mpr ⟨(zt_mem 706 (by decide +kernel) rfl), List.forall_mem_cons.mpr ⟨(zt_mem 708 (by decide +kernel) rfl), List.forall_mem_cons.mpr ⟨(zt_mem 710 (by decide +kernel) rfl), List.forall_mem_cons.mpr ⟨(zt_mem 712 (by decide +kernel) rfl), List.forall_mem_cons.mpr ⟨(zt_mem 714 (by decide +kernel) rfl), List.forall_mem_cons.mpr ⟨(zt_mem 716 (by decide +kernel) rfl), List.forall_mem_cons.mpr ⟨(zt_mem 718 (by decide +kernel) rfl), List.forall_mem_cons.mpr ⟨(zt_mem 720 (by decide +kernel) rfl), List.forall_mem_cons.mpr ⟨(zt_mem 722 (by decide +kernel) rfl), List.forall_mem_cons.mpr ⟨(zt_mem 724 (by decide +kernel) rfl), List.forall_mem_cons.mpr ⟨(zt_mem 726 (by decide +kernel) rfl), List.forall_mem_cons.mpr ⟨(zt_mem 728 (by decide +kernel) rfl), List.forall_mem_cons.mpr ⟨(zt_mem 730 (by decide +kernel) rfl), List.forall_mem_cons.mpr ⟨(zt_mem 732 (by decide +kernel) rfl), List.forall_mem_cons.mpr ⟨(zt_mem 734 (by decide +kernel) rfl), List.forall_mem_cons.mpr ⟨(zt_mem 736 (by decide +kernel) rfl), List.forall_mem_cons.mpr ⟨(zt_mem 738 (by decide +kernel) rfl), List.forall_mem_cons.mpr ⟨(zt_mem 740 (by decide +kernel) rfl), List.forall_mem_cons.mpr ⟨(zt_mem 742 (by decide +kernel) rfl), List.forall_mem_cons.mpr ⟨(zt_mem 744 (by decide +kernel) rfl), List.forall_mem_cons.mpr ⟨(zt_mem 746 (by decide +kernel) rfl), List.forall_mem_cons.mpr ⟨(zt_mem 748 (by decide +kernel) rfl), List.forall_mem_cons.mpr ⟨(zt_mem 750 (by decide +kernel) rfl), fun _ h => absurd h List.not_mem_nil⟩⟩⟩⟩⟩⟩⟩⟩⟩⟩⟩⟩⟩⟩⟩⟩⟩⟩⟩⟩⟩⟩⟩⟩⟩⟩⟩⟩⟩
end
section
theorem dX0_init_0 : decode cX0_init 0 = .ok (.aload_n 0, 1) := by decide +kernel
theorem dX0_init_1 : decode cX0_init 1 = .ok (.invokespecial 3, 3) := by decide +kernel
theorem dX0_init_4 : decode cX0_init 4 = .ok (.aload_n 0, 1) := by decide +kernel
theorem dX0_init_5 : decode cX0_init 5 = .ok (.iconst 3, 1) := by decide +kernel
theorem dX0_init_6 : decode cX0_init 6 = .ok (.newarray .int, 2) := by decide +kernel
theorem dX0_init_8 : decode cX0_init 8 = .ok (.putfield 9, 3) := by decide +kernel
theorem dX0_init_11 : decode cX0_init 11 = .ok (.return_, 1) := by decide +kernel
theorem dX0_isTold_0 : decode cX0_isTold 0 = .ok (.aload_n 0, 1) := by decide +kernel
theorem dX0_isTold_1 : decode cX0_isTold 1 = .ok (.getfield 15, 3) := by decide +kernel
theorem dX0_isTold_4 : decode cX0_isTold 4 = .ok (.ifCond .le 7, 3) := by decide +kernel
theorem dX0_isTold_7 : decode cX0_isTold 7 = .ok (.iconst 1, 1) := by decide +kernel
theorem dX0_isTold_8 : decode cX0_isTold 8 = .ok (.goto 4, 3) := by decide +kernel
theorem dX0_isTold_11 : decode cX0_isTold 11 = .ok (.iconst 0, 1) := by decide +kernel
theorem dX0_isTold_12 : decode cX0_isTold 12 = .ok (.ireturn, 1) := by decide +kernel
theorem dX0_become_0 : decode cX0_become 0 = .ok (.aload_n 0, 1) := by decide +kernel
theorem dX0_become_1 : decode cX0_become 1 = .ok (.iload_n 1, 1) := by decide +kernel
theorem dX0_become_2 : decode cX0_become 2 = .ok (.putfield 15, 3) := by decide +kernel
theorem dX0_become_5 : decode cX0_become 5 = .ok (.aload_n 0, 1) := by decide +kernel
theorem dX0_become_6 : decode cX0_become 6 = .ok (.iload_n 2, 1) := by decide +kernel
theorem dX0_become_7 : decode cX0_become 7 = .ok (.putfield 19, 3) := by decide +kernel
theorem dX0_become_10 : decode cX0_become 10 = .ok (.aload_n 0, 1) := by decide +kernel
theorem dX0_become_11 : decode cX0_become 11 = .ok (.getfield 9, 3) := by decide +kernel
theorem dX0_become_14 : decode cX0_become 14 = .ok (.iconst 0, 1) := by decide +kernel
theorem dX0_become_15 : decode cX0_become 15 = .ok (.invokestatic 22, 3) := by decide +kernel
theorem dX0_become_18 : decode cX0_become 18 = .ok (.return_, 1) := by decide +kernel
theorem dX1_init_0 : decode cX1_init 0 = .ok (.aload_n 0, 1) := by decide +kernel
theorem dX1_init_1 : decode cX1_init 1 = .ok (.invokespecial 3, 3) := by decide +kernel
theorem dX1_init_4 : decode cX1_init 4 = .ok (.aload_n 0, 1) := by decide +kernel
theorem dX1_init_5 : decode cX1_init 5 = .ok (.bipush 6, 2) := by decide +kernel
theorem dX1_init_7 : decode cX1_init 7 = .ok (.anewarray 9, 3) := by decide +kernel
theorem dX1_init_10 : decode cX1_init 10 = .ok (.putfield 11, 3) := by decide +kernel
theorem dX1_init_13 : decode cX1_init 13 = .ok (.aload_n 0, 1) := by decide +kernel
theorem dX1_init_14 : decode cX1_init 14 = .ok (.new 17, 3) := by decide +kernel
theorem dX1_init_17 : decode cX1_init 17 = .ok (.dup, 1) := by decide +kernel
theorem dX1_init_18 : decode cX1_init 18 = .ok (.invokespecial 19, 3) := by decide +kernel
theorem dX1_init_21 : decode cX1_init 21 = .ok (.putfield 20, 3) := by decide +kernel
theorem dX1_init_24 : decode cX1_init 24 = .ok (.aload_n 0, 1) := by decide +kernel
theorem dX1_init_25 : decode cX1_init 25 = .ok (.new 17, 3) := by decide +kernel
theorem dX1_init_28 : decode cX1_init 28 = .ok (.dup, 1) := by decide +kernel
theorem dX1_init_29 : decode cX1_init 29 = .ok (.invokespecial 19, 3) := by decide +kernel
theorem dX1_init_32 : decode cX1_init 32 = .ok (.putfield 24, 3) := by decide +kernel
theorem dX1_init_35 : decode cX1_init 35 = .ok (.aload_n 0, 1) := by decide +kernel
theorem dX1_init_36 : decode cX1_init 36 = .ok (.new 27, 3) := by decide +kernel
theorem dX1_init_39 : decode cX1_init 39 = .ok (.dup, 1) := by decide +kernel
theorem dX1_init_40 : decode cX1_init 40 = .ok (.iload_n 1, 1) := by decide +kernel
theorem dX1_init_41 : decode cX1_init 41 = .ok (.invokespecial 29, 3) := by decide +kernel
theorem dX1_init_44 : decode cX1_init 44 = .ok (.putfield 32, 3) := by decide +kernel
theorem dX1_init_47 : decode cX1_init 47 = .ok (.aload_n 0, 1) := by decide +kernel
theorem dX1_init_48 : decode cX1_init 48 = .ok (.iload_n 1, 1) := by decide +kernel
theorem dX1_init_49 : decode cX1_init 49 = .ok (.iconst 2, 1) := by decide +kernel
theorem dX1_init_50 : decode cX1_init 50 = .ok (.iadd, 1) := by decide +kernel
theorem dX1_init_51 : decode cX1_init 51 = .ok (.newarray .int, 2) := by decide +kernel
theorem dX1_init_53 : decode cX1_init 53 = .ok (.putfield 36, 3) := by decide +kernel
theorem dX1_init_56 : decode cX1_init 56 = .ok (.aload_n 0, 1) := by decide +kernel
theorem dX1_init_57 : decode cX1_init 57 = .ok (.iload_n 1, 1) := by decide +kernel
theorem dX1_init_58 : decode cX1_init 58 = .ok (.iconst 1, 1) := by decide +kernel
theorem dX1_init_59 : decode cX1_init 59 = .ok (.iadd, 1) := by decide +kernel
theorem dX1_init_60 : decode cX1_init 60 = .ok (.newarray .int, 2) := by decide +kernel
theorem dX1_init_62 : decode cX1_init 62 = .ok (.putfield 40, 3) := by decide +kernel
theorem dX1_init_65 : decode cX1_init 65 = .ok (.iconst 0, 1) := by decide +kernel
theorem dX1_init_66 : decode cX1_init 66 = .ok (.istore_n 2, 1) := by decide +kernel
theorem dX1_init_67 : decode cX1_init 67 = .ok (.iload_n 2, 1) := by decide +kernel
theorem dX1_init_68 : decode cX1_init 68 = .ok (.bipush 6, 2) := by decide +kernel
theorem dX1_init_70 : decode cX1_init 70 = .ok (.if_icmp .ge 22, 3) := by decide +kernel
theorem dX1_init_73 : decode cX1_init 73 = .ok (.aload_n 0, 1) := by decide +kernel
theorem dX1_init_74 : decode cX1_init 74 = .ok (.getfield 11, 3) := by decide +kernel
theorem dX1_init_77 : decode cX1_init 77 = .ok (.iload_n 2, 1) := by decide +kernel
theorem dX1_init_78 : decode cX1_init 78 = .ok (.new 9, 3) := by decide +kernel
theorem dX1_init_81 : decode cX1_init 81 = .ok (.dup, 1) := by decide +kernel
theorem dX1_init_82 : decode cX1_init 82 = .ok (.invokespecial 43, 3) := by decide +kernel
theorem dX1_init_85 : decode cX1_init 85 = .ok (.aastore, 1) := by decide +kernel
theorem dX1_init_86 : decode cX1_init 86 = .ok (.iinc 2 1, 3) := by decide +kernel
theorem dX1_init_89 : decode cX1_init 89 = .ok (.goto (-22), 3) := by decide +kernel
theorem dX1_init_92 : decode cX1_init 92 = .ok (.return_, 1) := by decide +kernel
theorem dX1_cutBest_0 : decode cX1_cutBest 0 = .ok (.aload_n 0, 1) := by decide +kernel
theorem dX1_cutBest_1 : decode cX1_cutBest 1 = .ok (.getfield 32, 3) := by decide +kernel
theorem dX1_cutBest_4 : decode cX1_cutBest 4 = .ok (.getfield 44, 3) := by decide +kernel
theorem dX1_cutBest_7 : decode cX1_cutBest 7 = .ok (.istore_n 1, 1) := by decide +kernel
theorem dX1_cutBest_8 : decode cX1_cutBest 8 = .ok (.iload_n 1, 1) := by decide +kernel
theorem dX1_cutBest_9 : decode cX1_cutBest 9 = .ok (.ifCond .lt 14, 3) := by decide +kernel
theorem dX1_cutBest_12 : decode cX1_cutBest 12 = .ok (.aload_n 0, 1) := by decide +kernel
theorem dX1_cutBest_13 : decode cX1_cutBest 13 = .ok (.iload_n 1, 1) := by decide +kernel
theorem dX1_cutBest_14 : decode cX1_cutBest 14 = .ok (.invokevirtual 48, 3) := by decide +kernel
theorem dX1_cutBest_17 : decode cX1_cutBest 17 = .ok (.iinc 1 (-1), 3) := by decide +kernel
theorem dX1_cutBest_20 : decode cX1_cutBest 20 = .ok (.goto (-12), 3) := by decide +kernel
theorem dX1_cutBest_23 : decode cX1_cutBest 23 = .ok (.aload_n 0, 1) := by decide +kernel
theorem dX1_cutBest_24 : decode cX1_cutBest 24 = .ok (.getfield 24, 3) := by decide +kernel
theorem dX1_cutBest_27 : decode cX1_cutBest 27 = .ok (.invokevirtual 51, 3) := by decide +kernel
theorem dX1_cutBest_30 : decode cX1_cutBest 30 = .ok (.iconst 0, 1) := by decide +kernel
theorem dX1_cutBest_31 : decode cX1_cutBest 31 = .ok (.istore_n 1, 1) := by decide +kernel
theorem dX1_cutBest_32 : decode cX1_cutBest 32 = .ok (.iconst 0, 1) := by decide +kernel
theorem dX1_cutBest_33 : decode cX1_cutBest 33 = .ok (.istore_n 2, 1) := by decide +kernel
theorem dX1_cutBest_34 : decode cX1_cutBest 34 = .ok (.iload_n 2, 1) := by decide +kernel
theorem dX1_cutBest_35 : decode cX1_cutBest 35 = .ok (.aload_n 0, 1) := by decide +kernel
theorem dX1_cutBest_36 : decode cX1_cutBest 36 = .ok (.getfield 32, 3) := by decide +kernel
theorem dX1_cutBest_39 : decode cX1_cutBest 39 = .ok (.getfield 44, 3) := by decide +kernel
theorem dX1_cutBest_42 : decode cX1_cutBest 42 = .ok (.if_icmp .gt 57, 3) := by decide +kernel
theorem dX1_cutBest_45 : decode cX1_cutBest 45 = .ok (.iload_n 2, 1) := by decide +kernel
theorem dX1_cutBest_46 : decode cX1_cutBest 46 = .ok (.iload_n 1, 1) := by decide +kernel
theorem dX1_cutBest_47 : decode cX1_cutBest 47 = .ok (.if_icmp .lt 46, 3) := by decide +kernel
theorem dX1_cutBest_50 : decode cX1_cutBest 50 = .ok (.aload_n 0, 1) := by decide +kernel
theorem dX1_cutBest_51 : decode cX1_cutBest 51 = .ok (.getfield 40, 3) := by decide +kernel
theorem dX1_cutBest_54 : decode cX1_cutBest 54 = .ok (.iload_n 2, 1) := by decide +kernel
theorem dX1_cutBest_55 : decode cX1_cutBest 55 = .ok (.iaload, 1) := by decide +kernel
theorem dX1_cutBest_56 : decode cX1_cutBest 56 = .ok (.iconst (-1), 1) := by decide +kernel
theorem dX1_cutBest_57 : decode cX1_cutBest 57 = .ok (.if_icmp .eq 36, 3) := by decide +kernel
theorem dX1_cutBest_60 : decode cX1_cutBest 60 = .ok (.aload_n 0, 1) := by decide +kernel
theorem dX1_cutBest_61 : decode cX1_cutBest 61 = .ok (.aload_n 0, 1) := by decide +kernel
theorem dX1_cutBest_62 : decode cX1_cutBest 62 = .ok (.getfield 40, 3) := by decide +kernel
theorem dX1_cutBest_65 : decode cX1_cutBest 65 = .ok (.iload_n 2, 1) := by decide +kernel
theorem dX1_cutBest_66 : decode cX1_cutBest 66 = .ok (.iaload, 1) := by decide +kernel
theorem dX1_cutBest_67 : decode cX1_cutBest 67 = .ok (.iload_n 2, 1) := by decide +kernel
theorem dX1_cutBest_68 : decode cX1_cutBest 68 = .ok (.invokevirtual 54, 3) := by decide +kernel
theorem dX1_cutBest_71 : decode cX1_cutBest 71 = .ok (.ifCond .eq 22, 3) := by decide +kernel
theorem dX1_cutBest_74 : decode cX1_cutBest 74 = .ok (.iload_n 2, 1) := by decide +kernel
theorem dX1_cutBest_75 : decode cX1_cutBest 75 = .ok (.aload_n 0, 1) := by decide +kernel
theorem dX1_cutBest_76 : decode cX1_cutBest 76 = .ok (.getfield 11, 3) := by decide +kernel
theorem dX1_cutBest_79 : decode cX1_cutBest 79 = .ok (.aload_n 0, 1) := by decide +kernel
theorem dX1_cutBest_80 : decode cX1_cutBest 80 = .ok (.getfield 40, 3) := by decide +kernel
theorem dX1_cutBest_83 : decode cX1_cutBest 83 = .ok (.iload_n 2, 1) := by decide +kernel
theorem dX1_cutBest_84 : decode cX1_cutBest 84 = .ok (.iaload, 1) := by decide +kernel
theorem dX1_cutBest_85 : decode cX1_cutBest 85 = .ok (.aaload, 1) := by decide +kernel
theorem dX1_cutBest_86 : decode cX1_cutBest 86 = .ok (.getfield 58, 3) := by decide +kernel
theorem dX1_cutBest_89 : decode cX1_cutBest 89 = .ok (.iadd, 1) := by decide +kernel
theorem dX1_cutBest_90 : decode cX1_cutBest 90 = .ok (.iconst 1, 1) := by decide +kernel
theorem dX1_cutBest_91 : decode cX1_cutBest 91 = .ok (.iadd, 1) := by decide +kernel
theorem dX1_cutBest_92 : decode cX1_cutBest 92 = .ok (.istore_n 1, 1) := by decide +kernel
theorem dX1_cutBest_93 : decode cX1_cutBest 93 = .ok (.iinc 2 1, 3) := by decide +kernel
theorem dX1_cutBest_96 : decode cX1_cutBest 96 = .ok (.goto (-62), 3) := by decide +kernel
theorem dX1_cutBest_99 : decode cX1_cutBest 99 = .ok (.aload_n 0, 1) := by decide +kernel
theorem dX1_cutBest_100 : decode cX1_cutBest 100 = .ok (.invokevirtual 61, 3) := by decide +kernel
theorem dX1_cutBest_103 : decode cX1_cutBest 103 = .ok (.ireturn, 1) := by decide +kernel
theorem dX1_choose_0 : decode cX1_choose 0 = .ok (.aload_n 0, 1) := by decide +kernel
theorem dX1_choose_1 : decode cX1_choose 1 = .ok (.getfield 32, 3) := by decide +kernel
theorem dX1_choose_4 : decode cX1_choose 4 = .ok (.iload_n 1, 1) := by decide +kernel
theorem dX1_choose_5 : decode cX1_choose 5 = .ok (.invokevirtual 65, 3) := by decide +kernel
theorem dX1_choose_8 : decode cX1_choose 8 = .ok (.aload_n 0, 1) := by decide +kernel
theorem dX1_choose_9 : decode cX1_choose 9 = .ok (.getfield 36, 3) := by decide +kernel
theorem dX1_choose_12 : decode cX1_choose 12 = .ok (.iload_n 1, 1) := by decide +kernel
theorem dX1_choose_13 : decode cX1_choose 13 = .ok (.aload_n 0, 1) := by decide +kernel
theorem dX1_choose_14 : decode cX1_choose 14 = .ok (.getfield 36, 3) := by decide +kernel
theorem dX1_choose_17 : decode cX1_choose 17 = .ok (.iload_n 1, 1) := by decide +kernel
theorem dX1_choose_18 : decode cX1_choose 18 = .ok (.iconst 1, 1) := by decide +kernel
theorem dX1_choose_19 : decode cX1_choose 19 = .ok (.iadd, 1) := by decide +kernel
theorem dX1_choose_20 : decode cX1_choose 20 = .ok (.iaload, 1) := by decide +kernel
theorem dX1_choose_21 : decode cX1_choose 21 = .ok (.iastore, 1) := by decide +kernel
theorem dX1_choose_22 : decode cX1_choose 22 = .ok (.aload_n 0, 1) := by decide +kernel
theorem dX1_choose_23 : decode cX1_choose 23 = .ok (.getfield 40, 3) := by decide +kernel
theorem dX1_choose_26 : decode cX1_choose 26 = .ok (.iload_n 1, 1) := by decide +kernel
theorem dX1_choose_27 : decode cX1_choose 27 = .ok (.iconst (-1), 1) := by decide +kernel
theorem dX1_choose_28 : decode cX1_choose 28 = .ok (.iastore, 1) := by decide +kernel
theorem dX1_choose_29 : decode cX1_choose 29 = .ok (.iconst 0, 1) := by decide +kernel
theorem dX1_choose_30 : decode cX1_choose 30 = .ok (.istore_n 2, 1) := by decide +kernel
theorem dX1_choose_31 : decode cX1_choose 31 = .ok (.iload_n 2, 1) := by decide +kernel
theorem dX1_choose_32 : decode cX1_choose 32 = .ok (.bipush 6, 2) := by decide +kernel
theorem dX1_choose_34 : decode cX1_choose 34 = .ok (.if_icmp .ge 77, 3) := by decide +kernel
theorem dX1_choose_37 : decode cX1_choose 37 = .ok (.aload_n 0, 1) := by decide +kernel
theorem dX1_choose_38 : decode cX1_choose 38 = .ok (.iload_n 1, 1) := by decide +kernel
theorem dX1_choose_39 : decode cX1_choose 39 = .ok (.aload_n 0, 1) := by decide +kernel
theorem dX1_choose_40 : decode cX1_choose 40 = .ok (.getfield 11, 3) := by decide +kernel
theorem dX1_choose_43 : decode cX1_choose 43 = .ok (.iload_n 2, 1) := by decide +kernel
theorem dX1_choose_44 : decode cX1_choose 44 = .ok (.aaload, 1) := by decide +kernel
theorem dX1_choose_45 : decode cX1_choose 45 = .ok (.invokevirtual 68, 3) := by decide +kernel
theorem dX1_choose_48 : decode cX1_choose 48 = .ok (.istore_n 3, 1) := by decide +kernel
theorem dX1_choose_49 : decode cX1_choose 49 = .ok (.iload_n 3, 1) := by decide +kernel
theorem dX1_choose_50 : decode cX1_choose 50 = .ok (.iconst (-1), 1) := by decide +kernel
theorem dX1_choose_51 : decode cX1_choose 51 = .ok (.if_icmp .ne 6, 3) := by decide +kernel
theorem dX1_choose_54 : decode cX1_choose 54 = .ok (.goto 51, 3) := by decide +kernel
theorem dX1_choose_57 : decode cX1_choose 57 = .ok (.iload_n 3, 1) := by decide +kernel
theorem dX1_choose_58 : decode cX1_choose 58 = .ok (.aload_n 0, 1) := by decide +kernel
theorem dX1_choose_59 : decode cX1_choose 59 = .ok (.getfield 36, 3) := by decide +kernel
theorem dX1_choose_62 : decode cX1_choose 62 = .ok (.iload_n 1, 1) := by decide +kernel
theorem dX1_choose_63 : decode cX1_choose 63 = .ok (.aload_n 0, 1) := by decide +kernel
theorem dX1_choose_64 : decode cX1_choose 64 = .ok (.getfield 11, 3) := by decide +kernel
theorem dX1_choose_67 : decode cX1_choose 67 = .ok (.iload_n 2, 1) := by decide +kernel
theorem dX1_choose_68 : decode cX1_choose 68 = .ok (.aaload, 1) := by decide +kernel
theorem dX1_choose_69 : decode cX1_choose 69 = .ok (.getfield 58, 3) := by decide +kernel
theorem dX1_choose_72 : decode cX1_choose 72 = .ok (.iadd, 1) := by decide +kernel
theorem dX1_choose_73 : decode cX1_choose 73 = .ok (.iconst 1, 1) := by decide +kernel
theorem dX1_choose_74 : decode cX1_choose 74 = .ok (.iadd, 1) := by decide +kernel
theorem dX1_choose_75 : decode cX1_choose 75 = .ok (.iaload, 1) := by decide +kernel
theorem dX1_choose_76 : decode cX1_choose 76 = .ok (.iadd, 1) := by decide +kernel
theorem dX1_choose_77 : decode cX1_choose 77 = .ok (.istore 4, 2) := by decide +kernel
theorem dX1_choose_79 : decode cX1_choose 79 = .ok (.iload 4, 2) := by decide +kernel
theorem dX1_choose_81 : decode cX1_choose 81 = .ok (.aload_n 0, 1) := by decide +kernel
theorem dX1_choose_82 : decode cX1_choose 82 = .ok (.getfield 36, 3) := by decide +kernel
theorem dX1_choose_85 : decode cX1_choose 85 = .ok (.iload_n 1, 1) := by decide +kernel
theorem dX1_choose_86 : decode cX1_choose 86 = .ok (.iaload, 1) := by decide +kernel
theorem dX1_choose_87 : decode cX1_choose 87 = .ok (.if_icmp .le 18, 3) := by decide +kernel
theorem dX1_choose_90 : decode cX1_choose 90 = .ok (.aload_n 0, 1) := by decide +kernel
theorem dX1_choose_91 : decode cX1_choose 91 = .ok (.getfield 36, 3) := by decide +kernel
theorem dX1_choose_94 : decode cX1_choose 94 = .ok (.iload_n 1, 1) := by decide +kernel
theorem dX1_choose_95 : decode cX1_choose 95 = .ok (.iload 4, 2) := by decide +kernel
theorem dX1_choose_97 : decode cX1_choose 97 = .ok (.iastore, 1) := by decide +kernel
theorem dX1_choose_98 : decode cX1_choose 98 = .ok (.aload_n 0, 1) := by decide +kernel
theorem dX1_choose_99 : decode cX1_choose 99 = .ok (.getfield 40, 3) := by decide +kernel
theorem dX1_choose_102 : decode cX1_choose 102 = .ok (.iload_n 1, 1) := by decide +kernel
theorem dX1_choose_103 : decode cX1_choose 103 = .ok (.iload_n 2, 1) := by decide +kernel
theorem dX1_choose_104 : decode cX1_choose 104 = .ok (.iastore, 1) := by decide +kernel
theorem dX1_choose_105 : decode cX1_choose 105 = .ok (.iinc 2 1, 3) := by decide +kernel
theorem dX1_choose_108 : decode cX1_choose 108 = .ok (.goto (-77), 3) := by decide +kernel
theorem dX1_choose_111 : decode cX1_choose 111 = .ok (.return_, 1) := by decide +kernel
theorem dX1_cutAsTold_0 : decode cX1_cutAsTold 0 = .ok (.aload_n 0, 1) := by decide +kernel
theorem dX1_cutAsTold_1 : decode cX1_cutAsTold 1 = .ok (.getfield 24, 3) := by decide +kernel
theorem dX1_cutAsTold_4 : decode cX1_cutAsTold 4 = .ok (.invokevirtual 51, 3) := by decide +kernel
theorem dX1_cutAsTold_7 : decode cX1_cutAsTold 7 = .ok (.iconst 0, 1) := by decide +kernel
theorem dX1_cutAsTold_8 : decode cX1_cutAsTold 8 = .ok (.istore_n 3, 1) := by decide +kernel
theorem dX1_cutAsTold_9 : decode cX1_cutAsTold 9 = .ok (.iconst 0, 1) := by decide +kernel
theorem dX1_cutAsTold_10 : decode cX1_cutAsTold 10 = .ok (.istore 4, 2) := by decide +kernel
theorem dX1_cutAsTold_12 : decode cX1_cutAsTold 12 = .ok (.iload 4, 2) := by decide +kernel
theorem dX1_cutAsTold_14 : decode cX1_cutAsTold 14 = .ok (.bipush 64, 2) := by decide +kernel
theorem dX1_cutAsTold_16 : decode cX1_cutAsTold 16 = .ok (.if_icmp .ge 77, 3) := by decide +kernel
theorem dX1_cutAsTold_19 : decode cX1_cutAsTold 19 = .ok (.lload_n 1, 1) := by decide +kernel
theorem dX1_cutAsTold_20 : decode cX1_cutAsTold 20 = .ok (.iload 4, 2) := by decide +kernel
theorem dX1_cutAsTold_22 : decode cX1_cutAsTold 22 = .ok (.lushr, 1) := by decide +kernel
theorem dX1_cutAsTold_23 : decode cX1_cutAsTold 23 = .ok (.l2i, 1) := by decide +kernel
theorem dX1_cutAsTold_24 : decode cX1_cutAsTold 24 = .ok (.sipush 255, 3) := by decide +kernel
theorem dX1_cutAsTold_27 : decode cX1_cutAsTold 27 = .ok (.iand, 1) := by decide +kernel
theorem dX1_cutAsTold_28 : decode cX1_cutAsTold 28 = .ok (.istore 5, 2) := by decide +kernel
theorem dX1_cutAsTold_30 : decode cX1_cutAsTold 30 = .ok (.iload 5, 2) := by decide +kernel
theorem dX1_cutAsTold_32 : decode cX1_cutAsTold 32 = .ok (.ifCond .ne 6, 3) := by decide +kernel
theorem dX1_cutAsTold_35 : decode cX1_cutAsTold 35 = .ok (.goto 52, 3) := by decide +kernel
theorem dX1_cutAsTold_38 : decode cX1_cutAsTold 38 = .ok (.iload 5, 2) := by decide +kernel
theorem dX1_cutAsTold_40 : decode cX1_cutAsTold 40 = .ok (.iconst 1, 1) := by decide +kernel
theorem dX1_cutAsTold_41 : decode cX1_cutAsTold 41 = .ok (.isub, 1) := by decide +kernel
theorem dX1_cutAsTold_42 : decode cX1_cutAsTold 42 = .ok (.bipush 6, 2) := by decide +kernel
theorem dX1_cutAsTold_44 : decode cX1_cutAsTold 44 = .ok (.irem, 1) := by decide +kernel
theorem dX1_cutAsTold_45 : decode cX1_cutAsTold 45 = .ok (.istore 6, 2) := by decide +kernel
theorem dX1_cutAsTold_47 : decode cX1_cutAsTold 47 = .ok (.iload_n 3, 1) := by decide +kernel
theorem dX1_cutAsTold_48 : decode cX1_cutAsTold 48 = .ok (.iload 5, 2) := by decide +kernel
theorem dX1_cutAsTold_50 : decode cX1_cutAsTold 50 = .ok (.iconst 1, 1) := by decide +kernel
theorem dX1_cutAsTold_51 : decode cX1_cutAsTold 51 = .ok (.isub, 1) := by decide +kernel
theorem dX1_cutAsTold_52 : decode cX1_cutAsTold 52 = .ok (.bipush 6, 2) := by decide +kernel
theorem dX1_cutAsTold_54 : decode cX1_cutAsTold 54 = .ok (.idiv, 1) := by decide +kernel
theorem dX1_cutAsTold_55 : decode cX1_cutAsTold 55 = .ok (.iadd, 1) := by decide +kernel
theorem dX1_cutAsTold_56 : decode cX1_cutAsTold 56 = .ok (.istore 7, 2) := by decide +kernel
theorem dX1_cutAsTold_58 : decode cX1_cutAsTold 58 = .ok (.aload_n 0, 1) := by decide +kernel
theorem dX1_cutAsTold_59 : decode cX1_cutAsTold 59 = .ok (.iload 6, 2) := by decide +kernel
theorem dX1_cutAsTold_61 : decode cX1_cutAsTold 61 = .ok (.iload 7, 2) := by decide +kernel
theorem dX1_cutAsTold_63 : decode cX1_cutAsTold 63 = .ok (.invokevirtual 54, 3) := by decide +kernel
theorem dX1_cutAsTold_66 : decode cX1_cutAsTold 66 = .ok (.ifCond .ne 5, 3) := by decide +kernel
theorem dX1_cutAsTold_69 : decode cX1_cutAsTold 69 = .ok (.iconst (-1), 1) := by decide +kernel
theorem dX1_cutAsTold_70 : decode cX1_cutAsTold 70 = .ok (.ireturn, 1) := by decide +kernel
theorem dX1_cutAsTold_71 : decode cX1_cutAsTold 71 = .ok (.iload 7, 2) := by decide +kernel
theorem dX1_cutAsTold_73 : decode cX1_cutAsTold 73 = .ok (.aload_n 0, 1) := by decide +kernel
theorem dX1_cutAsTold_74 : decode cX1_cutAsTold 74 = .ok (.getfield 11, 3) := by decide +kernel
theorem dX1_cutAsTold_77 : decode cX1_cutAsTold 77 = .ok (.iload 6, 2) := by decide +kernel
theorem dX1_cutAsTold_79 : decode cX1_cutAsTold 79 = .ok (.aaload, 1) := by decide +kernel
theorem dX1_cutAsTold_80 : decode cX1_cutAsTold 80 = .ok (.getfield 58, 3) := by decide +kernel
theorem dX1_cutAsTold_83 : decode cX1_cutAsTold 83 = .ok (.iadd, 1) := by decide +kernel
theorem dX1_cutAsTold_84 : decode cX1_cutAsTold 84 = .ok (.iconst 1, 1) := by decide +kernel
theorem dX1_cutAsTold_85 : decode cX1_cutAsTold 85 = .ok (.iadd, 1) := by decide +kernel
theorem dX1_cutAsTold_86 : decode cX1_cutAsTold 86 = .ok (.istore_n 3, 1) := by decide +kernel
theorem dX1_cutAsTold_87 : decode cX1_cutAsTold 87 = .ok (.iinc 4 8, 3) := by decide +kernel
theorem dX1_cutAsTold_90 : decode cX1_cutAsTold 90 = .ok (.goto (-78), 3) := by decide +kernel
theorem dX1_cutAsTold_93 : decode cX1_cutAsTold 93 = .ok (.aload_n 0, 1) := by decide +kernel
theorem dX1_cutAsTold_94 : decode cX1_cutAsTold 94 = .ok (.invokevirtual 61, 3) := by decide +kernel
theorem dX1_cutAsTold_97 : decode cX1_cutAsTold 97 = .ok (.ireturn, 1) := by decide +kernel
theorem dX1_addLog_0 : decode cX1_addLog 0 = .ok (.iload_n 2, 1) := by decide +kernel
theorem dX1_addLog_1 : decode cX1_addLog 1 = .ok (.aload_n 0, 1) := by decide +kernel
theorem dX1_addLog_2 : decode cX1_addLog 2 = .ok (.getfield 32, 3) := by decide +kernel
theorem dX1_addLog_5 : decode cX1_addLog 5 = .ok (.getfield 44, 3) := by decide +kernel
theorem dX1_addLog_8 : decode cX1_addLog 8 = .ok (.if_icmp .le 5, 3) := by decide +kernel
theorem dX1_addLog_11 : decode cX1_addLog 11 = .ok (.iconst 0, 1) := by decide +kernel
theorem dX1_addLog_12 : decode cX1_addLog 12 = .ok (.ireturn, 1) := by decide +kernel
theorem dX1_addLog_13 : decode cX1_addLog 13 = .ok (.aload_n 0, 1) := by decide +kernel
theorem dX1_addLog_14 : decode cX1_addLog 14 = .ok (.getfield 32, 3) := by decide +kernel
theorem dX1_addLog_17 : decode cX1_addLog 17 = .ok (.iload_n 2, 1) := by decide +kernel
theorem dX1_addLog_18 : decode cX1_addLog 18 = .ok (.invokevirtual 65, 3) := by decide +kernel
theorem dX1_addLog_21 : decode cX1_addLog 21 = .ok (.aload_n 0, 1) := by decide +kernel
theorem dX1_addLog_22 : decode cX1_addLog 22 = .ok (.iload_n 2, 1) := by decide +kernel
theorem dX1_addLog_23 : decode cX1_addLog 23 = .ok (.aload_n 0, 1) := by decide +kernel
theorem dX1_addLog_24 : decode cX1_addLog 24 = .ok (.getfield 11, 3) := by decide +kernel
theorem dX1_addLog_27 : decode cX1_addLog 27 = .ok (.iload_n 1, 1) := by decide +kernel
theorem dX1_addLog_28 : decode cX1_addLog 28 = .ok (.aaload, 1) := by decide +kernel
theorem dX1_addLog_29 : decode cX1_addLog 29 = .ok (.invokevirtual 68, 3) := by decide +kernel
theorem dX1_addLog_32 : decode cX1_addLog 32 = .ok (.istore_n 3, 1) := by decide +kernel
theorem dX1_addLog_33 : decode cX1_addLog 33 = .ok (.iload_n 3, 1) := by decide +kernel
theorem dX1_addLog_34 : decode cX1_addLog 34 = .ok (.iconst (-1), 1) := by decide +kernel
theorem dX1_addLog_35 : decode cX1_addLog 35 = .ok (.if_icmp .ne 5, 3) := by decide +kernel
theorem dX1_addLog_38 : decode cX1_addLog 38 = .ok (.iconst 0, 1) := by decide +kernel
theorem dX1_addLog_39 : decode cX1_addLog 39 = .ok (.ireturn, 1) := by decide +kernel
theorem dX1_addLog_40 : decode cX1_addLog 40 = .ok (.aload_n 0, 1) := by decide +kernel
theorem dX1_addLog_41 : decode cX1_addLog 41 = .ok (.getfield 11, 3) := by decide +kernel
theorem dX1_addLog_44 : decode cX1_addLog 44 = .ok (.iload_n 1, 1) := by decide +kernel
theorem dX1_addLog_45 : decode cX1_addLog 45 = .ok (.aaload, 1) := by decide +kernel
theorem dX1_addLog_46 : decode cX1_addLog 46 = .ok (.getfield 58, 3) := by decide +kernel
theorem dX1_addLog_49 : decode cX1_addLog 49 = .ok (.istore 4, 2) := by decide +kernel
theorem dX1_addLog_51 : decode cX1_addLog 51 = .ok (.aload_n 0, 1) := by decide +kernel
theorem dX1_addLog_52 : decode cX1_addLog 52 = .ok (.getfield 24, 3) := by decide +kernel
theorem dX1_addLog_55 : decode cX1_addLog 55 = .ok (.iload_n 2, 1) := by decide +kernel
theorem dX1_addLog_56 : decode cX1_addLog 56 = .ok (.iload_n 1, 1) := by decide +kernel
theorem dX1_addLog_57 : decode cX1_addLog 57 = .ok (.aload_n 0, 1) := by decide +kernel
theorem dX1_addLog_58 : decode cX1_addLog 58 = .ok (.getfield 32, 3) := by decide +kernel
theorem dX1_addLog_61 : decode cX1_addLog 61 = .ok (.getfield 72, 3) := by decide +kernel
theorem dX1_addLog_64 : decode cX1_addLog 64 = .ok (.iload 4, 2) := by decide +kernel
theorem dX1_addLog_66 : decode cX1_addLog 66 = .ok (.iaload, 1) := by decide +kernel
theorem dX1_addLog_67 : decode cX1_addLog 67 = .ok (.aload_n 0, 1) := by decide +kernel
theorem dX1_addLog_68 : decode cX1_addLog 68 = .ok (.getfield 32, 3) := by decide +kernel
theorem dX1_addLog_71 : decode cX1_addLog 71 = .ok (.getfield 75, 3) := by decide +kernel
theorem dX1_addLog_74 : decode cX1_addLog 74 = .ok (.iload 4, 2) := by decide +kernel
theorem dX1_addLog_76 : decode cX1_addLog 76 = .ok (.iaload, 1) := by decide +kernel
theorem dX1_addLog_77 : decode cX1_addLog 77 = .ok (.iload_n 3, 1) := by decide +kernel
theorem dX1_addLog_78 : decode cX1_addLog 78 = .ok (.invokevirtual 78, 3) := by decide +kernel
theorem dX1_addLog_81 : decode cX1_addLog 81 = .ok (.iconst 1, 1) := by decide +kernel
theorem dX1_addLog_82 : decode cX1_addLog 82 = .ok (.ireturn, 1) := by decide +kernel
theorem dX1_priceFrom_0 : decode cX1_priceFrom 0 = .ok (.aload_n 2, 1) := by decide +kernel
theorem dX1_priceFrom_1 : decode cX1_priceFrom 1 = .ok (.getfield 58, 3) := by decide +kernel
theorem dX1_priceFrom_4 : decode cX1_priceFrom 4 = .ok (.istore_n 3, 1) := by decide +kernel
theorem dX1_priceFrom_5 : decode cX1_priceFrom 5 = .ok (.aload_n 2, 1) := by decide +kernel
theorem dX1_priceFrom_6 : decode cX1_priceFrom 6 = .ok (.invokevirtual 82, 3) := by decide +kernel
theorem dX1_priceFrom_9 : decode cX1_priceFrom 9 = .ok (.ifCond .eq 32, 3) := by decide +kernel
theorem dX1_priceFrom_12 : decode cX1_priceFrom 12 = .ok (.iload_n 1, 1) := by decide +kernel
theorem dX1_priceFrom_13 : decode cX1_priceFrom 13 = .ok (.iload_n 3, 1) := by decide +kernel
theorem dX1_priceFrom_14 : decode cX1_priceFrom 14 = .ok (.iadd, 1) := by decide +kernel
theorem dX1_priceFrom_15 : decode cX1_priceFrom 15 = .ok (.aload_n 0, 1) := by decide +kernel
theorem dX1_priceFrom_16 : decode cX1_priceFrom 16 = .ok (.getfield 32, 3) := by decide +kernel
theorem dX1_priceFrom_19 : decode cX1_priceFrom 19 = .ok (.getfield 44, 3) := by decide +kernel
theorem dX1_priceFrom_22 : decode cX1_priceFrom 22 = .ok (.if_icmp .gt 19, 3) := by decide +kernel
theorem dX1_priceFrom_25 : decode cX1_priceFrom 25 = .ok (.aload_n 0, 1) := by decide +kernel
theorem dX1_priceFrom_26 : decode cX1_priceFrom 26 = .ok (.getfield 32, 3) := by decide +kernel
theorem dX1_priceFrom_29 : decode cX1_priceFrom 29 = .ok (.getfield 72, 3) := by decide +kernel
theorem dX1_priceFrom_32 : decode cX1_priceFrom 32 = .ok (.iload_n 3, 1) := by decide +kernel
theorem dX1_priceFrom_33 : decode cX1_priceFrom 33 = .ok (.iaload, 1) := by decide +kernel
theorem dX1_priceFrom_34 : decode cX1_priceFrom 34 = .ok (.aload_n 2, 1) := by decide +kernel
theorem dX1_priceFrom_35 : decode cX1_priceFrom 35 = .ok (.getfield 86, 3) := by decide +kernel
theorem dX1_priceFrom_38 : decode cX1_priceFrom 38 = .ok (.if_icmp .ge 5, 3) := by decide +kernel
theorem dX1_priceFrom_41 : decode cX1_priceFrom 41 = .ok (.iconst (-1), 1) := by decide +kernel
theorem dX1_priceFrom_42 : decode cX1_priceFrom 42 = .ok (.ireturn, 1) := by decide +kernel
theorem dX1_priceFrom_43 : decode cX1_priceFrom 43 = .ok (.aload_n 2, 1) := by decide +kernel
theorem dX1_priceFrom_44 : decode cX1_priceFrom 44 = .ok (.getfield 89, 3) := by decide +kernel
theorem dX1_priceFrom_47 : decode cX1_priceFrom 47 = .ok (.aload_n 0, 1) := by decide +kernel
theorem dX1_priceFrom_48 : decode cX1_priceFrom 48 = .ok (.getfield 32, 3) := by decide +kernel
theorem dX1_priceFrom_51 : decode cX1_priceFrom 51 = .ok (.getfield 72, 3) := by decide +kernel
theorem dX1_priceFrom_54 : decode cX1_priceFrom 54 = .ok (.iload_n 3, 1) := by decide +kernel
theorem dX1_priceFrom_55 : decode cX1_priceFrom 55 = .ok (.iaload, 1) := by decide +kernel
theorem dX1_priceFrom_56 : decode cX1_priceFrom 56 = .ok (.bipush 50, 2) := by decide +kernel
theorem dX1_priceFrom_58 : decode cX1_priceFrom 58 = .ok (.idiv, 1) := by decide +kernel
theorem dX1_priceFrom_59 : decode cX1_priceFrom 59 = .ok (.aload_n 0, 1) := by decide +kernel
theorem dX1_priceFrom_60 : decode cX1_priceFrom 60 = .ok (.getfield 32, 3) := by decide +kernel
theorem dX1_priceFrom_63 : decode cX1_priceFrom 63 = .ok (.getfield 75, 3) := by decide +kernel
theorem dX1_priceFrom_66 : decode cX1_priceFrom 66 = .ok (.iload_n 3, 1) := by decide +kernel
theorem dX1_priceFrom_67 : decode cX1_priceFrom 67 = .ok (.iaload, 1) := by decide +kernel
theorem dX1_priceFrom_68 : decode cX1_priceFrom 68 = .ok (.invokestatic 92, 3) := by decide +kernel
theorem dX1_priceFrom_71 : decode cX1_priceFrom 71 = .ok (.iaload, 1) := by decide +kernel
theorem dX1_priceFrom_72 : decode cX1_priceFrom 72 = .ok (.ireturn, 1) := by decide +kernel
theorem dX1_keepSpare_0 : decode cX1_keepSpare 0 = .ok (.aload_n 0, 1) := by decide +kernel
theorem dX1_keepSpare_1 : decode cX1_keepSpare 1 = .ok (.getfield 24, 3) := by decide +kernel
theorem dX1_keepSpare_4 : decode cX1_keepSpare 4 = .ok (.astore_n 1, 1) := by decide +kernel
theorem dX1_keepSpare_5 : decode cX1_keepSpare 5 = .ok (.aload_n 0, 1) := by decide +kernel
theorem dX1_keepSpare_6 : decode cX1_keepSpare 6 = .ok (.aload_n 0, 1) := by decide +kernel
theorem dX1_keepSpare_7 : decode cX1_keepSpare 7 = .ok (.getfield 20, 3) := by decide +kernel
theorem dX1_keepSpare_10 : decode cX1_keepSpare 10 = .ok (.putfield 24, 3) := by decide +kernel
theorem dX1_keepSpare_13 : decode cX1_keepSpare 13 = .ok (.aload_n 0, 1) := by decide +kernel
theorem dX1_keepSpare_14 : decode cX1_keepSpare 14 = .ok (.aload_n 1, 1) := by decide +kernel
theorem dX1_keepSpare_15 : decode cX1_keepSpare 15 = .ok (.putfield 20, 3) := by decide +kernel
theorem dX1_keepSpare_18 : decode cX1_keepSpare 18 = .ok (.aload_n 1, 1) := by decide +kernel
theorem dX1_keepSpare_19 : decode cX1_keepSpare 19 = .ok (.getfield 96, 3) := by decide +kernel
theorem dX1_keepSpare_22 : decode cX1_keepSpare 22 = .ok (.ireturn, 1) := by decide +kernel
theorem dX2_init_0 : decode cX2_init 0 = .ok (.aload_n 0, 1) := by decide +kernel
theorem dX2_init_1 : decode cX2_init 1 = .ok (.invokespecial 3, 3) := by decide +kernel
theorem dX2_init_4 : decode cX2_init 4 = .ok (.aload_n 0, 1) := by decide +kernel
theorem dX2_init_5 : decode cX2_init 5 = .ok (.bipush 6, 2) := by decide +kernel
theorem dX2_init_7 : decode cX2_init 7 = .ok (.newarray .int, 2) := by decide +kernel
theorem dX2_init_9 : decode cX2_init 9 = .ok (.putfield 9, 3) := by decide +kernel
theorem dX2_init_12 : decode cX2_init 12 = .ok (.aload_n 0, 1) := by decide +kernel
theorem dX2_init_13 : decode cX2_init 13 = .ok (.bipush 6, 2) := by decide +kernel
theorem dX2_init_15 : decode cX2_init 15 = .ok (.newarray .int, 2) := by decide +kernel
theorem dX2_init_17 : decode cX2_init 17 = .ok (.putfield 15, 3) := by decide +kernel
theorem dX2_init_20 : decode cX2_init 20 = .ok (.aload_n 0, 1) := by decide +kernel
theorem dX2_init_21 : decode cX2_init 21 = .ok (.bipush 6, 2) := by decide +kernel
theorem dX2_init_23 : decode cX2_init 23 = .ok (.newarray .int, 2) := by decide +kernel
theorem dX2_init_25 : decode cX2_init 25 = .ok (.putfield 18, 3) := by decide +kernel
theorem dX2_init_28 : decode cX2_init 28 = .ok (.aload_n 0, 1) := by decide +kernel
theorem dX2_init_29 : decode cX2_init 29 = .ok (.sipush 9101, 3) := by decide +kernel
theorem dX2_init_32 : decode cX2_init 32 = .ok (.newarray .int, 2) := by decide +kernel
theorem dX2_init_34 : decode cX2_init 34 = .ok (.putfield 21, 3) := by decide +kernel
theorem dX2_init_37 : decode cX2_init 37 = .ok (.return_, 1) := by decide +kernel
theorem dX2_solve_0 : decode cX2_solve 0 = .ok (.aload_n 0, 1) := by decide +kernel
theorem dX2_solve_1 : decode cX2_solve 1 = .ok (.invokevirtual 24, 3) := by decide +kernel
theorem dX2_solve_4 : decode cX2_solve 4 = .ok (.istore_n 1, 1) := by decide +kernel
theorem dX2_solve_5 : decode cX2_solve 5 = .ok (.aload_n 0, 1) := by decide +kernel
theorem dX2_solve_6 : decode cX2_solve 6 = .ok (.getfield 21, 3) := by decide +kernel
theorem dX2_solve_9 : decode cX2_solve 9 = .ok (.iconst 0, 1) := by decide +kernel
theorem dX2_solve_10 : decode cX2_solve 10 = .ok (.iconst (-1), 1) := by decide +kernel
theorem dX2_solve_11 : decode cX2_solve 11 = .ok (.iastore, 1) := by decide +kernel
theorem dX2_solve_12 : decode cX2_solve 12 = .ok (.iconst 0, 1) := by decide +kernel
theorem dX2_solve_13 : decode cX2_solve 13 = .ok (.istore_n 2, 1) := by decide +kernel
theorem dX2_solve_14 : decode cX2_solve 14 = .ok (.iload_n 2, 1) := by decide +kernel
theorem dX2_solve_15 : decode cX2_solve 15 = .ok (.iload_n 1, 1) := by decide +kernel
theorem dX2_solve_16 : decode cX2_solve 16 = .ok (.if_icmp .gt 24, 3) := by decide +kernel
theorem dX2_solve_19 : decode cX2_solve 19 = .ok (.aload_n 0, 1) := by decide +kernel
theorem dX2_solve_20 : decode cX2_solve 20 = .ok (.getfield 21, 3) := by decide +kernel
theorem dX2_solve_23 : decode cX2_solve 23 = .ok (.iload_n 2, 1) := by decide +kernel
theorem dX2_solve_24 : decode cX2_solve 24 = .ok (.iaload, 1) := by decide +kernel
theorem dX2_solve_25 : decode cX2_solve 25 = .ok (.iconst (-1), 1) := by decide +kernel
theorem dX2_solve_26 : decode cX2_solve 26 = .ok (.if_icmp .ne 8, 3) := by decide +kernel
theorem dX2_solve_29 : decode cX2_solve 29 = .ok (.aload_n 0, 1) := by decide +kernel
theorem dX2_solve_30 : decode cX2_solve 30 = .ok (.iload_n 2, 1) := by decide +kernel
theorem dX2_solve_31 : decode cX2_solve 31 = .ok (.invokevirtual 28, 3) := by decide +kernel
theorem dX2_solve_34 : decode cX2_solve 34 = .ok (.iinc 2 1, 3) := by decide +kernel
theorem dX2_solve_37 : decode cX2_solve 37 = .ok (.goto (-23), 3) := by decide +kernel
theorem dX2_solve_40 : decode cX2_solve 40 = .ok (.iload_n 1, 1) := by decide +kernel
theorem dX2_solve_41 : decode cX2_solve 41 = .ok (.istore_n 2, 1) := by decide +kernel
theorem dX2_solve_42 : decode cX2_solve 42 = .ok (.iload_n 2, 1) := by decide +kernel
theorem dX2_solve_43 : decode cX2_solve 43 = .ok (.ifCond .lt 30, 3) := by decide +kernel
theorem dX2_solve_46 : decode cX2_solve 46 = .ok (.aload_n 0, 1) := by decide +kernel
theorem dX2_solve_47 : decode cX2_solve 47 = .ok (.getfield 21, 3) := by decide +kernel
theorem dX2_solve_50 : decode cX2_solve 50 = .ok (.iload_n 2, 1) := by decide +kernel
theorem dX2_solve_51 : decode cX2_solve 51 = .ok (.iaload, 1) := by decide +kernel
theorem dX2_solve_52 : decode cX2_solve 52 = .ok (.iconst (-1), 1) := by decide +kernel
theorem dX2_solve_53 : decode cX2_solve 53 = .ok (.if_icmp .ne 14, 3) := by decide +kernel
theorem dX2_solve_56 : decode cX2_solve 56 = .ok (.aload_n 0, 1) := by decide +kernel
theorem dX2_solve_57 : decode cX2_solve 57 = .ok (.getfield 21, 3) := by decide +kernel
theorem dX2_solve_60 : decode cX2_solve 60 = .ok (.iload_n 2, 1) := by decide +kernel
theorem dX2_solve_61 : decode cX2_solve 61 = .ok (.aload_n 0, 1) := by decide +kernel
theorem dX2_solve_62 : decode cX2_solve 62 = .ok (.iload_n 2, 1) := by decide +kernel
theorem dX2_solve_63 : decode cX2_solve 63 = .ok (.invokevirtual 32, 3) := by decide +kernel
theorem dX2_solve_66 : decode cX2_solve 66 = .ok (.iastore, 1) := by decide +kernel
theorem dX2_solve_67 : decode cX2_solve 67 = .ok (.iinc 2 (-1), 3) := by decide +kernel
theorem dX2_solve_70 : decode cX2_solve 70 = .ok (.goto (-28), 3) := by decide +kernel
theorem dX2_solve_73 : decode cX2_solve 73 = .ok (.aload_n 0, 1) := by decide +kernel
theorem dX2_solve_74 : decode cX2_solve 74 = .ok (.getfield 21, 3) := by decide +kernel
theorem dX2_solve_77 : decode cX2_solve 77 = .ok (.iconst 0, 1) := by decide +kernel
theorem dX2_solve_78 : decode cX2_solve 78 = .ok (.iaload, 1) := by decide +kernel
theorem dX2_solve_79 : decode cX2_solve 79 = .ok (.ireturn, 1) := by decide +kernel
theorem dX2_lay_0 : decode cX2_lay 0 = .ok (.aload_n 1, 1) := by decide +kernel
theorem dX2_lay_1 : decode cX2_lay 1 = .ok (.iconst 0, 1) := by decide +kernel
theorem dX2_lay_2 : decode cX2_lay 2 = .ok (.putfield 36, 3) := by decide +kernel
theorem dX2_lay_5 : decode cX2_lay 5 = .ok (.iconst 0, 1) := by decide +kernel
theorem dX2_lay_6 : decode cX2_lay 6 = .ok (.istore_n 2, 1) := by decide +kernel
theorem dX2_lay_7 : decode cX2_lay 7 = .ok (.iconst 0, 1) := by decide +kernel
theorem dX2_lay_8 : decode cX2_lay 8 = .ok (.istore_n 3, 1) := by decide +kernel
theorem dX2_lay_9 : decode cX2_lay 9 = .ok (.iload_n 3, 1) := by decide +kernel
theorem dX2_lay_10 : decode cX2_lay 10 = .ok (.sipush 180, 3) := by decide +kernel
theorem dX2_lay_13 : decode cX2_lay 13 = .ok (.if_icmp .ge 40, 3) := by decide +kernel
theorem dX2_lay_16 : decode cX2_lay 16 = .ok (.aload_n 0, 1) := by decide +kernel
theorem dX2_lay_17 : decode cX2_lay 17 = .ok (.iload_n 2, 1) := by decide +kernel
theorem dX2_lay_18 : decode cX2_lay 18 = .ok (.invokevirtual 42, 3) := by decide +kernel
theorem dX2_lay_21 : decode cX2_lay 21 = .ok (.istore 4, 2) := by decide +kernel
theorem dX2_lay_23 : decode cX2_lay 23 = .ok (.iload 4, 2) := by decide +kernel
theorem dX2_lay_25 : decode cX2_lay 25 = .ok (.iconst (-1), 1) := by decide +kernel
theorem dX2_lay_26 : decode cX2_lay 26 = .ok (.if_icmp .ne 4, 3) := by decide +kernel
theorem dX2_lay_29 : decode cX2_lay 29 = .ok (.return_, 1) := by decide +kernel
theorem dX2_lay_30 : decode cX2_lay 30 = .ok (.aload_n 1, 1) := by decide +kernel
theorem dX2_lay_31 : decode cX2_lay 31 = .ok (.iload 4, 2) := by decide +kernel
theorem dX2_lay_33 : decode cX2_lay 33 = .ok (.iload_n 2, 1) := by decide +kernel
theorem dX2_lay_34 : decode cX2_lay 34 = .ok (.invokevirtual 45, 3) := by decide +kernel
theorem dX2_lay_37 : decode cX2_lay 37 = .ok (.iload_n 2, 1) := by decide +kernel
theorem dX2_lay_38 : decode cX2_lay 38 = .ok (.aload_n 0, 1) := by decide +kernel
theorem dX2_lay_39 : decode cX2_lay 39 = .ok (.getfield 9, 3) := by decide +kernel
theorem dX2_lay_42 : decode cX2_lay 42 = .ok (.iload 4, 2) := by decide +kernel
theorem dX2_lay_44 : decode cX2_lay 44 = .ok (.iaload, 1) := by decide +kernel
theorem dX2_lay_45 : decode cX2_lay 45 = .ok (.iadd, 1) := by decide +kernel
theorem dX2_lay_46 : decode cX2_lay 46 = .ok (.istore_n 2, 1) := by decide +kernel
theorem dX2_lay_47 : decode cX2_lay 47 = .ok (.iinc 3 1, 3) := by decide +kernel
theorem dX2_lay_50 : decode cX2_lay 50 = .ok (.goto (-41), 3) := by decide +kernel
theorem dX2_lay_53 : decode cX2_lay 53 = .ok (.return_, 1) := by decide +kernel
theorem dX2_farthestLimit_0 : decode cX2_farthestLimit 0 = .ok (.iconst 0, 1) := by decide +kernel
theorem dX2_farthestLimit_1 : decode cX2_farthestLimit 1 = .ok (.istore_n 1, 1) := by decide +kernel
theorem dX2_farthestLimit_2 : decode cX2_farthestLimit 2 = .ok (.iconst 0, 1) := by decide +kernel
theorem dX2_farthestLimit_3 : decode cX2_farthestLimit 3 = .ok (.istore_n 2, 1) := by decide +kernel
theorem dX2_farthestLimit_4 : decode cX2_farthestLimit 4 = .ok (.iload_n 2, 1) := by decide +kernel
theorem dX2_farthestLimit_5 : decode cX2_farthestLimit 5 = .ok (.bipush 6, 2) := by decide +kernel
theorem dX2_farthestLimit_7 : decode cX2_farthestLimit 7 = .ok (.if_icmp .ge 38, 3) := by decide +kernel
theorem dX2_farthestLimit_10 : decode cX2_farthestLimit 10 = .ok (.aload_n 0, 1) := by decide +kernel
theorem dX2_farthestLimit_11 : decode cX2_farthestLimit 11 = .ok (.getfield 18, 3) := by decide +kernel
theorem dX2_farthestLimit_14 : decode cX2_farthestLimit 14 = .ok (.iload_n 2, 1) := by decide +kernel
theorem dX2_farthestLimit_15 : decode cX2_farthestLimit 15 = .ok (.aload_n 0, 1) := by decide +kernel
theorem dX2_farthestLimit_16 : decode cX2_farthestLimit 16 = .ok (.getfield 18, 3) := by decide +kernel
theorem dX2_farthestLimit_19 : decode cX2_farthestLimit 19 = .ok (.iload_n 2, 1) := by decide +kernel
theorem dX2_farthestLimit_20 : decode cX2_farthestLimit 20 = .ok (.iaload, 1) := by decide +kernel
theorem dX2_farthestLimit_21 : decode cX2_farthestLimit 21 = .ok (.sipush 9100, 3) := by decide +kernel
theorem dX2_farthestLimit_24 : decode cX2_farthestLimit 24 = .ok (.invokestatic 49, 3) := by decide +kernel
theorem dX2_farthestLimit_27 : decode cX2_farthestLimit 27 = .ok (.iastore, 1) := by decide +kernel
theorem dX2_farthestLimit_28 : decode cX2_farthestLimit 28 = .ok (.iload_n 1, 1) := by decide +kernel
theorem dX2_farthestLimit_29 : decode cX2_farthestLimit 29 = .ok (.aload_n 0, 1) := by decide +kernel
theorem dX2_farthestLimit_30 : decode cX2_farthestLimit 30 = .ok (.getfield 18, 3) := by decide +kernel
theorem dX2_farthestLimit_33 : decode cX2_farthestLimit 33 = .ok (.iload_n 2, 1) := by decide +kernel
theorem dX2_farthestLimit_34 : decode cX2_farthestLimit 34 = .ok (.iaload, 1) := by decide +kernel
theorem dX2_farthestLimit_35 : decode cX2_farthestLimit 35 = .ok (.invokestatic 55, 3) := by decide +kernel
theorem dX2_farthestLimit_38 : decode cX2_farthestLimit 38 = .ok (.istore_n 1, 1) := by decide +kernel
theorem dX2_farthestLimit_39 : decode cX2_farthestLimit 39 = .ok (.iinc 2 1, 3) := by decide +kernel
theorem dX2_farthestLimit_42 : decode cX2_farthestLimit 42 = .ok (.goto (-38), 3) := by decide +kernel
theorem dX2_farthestLimit_45 : decode cX2_farthestLimit 45 = .ok (.iload_n 1, 1) := by decide +kernel
theorem dX2_farthestLimit_46 : decode cX2_farthestLimit 46 = .ok (.ireturn, 1) := by decide +kernel
theorem dX2_reachOnFrom_0 : decode cX2_reachOnFrom 0 = .ok (.iconst 0, 1) := by decide +kernel
theorem dX2_reachOnFrom_1 : decode cX2_reachOnFrom 1 = .ok (.istore_n 2, 1) := by decide +kernel
theorem dX2_reachOnFrom_2 : decode cX2_reachOnFrom 2 = .ok (.iload_n 2, 1) := by decide +kernel
theorem dX2_reachOnFrom_3 : decode cX2_reachOnFrom 3 = .ok (.bipush 6, 2) := by decide +kernel
theorem dX2_reachOnFrom_5 : decode cX2_reachOnFrom 5 = .ok (.if_icmp .ge 35, 3) := by decide +kernel
theorem dX2_reachOnFrom_8 : decode cX2_reachOnFrom 8 = .ok (.iload_n 1, 1) := by decide +kernel
theorem dX2_reachOnFrom_9 : decode cX2_reachOnFrom 9 = .ok (.aload_n 0, 1) := by decide +kernel
theorem dX2_reachOnFrom_10 : decode cX2_reachOnFrom 10 = .ok (.getfield 9, 3) := by decide +kernel
theorem dX2_reachOnFrom_13 : decode cX2_reachOnFrom 13 = .ok (.iload_n 2, 1) := by decide +kernel
theorem dX2_reachOnFrom_14 : decode cX2_reachOnFrom 14 = .ok (.iaload, 1) := by decide +kernel
theorem dX2_reachOnFrom_15 : decode cX2_reachOnFrom 15 = .ok (.iadd, 1) := by decide +kernel
theorem dX2_reachOnFrom_16 : decode cX2_reachOnFrom 16 = .ok (.istore_n 3, 1) := by decide +kernel
theorem dX2_reachOnFrom_17 : decode cX2_reachOnFrom 17 = .ok (.iload_n 3, 1) := by decide +kernel
theorem dX2_reachOnFrom_18 : decode cX2_reachOnFrom 18 = .ok (.aload_n 0, 1) := by decide +kernel
theorem dX2_reachOnFrom_19 : decode cX2_reachOnFrom 19 = .ok (.getfield 18, 3) := by decide +kernel
theorem dX2_reachOnFrom_22 : decode cX2_reachOnFrom 22 = .ok (.iload_n 2, 1) := by decide +kernel
theorem dX2_reachOnFrom_23 : decode cX2_reachOnFrom 23 = .ok (.iaload, 1) := by decide +kernel
theorem dX2_reachOnFrom_24 : decode cX2_reachOnFrom 24 = .ok (.if_icmp .gt 10, 3) := by decide +kernel
theorem dX2_reachOnFrom_27 : decode cX2_reachOnFrom 27 = .ok (.aload_n 0, 1) := by decide +kernel
theorem dX2_reachOnFrom_28 : decode cX2_reachOnFrom 28 = .ok (.getfield 21, 3) := by decide +kernel
theorem dX2_reachOnFrom_31 : decode cX2_reachOnFrom 31 = .ok (.iload_n 3, 1) := by decide +kernel
theorem dX2_reachOnFrom_32 : decode cX2_reachOnFrom 32 = .ok (.iconst (-1), 1) := by decide +kernel
theorem dX2_reachOnFrom_33 : decode cX2_reachOnFrom 33 = .ok (.iastore, 1) := by decide +kernel
theorem dX2_reachOnFrom_34 : decode cX2_reachOnFrom 34 = .ok (.iinc 2 1, 3) := by decide +kernel
theorem dX2_reachOnFrom_37 : decode cX2_reachOnFrom 37 = .ok (.goto (-35), 3) := by decide +kernel
theorem dX2_reachOnFrom_40 : decode cX2_reachOnFrom 40 = .ok (.return_, 1) := by decide +kernel
theorem dX2_mostFrom_0 : decode cX2_mostFrom 0 = .ok (.iconst 0, 1) := by decide +kernel
theorem dX2_mostFrom_1 : decode cX2_mostFrom 1 = .ok (.istore_n 2, 1) := by decide +kernel
theorem dX2_mostFrom_2 : decode cX2_mostFrom 2 = .ok (.iconst 0, 1) := by decide +kernel
theorem dX2_mostFrom_3 : decode cX2_mostFrom 3 = .ok (.istore_n 3, 1) := by decide +kernel
theorem dX2_mostFrom_4 : decode cX2_mostFrom 4 = .ok (.iload_n 3, 1) := by decide +kernel
theorem dX2_mostFrom_5 : decode cX2_mostFrom 5 = .ok (.bipush 6, 2) := by decide +kernel
theorem dX2_mostFrom_7 : decode cX2_mostFrom 7 = .ok (.if_icmp .ge 49, 3) := by decide +kernel
theorem dX2_mostFrom_10 : decode cX2_mostFrom 10 = .ok (.iload_n 1, 1) := by decide +kernel
theorem dX2_mostFrom_11 : decode cX2_mostFrom 11 = .ok (.aload_n 0, 1) := by decide +kernel
theorem dX2_mostFrom_12 : decode cX2_mostFrom 12 = .ok (.getfield 9, 3) := by decide +kernel
theorem dX2_mostFrom_15 : decode cX2_mostFrom 15 = .ok (.iload_n 3, 1) := by decide +kernel
theorem dX2_mostFrom_16 : decode cX2_mostFrom 16 = .ok (.iaload, 1) := by decide +kernel
theorem dX2_mostFrom_17 : decode cX2_mostFrom 17 = .ok (.iadd, 1) := by decide +kernel
theorem dX2_mostFrom_18 : decode cX2_mostFrom 18 = .ok (.istore 4, 2) := by decide +kernel
theorem dX2_mostFrom_20 : decode cX2_mostFrom 20 = .ok (.iload 4, 2) := by decide +kernel
theorem dX2_mostFrom_22 : decode cX2_mostFrom 22 = .ok (.aload_n 0, 1) := by decide +kernel
theorem dX2_mostFrom_23 : decode cX2_mostFrom 23 = .ok (.getfield 18, 3) := by decide +kernel
theorem dX2_mostFrom_26 : decode cX2_mostFrom 26 = .ok (.iload_n 3, 1) := by decide +kernel
theorem dX2_mostFrom_27 : decode cX2_mostFrom 27 = .ok (.iaload, 1) := by decide +kernel
theorem dX2_mostFrom_28 : decode cX2_mostFrom 28 = .ok (.if_icmp .gt 22, 3) := by decide +kernel
theorem dX2_mostFrom_31 : decode cX2_mostFrom 31 = .ok (.iload_n 2, 1) := by decide +kernel
theorem dX2_mostFrom_32 : decode cX2_mostFrom 32 = .ok (.aload_n 0, 1) := by decide +kernel
theorem dX2_mostFrom_33 : decode cX2_mostFrom 33 = .ok (.getfield 15, 3) := by decide +kernel
theorem dX2_mostFrom_36 : decode cX2_mostFrom 36 = .ok (.iload_n 3, 1) := by decide +kernel
theorem dX2_mostFrom_37 : decode cX2_mostFrom 37 = .ok (.iaload, 1) := by decide +kernel
theorem dX2_mostFrom_38 : decode cX2_mostFrom 38 = .ok (.aload_n 0, 1) := by decide +kernel
theorem dX2_mostFrom_39 : decode cX2_mostFrom 39 = .ok (.getfield 21, 3) := by decide +kernel
theorem dX2_mostFrom_42 : decode cX2_mostFrom 42 = .ok (.iload 4, 2) := by decide +kernel
theorem dX2_mostFrom_44 : decode cX2_mostFrom 44 = .ok (.iaload, 1) := by decide +kernel
theorem dX2_mostFrom_45 : decode cX2_mostFrom 45 = .ok (.iadd, 1) := by decide +kernel
theorem dX2_mostFrom_46 : decode cX2_mostFrom 46 = .ok (.invokestatic 55, 3) := by decide +kernel
theorem dX2_mostFrom_49 : decode cX2_mostFrom 49 = .ok (.istore_n 2, 1) := by decide +kernel
theorem dX2_mostFrom_50 : decode cX2_mostFrom 50 = .ok (.iinc 3 1, 3) := by decide +kernel
theorem dX2_mostFrom_53 : decode cX2_mostFrom 53 = .ok (.goto (-49), 3) := by decide +kernel
theorem dX2_mostFrom_56 : decode cX2_mostFrom 56 = .ok (.iload_n 2, 1) := by decide +kernel
theorem dX2_mostFrom_57 : decode cX2_mostFrom 57 = .ok (.ireturn, 1) := by decide +kernel
theorem dX2_lowestFrom_0 : decode cX2_lowestFrom 0 = .ok (.iconst 0, 1) := by decide +kernel
theorem dX2_lowestFrom_1 : decode cX2_lowestFrom 1 = .ok (.istore_n 2, 1) := by decide +kernel
theorem dX2_lowestFrom_2 : decode cX2_lowestFrom 2 = .ok (.iload_n 2, 1) := by decide +kernel
theorem dX2_lowestFrom_3 : decode cX2_lowestFrom 3 = .ok (.bipush 6, 2) := by decide +kernel
theorem dX2_lowestFrom_5 : decode cX2_lowestFrom 5 = .ok (.if_icmp .ge 52, 3) := by decide +kernel
theorem dX2_lowestFrom_8 : decode cX2_lowestFrom 8 = .ok (.iload_n 1, 1) := by decide +kernel
theorem dX2_lowestFrom_9 : decode cX2_lowestFrom 9 = .ok (.aload_n 0, 1) := by decide +kernel
theorem dX2_lowestFrom_10 : decode cX2_lowestFrom 10 = .ok (.getfield 9, 3) := by decide +kernel
theorem dX2_lowestFrom_13 : decode cX2_lowestFrom 13 = .ok (.iload_n 2, 1) := by decide +kernel
theorem dX2_lowestFrom_14 : decode cX2_lowestFrom 14 = .ok (.iaload, 1) := by decide +kernel
theorem dX2_lowestFrom_15 : decode cX2_lowestFrom 15 = .ok (.iadd, 1) := by decide +kernel
theorem dX2_lowestFrom_16 : decode cX2_lowestFrom 16 = .ok (.istore_n 3, 1) := by decide +kernel
theorem dX2_lowestFrom_17 : decode cX2_lowestFrom 17 = .ok (.iload_n 3, 1) := by decide +kernel
theorem dX2_lowestFrom_18 : decode cX2_lowestFrom 18 = .ok (.aload_n 0, 1) := by decide +kernel
theorem dX2_lowestFrom_19 : decode cX2_lowestFrom 19 = .ok (.getfield 18, 3) := by decide +kernel
theorem dX2_lowestFrom_22 : decode cX2_lowestFrom 22 = .ok (.iload_n 2, 1) := by decide +kernel
theorem dX2_lowestFrom_23 : decode cX2_lowestFrom 23 = .ok (.iaload, 1) := by decide +kernel
theorem dX2_lowestFrom_24 : decode cX2_lowestFrom 24 = .ok (.if_icmp .gt 27, 3) := by decide +kernel
theorem dX2_lowestFrom_27 : decode cX2_lowestFrom 27 = .ok (.aload_n 0, 1) := by decide +kernel
theorem dX2_lowestFrom_28 : decode cX2_lowestFrom 28 = .ok (.getfield 15, 3) := by decide +kernel
theorem dX2_lowestFrom_31 : decode cX2_lowestFrom 31 = .ok (.iload_n 2, 1) := by decide +kernel
theorem dX2_lowestFrom_32 : decode cX2_lowestFrom 32 = .ok (.iaload, 1) := by decide +kernel
theorem dX2_lowestFrom_33 : decode cX2_lowestFrom 33 = .ok (.aload_n 0, 1) := by decide +kernel
theorem dX2_lowestFrom_34 : decode cX2_lowestFrom 34 = .ok (.getfield 21, 3) := by decide +kernel
theorem dX2_lowestFrom_37 : decode cX2_lowestFrom 37 = .ok (.iload_n 3, 1) := by decide +kernel
theorem dX2_lowestFrom_38 : decode cX2_lowestFrom 38 = .ok (.iaload, 1) := by decide +kernel
theorem dX2_lowestFrom_39 : decode cX2_lowestFrom 39 = .ok (.iadd, 1) := by decide +kernel
theorem dX2_lowestFrom_40 : decode cX2_lowestFrom 40 = .ok (.aload_n 0, 1) := by decide +kernel
theorem dX2_lowestFrom_41 : decode cX2_lowestFrom 41 = .ok (.getfield 21, 3) := by decide +kernel
theorem dX2_lowestFrom_44 : decode cX2_lowestFrom 44 = .ok (.iload_n 1, 1) := by decide +kernel
theorem dX2_lowestFrom_45 : decode cX2_lowestFrom 45 = .ok (.iaload, 1) := by decide +kernel
theorem dX2_lowestFrom_46 : decode cX2_lowestFrom 46 = .ok (.if_icmp .ne 5, 3) := by decide +kernel
theorem dX2_lowestFrom_49 : decode cX2_lowestFrom 49 = .ok (.iload_n 2, 1) := by decide +kernel
theorem dX2_lowestFrom_50 : decode cX2_lowestFrom 50 = .ok (.ireturn, 1) := by decide +kernel
theorem dX2_lowestFrom_51 : decode cX2_lowestFrom 51 = .ok (.iinc 2 1, 3) := by decide +kernel
theorem dX2_lowestFrom_54 : decode cX2_lowestFrom 54 = .ok (.goto (-52), 3) := by decide +kernel
theorem dX2_lowestFrom_57 : decode cX2_lowestFrom 57 = .ok (.iconst (-1), 1) := by decide +kernel
theorem dX2_lowestFrom_58 : decode cX2_lowestFrom 58 = .ok (.ireturn, 1) := by decide +kernel
theorem dX3_init_0 : decode cX3_init 0 = .ok (.aload_n 0, 1) := by decide +kernel
theorem dX3_init_1 : decode cX3_init 1 = .ok (.invokespecial 3, 3) := by decide +kernel
theorem dX3_init_4 : decode cX3_init 4 = .ok (.aload_n 0, 1) := by decide +kernel
theorem dX3_init_5 : decode cX3_init 5 = .ok (.sipush 240, 3) := by decide +kernel
theorem dX3_init_8 : decode cX3_init 8 = .ok (.newarray .int, 2) := by decide +kernel
theorem dX3_init_10 : decode cX3_init 10 = .ok (.putfield 9, 3) := by decide +kernel
theorem dX3_init_13 : decode cX3_init 13 = .ok (.return_, 1) := by decide +kernel
theorem dX3_clear_0 : decode cX3_clear 0 = .ok (.aload_n 0, 1) := by decide +kernel
theorem dX3_clear_1 : decode cX3_clear 1 = .ok (.iconst 0, 1) := by decide +kernel
theorem dX3_clear_2 : decode cX3_clear 2 = .ok (.putfield 15, 3) := by decide +kernel
theorem dX3_clear_5 : decode cX3_clear 5 = .ok (.aload_n 0, 1) := by decide +kernel
theorem dX3_clear_6 : decode cX3_clear 6 = .ok (.iconst 0, 1) := by decide +kernel
theorem dX3_clear_7 : decode cX3_clear 7 = .ok (.putfield 19, 3) := by decide +kernel
theorem dX3_clear_10 : decode cX3_clear 10 = .ok (.return_, 1) := by decide +kernel
theorem dX3_add_0 : decode cX3_add 0 = .ok (.aload_n 0, 1) := by decide +kernel
theorem dX3_add_1 : decode cX3_add 1 = .ok (.getfield 15, 3) := by decide +kernel
theorem dX3_add_4 : decode cX3_add 4 = .ok (.bipush 40, 2) := by decide +kernel
theorem dX3_add_6 : decode cX3_add 6 = .ok (.if_icmp .lt 4, 3) := by decide +kernel
theorem dX3_add_9 : decode cX3_add 9 = .ok (.return_, 1) := by decide +kernel
theorem dX3_add_10 : decode cX3_add 10 = .ok (.aload_n 0, 1) := by decide +kernel
theorem dX3_add_11 : decode cX3_add 11 = .ok (.getfield 15, 3) := by decide +kernel
theorem dX3_add_14 : decode cX3_add 14 = .ok (.bipush 6, 2) := by decide +kernel
theorem dX3_add_16 : decode cX3_add 16 = .ok (.imul, 1) := by decide +kernel
theorem dX3_add_17 : decode cX3_add 17 = .ok (.istore 6, 2) := by decide +kernel
theorem dX3_add_19 : decode cX3_add 19 = .ok (.aload_n 0, 1) := by decide +kernel
theorem dX3_add_20 : decode cX3_add 20 = .ok (.getfield 9, 3) := by decide +kernel
theorem dX3_add_23 : decode cX3_add 23 = .ok (.iload 6, 2) := by decide +kernel
theorem dX3_add_25 : decode cX3_add 25 = .ok (.iconst 0, 1) := by decide +kernel
theorem dX3_add_26 : decode cX3_add 26 = .ok (.iadd, 1) := by decide +kernel
theorem dX3_add_27 : decode cX3_add 27 = .ok (.iload_n 1, 1) := by decide +kernel
theorem dX3_add_28 : decode cX3_add 28 = .ok (.iastore, 1) := by decide +kernel
theorem dX3_add_29 : decode cX3_add 29 = .ok (.aload_n 0, 1) := by decide +kernel
theorem dX3_add_30 : decode cX3_add 30 = .ok (.getfield 9, 3) := by decide +kernel
theorem dX3_add_33 : decode cX3_add 33 = .ok (.iload 6, 2) := by decide +kernel
theorem dX3_add_35 : decode cX3_add 35 = .ok (.iconst 1, 1) := by decide +kernel
theorem dX3_add_36 : decode cX3_add 36 = .ok (.iadd, 1) := by decide +kernel
theorem dX3_add_37 : decode cX3_add 37 = .ok (.iload_n 2, 1) := by decide +kernel
theorem dX3_add_38 : decode cX3_add 38 = .ok (.iastore, 1) := by decide +kernel
theorem dX3_add_39 : decode cX3_add 39 = .ok (.aload_n 0, 1) := by decide +kernel
theorem dX3_add_40 : decode cX3_add 40 = .ok (.getfield 9, 3) := by decide +kernel
theorem dX3_add_43 : decode cX3_add 43 = .ok (.iload 6, 2) := by decide +kernel
theorem dX3_add_45 : decode cX3_add 45 = .ok (.iconst 2, 1) := by decide +kernel
theorem dX3_add_46 : decode cX3_add 46 = .ok (.iadd, 1) := by decide +kernel
theorem dX3_add_47 : decode cX3_add 47 = .ok (.iload_n 3, 1) := by decide +kernel
theorem dX3_add_48 : decode cX3_add 48 = .ok (.iastore, 1) := by decide +kernel
theorem dX3_add_49 : decode cX3_add 49 = .ok (.aload_n 0, 1) := by decide +kernel
theorem dX3_add_50 : decode cX3_add 50 = .ok (.getfield 9, 3) := by decide +kernel
theorem dX3_add_53 : decode cX3_add 53 = .ok (.iload 6, 2) := by decide +kernel
theorem dX3_add_55 : decode cX3_add 55 = .ok (.iconst 3, 1) := by decide +kernel
theorem dX3_add_56 : decode cX3_add 56 = .ok (.iadd, 1) := by decide +kernel
theorem dX3_add_57 : decode cX3_add 57 = .ok (.iload_n 3, 1) := by decide +kernel
theorem dX3_add_58 : decode cX3_add 58 = .ok (.bipush 50, 2) := by decide +kernel
theorem dX3_add_60 : decode cX3_add 60 = .ok (.idiv, 1) := by decide +kernel
theorem dX3_add_61 : decode cX3_add 61 = .ok (.iastore, 1) := by decide +kernel
theorem dX3_add_62 : decode cX3_add 62 = .ok (.aload_n 0, 1) := by decide +kernel
theorem dX3_add_63 : decode cX3_add 63 = .ok (.getfield 9, 3) := by decide +kernel
theorem dX3_add_66 : decode cX3_add 66 = .ok (.iload 6, 2) := by decide +kernel
theorem dX3_add_68 : decode cX3_add 68 = .ok (.iconst 4, 1) := by decide +kernel
theorem dX3_add_69 : decode cX3_add 69 = .ok (.iadd, 1) := by decide +kernel
theorem dX3_add_70 : decode cX3_add 70 = .ok (.iload 4, 2) := by decide +kernel
theorem dX3_add_72 : decode cX3_add 72 = .ok (.iastore, 1) := by decide +kernel
theorem dX3_add_73 : decode cX3_add 73 = .ok (.aload_n 0, 1) := by decide +kernel
theorem dX3_add_74 : decode cX3_add 74 = .ok (.getfield 9, 3) := by decide +kernel
theorem dX3_add_77 : decode cX3_add 77 = .ok (.iload 6, 2) := by decide +kernel
theorem dX3_add_79 : decode cX3_add 79 = .ok (.iconst 5, 1) := by decide +kernel
theorem dX3_add_80 : decode cX3_add 80 = .ok (.iadd, 1) := by decide +kernel
theorem dX3_add_81 : decode cX3_add 81 = .ok (.iload 5, 2) := by decide +kernel
theorem dX3_add_83 : decode cX3_add 83 = .ok (.iastore, 1) := by decide +kernel
theorem dX3_add_84 : decode cX3_add 84 = .ok (.aload_n 0, 1) := by decide +kernel
theorem dX3_add_85 : decode cX3_add 85 = .ok (.dup, 1) := by decide +kernel
theorem dX3_add_86 : decode cX3_add 86 = .ok (.getfield 15, 3) := by decide +kernel
theorem dX3_add_89 : decode cX3_add 89 = .ok (.iconst 1, 1) := by decide +kernel
theorem dX3_add_90 : decode cX3_add 90 = .ok (.iadd, 1) := by decide +kernel
theorem dX3_add_91 : decode cX3_add 91 = .ok (.putfield 15, 3) := by decide +kernel
theorem dX3_add_94 : decode cX3_add 94 = .ok (.aload_n 0, 1) := by decide +kernel
theorem dX3_add_95 : decode cX3_add 95 = .ok (.dup, 1) := by decide +kernel
theorem dX3_add_96 : decode cX3_add 96 = .ok (.getfield 19, 3) := by decide +kernel
theorem dX3_add_99 : decode cX3_add 99 = .ok (.iload 5, 2) := by decide +kernel
theorem dX3_add_101 : decode cX3_add 101 = .ok (.iadd, 1) := by decide +kernel
theorem dX3_add_102 : decode cX3_add 102 = .ok (.putfield 19, 3) := by decide +kernel
theorem dX3_add_105 : decode cX3_add 105 = .ok (.return_, 1) := by decide +kernel
theorem dX3_fact_0 : decode cX3_fact 0 = .ok (.aload_n 0, 1) := by decide +kernel
theorem dX3_fact_1 : decode cX3_fact 1 = .ok (.getfield 9, 3) := by decide +kernel
theorem dX3_fact_4 : decode cX3_fact 4 = .ok (.iload_n 1, 1) := by decide +kernel
theorem dX3_fact_5 : decode cX3_fact 5 = .ok (.bipush 6, 2) := by decide +kernel
theorem dX3_fact_7 : decode cX3_fact 7 = .ok (.imul, 1) := by decide +kernel
theorem dX3_fact_8 : decode cX3_fact 8 = .ok (.iload_n 2, 1) := by decide +kernel
theorem dX3_fact_9 : decode cX3_fact 9 = .ok (.iadd, 1) := by decide +kernel
theorem dX3_fact_10 : decode cX3_fact 10 = .ok (.iaload, 1) := by decide +kernel
theorem dX3_fact_11 : decode cX3_fact 11 = .ok (.ireturn, 1) := by decide +kernel
theorem dX4_init_0 : decode cX4_init 0 = .ok (.aload_n 0, 1) := by decide +kernel
theorem dX4_init_1 : decode cX4_init 1 = .ok (.invokespecial 1, 3) := by decide +kernel
theorem dX4_init_4 : decode cX4_init 4 = .ok (.aload_n 0, 1) := by decide +kernel
theorem dX4_init_5 : decode cX4_init 5 = .ok (.iload_n 1, 1) := by decide +kernel
theorem dX4_init_6 : decode cX4_init 6 = .ok (.newarray .int, 2) := by decide +kernel
theorem dX4_init_8 : decode cX4_init 8 = .ok (.putfield 7, 3) := by decide +kernel
theorem dX4_init_11 : decode cX4_init 11 = .ok (.aload_n 0, 1) := by decide +kernel
theorem dX4_init_12 : decode cX4_init 12 = .ok (.iload_n 1, 1) := by decide +kernel
theorem dX4_init_13 : decode cX4_init 13 = .ok (.newarray .int, 2) := by decide +kernel
theorem dX4_init_15 : decode cX4_init 15 = .ok (.putfield 13, 3) := by decide +kernel
theorem dX4_init_18 : decode cX4_init 18 = .ok (.return_, 1) := by decide +kernel
theorem dX4_add_0 : decode cX4_add 0 = .ok (.aload_n 0, 1) := by decide +kernel
theorem dX4_add_1 : decode cX4_add 1 = .ok (.getfield 16, 3) := by decide +kernel
theorem dX4_add_4 : decode cX4_add 4 = .ok (.aload_n 0, 1) := by decide +kernel
theorem dX4_add_5 : decode cX4_add 5 = .ok (.getfield 7, 3) := by decide +kernel
theorem dX4_add_8 : decode cX4_add 8 = .ok (.arraylength, 1) := by decide +kernel
theorem dX4_add_9 : decode cX4_add 9 = .ok (.if_icmp .ge 33, 3) := by decide +kernel
theorem dX4_add_12 : decode cX4_add 12 = .ok (.aload_n 0, 1) := by decide +kernel
theorem dX4_add_13 : decode cX4_add 13 = .ok (.getfield 7, 3) := by decide +kernel
theorem dX4_add_16 : decode cX4_add 16 = .ok (.aload_n 0, 1) := by decide +kernel
theorem dX4_add_17 : decode cX4_add 17 = .ok (.getfield 16, 3) := by decide +kernel
theorem dX4_add_20 : decode cX4_add 20 = .ok (.iload_n 1, 1) := by decide +kernel
theorem dX4_add_21 : decode cX4_add 21 = .ok (.iastore, 1) := by decide +kernel
theorem dX4_add_22 : decode cX4_add 22 = .ok (.aload_n 0, 1) := by decide +kernel
theorem dX4_add_23 : decode cX4_add 23 = .ok (.getfield 13, 3) := by decide +kernel
theorem dX4_add_26 : decode cX4_add 26 = .ok (.aload_n 0, 1) := by decide +kernel
theorem dX4_add_27 : decode cX4_add 27 = .ok (.getfield 16, 3) := by decide +kernel
theorem dX4_add_30 : decode cX4_add 30 = .ok (.iload_n 2, 1) := by decide +kernel
theorem dX4_add_31 : decode cX4_add 31 = .ok (.iastore, 1) := by decide +kernel
theorem dX4_add_32 : decode cX4_add 32 = .ok (.aload_n 0, 1) := by decide +kernel
theorem dX4_add_33 : decode cX4_add 33 = .ok (.dup, 1) := by decide +kernel
theorem dX4_add_34 : decode cX4_add 34 = .ok (.getfield 16, 3) := by decide +kernel
theorem dX4_add_37 : decode cX4_add 37 = .ok (.iconst 1, 1) := by decide +kernel
theorem dX4_add_38 : decode cX4_add 38 = .ok (.iadd, 1) := by decide +kernel
theorem dX4_add_39 : decode cX4_add 39 = .ok (.putfield 16, 3) := by decide +kernel
theorem dX4_add_42 : decode cX4_add 42 = .ok (.return_, 1) := by decide +kernel
theorem dX4_countOf_0 : decode cX4_countOf 0 = .ok (.iconst 0, 1) := by decide +kernel
theorem dX4_countOf_1 : decode cX4_countOf 1 = .ok (.istore_n 2, 1) := by decide +kernel
theorem dX4_countOf_2 : decode cX4_countOf 2 = .ok (.iconst 0, 1) := by decide +kernel
theorem dX4_countOf_3 : decode cX4_countOf 3 = .ok (.istore_n 3, 1) := by decide +kernel
theorem dX4_countOf_4 : decode cX4_countOf 4 = .ok (.iload_n 3, 1) := by decide +kernel
theorem dX4_countOf_5 : decode cX4_countOf 5 = .ok (.aload_n 0, 1) := by decide +kernel
theorem dX4_countOf_6 : decode cX4_countOf 6 = .ok (.getfield 16, 3) := by decide +kernel
theorem dX4_countOf_9 : decode cX4_countOf 9 = .ok (.if_icmp .ge 22, 3) := by decide +kernel
theorem dX4_countOf_12 : decode cX4_countOf 12 = .ok (.aload_n 0, 1) := by decide +kernel
theorem dX4_countOf_13 : decode cX4_countOf 13 = .ok (.getfield 7, 3) := by decide +kernel
theorem dX4_countOf_16 : decode cX4_countOf 16 = .ok (.iload_n 3, 1) := by decide +kernel
theorem dX4_countOf_17 : decode cX4_countOf 17 = .ok (.iaload, 1) := by decide +kernel
theorem dX4_countOf_18 : decode cX4_countOf 18 = .ok (.iload_n 1, 1) := by decide +kernel
theorem dX4_countOf_19 : decode cX4_countOf 19 = .ok (.if_icmp .ne 6, 3) := by decide +kernel
theorem dX4_countOf_22 : decode cX4_countOf 22 = .ok (.iinc 2 1, 3) := by decide +kernel
theorem dX4_countOf_25 : decode cX4_countOf 25 = .ok (.iinc 3 1, 3) := by decide +kernel
theorem dX4_countOf_28 : decode cX4_countOf 28 = .ok (.goto (-24), 3) := by decide +kernel
theorem dX4_countOf_31 : decode cX4_countOf 31 = .ok (.iload_n 2, 1) := by decide +kernel
theorem dX4_countOf_32 : decode cX4_countOf 32 = .ok (.ireturn, 1) := by decide +kernel
theorem dX5_init_0 : decode cX5_init 0 = .ok (.aload_n 0, 1) := by decide +kernel
theorem dX5_init_1 : decode cX5_init 1 = .ok (.invokespecial 3, 3) := by decide +kernel
theorem dX5_init_4 : decode cX5_init 4 = .ok (.aload_n 0, 1) := by decide +kernel
theorem dX5_init_5 : decode cX5_init 5 = .ok (.bipush 57, 2) := by decide +kernel
theorem dX5_init_7 : decode cX5_init 7 = .ok (.newarray .int, 2) := by decide +kernel
theorem dX5_init_9 : decode cX5_init 9 = .ok (.putfield 9, 3) := by decide +kernel
theorem dX5_init_12 : decode cX5_init 12 = .ok (.return_, 1) := by decide +kernel
theorem dX5_isTold_0 : decode cX5_isTold 0 = .ok (.aload_n 0, 1) := by decide +kernel
theorem dX5_isTold_1 : decode cX5_isTold 1 = .ok (.getfield 15, 3) := by decide +kernel
theorem dX5_isTold_4 : decode cX5_isTold 4 = .ok (.ifCond .le 7, 3) := by decide +kernel
theorem dX5_isTold_7 : decode cX5_isTold 7 = .ok (.iconst 1, 1) := by decide +kernel
theorem dX5_isTold_8 : decode cX5_isTold 8 = .ok (.goto 4, 3) := by decide +kernel
theorem dX5_isTold_11 : decode cX5_isTold 11 = .ok (.iconst 0, 1) := by decide +kernel
theorem dX5_isTold_12 : decode cX5_isTold 12 = .ok (.ireturn, 1) := by decide +kernel
theorem dX5_become_0 : decode cX5_become 0 = .ok (.aload_n 0, 1) := by decide +kernel
theorem dX5_become_1 : decode cX5_become 1 = .ok (.iload_n 1, 1) := by decide +kernel
theorem dX5_become_2 : decode cX5_become 2 = .ok (.putfield 15, 3) := by decide +kernel
theorem dX5_become_5 : decode cX5_become 5 = .ok (.aload_n 0, 1) := by decide +kernel
theorem dX5_become_6 : decode cX5_become 6 = .ok (.iload_n 2, 1) := by decide +kernel
theorem dX5_become_7 : decode cX5_become 7 = .ok (.putfield 19, 3) := by decide +kernel
theorem dX5_become_10 : decode cX5_become 10 = .ok (.aload_n 0, 1) := by decide +kernel
theorem dX5_become_11 : decode cX5_become 11 = .ok (.getfield 9, 3) := by decide +kernel
theorem dX5_become_14 : decode cX5_become 14 = .ok (.iconst 0, 1) := by decide +kernel
theorem dX5_become_15 : decode cX5_become 15 = .ok (.invokestatic 22, 3) := by decide +kernel
theorem dX5_become_18 : decode cX5_become 18 = .ok (.return_, 1) := by decide +kernel
theorem dX5_slot_0 : decode cX5_slot 0 = .ok (.iload_n 0, 1) := by decide +kernel
theorem dX5_slot_1 : decode cX5_slot 1 = .ok (.iconst 3, 1) := by decide +kernel
theorem dX5_slot_2 : decode cX5_slot 2 = .ok (.imul, 1) := by decide +kernel
theorem dX5_slot_3 : decode cX5_slot 3 = .ok (.iload_n 1, 1) := by decide +kernel
theorem dX5_slot_4 : decode cX5_slot 4 = .ok (.iadd, 1) := by decide +kernel
theorem dX5_slot_5 : decode cX5_slot 5 = .ok (.iconst 1, 1) := by decide +kernel
theorem dX5_slot_6 : decode cX5_slot 6 = .ok (.isub, 1) := by decide +kernel
theorem dX5_slot_7 : decode cX5_slot 7 = .ok (.ireturn, 1) := by decide +kernel
theorem dX6_init_0 : decode cX6_init 0 = .ok (.aload_n 0, 1) := by decide +kernel
theorem dX6_init_1 : decode cX6_init 1 = .ok (.invokespecial 3, 3) := by decide +kernel
theorem dX6_init_4 : decode cX6_init 4 = .ok (.aload_n 0, 1) := by decide +kernel
theorem dX6_init_5 : decode cX6_init 5 = .ok (.bipush 6, 2) := by decide +kernel
theorem dX6_init_7 : decode cX6_init 7 = .ok (.newarray .int, 2) := by decide +kernel
theorem dX6_init_9 : decode cX6_init 9 = .ok (.putfield 9, 3) := by decide +kernel
theorem dX6_init_12 : decode cX6_init 12 = .ok (.aload_n 0, 1) := by decide +kernel
theorem dX6_init_13 : decode cX6_init 13 = .ok (.iconst 4, 1) := by decide +kernel
theorem dX6_init_14 : decode cX6_init 14 = .ok (.newarray .int, 2) := by decide +kernel
theorem dX6_init_16 : decode cX6_init 16 = .ok (.putfield 15, 3) := by decide +kernel
theorem dX6_init_19 : decode cX6_init 19 = .ok (.aload_n 0, 1) := by decide +kernel
theorem dX6_init_20 : decode cX6_init 20 = .ok (.iconst 4, 1) := by decide +kernel
theorem dX6_init_21 : decode cX6_init 21 = .ok (.newarray .int, 2) := by decide +kernel
theorem dX6_init_23 : decode cX6_init 23 = .ok (.putfield 18, 3) := by decide +kernel
theorem dX6_init_26 : decode cX6_init 26 = .ok (.return_, 1) := by decide +kernel
theorem dX6_additionFor_0 : decode cX6_additionFor 0 = .ok (.iconst 0, 1) := by decide +kernel
theorem dX6_additionFor_1 : decode cX6_additionFor 1 = .ok (.istore_n 2, 1) := by decide +kernel
theorem dX6_additionFor_2 : decode cX6_additionFor 2 = .ok (.iconst 0, 1) := by decide +kernel
theorem dX6_additionFor_3 : decode cX6_additionFor 3 = .ok (.istore_n 3, 1) := by decide +kernel
theorem dX6_additionFor_4 : decode cX6_additionFor 4 = .ok (.iload_n 3, 1) := by decide +kernel
theorem dX6_additionFor_5 : decode cX6_additionFor 5 = .ok (.iconst 4, 1) := by decide +kernel
theorem dX6_additionFor_6 : decode cX6_additionFor 6 = .ok (.if_icmp .ge 44, 3) := by decide +kernel
theorem dX6_additionFor_9 : decode cX6_additionFor 9 = .ok (.aload_n 0, 1) := by decide +kernel
theorem dX6_additionFor_10 : decode cX6_additionFor 10 = .ok (.getfield 15, 3) := by decide +kernel
theorem dX6_additionFor_13 : decode cX6_additionFor 13 = .ok (.iload_n 3, 1) := by decide +kernel
theorem dX6_additionFor_14 : decode cX6_additionFor 14 = .ok (.iaload, 1) := by decide +kernel
theorem dX6_additionFor_15 : decode cX6_additionFor 15 = .ok (.ifCond .le 29, 3) := by decide +kernel
theorem dX6_additionFor_18 : decode cX6_additionFor 18 = .ok (.aload_n 0, 1) := by decide +kernel
theorem dX6_additionFor_19 : decode cX6_additionFor 19 = .ok (.getfield 15, 3) := by decide +kernel
theorem dX6_additionFor_22 : decode cX6_additionFor 22 = .ok (.iload_n 3, 1) := by decide +kernel
theorem dX6_additionFor_23 : decode cX6_additionFor 23 = .ok (.iaload, 1) := by decide +kernel
theorem dX6_additionFor_24 : decode cX6_additionFor 24 = .ok (.aload_n 0, 1) := by decide +kernel
theorem dX6_additionFor_25 : decode cX6_additionFor 25 = .ok (.getfield 9, 3) := by decide +kernel
theorem dX6_additionFor_28 : decode cX6_additionFor 28 = .ok (.iload_n 1, 1) := by decide +kernel
theorem dX6_additionFor_29 : decode cX6_additionFor 29 = .ok (.iaload, 1) := by decide +kernel
theorem dX6_additionFor_30 : decode cX6_additionFor 30 = .ok (.if_icmp .gt 14, 3) := by decide +kernel
theorem dX6_additionFor_33 : decode cX6_additionFor 33 = .ok (.iload_n 2, 1) := by decide +kernel
theorem dX6_additionFor_34 : decode cX6_additionFor 34 = .ok (.aload_n 0, 1) := by decide +kernel
theorem dX6_additionFor_35 : decode cX6_additionFor 35 = .ok (.getfield 18, 3) := by decide +kernel
theorem dX6_additionFor_38 : decode cX6_additionFor 38 = .ok (.iload_n 3, 1) := by decide +kernel
theorem dX6_additionFor_39 : decode cX6_additionFor 39 = .ok (.iaload, 1) := by decide +kernel
theorem dX6_additionFor_40 : decode cX6_additionFor 40 = .ok (.invokestatic 21, 3) := by decide +kernel
theorem dX6_additionFor_43 : decode cX6_additionFor 43 = .ok (.istore_n 2, 1) := by decide +kernel
theorem dX6_additionFor_44 : decode cX6_additionFor 44 = .ok (.iinc 3 1, 3) := by decide +kernel
theorem dX6_additionFor_47 : decode cX6_additionFor 47 = .ok (.goto (-43), 3) := by decide +kernel
theorem dX6_additionFor_50 : decode cX6_additionFor 50 = .ok (.iload_n 2, 1) := by decide +kernel
theorem dX6_additionFor_51 : decode cX6_additionFor 51 = .ok (.ireturn, 1) := by decide +kernel
theorem dX6_deliver_0 : decode cX6_deliver 0 = .ok (.aload_n 0, 1) := by decide +kernel
theorem dX6_deliver_1 : decode cX6_deliver 1 = .ok (.getfield 9, 3) := by decide +kernel
theorem dX6_deliver_4 : decode cX6_deliver 4 = .ok (.iload_n 1, 1) := by decide +kernel
theorem dX6_deliver_5 : decode cX6_deliver 5 = .ok (.iconst 0, 1) := by decide +kernel
theorem dX6_deliver_6 : decode cX6_deliver 6 = .ok (.aload_n 0, 1) := by decide +kernel
theorem dX6_deliver_7 : decode cX6_deliver 7 = .ok (.getfield 9, 3) := by decide +kernel
theorem dX6_deliver_10 : decode cX6_deliver 10 = .ok (.iload_n 1, 1) := by decide +kernel
theorem dX6_deliver_11 : decode cX6_deliver 11 = .ok (.iaload, 1) := by decide +kernel
theorem dX6_deliver_12 : decode cX6_deliver 12 = .ok (.iload_n 2, 1) := by decide +kernel
theorem dX6_deliver_13 : decode cX6_deliver 13 = .ok (.isub, 1) := by decide +kernel
theorem dX6_deliver_14 : decode cX6_deliver 14 = .ok (.invokestatic 21, 3) := by decide +kernel
theorem dX6_deliver_17 : decode cX6_deliver 17 = .ok (.iastore, 1) := by decide +kernel
theorem dX6_deliver_18 : decode cX6_deliver 18 = .ok (.return_, 1) := by decide +kernel
theorem dX7_init_0 : decode cX7_init 0 = .ok (.aload_n 0, 1) := by decide +kernel
theorem dX7_init_1 : decode cX7_init 1 = .ok (.invokespecial 3, 3) := by decide +kernel
theorem dX7_init_4 : decode cX7_init 4 = .ok (.aload_n 0, 1) := by decide +kernel
theorem dX7_init_5 : decode cX7_init 5 = .ok (.iconst (-1), 1) := by decide +kernel
theorem dX7_init_6 : decode cX7_init 6 = .ok (.putfield 9, 3) := by decide +kernel
theorem dX7_init_9 : decode cX7_init 9 = .ok (.aload_n 0, 1) := by decide +kernel
theorem dX7_init_10 : decode cX7_init 10 = .ok (.new 15, 3) := by decide +kernel
theorem dX7_init_13 : decode cX7_init 13 = .ok (.dup, 1) := by decide +kernel
theorem dX7_init_14 : decode cX7_init 14 = .ok (.sipush 180, 3) := by decide +kernel
theorem dX7_init_17 : decode cX7_init 17 = .ok (.invokespecial 17, 3) := by decide +kernel
theorem dX7_init_20 : decode cX7_init 20 = .ok (.putfield 20, 3) := by decide +kernel
theorem dX7_init_23 : decode cX7_init 23 = .ok (.aload_n 0, 1) := by decide +kernel
theorem dX7_init_24 : decode cX7_init 24 = .ok (.new 15, 3) := by decide +kernel
theorem dX7_init_27 : decode cX7_init 27 = .ok (.dup, 1) := by decide +kernel
theorem dX7_init_28 : decode cX7_init 28 = .ok (.bipush 90, 2) := by decide +kernel
theorem dX7_init_30 : decode cX7_init 30 = .ok (.invokespecial 17, 3) := by decide +kernel
theorem dX7_init_33 : decode cX7_init 33 = .ok (.putfield 24, 3) := by decide +kernel
theorem dX7_init_36 : decode cX7_init 36 = .ok (.aload_n 0, 1) := by decide +kernel
theorem dX7_init_37 : decode cX7_init 37 = .ok (.bipush 6, 2) := by decide +kernel
theorem dX7_init_39 : decode cX7_init 39 = .ok (.newarray .int, 2) := by decide +kernel
theorem dX7_init_41 : decode cX7_init 41 = .ok (.putfield 27, 3) := by decide +kernel
theorem dX7_init_44 : decode cX7_init 44 = .ok (.return_, 1) := by decide +kernel
theorem dX7_stacks_0 : decode cX7_stacks 0 = .ok (.aload_n 0, 1) := by decide +kernel
theorem dX7_stacks_1 : decode cX7_stacks 1 = .ok (.getfield 9, 3) := by decide +kernel
theorem dX7_stacks_4 : decode cX7_stacks 4 = .ok (.iconst (-1), 1) := by decide +kernel
theorem dX7_stacks_5 : decode cX7_stacks 5 = .ok (.if_icmp .ne 7, 3) := by decide +kernel
theorem dX7_stacks_8 : decode cX7_stacks 8 = .ok (.iconst 1, 1) := by decide +kernel
theorem dX7_stacks_9 : decode cX7_stacks 9 = .ok (.goto 4, 3) := by decide +kernel
theorem dX7_stacks_12 : decode cX7_stacks 12 = .ok (.iconst 2, 1) := by decide +kernel
theorem dX7_stacks_13 : decode cX7_stacks 13 = .ok (.ireturn, 1) := by decide +kernel
theorem dX7_count_0 : decode cX7_count 0 = .ok (.aload_n 0, 1) := by decide +kernel
theorem dX7_count_1 : decode cX7_count 1 = .ok (.getfield 20, 3) := by decide +kernel
theorem dX7_count_4 : decode cX7_count 4 = .ok (.getfield 31, 3) := by decide +kernel
theorem dX7_count_7 : decode cX7_count 7 = .ok (.aload_n 0, 1) := by decide +kernel
theorem dX7_count_8 : decode cX7_count 8 = .ok (.invokevirtual 34, 3) := by decide +kernel
theorem dX7_count_11 : decode cX7_count 11 = .ok (.aload_n 0, 1) := by decide +kernel
theorem dX7_count_12 : decode cX7_count 12 = .ok (.getfield 24, 3) := by decide +kernel
theorem dX7_count_15 : decode cX7_count 15 = .ok (.getfield 31, 3) := by decide +kernel
theorem dX7_count_18 : decode cX7_count 18 = .ok (.imul, 1) := by decide +kernel
theorem dX7_count_19 : decode cX7_count 19 = .ok (.iadd, 1) := by decide +kernel
theorem dX7_count_20 : decode cX7_count 20 = .ok (.ireturn, 1) := by decide +kernel
theorem dX7_countOf_0 : decode cX7_countOf 0 = .ok (.aload_n 0, 1) := by decide +kernel
theorem dX7_countOf_1 : decode cX7_countOf 1 = .ok (.getfield 20, 3) := by decide +kernel
theorem dX7_countOf_4 : decode cX7_countOf 4 = .ok (.iload_n 1, 1) := by decide +kernel
theorem dX7_countOf_5 : decode cX7_countOf 5 = .ok (.invokevirtual 38, 3) := by decide +kernel
theorem dX7_countOf_8 : decode cX7_countOf 8 = .ok (.aload_n 0, 1) := by decide +kernel
theorem dX7_countOf_9 : decode cX7_countOf 9 = .ok (.invokevirtual 34, 3) := by decide +kernel
theorem dX7_countOf_12 : decode cX7_countOf 12 = .ok (.aload_n 0, 1) := by decide +kernel
theorem dX7_countOf_13 : decode cX7_countOf 13 = .ok (.getfield 24, 3) := by decide +kernel
theorem dX7_countOf_16 : decode cX7_countOf 16 = .ok (.iload_n 1, 1) := by decide +kernel
theorem dX7_countOf_17 : decode cX7_countOf 17 = .ok (.invokevirtual 38, 3) := by decide +kernel
theorem dX7_countOf_20 : decode cX7_countOf 20 = .ok (.imul, 1) := by decide +kernel
theorem dX7_countOf_21 : decode cX7_countOf 21 = .ok (.iadd, 1) := by decide +kernel
theorem dX7_countOf_22 : decode cX7_countOf 22 = .ok (.ireturn, 1) := by decide +kernel
theorem dX7_isBetterThan_0 : decode cX7_isBetterThan 0 = .ok (.aload_n 0, 1) := by decide +kernel
theorem dX7_isBetterThan_1 : decode cX7_isBetterThan 1 = .ok (.getfield 42, 3) := by decide +kernel
theorem dX7_isBetterThan_4 : decode cX7_isBetterThan 4 = .ok (.aload_n 1, 1) := by decide +kernel
theorem dX7_isBetterThan_5 : decode cX7_isBetterThan 5 = .ok (.getfield 42, 3) := by decide +kernel
theorem dX7_isBetterThan_8 : decode cX7_isBetterThan 8 = .ok (.if_icmp .eq 20, 3) := by decide +kernel
theorem dX7_isBetterThan_11 : decode cX7_isBetterThan 11 = .ok (.aload_n 0, 1) := by decide +kernel
theorem dX7_isBetterThan_12 : decode cX7_isBetterThan 12 = .ok (.getfield 42, 3) := by decide +kernel
theorem dX7_isBetterThan_15 : decode cX7_isBetterThan 15 = .ok (.aload_n 1, 1) := by decide +kernel
theorem dX7_isBetterThan_16 : decode cX7_isBetterThan 16 = .ok (.getfield 42, 3) := by decide +kernel
theorem dX7_isBetterThan_19 : decode cX7_isBetterThan 19 = .ok (.if_icmp .le 7, 3) := by decide +kernel
theorem dX7_isBetterThan_22 : decode cX7_isBetterThan 22 = .ok (.iconst 1, 1) := by decide +kernel
theorem dX7_isBetterThan_23 : decode cX7_isBetterThan 23 = .ok (.goto 4, 3) := by decide +kernel
theorem dX7_isBetterThan_26 : decode cX7_isBetterThan 26 = .ok (.iconst 0, 1) := by decide +kernel
theorem dX7_isBetterThan_27 : decode cX7_isBetterThan 27 = .ok (.ireturn, 1) := by decide +kernel
theorem dX7_isBetterThan_28 : decode cX7_isBetterThan 28 = .ok (.aload_n 0, 1) := by decide +kernel
theorem dX7_isBetterThan_29 : decode cX7_isBetterThan 29 = .ok (.getfield 9, 3) := by decide +kernel
theorem dX7_isBetterThan_32 : decode cX7_isBetterThan 32 = .ok (.iconst (-1), 1) := by decide +kernel
theorem dX7_isBetterThan_33 : decode cX7_isBetterThan 33 = .ok (.if_icmp .eq 26, 3) := by decide +kernel
theorem dX7_isBetterThan_36 : decode cX7_isBetterThan 36 = .ok (.aload_n 1, 1) := by decide +kernel
theorem dX7_isBetterThan_37 : decode cX7_isBetterThan 37 = .ok (.getfield 9, 3) := by decide +kernel
theorem dX7_isBetterThan_40 : decode cX7_isBetterThan 40 = .ok (.iconst (-1), 1) := by decide +kernel
theorem dX7_isBetterThan_41 : decode cX7_isBetterThan 41 = .ok (.if_icmp .eq 14, 3) := by decide +kernel
theorem dX7_isBetterThan_44 : decode cX7_isBetterThan 44 = .ok (.aload_n 0, 1) := by decide +kernel
theorem dX7_isBetterThan_45 : decode cX7_isBetterThan 45 = .ok (.getfield 9, 3) := by decide +kernel
theorem dX7_isBetterThan_48 : decode cX7_isBetterThan 48 = .ok (.aload_n 1, 1) := by decide +kernel
theorem dX7_isBetterThan_49 : decode cX7_isBetterThan 49 = .ok (.getfield 9, 3) := by decide +kernel
theorem dX7_isBetterThan_52 : decode cX7_isBetterThan 52 = .ok (.if_icmp .ge 7, 3) := by decide +kernel
theorem dX7_isBetterThan_55 : decode cX7_isBetterThan 55 = .ok (.iconst 1, 1) := by decide +kernel
theorem dX7_isBetterThan_56 : decode cX7_isBetterThan 56 = .ok (.goto 4, 3) := by decide +kernel
theorem dX7_isBetterThan_59 : decode cX7_isBetterThan 59 = .ok (.iconst 0, 1) := by decide +kernel
theorem dX7_isBetterThan_60 : decode cX7_isBetterThan 60 = .ok (.ireturn, 1) := by decide +kernel
theorem dX7_fact_0 : decode cX7_fact 0 = .ok (.iload_n 1, 1) := by decide +kernel
theorem dX7_fact_1 : decode cX7_fact 1 = .ok (.aload_n 0, 1) := by decide +kernel
theorem dX7_fact_2 : decode cX7_fact 2 = .ok (.getfield 20, 3) := by decide +kernel
theorem dX7_fact_5 : decode cX7_fact 5 = .ok (.getfield 31, 3) := by decide +kernel
theorem dX7_fact_8 : decode cX7_fact 8 = .ok (.if_icmp .ge 15, 3) := by decide +kernel
theorem dX7_fact_11 : decode cX7_fact 11 = .ok (.aload_n 0, 1) := by decide +kernel
theorem dX7_fact_12 : decode cX7_fact 12 = .ok (.aload_n 0, 1) := by decide +kernel
theorem dX7_fact_13 : decode cX7_fact 13 = .ok (.getfield 20, 3) := by decide +kernel
theorem dX7_fact_16 : decode cX7_fact 16 = .ok (.iload_n 1, 1) := by decide +kernel
theorem dX7_fact_17 : decode cX7_fact 17 = .ok (.iconst 0, 1) := by decide +kernel
theorem dX7_fact_18 : decode cX7_fact 18 = .ok (.iload_n 2, 1) := by decide +kernel
theorem dX7_fact_19 : decode cX7_fact 19 = .ok (.invokevirtual 45, 3) := by decide +kernel
theorem dX7_fact_22 : decode cX7_fact 22 = .ok (.ireturn, 1) := by decide +kernel
theorem dX7_fact_23 : decode cX7_fact 23 = .ok (.iload_n 1, 1) := by decide +kernel
theorem dX7_fact_24 : decode cX7_fact 24 = .ok (.aload_n 0, 1) := by decide +kernel
theorem dX7_fact_25 : decode cX7_fact 25 = .ok (.getfield 20, 3) := by decide +kernel
theorem dX7_fact_28 : decode cX7_fact 28 = .ok (.getfield 31, 3) := by decide +kernel
theorem dX7_fact_31 : decode cX7_fact 31 = .ok (.isub, 1) := by decide +kernel
theorem dX7_fact_32 : decode cX7_fact 32 = .ok (.istore_n 3, 1) := by decide +kernel
theorem dX7_fact_33 : decode cX7_fact 33 = .ok (.iload_n 3, 1) := by decide +kernel
theorem dX7_fact_34 : decode cX7_fact 34 = .ok (.aload_n 0, 1) := by decide +kernel
theorem dX7_fact_35 : decode cX7_fact 35 = .ok (.getfield 24, 3) := by decide +kernel
theorem dX7_fact_38 : decode cX7_fact 38 = .ok (.getfield 31, 3) := by decide +kernel
theorem dX7_fact_41 : decode cX7_fact 41 = .ok (.if_icmp .ge 15, 3) := by decide +kernel
theorem dX7_fact_44 : decode cX7_fact 44 = .ok (.aload_n 0, 1) := by decide +kernel
theorem dX7_fact_45 : decode cX7_fact 45 = .ok (.aload_n 0, 1) := by decide +kernel
theorem dX7_fact_46 : decode cX7_fact 46 = .ok (.getfield 24, 3) := by decide +kernel
theorem dX7_fact_49 : decode cX7_fact 49 = .ok (.iload_n 3, 1) := by decide +kernel
theorem dX7_fact_50 : decode cX7_fact 50 = .ok (.iconst 1, 1) := by decide +kernel
theorem dX7_fact_51 : decode cX7_fact 51 = .ok (.iload_n 2, 1) := by decide +kernel
theorem dX7_fact_52 : decode cX7_fact 52 = .ok (.invokevirtual 45, 3) := by decide +kernel
theorem dX7_fact_55 : decode cX7_fact 55 = .ok (.ireturn, 1) := by decide +kernel
theorem dX7_fact_56 : decode cX7_fact 56 = .ok (.aload_n 0, 1) := by decide +kernel
theorem dX7_fact_57 : decode cX7_fact 57 = .ok (.aload_n 0, 1) := by decide +kernel
theorem dX7_fact_58 : decode cX7_fact 58 = .ok (.getfield 24, 3) := by decide +kernel
theorem dX7_fact_61 : decode cX7_fact 61 = .ok (.iload_n 3, 1) := by decide +kernel
theorem dX7_fact_62 : decode cX7_fact 62 = .ok (.aload_n 0, 1) := by decide +kernel
theorem dX7_fact_63 : decode cX7_fact 63 = .ok (.getfield 24, 3) := by decide +kernel
theorem dX7_fact_66 : decode cX7_fact 66 = .ok (.getfield 31, 3) := by decide +kernel
theorem dX7_fact_69 : decode cX7_fact 69 = .ok (.isub, 1) := by decide +kernel
theorem dX7_fact_70 : decode cX7_fact 70 = .ok (.iconst 2, 1) := by decide +kernel
theorem dX7_fact_71 : decode cX7_fact 71 = .ok (.iload_n 2, 1) := by decide +kernel
theorem dX7_fact_72 : decode cX7_fact 72 = .ok (.invokevirtual 45, 3) := by decide +kernel
theorem dX7_fact_75 : decode cX7_fact 75 = .ok (.ireturn, 1) := by decide +kernel
theorem dX7_factOf_0 : decode cX7_factOf 0 = .ok (.iload 4, 2) := by decide +kernel
theorem dX7_factOf_2 : decode cX7_factOf 2 = .ok (.tableswitch 42 0 2 #[26, 33, 35], 26) := by decide +kernel
theorem dX7_factOf_28 : decode cX7_factOf 28 = .ok (.aload_n 1, 1) := by decide +kernel
theorem dX7_factOf_29 : decode cX7_factOf 29 = .ok (.getfield 49, 3) := by decide +kernel
theorem dX7_factOf_32 : decode cX7_factOf 32 = .ok (.iload_n 2, 1) := by decide +kernel
theorem dX7_factOf_33 : decode cX7_factOf 33 = .ok (.iaload, 1) := by decide +kernel
theorem dX7_factOf_34 : decode cX7_factOf 34 = .ok (.ireturn, 1) := by decide +kernel
theorem dX7_factOf_35 : decode cX7_factOf 35 = .ok (.iload_n 3, 1) := by decide +kernel
theorem dX7_factOf_36 : decode cX7_factOf 36 = .ok (.ireturn, 1) := by decide +kernel
theorem dX7_factOf_37 : decode cX7_factOf 37 = .ok (.aload_n 1, 1) := by decide +kernel
theorem dX7_factOf_38 : decode cX7_factOf 38 = .ok (.getfield 52, 3) := by decide +kernel
theorem dX7_factOf_41 : decode cX7_factOf 41 = .ok (.iload_n 2, 1) := by decide +kernel
theorem dX7_factOf_42 : decode cX7_factOf 42 = .ok (.iaload, 1) := by decide +kernel
theorem dX7_factOf_43 : decode cX7_factOf 43 = .ok (.ireturn, 1) := by decide +kernel
theorem dX7_factOf_44 : decode cX7_factOf 44 = .ok (.aload_n 0, 1) := by decide +kernel
theorem dX7_factOf_45 : decode cX7_factOf 45 = .ok (.getfield 27, 3) := by decide +kernel
theorem dX7_factOf_48 : decode cX7_factOf 48 = .ok (.aload_n 1, 1) := by decide +kernel
theorem dX7_factOf_49 : decode cX7_factOf 49 = .ok (.getfield 49, 3) := by decide +kernel
theorem dX7_factOf_52 : decode cX7_factOf 52 = .ok (.iload_n 2, 1) := by decide +kernel
theorem dX7_factOf_53 : decode cX7_factOf 53 = .ok (.iaload, 1) := by decide +kernel
theorem dX7_factOf_54 : decode cX7_factOf 54 = .ok (.iaload, 1) := by decide +kernel
theorem dX7_factOf_55 : decode cX7_factOf 55 = .ok (.ireturn, 1) := by decide +kernel
theorem dX8_init_0 : decode cX8_init 0 = .ok (.aload_n 0, 1) := by decide +kernel
theorem dX8_init_1 : decode cX8_init 1 = .ok (.invokespecial 3, 3) := by decide +kernel
theorem dX8_init_4 : decode cX8_init 4 = .ok (.aload_n 0, 1) := by decide +kernel
theorem dX8_init_5 : decode cX8_init 5 = .ok (.bipush 6, 2) := by decide +kernel
theorem dX8_init_7 : decode cX8_init 7 = .ok (.anewarray 9, 3) := by decide +kernel
theorem dX8_init_10 : decode cX8_init 10 = .ok (.putfield 11, 3) := by decide +kernel
theorem dX8_init_13 : decode cX8_init 13 = .ok (.aload_n 0, 1) := by decide +kernel
theorem dX8_init_14 : decode cX8_init 14 = .ok (.new 17, 3) := by decide +kernel
theorem dX8_init_17 : decode cX8_init 17 = .ok (.dup, 1) := by decide +kernel
theorem dX8_init_18 : decode cX8_init 18 = .ok (.invokespecial 19, 3) := by decide +kernel
theorem dX8_init_21 : decode cX8_init 21 = .ok (.putfield 20, 3) := by decide +kernel
theorem dX8_init_24 : decode cX8_init 24 = .ok (.aload_n 0, 1) := by decide +kernel
theorem dX8_init_25 : decode cX8_init 25 = .ok (.iconst 4, 1) := by decide +kernel
theorem dX8_init_26 : decode cX8_init 26 = .ok (.newarray .int, 2) := by decide +kernel
theorem dX8_init_28 : decode cX8_init 28 = .ok (.putfield 24, 3) := by decide +kernel
theorem dX8_init_31 : decode cX8_init 31 = .ok (.aload_n 0, 1) := by decide +kernel
theorem dX8_init_32 : decode cX8_init 32 = .ok (.new 28, 3) := by decide +kernel
theorem dX8_init_35 : decode cX8_init 35 = .ok (.dup, 1) := by decide +kernel
theorem dX8_init_36 : decode cX8_init 36 = .ok (.invokespecial 30, 3) := by decide +kernel
theorem dX8_init_39 : decode cX8_init 39 = .ok (.putfield 31, 3) := by decide +kernel
theorem dX8_init_42 : decode cX8_init 42 = .ok (.aload_n 0, 1) := by decide +kernel
theorem dX8_init_43 : decode cX8_init 43 = .ok (.bipush 6, 2) := by decide +kernel
theorem dX8_init_45 : decode cX8_init 45 = .ok (.newarray .int, 2) := by decide +kernel
theorem dX8_init_47 : decode cX8_init 47 = .ok (.putfield 35, 3) := by decide +kernel
theorem dX8_init_50 : decode cX8_init 50 = .ok (.aload_n 0, 1) := by decide +kernel
theorem dX8_init_51 : decode cX8_init 51 = .ok (.new 38, 3) := by decide +kernel
theorem dX8_init_54 : decode cX8_init 54 = .ok (.dup, 1) := by decide +kernel
theorem dX8_init_55 : decode cX8_init 55 = .ok (.invokespecial 40, 3) := by decide +kernel
theorem dX8_init_58 : decode cX8_init 58 = .ok (.putfield 41, 3) := by decide +kernel
theorem dX8_init_61 : decode cX8_init 61 = .ok (.aload_n 0, 1) := by decide +kernel
theorem dX8_init_62 : decode cX8_init 62 = .ok (.new 38, 3) := by decide +kernel
theorem dX8_init_65 : decode cX8_init 65 = .ok (.dup, 1) := by decide +kernel
theorem dX8_init_66 : decode cX8_init 66 = .ok (.invokespecial 40, 3) := by decide +kernel
theorem dX8_init_69 : decode cX8_init 69 = .ok (.putfield 45, 3) := by decide +kernel
theorem dX8_init_72 : decode cX8_init 72 = .ok (.iconst 0, 1) := by decide +kernel
theorem dX8_init_73 : decode cX8_init 73 = .ok (.istore_n 1, 1) := by decide +kernel
theorem dX8_init_74 : decode cX8_init 74 = .ok (.iload_n 1, 1) := by decide +kernel
theorem dX8_init_75 : decode cX8_init 75 = .ok (.bipush 6, 2) := by decide +kernel
theorem dX8_init_77 : decode cX8_init 77 = .ok (.if_icmp .ge 22, 3) := by decide +kernel
theorem dX8_init_80 : decode cX8_init 80 = .ok (.aload_n 0, 1) := by decide +kernel
theorem dX8_init_81 : decode cX8_init 81 = .ok (.getfield 11, 3) := by decide +kernel
theorem dX8_init_84 : decode cX8_init 84 = .ok (.iload_n 1, 1) := by decide +kernel
theorem dX8_init_85 : decode cX8_init 85 = .ok (.new 9, 3) := by decide +kernel
theorem dX8_init_88 : decode cX8_init 88 = .ok (.dup, 1) := by decide +kernel
theorem dX8_init_89 : decode cX8_init 89 = .ok (.invokespecial 48, 3) := by decide +kernel
theorem dX8_init_92 : decode cX8_init 92 = .ok (.aastore, 1) := by decide +kernel
theorem dX8_init_93 : decode cX8_init 93 = .ok (.iinc 1 1, 3) := by decide +kernel
theorem dX8_init_96 : decode cX8_init 96 = .ok (.goto (-22), 3) := by decide +kernel
theorem dX8_init_99 : decode cX8_init 99 = .ok (.return_, 1) := by decide +kernel
theorem dX8_sawThrough_0 : decode cX8_sawThrough 0 = .ok (.bipush 10, 2) := by decide +kernel
theorem dX8_sawThrough_2 : decode cX8_sawThrough 2 = .ok (.iload_n 1, 1) := by decide +kernel
theorem dX8_sawThrough_3 : decode cX8_sawThrough 3 = .ok (.imul, 1) := by decide +kernel
theorem dX8_sawThrough_4 : decode cX8_sawThrough 4 = .ok (.istore_n 3, 1) := by decide +kernel
theorem dX8_sawThrough_5 : decode cX8_sawThrough 5 = .ok (.aload_n 0, 1) := by decide +kernel
theorem dX8_sawThrough_6 : decode cX8_sawThrough 6 = .ok (.iload_n 3, 1) := by decide +kernel
theorem dX8_sawThrough_7 : decode cX8_sawThrough 7 = .ok (.iload_n 2, 1) := by decide +kernel
theorem dX8_sawThrough_8 : decode cX8_sawThrough 8 = .ok (.invokevirtual 49, 3) := by decide +kernel
theorem dX8_sawThrough_11 : decode cX8_sawThrough 11 = .ok (.aload_n 0, 1) := by decide +kernel
theorem dX8_sawThrough_12 : decode cX8_sawThrough 12 = .ok (.invokevirtual 53, 3) := by decide +kernel
theorem dX8_sawThrough_15 : decode cX8_sawThrough 15 = .ok (.aload_n 0, 1) := by decide +kernel
theorem dX8_sawThrough_16 : decode cX8_sawThrough 16 = .ok (.invokevirtual 56, 3) := by decide +kernel
theorem dX8_sawThrough_19 : decode cX8_sawThrough 19 = .ok (.iconst 0, 1) := by decide +kernel
theorem dX8_sawThrough_20 : decode cX8_sawThrough 20 = .ok (.istore 4, 2) := by decide +kernel
theorem dX8_sawThrough_22 : decode cX8_sawThrough 22 = .ok (.iload 4, 2) := by decide +kernel
theorem dX8_sawThrough_24 : decode cX8_sawThrough 24 = .ok (.iconst 4, 1) := by decide +kernel
theorem dX8_sawThrough_25 : decode cX8_sawThrough 25 = .ok (.if_icmp .ge 52, 3) := by decide +kernel
theorem dX8_sawThrough_28 : decode cX8_sawThrough 28 = .ok (.aload_n 0, 1) := by decide +kernel
theorem dX8_sawThrough_29 : decode cX8_sawThrough 29 = .ok (.getfield 24, 3) := by decide +kernel
theorem dX8_sawThrough_32 : decode cX8_sawThrough 32 = .ok (.iload 4, 2) := by decide +kernel
theorem dX8_sawThrough_34 : decode cX8_sawThrough 34 = .ok (.iaload, 1) := by decide +kernel
theorem dX8_sawThrough_35 : decode cX8_sawThrough 35 = .ok (.ifCond .le 36, 3) := by decide +kernel
theorem dX8_sawThrough_38 : decode cX8_sawThrough 38 = .ok (.aload_n 0, 1) := by decide +kernel
theorem dX8_sawThrough_39 : decode cX8_sawThrough 39 = .ok (.aload_n 0, 1) := by decide +kernel
theorem dX8_sawThrough_40 : decode cX8_sawThrough 40 = .ok (.getfield 24, 3) := by decide +kernel
theorem dX8_sawThrough_43 : decode cX8_sawThrough 43 = .ok (.iload 4, 2) := by decide +kernel
theorem dX8_sawThrough_45 : decode cX8_sawThrough 45 = .ok (.iaload, 1) := by decide +kernel
theorem dX8_sawThrough_46 : decode cX8_sawThrough 46 = .ok (.iload_n 3, 1) := by decide +kernel
theorem dX8_sawThrough_47 : decode cX8_sawThrough 47 = .ok (.invokevirtual 59, 3) := by decide +kernel
theorem dX8_sawThrough_50 : decode cX8_sawThrough 50 = .ok (.ifCond .eq 21, 3) := by decide +kernel
theorem dX8_sawThrough_53 : decode cX8_sawThrough 53 = .ok (.aload_n 0, 1) := by decide +kernel
theorem dX8_sawThrough_54 : decode cX8_sawThrough 54 = .ok (.getfield 45, 3) := by decide +kernel
theorem dX8_sawThrough_57 : decode cX8_sawThrough 57 = .ok (.aload_n 0, 1) := by decide +kernel
theorem dX8_sawThrough_58 : decode cX8_sawThrough 58 = .ok (.getfield 41, 3) := by decide +kernel
theorem dX8_sawThrough_61 : decode cX8_sawThrough 61 = .ok (.invokevirtual 63, 3) := by decide +kernel
theorem dX8_sawThrough_64 : decode cX8_sawThrough 64 = .ok (.ifCond .eq 7, 3) := by decide +kernel
theorem dX8_sawThrough_67 : decode cX8_sawThrough 67 = .ok (.aload_n 0, 1) := by decide +kernel
theorem dX8_sawThrough_68 : decode cX8_sawThrough 68 = .ok (.invokevirtual 56, 3) := by decide +kernel
theorem dX8_sawThrough_71 : decode cX8_sawThrough 71 = .ok (.iinc 4 1, 3) := by decide +kernel
theorem dX8_sawThrough_74 : decode cX8_sawThrough 74 = .ok (.goto (-52), 3) := by decide +kernel
theorem dX8_sawThrough_77 : decode cX8_sawThrough 77 = .ok (.iconst 0, 1) := by decide +kernel
theorem dX8_sawThrough_78 : decode cX8_sawThrough 78 = .ok (.istore 4, 2) := by decide +kernel
theorem dX8_sawThrough_80 : decode cX8_sawThrough 80 = .ok (.iload 4, 2) := by decide +kernel
theorem dX8_sawThrough_82 : decode cX8_sawThrough 82 = .ok (.bipush 6, 2) := by decide +kernel
theorem dX8_sawThrough_84 : decode cX8_sawThrough 84 = .ok (.if_icmp .ge 47, 3) := by decide +kernel
theorem dX8_sawThrough_87 : decode cX8_sawThrough 87 = .ok (.aload_n 0, 1) := by decide +kernel
theorem dX8_sawThrough_88 : decode cX8_sawThrough 88 = .ok (.getfield 41, 3) := by decide +kernel
theorem dX8_sawThrough_91 : decode cX8_sawThrough 91 = .ok (.getfield 67, 3) := by decide +kernel
theorem dX8_sawThrough_94 : decode cX8_sawThrough 94 = .ok (.iload 4, 2) := by decide +kernel
theorem dX8_sawThrough_96 : decode cX8_sawThrough 96 = .ok (.aload_n 0, 1) := by decide +kernel
theorem dX8_sawThrough_97 : decode cX8_sawThrough 97 = .ok (.getfield 31, 3) := by decide +kernel
theorem dX8_sawThrough_100 : decode cX8_sawThrough 100 = .ok (.getfield 70, 3) := by decide +kernel
theorem dX8_sawThrough_103 : decode cX8_sawThrough 103 = .ok (.iload 4, 2) := by decide +kernel
theorem dX8_sawThrough_105 : decode cX8_sawThrough 105 = .ok (.iaload, 1) := by decide +kernel
theorem dX8_sawThrough_106 : decode cX8_sawThrough 106 = .ok (.iastore, 1) := by decide +kernel
theorem dX8_sawThrough_107 : decode cX8_sawThrough 107 = .ok (.aload_n 0, 1) := by decide +kernel
theorem dX8_sawThrough_108 : decode cX8_sawThrough 108 = .ok (.getfield 20, 3) := by decide +kernel
theorem dX8_sawThrough_111 : decode cX8_sawThrough 111 = .ok (.iload 4, 2) := by decide +kernel
theorem dX8_sawThrough_113 : decode cX8_sawThrough 113 = .ok (.aload_n 0, 1) := by decide +kernel
theorem dX8_sawThrough_114 : decode cX8_sawThrough 114 = .ok (.getfield 41, 3) := by decide +kernel
theorem dX8_sawThrough_117 : decode cX8_sawThrough 117 = .ok (.iload 4, 2) := by decide +kernel
theorem dX8_sawThrough_119 : decode cX8_sawThrough 119 = .ok (.invokevirtual 71, 3) := by decide +kernel
theorem dX8_sawThrough_122 : decode cX8_sawThrough 122 = .ok (.invokevirtual 75, 3) := by decide +kernel
theorem dX8_sawThrough_125 : decode cX8_sawThrough 125 = .ok (.iinc 4 1, 3) := by decide +kernel
theorem dX8_sawThrough_128 : decode cX8_sawThrough 128 = .ok (.goto (-48), 3) := by decide +kernel
theorem dX8_sawThrough_131 : decode cX8_sawThrough 131 = .ok (.aload_n 0, 1) := by decide +kernel
theorem dX8_sawThrough_132 : decode cX8_sawThrough 132 = .ok (.getfield 41, 3) := by decide +kernel
theorem dX8_sawThrough_135 : decode cX8_sawThrough 135 = .ok (.getfield 78, 3) := by decide +kernel
theorem dX8_sawThrough_138 : decode cX8_sawThrough 138 = .ok (.ireturn, 1) := by decide +kernel
theorem dX8_prepare_0 : decode cX8_prepare 0 = .ok (.iconst 0, 1) := by decide +kernel
theorem dX8_prepare_1 : decode cX8_prepare 1 = .ok (.istore_n 3, 1) := by decide +kernel
theorem dX8_prepare_2 : decode cX8_prepare 2 = .ok (.iload_n 3, 1) := by decide +kernel
theorem dX8_prepare_3 : decode cX8_prepare 3 = .ok (.bipush 6, 2) := by decide +kernel
theorem dX8_prepare_5 : decode cX8_prepare 5 = .ok (.if_icmp .ge 90, 3) := by decide +kernel
theorem dX8_prepare_8 : decode cX8_prepare 8 = .ok (.aload_n 0, 1) := by decide +kernel
theorem dX8_prepare_9 : decode cX8_prepare 9 = .ok (.getfield 11, 3) := by decide +kernel
theorem dX8_prepare_12 : decode cX8_prepare 12 = .ok (.iload_n 3, 1) := by decide +kernel
theorem dX8_prepare_13 : decode cX8_prepare 13 = .ok (.aaload, 1) := by decide +kernel
theorem dX8_prepare_14 : decode cX8_prepare 14 = .ok (.astore 4, 2) := by decide +kernel
theorem dX8_prepare_16 : decode cX8_prepare 16 = .ok (.aload_n 0, 1) := by decide +kernel
theorem dX8_prepare_17 : decode cX8_prepare 17 = .ok (.getfield 31, 3) := by decide +kernel
theorem dX8_prepare_20 : decode cX8_prepare 20 = .ok (.getfield 82, 3) := by decide +kernel
theorem dX8_prepare_23 : decode cX8_prepare 23 = .ok (.iload_n 3, 1) := by decide +kernel
theorem dX8_prepare_24 : decode cX8_prepare 24 = .ok (.aload 4, 2) := by decide +kernel
theorem dX8_prepare_26 : decode cX8_prepare 26 = .ok (.getfield 85, 3) := by decide +kernel
theorem dX8_prepare_29 : decode cX8_prepare 29 = .ok (.aload_n 0, 1) := by decide +kernel
theorem dX8_prepare_30 : decode cX8_prepare 30 = .ok (.getfield 88, 3) := by decide +kernel
theorem dX8_prepare_33 : decode cX8_prepare 33 = .ok (.iadd, 1) := by decide +kernel
theorem dX8_prepare_34 : decode cX8_prepare 34 = .ok (.iastore, 1) := by decide +kernel
theorem dX8_prepare_35 : decode cX8_prepare 35 = .ok (.aload_n 0, 1) := by decide +kernel
theorem dX8_prepare_36 : decode cX8_prepare 36 = .ok (.getfield 31, 3) := by decide +kernel
theorem dX8_prepare_39 : decode cX8_prepare 39 = .ok (.getfield 70, 3) := by decide +kernel
theorem dX8_prepare_42 : decode cX8_prepare 42 = .ok (.iload_n 3, 1) := by decide +kernel
theorem dX8_prepare_43 : decode cX8_prepare 43 = .ok (.aload 4, 2) := by decide +kernel
theorem dX8_prepare_45 : decode cX8_prepare 45 = .ok (.invokevirtual 91, 3) := by decide +kernel
theorem dX8_prepare_48 : decode cX8_prepare 48 = .ok (.ifCond .eq 24, 3) := by decide +kernel
theorem dX8_prepare_51 : decode cX8_prepare 51 = .ok (.aload 4, 2) := by decide +kernel
theorem dX8_prepare_53 : decode cX8_prepare 53 = .ok (.getfield 95, 3) := by decide +kernel
theorem dX8_prepare_56 : decode cX8_prepare 56 = .ok (.iload_n 2, 1) := by decide +kernel
theorem dX8_prepare_57 : decode cX8_prepare 57 = .ok (.iconst 1, 1) := by decide +kernel
theorem dX8_prepare_58 : decode cX8_prepare 58 = .ok (.isub, 1) := by decide +kernel
theorem dX8_prepare_59 : decode cX8_prepare 59 = .ok (.iaload, 1) := by decide +kernel
theorem dX8_prepare_60 : decode cX8_prepare 60 = .ok (.aload_n 0, 1) := by decide +kernel
theorem dX8_prepare_61 : decode cX8_prepare 61 = .ok (.getfield 20, 3) := by decide +kernel
theorem dX8_prepare_64 : decode cX8_prepare 64 = .ok (.iload_n 3, 1) := by decide +kernel
theorem dX8_prepare_65 : decode cX8_prepare 65 = .ok (.invokevirtual 96, 3) := by decide +kernel
theorem dX8_prepare_68 : decode cX8_prepare 68 = .ok (.iadd, 1) := by decide +kernel
theorem dX8_prepare_69 : decode cX8_prepare 69 = .ok (.goto 4, 3) := by decide +kernel
theorem dX8_prepare_72 : decode cX8_prepare 72 = .ok (.iconst 0, 1) := by decide +kernel
theorem dX8_prepare_73 : decode cX8_prepare 73 = .ok (.iastore, 1) := by decide +kernel
theorem dX8_prepare_74 : decode cX8_prepare 74 = .ok (.aload_n 0, 1) := by decide +kernel
theorem dX8_prepare_75 : decode cX8_prepare 75 = .ok (.getfield 35, 3) := by decide +kernel
theorem dX8_prepare_78 : decode cX8_prepare 78 = .ok (.iload_n 3, 1) := by decide +kernel
theorem dX8_prepare_79 : decode cX8_prepare 79 = .ok (.iload_n 1, 1) := by decide +kernel
theorem dX8_prepare_80 : decode cX8_prepare 80 = .ok (.aload 4, 2) := by decide +kernel
theorem dX8_prepare_82 : decode cX8_prepare 82 = .ok (.getfield 99, 3) := by decide +kernel
theorem dX8_prepare_85 : decode cX8_prepare 85 = .ok (.invokestatic 102, 3) := by decide +kernel
theorem dX8_prepare_88 : decode cX8_prepare 88 = .ok (.iastore, 1) := by decide +kernel
theorem dX8_prepare_89 : decode cX8_prepare 89 = .ok (.iinc 3 1, 3) := by decide +kernel
theorem dX8_prepare_92 : decode cX8_prepare 92 = .ok (.goto (-90), 3) := by decide +kernel
theorem dX8_prepare_95 : decode cX8_prepare 95 = .ok (.return_, 1) := by decide +kernel
theorem dX8_tryWithoutCant_0 : decode cX8_tryWithoutCant 0 = .ok (.aload_n 0, 1) := by decide +kernel
theorem dX8_tryWithoutCant_1 : decode cX8_tryWithoutCant 1 = .ok (.getfield 45, 3) := by decide +kernel
theorem dX8_tryWithoutCant_4 : decode cX8_tryWithoutCant 4 = .ok (.iconst (-1), 1) := by decide +kernel
theorem dX8_tryWithoutCant_5 : decode cX8_tryWithoutCant 5 = .ok (.putfield 106, 3) := by decide +kernel
theorem dX8_tryWithoutCant_8 : decode cX8_tryWithoutCant 8 = .ok (.aload_n 0, 1) := by decide +kernel
theorem dX8_tryWithoutCant_9 : decode cX8_tryWithoutCant 9 = .ok (.getfield 45, 3) := by decide +kernel
theorem dX8_tryWithoutCant_12 : decode cX8_tryWithoutCant 12 = .ok (.getfield 109, 3) := by decide +kernel
theorem dX8_tryWithoutCant_15 : decode cX8_tryWithoutCant 15 = .ok (.iconst 0, 1) := by decide +kernel
theorem dX8_tryWithoutCant_16 : decode cX8_tryWithoutCant 16 = .ok (.putfield 113, 3) := by decide +kernel
theorem dX8_tryWithoutCant_19 : decode cX8_tryWithoutCant 19 = .ok (.aload_n 0, 1) := by decide +kernel
theorem dX8_tryWithoutCant_20 : decode cX8_tryWithoutCant 20 = .ok (.getfield 45, 3) := by decide +kernel
theorem dX8_tryWithoutCant_23 : decode cX8_tryWithoutCant 23 = .ok (.aload_n 0, 1) := by decide +kernel
theorem dX8_tryWithoutCant_24 : decode cX8_tryWithoutCant 24 = .ok (.bipush (-2), 2) := by decide +kernel
theorem dX8_tryWithoutCant_26 : decode cX8_tryWithoutCant 26 = .ok (.aload_n 0, 1) := by decide +kernel
theorem dX8_tryWithoutCant_27 : decode cX8_tryWithoutCant 27 = .ok (.getfield 88, 3) := by decide +kernel
theorem dX8_tryWithoutCant_30 : decode cX8_tryWithoutCant 30 = .ok (.imul, 1) := by decide +kernel
theorem dX8_tryWithoutCant_31 : decode cX8_tryWithoutCant 31 = .ok (.invokevirtual 118, 3) := by decide +kernel
theorem dX8_tryWithoutCant_34 : decode cX8_tryWithoutCant 34 = .ok (.putfield 78, 3) := by decide +kernel
theorem dX8_tryWithoutCant_37 : decode cX8_tryWithoutCant 37 = .ok (.return_, 1) := by decide +kernel
theorem dX8_tryHeight_0 : decode cX8_tryHeight 0 = .ok (.iload_n 2, 1) := by decide +kernel
theorem dX8_tryHeight_1 : decode cX8_tryHeight 1 = .ok (.iload_n 1, 1) := by decide +kernel
theorem dX8_tryHeight_2 : decode cX8_tryHeight 2 = .ok (.invokestatic 102, 3) := by decide +kernel
theorem dX8_tryHeight_5 : decode cX8_tryHeight 5 = .ok (.istore_n 3, 1) := by decide +kernel
theorem dX8_tryHeight_6 : decode cX8_tryHeight 6 = .ok (.iconst 0, 1) := by decide +kernel
theorem dX8_tryHeight_7 : decode cX8_tryHeight 7 = .ok (.istore 4, 2) := by decide +kernel
theorem dX8_tryHeight_9 : decode cX8_tryHeight 9 = .ok (.iload 4, 2) := by decide +kernel
theorem dX8_tryHeight_11 : decode cX8_tryHeight 11 = .ok (.bipush 6, 2) := by decide +kernel
theorem dX8_tryHeight_13 : decode cX8_tryHeight 13 = .ok (.if_icmp .ge 73, 3) := by decide +kernel
theorem dX8_tryHeight_16 : decode cX8_tryHeight 16 = .ok (.aload_n 0, 1) := by decide +kernel
theorem dX8_tryHeight_17 : decode cX8_tryHeight 17 = .ok (.getfield 11, 3) := by decide +kernel
theorem dX8_tryHeight_20 : decode cX8_tryHeight 20 = .ok (.iload 4, 2) := by decide +kernel
theorem dX8_tryHeight_22 : decode cX8_tryHeight 22 = .ok (.aaload, 1) := by decide +kernel
theorem dX8_tryHeight_23 : decode cX8_tryHeight 23 = .ok (.getfield 99, 3) := by decide +kernel
theorem dX8_tryHeight_26 : decode cX8_tryHeight 26 = .ok (.iload_n 1, 1) := by decide +kernel
theorem dX8_tryHeight_27 : decode cX8_tryHeight 27 = .ok (.if_icmp .ne 25, 3) := by decide +kernel
theorem dX8_tryHeight_30 : decode cX8_tryHeight 30 = .ok (.aload_n 0, 1) := by decide +kernel
theorem dX8_tryHeight_31 : decode cX8_tryHeight 31 = .ok (.getfield 31, 3) := by decide +kernel
theorem dX8_tryHeight_34 : decode cX8_tryHeight 34 = .ok (.getfield 70, 3) := by decide +kernel
theorem dX8_tryHeight_37 : decode cX8_tryHeight 37 = .ok (.iload 4, 2) := by decide +kernel
theorem dX8_tryHeight_39 : decode cX8_tryHeight 39 = .ok (.iaload, 1) := by decide +kernel
theorem dX8_tryHeight_40 : decode cX8_tryHeight 40 = .ok (.ifCond .le 12, 3) := by decide +kernel
theorem dX8_tryHeight_43 : decode cX8_tryHeight 43 = .ok (.iload_n 3, 1) := by decide +kernel
theorem dX8_tryHeight_44 : decode cX8_tryHeight 44 = .ok (.iconst (-1), 1) := by decide +kernel
theorem dX8_tryHeight_45 : decode cX8_tryHeight 45 = .ok (.if_icmp .eq 7, 3) := by decide +kernel
theorem dX8_tryHeight_48 : decode cX8_tryHeight 48 = .ok (.iconst 1, 1) := by decide +kernel
theorem dX8_tryHeight_49 : decode cX8_tryHeight 49 = .ok (.goto 4, 3) := by decide +kernel
theorem dX8_tryHeight_52 : decode cX8_tryHeight 52 = .ok (.iconst 0, 1) := by decide +kernel
theorem dX8_tryHeight_53 : decode cX8_tryHeight 53 = .ok (.istore 5, 2) := by decide +kernel
theorem dX8_tryHeight_55 : decode cX8_tryHeight 55 = .ok (.aload_n 0, 1) := by decide +kernel
theorem dX8_tryHeight_56 : decode cX8_tryHeight 56 = .ok (.getfield 31, 3) := by decide +kernel
theorem dX8_tryHeight_59 : decode cX8_tryHeight 59 = .ok (.getfield 121, 3) := by decide +kernel
theorem dX8_tryHeight_62 : decode cX8_tryHeight 62 = .ok (.iload 4, 2) := by decide +kernel
theorem dX8_tryHeight_64 : decode cX8_tryHeight 64 = .ok (.iload 5, 2) := by decide +kernel
theorem dX8_tryHeight_66 : decode cX8_tryHeight 66 = .ok (.ifCond .eq 12, 3) := by decide +kernel
theorem dX8_tryHeight_69 : decode cX8_tryHeight 69 = .ok (.iload_n 3, 1) := by decide +kernel
theorem dX8_tryHeight_70 : decode cX8_tryHeight 70 = .ok (.aload_n 0, 1) := by decide +kernel
theorem dX8_tryHeight_71 : decode cX8_tryHeight 71 = .ok (.getfield 88, 3) := by decide +kernel
theorem dX8_tryHeight_74 : decode cX8_tryHeight 74 = .ok (.iadd, 1) := by decide +kernel
theorem dX8_tryHeight_75 : decode cX8_tryHeight 75 = .ok (.goto 4, 3) := by decide +kernel
theorem dX8_tryHeight_78 : decode cX8_tryHeight 78 = .ok (.iconst (-1), 1) := by decide +kernel
theorem dX8_tryHeight_79 : decode cX8_tryHeight 79 = .ok (.iastore, 1) := by decide +kernel
theorem dX8_tryHeight_80 : decode cX8_tryHeight 80 = .ok (.iinc 4 1, 3) := by decide +kernel
theorem dX8_tryHeight_83 : decode cX8_tryHeight 83 = .ok (.goto (-74), 3) := by decide +kernel
theorem dX8_tryHeight_86 : decode cX8_tryHeight 86 = .ok (.aload_n 0, 1) := by decide +kernel
theorem dX8_tryHeight_87 : decode cX8_tryHeight 87 = .ok (.getfield 31, 3) := by decide +kernel
theorem dX8_tryHeight_90 : decode cX8_tryHeight 90 = .ok (.invokevirtual 124, 3) := by decide +kernel
theorem dX8_tryHeight_93 : decode cX8_tryHeight 93 = .ok (.istore 4, 2) := by decide +kernel
theorem dX8_tryHeight_95 : decode cX8_tryHeight 95 = .ok (.iload 4, 2) := by decide +kernel
theorem dX8_tryHeight_97 : decode cX8_tryHeight 97 = .ok (.ifCond .ne 5, 3) := by decide +kernel
theorem dX8_tryHeight_100 : decode cX8_tryHeight 100 = .ok (.iconst 0, 1) := by decide +kernel
theorem dX8_tryHeight_101 : decode cX8_tryHeight 101 = .ok (.ireturn, 1) := by decide +kernel
theorem dX8_tryHeight_102 : decode cX8_tryHeight 102 = .ok (.aload_n 0, 1) := by decide +kernel
theorem dX8_tryHeight_103 : decode cX8_tryHeight 103 = .ok (.getfield 31, 3) := by decide +kernel
theorem dX8_tryHeight_106 : decode cX8_tryHeight 106 = .ok (.aload_n 0, 1) := by decide +kernel
theorem dX8_tryHeight_107 : decode cX8_tryHeight 107 = .ok (.getfield 45, 3) := by decide +kernel
theorem dX8_tryHeight_110 : decode cX8_tryHeight 110 = .ok (.getfield 109, 3) := by decide +kernel
theorem dX8_tryHeight_113 : decode cX8_tryHeight 113 = .ok (.invokevirtual 128, 3) := by decide +kernel
theorem dX8_tryHeight_116 : decode cX8_tryHeight 116 = .ok (.aload_n 0, 1) := by decide +kernel
theorem dX8_tryHeight_117 : decode cX8_tryHeight 117 = .ok (.getfield 45, 3) := by decide +kernel
theorem dX8_tryHeight_120 : decode cX8_tryHeight 120 = .ok (.iload_n 1, 1) := by decide +kernel
theorem dX8_tryHeight_121 : decode cX8_tryHeight 121 = .ok (.putfield 106, 3) := by decide +kernel
theorem dX8_tryHeight_124 : decode cX8_tryHeight 124 = .ok (.aload_n 0, 1) := by decide +kernel
theorem dX8_tryHeight_125 : decode cX8_tryHeight 125 = .ok (.getfield 45, 3) := by decide +kernel
theorem dX8_tryHeight_128 : decode cX8_tryHeight 128 = .ok (.iload 4, 2) := by decide +kernel
theorem dX8_tryHeight_130 : decode cX8_tryHeight 130 = .ok (.iconst 2, 1) := by decide +kernel
theorem dX8_tryHeight_131 : decode cX8_tryHeight 131 = .ok (.aload_n 0, 1) := by decide +kernel
theorem dX8_tryHeight_132 : decode cX8_tryHeight 132 = .ok (.iload_n 1, 1) := by decide +kernel
theorem dX8_tryHeight_133 : decode cX8_tryHeight 133 = .ok (.invokevirtual 118, 3) := by decide +kernel
theorem dX8_tryHeight_136 : decode cX8_tryHeight 136 = .ok (.imul, 1) := by decide +kernel
theorem dX8_tryHeight_137 : decode cX8_tryHeight 137 = .ok (.iadd, 1) := by decide +kernel
theorem dX8_tryHeight_138 : decode cX8_tryHeight 138 = .ok (.putfield 78, 3) := by decide +kernel
theorem dX8_tryHeight_141 : decode cX8_tryHeight 141 = .ok (.iconst 1, 1) := by decide +kernel
theorem dX8_tryHeight_142 : decode cX8_tryHeight 142 = .ok (.ireturn, 1) := by decide +kernel
theorem dX8_stackFrom_0 : decode cX8_stackFrom 0 = .ok (.iconst 0, 1) := by decide +kernel
theorem dX8_stackFrom_1 : decode cX8_stackFrom 1 = .ok (.istore_n 2, 1) := by decide +kernel
theorem dX8_stackFrom_2 : decode cX8_stackFrom 2 = .ok (.iload_n 2, 1) := by decide +kernel
theorem dX8_stackFrom_3 : decode cX8_stackFrom 3 = .ok (.bipush 6, 2) := by decide +kernel
theorem dX8_stackFrom_5 : decode cX8_stackFrom 5 = .ok (.if_icmp .ge 74, 3) := by decide +kernel
theorem dX8_stackFrom_8 : decode cX8_stackFrom 8 = .ok (.aload_n 0, 1) := by decide +kernel
theorem dX8_stackFrom_9 : decode cX8_stackFrom 9 = .ok (.getfield 31, 3) := by decide +kernel
theorem dX8_stackFrom_12 : decode cX8_stackFrom 12 = .ok (.getfield 70, 3) := by decide +kernel
theorem dX8_stackFrom_15 : decode cX8_stackFrom 15 = .ok (.iload_n 2, 1) := by decide +kernel
theorem dX8_stackFrom_16 : decode cX8_stackFrom 16 = .ok (.iaload, 1) := by decide +kernel
theorem dX8_stackFrom_17 : decode cX8_stackFrom 17 = .ok (.ifCond .le 27, 3) := by decide +kernel
theorem dX8_stackFrom_20 : decode cX8_stackFrom 20 = .ok (.aload_n 0, 1) := by decide +kernel
theorem dX8_stackFrom_21 : decode cX8_stackFrom 21 = .ok (.getfield 35, 3) := by decide +kernel
theorem dX8_stackFrom_24 : decode cX8_stackFrom 24 = .ok (.iload_n 2, 1) := by decide +kernel
theorem dX8_stackFrom_25 : decode cX8_stackFrom 25 = .ok (.iaload, 1) := by decide +kernel
theorem dX8_stackFrom_26 : decode cX8_stackFrom 26 = .ok (.iconst (-1), 1) := by decide +kernel
theorem dX8_stackFrom_27 : decode cX8_stackFrom 27 = .ok (.if_icmp .eq 17, 3) := by decide +kernel
theorem dX8_stackFrom_30 : decode cX8_stackFrom 30 = .ok (.aload_n 0, 1) := by decide +kernel
theorem dX8_stackFrom_31 : decode cX8_stackFrom 31 = .ok (.getfield 35, 3) := by decide +kernel
theorem dX8_stackFrom_34 : decode cX8_stackFrom 34 = .ok (.iload_n 2, 1) := by decide +kernel
theorem dX8_stackFrom_35 : decode cX8_stackFrom 35 = .ok (.iaload, 1) := by decide +kernel
theorem dX8_stackFrom_36 : decode cX8_stackFrom 36 = .ok (.iload_n 1, 1) := by decide +kernel
theorem dX8_stackFrom_37 : decode cX8_stackFrom 37 = .ok (.if_icmp .lt 7, 3) := by decide +kernel
theorem dX8_stackFrom_40 : decode cX8_stackFrom 40 = .ok (.iconst 1, 1) := by decide +kernel
theorem dX8_stackFrom_41 : decode cX8_stackFrom 41 = .ok (.goto 4, 3) := by decide +kernel
theorem dX8_stackFrom_44 : decode cX8_stackFrom 44 = .ok (.iconst 0, 1) := by decide +kernel
theorem dX8_stackFrom_45 : decode cX8_stackFrom 45 = .ok (.istore_n 3, 1) := by decide +kernel
theorem dX8_stackFrom_46 : decode cX8_stackFrom 46 = .ok (.aload_n 0, 1) := by decide +kernel
theorem dX8_stackFrom_47 : decode cX8_stackFrom 47 = .ok (.getfield 31, 3) := by decide +kernel
theorem dX8_stackFrom_50 : decode cX8_stackFrom 50 = .ok (.getfield 121, 3) := by decide +kernel
theorem dX8_stackFrom_53 : decode cX8_stackFrom 53 = .ok (.iload_n 2, 1) := by decide +kernel
theorem dX8_stackFrom_54 : decode cX8_stackFrom 54 = .ok (.iload_n 3, 1) := by decide +kernel
theorem dX8_stackFrom_55 : decode cX8_stackFrom 55 = .ok (.ifCond .eq 16, 3) := by decide +kernel
theorem dX8_stackFrom_58 : decode cX8_stackFrom 58 = .ok (.aload_n 0, 1) := by decide +kernel
theorem dX8_stackFrom_59 : decode cX8_stackFrom 59 = .ok (.getfield 35, 3) := by decide +kernel
theorem dX8_stackFrom_62 : decode cX8_stackFrom 62 = .ok (.iload_n 2, 1) := by decide +kernel
theorem dX8_stackFrom_63 : decode cX8_stackFrom 63 = .ok (.iaload, 1) := by decide +kernel
theorem dX8_stackFrom_64 : decode cX8_stackFrom 64 = .ok (.iload_n 1, 1) := by decide +kernel
theorem dX8_stackFrom_65 : decode cX8_stackFrom 65 = .ok (.isub, 1) := by decide +kernel
theorem dX8_stackFrom_66 : decode cX8_stackFrom 66 = .ok (.iconst 2, 1) := by decide +kernel
theorem dX8_stackFrom_67 : decode cX8_stackFrom 67 = .ok (.idiv, 1) := by decide +kernel
theorem dX8_stackFrom_68 : decode cX8_stackFrom 68 = .ok (.goto 4, 3) := by decide +kernel
theorem dX8_stackFrom_71 : decode cX8_stackFrom 71 = .ok (.iconst (-1), 1) := by decide +kernel
theorem dX8_stackFrom_72 : decode cX8_stackFrom 72 = .ok (.iastore, 1) := by decide +kernel
theorem dX8_stackFrom_73 : decode cX8_stackFrom 73 = .ok (.iinc 2 1, 3) := by decide +kernel
theorem dX8_stackFrom_76 : decode cX8_stackFrom 76 = .ok (.goto (-74), 3) := by decide +kernel
theorem dX8_stackFrom_79 : decode cX8_stackFrom 79 = .ok (.aload_n 0, 1) := by decide +kernel
theorem dX8_stackFrom_80 : decode cX8_stackFrom 80 = .ok (.getfield 31, 3) := by decide +kernel
theorem dX8_stackFrom_83 : decode cX8_stackFrom 83 = .ok (.invokevirtual 124, 3) := by decide +kernel
theorem dX8_stackFrom_86 : decode cX8_stackFrom 86 = .ok (.istore_n 2, 1) := by decide +kernel
theorem dX8_stackFrom_87 : decode cX8_stackFrom 87 = .ok (.aload_n 0, 1) := by decide +kernel
theorem dX8_stackFrom_88 : decode cX8_stackFrom 88 = .ok (.getfield 45, 3) := by decide +kernel
theorem dX8_stackFrom_91 : decode cX8_stackFrom 91 = .ok (.getfield 132, 3) := by decide +kernel
theorem dX8_stackFrom_94 : decode cX8_stackFrom 94 = .ok (.astore_n 3, 1) := by decide +kernel
theorem dX8_stackFrom_95 : decode cX8_stackFrom 95 = .ok (.aload_n 0, 1) := by decide +kernel
theorem dX8_stackFrom_96 : decode cX8_stackFrom 96 = .ok (.getfield 31, 3) := by decide +kernel
theorem dX8_stackFrom_99 : decode cX8_stackFrom 99 = .ok (.aload_n 3, 1) := by decide +kernel
theorem dX8_stackFrom_100 : decode cX8_stackFrom 100 = .ok (.invokevirtual 128, 3) := by decide +kernel
theorem dX8_stackFrom_103 : decode cX8_stackFrom 103 = .ok (.iconst 0, 1) := by decide +kernel
theorem dX8_stackFrom_104 : decode cX8_stackFrom 104 = .ok (.istore 4, 2) := by decide +kernel
theorem dX8_stackFrom_106 : decode cX8_stackFrom 106 = .ok (.iload 4, 2) := by decide +kernel
theorem dX8_stackFrom_108 : decode cX8_stackFrom 108 = .ok (.aload_n 3, 1) := by decide +kernel
theorem dX8_stackFrom_109 : decode cX8_stackFrom 109 = .ok (.getfield 113, 3) := by decide +kernel
theorem dX8_stackFrom_112 : decode cX8_stackFrom 112 = .ok (.if_icmp .ge 43, 3) := by decide +kernel
theorem dX8_stackFrom_115 : decode cX8_stackFrom 115 = .ok (.aload_n 3, 1) := by decide +kernel
theorem dX8_stackFrom_116 : decode cX8_stackFrom 116 = .ok (.getfield 135, 3) := by decide +kernel
theorem dX8_stackFrom_119 : decode cX8_stackFrom 119 = .ok (.iload 4, 2) := by decide +kernel
theorem dX8_stackFrom_121 : decode cX8_stackFrom 121 = .ok (.iload_n 1, 1) := by decide +kernel
theorem dX8_stackFrom_122 : decode cX8_stackFrom 122 = .ok (.iconst 2, 1) := by decide +kernel
theorem dX8_stackFrom_123 : decode cX8_stackFrom 123 = .ok (.aload_n 3, 1) := by decide +kernel
theorem dX8_stackFrom_124 : decode cX8_stackFrom 124 = .ok (.getfield 135, 3) := by decide +kernel
theorem dX8_stackFrom_127 : decode cX8_stackFrom 127 = .ok (.iload 4, 2) := by decide +kernel
theorem dX8_stackFrom_129 : decode cX8_stackFrom 129 = .ok (.iaload, 1) := by decide +kernel
theorem dX8_stackFrom_130 : decode cX8_stackFrom 130 = .ok (.aload_n 0, 1) := by decide +kernel
theorem dX8_stackFrom_131 : decode cX8_stackFrom 131 = .ok (.getfield 31, 3) := by decide +kernel
theorem dX8_stackFrom_134 : decode cX8_stackFrom 134 = .ok (.getfield 82, 3) := by decide +kernel
theorem dX8_stackFrom_137 : decode cX8_stackFrom 137 = .ok (.aload_n 3, 1) := by decide +kernel
theorem dX8_stackFrom_138 : decode cX8_stackFrom 138 = .ok (.getfield 138, 3) := by decide +kernel
theorem dX8_stackFrom_141 : decode cX8_stackFrom 141 = .ok (.iload 4, 2) := by decide +kernel
theorem dX8_stackFrom_143 : decode cX8_stackFrom 143 = .ok (.iaload, 1) := by decide +kernel
theorem dX8_stackFrom_144 : decode cX8_stackFrom 144 = .ok (.iaload, 1) := by decide +kernel
theorem dX8_stackFrom_145 : decode cX8_stackFrom 145 = .ok (.iadd, 1) := by decide +kernel
theorem dX8_stackFrom_146 : decode cX8_stackFrom 146 = .ok (.imul, 1) := by decide +kernel
theorem dX8_stackFrom_147 : decode cX8_stackFrom 147 = .ok (.iadd, 1) := by decide +kernel
theorem dX8_stackFrom_148 : decode cX8_stackFrom 148 = .ok (.iastore, 1) := by decide +kernel
theorem dX8_stackFrom_149 : decode cX8_stackFrom 149 = .ok (.iinc 4 1, 3) := by decide +kernel
theorem dX8_stackFrom_152 : decode cX8_stackFrom 152 = .ok (.goto (-46), 3) := by decide +kernel
theorem dX8_stackFrom_155 : decode cX8_stackFrom 155 = .ok (.iload_n 2, 1) := by decide +kernel
theorem dX8_stackFrom_156 : decode cX8_stackFrom 156 = .ok (.ireturn, 1) := by decide +kernel
theorem dX8_keepTrial_0 : decode cX8_keepTrial 0 = .ok (.aload_n 0, 1) := by decide +kernel
theorem dX8_keepTrial_1 : decode cX8_keepTrial 1 = .ok (.getfield 45, 3) := by decide +kernel
theorem dX8_keepTrial_4 : decode cX8_keepTrial 4 = .ok (.astore_n 1, 1) := by decide +kernel
theorem dX8_keepTrial_5 : decode cX8_keepTrial 5 = .ok (.aload_n 0, 1) := by decide +kernel
theorem dX8_keepTrial_6 : decode cX8_keepTrial 6 = .ok (.aload_n 0, 1) := by decide +kernel
theorem dX8_keepTrial_7 : decode cX8_keepTrial 7 = .ok (.getfield 41, 3) := by decide +kernel
theorem dX8_keepTrial_10 : decode cX8_keepTrial 10 = .ok (.putfield 45, 3) := by decide +kernel
theorem dX8_keepTrial_13 : decode cX8_keepTrial 13 = .ok (.aload_n 0, 1) := by decide +kernel
theorem dX8_keepTrial_14 : decode cX8_keepTrial 14 = .ok (.aload_n 1, 1) := by decide +kernel
theorem dX8_keepTrial_15 : decode cX8_keepTrial 15 = .ok (.putfield 41, 3) := by decide +kernel
theorem dX8_keepTrial_18 : decode cX8_keepTrial 18 = .ok (.return_, 1) := by decide +kernel
theorem dX9_init_0 : decode cX9_init 0 = .ok (.aload_n 0, 1) := by decide +kernel
theorem dX9_init_1 : decode cX9_init 1 = .ok (.invokespecial 3, 3) := by decide +kernel
theorem dX9_init_4 : decode cX9_init 4 = .ok (.aload_n 0, 1) := by decide +kernel
theorem dX9_init_5 : decode cX9_init 5 = .ok (.iload_n 1, 1) := by decide +kernel
theorem dX9_init_6 : decode cX9_init 6 = .ok (.putfield 9, 3) := by decide +kernel
theorem dX9_init_9 : decode cX9_init 9 = .ok (.aload_n 0, 1) := by decide +kernel
theorem dX9_init_10 : decode cX9_init 10 = .ok (.iload_n 1, 1) := by decide +kernel
theorem dX9_init_11 : decode cX9_init 11 = .ok (.iconst 1, 1) := by decide +kernel
theorem dX9_init_12 : decode cX9_init 12 = .ok (.iadd, 1) := by decide +kernel
theorem dX9_init_13 : decode cX9_init 13 = .ok (.newarray .int, 2) := by decide +kernel
theorem dX9_init_15 : decode cX9_init 15 = .ok (.putfield 15, 3) := by decide +kernel
theorem dX9_init_18 : decode cX9_init 18 = .ok (.aload_n 0, 1) := by decide +kernel
theorem dX9_init_19 : decode cX9_init 19 = .ok (.iload_n 1, 1) := by decide +kernel
theorem dX9_init_20 : decode cX9_init 20 = .ok (.iconst 1, 1) := by decide +kernel
theorem dX9_init_21 : decode cX9_init 21 = .ok (.iadd, 1) := by decide +kernel
theorem dX9_init_22 : decode cX9_init 22 = .ok (.newarray .int, 2) := by decide +kernel
theorem dX9_init_24 : decode cX9_init 24 = .ok (.putfield 19, 3) := by decide +kernel
theorem dX9_init_27 : decode cX9_init 27 = .ok (.aload_n 0, 1) := by decide +kernel
theorem dX9_init_28 : decode cX9_init 28 = .ok (.iload_n 1, 1) := by decide +kernel
theorem dX9_init_29 : decode cX9_init 29 = .ok (.iconst 1, 1) := by decide +kernel
theorem dX9_init_30 : decode cX9_init 30 = .ok (.iadd, 1) := by decide +kernel
theorem dX9_init_31 : decode cX9_init 31 = .ok (.newarray .int, 2) := by decide +kernel
theorem dX9_init_33 : decode cX9_init 33 = .ok (.putfield 22, 3) := by decide +kernel
theorem dX9_init_36 : decode cX9_init 36 = .ok (.aload_n 0, 1) := by decide +kernel
theorem dX9_init_37 : decode cX9_init 37 = .ok (.iload_n 1, 1) := by decide +kernel
theorem dX9_init_38 : decode cX9_init 38 = .ok (.iconst 1, 1) := by decide +kernel
theorem dX9_init_39 : decode cX9_init 39 = .ok (.iadd, 1) := by decide +kernel
theorem dX9_init_40 : decode cX9_init 40 = .ok (.newarray .int, 2) := by decide +kernel
theorem dX9_init_42 : decode cX9_init 42 = .ok (.putfield 25, 3) := by decide +kernel
theorem dX9_init_45 : decode cX9_init 45 = .ok (.iconst 0, 1) := by decide +kernel
theorem dX9_init_46 : decode cX9_init 46 = .ok (.istore_n 2, 1) := by decide +kernel
theorem dX9_init_47 : decode cX9_init 47 = .ok (.iload_n 2, 1) := by decide +kernel
theorem dX9_init_48 : decode cX9_init 48 = .ok (.iload_n 1, 1) := by decide +kernel
theorem dX9_init_49 : decode cX9_init 49 = .ok (.if_icmp .gt 24, 3) := by decide +kernel
theorem dX9_init_52 : decode cX9_init 52 = .ok (.aload_n 0, 1) := by decide +kernel
theorem dX9_init_53 : decode cX9_init 53 = .ok (.getfield 15, 3) := by decide +kernel
theorem dX9_init_56 : decode cX9_init 56 = .ok (.iload_n 2, 1) := by decide +kernel
theorem dX9_init_57 : decode cX9_init 57 = .ok (.bipush 50, 2) := by decide +kernel
theorem dX9_init_59 : decode cX9_init 59 = .ok (.iastore, 1) := by decide +kernel
theorem dX9_init_60 : decode cX9_init 60 = .ok (.aload_n 0, 1) := by decide +kernel
theorem dX9_init_61 : decode cX9_init 61 = .ok (.getfield 19, 3) := by decide +kernel
theorem dX9_init_64 : decode cX9_init 64 = .ok (.iload_n 2, 1) := by decide +kernel
theorem dX9_init_65 : decode cX9_init 65 = .ok (.iconst 1, 1) := by decide +kernel
theorem dX9_init_66 : decode cX9_init 66 = .ok (.iastore, 1) := by decide +kernel
theorem dX9_init_67 : decode cX9_init 67 = .ok (.iinc 2 1, 3) := by decide +kernel
theorem dX9_init_70 : decode cX9_init 70 = .ok (.goto (-23), 3) := by decide +kernel
theorem dX9_init_73 : decode cX9_init 73 = .ok (.return_, 1) := by decide +kernel
theorem dX9_spoil_0 : decode cX9_spoil 0 = .ok (.aload_n 0, 1) := by decide +kernel
theorem dX9_spoil_1 : decode cX9_spoil 1 = .ok (.getfield 28, 3) := by decide +kernel
theorem dX9_spoil_4 : decode cX9_spoil 4 = .ok (.bipush 20, 2) := by decide +kernel
theorem dX9_spoil_6 : decode cX9_spoil 6 = .ok (.if_icmp .lt 5, 3) := by decide +kernel
theorem dX9_spoil_9 : decode cX9_spoil 9 = .ok (.iconst 0, 1) := by decide +kernel
theorem dX9_spoil_10 : decode cX9_spoil 10 = .ok (.ireturn, 1) := by decide +kernel
theorem dX9_spoil_11 : decode cX9_spoil 11 = .ok (.aload_n 0, 1) := by decide +kernel
theorem dX9_spoil_12 : decode cX9_spoil 12 = .ok (.dup, 1) := by decide +kernel
theorem dX9_spoil_13 : decode cX9_spoil 13 = .ok (.getfield 28, 3) := by decide +kernel
theorem dX9_spoil_16 : decode cX9_spoil 16 = .ok (.iconst 1, 1) := by decide +kernel
theorem dX9_spoil_17 : decode cX9_spoil 17 = .ok (.iadd, 1) := by decide +kernel
theorem dX9_spoil_18 : decode cX9_spoil 18 = .ok (.putfield 28, 3) := by decide +kernel
theorem dX9_spoil_21 : decode cX9_spoil 21 = .ok (.iload_n 1, 1) := by decide +kernel
theorem dX9_spoil_22 : decode cX9_spoil 22 = .ok (.istore 4, 2) := by decide +kernel
theorem dX9_spoil_24 : decode cX9_spoil 24 = .ok (.iload 4, 2) := by decide +kernel
theorem dX9_spoil_26 : decode cX9_spoil 26 = .ok (.iload_n 2, 1) := by decide +kernel
theorem dX9_spoil_27 : decode cX9_spoil 27 = .ok (.if_icmp .gt 27, 3) := by decide +kernel
theorem dX9_spoil_30 : decode cX9_spoil 30 = .ok (.aload_n 0, 1) := by decide +kernel
theorem dX9_spoil_31 : decode cX9_spoil 31 = .ok (.getfield 19, 3) := by decide +kernel
theorem dX9_spoil_34 : decode cX9_spoil 34 = .ok (.iload 4, 2) := by decide +kernel
theorem dX9_spoil_36 : decode cX9_spoil 36 = .ok (.aload_n 0, 1) := by decide +kernel
theorem dX9_spoil_37 : decode cX9_spoil 37 = .ok (.getfield 19, 3) := by decide +kernel
theorem dX9_spoil_40 : decode cX9_spoil 40 = .ok (.iload 4, 2) := by decide +kernel
theorem dX9_spoil_42 : decode cX9_spoil 42 = .ok (.iaload, 1) := by decide +kernel
theorem dX9_spoil_43 : decode cX9_spoil 43 = .ok (.iload_n 3, 1) := by decide +kernel
theorem dX9_spoil_44 : decode cX9_spoil 44 = .ok (.invokestatic 31, 3) := by decide +kernel
theorem dX9_spoil_47 : decode cX9_spoil 47 = .ok (.iastore, 1) := by decide +kernel
theorem dX9_spoil_48 : decode cX9_spoil 48 = .ok (.iinc 4 1, 3) := by decide +kernel
theorem dX9_spoil_51 : decode cX9_spoil 51 = .ok (.goto (-27), 3) := by decide +kernel
theorem dX9_spoil_54 : decode cX9_spoil 54 = .ok (.iconst 1, 1) := by decide +kernel
theorem dX9_spoil_55 : decode cX9_spoil 55 = .ok (.ireturn, 1) := by decide +kernel
theorem dX9_lookFrom_0 : decode cX9_lookFrom 0 = .ok (.sipush 900, 3) := by decide +kernel
theorem dX9_lookFrom_3 : decode cX9_lookFrom 3 = .ok (.istore_n 2, 1) := by decide +kernel
theorem dX9_lookFrom_4 : decode cX9_lookFrom 4 = .ok (.iconst 1, 1) := by decide +kernel
theorem dX9_lookFrom_5 : decode cX9_lookFrom 5 = .ok (.istore_n 3, 1) := by decide +kernel
theorem dX9_lookFrom_6 : decode cX9_lookFrom 6 = .ok (.iload_n 1, 1) := by decide +kernel
theorem dX9_lookFrom_7 : decode cX9_lookFrom 7 = .ok (.istore 4, 2) := by decide +kernel
theorem dX9_lookFrom_9 : decode cX9_lookFrom 9 = .ok (.iload 4, 2) := by decide +kernel
theorem dX9_lookFrom_11 : decode cX9_lookFrom 11 = .ok (.aload_n 0, 1) := by decide +kernel
theorem dX9_lookFrom_12 : decode cX9_lookFrom 12 = .ok (.getfield 9, 3) := by decide +kernel
theorem dX9_lookFrom_15 : decode cX9_lookFrom 15 = .ok (.if_icmp .gt 53, 3) := by decide +kernel
theorem dX9_lookFrom_18 : decode cX9_lookFrom 18 = .ok (.iload_n 2, 1) := by decide +kernel
theorem dX9_lookFrom_19 : decode cX9_lookFrom 19 = .ok (.aload_n 0, 1) := by decide +kernel
theorem dX9_lookFrom_20 : decode cX9_lookFrom 20 = .ok (.getfield 15, 3) := by decide +kernel
theorem dX9_lookFrom_23 : decode cX9_lookFrom 23 = .ok (.iload 4, 2) := by decide +kernel
theorem dX9_lookFrom_25 : decode cX9_lookFrom 25 = .ok (.iaload, 1) := by decide +kernel
theorem dX9_lookFrom_26 : decode cX9_lookFrom 26 = .ok (.invokestatic 37, 3) := by decide +kernel
theorem dX9_lookFrom_29 : decode cX9_lookFrom 29 = .ok (.istore_n 2, 1) := by decide +kernel
theorem dX9_lookFrom_30 : decode cX9_lookFrom 30 = .ok (.iload_n 3, 1) := by decide +kernel
theorem dX9_lookFrom_31 : decode cX9_lookFrom 31 = .ok (.aload_n 0, 1) := by decide +kernel
theorem dX9_lookFrom_32 : decode cX9_lookFrom 32 = .ok (.getfield 19, 3) := by decide +kernel
theorem dX9_lookFrom_35 : decode cX9_lookFrom 35 = .ok (.iload 4, 2) := by decide +kernel
theorem dX9_lookFrom_37 : decode cX9_lookFrom 37 = .ok (.iaload, 1) := by decide +kernel
theorem dX9_lookFrom_38 : decode cX9_lookFrom 38 = .ok (.invokestatic 31, 3) := by decide +kernel
theorem dX9_lookFrom_41 : decode cX9_lookFrom 41 = .ok (.istore_n 3, 1) := by decide +kernel
theorem dX9_lookFrom_42 : decode cX9_lookFrom 42 = .ok (.aload_n 0, 1) := by decide +kernel
theorem dX9_lookFrom_43 : decode cX9_lookFrom 43 = .ok (.getfield 22, 3) := by decide +kernel
theorem dX9_lookFrom_46 : decode cX9_lookFrom 46 = .ok (.iload 4, 2) := by decide +kernel
theorem dX9_lookFrom_48 : decode cX9_lookFrom 48 = .ok (.iload_n 1, 1) := by decide +kernel
theorem dX9_lookFrom_49 : decode cX9_lookFrom 49 = .ok (.isub, 1) := by decide +kernel
theorem dX9_lookFrom_50 : decode cX9_lookFrom 50 = .ok (.iload_n 2, 1) := by decide +kernel
theorem dX9_lookFrom_51 : decode cX9_lookFrom 51 = .ok (.iastore, 1) := by decide +kernel
theorem dX9_lookFrom_52 : decode cX9_lookFrom 52 = .ok (.aload_n 0, 1) := by decide +kernel
theorem dX9_lookFrom_53 : decode cX9_lookFrom 53 = .ok (.getfield 25, 3) := by decide +kernel
theorem dX9_lookFrom_56 : decode cX9_lookFrom 56 = .ok (.iload 4, 2) := by decide +kernel
theorem dX9_lookFrom_58 : decode cX9_lookFrom 58 = .ok (.iload_n 1, 1) := by decide +kernel
theorem dX9_lookFrom_59 : decode cX9_lookFrom 59 = .ok (.isub, 1) := by decide +kernel
theorem dX9_lookFrom_60 : decode cX9_lookFrom 60 = .ok (.iload_n 3, 1) := by decide +kernel
theorem dX9_lookFrom_61 : decode cX9_lookFrom 61 = .ok (.iastore, 1) := by decide +kernel
theorem dX9_lookFrom_62 : decode cX9_lookFrom 62 = .ok (.iinc 4 1, 3) := by decide +kernel
theorem dX9_lookFrom_65 : decode cX9_lookFrom 65 = .ok (.goto (-56), 3) := by decide +kernel
theorem dX9_lookFrom_68 : decode cX9_lookFrom 68 = .ok (.return_, 1) := by decide +kernel
theorem dX10_init_0 : decode cX10_init 0 = .ok (.aload_n 0, 1) := by decide +kernel
theorem dX10_init_1 : decode cX10_init 1 = .ok (.invokespecial 1, 3) := by decide +kernel
theorem dX10_init_4 : decode cX10_init 4 = .ok (.aload_n 0, 1) := by decide +kernel
theorem dX10_init_5 : decode cX10_init 5 = .ok (.new 7, 3) := by decide +kernel
theorem dX10_init_8 : decode cX10_init 8 = .ok (.dup, 1) := by decide +kernel
theorem dX10_init_9 : decode cX10_init 9 = .ok (.iload_n 1, 1) := by decide +kernel
theorem dX10_init_10 : decode cX10_init 10 = .ok (.iconst 1, 1) := by decide +kernel
theorem dX10_init_11 : decode cX10_init 11 = .ok (.bipush 80, 2) := by decide +kernel
theorem dX10_init_13 : decode cX10_init 13 = .ok (.invokestatic 11, 3) := by decide +kernel
theorem dX10_init_16 : decode cX10_init 16 = .ok (.ifCond .eq 7, 3) := by decide +kernel
theorem dX10_init_19 : decode cX10_init 19 = .ok (.iload_n 1, 1) := by decide +kernel
theorem dX10_init_20 : decode cX10_init 20 = .ok (.goto 5, 3) := by decide +kernel
theorem dX10_init_23 : decode cX10_init 23 = .ok (.bipush 40, 2) := by decide +kernel
theorem dX10_init_25 : decode cX10_init 25 = .ok (.invokespecial 15, 3) := by decide +kernel
theorem dX10_init_28 : decode cX10_init 28 = .ok (.putfield 18, 3) := by decide +kernel
theorem dX10_init_31 : decode cX10_init 31 = .ok (.aload_n 0, 1) := by decide +kernel
theorem dX10_init_32 : decode cX10_init 32 = .ok (.aload_n 0, 1) := by decide +kernel
theorem dX10_init_33 : decode cX10_init 33 = .ok (.getfield 18, 3) := by decide +kernel
theorem dX10_init_36 : decode cX10_init 36 = .ok (.getfield 22, 3) := by decide +kernel
theorem dX10_init_39 : decode cX10_init 39 = .ok (.putfield 26, 3) := by decide +kernel
theorem dX10_init_42 : decode cX10_init 42 = .ok (.aload_n 0, 1) := by decide +kernel
theorem dX10_init_43 : decode cX10_init 43 = .ok (.aload_n 0, 1) := by decide +kernel
theorem dX10_init_44 : decode cX10_init 44 = .ok (.getfield 18, 3) := by decide +kernel
theorem dX10_init_47 : decode cX10_init 47 = .ok (.getfield 27, 3) := by decide +kernel
theorem dX10_init_50 : decode cX10_init 50 = .ok (.putfield 31, 3) := by decide +kernel
theorem dX10_init_53 : decode cX10_init 53 = .ok (.aload_n 0, 1) := by decide +kernel
theorem dX10_init_54 : decode cX10_init 54 = .ok (.new 32, 3) := by decide +kernel
theorem dX10_init_57 : decode cX10_init 57 = .ok (.dup, 1) := by decide +kernel
theorem dX10_init_58 : decode cX10_init 58 = .ok (.invokespecial 34, 3) := by decide +kernel
theorem dX10_init_61 : decode cX10_init 61 = .ok (.putfield 35, 3) := by decide +kernel
theorem dX10_init_64 : decode cX10_init 64 = .ok (.aload_n 0, 1) := by decide +kernel
theorem dX10_init_65 : decode cX10_init 65 = .ok (.aload_n 0, 1) := by decide +kernel
theorem dX10_init_66 : decode cX10_init 66 = .ok (.getfield 35, 3) := by decide +kernel
theorem dX10_init_69 : decode cX10_init 69 = .ok (.getfield 39, 3) := by decide +kernel
theorem dX10_init_72 : decode cX10_init 72 = .ok (.putfield 43, 3) := by decide +kernel
theorem dX10_init_75 : decode cX10_init 75 = .ok (.aload_n 0, 1) := by decide +kernel
theorem dX10_init_76 : decode cX10_init 76 = .ok (.aload_n 0, 1) := by decide +kernel
theorem dX10_init_77 : decode cX10_init 77 = .ok (.getfield 35, 3) := by decide +kernel
theorem dX10_init_80 : decode cX10_init 80 = .ok (.getfield 44, 3) := by decide +kernel
theorem dX10_init_83 : decode cX10_init 83 = .ok (.putfield 48, 3) := by decide +kernel
theorem dX10_init_86 : decode cX10_init 86 = .ok (.return_, 1) := by decide +kernel
theorem dX10_diameter_0 : decode cX10_diameter 0 = .ok (.iload_n 1, 1) := by decide +kernel
theorem dX10_diameter_1 : decode cX10_diameter 1 = .ok (.iconst 0, 1) := by decide +kernel
theorem dX10_diameter_2 : decode cX10_diameter 2 = .ok (.aload_n 0, 1) := by decide +kernel
theorem dX10_diameter_3 : decode cX10_diameter 3 = .ok (.getfield 26, 3) := by decide +kernel
theorem dX10_diameter_6 : decode cX10_diameter 6 = .ok (.getfield 49, 3) := by decide +kernel
theorem dX10_diameter_9 : decode cX10_diameter 9 = .ok (.invokestatic 11, 3) := by decide +kernel
theorem dX10_diameter_12 : decode cX10_diameter 12 = .ok (.ifCond .eq 15, 3) := by decide +kernel
theorem dX10_diameter_15 : decode cX10_diameter 15 = .ok (.iload_n 2, 1) := by decide +kernel
theorem dX10_diameter_16 : decode cX10_diameter 16 = .ok (.bipush 50, 2) := by decide +kernel
theorem dX10_diameter_18 : decode cX10_diameter 18 = .ok (.sipush 900, 3) := by decide +kernel
theorem dX10_diameter_21 : decode cX10_diameter 21 = .ok (.invokestatic 11, 3) := by decide +kernel
theorem dX10_diameter_24 : decode cX10_diameter 24 = .ok (.ifCond .ne 5, 3) := by decide +kernel
theorem dX10_diameter_27 : decode cX10_diameter 27 = .ok (.iconst 0, 1) := by decide +kernel
theorem dX10_diameter_28 : decode cX10_diameter 28 = .ok (.ireturn, 1) := by decide +kernel
theorem dX10_diameter_29 : decode cX10_diameter 29 = .ok (.aload_n 0, 1) := by decide +kernel
theorem dX10_diameter_30 : decode cX10_diameter 30 = .ok (.getfield 26, 3) := by decide +kernel
theorem dX10_diameter_33 : decode cX10_diameter 33 = .ok (.getfield 55, 3) := by decide +kernel
theorem dX10_diameter_36 : decode cX10_diameter 36 = .ok (.iload_n 1, 1) := by decide +kernel
theorem dX10_diameter_37 : decode cX10_diameter 37 = .ok (.iload_n 2, 1) := by decide +kernel
theorem dX10_diameter_38 : decode cX10_diameter 38 = .ok (.iastore, 1) := by decide +kernel
theorem dX10_diameter_39 : decode cX10_diameter 39 = .ok (.iconst 1, 1) := by decide +kernel
theorem dX10_diameter_40 : decode cX10_diameter 40 = .ok (.ireturn, 1) := by decide +kernel
theorem dX10_defect_0 : decode cX10_defect 0 = .ok (.iload_n 2, 1) := by decide +kernel
theorem dX10_defect_1 : decode cX10_defect 1 = .ok (.iconst 0, 1) := by decide +kernel
theorem dX10_defect_2 : decode cX10_defect 2 = .ok (.aload_n 0, 1) := by decide +kernel
theorem dX10_defect_3 : decode cX10_defect 3 = .ok (.getfield 26, 3) := by decide +kernel
theorem dX10_defect_6 : decode cX10_defect 6 = .ok (.getfield 49, 3) := by decide +kernel
theorem dX10_defect_9 : decode cX10_defect 9 = .ok (.invokestatic 11, 3) := by decide +kernel
theorem dX10_defect_12 : decode cX10_defect 12 = .ok (.ifCond .eq 21, 3) := by decide +kernel
theorem dX10_defect_15 : decode cX10_defect 15 = .ok (.iload_n 1, 1) := by decide +kernel
theorem dX10_defect_16 : decode cX10_defect 16 = .ok (.iconst 0, 1) := by decide +kernel
theorem dX10_defect_17 : decode cX10_defect 17 = .ok (.iload_n 2, 1) := by decide +kernel
theorem dX10_defect_18 : decode cX10_defect 18 = .ok (.invokestatic 11, 3) := by decide +kernel
theorem dX10_defect_21 : decode cX10_defect 21 = .ok (.ifCond .eq 12, 3) := by decide +kernel
theorem dX10_defect_24 : decode cX10_defect 24 = .ok (.iload_n 3, 1) := by decide +kernel
theorem dX10_defect_25 : decode cX10_defect 25 = .ok (.iconst 2, 1) := by decide +kernel
theorem dX10_defect_26 : decode cX10_defect 26 = .ok (.iconst 3, 1) := by decide +kernel
theorem dX10_defect_27 : decode cX10_defect 27 = .ok (.invokestatic 11, 3) := by decide +kernel
theorem dX10_defect_30 : decode cX10_defect 30 = .ok (.ifCond .ne 5, 3) := by decide +kernel
theorem dX10_defect_33 : decode cX10_defect 33 = .ok (.iconst 0, 1) := by decide +kernel
theorem dX10_defect_34 : decode cX10_defect 34 = .ok (.ireturn, 1) := by decide +kernel
theorem dX10_defect_35 : decode cX10_defect 35 = .ok (.aload_n 0, 1) := by decide +kernel
theorem dX10_defect_36 : decode cX10_defect 36 = .ok (.getfield 26, 3) := by decide +kernel
theorem dX10_defect_39 : decode cX10_defect 39 = .ok (.iload_n 1, 1) := by decide +kernel
theorem dX10_defect_40 : decode cX10_defect 40 = .ok (.iload_n 2, 1) := by decide +kernel
theorem dX10_defect_41 : decode cX10_defect 41 = .ok (.iload_n 3, 1) := by decide +kernel
theorem dX10_defect_42 : decode cX10_defect 42 = .ok (.invokevirtual 59, 3) := by decide +kernel
theorem dX10_defect_45 : decode cX10_defect 45 = .ok (.ireturn, 1) := by decide +kernel
theorem dX10_logKind_0 : decode cX10_logKind 0 = .ok (.iload_n 1, 1) := by decide +kernel
theorem dX10_logKind_1 : decode cX10_logKind 1 = .ok (.iconst 0, 1) := by decide +kernel
theorem dX10_logKind_2 : decode cX10_logKind 2 = .ok (.iconst 5, 1) := by decide +kernel
theorem dX10_logKind_3 : decode cX10_logKind 3 = .ok (.invokestatic 11, 3) := by decide +kernel
theorem dX10_logKind_6 : decode cX10_logKind 6 = .ok (.ifCond .eq 24, 3) := by decide +kernel
theorem dX10_logKind_9 : decode cX10_logKind 9 = .ok (.iload_n 2, 1) := by decide +kernel
theorem dX10_logKind_10 : decode cX10_logKind 10 = .ok (.iconst 1, 1) := by decide +kernel
theorem dX10_logKind_11 : decode cX10_logKind 11 = .ok (.bipush 60, 2) := by decide +kernel
theorem dX10_logKind_13 : decode cX10_logKind 13 = .ok (.invokestatic 11, 3) := by decide +kernel
theorem dX10_logKind_16 : decode cX10_logKind 16 = .ok (.ifCond .eq 14, 3) := by decide +kernel
theorem dX10_logKind_19 : decode cX10_logKind 19 = .ok (.iload_n 3, 1) := by decide +kernel
theorem dX10_logKind_20 : decode cX10_logKind 20 = .ok (.iconst 0, 1) := by decide +kernel
theorem dX10_logKind_21 : decode cX10_logKind 21 = .ok (.sipush 900, 3) := by decide +kernel
theorem dX10_logKind_24 : decode cX10_logKind 24 = .ok (.invokestatic 11, 3) := by decide +kernel
theorem dX10_logKind_27 : decode cX10_logKind 27 = .ok (.ifCond .ne 5, 3) := by decide +kernel
theorem dX10_logKind_30 : decode cX10_logKind 30 = .ok (.iconst 0, 1) := by decide +kernel
theorem dX10_logKind_31 : decode cX10_logKind 31 = .ok (.ireturn, 1) := by decide +kernel
theorem dX10_logKind_32 : decode cX10_logKind 32 = .ok (.aload_n 0, 1) := by decide +kernel
theorem dX10_logKind_33 : decode cX10_logKind 33 = .ok (.getfield 31, 3) := by decide +kernel
theorem dX10_logKind_36 : decode cX10_logKind 36 = .ok (.iload_n 1, 1) := by decide +kernel
theorem dX10_logKind_37 : decode cX10_logKind 37 = .ok (.aaload, 1) := by decide +kernel
theorem dX10_logKind_38 : decode cX10_logKind 38 = .ok (.iload_n 2, 1) := by decide +kernel
theorem dX10_logKind_39 : decode cX10_logKind 39 = .ok (.iload_n 3, 1) := by decide +kernel
theorem dX10_logKind_40 : decode cX10_logKind 40 = .ok (.invokevirtual 62, 3) := by decide +kernel
theorem dX10_logKind_43 : decode cX10_logKind 43 = .ok (.iconst 1, 1) := by decide +kernel
theorem dX10_logKind_44 : decode cX10_logKind 44 = .ok (.ireturn, 1) := by decide +kernel
theorem dX10_priceOf_0 : decode cX10_priceOf 0 = .ok (.iload_n 1, 1) := by decide +kernel
theorem dX10_priceOf_1 : decode cX10_priceOf 1 = .ok (.iconst 0, 1) := by decide +kernel
theorem dX10_priceOf_2 : decode cX10_priceOf 2 = .ok (.iconst 5, 1) := by decide +kernel
theorem dX10_priceOf_3 : decode cX10_priceOf 3 = .ok (.invokestatic 11, 3) := by decide +kernel
theorem dX10_priceOf_6 : decode cX10_priceOf 6 = .ok (.ifCond .eq 25, 3) := by decide +kernel
theorem dX10_priceOf_9 : decode cX10_priceOf 9 = .ok (.aload_n 0, 1) := by decide +kernel
theorem dX10_priceOf_10 : decode cX10_priceOf 10 = .ok (.getfield 31, 3) := by decide +kernel
theorem dX10_priceOf_13 : decode cX10_priceOf 13 = .ok (.iload_n 1, 1) := by decide +kernel
theorem dX10_priceOf_14 : decode cX10_priceOf 14 = .ok (.aaload, 1) := by decide +kernel
theorem dX10_priceOf_15 : decode cX10_priceOf 15 = .ok (.invokevirtual 68, 3) := by decide +kernel
theorem dX10_priceOf_18 : decode cX10_priceOf 18 = .ok (.ifCond .eq 13, 3) := by decide +kernel
theorem dX10_priceOf_21 : decode cX10_priceOf 21 = .ok (.iload_n 2, 1) := by decide +kernel
theorem dX10_priceOf_22 : decode cX10_priceOf 22 = .ok (.iconst 0, 1) := by decide +kernel
theorem dX10_priceOf_23 : decode cX10_priceOf 23 = .ok (.bipush 18, 2) := by decide +kernel
theorem dX10_priceOf_25 : decode cX10_priceOf 25 = .ok (.invokestatic 11, 3) := by decide +kernel
theorem dX10_priceOf_28 : decode cX10_priceOf 28 = .ok (.ifCond .ne 5, 3) := by decide +kernel
theorem dX10_priceOf_31 : decode cX10_priceOf 31 = .ok (.iconst 0, 1) := by decide +kernel
theorem dX10_priceOf_32 : decode cX10_priceOf 32 = .ok (.ireturn, 1) := by decide +kernel
theorem dX10_priceOf_33 : decode cX10_priceOf 33 = .ok (.iload_n 3, 1) := by decide +kernel
theorem dX10_priceOf_34 : decode cX10_priceOf 34 = .ok (.iconst 1, 1) := by decide +kernel
theorem dX10_priceOf_35 : decode cX10_priceOf 35 = .ok (.iconst 3, 1) := by decide +kernel
theorem dX10_priceOf_36 : decode cX10_priceOf 36 = .ok (.invokestatic 11, 3) := by decide +kernel
theorem dX10_priceOf_39 : decode cX10_priceOf 39 = .ok (.ifCond .eq 14, 3) := by decide +kernel
theorem dX10_priceOf_42 : decode cX10_priceOf 42 = .ok (.iload 4, 2) := by decide +kernel
theorem dX10_priceOf_44 : decode cX10_priceOf 44 = .ok (.iconst 0, 1) := by decide +kernel
theorem dX10_priceOf_45 : decode cX10_priceOf 45 = .ok (.ldc 72, 2) := by decide +kernel
theorem dX10_priceOf_47 : decode cX10_priceOf 47 = .ok (.invokestatic 11, 3) := by decide +kernel
theorem dX10_priceOf_50 : decode cX10_priceOf 50 = .ok (.ifCond .ne 5, 3) := by decide +kernel
theorem dX10_priceOf_53 : decode cX10_priceOf 53 = .ok (.iconst 0, 1) := by decide +kernel
theorem dX10_priceOf_54 : decode cX10_priceOf 54 = .ok (.ireturn, 1) := by decide +kernel
theorem dX10_priceOf_55 : decode cX10_priceOf 55 = .ok (.aload_n 0, 1) := by decide +kernel
theorem dX10_priceOf_56 : decode cX10_priceOf 56 = .ok (.getfield 31, 3) := by decide +kernel
theorem dX10_priceOf_59 : decode cX10_priceOf 59 = .ok (.iload_n 1, 1) := by decide +kernel
theorem dX10_priceOf_60 : decode cX10_priceOf 60 = .ok (.aaload, 1) := by decide +kernel
theorem dX10_priceOf_61 : decode cX10_priceOf 61 = .ok (.getfield 73, 3) := by decide +kernel
theorem dX10_priceOf_64 : decode cX10_priceOf 64 = .ok (.iload_n 2, 1) := by decide +kernel
theorem dX10_priceOf_65 : decode cX10_priceOf 65 = .ok (.iload_n 3, 1) := by decide +kernel
theorem dX10_priceOf_66 : decode cX10_priceOf 66 = .ok (.invokestatic 76, 3) := by decide +kernel
theorem dX10_priceOf_69 : decode cX10_priceOf 69 = .ok (.iload 4, 2) := by decide +kernel
theorem dX10_priceOf_71 : decode cX10_priceOf 71 = .ok (.iastore, 1) := by decide +kernel
theorem dX10_priceOf_72 : decode cX10_priceOf 72 = .ok (.iconst 1, 1) := by decide +kernel
theorem dX10_priceOf_73 : decode cX10_priceOf 73 = .ok (.ireturn, 1) := by decide +kernel
theorem dX10_buck_0 : decode cX10_buck 0 = .ok (.aload_n 0, 1) := by decide +kernel
theorem dX10_buck_1 : decode cX10_buck 1 = .ok (.getfield 18, 3) := by decide +kernel
theorem dX10_buck_4 : decode cX10_buck 4 = .ok (.invokevirtual 80, 3) := by decide +kernel
theorem dX10_buck_7 : decode cX10_buck 7 = .ok (.ireturn, 1) := by decide +kernel
theorem dX10_byHand_0 : decode cX10_byHand 0 = .ok (.aload_n 0, 1) := by decide +kernel
theorem dX10_byHand_1 : decode cX10_byHand 1 = .ok (.getfield 18, 3) := by decide +kernel
theorem dX10_byHand_4 : decode cX10_byHand 4 = .ok (.lload_n 1, 1) := by decide +kernel
theorem dX10_byHand_5 : decode cX10_byHand 5 = .ok (.invokevirtual 84, 3) := by decide +kernel
theorem dX10_byHand_8 : decode cX10_byHand 8 = .ok (.ireturn, 1) := by decide +kernel
theorem dX10_logs_0 : decode cX10_logs 0 = .ok (.aload_n 0, 1) := by decide +kernel
theorem dX10_logs_1 : decode cX10_logs 1 = .ok (.getfield 18, 3) := by decide +kernel
theorem dX10_logs_4 : decode cX10_logs 4 = .ok (.getfield 88, 3) := by decide +kernel
theorem dX10_logs_7 : decode cX10_logs 7 = .ok (.getfield 92, 3) := by decide +kernel
theorem dX10_logs_10 : decode cX10_logs 10 = .ok (.ireturn, 1) := by decide +kernel
theorem dX10_log_0 : decode cX10_log 0 = .ok (.aload_n 0, 1) := by decide +kernel
theorem dX10_log_1 : decode cX10_log 1 = .ok (.getfield 18, 3) := by decide +kernel
theorem dX10_log_4 : decode cX10_log 4 = .ok (.getfield 88, 3) := by decide +kernel
theorem dX10_log_7 : decode cX10_log 7 = .ok (.astore_n 3, 1) := by decide +kernel
theorem dX10_log_8 : decode cX10_log 8 = .ok (.iload_n 1, 1) := by decide +kernel
theorem dX10_log_9 : decode cX10_log 9 = .ok (.iconst 0, 1) := by decide +kernel
theorem dX10_log_10 : decode cX10_log 10 = .ok (.aload_n 3, 1) := by decide +kernel
theorem dX10_log_11 : decode cX10_log 11 = .ok (.getfield 92, 3) := by decide +kernel
theorem dX10_log_14 : decode cX10_log 14 = .ok (.iconst 1, 1) := by decide +kernel
theorem dX10_log_15 : decode cX10_log 15 = .ok (.isub, 1) := by decide +kernel
theorem dX10_log_16 : decode cX10_log 16 = .ok (.invokestatic 11, 3) := by decide +kernel
theorem dX10_log_19 : decode cX10_log 19 = .ok (.ifCond .eq 12, 3) := by decide +kernel
theorem dX10_log_22 : decode cX10_log 22 = .ok (.iload_n 2, 1) := by decide +kernel
theorem dX10_log_23 : decode cX10_log 23 = .ok (.iconst 0, 1) := by decide +kernel
theorem dX10_log_24 : decode cX10_log 24 = .ok (.iconst 5, 1) := by decide +kernel
theorem dX10_log_25 : decode cX10_log 25 = .ok (.invokestatic 11, 3) := by decide +kernel
theorem dX10_log_28 : decode cX10_log 28 = .ok (.ifCond .ne 11, 3) := by decide +kernel
theorem dX10_log_31 : decode cX10_log 31 = .ok (.new 97, 3) := by decide +kernel
theorem dX10_log_34 : decode cX10_log 34 = .ok (.dup, 1) := by decide +kernel
theorem dX10_log_35 : decode cX10_log 35 = .ok (.invokespecial 99, 3) := by decide +kernel
theorem dX10_log_38 : decode cX10_log 38 = .ok (.athrow, 1) := by decide +kernel
theorem dX10_log_39 : decode cX10_log 39 = .ok (.aload_n 3, 1) := by decide +kernel
theorem dX10_log_40 : decode cX10_log 40 = .ok (.iload_n 1, 1) := by decide +kernel
theorem dX10_log_41 : decode cX10_log 41 = .ok (.iload_n 2, 1) := by decide +kernel
theorem dX10_log_42 : decode cX10_log 42 = .ok (.invokevirtual 100, 3) := by decide +kernel
theorem dX10_log_45 : decode cX10_log 45 = .ok (.ireturn, 1) := by decide +kernel
theorem dX10_size_0 : decode cX10_size 0 = .ok (.iload_n 1, 1) := by decide +kernel
theorem dX10_size_1 : decode cX10_size 1 = .ok (.iconst 0, 1) := by decide +kernel
theorem dX10_size_2 : decode cX10_size 2 = .ok (.iconst 5, 1) := by decide +kernel
theorem dX10_size_3 : decode cX10_size 3 = .ok (.invokestatic 11, 3) := by decide +kernel
theorem dX10_size_6 : decode cX10_size 6 = .ok (.ifCond .eq 15, 3) := by decide +kernel
theorem dX10_size_9 : decode cX10_size 9 = .ok (.iload_n 2, 1) := by decide +kernel
theorem dX10_size_10 : decode cX10_size 10 = .ok (.bipush 50, 2) := by decide +kernel
theorem dX10_size_12 : decode cX10_size 12 = .ok (.sipush 4000, 3) := by decide +kernel
theorem dX10_size_15 : decode cX10_size 15 = .ok (.invokestatic 11, 3) := by decide +kernel
theorem dX10_size_18 : decode cX10_size 18 = .ok (.ifCond .ne 5, 3) := by decide +kernel
theorem dX10_size_21 : decode cX10_size 21 = .ok (.iconst 0, 1) := by decide +kernel
theorem dX10_size_22 : decode cX10_size 22 = .ok (.ireturn, 1) := by decide +kernel
theorem dX10_size_23 : decode cX10_size 23 = .ok (.iload_n 3, 1) := by decide +kernel
theorem dX10_size_24 : decode cX10_size 24 = .ok (.bipush 50, 2) := by decide +kernel
theorem dX10_size_26 : decode cX10_size 26 = .ok (.sipush 4000, 3) := by decide +kernel
theorem dX10_size_29 : decode cX10_size 29 = .ok (.invokestatic 11, 3) := by decide +kernel
theorem dX10_size_32 : decode cX10_size 32 = .ok (.ifCond .ne 5, 3) := by decide +kernel
theorem dX10_size_35 : decode cX10_size 35 = .ok (.iconst 0, 1) := by decide +kernel
theorem dX10_size_36 : decode cX10_size 36 = .ok (.ireturn, 1) := by decide +kernel
theorem dX10_size_37 : decode cX10_size 37 = .ok (.aload_n 0, 1) := by decide +kernel
theorem dX10_size_38 : decode cX10_size 38 = .ok (.getfield 43, 3) := by decide +kernel
theorem dX10_size_41 : decode cX10_size 41 = .ok (.iload_n 1, 1) := by decide +kernel
theorem dX10_size_42 : decode cX10_size 42 = .ok (.aaload, 1) := by decide +kernel
theorem dX10_size_43 : decode cX10_size 43 = .ok (.iload_n 2, 1) := by decide +kernel
theorem dX10_size_44 : decode cX10_size 44 = .ok (.iload_n 3, 1) := by decide +kernel
theorem dX10_size_45 : decode cX10_size 45 = .ok (.invokevirtual 103, 3) := by decide +kernel
theorem dX10_size_48 : decode cX10_size 48 = .ok (.iconst 1, 1) := by decide +kernel
theorem dX10_size_49 : decode cX10_size 49 = .ok (.ireturn, 1) := by decide +kernel
theorem dX10_boardPrice_0 : decode cX10_boardPrice 0 = .ok (.aload_n 0, 1) := by decide +kernel
theorem dX10_boardPrice_1 : decode cX10_boardPrice 1 = .ok (.iload_n 1, 1) := by decide +kernel
theorem dX10_boardPrice_2 : decode cX10_boardPrice 2 = .ok (.invokevirtual 106, 3) := by decide +kernel
theorem dX10_boardPrice_5 : decode cX10_boardPrice 5 = .ok (.ifCond .eq 22, 3) := by decide +kernel
theorem dX10_boardPrice_8 : decode cX10_boardPrice 8 = .ok (.iload_n 2, 1) := by decide +kernel
theorem dX10_boardPrice_9 : decode cX10_boardPrice 9 = .ok (.iconst 1, 1) := by decide +kernel
theorem dX10_boardPrice_10 : decode cX10_boardPrice 10 = .ok (.iconst 3, 1) := by decide +kernel
theorem dX10_boardPrice_11 : decode cX10_boardPrice 11 = .ok (.invokestatic 11, 3) := by decide +kernel
theorem dX10_boardPrice_14 : decode cX10_boardPrice 14 = .ok (.ifCond .eq 13, 3) := by decide +kernel
theorem dX10_boardPrice_17 : decode cX10_boardPrice 17 = .ok (.iload_n 3, 1) := by decide +kernel
theorem dX10_boardPrice_18 : decode cX10_boardPrice 18 = .ok (.iconst 0, 1) := by decide +kernel
theorem dX10_boardPrice_19 : decode cX10_boardPrice 19 = .ok (.ldc 72, 2) := by decide +kernel
theorem dX10_boardPrice_21 : decode cX10_boardPrice 21 = .ok (.invokestatic 11, 3) := by decide +kernel
theorem dX10_boardPrice_24 : decode cX10_boardPrice 24 = .ok (.ifCond .ne 5, 3) := by decide +kernel
theorem dX10_boardPrice_27 : decode cX10_boardPrice 27 = .ok (.iconst 0, 1) := by decide +kernel
theorem dX10_boardPrice_28 : decode cX10_boardPrice 28 = .ok (.ireturn, 1) := by decide +kernel
theorem dX10_boardPrice_29 : decode cX10_boardPrice 29 = .ok (.aload_n 0, 1) := by decide +kernel
theorem dX10_boardPrice_30 : decode cX10_boardPrice 30 = .ok (.getfield 43, 3) := by decide +kernel
theorem dX10_boardPrice_33 : decode cX10_boardPrice 33 = .ok (.iload_n 1, 1) := by decide +kernel
theorem dX10_boardPrice_34 : decode cX10_boardPrice 34 = .ok (.aaload, 1) := by decide +kernel
theorem dX10_boardPrice_35 : decode cX10_boardPrice 35 = .ok (.getfield 110, 3) := by decide +kernel
theorem dX10_boardPrice_38 : decode cX10_boardPrice 38 = .ok (.iload_n 2, 1) := by decide +kernel
theorem dX10_boardPrice_39 : decode cX10_boardPrice 39 = .ok (.iconst 1, 1) := by decide +kernel
theorem dX10_boardPrice_40 : decode cX10_boardPrice 40 = .ok (.isub, 1) := by decide +kernel
theorem dX10_boardPrice_41 : decode cX10_boardPrice 41 = .ok (.iload_n 3, 1) := by decide +kernel
theorem dX10_boardPrice_42 : decode cX10_boardPrice 42 = .ok (.iastore, 1) := by decide +kernel
theorem dX10_boardPrice_43 : decode cX10_boardPrice 43 = .ok (.iconst 1, 1) := by decide +kernel
theorem dX10_boardPrice_44 : decode cX10_boardPrice 44 = .ok (.ireturn, 1) := by decide +kernel
theorem dX10_height_0 : decode cX10_height 0 = .ok (.iload_n 1, 1) := by decide +kernel
theorem dX10_height_1 : decode cX10_height 1 = .ok (.iconst 0, 1) := by decide +kernel
theorem dX10_height_2 : decode cX10_height 2 = .ok (.iconst 3, 1) := by decide +kernel
theorem dX10_height_3 : decode cX10_height 3 = .ok (.invokestatic 11, 3) := by decide +kernel
theorem dX10_height_6 : decode cX10_height 6 = .ok (.ifCond .eq 16, 3) := by decide +kernel
theorem dX10_height_9 : decode cX10_height 9 = .ok (.iload_n 2, 1) := by decide +kernel
theorem dX10_height_10 : decode cX10_height 10 = .ok (.sipush 300, 3) := by decide +kernel
theorem dX10_height_13 : decode cX10_height 13 = .ok (.sipush 5000, 3) := by decide +kernel
theorem dX10_height_16 : decode cX10_height 16 = .ok (.invokestatic 11, 3) := by decide +kernel
theorem dX10_height_19 : decode cX10_height 19 = .ok (.ifCond .ne 5, 3) := by decide +kernel
theorem dX10_height_22 : decode cX10_height 22 = .ok (.iconst 0, 1) := by decide +kernel
theorem dX10_height_23 : decode cX10_height 23 = .ok (.ireturn, 1) := by decide +kernel
theorem dX10_height_24 : decode cX10_height 24 = .ok (.aload_n 0, 1) := by decide +kernel
theorem dX10_height_25 : decode cX10_height 25 = .ok (.getfield 35, 3) := by decide +kernel
theorem dX10_height_28 : decode cX10_height 28 = .ok (.getfield 111, 3) := by decide +kernel
theorem dX10_height_31 : decode cX10_height 31 = .ok (.iload_n 1, 1) := by decide +kernel
theorem dX10_height_32 : decode cX10_height 32 = .ok (.iload_n 2, 1) := by decide +kernel
theorem dX10_height_33 : decode cX10_height 33 = .ok (.iastore, 1) := by decide +kernel
theorem dX10_height_34 : decode cX10_height 34 = .ok (.iconst 1, 1) := by decide +kernel
theorem dX10_height_35 : decode cX10_height 35 = .ok (.ireturn, 1) := by decide +kernel
theorem dX10_kerf_0 : decode cX10_kerf 0 = .ok (.iload_n 1, 1) := by decide +kernel
theorem dX10_kerf_1 : decode cX10_kerf 1 = .ok (.iconst 0, 1) := by decide +kernel
theorem dX10_kerf_2 : decode cX10_kerf 2 = .ok (.bipush 100, 2) := by decide +kernel
theorem dX10_kerf_4 : decode cX10_kerf 4 = .ok (.invokestatic 11, 3) := by decide +kernel
theorem dX10_kerf_7 : decode cX10_kerf 7 = .ok (.ifCond .ne 5, 3) := by decide +kernel
theorem dX10_kerf_10 : decode cX10_kerf 10 = .ok (.iconst 0, 1) := by decide +kernel
theorem dX10_kerf_11 : decode cX10_kerf 11 = .ok (.ireturn, 1) := by decide +kernel
theorem dX10_kerf_12 : decode cX10_kerf 12 = .ok (.aload_n 0, 1) := by decide +kernel
theorem dX10_kerf_13 : decode cX10_kerf 13 = .ok (.getfield 35, 3) := by decide +kernel
theorem dX10_kerf_16 : decode cX10_kerf 16 = .ok (.iload_n 1, 1) := by decide +kernel
theorem dX10_kerf_17 : decode cX10_kerf 17 = .ok (.putfield 114, 3) := by decide +kernel
theorem dX10_kerf_20 : decode cX10_kerf 20 = .ok (.iconst 1, 1) := by decide +kernel
theorem dX10_kerf_21 : decode cX10_kerf 21 = .ok (.ireturn, 1) := by decide +kernel
theorem dX10_need_0 : decode cX10_need 0 = .ok (.iload_n 1, 1) := by decide +kernel
theorem dX10_need_1 : decode cX10_need 1 = .ok (.iconst 0, 1) := by decide +kernel
theorem dX10_need_2 : decode cX10_need 2 = .ok (.iconst 5, 1) := by decide +kernel
theorem dX10_need_3 : decode cX10_need 3 = .ok (.invokestatic 11, 3) := by decide +kernel
theorem dX10_need_6 : decode cX10_need 6 = .ok (.ifCond .eq 14, 3) := by decide +kernel
theorem dX10_need_9 : decode cX10_need 9 = .ok (.iload_n 2, 1) := by decide +kernel
theorem dX10_need_10 : decode cX10_need 10 = .ok (.iconst 0, 1) := by decide +kernel
theorem dX10_need_11 : decode cX10_need 11 = .ok (.sipush 1000, 3) := by decide +kernel
theorem dX10_need_14 : decode cX10_need 14 = .ok (.invokestatic 11, 3) := by decide +kernel
theorem dX10_need_17 : decode cX10_need 17 = .ok (.ifCond .ne 5, 3) := by decide +kernel
theorem dX10_need_20 : decode cX10_need 20 = .ok (.iconst 0, 1) := by decide +kernel
theorem dX10_need_21 : decode cX10_need 21 = .ok (.ireturn, 1) := by decide +kernel
theorem dX10_need_22 : decode cX10_need 22 = .ok (.aload_n 0, 1) := by decide +kernel
theorem dX10_need_23 : decode cX10_need 23 = .ok (.getfield 48, 3) := by decide +kernel
theorem dX10_need_26 : decode cX10_need 26 = .ok (.getfield 117, 3) := by decide +kernel
theorem dX10_need_29 : decode cX10_need 29 = .ok (.iload_n 1, 1) := by decide +kernel
theorem dX10_need_30 : decode cX10_need 30 = .ok (.iload_n 2, 1) := by decide +kernel
theorem dX10_need_31 : decode cX10_need 31 = .ok (.iastore, 1) := by decide +kernel
theorem dX10_need_32 : decode cX10_need 32 = .ok (.iconst 1, 1) := by decide +kernel
theorem dX10_need_33 : decode cX10_need 33 = .ok (.ireturn, 1) := by decide +kernel
theorem dX10_ladder_0 : decode cX10_ladder 0 = .ok (.iload_n 1, 1) := by decide +kernel
theorem dX10_ladder_1 : decode cX10_ladder 1 = .ok (.iconst 0, 1) := by decide +kernel
theorem dX10_ladder_2 : decode cX10_ladder 2 = .ok (.iconst 3, 1) := by decide +kernel
theorem dX10_ladder_3 : decode cX10_ladder 3 = .ok (.invokestatic 11, 3) := by decide +kernel
theorem dX10_ladder_6 : decode cX10_ladder 6 = .ok (.ifCond .eq 23, 3) := by decide +kernel
theorem dX10_ladder_9 : decode cX10_ladder 9 = .ok (.iload_n 2, 1) := by decide +kernel
theorem dX10_ladder_10 : decode cX10_ladder 10 = .ok (.iconst 0, 1) := by decide +kernel
theorem dX10_ladder_11 : decode cX10_ladder 11 = .ok (.ldc 122, 2) := by decide +kernel
theorem dX10_ladder_13 : decode cX10_ladder 13 = .ok (.invokestatic 11, 3) := by decide +kernel
theorem dX10_ladder_16 : decode cX10_ladder 16 = .ok (.ifCond .eq 13, 3) := by decide +kernel
theorem dX10_ladder_19 : decode cX10_ladder 19 = .ok (.iload_n 3, 1) := by decide +kernel
theorem dX10_ladder_20 : decode cX10_ladder 20 = .ok (.iconst 0, 1) := by decide +kernel
theorem dX10_ladder_21 : decode cX10_ladder 21 = .ok (.ldc 122, 2) := by decide +kernel
theorem dX10_ladder_23 : decode cX10_ladder 23 = .ok (.invokestatic 11, 3) := by decide +kernel
theorem dX10_ladder_26 : decode cX10_ladder 26 = .ok (.ifCond .ne 5, 3) := by decide +kernel
theorem dX10_ladder_29 : decode cX10_ladder 29 = .ok (.iconst 0, 1) := by decide +kernel
theorem dX10_ladder_30 : decode cX10_ladder 30 = .ok (.ireturn, 1) := by decide +kernel
theorem dX10_ladder_31 : decode cX10_ladder 31 = .ok (.aload_n 0, 1) := by decide +kernel
theorem dX10_ladder_32 : decode cX10_ladder 32 = .ok (.getfield 48, 3) := by decide +kernel
theorem dX10_ladder_35 : decode cX10_ladder 35 = .ok (.getfield 123, 3) := by decide +kernel
theorem dX10_ladder_38 : decode cX10_ladder 38 = .ok (.iload_n 1, 1) := by decide +kernel
theorem dX10_ladder_39 : decode cX10_ladder 39 = .ok (.iload_n 2, 1) := by decide +kernel
theorem dX10_ladder_40 : decode cX10_ladder 40 = .ok (.iastore, 1) := by decide +kernel
theorem dX10_ladder_41 : decode cX10_ladder 41 = .ok (.aload_n 0, 1) := by decide +kernel
theorem dX10_ladder_42 : decode cX10_ladder 42 = .ok (.getfield 48, 3) := by decide +kernel
theorem dX10_ladder_45 : decode cX10_ladder 45 = .ok (.getfield 126, 3) := by decide +kernel
theorem dX10_ladder_48 : decode cX10_ladder 48 = .ok (.iload_n 1, 1) := by decide +kernel
theorem dX10_ladder_49 : decode cX10_ladder 49 = .ok (.iload_n 3, 1) := by decide +kernel
theorem dX10_ladder_50 : decode cX10_ladder 50 = .ok (.iastore, 1) := by decide +kernel
theorem dX10_ladder_51 : decode cX10_ladder 51 = .ok (.iconst 1, 1) := by decide +kernel
theorem dX10_ladder_52 : decode cX10_ladder 52 = .ok (.ireturn, 1) := by decide +kernel
theorem dX10_needNow_0 : decode cX10_needNow 0 = .ok (.iload_n 1, 1) := by decide +kernel
theorem dX10_needNow_1 : decode cX10_needNow 1 = .ok (.iconst 0, 1) := by decide +kernel
theorem dX10_needNow_2 : decode cX10_needNow 2 = .ok (.iconst 5, 1) := by decide +kernel
theorem dX10_needNow_3 : decode cX10_needNow 3 = .ok (.invokestatic 11, 3) := by decide +kernel
theorem dX10_needNow_6 : decode cX10_needNow 6 = .ok (.ifCond .eq 15, 3) := by decide +kernel
theorem dX10_needNow_9 : decode cX10_needNow 9 = .ok (.aload_n 0, 1) := by decide +kernel
theorem dX10_needNow_10 : decode cX10_needNow 10 = .ok (.getfield 48, 3) := by decide +kernel
theorem dX10_needNow_13 : decode cX10_needNow 13 = .ok (.getfield 117, 3) := by decide +kernel
theorem dX10_needNow_16 : decode cX10_needNow 16 = .ok (.iload_n 1, 1) := by decide +kernel
theorem dX10_needNow_17 : decode cX10_needNow 17 = .ok (.iaload, 1) := by decide +kernel
theorem dX10_needNow_18 : decode cX10_needNow 18 = .ok (.goto 4, 3) := by decide +kernel
theorem dX10_needNow_21 : decode cX10_needNow 21 = .ok (.iconst (-1), 1) := by decide +kernel
theorem dX10_needNow_22 : decode cX10_needNow 22 = .ok (.ireturn, 1) := by decide +kernel
theorem dX10_saw_0 : decode cX10_saw 0 = .ok (.aload_n 0, 1) := by decide +kernel
theorem dX10_saw_1 : decode cX10_saw 1 = .ok (.getfield 18, 3) := by decide +kernel
theorem dX10_saw_4 : decode cX10_saw 4 = .ok (.getfield 88, 3) := by decide +kernel
theorem dX10_saw_7 : decode cX10_saw 7 = .ok (.astore_n 2, 1) := by decide +kernel
theorem dX10_saw_8 : decode cX10_saw 8 = .ok (.iload_n 1, 1) := by decide +kernel
theorem dX10_saw_9 : decode cX10_saw 9 = .ok (.iconst 0, 1) := by decide +kernel
theorem dX10_saw_10 : decode cX10_saw 10 = .ok (.aload_n 2, 1) := by decide +kernel
theorem dX10_saw_11 : decode cX10_saw 11 = .ok (.getfield 92, 3) := by decide +kernel
theorem dX10_saw_14 : decode cX10_saw 14 = .ok (.iconst 1, 1) := by decide +kernel
theorem dX10_saw_15 : decode cX10_saw 15 = .ok (.isub, 1) := by decide +kernel
theorem dX10_saw_16 : decode cX10_saw 16 = .ok (.invokestatic 11, 3) := by decide +kernel
theorem dX10_saw_19 : decode cX10_saw 19 = .ok (.ifCond .ne 11, 3) := by decide +kernel
theorem dX10_saw_22 : decode cX10_saw 22 = .ok (.new 97, 3) := by decide +kernel
theorem dX10_saw_25 : decode cX10_saw 25 = .ok (.dup, 1) := by decide +kernel
theorem dX10_saw_26 : decode cX10_saw 26 = .ok (.invokespecial 99, 3) := by decide +kernel
theorem dX10_saw_29 : decode cX10_saw 29 = .ok (.athrow, 1) := by decide +kernel
theorem dX10_saw_30 : decode cX10_saw 30 = .ok (.aload_n 0, 1) := by decide +kernel
theorem dX10_saw_31 : decode cX10_saw 31 = .ok (.getfield 35, 3) := by decide +kernel
theorem dX10_saw_34 : decode cX10_saw 34 = .ok (.aload_n 2, 1) := by decide +kernel
theorem dX10_saw_35 : decode cX10_saw 35 = .ok (.iload_n 1, 1) := by decide +kernel
theorem dX10_saw_36 : decode cX10_saw 36 = .ok (.iconst 2, 1) := by decide +kernel
theorem dX10_saw_37 : decode cX10_saw 37 = .ok (.invokevirtual 100, 3) := by decide +kernel
theorem dX10_saw_40 : decode cX10_saw 40 = .ok (.aload_n 2, 1) := by decide +kernel
theorem dX10_saw_41 : decode cX10_saw 41 = .ok (.iload_n 1, 1) := by decide +kernel
theorem dX10_saw_42 : decode cX10_saw 42 = .ok (.iconst 4, 1) := by decide +kernel
theorem dX10_saw_43 : decode cX10_saw 43 = .ok (.invokevirtual 100, 3) := by decide +kernel
theorem dX10_saw_46 : decode cX10_saw 46 = .ok (.invokevirtual 129, 3) := by decide +kernel
theorem dX10_saw_49 : decode cX10_saw 49 = .ok (.ireturn, 1) := by decide +kernel
theorem dX10_boards_0 : decode cX10_boards 0 = .ok (.aload_n 0, 1) := by decide +kernel
theorem dX10_boards_1 : decode cX10_boards 1 = .ok (.getfield 35, 3) := by decide +kernel
theorem dX10_boards_4 : decode cX10_boards 4 = .ok (.getfield 132, 3) := by decide +kernel
theorem dX10_boards_7 : decode cX10_boards 7 = .ok (.invokevirtual 136, 3) := by decide +kernel
theorem dX10_boards_10 : decode cX10_boards 10 = .ok (.ireturn, 1) := by decide +kernel
theorem dX10_board_0 : decode cX10_board 0 = .ok (.aload_n 0, 1) := by decide +kernel
theorem dX10_board_1 : decode cX10_board 1 = .ok (.getfield 35, 3) := by decide +kernel
theorem dX10_board_4 : decode cX10_board 4 = .ok (.getfield 132, 3) := by decide +kernel
theorem dX10_board_7 : decode cX10_board 7 = .ok (.astore_n 3, 1) := by decide +kernel
theorem dX10_board_8 : decode cX10_board 8 = .ok (.iload_n 1, 1) := by decide +kernel
theorem dX10_board_9 : decode cX10_board 9 = .ok (.iconst 0, 1) := by decide +kernel
theorem dX10_board_10 : decode cX10_board 10 = .ok (.aload_n 3, 1) := by decide +kernel
theorem dX10_board_11 : decode cX10_board 11 = .ok (.invokevirtual 136, 3) := by decide +kernel
theorem dX10_board_14 : decode cX10_board 14 = .ok (.iconst 1, 1) := by decide +kernel
theorem dX10_board_15 : decode cX10_board 15 = .ok (.isub, 1) := by decide +kernel
theorem dX10_board_16 : decode cX10_board 16 = .ok (.invokestatic 11, 3) := by decide +kernel
theorem dX10_board_19 : decode cX10_board 19 = .ok (.ifCond .eq 12, 3) := by decide +kernel
theorem dX10_board_22 : decode cX10_board 22 = .ok (.iload_n 2, 1) := by decide +kernel
theorem dX10_board_23 : decode cX10_board 23 = .ok (.iconst 0, 1) := by decide +kernel
theorem dX10_board_24 : decode cX10_board 24 = .ok (.iconst 3, 1) := by decide +kernel
theorem dX10_board_25 : decode cX10_board 25 = .ok (.invokestatic 11, 3) := by decide +kernel
theorem dX10_board_28 : decode cX10_board 28 = .ok (.ifCond .ne 11, 3) := by decide +kernel
theorem dX10_board_31 : decode cX10_board 31 = .ok (.new 97, 3) := by decide +kernel
theorem dX10_board_34 : decode cX10_board 34 = .ok (.dup, 1) := by decide +kernel
theorem dX10_board_35 : decode cX10_board 35 = .ok (.invokespecial 99, 3) := by decide +kernel
theorem dX10_board_38 : decode cX10_board 38 = .ok (.athrow, 1) := by decide +kernel
theorem dX10_board_39 : decode cX10_board 39 = .ok (.aload_n 3, 1) := by decide +kernel
theorem dX10_board_40 : decode cX10_board 40 = .ok (.iload_n 1, 1) := by decide +kernel
theorem dX10_board_41 : decode cX10_board 41 = .ok (.iload_n 2, 1) := by decide +kernel
theorem dX10_board_42 : decode cX10_board 42 = .ok (.invokevirtual 140, 3) := by decide +kernel
theorem dX10_board_45 : decode cX10_board 45 = .ok (.ireturn, 1) := by decide +kernel
theorem dX10_cant_0 : decode cX10_cant 0 = .ok (.aload_n 0, 1) := by decide +kernel
theorem dX10_cant_1 : decode cX10_cant 1 = .ok (.getfield 35, 3) := by decide +kernel
theorem dX10_cant_4 : decode cX10_cant 4 = .ok (.getfield 132, 3) := by decide +kernel
theorem dX10_cant_7 : decode cX10_cant 7 = .ok (.getfield 141, 3) := by decide +kernel
theorem dX10_cant_10 : decode cX10_cant 10 = .ok (.ireturn, 1) := by decide +kernel
theorem dX10_fits_0 : decode cX10_fits 0 = .ok (.aload_n 0, 1) := by decide +kernel
theorem dX10_fits_1 : decode cX10_fits 1 = .ok (.iload_n 1, 1) := by decide +kernel
theorem dX10_fits_2 : decode cX10_fits 2 = .ok (.invokevirtual 106, 3) := by decide +kernel
theorem dX10_fits_5 : decode cX10_fits 5 = .ok (.ifCond .eq 26, 3) := by decide +kernel
theorem dX10_fits_8 : decode cX10_fits 8 = .ok (.iload_n 2, 1) := by decide +kernel
theorem dX10_fits_9 : decode cX10_fits 9 = .ok (.iconst 1, 1) := by decide +kernel
theorem dX10_fits_10 : decode cX10_fits 10 = .ok (.sipush 200, 3) := by decide +kernel
theorem dX10_fits_13 : decode cX10_fits 13 = .ok (.invokestatic 11, 3) := by decide +kernel
theorem dX10_fits_16 : decode cX10_fits 16 = .ok (.ifCond .eq 15, 3) := by decide +kernel
theorem dX10_fits_19 : decode cX10_fits 19 = .ok (.iload_n 3, 1) := by decide +kernel
theorem dX10_fits_20 : decode cX10_fits 20 = .ok (.bipush 50, 2) := by decide +kernel
theorem dX10_fits_22 : decode cX10_fits 22 = .ok (.sipush 900, 3) := by decide +kernel
theorem dX10_fits_25 : decode cX10_fits 25 = .ok (.invokestatic 11, 3) := by decide +kernel
theorem dX10_fits_28 : decode cX10_fits 28 = .ok (.ifCond .ne 5, 3) := by decide +kernel
theorem dX10_fits_31 : decode cX10_fits 31 = .ok (.iconst 0, 1) := by decide +kernel
theorem dX10_fits_32 : decode cX10_fits 32 = .ok (.ireturn, 1) := by decide +kernel
theorem dX10_fits_33 : decode cX10_fits 33 = .ok (.aload_n 0, 1) := by decide +kernel
theorem dX10_fits_34 : decode cX10_fits 34 = .ok (.getfield 43, 3) := by decide +kernel
theorem dX10_fits_37 : decode cX10_fits 37 = .ok (.iload_n 1, 1) := by decide +kernel
theorem dX10_fits_38 : decode cX10_fits 38 = .ok (.aaload, 1) := by decide +kernel
theorem dX10_fits_39 : decode cX10_fits 39 = .ok (.astore 4, 2) := by decide +kernel
theorem dX10_fits_41 : decode cX10_fits 41 = .ok (.iload_n 2, 1) := by decide +kernel
theorem dX10_fits_42 : decode cX10_fits 42 = .ok (.aload 4, 2) := by decide +kernel
theorem dX10_fits_44 : decode cX10_fits 44 = .ok (.getfield 144, 3) := by decide +kernel
theorem dX10_fits_47 : decode cX10_fits 47 = .ok (.imul, 1) := by decide +kernel
theorem dX10_fits_48 : decode cX10_fits 48 = .ok (.iload_n 2, 1) := by decide +kernel
theorem dX10_fits_49 : decode cX10_fits 49 = .ok (.iconst 1, 1) := by decide +kernel
theorem dX10_fits_50 : decode cX10_fits 50 = .ok (.isub, 1) := by decide +kernel
theorem dX10_fits_51 : decode cX10_fits 51 = .ok (.aload_n 0, 1) := by decide +kernel
theorem dX10_fits_52 : decode cX10_fits 52 = .ok (.getfield 35, 3) := by decide +kernel
theorem dX10_fits_55 : decode cX10_fits 55 = .ok (.getfield 114, 3) := by decide +kernel
theorem dX10_fits_58 : decode cX10_fits 58 = .ok (.imul, 1) := by decide +kernel
theorem dX10_fits_59 : decode cX10_fits 59 = .ok (.iadd, 1) := by decide +kernel
theorem dX10_fits_60 : decode cX10_fits 60 = .ok (.istore 5, 2) := by decide +kernel
theorem dX10_fits_62 : decode cX10_fits 62 = .ok (.iload 5, 2) := by decide +kernel
theorem dX10_fits_64 : decode cX10_fits 64 = .ok (.bipush 10, 2) := by decide +kernel
theorem dX10_fits_66 : decode cX10_fits 66 = .ok (.iload_n 3, 1) := by decide +kernel
theorem dX10_fits_67 : decode cX10_fits 67 = .ok (.imul, 1) := by decide +kernel
theorem dX10_fits_68 : decode cX10_fits 68 = .ok (.aload 4, 2) := by decide +kernel
theorem dX10_fits_70 : decode cX10_fits 70 = .ok (.getfield 147, 3) := by decide +kernel
theorem dX10_fits_73 : decode cX10_fits 73 = .ok (.invokestatic 150, 3) := by decide +kernel
theorem dX10_fits_76 : decode cX10_fits 76 = .ok (.if_icmp .gt 7, 3) := by decide +kernel
theorem dX10_fits_79 : decode cX10_fits 79 = .ok (.iconst 1, 1) := by decide +kernel
theorem dX10_fits_80 : decode cX10_fits 80 = .ok (.goto 4, 3) := by decide +kernel
theorem dX10_fits_83 : decode cX10_fits 83 = .ok (.iconst 0, 1) := by decide +kernel
theorem dX10_fits_84 : decode cX10_fits 84 = .ok (.ireturn, 1) := by decide +kernel
theorem dX10_isToldSize_0 : decode cX10_isToldSize 0 = .ok (.iload_n 1, 1) := by decide +kernel
theorem dX10_isToldSize_1 : decode cX10_isToldSize 1 = .ok (.iconst 0, 1) := by decide +kernel
theorem dX10_isToldSize_2 : decode cX10_isToldSize 2 = .ok (.iconst 5, 1) := by decide +kernel
theorem dX10_isToldSize_3 : decode cX10_isToldSize 3 = .ok (.invokestatic 11, 3) := by decide +kernel
theorem dX10_isToldSize_6 : decode cX10_isToldSize 6 = .ok (.ifCond .eq 19, 3) := by decide +kernel
theorem dX10_isToldSize_9 : decode cX10_isToldSize 9 = .ok (.aload_n 0, 1) := by decide +kernel
theorem dX10_isToldSize_10 : decode cX10_isToldSize 10 = .ok (.getfield 43, 3) := by decide +kernel
theorem dX10_isToldSize_13 : decode cX10_isToldSize 13 = .ok (.iload_n 1, 1) := by decide +kernel
theorem dX10_isToldSize_14 : decode cX10_isToldSize 14 = .ok (.aaload, 1) := by decide +kernel
theorem dX10_isToldSize_15 : decode cX10_isToldSize 15 = .ok (.invokevirtual 153, 3) := by decide +kernel
theorem dX10_isToldSize_18 : decode cX10_isToldSize 18 = .ok (.ifCond .eq 7, 3) := by decide +kernel
theorem dX10_isToldSize_21 : decode cX10_isToldSize 21 = .ok (.iconst 1, 1) := by decide +kernel
theorem dX10_isToldSize_22 : decode cX10_isToldSize 22 = .ok (.goto 4, 3) := by decide +kernel
theorem dX10_isToldSize_25 : decode cX10_isToldSize 25 = .ok (.iconst 0, 1) := by decide +kernel
theorem dX10_isToldSize_26 : decode cX10_isToldSize 26 = .ok (.ireturn, 1) := by decide +kernel
theorem dX10_within_0 : decode cX10_within 0 = .ok (.iload_n 0, 1) := by decide +kernel
theorem dX10_within_1 : decode cX10_within 1 = .ok (.iload_n 1, 1) := by decide +kernel
theorem dX10_within_2 : decode cX10_within 2 = .ok (.if_icmp .lt 12, 3) := by decide +kernel
theorem dX10_within_5 : decode cX10_within 5 = .ok (.iload_n 0, 1) := by decide +kernel
theorem dX10_within_6 : decode cX10_within 6 = .ok (.iload_n 2, 1) := by decide +kernel
theorem dX10_within_7 : decode cX10_within 7 = .ok (.if_icmp .gt 7, 3) := by decide +kernel
theorem dX10_within_10 : decode cX10_within 10 = .ok (.iconst 1, 1) := by decide +kernel
theorem dX10_within_11 : decode cX10_within 11 = .ok (.goto 4, 3) := by decide +kernel
theorem dX10_within_14 : decode cX10_within 14 = .ok (.iconst 0, 1) := by decide +kernel
theorem dX10_within_15 : decode cX10_within 15 = .ok (.ireturn, 1) := by decide +kernel
theorem dX10_room_0 : decode cX10_room 0 = .ok (.iload_n 0, 1) := by decide +kernel
theorem dX10_room_1 : decode cX10_room 1 = .ok (.iload_n 0, 1) := by decide +kernel
theorem dX10_room_2 : decode cX10_room 2 = .ok (.imul, 1) := by decide +kernel
theorem dX10_room_3 : decode cX10_room 3 = .ok (.iload_n 1, 1) := by decide +kernel
theorem dX10_room_4 : decode cX10_room 4 = .ok (.iload_n 1, 1) := by decide +kernel
theorem dX10_room_5 : decode cX10_room 5 = .ok (.imul, 1) := by decide +kernel
theorem dX10_room_6 : decode cX10_room 6 = .ok (.isub, 1) := by decide +kernel
theorem dX10_room_7 : decode cX10_room 7 = .ok (.istore_n 2, 1) := by decide +kernel
theorem dX10_room_8 : decode cX10_room 8 = .ok (.iload_n 2, 1) := by decide +kernel
theorem dX10_room_9 : decode cX10_room 9 = .ok (.ifCond .ge 5, 3) := by decide +kernel
theorem dX10_room_12 : decode cX10_room 12 = .ok (.iconst (-1), 1) := by decide +kernel
theorem dX10_room_13 : decode cX10_room 13 = .ok (.ireturn, 1) := by decide +kernel
theorem dX10_room_14 : decode cX10_room 14 = .ok (.iconst 0, 1) := by decide +kernel
theorem dX10_room_15 : decode cX10_room 15 = .ok (.istore_n 3, 1) := by decide +kernel
theorem dX10_room_16 : decode cX10_room 16 = .ok (.sipush 8192, 3) := by decide +kernel
theorem dX10_room_19 : decode cX10_room 19 = .ok (.istore 4, 2) := by decide +kernel
theorem dX10_room_21 : decode cX10_room 21 = .ok (.iload 4, 2) := by decide +kernel
theorem dX10_room_23 : decode cX10_room 23 = .ok (.ifCond .le 30, 3) := by decide +kernel
theorem dX10_room_26 : decode cX10_room 26 = .ok (.iload_n 3, 1) := by decide +kernel
theorem dX10_room_27 : decode cX10_room 27 = .ok (.iload 4, 2) := by decide +kernel
theorem dX10_room_29 : decode cX10_room 29 = .ok (.iadd, 1) := by decide +kernel
theorem dX10_room_30 : decode cX10_room 30 = .ok (.istore 5, 2) := by decide +kernel
theorem dX10_room_32 : decode cX10_room 32 = .ok (.iload 5, 2) := by decide +kernel
theorem dX10_room_34 : decode cX10_room 34 = .ok (.iload 5, 2) := by decide +kernel
theorem dX10_room_36 : decode cX10_room 36 = .ok (.imul, 1) := by decide +kernel
theorem dX10_room_37 : decode cX10_room 37 = .ok (.iload_n 2, 1) := by decide +kernel
theorem dX10_room_38 : decode cX10_room 38 = .ok (.if_icmp .gt 6, 3) := by decide +kernel
theorem dX10_room_41 : decode cX10_room 41 = .ok (.iload 5, 2) := by decide +kernel
theorem dX10_room_43 : decode cX10_room 43 = .ok (.istore_n 3, 1) := by decide +kernel
theorem dX10_room_44 : decode cX10_room 44 = .ok (.iload 4, 2) := by decide +kernel
theorem dX10_room_46 : decode cX10_room 46 = .ok (.iconst 1, 1) := by decide +kernel
theorem dX10_room_47 : decode cX10_room 47 = .ok (.ishr, 1) := by decide +kernel
theorem dX10_room_48 : decode cX10_room 48 = .ok (.istore 4, 2) := by decide +kernel
theorem dX10_room_50 : decode cX10_room 50 = .ok (.goto (-29), 3) := by decide +kernel
theorem dX10_room_53 : decode cX10_room 53 = .ok (.iload_n 3, 1) := by decide +kernel
theorem dX10_room_54 : decode cX10_room 54 = .ok (.ireturn, 1) := by decide +kernel
theorem dJ7_fill_53178_0 : decode cJ7_fill_53178 0 = .ok (.iconst 0, 1) := by decide +kernel
theorem dJ7_fill_53178_1 : decode cJ7_fill_53178 1 = .ok (.istore_n 2, 1) := by decide +kernel
theorem dJ7_fill_53178_2 : decode cJ7_fill_53178 2 = .ok (.aload_n 0, 1) := by decide +kernel
theorem dJ7_fill_53178_3 : decode cJ7_fill_53178 3 = .ok (.arraylength, 1) := by decide +kernel
theorem dJ7_fill_53178_4 : decode cJ7_fill_53178 4 = .ok (.istore_n 3, 1) := by decide +kernel
theorem dJ7_fill_53178_5 : decode cJ7_fill_53178 5 = .ok (.iload_n 2, 1) := by decide +kernel
theorem dJ7_fill_53178_6 : decode cJ7_fill_53178 6 = .ok (.iload_n 3, 1) := by decide +kernel
theorem dJ7_fill_53178_7 : decode cJ7_fill_53178 7 = .ok (.if_icmp .ge 13, 3) := by decide +kernel
theorem dJ7_fill_53178_10 : decode cJ7_fill_53178 10 = .ok (.aload_n 0, 1) := by decide +kernel
theorem dJ7_fill_53178_11 : decode cJ7_fill_53178 11 = .ok (.iload_n 2, 1) := by decide +kernel
theorem dJ7_fill_53178_12 : decode cJ7_fill_53178 12 = .ok (.iload_n 1, 1) := by decide +kernel
theorem dJ7_fill_53178_13 : decode cJ7_fill_53178 13 = .ok (.iastore, 1) := by decide +kernel
theorem dJ7_fill_53178_14 : decode cJ7_fill_53178 14 = .ok (.iinc 2 1, 3) := by decide +kernel
theorem dJ7_fill_53178_17 : decode cJ7_fill_53178 17 = .ok (.goto (-12), 3) := by decide +kernel
theorem dJ7_fill_53178_20 : decode cJ7_fill_53178 20 = .ok (.return_, 1) := by decide +kernel
end
section
theorem dX11_init_0 : decode cX11_init 0 = .ok (.aload_n 0, 1) := by decide +kernel
theorem dX11_init_1 : decode cX11_init 1 = .ok (.invokespecial 1, 3) := by decide +kernel
theorem dX11_init_4 : decode cX11_init 4 = .ok (.aload_n 0, 1) := by decide +kernel
theorem dX11_init_5 : decode cX11_init 5 = .ok (.bipush 81, 2) := by decide +kernel
theorem dX11_init_7 : decode cX11_init 7 = .ok (.newarray .int, 2) := by decide +kernel
theorem dX11_init_9 : decode cX11_init 9 = .ok (.putfield 7, 3) := by decide +kernel
theorem dX11_init_12 : decode cX11_init 12 = .ok (.aload_n 0, 1) := by decide +kernel
theorem dX11_init_13 : decode cX11_init 13 = .ok (.bipush 20, 2) := by decide +kernel
theorem dX11_init_15 : decode cX11_init 15 = .ok (.newarray .int, 2) := by decide +kernel
theorem dX11_init_17 : decode cX11_init 17 = .ok (.putfield 13, 3) := by decide +kernel
theorem dX11_init_20 : decode cX11_init 20 = .ok (.aload_n 0, 1) := by decide +kernel
theorem dX11_init_21 : decode cX11_init 21 = .ok (.bipush 20, 2) := by decide +kernel
theorem dX11_init_23 : decode cX11_init 23 = .ok (.newarray .int, 2) := by decide +kernel
theorem dX11_init_25 : decode cX11_init 25 = .ok (.putfield 16, 3) := by decide +kernel
theorem dX11_init_28 : decode cX11_init 28 = .ok (.aload_n 0, 1) := by decide +kernel
theorem dX11_init_29 : decode cX11_init 29 = .ok (.bipush 20, 2) := by decide +kernel
theorem dX11_init_31 : decode cX11_init 31 = .ok (.newarray .int, 2) := by decide +kernel
theorem dX11_init_33 : decode cX11_init 33 = .ok (.putfield 19, 3) := by decide +kernel
theorem dX11_init_36 : decode cX11_init 36 = .ok (.aload_n 0, 1) := by decide +kernel
theorem dX11_init_37 : decode cX11_init 37 = .ok (.bipush 6, 2) := by decide +kernel
theorem dX11_init_39 : decode cX11_init 39 = .ok (.newarray .int, 2) := by decide +kernel
theorem dX11_init_41 : decode cX11_init 41 = .ok (.putfield 22, 3) := by decide +kernel
theorem dX11_init_44 : decode cX11_init 44 = .ok (.aload_n 0, 1) := by decide +kernel
theorem dX11_init_45 : decode cX11_init 45 = .ok (.bipush 6, 2) := by decide +kernel
theorem dX11_init_47 : decode cX11_init 47 = .ok (.newarray .int, 2) := by decide +kernel
theorem dX11_init_49 : decode cX11_init 49 = .ok (.putfield 25, 3) := by decide +kernel
theorem dX11_init_52 : decode cX11_init 52 = .ok (.aload_n 0, 1) := by decide +kernel
theorem dX11_init_53 : decode cX11_init 53 = .ok (.sipush 456, 3) := by decide +kernel
theorem dX11_init_56 : decode cX11_init 56 = .ok (.newarray .int, 2) := by decide +kernel
theorem dX11_init_58 : decode cX11_init 58 = .ok (.putfield 28, 3) := by decide +kernel
theorem dX11_init_61 : decode cX11_init 61 = .ok (.aload_n 0, 1) := by decide +kernel
theorem dX11_init_62 : decode cX11_init 62 = .ok (.sipush 486, 3) := by decide +kernel
theorem dX11_init_65 : decode cX11_init 65 = .ok (.newarray .int, 2) := by decide +kernel
theorem dX11_init_67 : decode cX11_init 67 = .ok (.putfield 31, 3) := by decide +kernel
theorem dX11_init_70 : decode cX11_init 70 = .ok (.aload_n 0, 1) := by decide +kernel
theorem dX11_init_71 : decode cX11_init 71 = .ok (.bipush 6, 2) := by decide +kernel
theorem dX11_init_73 : decode cX11_init 73 = .ok (.newarray .int, 2) := by decide +kernel
theorem dX11_init_75 : decode cX11_init 75 = .ok (.putfield 34, 3) := by decide +kernel
theorem dX11_init_78 : decode cX11_init 78 = .ok (.aload_n 0, 1) := by decide +kernel
theorem dX11_init_79 : decode cX11_init 79 = .ok (.bipush 6, 2) := by decide +kernel
theorem dX11_init_81 : decode cX11_init 81 = .ok (.newarray .int, 2) := by decide +kernel
theorem dX11_init_83 : decode cX11_init 83 = .ok (.putfield 37, 3) := by decide +kernel
theorem dX11_init_86 : decode cX11_init 86 = .ok (.aload_n 0, 1) := by decide +kernel
theorem dX11_init_87 : decode cX11_init 87 = .ok (.bipush 24, 2) := by decide +kernel
theorem dX11_init_89 : decode cX11_init 89 = .ok (.newarray .int, 2) := by decide +kernel
theorem dX11_init_91 : decode cX11_init 91 = .ok (.putfield 40, 3) := by decide +kernel
theorem dX11_init_94 : decode cX11_init 94 = .ok (.aload_n 0, 1) := by decide +kernel
theorem dX11_init_95 : decode cX11_init 95 = .ok (.bipush 6, 2) := by decide +kernel
theorem dX11_init_97 : decode cX11_init 97 = .ok (.newarray .int, 2) := by decide +kernel
theorem dX11_init_99 : decode cX11_init 99 = .ok (.putfield 43, 3) := by decide +kernel
theorem dX11_init_102 : decode cX11_init 102 = .ok (.aload_n 0, 1) := by decide +kernel
theorem dX11_init_103 : decode cX11_init 103 = .ok (.iconst 4, 1) := by decide +kernel
theorem dX11_init_104 : decode cX11_init 104 = .ok (.newarray .int, 2) := by decide +kernel
theorem dX11_init_106 : decode cX11_init 106 = .ok (.putfield 46, 3) := by decide +kernel
theorem dX11_init_109 : decode cX11_init 109 = .ok (.aload_n 0, 1) := by decide +kernel
theorem dX11_init_110 : decode cX11_init 110 = .ok (.iconst 4, 1) := by decide +kernel
theorem dX11_init_111 : decode cX11_init 111 = .ok (.newarray .int, 2) := by decide +kernel
theorem dX11_init_113 : decode cX11_init 113 = .ok (.putfield 49, 3) := by decide +kernel
theorem dX11_init_116 : decode cX11_init 116 = .ok (.aload_n 0, 1) := by decide +kernel
theorem dX11_init_117 : decode cX11_init 117 = .ok (.iconst 4, 1) := by decide +kernel
theorem dX11_init_118 : decode cX11_init 118 = .ok (.newarray .int, 2) := by decide +kernel
theorem dX11_init_120 : decode cX11_init 120 = .ok (.putfield 52, 3) := by decide +kernel
theorem dX11_init_123 : decode cX11_init 123 = .ok (.aload_n 0, 1) := by decide +kernel
theorem dX11_init_124 : decode cX11_init 124 = .ok (.sipush 2400, 3) := by decide +kernel
theorem dX11_init_127 : decode cX11_init 127 = .ok (.newarray .int, 2) := by decide +kernel
theorem dX11_init_129 : decode cX11_init 129 = .ok (.putfield 55, 3) := by decide +kernel
theorem dX11_init_132 : decode cX11_init 132 = .ok (.aload_n 0, 1) := by decide +kernel
theorem dX11_init_133 : decode cX11_init 133 = .ok (.bipush 6, 2) := by decide +kernel
theorem dX11_init_135 : decode cX11_init 135 = .ok (.newarray .int, 2) := by decide +kernel
theorem dX11_init_137 : decode cX11_init 137 = .ok (.putfield 58, 3) := by decide +kernel
theorem dX11_init_140 : decode cX11_init 140 = .ok (.aload_n 0, 1) := by decide +kernel
theorem dX11_init_141 : decode cX11_init 141 = .ok (.sipush 300, 3) := by decide +kernel
theorem dX11_init_144 : decode cX11_init 144 = .ok (.newarray .int, 2) := by decide +kernel
theorem dX11_init_146 : decode cX11_init 146 = .ok (.putfield 61, 3) := by decide +kernel
theorem dX11_init_149 : decode cX11_init 149 = .ok (.aload_n 0, 1) := by decide +kernel
theorem dX11_init_150 : decode cX11_init 150 = .ok (.sipush 300, 3) := by decide +kernel
theorem dX11_init_153 : decode cX11_init 153 = .ok (.newarray .int, 2) := by decide +kernel
theorem dX11_init_155 : decode cX11_init 155 = .ok (.putfield 64, 3) := by decide +kernel
theorem dX11_init_158 : decode cX11_init 158 = .ok (.aload_n 0, 1) := by decide +kernel
theorem dX11_init_159 : decode cX11_init 159 = .ok (.sipush 600, 3) := by decide +kernel
theorem dX11_init_162 : decode cX11_init 162 = .ok (.newarray .int, 2) := by decide +kernel
theorem dX11_init_164 : decode cX11_init 164 = .ok (.putfield 67, 3) := by decide +kernel
theorem dX11_init_167 : decode cX11_init 167 = .ok (.aload_n 0, 1) := by decide +kernel
theorem dX11_init_168 : decode cX11_init 168 = .ok (.sipush 9400, 3) := by decide +kernel
theorem dX11_init_171 : decode cX11_init 171 = .ok (.newarray .int, 2) := by decide +kernel
theorem dX11_init_173 : decode cX11_init 173 = .ok (.putfield 70, 3) := by decide +kernel
theorem dX11_init_176 : decode cX11_init 176 = .ok (.aload_n 0, 1) := by decide +kernel
theorem dX11_init_177 : decode cX11_init 177 = .ok (.sipush 9400, 3) := by decide +kernel
theorem dX11_init_180 : decode cX11_init 180 = .ok (.newarray .boolean, 2) := by decide +kernel
theorem dX11_init_182 : decode cX11_init 182 = .ok (.putfield 73, 3) := by decide +kernel
theorem dX11_init_185 : decode cX11_init 185 = .ok (.aload_n 0, 1) := by decide +kernel
theorem dX11_init_186 : decode cX11_init 186 = .ok (.iload_n 1, 1) := by decide +kernel
theorem dX11_init_187 : decode cX11_init 187 = .ok (.iconst 1, 1) := by decide +kernel
theorem dX11_init_188 : decode cX11_init 188 = .ok (.if_icmp .lt 13, 3) := by decide +kernel
theorem dX11_init_191 : decode cX11_init 191 = .ok (.iload_n 1, 1) := by decide +kernel
theorem dX11_init_192 : decode cX11_init 192 = .ok (.bipush 80, 2) := by decide +kernel
theorem dX11_init_194 : decode cX11_init 194 = .ok (.if_icmp .gt 7, 3) := by decide +kernel
theorem dX11_init_197 : decode cX11_init 197 = .ok (.iload_n 1, 1) := by decide +kernel
theorem dX11_init_198 : decode cX11_init 198 = .ok (.goto 5, 3) := by decide +kernel
theorem dX11_init_201 : decode cX11_init 201 = .ok (.bipush 40, 2) := by decide +kernel
theorem dX11_init_203 : decode cX11_init 203 = .ok (.putfield 77, 3) := by decide +kernel
theorem dX11_init_206 : decode cX11_init 206 = .ok (.iconst 0, 1) := by decide +kernel
theorem dX11_init_207 : decode cX11_init 207 = .ok (.istore_n 2, 1) := by decide +kernel
theorem dX11_init_208 : decode cX11_init 208 = .ok (.iload_n 2, 1) := by decide +kernel
theorem dX11_init_209 : decode cX11_init 209 = .ok (.bipush 81, 2) := by decide +kernel
theorem dX11_init_211 : decode cX11_init 211 = .ok (.if_icmp .ge 17, 3) := by decide +kernel
theorem dX11_init_214 : decode cX11_init 214 = .ok (.aload_n 0, 1) := by decide +kernel
theorem dX11_init_215 : decode cX11_init 215 = .ok (.getfield 7, 3) := by decide +kernel
theorem dX11_init_218 : decode cX11_init 218 = .ok (.iload_n 2, 1) := by decide +kernel
theorem dX11_init_219 : decode cX11_init 219 = .ok (.bipush 50, 2) := by decide +kernel
theorem dX11_init_221 : decode cX11_init 221 = .ok (.iastore, 1) := by decide +kernel
theorem dX11_init_222 : decode cX11_init 222 = .ok (.iinc 2 1, 3) := by decide +kernel
theorem dX11_init_225 : decode cX11_init 225 = .ok (.goto (-17), 3) := by decide +kernel
theorem dX11_init_228 : decode cX11_init 228 = .ok (.aload_n 0, 1) := by decide +kernel
theorem dX11_init_229 : decode cX11_init 229 = .ok (.iconst (-1), 1) := by decide +kernel
theorem dX11_init_230 : decode cX11_init 230 = .ok (.putfield 81, 3) := by decide +kernel
theorem dX11_init_233 : decode cX11_init 233 = .ok (.return_, 1) := by decide +kernel
theorem dX11_thrown_0 : decode cX11_thrown 0 = .ok (.aload_n 0, 1) := by decide +kernel
theorem dX11_thrown_1 : decode cX11_thrown 1 = .ok (.getfield 84, 3) := by decide +kernel
theorem dX11_thrown_4 : decode cX11_thrown 4 = .ok (.ireturn, 1) := by decide +kernel
theorem dX11_in_0 : decode cX11_in 0 = .ok (.iload_n 0, 1) := by decide +kernel
theorem dX11_in_1 : decode cX11_in 1 = .ok (.iload_n 1, 1) := by decide +kernel
theorem dX11_in_2 : decode cX11_in 2 = .ok (.if_icmp .lt 12, 3) := by decide +kernel
theorem dX11_in_5 : decode cX11_in 5 = .ok (.iload_n 0, 1) := by decide +kernel
theorem dX11_in_6 : decode cX11_in 6 = .ok (.iload_n 2, 1) := by decide +kernel
theorem dX11_in_7 : decode cX11_in 7 = .ok (.if_icmp .gt 7, 3) := by decide +kernel
theorem dX11_in_10 : decode cX11_in 10 = .ok (.iconst 1, 1) := by decide +kernel
theorem dX11_in_11 : decode cX11_in 11 = .ok (.goto 4, 3) := by decide +kernel
theorem dX11_in_14 : decode cX11_in 14 = .ok (.iconst 0, 1) := by decide +kernel
theorem dX11_in_15 : decode cX11_in 15 = .ok (.ireturn, 1) := by decide +kernel
theorem dX11_diameter_0 : decode cX11_diameter 0 = .ok (.aload_n 0, 1) := by decide +kernel
theorem dX11_diameter_1 : decode cX11_diameter 1 = .ok (.iconst 0, 1) := by decide +kernel
theorem dX11_diameter_2 : decode cX11_diameter 2 = .ok (.putfield 84, 3) := by decide +kernel
theorem dX11_diameter_5 : decode cX11_diameter 5 = .ok (.iload_n 1, 1) := by decide +kernel
theorem dX11_diameter_6 : decode cX11_diameter 6 = .ok (.iconst 0, 1) := by decide +kernel
theorem dX11_diameter_7 : decode cX11_diameter 7 = .ok (.aload_n 0, 1) := by decide +kernel
theorem dX11_diameter_8 : decode cX11_diameter 8 = .ok (.getfield 77, 3) := by decide +kernel
theorem dX11_diameter_11 : decode cX11_diameter 11 = .ok (.invokestatic 87, 3) := by decide +kernel
theorem dX11_diameter_14 : decode cX11_diameter 14 = .ok (.ifCond .eq 15, 3) := by decide +kernel
theorem dX11_diameter_17 : decode cX11_diameter 17 = .ok (.iload_n 2, 1) := by decide +kernel
theorem dX11_diameter_18 : decode cX11_diameter 18 = .ok (.bipush 50, 2) := by decide +kernel
theorem dX11_diameter_20 : decode cX11_diameter 20 = .ok (.sipush 900, 3) := by decide +kernel
theorem dX11_diameter_23 : decode cX11_diameter 23 = .ok (.invokestatic 87, 3) := by decide +kernel
theorem dX11_diameter_26 : decode cX11_diameter 26 = .ok (.ifCond .ne 5, 3) := by decide +kernel
theorem dX11_diameter_29 : decode cX11_diameter 29 = .ok (.iconst 0, 1) := by decide +kernel
theorem dX11_diameter_30 : decode cX11_diameter 30 = .ok (.ireturn, 1) := by decide +kernel
theorem dX11_diameter_31 : decode cX11_diameter 31 = .ok (.aload_n 0, 1) := by decide +kernel
theorem dX11_diameter_32 : decode cX11_diameter 32 = .ok (.getfield 7, 3) := by decide +kernel
theorem dX11_diameter_35 : decode cX11_diameter 35 = .ok (.iload_n 1, 1) := by decide +kernel
theorem dX11_diameter_36 : decode cX11_diameter 36 = .ok (.iload_n 2, 1) := by decide +kernel
theorem dX11_diameter_37 : decode cX11_diameter 37 = .ok (.iastore, 1) := by decide +kernel
theorem dX11_diameter_38 : decode cX11_diameter 38 = .ok (.iconst 1, 1) := by decide +kernel
theorem dX11_diameter_39 : decode cX11_diameter 39 = .ok (.ireturn, 1) := by decide +kernel
theorem dX11_defect_0 : decode cX11_defect 0 = .ok (.aload_n 0, 1) := by decide +kernel
theorem dX11_defect_1 : decode cX11_defect 1 = .ok (.iconst 0, 1) := by decide +kernel
theorem dX11_defect_2 : decode cX11_defect 2 = .ok (.putfield 84, 3) := by decide +kernel
theorem dX11_defect_5 : decode cX11_defect 5 = .ok (.aload_n 0, 1) := by decide +kernel
theorem dX11_defect_6 : decode cX11_defect 6 = .ok (.getfield 91, 3) := by decide +kernel
theorem dX11_defect_9 : decode cX11_defect 9 = .ok (.bipush 20, 2) := by decide +kernel
theorem dX11_defect_11 : decode cX11_defect 11 = .ok (.if_icmp .eq 36, 3) := by decide +kernel
theorem dX11_defect_14 : decode cX11_defect 14 = .ok (.iload_n 1, 1) := by decide +kernel
theorem dX11_defect_15 : decode cX11_defect 15 = .ok (.iconst 0, 1) := by decide +kernel
theorem dX11_defect_16 : decode cX11_defect 16 = .ok (.aload_n 0, 1) := by decide +kernel
theorem dX11_defect_17 : decode cX11_defect 17 = .ok (.getfield 77, 3) := by decide +kernel
theorem dX11_defect_20 : decode cX11_defect 20 = .ok (.invokestatic 87, 3) := by decide +kernel
theorem dX11_defect_23 : decode cX11_defect 23 = .ok (.ifCond .eq 24, 3) := by decide +kernel
theorem dX11_defect_26 : decode cX11_defect 26 = .ok (.iload_n 2, 1) := by decide +kernel
theorem dX11_defect_27 : decode cX11_defect 27 = .ok (.iload_n 1, 1) := by decide +kernel
theorem dX11_defect_28 : decode cX11_defect 28 = .ok (.aload_n 0, 1) := by decide +kernel
theorem dX11_defect_29 : decode cX11_defect 29 = .ok (.getfield 77, 3) := by decide +kernel
theorem dX11_defect_32 : decode cX11_defect 32 = .ok (.invokestatic 87, 3) := by decide +kernel
theorem dX11_defect_35 : decode cX11_defect 35 = .ok (.ifCond .eq 12, 3) := by decide +kernel
theorem dX11_defect_38 : decode cX11_defect 38 = .ok (.iload_n 3, 1) := by decide +kernel
theorem dX11_defect_39 : decode cX11_defect 39 = .ok (.iconst 2, 1) := by decide +kernel
theorem dX11_defect_40 : decode cX11_defect 40 = .ok (.iconst 3, 1) := by decide +kernel
theorem dX11_defect_41 : decode cX11_defect 41 = .ok (.invokestatic 87, 3) := by decide +kernel
theorem dX11_defect_44 : decode cX11_defect 44 = .ok (.ifCond .ne 5, 3) := by decide +kernel
theorem dX11_defect_47 : decode cX11_defect 47 = .ok (.iconst 0, 1) := by decide +kernel
theorem dX11_defect_48 : decode cX11_defect 48 = .ok (.ireturn, 1) := by decide +kernel
theorem dX11_defect_49 : decode cX11_defect 49 = .ok (.aload_n 0, 1) := by decide +kernel
theorem dX11_defect_50 : decode cX11_defect 50 = .ok (.getfield 13, 3) := by decide +kernel
theorem dX11_defect_53 : decode cX11_defect 53 = .ok (.aload_n 0, 1) := by decide +kernel
theorem dX11_defect_54 : decode cX11_defect 54 = .ok (.getfield 91, 3) := by decide +kernel
theorem dX11_defect_57 : decode cX11_defect 57 = .ok (.iload_n 1, 1) := by decide +kernel
theorem dX11_defect_58 : decode cX11_defect 58 = .ok (.iastore, 1) := by decide +kernel
theorem dX11_defect_59 : decode cX11_defect 59 = .ok (.aload_n 0, 1) := by decide +kernel
theorem dX11_defect_60 : decode cX11_defect 60 = .ok (.getfield 16, 3) := by decide +kernel
theorem dX11_defect_63 : decode cX11_defect 63 = .ok (.aload_n 0, 1) := by decide +kernel
theorem dX11_defect_64 : decode cX11_defect 64 = .ok (.getfield 91, 3) := by decide +kernel
theorem dX11_defect_67 : decode cX11_defect 67 = .ok (.iload_n 2, 1) := by decide +kernel
theorem dX11_defect_68 : decode cX11_defect 68 = .ok (.iastore, 1) := by decide +kernel
theorem dX11_defect_69 : decode cX11_defect 69 = .ok (.aload_n 0, 1) := by decide +kernel
theorem dX11_defect_70 : decode cX11_defect 70 = .ok (.getfield 19, 3) := by decide +kernel
theorem dX11_defect_73 : decode cX11_defect 73 = .ok (.aload_n 0, 1) := by decide +kernel
theorem dX11_defect_74 : decode cX11_defect 74 = .ok (.getfield 91, 3) := by decide +kernel
theorem dX11_defect_77 : decode cX11_defect 77 = .ok (.iload_n 3, 1) := by decide +kernel
theorem dX11_defect_78 : decode cX11_defect 78 = .ok (.iastore, 1) := by decide +kernel
theorem dX11_defect_79 : decode cX11_defect 79 = .ok (.aload_n 0, 1) := by decide +kernel
theorem dX11_defect_80 : decode cX11_defect 80 = .ok (.dup, 1) := by decide +kernel
theorem dX11_defect_81 : decode cX11_defect 81 = .ok (.getfield 91, 3) := by decide +kernel
theorem dX11_defect_84 : decode cX11_defect 84 = .ok (.iconst 1, 1) := by decide +kernel
theorem dX11_defect_85 : decode cX11_defect 85 = .ok (.iadd, 1) := by decide +kernel
theorem dX11_defect_86 : decode cX11_defect 86 = .ok (.putfield 91, 3) := by decide +kernel
theorem dX11_defect_89 : decode cX11_defect 89 = .ok (.iconst 1, 1) := by decide +kernel
theorem dX11_defect_90 : decode cX11_defect 90 = .ok (.ireturn, 1) := by decide +kernel
theorem dX11_logKind_0 : decode cX11_logKind 0 = .ok (.aload_n 0, 1) := by decide +kernel
theorem dX11_logKind_1 : decode cX11_logKind 1 = .ok (.iconst 0, 1) := by decide +kernel
theorem dX11_logKind_2 : decode cX11_logKind 2 = .ok (.putfield 84, 3) := by decide +kernel
theorem dX11_logKind_5 : decode cX11_logKind 5 = .ok (.iload_n 1, 1) := by decide +kernel
theorem dX11_logKind_6 : decode cX11_logKind 6 = .ok (.iconst 0, 1) := by decide +kernel
theorem dX11_logKind_7 : decode cX11_logKind 7 = .ok (.iconst 5, 1) := by decide +kernel
theorem dX11_logKind_8 : decode cX11_logKind 8 = .ok (.invokestatic 87, 3) := by decide +kernel
theorem dX11_logKind_11 : decode cX11_logKind 11 = .ok (.ifCond .eq 24, 3) := by decide +kernel
theorem dX11_logKind_14 : decode cX11_logKind 14 = .ok (.iload_n 2, 1) := by decide +kernel
theorem dX11_logKind_15 : decode cX11_logKind 15 = .ok (.iconst 1, 1) := by decide +kernel
theorem dX11_logKind_16 : decode cX11_logKind 16 = .ok (.bipush 60, 2) := by decide +kernel
theorem dX11_logKind_18 : decode cX11_logKind 18 = .ok (.invokestatic 87, 3) := by decide +kernel
theorem dX11_logKind_21 : decode cX11_logKind 21 = .ok (.ifCond .eq 14, 3) := by decide +kernel
theorem dX11_logKind_24 : decode cX11_logKind 24 = .ok (.iload_n 3, 1) := by decide +kernel
theorem dX11_logKind_25 : decode cX11_logKind 25 = .ok (.iconst 0, 1) := by decide +kernel
theorem dX11_logKind_26 : decode cX11_logKind 26 = .ok (.sipush 900, 3) := by decide +kernel
theorem dX11_logKind_29 : decode cX11_logKind 29 = .ok (.invokestatic 87, 3) := by decide +kernel
theorem dX11_logKind_32 : decode cX11_logKind 32 = .ok (.ifCond .ne 5, 3) := by decide +kernel
theorem dX11_logKind_35 : decode cX11_logKind 35 = .ok (.iconst 0, 1) := by decide +kernel
theorem dX11_logKind_36 : decode cX11_logKind 36 = .ok (.ireturn, 1) := by decide +kernel
theorem dX11_logKind_37 : decode cX11_logKind 37 = .ok (.aload_n 0, 1) := by decide +kernel
theorem dX11_logKind_38 : decode cX11_logKind 38 = .ok (.getfield 22, 3) := by decide +kernel
theorem dX11_logKind_41 : decode cX11_logKind 41 = .ok (.iload_n 1, 1) := by decide +kernel
theorem dX11_logKind_42 : decode cX11_logKind 42 = .ok (.iload_n 2, 1) := by decide +kernel
theorem dX11_logKind_43 : decode cX11_logKind 43 = .ok (.iastore, 1) := by decide +kernel
theorem dX11_logKind_44 : decode cX11_logKind 44 = .ok (.aload_n 0, 1) := by decide +kernel
theorem dX11_logKind_45 : decode cX11_logKind 45 = .ok (.getfield 25, 3) := by decide +kernel
theorem dX11_logKind_48 : decode cX11_logKind 48 = .ok (.iload_n 1, 1) := by decide +kernel
theorem dX11_logKind_49 : decode cX11_logKind 49 = .ok (.iload_n 3, 1) := by decide +kernel
theorem dX11_logKind_50 : decode cX11_logKind 50 = .ok (.iastore, 1) := by decide +kernel
theorem dX11_logKind_51 : decode cX11_logKind 51 = .ok (.iconst 0, 1) := by decide +kernel
theorem dX11_logKind_52 : decode cX11_logKind 52 = .ok (.istore 4, 2) := by decide +kernel
theorem dX11_logKind_54 : decode cX11_logKind 54 = .ok (.iload 4, 2) := by decide +kernel
theorem dX11_logKind_56 : decode cX11_logKind 56 = .ok (.bipush 76, 2) := by decide +kernel
theorem dX11_logKind_58 : decode cX11_logKind 58 = .ok (.if_icmp .ge 22, 3) := by decide +kernel
theorem dX11_logKind_61 : decode cX11_logKind 61 = .ok (.aload_n 0, 1) := by decide +kernel
theorem dX11_logKind_62 : decode cX11_logKind 62 = .ok (.getfield 28, 3) := by decide +kernel
theorem dX11_logKind_65 : decode cX11_logKind 65 = .ok (.bipush 76, 2) := by decide +kernel
theorem dX11_logKind_67 : decode cX11_logKind 67 = .ok (.iload_n 1, 1) := by decide +kernel
theorem dX11_logKind_68 : decode cX11_logKind 68 = .ok (.imul, 1) := by decide +kernel
theorem dX11_logKind_69 : decode cX11_logKind 69 = .ok (.iload 4, 2) := by decide +kernel
theorem dX11_logKind_71 : decode cX11_logKind 71 = .ok (.iadd, 1) := by decide +kernel
theorem dX11_logKind_72 : decode cX11_logKind 72 = .ok (.iconst 0, 1) := by decide +kernel
theorem dX11_logKind_73 : decode cX11_logKind 73 = .ok (.iastore, 1) := by decide +kernel
theorem dX11_logKind_74 : decode cX11_logKind 74 = .ok (.iinc 4 1, 3) := by decide +kernel
theorem dX11_logKind_77 : decode cX11_logKind 77 = .ok (.goto (-23), 3) := by decide +kernel
theorem dX11_logKind_80 : decode cX11_logKind 80 = .ok (.iconst 1, 1) := by decide +kernel
theorem dX11_logKind_81 : decode cX11_logKind 81 = .ok (.ireturn, 1) := by decide +kernel
theorem dX11_priceOf_0 : decode cX11_priceOf 0 = .ok (.aload_n 0, 1) := by decide +kernel
theorem dX11_priceOf_1 : decode cX11_priceOf 1 = .ok (.iconst 0, 1) := by decide +kernel
theorem dX11_priceOf_2 : decode cX11_priceOf 2 = .ok (.putfield 84, 3) := by decide +kernel
theorem dX11_priceOf_5 : decode cX11_priceOf 5 = .ok (.iload_n 1, 1) := by decide +kernel
theorem dX11_priceOf_6 : decode cX11_priceOf 6 = .ok (.iconst 0, 1) := by decide +kernel
theorem dX11_priceOf_7 : decode cX11_priceOf 7 = .ok (.iconst 5, 1) := by decide +kernel
theorem dX11_priceOf_8 : decode cX11_priceOf 8 = .ok (.invokestatic 87, 3) := by decide +kernel
theorem dX11_priceOf_11 : decode cX11_priceOf 11 = .ok (.ifCond .eq 42, 3) := by decide +kernel
theorem dX11_priceOf_14 : decode cX11_priceOf 14 = .ok (.aload_n 0, 1) := by decide +kernel
theorem dX11_priceOf_15 : decode cX11_priceOf 15 = .ok (.getfield 22, 3) := by decide +kernel
theorem dX11_priceOf_18 : decode cX11_priceOf 18 = .ok (.iload_n 1, 1) := by decide +kernel
theorem dX11_priceOf_19 : decode cX11_priceOf 19 = .ok (.iaload, 1) := by decide +kernel
theorem dX11_priceOf_20 : decode cX11_priceOf 20 = .ok (.ifCond .eq 33, 3) := by decide +kernel
theorem dX11_priceOf_23 : decode cX11_priceOf 23 = .ok (.iload_n 2, 1) := by decide +kernel
theorem dX11_priceOf_24 : decode cX11_priceOf 24 = .ok (.iconst 0, 1) := by decide +kernel
theorem dX11_priceOf_25 : decode cX11_priceOf 25 = .ok (.bipush 18, 2) := by decide +kernel
theorem dX11_priceOf_27 : decode cX11_priceOf 27 = .ok (.invokestatic 87, 3) := by decide +kernel
theorem dX11_priceOf_30 : decode cX11_priceOf 30 = .ok (.ifCond .eq 23, 3) := by decide +kernel
theorem dX11_priceOf_33 : decode cX11_priceOf 33 = .ok (.iload_n 3, 1) := by decide +kernel
theorem dX11_priceOf_34 : decode cX11_priceOf 34 = .ok (.iconst 1, 1) := by decide +kernel
theorem dX11_priceOf_35 : decode cX11_priceOf 35 = .ok (.iconst 3, 1) := by decide +kernel
theorem dX11_priceOf_36 : decode cX11_priceOf 36 = .ok (.invokestatic 87, 3) := by decide +kernel
theorem dX11_priceOf_39 : decode cX11_priceOf 39 = .ok (.ifCond .eq 14, 3) := by decide +kernel
theorem dX11_priceOf_42 : decode cX11_priceOf 42 = .ok (.iload 4, 2) := by decide +kernel
theorem dX11_priceOf_44 : decode cX11_priceOf 44 = .ok (.iconst 0, 1) := by decide +kernel
theorem dX11_priceOf_45 : decode cX11_priceOf 45 = .ok (.ldc 94, 2) := by decide +kernel
theorem dX11_priceOf_47 : decode cX11_priceOf 47 = .ok (.invokestatic 87, 3) := by decide +kernel
theorem dX11_priceOf_50 : decode cX11_priceOf 50 = .ok (.ifCond .ne 5, 3) := by decide +kernel
theorem dX11_priceOf_53 : decode cX11_priceOf 53 = .ok (.iconst 0, 1) := by decide +kernel
theorem dX11_priceOf_54 : decode cX11_priceOf 54 = .ok (.ireturn, 1) := by decide +kernel
theorem dX11_priceOf_55 : decode cX11_priceOf 55 = .ok (.aload_n 0, 1) := by decide +kernel
theorem dX11_priceOf_56 : decode cX11_priceOf 56 = .ok (.getfield 28, 3) := by decide +kernel
theorem dX11_priceOf_59 : decode cX11_priceOf 59 = .ok (.bipush 76, 2) := by decide +kernel
theorem dX11_priceOf_61 : decode cX11_priceOf 61 = .ok (.iload_n 1, 1) := by decide +kernel
theorem dX11_priceOf_62 : decode cX11_priceOf 62 = .ok (.imul, 1) := by decide +kernel
theorem dX11_priceOf_63 : decode cX11_priceOf 63 = .ok (.iconst 4, 1) := by decide +kernel
theorem dX11_priceOf_64 : decode cX11_priceOf 64 = .ok (.iload_n 2, 1) := by decide +kernel
theorem dX11_priceOf_65 : decode cX11_priceOf 65 = .ok (.imul, 1) := by decide +kernel
theorem dX11_priceOf_66 : decode cX11_priceOf 66 = .ok (.iadd, 1) := by decide +kernel
theorem dX11_priceOf_67 : decode cX11_priceOf 67 = .ok (.iload_n 3, 1) := by decide +kernel
theorem dX11_priceOf_68 : decode cX11_priceOf 68 = .ok (.iadd, 1) := by decide +kernel
theorem dX11_priceOf_69 : decode cX11_priceOf 69 = .ok (.iload 4, 2) := by decide +kernel
theorem dX11_priceOf_71 : decode cX11_priceOf 71 = .ok (.iastore, 1) := by decide +kernel
theorem dX11_priceOf_72 : decode cX11_priceOf 72 = .ok (.iconst 1, 1) := by decide +kernel
theorem dX11_priceOf_73 : decode cX11_priceOf 73 = .ok (.ireturn, 1) := by decide +kernel
theorem dX11_topOf_0 : decode cX11_topOf 0 = .ok (.sipush 900, 3) := by decide +kernel
theorem dX11_topOf_3 : decode cX11_topOf 3 = .ok (.istore_n 3, 1) := by decide +kernel
theorem dX11_topOf_4 : decode cX11_topOf 4 = .ok (.iload_n 1, 1) := by decide +kernel
theorem dX11_topOf_5 : decode cX11_topOf 5 = .ok (.istore 4, 2) := by decide +kernel
theorem dX11_topOf_7 : decode cX11_topOf 7 = .ok (.iload 4, 2) := by decide +kernel
theorem dX11_topOf_9 : decode cX11_topOf 9 = .ok (.iload_n 1, 1) := by decide +kernel
theorem dX11_topOf_10 : decode cX11_topOf 10 = .ok (.iload_n 2, 1) := by decide +kernel
theorem dX11_topOf_11 : decode cX11_topOf 11 = .ok (.iadd, 1) := by decide +kernel
theorem dX11_topOf_12 : decode cX11_topOf 12 = .ok (.if_icmp .gt 32, 3) := by decide +kernel
theorem dX11_topOf_15 : decode cX11_topOf 15 = .ok (.aload_n 0, 1) := by decide +kernel
theorem dX11_topOf_16 : decode cX11_topOf 16 = .ok (.getfield 7, 3) := by decide +kernel
theorem dX11_topOf_19 : decode cX11_topOf 19 = .ok (.iload 4, 2) := by decide +kernel
theorem dX11_topOf_21 : decode cX11_topOf 21 = .ok (.iaload, 1) := by decide +kernel
theorem dX11_topOf_22 : decode cX11_topOf 22 = .ok (.iload_n 3, 1) := by decide +kernel
theorem dX11_topOf_23 : decode cX11_topOf 23 = .ok (.if_icmp .ge 13, 3) := by decide +kernel
theorem dX11_topOf_26 : decode cX11_topOf 26 = .ok (.aload_n 0, 1) := by decide +kernel
theorem dX11_topOf_27 : decode cX11_topOf 27 = .ok (.getfield 7, 3) := by decide +kernel
theorem dX11_topOf_30 : decode cX11_topOf 30 = .ok (.iload 4, 2) := by decide +kernel
theorem dX11_topOf_32 : decode cX11_topOf 32 = .ok (.iaload, 1) := by decide +kernel
theorem dX11_topOf_33 : decode cX11_topOf 33 = .ok (.goto 4, 3) := by decide +kernel
theorem dX11_topOf_36 : decode cX11_topOf 36 = .ok (.iload_n 3, 1) := by decide +kernel
theorem dX11_topOf_37 : decode cX11_topOf 37 = .ok (.istore_n 3, 1) := by decide +kernel
theorem dX11_topOf_38 : decode cX11_topOf 38 = .ok (.iinc 4 1, 3) := by decide +kernel
theorem dX11_topOf_41 : decode cX11_topOf 41 = .ok (.goto (-34), 3) := by decide +kernel
theorem dX11_topOf_44 : decode cX11_topOf 44 = .ok (.iload_n 3, 1) := by decide +kernel
theorem dX11_topOf_45 : decode cX11_topOf 45 = .ok (.ireturn, 1) := by decide +kernel
theorem dX11_gradeOf_0 : decode cX11_gradeOf 0 = .ok (.iconst 1, 1) := by decide +kernel
theorem dX11_gradeOf_1 : decode cX11_gradeOf 1 = .ok (.istore_n 3, 1) := by decide +kernel
theorem dX11_gradeOf_2 : decode cX11_gradeOf 2 = .ok (.iconst 0, 1) := by decide +kernel
theorem dX11_gradeOf_3 : decode cX11_gradeOf 3 = .ok (.istore 4, 2) := by decide +kernel
theorem dX11_gradeOf_5 : decode cX11_gradeOf 5 = .ok (.iload 4, 2) := by decide +kernel
theorem dX11_gradeOf_7 : decode cX11_gradeOf 7 = .ok (.aload_n 0, 1) := by decide +kernel
theorem dX11_gradeOf_8 : decode cX11_gradeOf 8 = .ok (.getfield 91, 3) := by decide +kernel
theorem dX11_gradeOf_11 : decode cX11_gradeOf 11 = .ok (.if_icmp .ge 52, 3) := by decide +kernel
theorem dX11_gradeOf_14 : decode cX11_gradeOf 14 = .ok (.aload_n 0, 1) := by decide +kernel
theorem dX11_gradeOf_15 : decode cX11_gradeOf 15 = .ok (.getfield 13, 3) := by decide +kernel
theorem dX11_gradeOf_18 : decode cX11_gradeOf 18 = .ok (.iload 4, 2) := by decide +kernel
theorem dX11_gradeOf_20 : decode cX11_gradeOf 20 = .ok (.iaload, 1) := by decide +kernel
theorem dX11_gradeOf_21 : decode cX11_gradeOf 21 = .ok (.iload_n 1, 1) := by decide +kernel
theorem dX11_gradeOf_22 : decode cX11_gradeOf 22 = .ok (.iload_n 2, 1) := by decide +kernel
theorem dX11_gradeOf_23 : decode cX11_gradeOf 23 = .ok (.iadd, 1) := by decide +kernel
theorem dX11_gradeOf_24 : decode cX11_gradeOf 24 = .ok (.if_icmp .gt 33, 3) := by decide +kernel
theorem dX11_gradeOf_27 : decode cX11_gradeOf 27 = .ok (.aload_n 0, 1) := by decide +kernel
theorem dX11_gradeOf_28 : decode cX11_gradeOf 28 = .ok (.getfield 16, 3) := by decide +kernel
theorem dX11_gradeOf_31 : decode cX11_gradeOf 31 = .ok (.iload 4, 2) := by decide +kernel
theorem dX11_gradeOf_33 : decode cX11_gradeOf 33 = .ok (.iaload, 1) := by decide +kernel
theorem dX11_gradeOf_34 : decode cX11_gradeOf 34 = .ok (.iload_n 1, 1) := by decide +kernel
theorem dX11_gradeOf_35 : decode cX11_gradeOf 35 = .ok (.if_icmp .lt 22, 3) := by decide +kernel
theorem dX11_gradeOf_38 : decode cX11_gradeOf 38 = .ok (.aload_n 0, 1) := by decide +kernel
theorem dX11_gradeOf_39 : decode cX11_gradeOf 39 = .ok (.getfield 19, 3) := by decide +kernel
theorem dX11_gradeOf_42 : decode cX11_gradeOf 42 = .ok (.iload 4, 2) := by decide +kernel
theorem dX11_gradeOf_44 : decode cX11_gradeOf 44 = .ok (.iaload, 1) := by decide +kernel
theorem dX11_gradeOf_45 : decode cX11_gradeOf 45 = .ok (.iload_n 3, 1) := by decide +kernel
theorem dX11_gradeOf_46 : decode cX11_gradeOf 46 = .ok (.if_icmp .le 11, 3) := by decide +kernel
theorem dX11_gradeOf_49 : decode cX11_gradeOf 49 = .ok (.aload_n 0, 1) := by decide +kernel
theorem dX11_gradeOf_50 : decode cX11_gradeOf 50 = .ok (.getfield 19, 3) := by decide +kernel
theorem dX11_gradeOf_53 : decode cX11_gradeOf 53 = .ok (.iload 4, 2) := by decide +kernel
theorem dX11_gradeOf_55 : decode cX11_gradeOf 55 = .ok (.iaload, 1) := by decide +kernel
theorem dX11_gradeOf_56 : decode cX11_gradeOf 56 = .ok (.istore_n 3, 1) := by decide +kernel
theorem dX11_gradeOf_57 : decode cX11_gradeOf 57 = .ok (.iinc 4 1, 3) := by decide +kernel
theorem dX11_gradeOf_60 : decode cX11_gradeOf 60 = .ok (.goto (-55), 3) := by decide +kernel
theorem dX11_gradeOf_63 : decode cX11_gradeOf 63 = .ok (.iload_n 3, 1) := by decide +kernel
theorem dX11_gradeOf_64 : decode cX11_gradeOf 64 = .ok (.ireturn, 1) := by decide +kernel
theorem dX11_isAllowed_0 : decode cX11_isAllowed 0 = .ok (.aload_n 0, 1) := by decide +kernel
theorem dX11_isAllowed_1 : decode cX11_isAllowed 1 = .ok (.getfield 22, 3) := by decide +kernel
theorem dX11_isAllowed_4 : decode cX11_isAllowed 4 = .ok (.iload_n 1, 1) := by decide +kernel
theorem dX11_isAllowed_5 : decode cX11_isAllowed 5 = .ok (.iaload, 1) := by decide +kernel
theorem dX11_isAllowed_6 : decode cX11_isAllowed 6 = .ok (.istore_n 3, 1) := by decide +kernel
theorem dX11_isAllowed_7 : decode cX11_isAllowed 7 = .ok (.iload_n 3, 1) := by decide +kernel
theorem dX11_isAllowed_8 : decode cX11_isAllowed 8 = .ok (.ifCond .le 32, 3) := by decide +kernel
theorem dX11_isAllowed_11 : decode cX11_isAllowed 11 = .ok (.iload_n 2, 1) := by decide +kernel
theorem dX11_isAllowed_12 : decode cX11_isAllowed 12 = .ok (.iload_n 3, 1) := by decide +kernel
theorem dX11_isAllowed_13 : decode cX11_isAllowed 13 = .ok (.iadd, 1) := by decide +kernel
theorem dX11_isAllowed_14 : decode cX11_isAllowed 14 = .ok (.aload_n 0, 1) := by decide +kernel
theorem dX11_isAllowed_15 : decode cX11_isAllowed 15 = .ok (.getfield 77, 3) := by decide +kernel
theorem dX11_isAllowed_18 : decode cX11_isAllowed 18 = .ok (.if_icmp .gt 22, 3) := by decide +kernel
theorem dX11_isAllowed_21 : decode cX11_isAllowed 21 = .ok (.aload_n 0, 1) := by decide +kernel
theorem dX11_isAllowed_22 : decode cX11_isAllowed 22 = .ok (.iload_n 2, 1) := by decide +kernel
theorem dX11_isAllowed_23 : decode cX11_isAllowed 23 = .ok (.iload_n 3, 1) := by decide +kernel
theorem dX11_isAllowed_24 : decode cX11_isAllowed 24 = .ok (.invokevirtual 95, 3) := by decide +kernel
theorem dX11_isAllowed_27 : decode cX11_isAllowed 27 = .ok (.aload_n 0, 1) := by decide +kernel
theorem dX11_isAllowed_28 : decode cX11_isAllowed 28 = .ok (.getfield 25, 3) := by decide +kernel
theorem dX11_isAllowed_31 : decode cX11_isAllowed 31 = .ok (.iload_n 1, 1) := by decide +kernel
theorem dX11_isAllowed_32 : decode cX11_isAllowed 32 = .ok (.iaload, 1) := by decide +kernel
theorem dX11_isAllowed_33 : decode cX11_isAllowed 33 = .ok (.if_icmp .lt 7, 3) := by decide +kernel
theorem dX11_isAllowed_36 : decode cX11_isAllowed 36 = .ok (.iconst 1, 1) := by decide +kernel
theorem dX11_isAllowed_37 : decode cX11_isAllowed 37 = .ok (.goto 4, 3) := by decide +kernel
theorem dX11_isAllowed_40 : decode cX11_isAllowed 40 = .ok (.iconst 0, 1) := by decide +kernel
theorem dX11_isAllowed_41 : decode cX11_isAllowed 41 = .ok (.ireturn, 1) := by decide +kernel
theorem dX11_worth_0 : decode cX11_worth 0 = .ok (.aload_n 0, 1) := by decide +kernel
theorem dX11_worth_1 : decode cX11_worth 1 = .ok (.getfield 22, 3) := by decide +kernel
theorem dX11_worth_4 : decode cX11_worth 4 = .ok (.iload_n 1, 1) := by decide +kernel
theorem dX11_worth_5 : decode cX11_worth 5 = .ok (.iaload, 1) := by decide +kernel
theorem dX11_worth_6 : decode cX11_worth 6 = .ok (.istore_n 3, 1) := by decide +kernel
theorem dX11_worth_7 : decode cX11_worth 7 = .ok (.aload_n 0, 1) := by decide +kernel
theorem dX11_worth_8 : decode cX11_worth 8 = .ok (.getfield 28, 3) := by decide +kernel
theorem dX11_worth_11 : decode cX11_worth 11 = .ok (.bipush 76, 2) := by decide +kernel
theorem dX11_worth_13 : decode cX11_worth 13 = .ok (.iload_n 1, 1) := by decide +kernel
theorem dX11_worth_14 : decode cX11_worth 14 = .ok (.imul, 1) := by decide +kernel
theorem dX11_worth_15 : decode cX11_worth 15 = .ok (.iconst 4, 1) := by decide +kernel
theorem dX11_worth_16 : decode cX11_worth 16 = .ok (.aload_n 0, 1) := by decide +kernel
theorem dX11_worth_17 : decode cX11_worth 17 = .ok (.iload_n 2, 1) := by decide +kernel
theorem dX11_worth_18 : decode cX11_worth 18 = .ok (.iload_n 3, 1) := by decide +kernel
theorem dX11_worth_19 : decode cX11_worth 19 = .ok (.invokevirtual 95, 3) := by decide +kernel
theorem dX11_worth_22 : decode cX11_worth 22 = .ok (.bipush 50, 2) := by decide +kernel
theorem dX11_worth_24 : decode cX11_worth 24 = .ok (.idiv, 1) := by decide +kernel
theorem dX11_worth_25 : decode cX11_worth 25 = .ok (.imul, 1) := by decide +kernel
theorem dX11_worth_26 : decode cX11_worth 26 = .ok (.iadd, 1) := by decide +kernel
theorem dX11_worth_27 : decode cX11_worth 27 = .ok (.aload_n 0, 1) := by decide +kernel
theorem dX11_worth_28 : decode cX11_worth 28 = .ok (.iload_n 2, 1) := by decide +kernel
theorem dX11_worth_29 : decode cX11_worth 29 = .ok (.iload_n 3, 1) := by decide +kernel
theorem dX11_worth_30 : decode cX11_worth 30 = .ok (.invokevirtual 99, 3) := by decide +kernel
theorem dX11_worth_33 : decode cX11_worth 33 = .ok (.iadd, 1) := by decide +kernel
theorem dX11_worth_34 : decode cX11_worth 34 = .ok (.iaload, 1) := by decide +kernel
theorem dX11_worth_35 : decode cX11_worth 35 = .ok (.ireturn, 1) := by decide +kernel
theorem dX11_add_0 : decode cX11_add 0 = .ok (.aload_n 0, 1) := by decide +kernel
theorem dX11_add_1 : decode cX11_add 1 = .ok (.getfield 22, 3) := by decide +kernel
theorem dX11_add_4 : decode cX11_add 4 = .ok (.iload_n 1, 1) := by decide +kernel
theorem dX11_add_5 : decode cX11_add 5 = .ok (.iaload, 1) := by decide +kernel
theorem dX11_add_6 : decode cX11_add 6 = .ok (.istore_n 3, 1) := by decide +kernel
theorem dX11_add_7 : decode cX11_add 7 = .ok (.bipush 6, 2) := by decide +kernel
theorem dX11_add_9 : decode cX11_add 9 = .ok (.aload_n 0, 1) := by decide +kernel
theorem dX11_add_10 : decode cX11_add 10 = .ok (.getfield 102, 3) := by decide +kernel
theorem dX11_add_13 : decode cX11_add 13 = .ok (.imul, 1) := by decide +kernel
theorem dX11_add_14 : decode cX11_add 14 = .ok (.istore 4, 2) := by decide +kernel
theorem dX11_add_16 : decode cX11_add 16 = .ok (.aload_n 0, 1) := by decide +kernel
theorem dX11_add_17 : decode cX11_add 17 = .ok (.getfield 31, 3) := by decide +kernel
theorem dX11_add_20 : decode cX11_add 20 = .ok (.iload 4, 2) := by decide +kernel
theorem dX11_add_22 : decode cX11_add 22 = .ok (.iload_n 2, 1) := by decide +kernel
theorem dX11_add_23 : decode cX11_add 23 = .ok (.iastore, 1) := by decide +kernel
theorem dX11_add_24 : decode cX11_add 24 = .ok (.aload_n 0, 1) := by decide +kernel
theorem dX11_add_25 : decode cX11_add 25 = .ok (.getfield 31, 3) := by decide +kernel
theorem dX11_add_28 : decode cX11_add 28 = .ok (.iload 4, 2) := by decide +kernel
theorem dX11_add_30 : decode cX11_add 30 = .ok (.iconst 1, 1) := by decide +kernel
theorem dX11_add_31 : decode cX11_add 31 = .ok (.iadd, 1) := by decide +kernel
theorem dX11_add_32 : decode cX11_add 32 = .ok (.iload_n 1, 1) := by decide +kernel
theorem dX11_add_33 : decode cX11_add 33 = .ok (.iastore, 1) := by decide +kernel
theorem dX11_add_34 : decode cX11_add 34 = .ok (.aload_n 0, 1) := by decide +kernel
theorem dX11_add_35 : decode cX11_add 35 = .ok (.getfield 31, 3) := by decide +kernel
theorem dX11_add_38 : decode cX11_add 38 = .ok (.iload 4, 2) := by decide +kernel
theorem dX11_add_40 : decode cX11_add 40 = .ok (.iconst 2, 1) := by decide +kernel
theorem dX11_add_41 : decode cX11_add 41 = .ok (.iadd, 1) := by decide +kernel
theorem dX11_add_42 : decode cX11_add 42 = .ok (.aload_n 0, 1) := by decide +kernel
theorem dX11_add_43 : decode cX11_add 43 = .ok (.iload_n 2, 1) := by decide +kernel
theorem dX11_add_44 : decode cX11_add 44 = .ok (.iload_n 3, 1) := by decide +kernel
theorem dX11_add_45 : decode cX11_add 45 = .ok (.invokevirtual 95, 3) := by decide +kernel
theorem dX11_add_48 : decode cX11_add 48 = .ok (.iastore, 1) := by decide +kernel
theorem dX11_add_49 : decode cX11_add 49 = .ok (.aload_n 0, 1) := by decide +kernel
theorem dX11_add_50 : decode cX11_add 50 = .ok (.getfield 31, 3) := by decide +kernel
theorem dX11_add_53 : decode cX11_add 53 = .ok (.iload 4, 2) := by decide +kernel
theorem dX11_add_55 : decode cX11_add 55 = .ok (.iconst 3, 1) := by decide +kernel
theorem dX11_add_56 : decode cX11_add 56 = .ok (.iadd, 1) := by decide +kernel
theorem dX11_add_57 : decode cX11_add 57 = .ok (.aload_n 0, 1) := by decide +kernel
theorem dX11_add_58 : decode cX11_add 58 = .ok (.iload_n 2, 1) := by decide +kernel
theorem dX11_add_59 : decode cX11_add 59 = .ok (.iload_n 3, 1) := by decide +kernel
theorem dX11_add_60 : decode cX11_add 60 = .ok (.invokevirtual 95, 3) := by decide +kernel
theorem dX11_add_63 : decode cX11_add 63 = .ok (.bipush 50, 2) := by decide +kernel
theorem dX11_add_65 : decode cX11_add 65 = .ok (.idiv, 1) := by decide +kernel
theorem dX11_add_66 : decode cX11_add 66 = .ok (.iastore, 1) := by decide +kernel
theorem dX11_add_67 : decode cX11_add 67 = .ok (.aload_n 0, 1) := by decide +kernel
theorem dX11_add_68 : decode cX11_add 68 = .ok (.getfield 31, 3) := by decide +kernel
theorem dX11_add_71 : decode cX11_add 71 = .ok (.iload 4, 2) := by decide +kernel
theorem dX11_add_73 : decode cX11_add 73 = .ok (.iconst 4, 1) := by decide +kernel
theorem dX11_add_74 : decode cX11_add 74 = .ok (.iadd, 1) := by decide +kernel
theorem dX11_add_75 : decode cX11_add 75 = .ok (.aload_n 0, 1) := by decide +kernel
theorem dX11_add_76 : decode cX11_add 76 = .ok (.iload_n 2, 1) := by decide +kernel
theorem dX11_add_77 : decode cX11_add 77 = .ok (.iload_n 3, 1) := by decide +kernel
theorem dX11_add_78 : decode cX11_add 78 = .ok (.invokevirtual 99, 3) := by decide +kernel
theorem dX11_add_81 : decode cX11_add 81 = .ok (.iastore, 1) := by decide +kernel
theorem dX11_add_82 : decode cX11_add 82 = .ok (.aload_n 0, 1) := by decide +kernel
theorem dX11_add_83 : decode cX11_add 83 = .ok (.getfield 31, 3) := by decide +kernel
theorem dX11_add_86 : decode cX11_add 86 = .ok (.iload 4, 2) := by decide +kernel
theorem dX11_add_88 : decode cX11_add 88 = .ok (.iconst 5, 1) := by decide +kernel
theorem dX11_add_89 : decode cX11_add 89 = .ok (.iadd, 1) := by decide +kernel
theorem dX11_add_90 : decode cX11_add 90 = .ok (.aload_n 0, 1) := by decide +kernel
theorem dX11_add_91 : decode cX11_add 91 = .ok (.iload_n 1, 1) := by decide +kernel
theorem dX11_add_92 : decode cX11_add 92 = .ok (.iload_n 2, 1) := by decide +kernel
theorem dX11_add_93 : decode cX11_add 93 = .ok (.invokevirtual 105, 3) := by decide +kernel
theorem dX11_add_96 : decode cX11_add 96 = .ok (.iastore, 1) := by decide +kernel
theorem dX11_add_97 : decode cX11_add 97 = .ok (.aload_n 0, 1) := by decide +kernel
theorem dX11_add_98 : decode cX11_add 98 = .ok (.dup, 1) := by decide +kernel
theorem dX11_add_99 : decode cX11_add 99 = .ok (.getfield 102, 3) := by decide +kernel
theorem dX11_add_102 : decode cX11_add 102 = .ok (.iconst 1, 1) := by decide +kernel
theorem dX11_add_103 : decode cX11_add 103 = .ok (.iadd, 1) := by decide +kernel
theorem dX11_add_104 : decode cX11_add 104 = .ok (.putfield 102, 3) := by decide +kernel
theorem dX11_add_107 : decode cX11_add 107 = .ok (.return_, 1) := by decide +kernel
theorem dX11_buck_0 : decode cX11_buck 0 = .ok (.aload_n 0, 1) := by decide +kernel
theorem dX11_buck_1 : decode cX11_buck 1 = .ok (.iconst 0, 1) := by decide +kernel
theorem dX11_buck_2 : decode cX11_buck 2 = .ok (.putfield 84, 3) := by decide +kernel
theorem dX11_buck_5 : decode cX11_buck 5 = .ok (.aload_n 0, 1) := by decide +kernel
theorem dX11_buck_6 : decode cX11_buck 6 = .ok (.getfield 77, 3) := by decide +kernel
theorem dX11_buck_9 : decode cX11_buck 9 = .ok (.iconst 1, 1) := by decide +kernel
theorem dX11_buck_10 : decode cX11_buck 10 = .ok (.iadd, 1) := by decide +kernel
theorem dX11_buck_11 : decode cX11_buck 11 = .ok (.istore_n 1, 1) := by decide +kernel
theorem dX11_buck_12 : decode cX11_buck 12 = .ok (.iconst 0, 1) := by decide +kernel
theorem dX11_buck_13 : decode cX11_buck 13 = .ok (.istore_n 2, 1) := by decide +kernel
theorem dX11_buck_14 : decode cX11_buck 14 = .ok (.iload_n 2, 1) := by decide +kernel
theorem dX11_buck_15 : decode cX11_buck 15 = .ok (.iload_n 1, 1) := by decide +kernel
theorem dX11_buck_16 : decode cX11_buck 16 = .ok (.if_icmp .gt 16, 3) := by decide +kernel
theorem dX11_buck_19 : decode cX11_buck 19 = .ok (.aload_n 0, 1) := by decide +kernel
theorem dX11_buck_20 : decode cX11_buck 20 = .ok (.getfield 70, 3) := by decide +kernel
theorem dX11_buck_23 : decode cX11_buck 23 = .ok (.iload_n 2, 1) := by decide +kernel
theorem dX11_buck_24 : decode cX11_buck 24 = .ok (.iconst 0, 1) := by decide +kernel
theorem dX11_buck_25 : decode cX11_buck 25 = .ok (.iastore, 1) := by decide +kernel
theorem dX11_buck_26 : decode cX11_buck 26 = .ok (.iinc 2 1, 3) := by decide +kernel
theorem dX11_buck_29 : decode cX11_buck 29 = .ok (.goto (-15), 3) := by decide +kernel
theorem dX11_buck_32 : decode cX11_buck 32 = .ok (.iconst 0, 1) := by decide +kernel
theorem dX11_buck_33 : decode cX11_buck 33 = .ok (.istore_n 2, 1) := by decide +kernel
theorem dX11_buck_34 : decode cX11_buck 34 = .ok (.iload_n 2, 1) := by decide +kernel
theorem dX11_buck_35 : decode cX11_buck 35 = .ok (.aload_n 0, 1) := by decide +kernel
theorem dX11_buck_36 : decode cX11_buck 36 = .ok (.getfield 77, 3) := by decide +kernel
theorem dX11_buck_39 : decode cX11_buck 39 = .ok (.if_icmp .gt 114, 3) := by decide +kernel
theorem dX11_buck_42 : decode cX11_buck 42 = .ok (.aload_n 0, 1) := by decide +kernel
theorem dX11_buck_43 : decode cX11_buck 43 = .ok (.getfield 70, 3) := by decide +kernel
theorem dX11_buck_46 : decode cX11_buck 46 = .ok (.iload_n 2, 1) := by decide +kernel
theorem dX11_buck_47 : decode cX11_buck 47 = .ok (.iaload, 1) := by decide +kernel
theorem dX11_buck_48 : decode cX11_buck 48 = .ok (.aload_n 0, 1) := by decide +kernel
theorem dX11_buck_49 : decode cX11_buck 49 = .ok (.getfield 70, 3) := by decide +kernel
theorem dX11_buck_52 : decode cX11_buck 52 = .ok (.iload_n 2, 1) := by decide +kernel
theorem dX11_buck_53 : decode cX11_buck 53 = .ok (.iconst 1, 1) := by decide +kernel
theorem dX11_buck_54 : decode cX11_buck 54 = .ok (.iadd, 1) := by decide +kernel
theorem dX11_buck_55 : decode cX11_buck 55 = .ok (.iaload, 1) := by decide +kernel
theorem dX11_buck_56 : decode cX11_buck 56 = .ok (.if_icmp .le 17, 3) := by decide +kernel
theorem dX11_buck_59 : decode cX11_buck 59 = .ok (.aload_n 0, 1) := by decide +kernel
theorem dX11_buck_60 : decode cX11_buck 60 = .ok (.getfield 70, 3) := by decide +kernel
theorem dX11_buck_63 : decode cX11_buck 63 = .ok (.iload_n 2, 1) := by decide +kernel
theorem dX11_buck_64 : decode cX11_buck 64 = .ok (.iconst 1, 1) := by decide +kernel
theorem dX11_buck_65 : decode cX11_buck 65 = .ok (.iadd, 1) := by decide +kernel
theorem dX11_buck_66 : decode cX11_buck 66 = .ok (.aload_n 0, 1) := by decide +kernel
theorem dX11_buck_67 : decode cX11_buck 67 = .ok (.getfield 70, 3) := by decide +kernel
theorem dX11_buck_70 : decode cX11_buck 70 = .ok (.iload_n 2, 1) := by decide +kernel
theorem dX11_buck_71 : decode cX11_buck 71 = .ok (.iaload, 1) := by decide +kernel
theorem dX11_buck_72 : decode cX11_buck 72 = .ok (.iastore, 1) := by decide +kernel
theorem dX11_buck_73 : decode cX11_buck 73 = .ok (.iconst 0, 1) := by decide +kernel
theorem dX11_buck_74 : decode cX11_buck 74 = .ok (.istore_n 3, 1) := by decide +kernel
theorem dX11_buck_75 : decode cX11_buck 75 = .ok (.iload_n 3, 1) := by decide +kernel
theorem dX11_buck_76 : decode cX11_buck 76 = .ok (.bipush 6, 2) := by decide +kernel
theorem dX11_buck_78 : decode cX11_buck 78 = .ok (.if_icmp .ge 69, 3) := by decide +kernel
theorem dX11_buck_81 : decode cX11_buck 81 = .ok (.aload_n 0, 1) := by decide +kernel
theorem dX11_buck_82 : decode cX11_buck 82 = .ok (.iload_n 3, 1) := by decide +kernel
theorem dX11_buck_83 : decode cX11_buck 83 = .ok (.iload_n 2, 1) := by decide +kernel
theorem dX11_buck_84 : decode cX11_buck 84 = .ok (.invokevirtual 108, 3) := by decide +kernel
theorem dX11_buck_87 : decode cX11_buck 87 = .ok (.ifCond .ne 6, 3) := by decide +kernel
theorem dX11_buck_90 : decode cX11_buck 90 = .ok (.goto 51, 3) := by decide +kernel
theorem dX11_buck_93 : decode cX11_buck 93 = .ok (.iload_n 2, 1) := by decide +kernel
theorem dX11_buck_94 : decode cX11_buck 94 = .ok (.aload_n 0, 1) := by decide +kernel
theorem dX11_buck_95 : decode cX11_buck 95 = .ok (.getfield 22, 3) := by decide +kernel
theorem dX11_buck_98 : decode cX11_buck 98 = .ok (.iload_n 3, 1) := by decide +kernel
theorem dX11_buck_99 : decode cX11_buck 99 = .ok (.iaload, 1) := by decide +kernel
theorem dX11_buck_100 : decode cX11_buck 100 = .ok (.iadd, 1) := by decide +kernel
theorem dX11_buck_101 : decode cX11_buck 101 = .ok (.iconst 1, 1) := by decide +kernel
theorem dX11_buck_102 : decode cX11_buck 102 = .ok (.iadd, 1) := by decide +kernel
theorem dX11_buck_103 : decode cX11_buck 103 = .ok (.istore 4, 2) := by decide +kernel
theorem dX11_buck_105 : decode cX11_buck 105 = .ok (.aload_n 0, 1) := by decide +kernel
theorem dX11_buck_106 : decode cX11_buck 106 = .ok (.getfield 70, 3) := by decide +kernel
theorem dX11_buck_109 : decode cX11_buck 109 = .ok (.iload_n 2, 1) := by decide +kernel
theorem dX11_buck_110 : decode cX11_buck 110 = .ok (.iaload, 1) := by decide +kernel
theorem dX11_buck_111 : decode cX11_buck 111 = .ok (.aload_n 0, 1) := by decide +kernel
theorem dX11_buck_112 : decode cX11_buck 112 = .ok (.iload_n 3, 1) := by decide +kernel
theorem dX11_buck_113 : decode cX11_buck 113 = .ok (.iload_n 2, 1) := by decide +kernel
theorem dX11_buck_114 : decode cX11_buck 114 = .ok (.invokevirtual 105, 3) := by decide +kernel
theorem dX11_buck_117 : decode cX11_buck 117 = .ok (.iadd, 1) := by decide +kernel
theorem dX11_buck_118 : decode cX11_buck 118 = .ok (.istore 5, 2) := by decide +kernel
theorem dX11_buck_120 : decode cX11_buck 120 = .ok (.iload 5, 2) := by decide +kernel
theorem dX11_buck_122 : decode cX11_buck 122 = .ok (.aload_n 0, 1) := by decide +kernel
theorem dX11_buck_123 : decode cX11_buck 123 = .ok (.getfield 70, 3) := by decide +kernel
theorem dX11_buck_126 : decode cX11_buck 126 = .ok (.iload 4, 2) := by decide +kernel
theorem dX11_buck_128 : decode cX11_buck 128 = .ok (.iaload, 1) := by decide +kernel
theorem dX11_buck_129 : decode cX11_buck 129 = .ok (.if_icmp .le 12, 3) := by decide +kernel
theorem dX11_buck_132 : decode cX11_buck 132 = .ok (.aload_n 0, 1) := by decide +kernel
theorem dX11_buck_133 : decode cX11_buck 133 = .ok (.getfield 70, 3) := by decide +kernel
theorem dX11_buck_136 : decode cX11_buck 136 = .ok (.iload 4, 2) := by decide +kernel
theorem dX11_buck_138 : decode cX11_buck 138 = .ok (.iload 5, 2) := by decide +kernel
theorem dX11_buck_140 : decode cX11_buck 140 = .ok (.iastore, 1) := by decide +kernel
theorem dX11_buck_141 : decode cX11_buck 141 = .ok (.iinc 3 1, 3) := by decide +kernel
theorem dX11_buck_144 : decode cX11_buck 144 = .ok (.goto (-69), 3) := by decide +kernel
theorem dX11_buck_147 : decode cX11_buck 147 = .ok (.iinc 2 1, 3) := by decide +kernel
theorem dX11_buck_150 : decode cX11_buck 150 = .ok (.goto (-116), 3) := by decide +kernel
theorem dX11_buck_153 : decode cX11_buck 153 = .ok (.iload_n 1, 1) := by decide +kernel
theorem dX11_buck_154 : decode cX11_buck 154 = .ok (.istore_n 2, 1) := by decide +kernel
theorem dX11_buck_155 : decode cX11_buck 155 = .ok (.iload_n 2, 1) := by decide +kernel
theorem dX11_buck_156 : decode cX11_buck 156 = .ok (.ifCond .lt 88, 3) := by decide +kernel
theorem dX11_buck_159 : decode cX11_buck 159 = .ok (.aload_n 0, 1) := by decide +kernel
theorem dX11_buck_160 : decode cX11_buck 160 = .ok (.getfield 73, 3) := by decide +kernel
theorem dX11_buck_163 : decode cX11_buck 163 = .ok (.iload_n 2, 1) := by decide +kernel
theorem dX11_buck_164 : decode cX11_buck 164 = .ok (.iload_n 2, 1) := by decide +kernel
theorem dX11_buck_165 : decode cX11_buck 165 = .ok (.iload_n 1, 1) := by decide +kernel
theorem dX11_buck_166 : decode cX11_buck 166 = .ok (.if_icmp .eq 31, 3) := by decide +kernel
theorem dX11_buck_169 : decode cX11_buck 169 = .ok (.aload_n 0, 1) := by decide +kernel
theorem dX11_buck_170 : decode cX11_buck 170 = .ok (.getfield 73, 3) := by decide +kernel
theorem dX11_buck_173 : decode cX11_buck 173 = .ok (.iload_n 2, 1) := by decide +kernel
theorem dX11_buck_174 : decode cX11_buck 174 = .ok (.iconst 1, 1) := by decide +kernel
theorem dX11_buck_175 : decode cX11_buck 175 = .ok (.iadd, 1) := by decide +kernel
theorem dX11_buck_176 : decode cX11_buck 176 = .ok (.baload, 1) := by decide +kernel
theorem dX11_buck_177 : decode cX11_buck 177 = .ok (.ifCond .eq 24, 3) := by decide +kernel
theorem dX11_buck_180 : decode cX11_buck 180 = .ok (.aload_n 0, 1) := by decide +kernel
theorem dX11_buck_181 : decode cX11_buck 181 = .ok (.getfield 70, 3) := by decide +kernel
theorem dX11_buck_184 : decode cX11_buck 184 = .ok (.iload_n 2, 1) := by decide +kernel
theorem dX11_buck_185 : decode cX11_buck 185 = .ok (.iconst 1, 1) := by decide +kernel
theorem dX11_buck_186 : decode cX11_buck 186 = .ok (.iadd, 1) := by decide +kernel
theorem dX11_buck_187 : decode cX11_buck 187 = .ok (.iaload, 1) := by decide +kernel
theorem dX11_buck_188 : decode cX11_buck 188 = .ok (.aload_n 0, 1) := by decide +kernel
theorem dX11_buck_189 : decode cX11_buck 189 = .ok (.getfield 70, 3) := by decide +kernel
theorem dX11_buck_192 : decode cX11_buck 192 = .ok (.iload_n 2, 1) := by decide +kernel
theorem dX11_buck_193 : decode cX11_buck 193 = .ok (.iaload, 1) := by decide +kernel
theorem dX11_buck_194 : decode cX11_buck 194 = .ok (.if_icmp .ne 7, 3) := by decide +kernel
theorem dX11_buck_197 : decode cX11_buck 197 = .ok (.iconst 1, 1) := by decide +kernel
theorem dX11_buck_198 : decode cX11_buck 198 = .ok (.goto 4, 3) := by decide +kernel
theorem dX11_buck_201 : decode cX11_buck 201 = .ok (.iconst 0, 1) := by decide +kernel
theorem dX11_buck_202 : decode cX11_buck 202 = .ok (.bastore, 1) := by decide +kernel
theorem dX11_buck_203 : decode cX11_buck 203 = .ok (.iconst 0, 1) := by decide +kernel
theorem dX11_buck_204 : decode cX11_buck 204 = .ok (.istore_n 3, 1) := by decide +kernel
theorem dX11_buck_205 : decode cX11_buck 205 = .ok (.iload_n 3, 1) := by decide +kernel
theorem dX11_buck_206 : decode cX11_buck 206 = .ok (.bipush 6, 2) := by decide +kernel
theorem dX11_buck_208 : decode cX11_buck 208 = .ok (.if_icmp .ge 30, 3) := by decide +kernel
theorem dX11_buck_211 : decode cX11_buck 211 = .ok (.iload_n 2, 1) := by decide +kernel
theorem dX11_buck_212 : decode cX11_buck 212 = .ok (.iload_n 1, 1) := by decide +kernel
theorem dX11_buck_213 : decode cX11_buck 213 = .ok (.if_icmp .ge 25, 3) := by decide +kernel
theorem dX11_buck_216 : decode cX11_buck 216 = .ok (.aload_n 0, 1) := by decide +kernel
theorem dX11_buck_217 : decode cX11_buck 217 = .ok (.iload_n 3, 1) := by decide +kernel
theorem dX11_buck_218 : decode cX11_buck 218 = .ok (.iload_n 2, 1) := by decide +kernel
theorem dX11_buck_219 : decode cX11_buck 219 = .ok (.invokevirtual 112, 3) := by decide +kernel
theorem dX11_buck_222 : decode cX11_buck 222 = .ok (.ifCond .eq 10, 3) := by decide +kernel
theorem dX11_buck_225 : decode cX11_buck 225 = .ok (.aload_n 0, 1) := by decide +kernel
theorem dX11_buck_226 : decode cX11_buck 226 = .ok (.getfield 73, 3) := by decide +kernel
theorem dX11_buck_229 : decode cX11_buck 229 = .ok (.iload_n 2, 1) := by decide +kernel
theorem dX11_buck_230 : decode cX11_buck 230 = .ok (.iconst 1, 1) := by decide +kernel
theorem dX11_buck_231 : decode cX11_buck 231 = .ok (.bastore, 1) := by decide +kernel
theorem dX11_buck_232 : decode cX11_buck 232 = .ok (.iinc 3 1, 3) := by decide +kernel
theorem dX11_buck_235 : decode cX11_buck 235 = .ok (.goto (-30), 3) := by decide +kernel
theorem dX11_buck_238 : decode cX11_buck 238 = .ok (.iinc 2 (-1), 3) := by decide +kernel
theorem dX11_buck_241 : decode cX11_buck 241 = .ok (.goto (-86), 3) := by decide +kernel
theorem dX11_buck_244 : decode cX11_buck 244 = .ok (.aload_n 0, 1) := by decide +kernel
theorem dX11_buck_245 : decode cX11_buck 245 = .ok (.iconst 0, 1) := by decide +kernel
theorem dX11_buck_246 : decode cX11_buck 246 = .ok (.putfield 102, 3) := by decide +kernel
theorem dX11_buck_249 : decode cX11_buck 249 = .ok (.iconst 0, 1) := by decide +kernel
theorem dX11_buck_250 : decode cX11_buck 250 = .ok (.istore_n 2, 1) := by decide +kernel
theorem dX11_buck_251 : decode cX11_buck 251 = .ok (.iload_n 2, 1) := by decide +kernel
theorem dX11_buck_252 : decode cX11_buck 252 = .ok (.iload_n 1, 1) := by decide +kernel
theorem dX11_buck_253 : decode cX11_buck 253 = .ok (.if_icmp .ge 74, 3) := by decide +kernel
theorem dX11_buck_256 : decode cX11_buck 256 = .ok (.aload_n 0, 1) := by decide +kernel
theorem dX11_buck_257 : decode cX11_buck 257 = .ok (.getfield 73, 3) := by decide +kernel
theorem dX11_buck_260 : decode cX11_buck 260 = .ok (.iload_n 2, 1) := by decide +kernel
theorem dX11_buck_261 : decode cX11_buck 261 = .ok (.iconst 1, 1) := by decide +kernel
theorem dX11_buck_262 : decode cX11_buck 262 = .ok (.iadd, 1) := by decide +kernel
theorem dX11_buck_263 : decode cX11_buck 263 = .ok (.baload, 1) := by decide +kernel
theorem dX11_buck_264 : decode cX11_buck 264 = .ok (.ifCond .eq 26, 3) := by decide +kernel
theorem dX11_buck_267 : decode cX11_buck 267 = .ok (.aload_n 0, 1) := by decide +kernel
theorem dX11_buck_268 : decode cX11_buck 268 = .ok (.getfield 70, 3) := by decide +kernel
theorem dX11_buck_271 : decode cX11_buck 271 = .ok (.iload_n 2, 1) := by decide +kernel
theorem dX11_buck_272 : decode cX11_buck 272 = .ok (.iconst 1, 1) := by decide +kernel
theorem dX11_buck_273 : decode cX11_buck 273 = .ok (.iadd, 1) := by decide +kernel
theorem dX11_buck_274 : decode cX11_buck 274 = .ok (.iaload, 1) := by decide +kernel
theorem dX11_buck_275 : decode cX11_buck 275 = .ok (.aload_n 0, 1) := by decide +kernel
theorem dX11_buck_276 : decode cX11_buck 276 = .ok (.getfield 70, 3) := by decide +kernel
theorem dX11_buck_279 : decode cX11_buck 279 = .ok (.iload_n 2, 1) := by decide +kernel
theorem dX11_buck_280 : decode cX11_buck 280 = .ok (.iaload, 1) := by decide +kernel
theorem dX11_buck_281 : decode cX11_buck 281 = .ok (.if_icmp .ne 9, 3) := by decide +kernel
theorem dX11_buck_284 : decode cX11_buck 284 = .ok (.iinc 2 1, 3) := by decide +kernel
theorem dX11_buck_287 : decode cX11_buck 287 = .ok (.goto (-36), 3) := by decide +kernel
theorem dX11_buck_290 : decode cX11_buck 290 = .ok (.iconst 0, 1) := by decide +kernel
theorem dX11_buck_291 : decode cX11_buck 291 = .ok (.istore_n 3, 1) := by decide +kernel
theorem dX11_buck_292 : decode cX11_buck 292 = .ok (.aload_n 0, 1) := by decide +kernel
theorem dX11_buck_293 : decode cX11_buck 293 = .ok (.iload_n 3, 1) := by decide +kernel
theorem dX11_buck_294 : decode cX11_buck 294 = .ok (.iload_n 2, 1) := by decide +kernel
theorem dX11_buck_295 : decode cX11_buck 295 = .ok (.invokevirtual 112, 3) := by decide +kernel
theorem dX11_buck_298 : decode cX11_buck 298 = .ok (.ifCond .ne 9, 3) := by decide +kernel
theorem dX11_buck_301 : decode cX11_buck 301 = .ok (.iinc 3 1, 3) := by decide +kernel
theorem dX11_buck_304 : decode cX11_buck 304 = .ok (.goto (-12), 3) := by decide +kernel
theorem dX11_buck_307 : decode cX11_buck 307 = .ok (.aload_n 0, 1) := by decide +kernel
theorem dX11_buck_308 : decode cX11_buck 308 = .ok (.iload_n 3, 1) := by decide +kernel
theorem dX11_buck_309 : decode cX11_buck 309 = .ok (.iload_n 2, 1) := by decide +kernel
theorem dX11_buck_310 : decode cX11_buck 310 = .ok (.invokevirtual 115, 3) := by decide +kernel
theorem dX11_buck_313 : decode cX11_buck 313 = .ok (.iload_n 2, 1) := by decide +kernel
theorem dX11_buck_314 : decode cX11_buck 314 = .ok (.aload_n 0, 1) := by decide +kernel
theorem dX11_buck_315 : decode cX11_buck 315 = .ok (.getfield 22, 3) := by decide +kernel
theorem dX11_buck_318 : decode cX11_buck 318 = .ok (.iload_n 3, 1) := by decide +kernel
theorem dX11_buck_319 : decode cX11_buck 319 = .ok (.iaload, 1) := by decide +kernel
theorem dX11_buck_320 : decode cX11_buck 320 = .ok (.iconst 1, 1) := by decide +kernel
theorem dX11_buck_321 : decode cX11_buck 321 = .ok (.iadd, 1) := by decide +kernel
theorem dX11_buck_322 : decode cX11_buck 322 = .ok (.iadd, 1) := by decide +kernel
theorem dX11_buck_323 : decode cX11_buck 323 = .ok (.istore_n 2, 1) := by decide +kernel
theorem dX11_buck_324 : decode cX11_buck 324 = .ok (.goto (-73), 3) := by decide +kernel
theorem dX11_buck_327 : decode cX11_buck 327 = .ok (.aload_n 0, 1) := by decide +kernel
theorem dX11_buck_328 : decode cX11_buck 328 = .ok (.getfield 70, 3) := by decide +kernel
theorem dX11_buck_331 : decode cX11_buck 331 = .ok (.iload_n 1, 1) := by decide +kernel
theorem dX11_buck_332 : decode cX11_buck 332 = .ok (.iaload, 1) := by decide +kernel
theorem dX11_buck_333 : decode cX11_buck 333 = .ok (.ireturn, 1) := by decide +kernel
theorem dX11_steps_0 : decode cX11_steps 0 = .ok (.aload_n 0, 1) := by decide +kernel
theorem dX11_steps_1 : decode cX11_steps 1 = .ok (.iload_n 1, 1) := by decide +kernel
theorem dX11_steps_2 : decode cX11_steps 2 = .ok (.iload_n 2, 1) := by decide +kernel
theorem dX11_steps_3 : decode cX11_steps 3 = .ok (.invokevirtual 108, 3) := by decide +kernel
theorem dX11_steps_6 : decode cX11_steps 6 = .ok (.ifCond .ne 5, 3) := by decide +kernel
theorem dX11_steps_9 : decode cX11_steps 9 = .ok (.iconst 0, 1) := by decide +kernel
theorem dX11_steps_10 : decode cX11_steps 10 = .ok (.ireturn, 1) := by decide +kernel
theorem dX11_steps_11 : decode cX11_steps 11 = .ok (.iload_n 2, 1) := by decide +kernel
theorem dX11_steps_12 : decode cX11_steps 12 = .ok (.aload_n 0, 1) := by decide +kernel
theorem dX11_steps_13 : decode cX11_steps 13 = .ok (.getfield 22, 3) := by decide +kernel
theorem dX11_steps_16 : decode cX11_steps 16 = .ok (.iload_n 1, 1) := by decide +kernel
theorem dX11_steps_17 : decode cX11_steps 17 = .ok (.iaload, 1) := by decide +kernel
theorem dX11_steps_18 : decode cX11_steps 18 = .ok (.iadd, 1) := by decide +kernel
theorem dX11_steps_19 : decode cX11_steps 19 = .ok (.iconst 1, 1) := by decide +kernel
theorem dX11_steps_20 : decode cX11_steps 20 = .ok (.iadd, 1) := by decide +kernel
theorem dX11_steps_21 : decode cX11_steps 21 = .ok (.istore_n 3, 1) := by decide +kernel
theorem dX11_steps_22 : decode cX11_steps 22 = .ok (.aload_n 0, 1) := by decide +kernel
theorem dX11_steps_23 : decode cX11_steps 23 = .ok (.getfield 73, 3) := by decide +kernel
theorem dX11_steps_26 : decode cX11_steps 26 = .ok (.iload_n 3, 1) := by decide +kernel
theorem dX11_steps_27 : decode cX11_steps 27 = .ok (.baload, 1) := by decide +kernel
theorem dX11_steps_28 : decode cX11_steps 28 = .ok (.ifCond .eq 29, 3) := by decide +kernel
theorem dX11_steps_31 : decode cX11_steps 31 = .ok (.aload_n 0, 1) := by decide +kernel
theorem dX11_steps_32 : decode cX11_steps 32 = .ok (.getfield 70, 3) := by decide +kernel
theorem dX11_steps_35 : decode cX11_steps 35 = .ok (.iload_n 3, 1) := by decide +kernel
theorem dX11_steps_36 : decode cX11_steps 36 = .ok (.iaload, 1) := by decide +kernel
theorem dX11_steps_37 : decode cX11_steps 37 = .ok (.aload_n 0, 1) := by decide +kernel
theorem dX11_steps_38 : decode cX11_steps 38 = .ok (.getfield 70, 3) := by decide +kernel
theorem dX11_steps_41 : decode cX11_steps 41 = .ok (.iload_n 2, 1) := by decide +kernel
theorem dX11_steps_42 : decode cX11_steps 42 = .ok (.iaload, 1) := by decide +kernel
theorem dX11_steps_43 : decode cX11_steps 43 = .ok (.aload_n 0, 1) := by decide +kernel
theorem dX11_steps_44 : decode cX11_steps 44 = .ok (.iload_n 1, 1) := by decide +kernel
theorem dX11_steps_45 : decode cX11_steps 45 = .ok (.iload_n 2, 1) := by decide +kernel
theorem dX11_steps_46 : decode cX11_steps 46 = .ok (.invokevirtual 105, 3) := by decide +kernel
theorem dX11_steps_49 : decode cX11_steps 49 = .ok (.iadd, 1) := by decide +kernel
theorem dX11_steps_50 : decode cX11_steps 50 = .ok (.if_icmp .ne 7, 3) := by decide +kernel
theorem dX11_steps_53 : decode cX11_steps 53 = .ok (.iconst 1, 1) := by decide +kernel
theorem dX11_steps_54 : decode cX11_steps 54 = .ok (.goto 4, 3) := by decide +kernel
theorem dX11_steps_57 : decode cX11_steps 57 = .ok (.iconst 0, 1) := by decide +kernel
theorem dX11_steps_58 : decode cX11_steps 58 = .ok (.ireturn, 1) := by decide +kernel
theorem dX11_byHand_0 : decode cX11_byHand 0 = .ok (.aload_n 0, 1) := by decide +kernel
theorem dX11_byHand_1 : decode cX11_byHand 1 = .ok (.iconst 0, 1) := by decide +kernel
theorem dX11_byHand_2 : decode cX11_byHand 2 = .ok (.putfield 84, 3) := by decide +kernel
theorem dX11_byHand_5 : decode cX11_byHand 5 = .ok (.iconst 0, 1) := by decide +kernel
theorem dX11_byHand_6 : decode cX11_byHand 6 = .ok (.istore_n 3, 1) := by decide +kernel
theorem dX11_byHand_7 : decode cX11_byHand 7 = .ok (.iconst 0, 1) := by decide +kernel
theorem dX11_byHand_8 : decode cX11_byHand 8 = .ok (.istore 4, 2) := by decide +kernel
theorem dX11_byHand_10 : decode cX11_byHand 10 = .ok (.iload 4, 2) := by decide +kernel
theorem dX11_byHand_12 : decode cX11_byHand 12 = .ok (.iconst 2, 1) := by decide +kernel
theorem dX11_byHand_13 : decode cX11_byHand 13 = .ok (.if_icmp .ge 136, 3) := by decide +kernel
theorem dX11_byHand_16 : decode cX11_byHand 16 = .ok (.iload 4, 2) := by decide +kernel
theorem dX11_byHand_18 : decode cX11_byHand 18 = .ok (.iconst 1, 1) := by decide +kernel
theorem dX11_byHand_19 : decode cX11_byHand 19 = .ok (.if_icmp .ne 8, 3) := by decide +kernel
theorem dX11_byHand_22 : decode cX11_byHand 22 = .ok (.aload_n 0, 1) := by decide +kernel
theorem dX11_byHand_23 : decode cX11_byHand 23 = .ok (.iconst 0, 1) := by decide +kernel
theorem dX11_byHand_24 : decode cX11_byHand 24 = .ok (.putfield 102, 3) := by decide +kernel
theorem dX11_byHand_27 : decode cX11_byHand 27 = .ok (.iconst 0, 1) := by decide +kernel
theorem dX11_byHand_28 : decode cX11_byHand 28 = .ok (.istore 5, 2) := by decide +kernel
theorem dX11_byHand_30 : decode cX11_byHand 30 = .ok (.iconst 0, 1) := by decide +kernel
theorem dX11_byHand_31 : decode cX11_byHand 31 = .ok (.istore_n 3, 1) := by decide +kernel
theorem dX11_byHand_32 : decode cX11_byHand 32 = .ok (.iconst 0, 1) := by decide +kernel
theorem dX11_byHand_33 : decode cX11_byHand 33 = .ok (.istore 6, 2) := by decide +kernel
theorem dX11_byHand_35 : decode cX11_byHand 35 = .ok (.iload 6, 2) := by decide +kernel
theorem dX11_byHand_37 : decode cX11_byHand 37 = .ok (.bipush 8, 2) := by decide +kernel
theorem dX11_byHand_39 : decode cX11_byHand 39 = .ok (.if_icmp .ge 104, 3) := by decide +kernel
theorem dX11_byHand_42 : decode cX11_byHand 42 = .ok (.lload_n 1, 1) := by decide +kernel
theorem dX11_byHand_43 : decode cX11_byHand 43 = .ok (.bipush 8, 2) := by decide +kernel
theorem dX11_byHand_45 : decode cX11_byHand 45 = .ok (.iload 6, 2) := by decide +kernel
theorem dX11_byHand_47 : decode cX11_byHand 47 = .ok (.imul, 1) := by decide +kernel
theorem dX11_byHand_48 : decode cX11_byHand 48 = .ok (.lushr, 1) := by decide +kernel
theorem dX11_byHand_49 : decode cX11_byHand 49 = .ok (.ldc2_w 119, 3) := by decide +kernel
theorem dX11_byHand_52 : decode cX11_byHand 52 = .ok (.land, 1) := by decide +kernel
theorem dX11_byHand_53 : decode cX11_byHand 53 = .ok (.l2i, 1) := by decide +kernel
theorem dX11_byHand_54 : decode cX11_byHand 54 = .ok (.istore 7, 2) := by decide +kernel
theorem dX11_byHand_56 : decode cX11_byHand 56 = .ok (.iload 7, 2) := by decide +kernel
theorem dX11_byHand_58 : decode cX11_byHand 58 = .ok (.ifCond .ne 6, 3) := by decide +kernel
theorem dX11_byHand_61 : decode cX11_byHand 61 = .ok (.goto 76, 3) := by decide +kernel
theorem dX11_byHand_64 : decode cX11_byHand 64 = .ok (.iload 7, 2) := by decide +kernel
theorem dX11_byHand_66 : decode cX11_byHand 66 = .ok (.iconst 1, 1) := by decide +kernel
theorem dX11_byHand_67 : decode cX11_byHand 67 = .ok (.isub, 1) := by decide +kernel
theorem dX11_byHand_68 : decode cX11_byHand 68 = .ok (.bipush 6, 2) := by decide +kernel
theorem dX11_byHand_70 : decode cX11_byHand 70 = .ok (.irem, 1) := by decide +kernel
theorem dX11_byHand_71 : decode cX11_byHand 71 = .ok (.istore 8, 2) := by decide +kernel
theorem dX11_byHand_73 : decode cX11_byHand 73 = .ok (.iload 5, 2) := by decide +kernel
theorem dX11_byHand_75 : decode cX11_byHand 75 = .ok (.iload 7, 2) := by decide +kernel
theorem dX11_byHand_77 : decode cX11_byHand 77 = .ok (.iconst 1, 1) := by decide +kernel
theorem dX11_byHand_78 : decode cX11_byHand 78 = .ok (.isub, 1) := by decide +kernel
theorem dX11_byHand_79 : decode cX11_byHand 79 = .ok (.bipush 6, 2) := by decide +kernel
theorem dX11_byHand_81 : decode cX11_byHand 81 = .ok (.idiv, 1) := by decide +kernel
theorem dX11_byHand_82 : decode cX11_byHand 82 = .ok (.iadd, 1) := by decide +kernel
theorem dX11_byHand_83 : decode cX11_byHand 83 = .ok (.istore 9, 2) := by decide +kernel
theorem dX11_byHand_85 : decode cX11_byHand 85 = .ok (.aload_n 0, 1) := by decide +kernel
theorem dX11_byHand_86 : decode cX11_byHand 86 = .ok (.iload 8, 2) := by decide +kernel
theorem dX11_byHand_88 : decode cX11_byHand 88 = .ok (.iload 9, 2) := by decide +kernel
theorem dX11_byHand_90 : decode cX11_byHand 90 = .ok (.invokevirtual 108, 3) := by decide +kernel
theorem dX11_byHand_93 : decode cX11_byHand 93 = .ok (.ifCond .ne 5, 3) := by decide +kernel
theorem dX11_byHand_96 : decode cX11_byHand 96 = .ok (.iconst (-1), 1) := by decide +kernel
theorem dX11_byHand_97 : decode cX11_byHand 97 = .ok (.ireturn, 1) := by decide +kernel
theorem dX11_byHand_98 : decode cX11_byHand 98 = .ok (.iload_n 3, 1) := by decide +kernel
theorem dX11_byHand_99 : decode cX11_byHand 99 = .ok (.aload_n 0, 1) := by decide +kernel
theorem dX11_byHand_100 : decode cX11_byHand 100 = .ok (.iload 8, 2) := by decide +kernel
theorem dX11_byHand_102 : decode cX11_byHand 102 = .ok (.iload 9, 2) := by decide +kernel
theorem dX11_byHand_104 : decode cX11_byHand 104 = .ok (.invokevirtual 105, 3) := by decide +kernel
theorem dX11_byHand_107 : decode cX11_byHand 107 = .ok (.iadd, 1) := by decide +kernel
theorem dX11_byHand_108 : decode cX11_byHand 108 = .ok (.istore_n 3, 1) := by decide +kernel
theorem dX11_byHand_109 : decode cX11_byHand 109 = .ok (.iload 4, 2) := by decide +kernel
theorem dX11_byHand_111 : decode cX11_byHand 111 = .ok (.iconst 1, 1) := by decide +kernel
theorem dX11_byHand_112 : decode cX11_byHand 112 = .ok (.if_icmp .ne 11, 3) := by decide +kernel
theorem dX11_byHand_115 : decode cX11_byHand 115 = .ok (.aload_n 0, 1) := by decide +kernel
theorem dX11_byHand_116 : decode cX11_byHand 116 = .ok (.iload 8, 2) := by decide +kernel
theorem dX11_byHand_118 : decode cX11_byHand 118 = .ok (.iload 9, 2) := by decide +kernel
theorem dX11_byHand_120 : decode cX11_byHand 120 = .ok (.invokevirtual 115, 3) := by decide +kernel
theorem dX11_byHand_123 : decode cX11_byHand 123 = .ok (.iload 9, 2) := by decide +kernel
theorem dX11_byHand_125 : decode cX11_byHand 125 = .ok (.aload_n 0, 1) := by decide +kernel
theorem dX11_byHand_126 : decode cX11_byHand 126 = .ok (.getfield 22, 3) := by decide +kernel
theorem dX11_byHand_129 : decode cX11_byHand 129 = .ok (.iload 8, 2) := by decide +kernel
theorem dX11_byHand_131 : decode cX11_byHand 131 = .ok (.iaload, 1) := by decide +kernel
theorem dX11_byHand_132 : decode cX11_byHand 132 = .ok (.iadd, 1) := by decide +kernel
theorem dX11_byHand_133 : decode cX11_byHand 133 = .ok (.iconst 1, 1) := by decide +kernel
theorem dX11_byHand_134 : decode cX11_byHand 134 = .ok (.iadd, 1) := by decide +kernel
theorem dX11_byHand_135 : decode cX11_byHand 135 = .ok (.istore 5, 2) := by decide +kernel
theorem dX11_byHand_137 : decode cX11_byHand 137 = .ok (.iinc 6 1, 3) := by decide +kernel
theorem dX11_byHand_140 : decode cX11_byHand 140 = .ok (.goto (-105), 3) := by decide +kernel
theorem dX11_byHand_143 : decode cX11_byHand 143 = .ok (.iinc 4 1, 3) := by decide +kernel
theorem dX11_byHand_146 : decode cX11_byHand 146 = .ok (.goto (-136), 3) := by decide +kernel
theorem dX11_byHand_149 : decode cX11_byHand 149 = .ok (.iload_n 3, 1) := by decide +kernel
theorem dX11_byHand_150 : decode cX11_byHand 150 = .ok (.ireturn, 1) := by decide +kernel
theorem dX11_logs_0 : decode cX11_logs 0 = .ok (.aload_n 0, 1) := by decide +kernel
theorem dX11_logs_1 : decode cX11_logs 1 = .ok (.iconst 0, 1) := by decide +kernel
theorem dX11_logs_2 : decode cX11_logs 2 = .ok (.putfield 84, 3) := by decide +kernel
theorem dX11_logs_5 : decode cX11_logs 5 = .ok (.aload_n 0, 1) := by decide +kernel
theorem dX11_logs_6 : decode cX11_logs 6 = .ok (.getfield 102, 3) := by decide +kernel
theorem dX11_logs_9 : decode cX11_logs 9 = .ok (.ireturn, 1) := by decide +kernel
theorem dX11_log_0 : decode cX11_log 0 = .ok (.aload_n 0, 1) := by decide +kernel
theorem dX11_log_1 : decode cX11_log 1 = .ok (.iload_n 1, 1) := by decide +kernel
theorem dX11_log_2 : decode cX11_log 2 = .ok (.iconst 0, 1) := by decide +kernel
theorem dX11_log_3 : decode cX11_log 3 = .ok (.aload_n 0, 1) := by decide +kernel
theorem dX11_log_4 : decode cX11_log 4 = .ok (.getfield 102, 3) := by decide +kernel
theorem dX11_log_7 : decode cX11_log 7 = .ok (.iconst 1, 1) := by decide +kernel
theorem dX11_log_8 : decode cX11_log 8 = .ok (.isub, 1) := by decide +kernel
theorem dX11_log_9 : decode cX11_log 9 = .ok (.invokestatic 87, 3) := by decide +kernel
theorem dX11_log_12 : decode cX11_log 12 = .ok (.ifCond .eq 16, 3) := by decide +kernel
theorem dX11_log_15 : decode cX11_log 15 = .ok (.iload_n 2, 1) := by decide +kernel
theorem dX11_log_16 : decode cX11_log 16 = .ok (.iconst 0, 1) := by decide +kernel
theorem dX11_log_17 : decode cX11_log 17 = .ok (.iconst 5, 1) := by decide +kernel
theorem dX11_log_18 : decode cX11_log 18 = .ok (.invokestatic 87, 3) := by decide +kernel
theorem dX11_log_21 : decode cX11_log 21 = .ok (.ifCond .eq 7, 3) := by decide +kernel
theorem dX11_log_24 : decode cX11_log 24 = .ok (.iconst 0, 1) := by decide +kernel
theorem dX11_log_25 : decode cX11_log 25 = .ok (.goto 4, 3) := by decide +kernel
theorem dX11_log_28 : decode cX11_log 28 = .ok (.iconst 1, 1) := by decide +kernel
theorem dX11_log_29 : decode cX11_log 29 = .ok (.putfield 84, 3) := by decide +kernel
theorem dX11_log_32 : decode cX11_log 32 = .ok (.aload_n 0, 1) := by decide +kernel
theorem dX11_log_33 : decode cX11_log 33 = .ok (.getfield 84, 3) := by decide +kernel
theorem dX11_log_36 : decode cX11_log 36 = .ok (.iconst 1, 1) := by decide +kernel
theorem dX11_log_37 : decode cX11_log 37 = .ok (.if_icmp .ne 7, 3) := by decide +kernel
theorem dX11_log_40 : decode cX11_log 40 = .ok (.iconst 0, 1) := by decide +kernel
theorem dX11_log_41 : decode cX11_log 41 = .ok (.goto 14, 3) := by decide +kernel
theorem dX11_log_44 : decode cX11_log 44 = .ok (.aload_n 0, 1) := by decide +kernel
theorem dX11_log_45 : decode cX11_log 45 = .ok (.getfield 31, 3) := by decide +kernel
theorem dX11_log_48 : decode cX11_log 48 = .ok (.bipush 6, 2) := by decide +kernel
theorem dX11_log_50 : decode cX11_log 50 = .ok (.iload_n 1, 1) := by decide +kernel
theorem dX11_log_51 : decode cX11_log 51 = .ok (.imul, 1) := by decide +kernel
theorem dX11_log_52 : decode cX11_log 52 = .ok (.iload_n 2, 1) := by decide +kernel
theorem dX11_log_53 : decode cX11_log 53 = .ok (.iadd, 1) := by decide +kernel
theorem dX11_log_54 : decode cX11_log 54 = .ok (.iaload, 1) := by decide +kernel
theorem dX11_log_55 : decode cX11_log 55 = .ok (.ireturn, 1) := by decide +kernel
theorem dX11_size_0 : decode cX11_size 0 = .ok (.aload_n 0, 1) := by decide +kernel
theorem dX11_size_1 : decode cX11_size 1 = .ok (.iconst 0, 1) := by decide +kernel
theorem dX11_size_2 : decode cX11_size 2 = .ok (.putfield 84, 3) := by decide +kernel
theorem dX11_size_5 : decode cX11_size 5 = .ok (.iload_n 1, 1) := by decide +kernel
theorem dX11_size_6 : decode cX11_size 6 = .ok (.iconst 0, 1) := by decide +kernel
theorem dX11_size_7 : decode cX11_size 7 = .ok (.iconst 5, 1) := by decide +kernel
theorem dX11_size_8 : decode cX11_size 8 = .ok (.invokestatic 87, 3) := by decide +kernel
theorem dX11_size_11 : decode cX11_size 11 = .ok (.ifCond .eq 27, 3) := by decide +kernel
theorem dX11_size_14 : decode cX11_size 14 = .ok (.iload_n 2, 1) := by decide +kernel
theorem dX11_size_15 : decode cX11_size 15 = .ok (.bipush 50, 2) := by decide +kernel
theorem dX11_size_17 : decode cX11_size 17 = .ok (.sipush 4000, 3) := by decide +kernel
theorem dX11_size_20 : decode cX11_size 20 = .ok (.invokestatic 87, 3) := by decide +kernel
theorem dX11_size_23 : decode cX11_size 23 = .ok (.ifCond .eq 15, 3) := by decide +kernel
theorem dX11_size_26 : decode cX11_size 26 = .ok (.iload_n 3, 1) := by decide +kernel
theorem dX11_size_27 : decode cX11_size 27 = .ok (.bipush 50, 2) := by decide +kernel
theorem dX11_size_29 : decode cX11_size 29 = .ok (.sipush 4000, 3) := by decide +kernel
theorem dX11_size_32 : decode cX11_size 32 = .ok (.invokestatic 87, 3) := by decide +kernel
theorem dX11_size_35 : decode cX11_size 35 = .ok (.ifCond .ne 5, 3) := by decide +kernel
theorem dX11_size_38 : decode cX11_size 38 = .ok (.iconst 0, 1) := by decide +kernel
theorem dX11_size_39 : decode cX11_size 39 = .ok (.ireturn, 1) := by decide +kernel
theorem dX11_size_40 : decode cX11_size 40 = .ok (.aload_n 0, 1) := by decide +kernel
theorem dX11_size_41 : decode cX11_size 41 = .ok (.getfield 34, 3) := by decide +kernel
theorem dX11_size_44 : decode cX11_size 44 = .ok (.iload_n 1, 1) := by decide +kernel
theorem dX11_size_45 : decode cX11_size 45 = .ok (.iload_n 2, 1) := by decide +kernel
theorem dX11_size_46 : decode cX11_size 46 = .ok (.iastore, 1) := by decide +kernel
theorem dX11_size_47 : decode cX11_size 47 = .ok (.aload_n 0, 1) := by decide +kernel
theorem dX11_size_48 : decode cX11_size 48 = .ok (.getfield 37, 3) := by decide +kernel
theorem dX11_size_51 : decode cX11_size 51 = .ok (.iload_n 1, 1) := by decide +kernel
theorem dX11_size_52 : decode cX11_size 52 = .ok (.iload_n 3, 1) := by decide +kernel
theorem dX11_size_53 : decode cX11_size 53 = .ok (.iastore, 1) := by decide +kernel
theorem dX11_size_54 : decode cX11_size 54 = .ok (.iconst 0, 1) := by decide +kernel
theorem dX11_size_55 : decode cX11_size 55 = .ok (.istore 4, 2) := by decide +kernel
theorem dX11_size_57 : decode cX11_size 57 = .ok (.iload 4, 2) := by decide +kernel
theorem dX11_size_59 : decode cX11_size 59 = .ok (.iconst 4, 1) := by decide +kernel
theorem dX11_size_60 : decode cX11_size 60 = .ok (.if_icmp .ge 21, 3) := by decide +kernel
theorem dX11_size_63 : decode cX11_size 63 = .ok (.aload_n 0, 1) := by decide +kernel
theorem dX11_size_64 : decode cX11_size 64 = .ok (.getfield 40, 3) := by decide +kernel
theorem dX11_size_67 : decode cX11_size 67 = .ok (.iconst 4, 1) := by decide +kernel
theorem dX11_size_68 : decode cX11_size 68 = .ok (.iload_n 1, 1) := by decide +kernel
theorem dX11_size_69 : decode cX11_size 69 = .ok (.imul, 1) := by decide +kernel
theorem dX11_size_70 : decode cX11_size 70 = .ok (.iload 4, 2) := by decide +kernel
theorem dX11_size_72 : decode cX11_size 72 = .ok (.iadd, 1) := by decide +kernel
theorem dX11_size_73 : decode cX11_size 73 = .ok (.iconst 0, 1) := by decide +kernel
theorem dX11_size_74 : decode cX11_size 74 = .ok (.iastore, 1) := by decide +kernel
theorem dX11_size_75 : decode cX11_size 75 = .ok (.iinc 4 1, 3) := by decide +kernel
theorem dX11_size_78 : decode cX11_size 78 = .ok (.goto (-21), 3) := by decide +kernel
theorem dX11_size_81 : decode cX11_size 81 = .ok (.iconst 1, 1) := by decide +kernel
theorem dX11_size_82 : decode cX11_size 82 = .ok (.ireturn, 1) := by decide +kernel
theorem dX11_boardPrice_0 : decode cX11_boardPrice 0 = .ok (.aload_n 0, 1) := by decide +kernel
theorem dX11_boardPrice_1 : decode cX11_boardPrice 1 = .ok (.iconst 0, 1) := by decide +kernel
theorem dX11_boardPrice_2 : decode cX11_boardPrice 2 = .ok (.putfield 84, 3) := by decide +kernel
theorem dX11_boardPrice_5 : decode cX11_boardPrice 5 = .ok (.iload_n 1, 1) := by decide +kernel
theorem dX11_boardPrice_6 : decode cX11_boardPrice 6 = .ok (.iconst 0, 1) := by decide +kernel
theorem dX11_boardPrice_7 : decode cX11_boardPrice 7 = .ok (.iconst 5, 1) := by decide +kernel
theorem dX11_boardPrice_8 : decode cX11_boardPrice 8 = .ok (.invokestatic 87, 3) := by decide +kernel
theorem dX11_boardPrice_11 : decode cX11_boardPrice 11 = .ok (.ifCond .eq 31, 3) := by decide +kernel
theorem dX11_boardPrice_14 : decode cX11_boardPrice 14 = .ok (.aload_n 0, 1) := by decide +kernel
theorem dX11_boardPrice_15 : decode cX11_boardPrice 15 = .ok (.getfield 34, 3) := by decide +kernel
theorem dX11_boardPrice_18 : decode cX11_boardPrice 18 = .ok (.iload_n 1, 1) := by decide +kernel
theorem dX11_boardPrice_19 : decode cX11_boardPrice 19 = .ok (.iaload, 1) := by decide +kernel
theorem dX11_boardPrice_20 : decode cX11_boardPrice 20 = .ok (.ifCond .eq 22, 3) := by decide +kernel
theorem dX11_boardPrice_23 : decode cX11_boardPrice 23 = .ok (.iload_n 2, 1) := by decide +kernel
theorem dX11_boardPrice_24 : decode cX11_boardPrice 24 = .ok (.iconst 1, 1) := by decide +kernel
theorem dX11_boardPrice_25 : decode cX11_boardPrice 25 = .ok (.iconst 3, 1) := by decide +kernel
theorem dX11_boardPrice_26 : decode cX11_boardPrice 26 = .ok (.invokestatic 87, 3) := by decide +kernel
theorem dX11_boardPrice_29 : decode cX11_boardPrice 29 = .ok (.ifCond .eq 13, 3) := by decide +kernel
theorem dX11_boardPrice_32 : decode cX11_boardPrice 32 = .ok (.iload_n 3, 1) := by decide +kernel
theorem dX11_boardPrice_33 : decode cX11_boardPrice 33 = .ok (.iconst 0, 1) := by decide +kernel
theorem dX11_boardPrice_34 : decode cX11_boardPrice 34 = .ok (.ldc 94, 2) := by decide +kernel
theorem dX11_boardPrice_36 : decode cX11_boardPrice 36 = .ok (.invokestatic 87, 3) := by decide +kernel
theorem dX11_boardPrice_39 : decode cX11_boardPrice 39 = .ok (.ifCond .ne 5, 3) := by decide +kernel
theorem dX11_boardPrice_42 : decode cX11_boardPrice 42 = .ok (.iconst 0, 1) := by decide +kernel
theorem dX11_boardPrice_43 : decode cX11_boardPrice 43 = .ok (.ireturn, 1) := by decide +kernel
theorem dX11_boardPrice_44 : decode cX11_boardPrice 44 = .ok (.aload_n 0, 1) := by decide +kernel
theorem dX11_boardPrice_45 : decode cX11_boardPrice 45 = .ok (.getfield 40, 3) := by decide +kernel
theorem dX11_boardPrice_48 : decode cX11_boardPrice 48 = .ok (.iconst 4, 1) := by decide +kernel
theorem dX11_boardPrice_49 : decode cX11_boardPrice 49 = .ok (.iload_n 1, 1) := by decide +kernel
theorem dX11_boardPrice_50 : decode cX11_boardPrice 50 = .ok (.imul, 1) := by decide +kernel
theorem dX11_boardPrice_51 : decode cX11_boardPrice 51 = .ok (.iload_n 2, 1) := by decide +kernel
theorem dX11_boardPrice_52 : decode cX11_boardPrice 52 = .ok (.iadd, 1) := by decide +kernel
theorem dX11_boardPrice_53 : decode cX11_boardPrice 53 = .ok (.iload_n 3, 1) := by decide +kernel
theorem dX11_boardPrice_54 : decode cX11_boardPrice 54 = .ok (.iastore, 1) := by decide +kernel
theorem dX11_boardPrice_55 : decode cX11_boardPrice 55 = .ok (.iconst 1, 1) := by decide +kernel
theorem dX11_boardPrice_56 : decode cX11_boardPrice 56 = .ok (.ireturn, 1) := by decide +kernel
theorem dX11_height_0 : decode cX11_height 0 = .ok (.aload_n 0, 1) := by decide +kernel
theorem dX11_height_1 : decode cX11_height 1 = .ok (.iconst 0, 1) := by decide +kernel
theorem dX11_height_2 : decode cX11_height 2 = .ok (.putfield 84, 3) := by decide +kernel
theorem dX11_height_5 : decode cX11_height 5 = .ok (.iload_n 1, 1) := by decide +kernel
theorem dX11_height_6 : decode cX11_height 6 = .ok (.iconst 0, 1) := by decide +kernel
theorem dX11_height_7 : decode cX11_height 7 = .ok (.iconst 3, 1) := by decide +kernel
theorem dX11_height_8 : decode cX11_height 8 = .ok (.invokestatic 87, 3) := by decide +kernel
theorem dX11_height_11 : decode cX11_height 11 = .ok (.ifCond .eq 16, 3) := by decide +kernel
theorem dX11_height_14 : decode cX11_height 14 = .ok (.iload_n 2, 1) := by decide +kernel
theorem dX11_height_15 : decode cX11_height 15 = .ok (.sipush 300, 3) := by decide +kernel
theorem dX11_height_18 : decode cX11_height 18 = .ok (.sipush 5000, 3) := by decide +kernel
theorem dX11_height_21 : decode cX11_height 21 = .ok (.invokestatic 87, 3) := by decide +kernel
theorem dX11_height_24 : decode cX11_height 24 = .ok (.ifCond .ne 5, 3) := by decide +kernel
theorem dX11_height_27 : decode cX11_height 27 = .ok (.iconst 0, 1) := by decide +kernel
theorem dX11_height_28 : decode cX11_height 28 = .ok (.ireturn, 1) := by decide +kernel
theorem dX11_height_29 : decode cX11_height 29 = .ok (.aload_n 0, 1) := by decide +kernel
theorem dX11_height_30 : decode cX11_height 30 = .ok (.getfield 46, 3) := by decide +kernel
theorem dX11_height_33 : decode cX11_height 33 = .ok (.iload_n 1, 1) := by decide +kernel
theorem dX11_height_34 : decode cX11_height 34 = .ok (.iload_n 2, 1) := by decide +kernel
theorem dX11_height_35 : decode cX11_height 35 = .ok (.iastore, 1) := by decide +kernel
theorem dX11_height_36 : decode cX11_height 36 = .ok (.iconst 1, 1) := by decide +kernel
theorem dX11_height_37 : decode cX11_height 37 = .ok (.ireturn, 1) := by decide +kernel
theorem dX11_kerf_0 : decode cX11_kerf 0 = .ok (.aload_n 0, 1) := by decide +kernel
theorem dX11_kerf_1 : decode cX11_kerf 1 = .ok (.iconst 0, 1) := by decide +kernel
theorem dX11_kerf_2 : decode cX11_kerf 2 = .ok (.putfield 84, 3) := by decide +kernel
theorem dX11_kerf_5 : decode cX11_kerf 5 = .ok (.iload_n 1, 1) := by decide +kernel
theorem dX11_kerf_6 : decode cX11_kerf 6 = .ok (.iconst 0, 1) := by decide +kernel
theorem dX11_kerf_7 : decode cX11_kerf 7 = .ok (.bipush 100, 2) := by decide +kernel
theorem dX11_kerf_9 : decode cX11_kerf 9 = .ok (.invokestatic 87, 3) := by decide +kernel
theorem dX11_kerf_12 : decode cX11_kerf 12 = .ok (.ifCond .ne 5, 3) := by decide +kernel
theorem dX11_kerf_15 : decode cX11_kerf 15 = .ok (.iconst 0, 1) := by decide +kernel
theorem dX11_kerf_16 : decode cX11_kerf 16 = .ok (.ireturn, 1) := by decide +kernel
theorem dX11_kerf_17 : decode cX11_kerf 17 = .ok (.aload_n 0, 1) := by decide +kernel
theorem dX11_kerf_18 : decode cX11_kerf 18 = .ok (.iload_n 1, 1) := by decide +kernel
theorem dX11_kerf_19 : decode cX11_kerf 19 = .ok (.putfield 121, 3) := by decide +kernel
theorem dX11_kerf_22 : decode cX11_kerf 22 = .ok (.iconst 1, 1) := by decide +kernel
theorem dX11_kerf_23 : decode cX11_kerf 23 = .ok (.ireturn, 1) := by decide +kernel
theorem dX11_need_0 : decode cX11_need 0 = .ok (.aload_n 0, 1) := by decide +kernel
theorem dX11_need_1 : decode cX11_need 1 = .ok (.iconst 0, 1) := by decide +kernel
theorem dX11_need_2 : decode cX11_need 2 = .ok (.putfield 84, 3) := by decide +kernel
theorem dX11_need_5 : decode cX11_need 5 = .ok (.iload_n 1, 1) := by decide +kernel
theorem dX11_need_6 : decode cX11_need 6 = .ok (.iconst 0, 1) := by decide +kernel
theorem dX11_need_7 : decode cX11_need 7 = .ok (.iconst 5, 1) := by decide +kernel
theorem dX11_need_8 : decode cX11_need 8 = .ok (.invokestatic 87, 3) := by decide +kernel
theorem dX11_need_11 : decode cX11_need 11 = .ok (.ifCond .eq 14, 3) := by decide +kernel
theorem dX11_need_14 : decode cX11_need 14 = .ok (.iload_n 2, 1) := by decide +kernel
theorem dX11_need_15 : decode cX11_need 15 = .ok (.iconst 0, 1) := by decide +kernel
theorem dX11_need_16 : decode cX11_need 16 = .ok (.sipush 1000, 3) := by decide +kernel
theorem dX11_need_19 : decode cX11_need 19 = .ok (.invokestatic 87, 3) := by decide +kernel
theorem dX11_need_22 : decode cX11_need 22 = .ok (.ifCond .ne 5, 3) := by decide +kernel
theorem dX11_need_25 : decode cX11_need 25 = .ok (.iconst 0, 1) := by decide +kernel
theorem dX11_need_26 : decode cX11_need 26 = .ok (.ireturn, 1) := by decide +kernel
theorem dX11_need_27 : decode cX11_need 27 = .ok (.aload_n 0, 1) := by decide +kernel
theorem dX11_need_28 : decode cX11_need 28 = .ok (.getfield 43, 3) := by decide +kernel
theorem dX11_need_31 : decode cX11_need 31 = .ok (.iload_n 1, 1) := by decide +kernel
theorem dX11_need_32 : decode cX11_need 32 = .ok (.iload_n 2, 1) := by decide +kernel
theorem dX11_need_33 : decode cX11_need 33 = .ok (.iastore, 1) := by decide +kernel
theorem dX11_need_34 : decode cX11_need 34 = .ok (.iconst 1, 1) := by decide +kernel
theorem dX11_need_35 : decode cX11_need 35 = .ok (.ireturn, 1) := by decide +kernel
theorem dX11_ladder_0 : decode cX11_ladder 0 = .ok (.aload_n 0, 1) := by decide +kernel
theorem dX11_ladder_1 : decode cX11_ladder 1 = .ok (.iconst 0, 1) := by decide +kernel
theorem dX11_ladder_2 : decode cX11_ladder 2 = .ok (.putfield 84, 3) := by decide +kernel
theorem dX11_ladder_5 : decode cX11_ladder 5 = .ok (.iload_n 1, 1) := by decide +kernel
theorem dX11_ladder_6 : decode cX11_ladder 6 = .ok (.iconst 0, 1) := by decide +kernel
theorem dX11_ladder_7 : decode cX11_ladder 7 = .ok (.iconst 3, 1) := by decide +kernel
theorem dX11_ladder_8 : decode cX11_ladder 8 = .ok (.invokestatic 87, 3) := by decide +kernel
theorem dX11_ladder_11 : decode cX11_ladder 11 = .ok (.ifCond .eq 23, 3) := by decide +kernel
theorem dX11_ladder_14 : decode cX11_ladder 14 = .ok (.iload_n 2, 1) := by decide +kernel
theorem dX11_ladder_15 : decode cX11_ladder 15 = .ok (.iconst 0, 1) := by decide +kernel
theorem dX11_ladder_16 : decode cX11_ladder 16 = .ok (.ldc 124, 2) := by decide +kernel
theorem dX11_ladder_18 : decode cX11_ladder 18 = .ok (.invokestatic 87, 3) := by decide +kernel
theorem dX11_ladder_21 : decode cX11_ladder 21 = .ok (.ifCond .eq 13, 3) := by decide +kernel
theorem dX11_ladder_24 : decode cX11_ladder 24 = .ok (.iload_n 3, 1) := by decide +kernel
theorem dX11_ladder_25 : decode cX11_ladder 25 = .ok (.iconst 0, 1) := by decide +kernel
theorem dX11_ladder_26 : decode cX11_ladder 26 = .ok (.ldc 124, 2) := by decide +kernel
theorem dX11_ladder_28 : decode cX11_ladder 28 = .ok (.invokestatic 87, 3) := by decide +kernel
theorem dX11_ladder_31 : decode cX11_ladder 31 = .ok (.ifCond .ne 5, 3) := by decide +kernel
theorem dX11_ladder_34 : decode cX11_ladder 34 = .ok (.iconst 0, 1) := by decide +kernel
theorem dX11_ladder_35 : decode cX11_ladder 35 = .ok (.ireturn, 1) := by decide +kernel
theorem dX11_ladder_36 : decode cX11_ladder 36 = .ok (.aload_n 0, 1) := by decide +kernel
theorem dX11_ladder_37 : decode cX11_ladder 37 = .ok (.getfield 49, 3) := by decide +kernel
theorem dX11_ladder_40 : decode cX11_ladder 40 = .ok (.iload_n 1, 1) := by decide +kernel
theorem dX11_ladder_41 : decode cX11_ladder 41 = .ok (.iload_n 2, 1) := by decide +kernel
theorem dX11_ladder_42 : decode cX11_ladder 42 = .ok (.iastore, 1) := by decide +kernel
theorem dX11_ladder_43 : decode cX11_ladder 43 = .ok (.aload_n 0, 1) := by decide +kernel
theorem dX11_ladder_44 : decode cX11_ladder 44 = .ok (.getfield 52, 3) := by decide +kernel
theorem dX11_ladder_47 : decode cX11_ladder 47 = .ok (.iload_n 1, 1) := by decide +kernel
theorem dX11_ladder_48 : decode cX11_ladder 48 = .ok (.iload_n 3, 1) := by decide +kernel
theorem dX11_ladder_49 : decode cX11_ladder 49 = .ok (.iastore, 1) := by decide +kernel
theorem dX11_ladder_50 : decode cX11_ladder 50 = .ok (.iconst 1, 1) := by decide +kernel
theorem dX11_ladder_51 : decode cX11_ladder 51 = .ok (.ireturn, 1) := by decide +kernel
theorem dX11_needNow_0 : decode cX11_needNow 0 = .ok (.aload_n 0, 1) := by decide +kernel
theorem dX11_needNow_1 : decode cX11_needNow 1 = .ok (.iconst 0, 1) := by decide +kernel
theorem dX11_needNow_2 : decode cX11_needNow 2 = .ok (.putfield 84, 3) := by decide +kernel
theorem dX11_needNow_5 : decode cX11_needNow 5 = .ok (.iload_n 1, 1) := by decide +kernel
theorem dX11_needNow_6 : decode cX11_needNow 6 = .ok (.iconst 0, 1) := by decide +kernel
theorem dX11_needNow_7 : decode cX11_needNow 7 = .ok (.iconst 5, 1) := by decide +kernel
theorem dX11_needNow_8 : decode cX11_needNow 8 = .ok (.invokestatic 87, 3) := by decide +kernel
theorem dX11_needNow_11 : decode cX11_needNow 11 = .ok (.ifCond .eq 12, 3) := by decide +kernel
theorem dX11_needNow_14 : decode cX11_needNow 14 = .ok (.aload_n 0, 1) := by decide +kernel
theorem dX11_needNow_15 : decode cX11_needNow 15 = .ok (.getfield 43, 3) := by decide +kernel
theorem dX11_needNow_18 : decode cX11_needNow 18 = .ok (.iload_n 1, 1) := by decide +kernel
theorem dX11_needNow_19 : decode cX11_needNow 19 = .ok (.iaload, 1) := by decide +kernel
theorem dX11_needNow_20 : decode cX11_needNow 20 = .ok (.goto 4, 3) := by decide +kernel
theorem dX11_needNow_23 : decode cX11_needNow 23 = .ok (.iconst (-1), 1) := by decide +kernel
theorem dX11_needNow_24 : decode cX11_needNow 24 = .ok (.ireturn, 1) := by decide +kernel
theorem dX11_prices_0 : decode cX11_prices 0 = .ok (.iconst 0, 1) := by decide +kernel
theorem dX11_prices_1 : decode cX11_prices 1 = .ok (.istore_n 2, 1) := by decide +kernel
theorem dX11_prices_2 : decode cX11_prices 2 = .ok (.iload_n 2, 1) := by decide +kernel
theorem dX11_prices_3 : decode cX11_prices 3 = .ok (.bipush 6, 2) := by decide +kernel
theorem dX11_prices_5 : decode cX11_prices 5 = .ok (.if_icmp .ge 102, 3) := by decide +kernel
theorem dX11_prices_8 : decode cX11_prices 8 = .ok (.iconst 0, 1) := by decide +kernel
theorem dX11_prices_9 : decode cX11_prices 9 = .ok (.istore_n 3, 1) := by decide +kernel
theorem dX11_prices_10 : decode cX11_prices 10 = .ok (.iconst 0, 1) := by decide +kernel
theorem dX11_prices_11 : decode cX11_prices 11 = .ok (.istore 4, 2) := by decide +kernel
theorem dX11_prices_13 : decode cX11_prices 13 = .ok (.iload 4, 2) := by decide +kernel
theorem dX11_prices_15 : decode cX11_prices 15 = .ok (.iconst 4, 1) := by decide +kernel
theorem dX11_prices_16 : decode cX11_prices 16 = .ok (.if_icmp .ge 54, 3) := by decide +kernel
theorem dX11_prices_19 : decode cX11_prices 19 = .ok (.aload_n 0, 1) := by decide +kernel
theorem dX11_prices_20 : decode cX11_prices 20 = .ok (.getfield 49, 3) := by decide +kernel
theorem dX11_prices_23 : decode cX11_prices 23 = .ok (.iload 4, 2) := by decide +kernel
theorem dX11_prices_25 : decode cX11_prices 25 = .ok (.iaload, 1) := by decide +kernel
theorem dX11_prices_26 : decode cX11_prices 26 = .ok (.ifCond .le 38, 3) := by decide +kernel
theorem dX11_prices_29 : decode cX11_prices 29 = .ok (.aload_n 0, 1) := by decide +kernel
theorem dX11_prices_30 : decode cX11_prices 30 = .ok (.getfield 49, 3) := by decide +kernel
theorem dX11_prices_33 : decode cX11_prices 33 = .ok (.iload 4, 2) := by decide +kernel
theorem dX11_prices_35 : decode cX11_prices 35 = .ok (.iaload, 1) := by decide +kernel
theorem dX11_prices_36 : decode cX11_prices 36 = .ok (.aload_n 0, 1) := by decide +kernel
theorem dX11_prices_37 : decode cX11_prices 37 = .ok (.getfield 43, 3) := by decide +kernel
theorem dX11_prices_40 : decode cX11_prices 40 = .ok (.iload_n 2, 1) := by decide +kernel
theorem dX11_prices_41 : decode cX11_prices 41 = .ok (.iaload, 1) := by decide +kernel
theorem dX11_prices_42 : decode cX11_prices 42 = .ok (.if_icmp .gt 22, 3) := by decide +kernel
theorem dX11_prices_45 : decode cX11_prices 45 = .ok (.aload_n 0, 1) := by decide +kernel
theorem dX11_prices_46 : decode cX11_prices 46 = .ok (.getfield 52, 3) := by decide +kernel
theorem dX11_prices_49 : decode cX11_prices 49 = .ok (.iload 4, 2) := by decide +kernel
theorem dX11_prices_51 : decode cX11_prices 51 = .ok (.iaload, 1) := by decide +kernel
theorem dX11_prices_52 : decode cX11_prices 52 = .ok (.iload_n 3, 1) := by decide +kernel
theorem dX11_prices_53 : decode cX11_prices 53 = .ok (.if_icmp .le 11, 3) := by decide +kernel
theorem dX11_prices_56 : decode cX11_prices 56 = .ok (.aload_n 0, 1) := by decide +kernel
theorem dX11_prices_57 : decode cX11_prices 57 = .ok (.getfield 52, 3) := by decide +kernel
theorem dX11_prices_60 : decode cX11_prices 60 = .ok (.iload 4, 2) := by decide +kernel
theorem dX11_prices_62 : decode cX11_prices 62 = .ok (.iaload, 1) := by decide +kernel
theorem dX11_prices_63 : decode cX11_prices 63 = .ok (.istore_n 3, 1) := by decide +kernel
theorem dX11_prices_64 : decode cX11_prices 64 = .ok (.iinc 4 1, 3) := by decide +kernel
theorem dX11_prices_67 : decode cX11_prices 67 = .ok (.goto (-54), 3) := by decide +kernel
theorem dX11_prices_70 : decode cX11_prices 70 = .ok (.aload_n 0, 1) := by decide +kernel
theorem dX11_prices_71 : decode cX11_prices 71 = .ok (.getfield 58, 3) := by decide +kernel
theorem dX11_prices_74 : decode cX11_prices 74 = .ok (.iload_n 2, 1) := by decide +kernel
theorem dX11_prices_75 : decode cX11_prices 75 = .ok (.aload_n 0, 1) := by decide +kernel
theorem dX11_prices_76 : decode cX11_prices 76 = .ok (.getfield 34, 3) := by decide +kernel
theorem dX11_prices_79 : decode cX11_prices 79 = .ok (.iload_n 2, 1) := by decide +kernel
theorem dX11_prices_80 : decode cX11_prices 80 = .ok (.iaload, 1) := by decide +kernel
theorem dX11_prices_81 : decode cX11_prices 81 = .ok (.ifCond .ne 7, 3) := by decide +kernel
theorem dX11_prices_84 : decode cX11_prices 84 = .ok (.iconst 0, 1) := by decide +kernel
theorem dX11_prices_85 : decode cX11_prices 85 = .ok (.goto 15, 3) := by decide +kernel
theorem dX11_prices_88 : decode cX11_prices 88 = .ok (.aload_n 0, 1) := by decide +kernel
theorem dX11_prices_89 : decode cX11_prices 89 = .ok (.getfield 40, 3) := by decide +kernel
theorem dX11_prices_92 : decode cX11_prices 92 = .ok (.iconst 4, 1) := by decide +kernel
theorem dX11_prices_93 : decode cX11_prices 93 = .ok (.iload_n 2, 1) := by decide +kernel
theorem dX11_prices_94 : decode cX11_prices 94 = .ok (.imul, 1) := by decide +kernel
theorem dX11_prices_95 : decode cX11_prices 95 = .ok (.iload_n 1, 1) := by decide +kernel
theorem dX11_prices_96 : decode cX11_prices 96 = .ok (.iadd, 1) := by decide +kernel
theorem dX11_prices_97 : decode cX11_prices 97 = .ok (.iaload, 1) := by decide +kernel
theorem dX11_prices_98 : decode cX11_prices 98 = .ok (.iload_n 3, 1) := by decide +kernel
theorem dX11_prices_99 : decode cX11_prices 99 = .ok (.iadd, 1) := by decide +kernel
theorem dX11_prices_100 : decode cX11_prices 100 = .ok (.iastore, 1) := by decide +kernel
theorem dX11_prices_101 : decode cX11_prices 101 = .ok (.iinc 2 1, 3) := by decide +kernel
theorem dX11_prices_104 : decode cX11_prices 104 = .ok (.goto (-102), 3) := by decide +kernel
theorem dX11_prices_107 : decode cX11_prices 107 = .ok (.return_, 1) := by decide +kernel
theorem dX11_isWithin_0 : decode cX11_isWithin 0 = .ok (.iload_n 0, 1) := by decide +kernel
theorem dX11_isWithin_1 : decode cX11_isWithin 1 = .ok (.iload_n 0, 1) := by decide +kernel
theorem dX11_isWithin_2 : decode cX11_isWithin 2 = .ok (.imul, 1) := by decide +kernel
theorem dX11_isWithin_3 : decode cX11_isWithin 3 = .ok (.iload_n 1, 1) := by decide +kernel
theorem dX11_isWithin_4 : decode cX11_isWithin 4 = .ok (.iload_n 1, 1) := by decide +kernel
theorem dX11_isWithin_5 : decode cX11_isWithin 5 = .ok (.imul, 1) := by decide +kernel
theorem dX11_isWithin_6 : decode cX11_isWithin 6 = .ok (.iadd, 1) := by decide +kernel
theorem dX11_isWithin_7 : decode cX11_isWithin 7 = .ok (.iload_n 2, 1) := by decide +kernel
theorem dX11_isWithin_8 : decode cX11_isWithin 8 = .ok (.iload_n 2, 1) := by decide +kernel
theorem dX11_isWithin_9 : decode cX11_isWithin 9 = .ok (.imul, 1) := by decide +kernel
theorem dX11_isWithin_10 : decode cX11_isWithin 10 = .ok (.if_icmp .gt 7, 3) := by decide +kernel
theorem dX11_isWithin_13 : decode cX11_isWithin 13 = .ok (.iconst 1, 1) := by decide +kernel
theorem dX11_isWithin_14 : decode cX11_isWithin 14 = .ok (.goto 4, 3) := by decide +kernel
theorem dX11_isWithin_17 : decode cX11_isWithin 17 = .ok (.iconst 0, 1) := by decide +kernel
theorem dX11_isWithin_18 : decode cX11_isWithin 18 = .ok (.ireturn, 1) := by decide +kernel
theorem dX11_beside_0 : decode cX11_beside 0 = .ok (.aload_n 0, 1) := by decide +kernel
theorem dX11_beside_1 : decode cX11_beside 1 = .ok (.getfield 58, 3) := by decide +kernel
theorem dX11_beside_4 : decode cX11_beside 4 = .ok (.iload_n 2, 1) := by decide +kernel
theorem dX11_beside_5 : decode cX11_beside 5 = .ok (.iaload, 1) := by decide +kernel
theorem dX11_beside_6 : decode cX11_beside 6 = .ok (.ifCond .eq 13, 3) := by decide +kernel
theorem dX11_beside_9 : decode cX11_beside 9 = .ok (.aload_n 0, 1) := by decide +kernel
theorem dX11_beside_10 : decode cX11_beside 10 = .ok (.getfield 37, 3) := by decide +kernel
theorem dX11_beside_13 : decode cX11_beside 13 = .ok (.iload_n 2, 1) := by decide +kernel
theorem dX11_beside_14 : decode cX11_beside 14 = .ok (.iaload, 1) := by decide +kernel
theorem dX11_beside_15 : decode cX11_beside 15 = .ok (.iload_n 3, 1) := by decide +kernel
theorem dX11_beside_16 : decode cX11_beside 16 = .ok (.if_icmp .eq 5, 3) := by decide +kernel
theorem dX11_beside_19 : decode cX11_beside 19 = .ok (.iconst (-1), 1) := by decide +kernel
theorem dX11_beside_20 : decode cX11_beside 20 = .ok (.ireturn, 1) := by decide +kernel
theorem dX11_beside_21 : decode cX11_beside 21 = .ok (.iload_n 1, 1) := by decide +kernel
theorem dX11_beside_22 : decode cX11_beside 22 = .ok (.aload_n 0, 1) := by decide +kernel
theorem dX11_beside_23 : decode cX11_beside 23 = .ok (.getfield 34, 3) := by decide +kernel
theorem dX11_beside_26 : decode cX11_beside 26 = .ok (.iload_n 2, 1) := by decide +kernel
theorem dX11_beside_27 : decode cX11_beside 27 = .ok (.iaload, 1) := by decide +kernel
theorem dX11_beside_28 : decode cX11_beside 28 = .ok (.iadd, 1) := by decide +kernel
theorem dX11_beside_29 : decode cX11_beside 29 = .ok (.aload_n 0, 1) := by decide +kernel
theorem dX11_beside_30 : decode cX11_beside 30 = .ok (.getfield 121, 3) := by decide +kernel
theorem dX11_beside_33 : decode cX11_beside 33 = .ok (.iadd, 1) := by decide +kernel
theorem dX11_beside_34 : decode cX11_beside 34 = .ok (.istore 5, 2) := by decide +kernel
theorem dX11_beside_36 : decode cX11_beside 36 = .ok (.iload 5, 2) := by decide +kernel
theorem dX11_beside_38 : decode cX11_beside 38 = .ok (.aload_n 0, 1) := by decide +kernel
theorem dX11_beside_39 : decode cX11_beside 39 = .ok (.getfield 121, 3) := by decide +kernel
theorem dX11_beside_42 : decode cX11_beside 42 = .ok (.isub, 1) := by decide +kernel
theorem dX11_beside_43 : decode cX11_beside 43 = .ok (.iload_n 3, 1) := by decide +kernel
theorem dX11_beside_44 : decode cX11_beside 44 = .ok (.iload 4, 2) := by decide +kernel
theorem dX11_beside_46 : decode cX11_beside 46 = .ok (.invokestatic 125, 3) := by decide +kernel
theorem dX11_beside_49 : decode cX11_beside 49 = .ok (.ifCond .eq 8, 3) := by decide +kernel
theorem dX11_beside_52 : decode cX11_beside 52 = .ok (.iload 5, 2) := by decide +kernel
theorem dX11_beside_54 : decode cX11_beside 54 = .ok (.goto 4, 3) := by decide +kernel
theorem dX11_beside_57 : decode cX11_beside 57 = .ok (.iconst (-1), 1) := by decide +kernel
theorem dX11_beside_58 : decode cX11_beside 58 = .ok (.ireturn, 1) := by decide +kernel
theorem dX11_above_0 : decode cX11_above 0 = .ok (.aload_n 0, 1) := by decide +kernel
theorem dX11_above_1 : decode cX11_above 1 = .ok (.getfield 58, 3) := by decide +kernel
theorem dX11_above_4 : decode cX11_above 4 = .ok (.iload_n 2, 1) := by decide +kernel
theorem dX11_above_5 : decode cX11_above 5 = .ok (.iaload, 1) := by decide +kernel
theorem dX11_above_6 : decode cX11_above 6 = .ok (.ifCond .ne 5, 3) := by decide +kernel
theorem dX11_above_9 : decode cX11_above 9 = .ok (.iconst (-1), 1) := by decide +kernel
theorem dX11_above_10 : decode cX11_above 10 = .ok (.ireturn, 1) := by decide +kernel
theorem dX11_above_11 : decode cX11_above 11 = .ok (.iload_n 1, 1) := by decide +kernel
theorem dX11_above_12 : decode cX11_above 12 = .ok (.iconst 2, 1) := by decide +kernel
theorem dX11_above_13 : decode cX11_above 13 = .ok (.aload_n 0, 1) := by decide +kernel
theorem dX11_above_14 : decode cX11_above 14 = .ok (.getfield 34, 3) := by decide +kernel
theorem dX11_above_17 : decode cX11_above 17 = .ok (.iload_n 2, 1) := by decide +kernel
theorem dX11_above_18 : decode cX11_above 18 = .ok (.iaload, 1) := by decide +kernel
theorem dX11_above_19 : decode cX11_above 19 = .ok (.imul, 1) := by decide +kernel
theorem dX11_above_20 : decode cX11_above 20 = .ok (.iadd, 1) := by decide +kernel
theorem dX11_above_21 : decode cX11_above 21 = .ok (.iload_n 1, 1) := by decide +kernel
theorem dX11_above_22 : decode cX11_above 22 = .ok (.ifCond .ne 7, 3) := by decide +kernel
theorem dX11_above_25 : decode cX11_above 25 = .ok (.iconst 0, 1) := by decide +kernel
theorem dX11_above_26 : decode cX11_above 26 = .ok (.goto 9, 3) := by decide +kernel
theorem dX11_above_29 : decode cX11_above 29 = .ok (.iconst 2, 1) := by decide +kernel
theorem dX11_above_30 : decode cX11_above 30 = .ok (.aload_n 0, 1) := by decide +kernel
theorem dX11_above_31 : decode cX11_above 31 = .ok (.getfield 121, 3) := by decide +kernel
theorem dX11_above_34 : decode cX11_above 34 = .ok (.imul, 1) := by decide +kernel
theorem dX11_above_35 : decode cX11_above 35 = .ok (.iadd, 1) := by decide +kernel
theorem dX11_above_36 : decode cX11_above 36 = .ok (.istore 4, 2) := by decide +kernel
theorem dX11_above_38 : decode cX11_above 38 = .ok (.aload_n 0, 1) := by decide +kernel
theorem dX11_above_39 : decode cX11_above 39 = .ok (.getfield 37, 3) := by decide +kernel
theorem dX11_above_42 : decode cX11_above 42 = .ok (.iload_n 2, 1) := by decide +kernel
theorem dX11_above_43 : decode cX11_above 43 = .ok (.iaload, 1) := by decide +kernel
theorem dX11_above_44 : decode cX11_above 44 = .ok (.iload 4, 2) := by decide +kernel
theorem dX11_above_46 : decode cX11_above 46 = .ok (.iload_n 3, 1) := by decide +kernel
theorem dX11_above_47 : decode cX11_above 47 = .ok (.invokestatic 125, 3) := by decide +kernel
theorem dX11_above_50 : decode cX11_above 50 = .ok (.ifCond .eq 8, 3) := by decide +kernel
theorem dX11_above_53 : decode cX11_above 53 = .ok (.iload 4, 2) := by decide +kernel
theorem dX11_above_55 : decode cX11_above 55 = .ok (.goto 4, 3) := by decide +kernel
theorem dX11_above_58 : decode cX11_above 58 = .ok (.iconst (-1), 1) := by decide +kernel
theorem dX11_above_59 : decode cX11_above 59 = .ok (.ireturn, 1) := by decide +kernel
theorem dX11_step_0 : decode cX11_step 0 = .ok (.iload_n 1, 1) := by decide +kernel
theorem dX11_step_1 : decode cX11_step 1 = .ok (.ifCond .eq 16, 3) := by decide +kernel
theorem dX11_step_4 : decode cX11_step 4 = .ok (.aload_n 0, 1) := by decide +kernel
theorem dX11_step_5 : decode cX11_step 5 = .ok (.iload_n 2, 1) := by decide +kernel
theorem dX11_step_6 : decode cX11_step 6 = .ok (.iload_n 3, 1) := by decide +kernel
theorem dX11_step_7 : decode cX11_step 7 = .ok (.iload 4, 2) := by decide +kernel
theorem dX11_step_9 : decode cX11_step 9 = .ok (.iload 5, 2) := by decide +kernel
theorem dX11_step_11 : decode cX11_step 11 = .ok (.invokevirtual 128, 3) := by decide +kernel
theorem dX11_step_14 : decode cX11_step 14 = .ok (.goto 11, 3) := by decide +kernel
theorem dX11_step_17 : decode cX11_step 17 = .ok (.aload_n 0, 1) := by decide +kernel
theorem dX11_step_18 : decode cX11_step 18 = .ok (.iload_n 2, 1) := by decide +kernel
theorem dX11_step_19 : decode cX11_step 19 = .ok (.iload_n 3, 1) := by decide +kernel
theorem dX11_step_20 : decode cX11_step 20 = .ok (.iload 5, 2) := by decide +kernel
theorem dX11_step_22 : decode cX11_step 22 = .ok (.invokevirtual 132, 3) := by decide +kernel
theorem dX11_step_25 : decode cX11_step 25 = .ok (.ireturn, 1) := by decide +kernel
theorem dX11_sequence_0 : decode cX11_sequence 0 = .ok (.iconst 0, 1) := by decide +kernel
theorem dX11_sequence_1 : decode cX11_sequence 1 = .ok (.istore 6, 2) := by decide +kernel
theorem dX11_sequence_3 : decode cX11_sequence 3 = .ok (.iload 6, 2) := by decide +kernel
theorem dX11_sequence_5 : decode cX11_sequence 5 = .ok (.sipush 9400, 3) := by decide +kernel
theorem dX11_sequence_8 : decode cX11_sequence 8 = .ok (.if_icmp .ge 17, 3) := by decide +kernel
theorem dX11_sequence_11 : decode cX11_sequence 11 = .ok (.aload_n 0, 1) := by decide +kernel
theorem dX11_sequence_12 : decode cX11_sequence 12 = .ok (.getfield 70, 3) := by decide +kernel
theorem dX11_sequence_15 : decode cX11_sequence 15 = .ok (.iload 6, 2) := by decide +kernel
theorem dX11_sequence_17 : decode cX11_sequence 17 = .ok (.iconst (-1), 1) := by decide +kernel
theorem dX11_sequence_18 : decode cX11_sequence 18 = .ok (.iastore, 1) := by decide +kernel
theorem dX11_sequence_19 : decode cX11_sequence 19 = .ok (.iinc 6 1, 3) := by decide +kernel
theorem dX11_sequence_22 : decode cX11_sequence 22 = .ok (.goto (-19), 3) := by decide +kernel
theorem dX11_sequence_25 : decode cX11_sequence 25 = .ok (.aload_n 0, 1) := by decide +kernel
theorem dX11_sequence_26 : decode cX11_sequence 26 = .ok (.getfield 70, 3) := by decide +kernel
theorem dX11_sequence_29 : decode cX11_sequence 29 = .ok (.iload_n 2, 1) := by decide +kernel
theorem dX11_sequence_30 : decode cX11_sequence 30 = .ok (.iconst 0, 1) := by decide +kernel
theorem dX11_sequence_31 : decode cX11_sequence 31 = .ok (.iastore, 1) := by decide +kernel
theorem dX11_sequence_32 : decode cX11_sequence 32 = .ok (.iconst 0, 1) := by decide +kernel
theorem dX11_sequence_33 : decode cX11_sequence 33 = .ok (.istore 6, 2) := by decide +kernel
theorem dX11_sequence_35 : decode cX11_sequence 35 = .ok (.iload_n 2, 1) := by decide +kernel
theorem dX11_sequence_36 : decode cX11_sequence 36 = .ok (.istore 7, 2) := by decide +kernel
theorem dX11_sequence_38 : decode cX11_sequence 38 = .ok (.iload 7, 2) := by decide +kernel
theorem dX11_sequence_40 : decode cX11_sequence 40 = .ok (.sipush 9300, 3) := by decide +kernel
theorem dX11_sequence_43 : decode cX11_sequence 43 = .ok (.if_icmp .gt 130, 3) := by decide +kernel
theorem dX11_sequence_46 : decode cX11_sequence 46 = .ok (.aload_n 0, 1) := by decide +kernel
theorem dX11_sequence_47 : decode cX11_sequence 47 = .ok (.getfield 70, 3) := by decide +kernel
theorem dX11_sequence_50 : decode cX11_sequence 50 = .ok (.iload 7, 2) := by decide +kernel
theorem dX11_sequence_52 : decode cX11_sequence 52 = .ok (.iaload, 1) := by decide +kernel
theorem dX11_sequence_53 : decode cX11_sequence 53 = .ok (.ifCond .ge 6, 3) := by decide +kernel
theorem dX11_sequence_56 : decode cX11_sequence 56 = .ok (.goto 111, 3) := by decide +kernel
theorem dX11_sequence_59 : decode cX11_sequence 59 = .ok (.aload_n 0, 1) := by decide +kernel
theorem dX11_sequence_60 : decode cX11_sequence 60 = .ok (.getfield 70, 3) := by decide +kernel
theorem dX11_sequence_63 : decode cX11_sequence 63 = .ok (.iload 7, 2) := by decide +kernel
theorem dX11_sequence_65 : decode cX11_sequence 65 = .ok (.iaload, 1) := by decide +kernel
theorem dX11_sequence_66 : decode cX11_sequence 66 = .ok (.iload 6, 2) := by decide +kernel
theorem dX11_sequence_68 : decode cX11_sequence 68 = .ok (.if_icmp .le 13, 3) := by decide +kernel
theorem dX11_sequence_71 : decode cX11_sequence 71 = .ok (.aload_n 0, 1) := by decide +kernel
theorem dX11_sequence_72 : decode cX11_sequence 72 = .ok (.getfield 70, 3) := by decide +kernel
theorem dX11_sequence_75 : decode cX11_sequence 75 = .ok (.iload 7, 2) := by decide +kernel
theorem dX11_sequence_77 : decode cX11_sequence 77 = .ok (.iaload, 1) := by decide +kernel
theorem dX11_sequence_78 : decode cX11_sequence 78 = .ok (.goto 5, 3) := by decide +kernel
theorem dX11_sequence_81 : decode cX11_sequence 81 = .ok (.iload 6, 2) := by decide +kernel
theorem dX11_sequence_83 : decode cX11_sequence 83 = .ok (.istore 6, 2) := by decide +kernel
theorem dX11_sequence_85 : decode cX11_sequence 85 = .ok (.iconst 0, 1) := by decide +kernel
theorem dX11_sequence_86 : decode cX11_sequence 86 = .ok (.istore 8, 2) := by decide +kernel
theorem dX11_sequence_88 : decode cX11_sequence 88 = .ok (.iload 8, 2) := by decide +kernel
theorem dX11_sequence_90 : decode cX11_sequence 90 = .ok (.bipush 6, 2) := by decide +kernel
theorem dX11_sequence_92 : decode cX11_sequence 92 = .ok (.if_icmp .ge 75, 3) := by decide +kernel
theorem dX11_sequence_95 : decode cX11_sequence 95 = .ok (.aload_n 0, 1) := by decide +kernel
theorem dX11_sequence_96 : decode cX11_sequence 96 = .ok (.iload_n 1, 1) := by decide +kernel
theorem dX11_sequence_97 : decode cX11_sequence 97 = .ok (.iload 7, 2) := by decide +kernel
theorem dX11_sequence_99 : decode cX11_sequence 99 = .ok (.iload 8, 2) := by decide +kernel
theorem dX11_sequence_101 : decode cX11_sequence 101 = .ok (.iload_n 3, 1) := by decide +kernel
theorem dX11_sequence_102 : decode cX11_sequence 102 = .ok (.iload 4, 2) := by decide +kernel
theorem dX11_sequence_104 : decode cX11_sequence 104 = .ok (.invokevirtual 136, 3) := by decide +kernel
theorem dX11_sequence_107 : decode cX11_sequence 107 = .ok (.istore 9, 2) := by decide +kernel
theorem dX11_sequence_109 : decode cX11_sequence 109 = .ok (.iload 9, 2) := by decide +kernel
theorem dX11_sequence_111 : decode cX11_sequence 111 = .ok (.ifCond .lt 50, 3) := by decide +kernel
theorem dX11_sequence_114 : decode cX11_sequence 114 = .ok (.aload_n 0, 1) := by decide +kernel
theorem dX11_sequence_115 : decode cX11_sequence 115 = .ok (.getfield 70, 3) := by decide +kernel
theorem dX11_sequence_118 : decode cX11_sequence 118 = .ok (.iload 7, 2) := by decide +kernel
theorem dX11_sequence_120 : decode cX11_sequence 120 = .ok (.iaload, 1) := by decide +kernel
theorem dX11_sequence_121 : decode cX11_sequence 121 = .ok (.aload_n 0, 1) := by decide +kernel
theorem dX11_sequence_122 : decode cX11_sequence 122 = .ok (.getfield 58, 3) := by decide +kernel
theorem dX11_sequence_125 : decode cX11_sequence 125 = .ok (.iload 8, 2) := by decide +kernel
theorem dX11_sequence_127 : decode cX11_sequence 127 = .ok (.iaload, 1) := by decide +kernel
theorem dX11_sequence_128 : decode cX11_sequence 128 = .ok (.iadd, 1) := by decide +kernel
theorem dX11_sequence_129 : decode cX11_sequence 129 = .ok (.aload_n 0, 1) := by decide +kernel
theorem dX11_sequence_130 : decode cX11_sequence 130 = .ok (.getfield 70, 3) := by decide +kernel
theorem dX11_sequence_133 : decode cX11_sequence 133 = .ok (.iload 9, 2) := by decide +kernel
theorem dX11_sequence_135 : decode cX11_sequence 135 = .ok (.iaload, 1) := by decide +kernel
theorem dX11_sequence_136 : decode cX11_sequence 136 = .ok (.if_icmp .le 25, 3) := by decide +kernel
theorem dX11_sequence_139 : decode cX11_sequence 139 = .ok (.aload_n 0, 1) := by decide +kernel
theorem dX11_sequence_140 : decode cX11_sequence 140 = .ok (.getfield 70, 3) := by decide +kernel
theorem dX11_sequence_143 : decode cX11_sequence 143 = .ok (.iload 9, 2) := by decide +kernel
theorem dX11_sequence_145 : decode cX11_sequence 145 = .ok (.aload_n 0, 1) := by decide +kernel
theorem dX11_sequence_146 : decode cX11_sequence 146 = .ok (.getfield 70, 3) := by decide +kernel
theorem dX11_sequence_149 : decode cX11_sequence 149 = .ok (.iload 7, 2) := by decide +kernel
theorem dX11_sequence_151 : decode cX11_sequence 151 = .ok (.iaload, 1) := by decide +kernel
theorem dX11_sequence_152 : decode cX11_sequence 152 = .ok (.aload_n 0, 1) := by decide +kernel
theorem dX11_sequence_153 : decode cX11_sequence 153 = .ok (.getfield 58, 3) := by decide +kernel
theorem dX11_sequence_156 : decode cX11_sequence 156 = .ok (.iload 8, 2) := by decide +kernel
theorem dX11_sequence_158 : decode cX11_sequence 158 = .ok (.iaload, 1) := by decide +kernel
theorem dX11_sequence_159 : decode cX11_sequence 159 = .ok (.iadd, 1) := by decide +kernel
theorem dX11_sequence_160 : decode cX11_sequence 160 = .ok (.iastore, 1) := by decide +kernel
theorem dX11_sequence_161 : decode cX11_sequence 161 = .ok (.iinc 8 1, 3) := by decide +kernel
theorem dX11_sequence_164 : decode cX11_sequence 164 = .ok (.goto (-76), 3) := by decide +kernel
theorem dX11_sequence_167 : decode cX11_sequence 167 = .ok (.iinc 7 1, 3) := by decide +kernel
theorem dX11_sequence_170 : decode cX11_sequence 170 = .ok (.goto (-132), 3) := by decide +kernel
theorem dX11_sequence_173 : decode cX11_sequence 173 = .ok (.sipush 9300, 3) := by decide +kernel
theorem dX11_sequence_176 : decode cX11_sequence 176 = .ok (.istore 7, 2) := by decide +kernel
theorem dX11_sequence_178 : decode cX11_sequence 178 = .ok (.iload 7, 2) := by decide +kernel
theorem dX11_sequence_180 : decode cX11_sequence 180 = .ok (.iload_n 2, 1) := by decide +kernel
theorem dX11_sequence_181 : decode cX11_sequence 181 = .ok (.if_icmp .lt 82, 3) := by decide +kernel
theorem dX11_sequence_184 : decode cX11_sequence 184 = .ok (.aload_n 0, 1) := by decide +kernel
theorem dX11_sequence_185 : decode cX11_sequence 185 = .ok (.getfield 73, 3) := by decide +kernel
theorem dX11_sequence_188 : decode cX11_sequence 188 = .ok (.iload 7, 2) := by decide +kernel
theorem dX11_sequence_190 : decode cX11_sequence 190 = .ok (.aload_n 0, 1) := by decide +kernel
theorem dX11_sequence_191 : decode cX11_sequence 191 = .ok (.getfield 70, 3) := by decide +kernel
theorem dX11_sequence_194 : decode cX11_sequence 194 = .ok (.iload 7, 2) := by decide +kernel
theorem dX11_sequence_196 : decode cX11_sequence 196 = .ok (.iaload, 1) := by decide +kernel
theorem dX11_sequence_197 : decode cX11_sequence 197 = .ok (.iload 6, 2) := by decide +kernel
theorem dX11_sequence_199 : decode cX11_sequence 199 = .ok (.if_icmp .ne 7, 3) := by decide +kernel
theorem dX11_sequence_202 : decode cX11_sequence 202 = .ok (.iconst 1, 1) := by decide +kernel
theorem dX11_sequence_203 : decode cX11_sequence 203 = .ok (.goto 4, 3) := by decide +kernel
theorem dX11_sequence_206 : decode cX11_sequence 206 = .ok (.iconst 0, 1) := by decide +kernel
theorem dX11_sequence_207 : decode cX11_sequence 207 = .ok (.bastore, 1) := by decide +kernel
theorem dX11_sequence_208 : decode cX11_sequence 208 = .ok (.iconst 0, 1) := by decide +kernel
theorem dX11_sequence_209 : decode cX11_sequence 209 = .ok (.istore 8, 2) := by decide +kernel
theorem dX11_sequence_211 : decode cX11_sequence 211 = .ok (.iload 8, 2) := by decide +kernel
theorem dX11_sequence_213 : decode cX11_sequence 213 = .ok (.bipush 6, 2) := by decide +kernel
theorem dX11_sequence_215 : decode cX11_sequence 215 = .ok (.if_icmp .ge 42, 3) := by decide +kernel
theorem dX11_sequence_218 : decode cX11_sequence 218 = .ok (.aload_n 0, 1) := by decide +kernel
theorem dX11_sequence_219 : decode cX11_sequence 219 = .ok (.getfield 70, 3) := by decide +kernel
theorem dX11_sequence_222 : decode cX11_sequence 222 = .ok (.iload 7, 2) := by decide +kernel
theorem dX11_sequence_224 : decode cX11_sequence 224 = .ok (.iaload, 1) := by decide +kernel
theorem dX11_sequence_225 : decode cX11_sequence 225 = .ok (.ifCond .lt 32, 3) := by decide +kernel
theorem dX11_sequence_228 : decode cX11_sequence 228 = .ok (.aload_n 0, 1) := by decide +kernel
theorem dX11_sequence_229 : decode cX11_sequence 229 = .ok (.iload_n 1, 1) := by decide +kernel
theorem dX11_sequence_230 : decode cX11_sequence 230 = .ok (.iload 7, 2) := by decide +kernel
theorem dX11_sequence_232 : decode cX11_sequence 232 = .ok (.iload 8, 2) := by decide +kernel
theorem dX11_sequence_234 : decode cX11_sequence 234 = .ok (.iload_n 3, 1) := by decide +kernel
theorem dX11_sequence_235 : decode cX11_sequence 235 = .ok (.iload 4, 2) := by decide +kernel
theorem dX11_sequence_237 : decode cX11_sequence 237 = .ok (.invokevirtual 140, 3) := by decide +kernel
theorem dX11_sequence_240 : decode cX11_sequence 240 = .ok (.ifCond .eq 11, 3) := by decide +kernel
theorem dX11_sequence_243 : decode cX11_sequence 243 = .ok (.aload_n 0, 1) := by decide +kernel
theorem dX11_sequence_244 : decode cX11_sequence 244 = .ok (.getfield 73, 3) := by decide +kernel
theorem dX11_sequence_247 : decode cX11_sequence 247 = .ok (.iload 7, 2) := by decide +kernel
theorem dX11_sequence_249 : decode cX11_sequence 249 = .ok (.iconst 1, 1) := by decide +kernel
theorem dX11_sequence_250 : decode cX11_sequence 250 = .ok (.bastore, 1) := by decide +kernel
theorem dX11_sequence_251 : decode cX11_sequence 251 = .ok (.iinc 8 1, 3) := by decide +kernel
theorem dX11_sequence_254 : decode cX11_sequence 254 = .ok (.goto (-43), 3) := by decide +kernel
theorem dX11_sequence_257 : decode cX11_sequence 257 = .ok (.iinc 7 (-1), 3) := by decide +kernel
theorem dX11_sequence_260 : decode cX11_sequence 260 = .ok (.goto (-82), 3) := by decide +kernel
theorem dX11_sequence_263 : decode cX11_sequence 263 = .ok (.iconst 0, 1) := by decide +kernel
theorem dX11_sequence_264 : decode cX11_sequence 264 = .ok (.istore 7, 2) := by decide +kernel
theorem dX11_sequence_266 : decode cX11_sequence 266 = .ok (.iload_n 2, 1) := by decide +kernel
theorem dX11_sequence_267 : decode cX11_sequence 267 = .ok (.istore 8, 2) := by decide +kernel
theorem dX11_sequence_269 : decode cX11_sequence 269 = .ok (.aload_n 0, 1) := by decide +kernel
theorem dX11_sequence_270 : decode cX11_sequence 270 = .ok (.getfield 70, 3) := by decide +kernel
theorem dX11_sequence_273 : decode cX11_sequence 273 = .ok (.iload 8, 2) := by decide +kernel
theorem dX11_sequence_275 : decode cX11_sequence 275 = .ok (.iaload, 1) := by decide +kernel
theorem dX11_sequence_276 : decode cX11_sequence 276 = .ok (.iload 6, 2) := by decide +kernel
theorem dX11_sequence_278 : decode cX11_sequence 278 = .ok (.if_icmp .ge 54, 3) := by decide +kernel
theorem dX11_sequence_281 : decode cX11_sequence 281 = .ok (.iconst 0, 1) := by decide +kernel
theorem dX11_sequence_282 : decode cX11_sequence 282 = .ok (.istore 9, 2) := by decide +kernel
theorem dX11_sequence_284 : decode cX11_sequence 284 = .ok (.aload_n 0, 1) := by decide +kernel
theorem dX11_sequence_285 : decode cX11_sequence 285 = .ok (.iload_n 1, 1) := by decide +kernel
theorem dX11_sequence_286 : decode cX11_sequence 286 = .ok (.iload 8, 2) := by decide +kernel
theorem dX11_sequence_288 : decode cX11_sequence 288 = .ok (.iload 9, 2) := by decide +kernel
theorem dX11_sequence_290 : decode cX11_sequence 290 = .ok (.iload_n 3, 1) := by decide +kernel
theorem dX11_sequence_291 : decode cX11_sequence 291 = .ok (.iload 4, 2) := by decide +kernel
theorem dX11_sequence_293 : decode cX11_sequence 293 = .ok (.invokevirtual 140, 3) := by decide +kernel
theorem dX11_sequence_296 : decode cX11_sequence 296 = .ok (.ifCond .ne 9, 3) := by decide +kernel
theorem dX11_sequence_299 : decode cX11_sequence 299 = .ok (.iinc 9 1, 3) := by decide +kernel
theorem dX11_sequence_302 : decode cX11_sequence 302 = .ok (.goto (-18), 3) := by decide +kernel
theorem dX11_sequence_305 : decode cX11_sequence 305 = .ok (.aload 5, 2) := by decide +kernel
theorem dX11_sequence_307 : decode cX11_sequence 307 = .ok (.iload 7, 2) := by decide +kernel
theorem dX11_sequence_309 : decode cX11_sequence 309 = .ok (.iload 9, 2) := by decide +kernel
theorem dX11_sequence_311 : decode cX11_sequence 311 = .ok (.iastore, 1) := by decide +kernel
theorem dX11_sequence_312 : decode cX11_sequence 312 = .ok (.iinc 7 1, 3) := by decide +kernel
theorem dX11_sequence_315 : decode cX11_sequence 315 = .ok (.aload_n 0, 1) := by decide +kernel
theorem dX11_sequence_316 : decode cX11_sequence 316 = .ok (.iload_n 1, 1) := by decide +kernel
theorem dX11_sequence_317 : decode cX11_sequence 317 = .ok (.iload 8, 2) := by decide +kernel
theorem dX11_sequence_319 : decode cX11_sequence 319 = .ok (.iload 9, 2) := by decide +kernel
theorem dX11_sequence_321 : decode cX11_sequence 321 = .ok (.iload_n 3, 1) := by decide +kernel
theorem dX11_sequence_322 : decode cX11_sequence 322 = .ok (.iload 4, 2) := by decide +kernel
theorem dX11_sequence_324 : decode cX11_sequence 324 = .ok (.invokevirtual 136, 3) := by decide +kernel
theorem dX11_sequence_327 : decode cX11_sequence 327 = .ok (.istore 8, 2) := by decide +kernel
theorem dX11_sequence_329 : decode cX11_sequence 329 = .ok (.goto (-60), 3) := by decide +kernel
theorem dX11_sequence_332 : decode cX11_sequence 332 = .ok (.aload 5, 2) := by decide +kernel
theorem dX11_sequence_334 : decode cX11_sequence 334 = .ok (.iload 7, 2) := by decide +kernel
theorem dX11_sequence_336 : decode cX11_sequence 336 = .ok (.iconst (-1), 1) := by decide +kernel
theorem dX11_sequence_337 : decode cX11_sequence 337 = .ok (.iastore, 1) := by decide +kernel
theorem dX11_sequence_338 : decode cX11_sequence 338 = .ok (.iload 6, 2) := by decide +kernel
theorem dX11_sequence_340 : decode cX11_sequence 340 = .ok (.ireturn, 1) := by decide +kernel
theorem dX11_isBest_0 : decode cX11_isBest 0 = .ok (.aload_n 0, 1) := by decide +kernel
theorem dX11_isBest_1 : decode cX11_isBest 1 = .ok (.iload_n 1, 1) := by decide +kernel
theorem dX11_isBest_2 : decode cX11_isBest 2 = .ok (.iload_n 2, 1) := by decide +kernel
theorem dX11_isBest_3 : decode cX11_isBest 3 = .ok (.iload_n 3, 1) := by decide +kernel
theorem dX11_isBest_4 : decode cX11_isBest 4 = .ok (.iload 4, 2) := by decide +kernel
theorem dX11_isBest_6 : decode cX11_isBest 6 = .ok (.iload 5, 2) := by decide +kernel
theorem dX11_isBest_8 : decode cX11_isBest 8 = .ok (.invokevirtual 136, 3) := by decide +kernel
theorem dX11_isBest_11 : decode cX11_isBest 11 = .ok (.istore 6, 2) := by decide +kernel
theorem dX11_isBest_13 : decode cX11_isBest 13 = .ok (.iload 6, 2) := by decide +kernel
theorem dX11_isBest_15 : decode cX11_isBest 15 = .ok (.ifCond .lt 40, 3) := by decide +kernel
theorem dX11_isBest_18 : decode cX11_isBest 18 = .ok (.aload_n 0, 1) := by decide +kernel
theorem dX11_isBest_19 : decode cX11_isBest 19 = .ok (.getfield 73, 3) := by decide +kernel
theorem dX11_isBest_22 : decode cX11_isBest 22 = .ok (.iload 6, 2) := by decide +kernel
theorem dX11_isBest_24 : decode cX11_isBest 24 = .ok (.baload, 1) := by decide +kernel
theorem dX11_isBest_25 : decode cX11_isBest 25 = .ok (.ifCond .eq 30, 3) := by decide +kernel
theorem dX11_isBest_28 : decode cX11_isBest 28 = .ok (.aload_n 0, 1) := by decide +kernel
theorem dX11_isBest_29 : decode cX11_isBest 29 = .ok (.getfield 70, 3) := by decide +kernel
theorem dX11_isBest_32 : decode cX11_isBest 32 = .ok (.iload 6, 2) := by decide +kernel
theorem dX11_isBest_34 : decode cX11_isBest 34 = .ok (.iaload, 1) := by decide +kernel
theorem dX11_isBest_35 : decode cX11_isBest 35 = .ok (.aload_n 0, 1) := by decide +kernel
theorem dX11_isBest_36 : decode cX11_isBest 36 = .ok (.getfield 70, 3) := by decide +kernel
theorem dX11_isBest_39 : decode cX11_isBest 39 = .ok (.iload_n 2, 1) := by decide +kernel
theorem dX11_isBest_40 : decode cX11_isBest 40 = .ok (.iaload, 1) := by decide +kernel
theorem dX11_isBest_41 : decode cX11_isBest 41 = .ok (.aload_n 0, 1) := by decide +kernel
theorem dX11_isBest_42 : decode cX11_isBest 42 = .ok (.getfield 58, 3) := by decide +kernel
theorem dX11_isBest_45 : decode cX11_isBest 45 = .ok (.iload_n 3, 1) := by decide +kernel
theorem dX11_isBest_46 : decode cX11_isBest 46 = .ok (.iaload, 1) := by decide +kernel
theorem dX11_isBest_47 : decode cX11_isBest 47 = .ok (.iadd, 1) := by decide +kernel
theorem dX11_isBest_48 : decode cX11_isBest 48 = .ok (.if_icmp .ne 7, 3) := by decide +kernel
theorem dX11_isBest_51 : decode cX11_isBest 51 = .ok (.iconst 1, 1) := by decide +kernel
theorem dX11_isBest_52 : decode cX11_isBest 52 = .ok (.goto 4, 3) := by decide +kernel
theorem dX11_isBest_55 : decode cX11_isBest 55 = .ok (.iconst 0, 1) := by decide +kernel
theorem dX11_isBest_56 : decode cX11_isBest 56 = .ok (.ireturn, 1) := by decide +kernel
theorem dX11_saw_0 : decode cX11_saw 0 = .ok (.aload_n 0, 1) := by decide +kernel
theorem dX11_saw_1 : decode cX11_saw 1 = .ok (.iload_n 1, 1) := by decide +kernel
theorem dX11_saw_2 : decode cX11_saw 2 = .ok (.iconst 0, 1) := by decide +kernel
theorem dX11_saw_3 : decode cX11_saw 3 = .ok (.aload_n 0, 1) := by decide +kernel
theorem dX11_saw_4 : decode cX11_saw 4 = .ok (.getfield 102, 3) := by decide +kernel
theorem dX11_saw_7 : decode cX11_saw 7 = .ok (.iconst 1, 1) := by decide +kernel
theorem dX11_saw_8 : decode cX11_saw 8 = .ok (.isub, 1) := by decide +kernel
theorem dX11_saw_9 : decode cX11_saw 9 = .ok (.invokestatic 87, 3) := by decide +kernel
theorem dX11_saw_12 : decode cX11_saw 12 = .ok (.ifCond .eq 7, 3) := by decide +kernel
theorem dX11_saw_15 : decode cX11_saw 15 = .ok (.iconst 0, 1) := by decide +kernel
theorem dX11_saw_16 : decode cX11_saw 16 = .ok (.goto 4, 3) := by decide +kernel
theorem dX11_saw_19 : decode cX11_saw 19 = .ok (.iconst 1, 1) := by decide +kernel
theorem dX11_saw_20 : decode cX11_saw 20 = .ok (.putfield 84, 3) := by decide +kernel
theorem dX11_saw_23 : decode cX11_saw 23 = .ok (.aload_n 0, 1) := by decide +kernel
theorem dX11_saw_24 : decode cX11_saw 24 = .ok (.getfield 84, 3) := by decide +kernel
theorem dX11_saw_27 : decode cX11_saw 27 = .ok (.iconst 1, 1) := by decide +kernel
theorem dX11_saw_28 : decode cX11_saw 28 = .ok (.if_icmp .ne 5, 3) := by decide +kernel
theorem dX11_saw_31 : decode cX11_saw 31 = .ok (.iconst 0, 1) := by decide +kernel
theorem dX11_saw_32 : decode cX11_saw 32 = .ok (.ireturn, 1) := by decide +kernel
theorem dX11_saw_33 : decode cX11_saw 33 = .ok (.aload_n 0, 1) := by decide +kernel
theorem dX11_saw_34 : decode cX11_saw 34 = .ok (.aload_n 0, 1) := by decide +kernel
theorem dX11_saw_35 : decode cX11_saw 35 = .ok (.getfield 31, 3) := by decide +kernel
theorem dX11_saw_38 : decode cX11_saw 38 = .ok (.bipush 6, 2) := by decide +kernel
theorem dX11_saw_40 : decode cX11_saw 40 = .ok (.iload_n 1, 1) := by decide +kernel
theorem dX11_saw_41 : decode cX11_saw 41 = .ok (.imul, 1) := by decide +kernel
theorem dX11_saw_42 : decode cX11_saw 42 = .ok (.iconst 4, 1) := by decide +kernel
theorem dX11_saw_43 : decode cX11_saw 43 = .ok (.iadd, 1) := by decide +kernel
theorem dX11_saw_44 : decode cX11_saw 44 = .ok (.iaload, 1) := by decide +kernel
theorem dX11_saw_45 : decode cX11_saw 45 = .ok (.invokevirtual 144, 3) := by decide +kernel
theorem dX11_saw_48 : decode cX11_saw 48 = .ok (.bipush 10, 2) := by decide +kernel
theorem dX11_saw_50 : decode cX11_saw 50 = .ok (.aload_n 0, 1) := by decide +kernel
theorem dX11_saw_51 : decode cX11_saw 51 = .ok (.getfield 31, 3) := by decide +kernel
theorem dX11_saw_54 : decode cX11_saw 54 = .ok (.bipush 6, 2) := by decide +kernel
theorem dX11_saw_56 : decode cX11_saw 56 = .ok (.iload_n 1, 1) := by decide +kernel
theorem dX11_saw_57 : decode cX11_saw 57 = .ok (.imul, 1) := by decide +kernel
theorem dX11_saw_58 : decode cX11_saw 58 = .ok (.iconst 2, 1) := by decide +kernel
theorem dX11_saw_59 : decode cX11_saw 59 = .ok (.iadd, 1) := by decide +kernel
theorem dX11_saw_60 : decode cX11_saw 60 = .ok (.iaload, 1) := by decide +kernel
theorem dX11_saw_61 : decode cX11_saw 61 = .ok (.imul, 1) := by decide +kernel
theorem dX11_saw_62 : decode cX11_saw 62 = .ok (.istore_n 2, 1) := by decide +kernel
theorem dX11_saw_63 : decode cX11_saw 63 = .ok (.iconst (-1), 1) := by decide +kernel
theorem dX11_saw_64 : decode cX11_saw 64 = .ok (.istore_n 3, 1) := by decide +kernel
theorem dX11_saw_65 : decode cX11_saw 65 = .ok (.iconst 4, 1) := by decide +kernel
theorem dX11_saw_66 : decode cX11_saw 66 = .ok (.istore 4, 2) := by decide +kernel
theorem dX11_saw_68 : decode cX11_saw 68 = .ok (.iconst 0, 1) := by decide +kernel
theorem dX11_saw_69 : decode cX11_saw 69 = .ok (.istore 5, 2) := by decide +kernel
theorem dX11_saw_71 : decode cX11_saw 71 = .ok (.iload 5, 2) := by decide +kernel
theorem dX11_saw_73 : decode cX11_saw 73 = .ok (.iconst 5, 1) := by decide +kernel
theorem dX11_saw_74 : decode cX11_saw 74 = .ok (.if_icmp .ge 238, 3) := by decide +kernel
theorem dX11_saw_77 : decode cX11_saw 77 = .ok (.iload 5, 2) := by decide +kernel
theorem dX11_saw_79 : decode cX11_saw 79 = .ok (.iconst 4, 1) := by decide +kernel
theorem dX11_saw_80 : decode cX11_saw 80 = .ok (.if_icmp .ge 27, 3) := by decide +kernel
theorem dX11_saw_83 : decode cX11_saw 83 = .ok (.aload_n 0, 1) := by decide +kernel
theorem dX11_saw_84 : decode cX11_saw 84 = .ok (.getfield 46, 3) := by decide +kernel
theorem dX11_saw_87 : decode cX11_saw 87 = .ok (.iload 5, 2) := by decide +kernel
theorem dX11_saw_89 : decode cX11_saw 89 = .ok (.iaload, 1) := by decide +kernel
theorem dX11_saw_90 : decode cX11_saw 90 = .ok (.ifCond .eq 216, 3) := by decide +kernel
theorem dX11_saw_93 : decode cX11_saw 93 = .ok (.aload_n 0, 1) := by decide +kernel
theorem dX11_saw_94 : decode cX11_saw 94 = .ok (.getfield 46, 3) := by decide +kernel
theorem dX11_saw_97 : decode cX11_saw 97 = .ok (.iload 5, 2) := by decide +kernel
theorem dX11_saw_99 : decode cX11_saw 99 = .ok (.iaload, 1) := by decide +kernel
theorem dX11_saw_100 : decode cX11_saw 100 = .ok (.iload_n 2, 1) := by decide +kernel
theorem dX11_saw_101 : decode cX11_saw 101 = .ok (.if_icmp .le 6, 3) := by decide +kernel
theorem dX11_saw_104 : decode cX11_saw 104 = .ok (.goto 202, 3) := by decide +kernel
theorem dX11_saw_107 : decode cX11_saw 107 = .ok (.iload 5, 2) := by decide +kernel
theorem dX11_saw_109 : decode cX11_saw 109 = .ok (.iconst 4, 1) := by decide +kernel
theorem dX11_saw_110 : decode cX11_saw 110 = .ok (.if_icmp .ge 24, 3) := by decide +kernel
theorem dX11_saw_113 : decode cX11_saw 113 = .ok (.aload_n 0, 1) := by decide +kernel
theorem dX11_saw_114 : decode cX11_saw 114 = .ok (.iconst 1, 1) := by decide +kernel
theorem dX11_saw_115 : decode cX11_saw 115 = .ok (.iconst 0, 1) := by decide +kernel
theorem dX11_saw_116 : decode cX11_saw 116 = .ok (.aload_n 0, 1) := by decide +kernel
theorem dX11_saw_117 : decode cX11_saw 117 = .ok (.getfield 46, 3) := by decide +kernel
theorem dX11_saw_120 : decode cX11_saw 120 = .ok (.iload 5, 2) := by decide +kernel
theorem dX11_saw_122 : decode cX11_saw 122 = .ok (.iaload, 1) := by decide +kernel
theorem dX11_saw_123 : decode cX11_saw 123 = .ok (.iload_n 2, 1) := by decide +kernel
theorem dX11_saw_124 : decode cX11_saw 124 = .ok (.aload_n 0, 1) := by decide +kernel
theorem dX11_saw_125 : decode cX11_saw 125 = .ok (.getfield 61, 3) := by decide +kernel
theorem dX11_saw_128 : decode cX11_saw 128 = .ok (.invokevirtual 148, 3) := by decide +kernel
theorem dX11_saw_131 : decode cX11_saw 131 = .ok (.goto 4, 3) := by decide +kernel
theorem dX11_saw_134 : decode cX11_saw 134 = .ok (.iconst 0, 1) := by decide +kernel
theorem dX11_saw_135 : decode cX11_saw 135 = .ok (.istore 6, 2) := by decide +kernel
theorem dX11_saw_137 : decode cX11_saw 137 = .ok (.iload 5, 2) := by decide +kernel
theorem dX11_saw_139 : decode cX11_saw 139 = .ok (.iconst 4, 1) := by decide +kernel
theorem dX11_saw_140 : decode cX11_saw 140 = .ok (.if_icmp .ge 11, 3) := by decide +kernel
theorem dX11_saw_143 : decode cX11_saw 143 = .ok (.iload 6, 2) := by decide +kernel
theorem dX11_saw_145 : decode cX11_saw 145 = .ok (.ifCond .ne 6, 3) := by decide +kernel
theorem dX11_saw_148 : decode cX11_saw 148 = .ok (.goto 158, 3) := by decide +kernel
theorem dX11_saw_151 : decode cX11_saw 151 = .ok (.iload 6, 2) := by decide +kernel
theorem dX11_saw_153 : decode cX11_saw 153 = .ok (.iload 5, 2) := by decide +kernel
theorem dX11_saw_155 : decode cX11_saw 155 = .ok (.iconst 4, 1) := by decide +kernel
theorem dX11_saw_156 : decode cX11_saw 156 = .ok (.if_icmp .ge 7, 3) := by decide +kernel
theorem dX11_saw_159 : decode cX11_saw 159 = .ok (.iconst 2, 1) := by decide +kernel
theorem dX11_saw_160 : decode cX11_saw 160 = .ok (.goto 4, 3) := by decide +kernel
theorem dX11_saw_163 : decode cX11_saw 163 = .ok (.iconst 1, 1) := by decide +kernel
theorem dX11_saw_164 : decode cX11_saw 164 = .ok (.aload_n 0, 1) := by decide +kernel
theorem dX11_saw_165 : decode cX11_saw 165 = .ok (.iconst 0, 1) := by decide +kernel
theorem dX11_saw_166 : decode cX11_saw 166 = .ok (.iload 5, 2) := by decide +kernel
theorem dX11_saw_168 : decode cX11_saw 168 = .ok (.iconst 4, 1) := by decide +kernel
theorem dX11_saw_169 : decode cX11_saw 169 = .ok (.if_icmp .ge 13, 3) := by decide +kernel
theorem dX11_saw_172 : decode cX11_saw 172 = .ok (.aload_n 0, 1) := by decide +kernel
theorem dX11_saw_173 : decode cX11_saw 173 = .ok (.getfield 46, 3) := by decide +kernel
theorem dX11_saw_176 : decode cX11_saw 176 = .ok (.iload 5, 2) := by decide +kernel
theorem dX11_saw_178 : decode cX11_saw 178 = .ok (.iaload, 1) := by decide +kernel
theorem dX11_saw_179 : decode cX11_saw 179 = .ok (.goto 4, 3) := by decide +kernel
theorem dX11_saw_182 : decode cX11_saw 182 = .ok (.iconst 0, 1) := by decide +kernel
theorem dX11_saw_183 : decode cX11_saw 183 = .ok (.iconst 0, 1) := by decide +kernel
theorem dX11_saw_184 : decode cX11_saw 184 = .ok (.iload_n 2, 1) := by decide +kernel
theorem dX11_saw_185 : decode cX11_saw 185 = .ok (.aload_n 0, 1) := by decide +kernel
theorem dX11_saw_186 : decode cX11_saw 186 = .ok (.getfield 64, 3) := by decide +kernel
theorem dX11_saw_189 : decode cX11_saw 189 = .ok (.invokevirtual 148, 3) := by decide +kernel
theorem dX11_saw_192 : decode cX11_saw 192 = .ok (.imul, 1) := by decide +kernel
theorem dX11_saw_193 : decode cX11_saw 193 = .ok (.iadd, 1) := by decide +kernel
theorem dX11_saw_194 : decode cX11_saw 194 = .ok (.istore 7, 2) := by decide +kernel
theorem dX11_saw_196 : decode cX11_saw 196 = .ok (.iload 7, 2) := by decide +kernel
theorem dX11_saw_198 : decode cX11_saw 198 = .ok (.iload_n 3, 1) := by decide +kernel
theorem dX11_saw_199 : decode cX11_saw 199 = .ok (.if_icmp .lt 107, 3) := by decide +kernel
theorem dX11_saw_202 : decode cX11_saw 202 = .ok (.iload 7, 2) := by decide +kernel
theorem dX11_saw_204 : decode cX11_saw 204 = .ok (.iload_n 3, 1) := by decide +kernel
theorem dX11_saw_205 : decode cX11_saw 205 = .ok (.if_icmp .ne 35, 3) := by decide +kernel
theorem dX11_saw_208 : decode cX11_saw 208 = .ok (.iload 5, 2) := by decide +kernel
theorem dX11_saw_210 : decode cX11_saw 210 = .ok (.iconst 4, 1) := by decide +kernel
theorem dX11_saw_211 : decode cX11_saw 211 = .ok (.if_icmp .eq 95, 3) := by decide +kernel
theorem dX11_saw_214 : decode cX11_saw 214 = .ok (.iload 4, 2) := by decide +kernel
theorem dX11_saw_216 : decode cX11_saw 216 = .ok (.iconst 4, 1) := by decide +kernel
theorem dX11_saw_217 : decode cX11_saw 217 = .ok (.if_icmp .eq 89, 3) := by decide +kernel
theorem dX11_saw_220 : decode cX11_saw 220 = .ok (.aload_n 0, 1) := by decide +kernel
theorem dX11_saw_221 : decode cX11_saw 221 = .ok (.getfield 46, 3) := by decide +kernel
theorem dX11_saw_224 : decode cX11_saw 224 = .ok (.iload 5, 2) := by decide +kernel
theorem dX11_saw_226 : decode cX11_saw 226 = .ok (.iaload, 1) := by decide +kernel
theorem dX11_saw_227 : decode cX11_saw 227 = .ok (.aload_n 0, 1) := by decide +kernel
theorem dX11_saw_228 : decode cX11_saw 228 = .ok (.getfield 46, 3) := by decide +kernel
theorem dX11_saw_231 : decode cX11_saw 231 = .ok (.iload 4, 2) := by decide +kernel
theorem dX11_saw_233 : decode cX11_saw 233 = .ok (.iaload, 1) := by decide +kernel
theorem dX11_saw_234 : decode cX11_saw 234 = .ok (.if_icmp .lt 6, 3) := by decide +kernel
theorem dX11_saw_237 : decode cX11_saw 237 = .ok (.goto 69, 3) := by decide +kernel
theorem dX11_saw_240 : decode cX11_saw 240 = .ok (.iload 7, 2) := by decide +kernel
theorem dX11_saw_242 : decode cX11_saw 242 = .ok (.istore_n 3, 1) := by decide +kernel
theorem dX11_saw_243 : decode cX11_saw 243 = .ok (.iload 5, 2) := by decide +kernel
theorem dX11_saw_245 : decode cX11_saw 245 = .ok (.istore 4, 2) := by decide +kernel
theorem dX11_saw_247 : decode cX11_saw 247 = .ok (.iconst 0, 1) := by decide +kernel
theorem dX11_saw_248 : decode cX11_saw 248 = .ok (.istore 8, 2) := by decide +kernel
theorem dX11_saw_250 : decode cX11_saw 250 = .ok (.iload 8, 2) := by decide +kernel
theorem dX11_saw_252 : decode cX11_saw 252 = .ok (.sipush 300, 3) := by decide +kernel
theorem dX11_saw_255 : decode cX11_saw 255 = .ok (.if_icmp .ge 51, 3) := by decide +kernel
theorem dX11_saw_258 : decode cX11_saw 258 = .ok (.aload_n 0, 1) := by decide +kernel
theorem dX11_saw_259 : decode cX11_saw 259 = .ok (.getfield 67, 3) := by decide +kernel
theorem dX11_saw_262 : decode cX11_saw 262 = .ok (.iload 8, 2) := by decide +kernel
theorem dX11_saw_264 : decode cX11_saw 264 = .ok (.iload 5, 2) := by decide +kernel
theorem dX11_saw_266 : decode cX11_saw 266 = .ok (.iconst 4, 1) := by decide +kernel
theorem dX11_saw_267 : decode cX11_saw 267 = .ok (.if_icmp .ge 13, 3) := by decide +kernel
theorem dX11_saw_270 : decode cX11_saw 270 = .ok (.aload_n 0, 1) := by decide +kernel
theorem dX11_saw_271 : decode cX11_saw 271 = .ok (.getfield 61, 3) := by decide +kernel
theorem dX11_saw_274 : decode cX11_saw 274 = .ok (.iload 8, 2) := by decide +kernel
theorem dX11_saw_276 : decode cX11_saw 276 = .ok (.iaload, 1) := by decide +kernel
theorem dX11_saw_277 : decode cX11_saw 277 = .ok (.goto 4, 3) := by decide +kernel
theorem dX11_saw_280 : decode cX11_saw 280 = .ok (.iconst (-1), 1) := by decide +kernel
theorem dX11_saw_281 : decode cX11_saw 281 = .ok (.iastore, 1) := by decide +kernel
theorem dX11_saw_282 : decode cX11_saw 282 = .ok (.aload_n 0, 1) := by decide +kernel
theorem dX11_saw_283 : decode cX11_saw 283 = .ok (.getfield 67, 3) := by decide +kernel
theorem dX11_saw_286 : decode cX11_saw 286 = .ok (.sipush 300, 3) := by decide +kernel
theorem dX11_saw_289 : decode cX11_saw 289 = .ok (.iload 8, 2) := by decide +kernel
theorem dX11_saw_291 : decode cX11_saw 291 = .ok (.iadd, 1) := by decide +kernel
theorem dX11_saw_292 : decode cX11_saw 292 = .ok (.aload_n 0, 1) := by decide +kernel
theorem dX11_saw_293 : decode cX11_saw 293 = .ok (.getfield 64, 3) := by decide +kernel
theorem dX11_saw_296 : decode cX11_saw 296 = .ok (.iload 8, 2) := by decide +kernel
theorem dX11_saw_298 : decode cX11_saw 298 = .ok (.iaload, 1) := by decide +kernel
theorem dX11_saw_299 : decode cX11_saw 299 = .ok (.iastore, 1) := by decide +kernel
theorem dX11_saw_300 : decode cX11_saw 300 = .ok (.iinc 8 1, 3) := by decide +kernel
theorem dX11_saw_303 : decode cX11_saw 303 = .ok (.goto (-53), 3) := by decide +kernel
theorem dX11_saw_306 : decode cX11_saw 306 = .ok (.iinc 5 1, 3) := by decide +kernel
theorem dX11_saw_309 : decode cX11_saw 309 = .ok (.goto (-238), 3) := by decide +kernel
theorem dX11_saw_312 : decode cX11_saw 312 = .ok (.aload_n 0, 1) := by decide +kernel
theorem dX11_saw_313 : decode cX11_saw 313 = .ok (.iload 4, 2) := by decide +kernel
theorem dX11_saw_315 : decode cX11_saw 315 = .ok (.invokevirtual 152, 3) := by decide +kernel
theorem dX11_saw_318 : decode cX11_saw 318 = .ok (.iconst 0, 1) := by decide +kernel
theorem dX11_saw_319 : decode cX11_saw 319 = .ok (.istore 5, 2) := by decide +kernel
theorem dX11_saw_321 : decode cX11_saw 321 = .ok (.iload 5, 2) := by decide +kernel
theorem dX11_saw_323 : decode cX11_saw 323 = .ok (.aload_n 0, 1) := by decide +kernel
theorem dX11_saw_324 : decode cX11_saw 324 = .ok (.getfield 155, 3) := by decide +kernel
theorem dX11_saw_327 : decode cX11_saw 327 = .ok (.if_icmp .ge 41, 3) := by decide +kernel
theorem dX11_saw_330 : decode cX11_saw 330 = .ok (.aload_n 0, 1) := by decide +kernel
theorem dX11_saw_331 : decode cX11_saw 331 = .ok (.getfield 55, 3) := by decide +kernel
theorem dX11_saw_334 : decode cX11_saw 334 = .ok (.iconst 4, 1) := by decide +kernel
theorem dX11_saw_335 : decode cX11_saw 335 = .ok (.iload 5, 2) := by decide +kernel
theorem dX11_saw_337 : decode cX11_saw 337 = .ok (.imul, 1) := by decide +kernel
theorem dX11_saw_338 : decode cX11_saw 338 = .ok (.iaload, 1) := by decide +kernel
theorem dX11_saw_339 : decode cX11_saw 339 = .ok (.istore 6, 2) := by decide +kernel
theorem dX11_saw_341 : decode cX11_saw 341 = .ok (.aload_n 0, 1) := by decide +kernel
theorem dX11_saw_342 : decode cX11_saw 342 = .ok (.getfield 43, 3) := by decide +kernel
theorem dX11_saw_345 : decode cX11_saw 345 = .ok (.iload 6, 2) := by decide +kernel
theorem dX11_saw_347 : decode cX11_saw 347 = .ok (.iaload, 1) := by decide +kernel
theorem dX11_saw_348 : decode cX11_saw 348 = .ok (.ifCond .le 14, 3) := by decide +kernel
theorem dX11_saw_351 : decode cX11_saw 351 = .ok (.aload_n 0, 1) := by decide +kernel
theorem dX11_saw_352 : decode cX11_saw 352 = .ok (.getfield 43, 3) := by decide +kernel
theorem dX11_saw_355 : decode cX11_saw 355 = .ok (.iload 6, 2) := by decide +kernel
theorem dX11_saw_357 : decode cX11_saw 357 = .ok (.dup2, 1) := by decide +kernel
theorem dX11_saw_358 : decode cX11_saw 358 = .ok (.iaload, 1) := by decide +kernel
theorem dX11_saw_359 : decode cX11_saw 359 = .ok (.iconst 1, 1) := by decide +kernel
theorem dX11_saw_360 : decode cX11_saw 360 = .ok (.isub, 1) := by decide +kernel
theorem dX11_saw_361 : decode cX11_saw 361 = .ok (.iastore, 1) := by decide +kernel
theorem dX11_saw_362 : decode cX11_saw 362 = .ok (.iinc 5 1, 3) := by decide +kernel
theorem dX11_saw_365 : decode cX11_saw 365 = .ok (.goto (-44), 3) := by decide +kernel
theorem dX11_saw_368 : decode cX11_saw 368 = .ok (.iload_n 3, 1) := by decide +kernel
theorem dX11_saw_369 : decode cX11_saw 369 = .ok (.ireturn, 1) := by decide +kernel
theorem dX11_put_0 : decode cX11_put 0 = .ok (.iconst 4, 1) := by decide +kernel
theorem dX11_put_1 : decode cX11_put 1 = .ok (.aload_n 0, 1) := by decide +kernel
theorem dX11_put_2 : decode cX11_put 2 = .ok (.getfield 155, 3) := by decide +kernel
theorem dX11_put_5 : decode cX11_put 5 = .ok (.imul, 1) := by decide +kernel
theorem dX11_put_6 : decode cX11_put 6 = .ok (.istore 4, 2) := by decide +kernel
theorem dX11_put_8 : decode cX11_put 8 = .ok (.aload_n 0, 1) := by decide +kernel
theorem dX11_put_9 : decode cX11_put 9 = .ok (.getfield 55, 3) := by decide +kernel
theorem dX11_put_12 : decode cX11_put 12 = .ok (.iload 4, 2) := by decide +kernel
theorem dX11_put_14 : decode cX11_put 14 = .ok (.iload_n 1, 1) := by decide +kernel
theorem dX11_put_15 : decode cX11_put 15 = .ok (.iastore, 1) := by decide +kernel
theorem dX11_put_16 : decode cX11_put 16 = .ok (.aload_n 0, 1) := by decide +kernel
theorem dX11_put_17 : decode cX11_put 17 = .ok (.getfield 55, 3) := by decide +kernel
theorem dX11_put_20 : decode cX11_put 20 = .ok (.iload 4, 2) := by decide +kernel
theorem dX11_put_22 : decode cX11_put 22 = .ok (.iconst 1, 1) := by decide +kernel
theorem dX11_put_23 : decode cX11_put 23 = .ok (.iadd, 1) := by decide +kernel
theorem dX11_put_24 : decode cX11_put 24 = .ok (.iload_n 2, 1) := by decide +kernel
theorem dX11_put_25 : decode cX11_put 25 = .ok (.iastore, 1) := by decide +kernel
theorem dX11_put_26 : decode cX11_put 26 = .ok (.aload_n 0, 1) := by decide +kernel
theorem dX11_put_27 : decode cX11_put 27 = .ok (.getfield 55, 3) := by decide +kernel
theorem dX11_put_30 : decode cX11_put 30 = .ok (.iload 4, 2) := by decide +kernel
theorem dX11_put_32 : decode cX11_put 32 = .ok (.iconst 2, 1) := by decide +kernel
theorem dX11_put_33 : decode cX11_put 33 = .ok (.iadd, 1) := by decide +kernel
theorem dX11_put_34 : decode cX11_put 34 = .ok (.iload_n 3, 1) := by decide +kernel
theorem dX11_put_35 : decode cX11_put 35 = .ok (.iastore, 1) := by decide +kernel
theorem dX11_put_36 : decode cX11_put 36 = .ok (.aload_n 0, 1) := by decide +kernel
theorem dX11_put_37 : decode cX11_put 37 = .ok (.getfield 55, 3) := by decide +kernel
theorem dX11_put_40 : decode cX11_put 40 = .ok (.iload 4, 2) := by decide +kernel
theorem dX11_put_42 : decode cX11_put 42 = .ok (.iconst 3, 1) := by decide +kernel
theorem dX11_put_43 : decode cX11_put 43 = .ok (.iadd, 1) := by decide +kernel
theorem dX11_put_44 : decode cX11_put 44 = .ok (.aload_n 0, 1) := by decide +kernel
theorem dX11_put_45 : decode cX11_put 45 = .ok (.getfield 58, 3) := by decide +kernel
theorem dX11_put_48 : decode cX11_put 48 = .ok (.iload_n 1, 1) := by decide +kernel
theorem dX11_put_49 : decode cX11_put 49 = .ok (.iaload, 1) := by decide +kernel
theorem dX11_put_50 : decode cX11_put 50 = .ok (.iastore, 1) := by decide +kernel
theorem dX11_put_51 : decode cX11_put 51 = .ok (.aload_n 0, 1) := by decide +kernel
theorem dX11_put_52 : decode cX11_put 52 = .ok (.dup, 1) := by decide +kernel
theorem dX11_put_53 : decode cX11_put 53 = .ok (.getfield 155, 3) := by decide +kernel
theorem dX11_put_56 : decode cX11_put 56 = .ok (.iconst 1, 1) := by decide +kernel
theorem dX11_put_57 : decode cX11_put 57 = .ok (.iadd, 1) := by decide +kernel
theorem dX11_put_58 : decode cX11_put 58 = .ok (.putfield 155, 3) := by decide +kernel
theorem dX11_put_61 : decode cX11_put 61 = .ok (.return_, 1) := by decide +kernel
theorem dX11_lay_0 : decode cX11_lay 0 = .ok (.aload_n 0, 1) := by decide +kernel
theorem dX11_lay_1 : decode cX11_lay 1 = .ok (.iconst 0, 1) := by decide +kernel
theorem dX11_lay_2 : decode cX11_lay 2 = .ok (.putfield 155, 3) := by decide +kernel
theorem dX11_lay_5 : decode cX11_lay 5 = .ok (.aload_n 0, 1) := by decide +kernel
theorem dX11_lay_6 : decode cX11_lay 6 = .ok (.iload_n 1, 1) := by decide +kernel
theorem dX11_lay_7 : decode cX11_lay 7 = .ok (.iconst 4, 1) := by decide +kernel
theorem dX11_lay_8 : decode cX11_lay 8 = .ok (.if_icmp .ge 12, 3) := by decide +kernel
theorem dX11_lay_11 : decode cX11_lay 11 = .ok (.aload_n 0, 1) := by decide +kernel
theorem dX11_lay_12 : decode cX11_lay 12 = .ok (.getfield 46, 3) := by decide +kernel
theorem dX11_lay_15 : decode cX11_lay 15 = .ok (.iload_n 1, 1) := by decide +kernel
theorem dX11_lay_16 : decode cX11_lay 16 = .ok (.iaload, 1) := by decide +kernel
theorem dX11_lay_17 : decode cX11_lay 17 = .ok (.goto 4, 3) := by decide +kernel
theorem dX11_lay_20 : decode cX11_lay 20 = .ok (.iconst (-1), 1) := by decide +kernel
theorem dX11_lay_21 : decode cX11_lay 21 = .ok (.putfield 81, 3) := by decide +kernel
theorem dX11_lay_24 : decode cX11_lay 24 = .ok (.iconst 0, 1) := by decide +kernel
theorem dX11_lay_25 : decode cX11_lay 25 = .ok (.istore_n 2, 1) := by decide +kernel
theorem dX11_lay_26 : decode cX11_lay 26 = .ok (.iconst 0, 1) := by decide +kernel
theorem dX11_lay_27 : decode cX11_lay 27 = .ok (.istore_n 3, 1) := by decide +kernel
theorem dX11_lay_28 : decode cX11_lay 28 = .ok (.aload_n 0, 1) := by decide +kernel
theorem dX11_lay_29 : decode cX11_lay 29 = .ok (.getfield 67, 3) := by decide +kernel
theorem dX11_lay_32 : decode cX11_lay 32 = .ok (.iload_n 3, 1) := by decide +kernel
theorem dX11_lay_33 : decode cX11_lay 33 = .ok (.iaload, 1) := by decide +kernel
theorem dX11_lay_34 : decode cX11_lay 34 = .ok (.ifCond .lt 40, 3) := by decide +kernel
theorem dX11_lay_37 : decode cX11_lay 37 = .ok (.aload_n 0, 1) := by decide +kernel
theorem dX11_lay_38 : decode cX11_lay 38 = .ok (.aload_n 0, 1) := by decide +kernel
theorem dX11_lay_39 : decode cX11_lay 39 = .ok (.getfield 67, 3) := by decide +kernel
theorem dX11_lay_42 : decode cX11_lay 42 = .ok (.iload_n 3, 1) := by decide +kernel
theorem dX11_lay_43 : decode cX11_lay 43 = .ok (.iaload, 1) := by decide +kernel
theorem dX11_lay_44 : decode cX11_lay 44 = .ok (.iconst 0, 1) := by decide +kernel
theorem dX11_lay_45 : decode cX11_lay 45 = .ok (.iload_n 2, 1) := by decide +kernel
theorem dX11_lay_46 : decode cX11_lay 46 = .ok (.invokevirtual 158, 3) := by decide +kernel
theorem dX11_lay_49 : decode cX11_lay 49 = .ok (.iload_n 2, 1) := by decide +kernel
theorem dX11_lay_50 : decode cX11_lay 50 = .ok (.aload_n 0, 1) := by decide +kernel
theorem dX11_lay_51 : decode cX11_lay 51 = .ok (.getfield 34, 3) := by decide +kernel
theorem dX11_lay_54 : decode cX11_lay 54 = .ok (.aload_n 0, 1) := by decide +kernel
theorem dX11_lay_55 : decode cX11_lay 55 = .ok (.getfield 67, 3) := by decide +kernel
theorem dX11_lay_58 : decode cX11_lay 58 = .ok (.iload_n 3, 1) := by decide +kernel
theorem dX11_lay_59 : decode cX11_lay 59 = .ok (.iaload, 1) := by decide +kernel
theorem dX11_lay_60 : decode cX11_lay 60 = .ok (.iaload, 1) := by decide +kernel
theorem dX11_lay_61 : decode cX11_lay 61 = .ok (.aload_n 0, 1) := by decide +kernel
theorem dX11_lay_62 : decode cX11_lay 62 = .ok (.getfield 121, 3) := by decide +kernel
theorem dX11_lay_65 : decode cX11_lay 65 = .ok (.iadd, 1) := by decide +kernel
theorem dX11_lay_66 : decode cX11_lay 66 = .ok (.iadd, 1) := by decide +kernel
theorem dX11_lay_67 : decode cX11_lay 67 = .ok (.istore_n 2, 1) := by decide +kernel
theorem dX11_lay_68 : decode cX11_lay 68 = .ok (.iinc 3 1, 3) := by decide +kernel
theorem dX11_lay_71 : decode cX11_lay 71 = .ok (.goto (-43), 3) := by decide +kernel
theorem dX11_lay_74 : decode cX11_lay 74 = .ok (.iconst 1, 1) := by decide +kernel
theorem dX11_lay_75 : decode cX11_lay 75 = .ok (.istore_n 3, 1) := by decide +kernel
theorem dX11_lay_76 : decode cX11_lay 76 = .ok (.iload_n 3, 1) := by decide +kernel
theorem dX11_lay_77 : decode cX11_lay 77 = .ok (.iload_n 1, 1) := by decide +kernel
theorem dX11_lay_78 : decode cX11_lay 78 = .ok (.iconst 4, 1) := by decide +kernel
theorem dX11_lay_79 : decode cX11_lay 79 = .ok (.if_icmp .ge 7, 3) := by decide +kernel
theorem dX11_lay_82 : decode cX11_lay 82 = .ok (.iconst 3, 1) := by decide +kernel
theorem dX11_lay_83 : decode cX11_lay 83 = .ok (.goto 4, 3) := by decide +kernel
theorem dX11_lay_86 : decode cX11_lay 86 = .ok (.iconst 2, 1) := by decide +kernel
theorem dX11_lay_87 : decode cX11_lay 87 = .ok (.if_icmp .ge 96, 3) := by decide +kernel
theorem dX11_lay_90 : decode cX11_lay 90 = .ok (.iload_n 1, 1) := by decide +kernel
theorem dX11_lay_91 : decode cX11_lay 91 = .ok (.iconst 4, 1) := by decide +kernel
theorem dX11_lay_92 : decode cX11_lay 92 = .ok (.if_icmp .ge 12, 3) := by decide +kernel
theorem dX11_lay_95 : decode cX11_lay 95 = .ok (.aload_n 0, 1) := by decide +kernel
theorem dX11_lay_96 : decode cX11_lay 96 = .ok (.getfield 46, 3) := by decide +kernel
theorem dX11_lay_99 : decode cX11_lay 99 = .ok (.iload_n 1, 1) := by decide +kernel
theorem dX11_lay_100 : decode cX11_lay 100 = .ok (.iaload, 1) := by decide +kernel
theorem dX11_lay_101 : decode cX11_lay 101 = .ok (.goto 4, 3) := by decide +kernel
theorem dX11_lay_104 : decode cX11_lay 104 = .ok (.iconst 0, 1) := by decide +kernel
theorem dX11_lay_105 : decode cX11_lay 105 = .ok (.istore 4, 2) := by decide +kernel
theorem dX11_lay_107 : decode cX11_lay 107 = .ok (.sipush 300, 3) := by decide +kernel
theorem dX11_lay_110 : decode cX11_lay 110 = .ok (.istore 5, 2) := by decide +kernel
theorem dX11_lay_112 : decode cX11_lay 112 = .ok (.aload_n 0, 1) := by decide +kernel
theorem dX11_lay_113 : decode cX11_lay 113 = .ok (.getfield 67, 3) := by decide +kernel
theorem dX11_lay_116 : decode cX11_lay 116 = .ok (.iload 5, 2) := by decide +kernel
theorem dX11_lay_118 : decode cX11_lay 118 = .ok (.iaload, 1) := by decide +kernel
theorem dX11_lay_119 : decode cX11_lay 119 = .ok (.ifCond .lt 58, 3) := by decide +kernel
theorem dX11_lay_122 : decode cX11_lay 122 = .ok (.iload 4, 2) := by decide +kernel
theorem dX11_lay_124 : decode cX11_lay 124 = .ok (.iconst 2, 1) := by decide +kernel
theorem dX11_lay_125 : decode cX11_lay 125 = .ok (.aload_n 0, 1) := by decide +kernel
theorem dX11_lay_126 : decode cX11_lay 126 = .ok (.getfield 34, 3) := by decide +kernel
theorem dX11_lay_129 : decode cX11_lay 129 = .ok (.aload_n 0, 1) := by decide +kernel
theorem dX11_lay_130 : decode cX11_lay 130 = .ok (.getfield 67, 3) := by decide +kernel
theorem dX11_lay_133 : decode cX11_lay 133 = .ok (.iload 5, 2) := by decide +kernel
theorem dX11_lay_135 : decode cX11_lay 135 = .ok (.iaload, 1) := by decide +kernel
theorem dX11_lay_136 : decode cX11_lay 136 = .ok (.iaload, 1) := by decide +kernel
theorem dX11_lay_137 : decode cX11_lay 137 = .ok (.imul, 1) := by decide +kernel
theorem dX11_lay_138 : decode cX11_lay 138 = .ok (.iload 4, 2) := by decide +kernel
theorem dX11_lay_140 : decode cX11_lay 140 = .ok (.ifCond .ne 7, 3) := by decide +kernel
theorem dX11_lay_143 : decode cX11_lay 143 = .ok (.iconst 0, 1) := by decide +kernel
theorem dX11_lay_144 : decode cX11_lay 144 = .ok (.goto 9, 3) := by decide +kernel
theorem dX11_lay_147 : decode cX11_lay 147 = .ok (.iconst 2, 1) := by decide +kernel
theorem dX11_lay_148 : decode cX11_lay 148 = .ok (.aload_n 0, 1) := by decide +kernel
theorem dX11_lay_149 : decode cX11_lay 149 = .ok (.getfield 121, 3) := by decide +kernel
theorem dX11_lay_152 : decode cX11_lay 152 = .ok (.imul, 1) := by decide +kernel
theorem dX11_lay_153 : decode cX11_lay 153 = .ok (.iadd, 1) := by decide +kernel
theorem dX11_lay_154 : decode cX11_lay 154 = .ok (.iadd, 1) := by decide +kernel
theorem dX11_lay_155 : decode cX11_lay 155 = .ok (.istore 4, 2) := by decide +kernel
theorem dX11_lay_157 : decode cX11_lay 157 = .ok (.aload_n 0, 1) := by decide +kernel
theorem dX11_lay_158 : decode cX11_lay 158 = .ok (.aload_n 0, 1) := by decide +kernel
theorem dX11_lay_159 : decode cX11_lay 159 = .ok (.getfield 67, 3) := by decide +kernel
theorem dX11_lay_162 : decode cX11_lay 162 = .ok (.iload 5, 2) := by decide +kernel
theorem dX11_lay_164 : decode cX11_lay 164 = .ok (.iaload, 1) := by decide +kernel
theorem dX11_lay_165 : decode cX11_lay 165 = .ok (.iload_n 3, 1) := by decide +kernel
theorem dX11_lay_166 : decode cX11_lay 166 = .ok (.iload 4, 2) := by decide +kernel
theorem dX11_lay_168 : decode cX11_lay 168 = .ok (.invokevirtual 158, 3) := by decide +kernel
theorem dX11_lay_171 : decode cX11_lay 171 = .ok (.iinc 5 1, 3) := by decide +kernel
theorem dX11_lay_174 : decode cX11_lay 174 = .ok (.goto (-62), 3) := by decide +kernel
theorem dX11_lay_177 : decode cX11_lay 177 = .ok (.iinc 3 1, 3) := by decide +kernel
theorem dX11_lay_180 : decode cX11_lay 180 = .ok (.goto (-104), 3) := by decide +kernel
theorem dX11_lay_183 : decode cX11_lay 183 = .ok (.return_, 1) := by decide +kernel
theorem dX11_boards_0 : decode cX11_boards 0 = .ok (.aload_n 0, 1) := by decide +kernel
theorem dX11_boards_1 : decode cX11_boards 1 = .ok (.iconst 0, 1) := by decide +kernel
theorem dX11_boards_2 : decode cX11_boards 2 = .ok (.putfield 84, 3) := by decide +kernel
theorem dX11_boards_5 : decode cX11_boards 5 = .ok (.aload_n 0, 1) := by decide +kernel
theorem dX11_boards_6 : decode cX11_boards 6 = .ok (.getfield 155, 3) := by decide +kernel
theorem dX11_boards_9 : decode cX11_boards 9 = .ok (.ireturn, 1) := by decide +kernel
theorem dX11_board_0 : decode cX11_board 0 = .ok (.aload_n 0, 1) := by decide +kernel
theorem dX11_board_1 : decode cX11_board 1 = .ok (.iload_n 1, 1) := by decide +kernel
theorem dX11_board_2 : decode cX11_board 2 = .ok (.iconst 0, 1) := by decide +kernel
theorem dX11_board_3 : decode cX11_board 3 = .ok (.aload_n 0, 1) := by decide +kernel
theorem dX11_board_4 : decode cX11_board 4 = .ok (.getfield 155, 3) := by decide +kernel
theorem dX11_board_7 : decode cX11_board 7 = .ok (.iconst 1, 1) := by decide +kernel
theorem dX11_board_8 : decode cX11_board 8 = .ok (.isub, 1) := by decide +kernel
theorem dX11_board_9 : decode cX11_board 9 = .ok (.invokestatic 87, 3) := by decide +kernel
theorem dX11_board_12 : decode cX11_board 12 = .ok (.ifCond .eq 16, 3) := by decide +kernel
theorem dX11_board_15 : decode cX11_board 15 = .ok (.iload_n 2, 1) := by decide +kernel
theorem dX11_board_16 : decode cX11_board 16 = .ok (.iconst 0, 1) := by decide +kernel
theorem dX11_board_17 : decode cX11_board 17 = .ok (.iconst 3, 1) := by decide +kernel
theorem dX11_board_18 : decode cX11_board 18 = .ok (.invokestatic 87, 3) := by decide +kernel
theorem dX11_board_21 : decode cX11_board 21 = .ok (.ifCond .eq 7, 3) := by decide +kernel
theorem dX11_board_24 : decode cX11_board 24 = .ok (.iconst 0, 1) := by decide +kernel
theorem dX11_board_25 : decode cX11_board 25 = .ok (.goto 4, 3) := by decide +kernel
theorem dX11_board_28 : decode cX11_board 28 = .ok (.iconst 1, 1) := by decide +kernel
theorem dX11_board_29 : decode cX11_board 29 = .ok (.putfield 84, 3) := by decide +kernel
theorem dX11_board_32 : decode cX11_board 32 = .ok (.aload_n 0, 1) := by decide +kernel
theorem dX11_board_33 : decode cX11_board 33 = .ok (.getfield 84, 3) := by decide +kernel
theorem dX11_board_36 : decode cX11_board 36 = .ok (.iconst 1, 1) := by decide +kernel
theorem dX11_board_37 : decode cX11_board 37 = .ok (.if_icmp .ne 7, 3) := by decide +kernel
theorem dX11_board_40 : decode cX11_board 40 = .ok (.iconst 0, 1) := by decide +kernel
theorem dX11_board_41 : decode cX11_board 41 = .ok (.goto 13, 3) := by decide +kernel
theorem dX11_board_44 : decode cX11_board 44 = .ok (.aload_n 0, 1) := by decide +kernel
theorem dX11_board_45 : decode cX11_board 45 = .ok (.getfield 55, 3) := by decide +kernel
theorem dX11_board_48 : decode cX11_board 48 = .ok (.iconst 4, 1) := by decide +kernel
theorem dX11_board_49 : decode cX11_board 49 = .ok (.iload_n 1, 1) := by decide +kernel
theorem dX11_board_50 : decode cX11_board 50 = .ok (.imul, 1) := by decide +kernel
theorem dX11_board_51 : decode cX11_board 51 = .ok (.iload_n 2, 1) := by decide +kernel
theorem dX11_board_52 : decode cX11_board 52 = .ok (.iadd, 1) := by decide +kernel
theorem dX11_board_53 : decode cX11_board 53 = .ok (.iaload, 1) := by decide +kernel
theorem dX11_board_54 : decode cX11_board 54 = .ok (.ireturn, 1) := by decide +kernel
theorem dX11_cant_0 : decode cX11_cant 0 = .ok (.aload_n 0, 1) := by decide +kernel
theorem dX11_cant_1 : decode cX11_cant 1 = .ok (.iconst 0, 1) := by decide +kernel
theorem dX11_cant_2 : decode cX11_cant 2 = .ok (.putfield 84, 3) := by decide +kernel
theorem dX11_cant_5 : decode cX11_cant 5 = .ok (.aload_n 0, 1) := by decide +kernel
theorem dX11_cant_6 : decode cX11_cant 6 = .ok (.getfield 81, 3) := by decide +kernel
theorem dX11_cant_9 : decode cX11_cant 9 = .ok (.ireturn, 1) := by decide +kernel
theorem dX11_fits_0 : decode cX11_fits 0 = .ok (.aload_n 0, 1) := by decide +kernel
theorem dX11_fits_1 : decode cX11_fits 1 = .ok (.iconst 0, 1) := by decide +kernel
theorem dX11_fits_2 : decode cX11_fits 2 = .ok (.putfield 84, 3) := by decide +kernel
theorem dX11_fits_5 : decode cX11_fits 5 = .ok (.iload_n 1, 1) := by decide +kernel
theorem dX11_fits_6 : decode cX11_fits 6 = .ok (.iconst 0, 1) := by decide +kernel
theorem dX11_fits_7 : decode cX11_fits 7 = .ok (.iconst 5, 1) := by decide +kernel
theorem dX11_fits_8 : decode cX11_fits 8 = .ok (.invokestatic 87, 3) := by decide +kernel
theorem dX11_fits_11 : decode cX11_fits 11 = .ok (.ifCond .eq 35, 3) := by decide +kernel
theorem dX11_fits_14 : decode cX11_fits 14 = .ok (.aload_n 0, 1) := by decide +kernel
theorem dX11_fits_15 : decode cX11_fits 15 = .ok (.getfield 34, 3) := by decide +kernel
theorem dX11_fits_18 : decode cX11_fits 18 = .ok (.iload_n 1, 1) := by decide +kernel
theorem dX11_fits_19 : decode cX11_fits 19 = .ok (.iaload, 1) := by decide +kernel
theorem dX11_fits_20 : decode cX11_fits 20 = .ok (.ifCond .eq 26, 3) := by decide +kernel
theorem dX11_fits_23 : decode cX11_fits 23 = .ok (.iload_n 2, 1) := by decide +kernel
theorem dX11_fits_24 : decode cX11_fits 24 = .ok (.iconst 1, 1) := by decide +kernel
theorem dX11_fits_25 : decode cX11_fits 25 = .ok (.sipush 200, 3) := by decide +kernel
theorem dX11_fits_28 : decode cX11_fits 28 = .ok (.invokestatic 87, 3) := by decide +kernel
theorem dX11_fits_31 : decode cX11_fits 31 = .ok (.ifCond .eq 15, 3) := by decide +kernel
theorem dX11_fits_34 : decode cX11_fits 34 = .ok (.iload_n 3, 1) := by decide +kernel
theorem dX11_fits_35 : decode cX11_fits 35 = .ok (.bipush 50, 2) := by decide +kernel
theorem dX11_fits_37 : decode cX11_fits 37 = .ok (.sipush 900, 3) := by decide +kernel
theorem dX11_fits_40 : decode cX11_fits 40 = .ok (.invokestatic 87, 3) := by decide +kernel
theorem dX11_fits_43 : decode cX11_fits 43 = .ok (.ifCond .ne 5, 3) := by decide +kernel
theorem dX11_fits_46 : decode cX11_fits 46 = .ok (.iconst 0, 1) := by decide +kernel
theorem dX11_fits_47 : decode cX11_fits 47 = .ok (.ireturn, 1) := by decide +kernel
theorem dX11_fits_48 : decode cX11_fits 48 = .ok (.iload_n 2, 1) := by decide +kernel
theorem dX11_fits_49 : decode cX11_fits 49 = .ok (.i2l, 1) := by decide +kernel
theorem dX11_fits_50 : decode cX11_fits 50 = .ok (.aload_n 0, 1) := by decide +kernel
theorem dX11_fits_51 : decode cX11_fits 51 = .ok (.getfield 34, 3) := by decide +kernel
theorem dX11_fits_54 : decode cX11_fits 54 = .ok (.iload_n 1, 1) := by decide +kernel
theorem dX11_fits_55 : decode cX11_fits 55 = .ok (.iaload, 1) := by decide +kernel
theorem dX11_fits_56 : decode cX11_fits 56 = .ok (.i2l, 1) := by decide +kernel
theorem dX11_fits_57 : decode cX11_fits 57 = .ok (.lmul, 1) := by decide +kernel
theorem dX11_fits_58 : decode cX11_fits 58 = .ok (.iload_n 2, 1) := by decide +kernel
theorem dX11_fits_59 : decode cX11_fits 59 = .ok (.iconst 1, 1) := by decide +kernel
theorem dX11_fits_60 : decode cX11_fits 60 = .ok (.isub, 1) := by decide +kernel
theorem dX11_fits_61 : decode cX11_fits 61 = .ok (.i2l, 1) := by decide +kernel
theorem dX11_fits_62 : decode cX11_fits 62 = .ok (.aload_n 0, 1) := by decide +kernel
theorem dX11_fits_63 : decode cX11_fits 63 = .ok (.getfield 121, 3) := by decide +kernel
theorem dX11_fits_66 : decode cX11_fits 66 = .ok (.i2l, 1) := by decide +kernel
theorem dX11_fits_67 : decode cX11_fits 67 = .ok (.lmul, 1) := by decide +kernel
theorem dX11_fits_68 : decode cX11_fits 68 = .ok (.ladd, 1) := by decide +kernel
theorem dX11_fits_69 : decode cX11_fits 69 = .ok (.lstore 4, 2) := by decide +kernel
theorem dX11_fits_71 : decode cX11_fits 71 = .ok (.ldc2_w 162, 3) := by decide +kernel
theorem dX11_fits_74 : decode cX11_fits 74 = .ok (.iload_n 3, 1) := by decide +kernel
theorem dX11_fits_75 : decode cX11_fits 75 = .ok (.i2l, 1) := by decide +kernel
theorem dX11_fits_76 : decode cX11_fits 76 = .ok (.lmul, 1) := by decide +kernel
theorem dX11_fits_77 : decode cX11_fits 77 = .ok (.lstore 6, 2) := by decide +kernel
theorem dX11_fits_79 : decode cX11_fits 79 = .ok (.lload 4, 2) := by decide +kernel
theorem dX11_fits_81 : decode cX11_fits 81 = .ok (.lload 4, 2) := by decide +kernel
theorem dX11_fits_83 : decode cX11_fits 83 = .ok (.lmul, 1) := by decide +kernel
theorem dX11_fits_84 : decode cX11_fits 84 = .ok (.aload_n 0, 1) := by decide +kernel
theorem dX11_fits_85 : decode cX11_fits 85 = .ok (.getfield 37, 3) := by decide +kernel
theorem dX11_fits_88 : decode cX11_fits 88 = .ok (.iload_n 1, 1) := by decide +kernel
theorem dX11_fits_89 : decode cX11_fits 89 = .ok (.iaload, 1) := by decide +kernel
theorem dX11_fits_90 : decode cX11_fits 90 = .ok (.i2l, 1) := by decide +kernel
theorem dX11_fits_91 : decode cX11_fits 91 = .ok (.aload_n 0, 1) := by decide +kernel
theorem dX11_fits_92 : decode cX11_fits 92 = .ok (.getfield 37, 3) := by decide +kernel
theorem dX11_fits_95 : decode cX11_fits 95 = .ok (.iload_n 1, 1) := by decide +kernel
theorem dX11_fits_96 : decode cX11_fits 96 = .ok (.iaload, 1) := by decide +kernel
theorem dX11_fits_97 : decode cX11_fits 97 = .ok (.i2l, 1) := by decide +kernel
theorem dX11_fits_98 : decode cX11_fits 98 = .ok (.lmul, 1) := by decide +kernel
theorem dX11_fits_99 : decode cX11_fits 99 = .ok (.ladd, 1) := by decide +kernel
theorem dX11_fits_100 : decode cX11_fits 100 = .ok (.lload 6, 2) := by decide +kernel
theorem dX11_fits_102 : decode cX11_fits 102 = .ok (.lload 6, 2) := by decide +kernel
theorem dX11_fits_104 : decode cX11_fits 104 = .ok (.lmul, 1) := by decide +kernel
theorem dX11_fits_105 : decode cX11_fits 105 = .ok (.lcmp, 1) := by decide +kernel
theorem dX11_fits_106 : decode cX11_fits 106 = .ok (.ifCond .gt 7, 3) := by decide +kernel
theorem dX11_fits_109 : decode cX11_fits 109 = .ok (.iconst 1, 1) := by decide +kernel
theorem dX11_fits_110 : decode cX11_fits 110 = .ok (.goto 4, 3) := by decide +kernel
theorem dX11_fits_113 : decode cX11_fits 113 = .ok (.iconst 0, 1) := by decide +kernel
theorem dX11_fits_114 : decode cX11_fits 114 = .ok (.ireturn, 1) := by decide +kernel
end
section
theorem dL_cell_0 : decode cL_cell 0 = .ok (.iload_n 1, 1) := by decide +kernel
theorem dL_cell_1 : decode cL_cell 1 = .ok (.aload_n 0, 1) := by decide +kernel
theorem dL_cell_2 : decode cL_cell 2 = .ok (.arraylength, 1) := by decide +kernel
theorem dL_cell_3 : decode cL_cell 3 = .ok (.if_icmp .ge 9, 3) := by decide +kernel
theorem dL_cell_6 : decode cL_cell 6 = .ok (.aload_n 0, 1) := by decide +kernel
theorem dL_cell_7 : decode cL_cell 7 = .ok (.iload_n 1, 1) := by decide +kernel
theorem dL_cell_8 : decode cL_cell 8 = .ok (.iaload, 1) := by decide +kernel
theorem dL_cell_9 : decode cL_cell 9 = .ok (.goto 4, 3) := by decide +kernel
theorem dL_cell_12 : decode cL_cell 12 = .ok (.iconst 0, 1) := by decide +kernel
theorem dL_cell_13 : decode cL_cell 13 = .ok (.ireturn, 1) := by decide +kernel
theorem dL_log_0 : decode cL_log 0 = .ok (.aload_n 3, 1) := by decide +kernel
theorem dL_log_1 : decode cL_log 1 = .ok (.iconst 0, 1) := by decide +kernel
theorem dL_log_2 : decode cL_log 2 = .ok (.aload_n 0, 1) := by decide +kernel
theorem dL_log_3 : decode cL_log 3 = .ok (.iload_n 1, 1) := by decide +kernel
theorem dL_log_4 : decode cL_log 4 = .ok (.iload_n 2, 1) := by decide +kernel
theorem dL_log_5 : decode cL_log 5 = .ok (.invokevirtual 7, 3) := by decide +kernel
theorem dL_log_8 : decode cL_log 8 = .ok (.i2l, 1) := by decide +kernel
theorem dL_log_9 : decode cL_log 9 = .ok (.lastore, 1) := by decide +kernel
theorem dL_log_10 : decode cL_log 10 = .ok (.goto 7, 3) := by decide +kernel
theorem dL_log_13 : decode cL_log 13 = .ok (.astore 4, 2) := by decide +kernel
theorem dL_log_15 : decode cL_log 15 = .ok (.iconst 1, 1) := by decide +kernel
theorem dL_log_16 : decode cL_log 16 = .ok (.ireturn, 1) := by decide +kernel
theorem dL_log_17 : decode cL_log 17 = .ok (.iconst 0, 1) := by decide +kernel
theorem dL_log_18 : decode cL_log 18 = .ok (.ireturn, 1) := by decide +kernel
theorem dL_saw_0 : decode cL_saw 0 = .ok (.aload_n 2, 1) := by decide +kernel
theorem dL_saw_1 : decode cL_saw 1 = .ok (.iconst 0, 1) := by decide +kernel
theorem dL_saw_2 : decode cL_saw 2 = .ok (.aload_n 0, 1) := by decide +kernel
theorem dL_saw_3 : decode cL_saw 3 = .ok (.iload_n 1, 1) := by decide +kernel
theorem dL_saw_4 : decode cL_saw 4 = .ok (.invokevirtual 15, 3) := by decide +kernel
theorem dL_saw_7 : decode cL_saw 7 = .ok (.i2l, 1) := by decide +kernel
theorem dL_saw_8 : decode cL_saw 8 = .ok (.lastore, 1) := by decide +kernel
theorem dL_saw_9 : decode cL_saw 9 = .ok (.goto 6, 3) := by decide +kernel
theorem dL_saw_12 : decode cL_saw 12 = .ok (.astore_n 3, 1) := by decide +kernel
theorem dL_saw_13 : decode cL_saw 13 = .ok (.iconst 1, 1) := by decide +kernel
theorem dL_saw_14 : decode cL_saw 14 = .ok (.ireturn, 1) := by decide +kernel
theorem dL_saw_15 : decode cL_saw 15 = .ok (.iconst 0, 1) := by decide +kernel
theorem dL_saw_16 : decode cL_saw 16 = .ok (.ireturn, 1) := by decide +kernel
theorem dL_board_0 : decode cL_board 0 = .ok (.aload_n 3, 1) := by decide +kernel
theorem dL_board_1 : decode cL_board 1 = .ok (.iconst 0, 1) := by decide +kernel
theorem dL_board_2 : decode cL_board 2 = .ok (.aload_n 0, 1) := by decide +kernel
theorem dL_board_3 : decode cL_board 3 = .ok (.iload_n 1, 1) := by decide +kernel
theorem dL_board_4 : decode cL_board 4 = .ok (.iload_n 2, 1) := by decide +kernel
theorem dL_board_5 : decode cL_board 5 = .ok (.invokevirtual 19, 3) := by decide +kernel
theorem dL_board_8 : decode cL_board 8 = .ok (.i2l, 1) := by decide +kernel
theorem dL_board_9 : decode cL_board 9 = .ok (.lastore, 1) := by decide +kernel
theorem dL_board_10 : decode cL_board 10 = .ok (.goto 7, 3) := by decide +kernel
theorem dL_board_13 : decode cL_board 13 = .ok (.astore 4, 2) := by decide +kernel
theorem dL_board_15 : decode cL_board 15 = .ok (.iconst 1, 1) := by decide +kernel
theorem dL_board_16 : decode cL_board 16 = .ok (.ireturn, 1) := by decide +kernel
theorem dL_board_17 : decode cL_board 17 = .ok (.iconst 0, 1) := by decide +kernel
theorem dL_board_18 : decode cL_board 18 = .ok (.ireturn, 1) := by decide +kernel
theorem dL_law_0 : decode cL_law 0 = .ok (.new 8, 3) := by decide +kernel
theorem dL_law_3 : decode cL_law 3 = .ok (.dup, 1) := by decide +kernel
theorem dL_law_4 : decode cL_law 4 = .ok (.aload_n 0, 1) := by decide +kernel
theorem dL_law_5 : decode cL_law 5 = .ok (.iconst 0, 1) := by decide +kernel
theorem dL_law_6 : decode cL_law 6 = .ok (.invokestatic 22, 3) := by decide +kernel
theorem dL_law_9 : decode cL_law 9 = .ok (.invokespecial 28, 3) := by decide +kernel
theorem dL_law_12 : decode cL_law 12 = .ok (.astore_n 1, 1) := by decide +kernel
theorem dL_law_13 : decode cL_law 13 = .ok (.new 31, 3) := by decide +kernel
theorem dL_law_16 : decode cL_law 16 = .ok (.dup, 1) := by decide +kernel
theorem dL_law_17 : decode cL_law 17 = .ok (.aload_n 0, 1) := by decide +kernel
theorem dL_law_18 : decode cL_law 18 = .ok (.iconst 0, 1) := by decide +kernel
theorem dL_law_19 : decode cL_law 19 = .ok (.invokestatic 22, 3) := by decide +kernel
theorem dL_law_22 : decode cL_law 22 = .ok (.invokespecial 33, 3) := by decide +kernel
theorem dL_law_25 : decode cL_law 25 = .ok (.astore_n 2, 1) := by decide +kernel
theorem dL_law_26 : decode cL_law 26 = .ok (.iconst 1, 1) := by decide +kernel
theorem dL_law_27 : decode cL_law 27 = .ok (.newarray .long, 2) := by decide +kernel
theorem dL_law_29 : decode cL_law 29 = .ok (.astore_n 3, 1) := by decide +kernel
theorem dL_law_30 : decode cL_law 30 = .ok (.iconst 1, 1) := by decide +kernel
theorem dL_law_31 : decode cL_law 31 = .ok (.istore 4, 2) := by decide +kernel
theorem dL_law_33 : decode cL_law 33 = .ok (.iload 4, 2) := by decide +kernel
theorem dL_law_35 : decode cL_law 35 = .ok (.aload_n 0, 1) := by decide +kernel
theorem dL_law_36 : decode cL_law 36 = .ok (.arraylength, 1) := by decide +kernel
theorem dL_law_37 : decode cL_law 37 = .ok (.iconst 5, 1) := by decide +kernel
theorem dL_law_38 : decode cL_law 38 = .ok (.isub, 1) := by decide +kernel
theorem dL_law_39 : decode cL_law 39 = .ok (.if_icmp .gt 928, 3) := by decide +kernel
theorem dL_law_42 : decode cL_law 42 = .ok (.aload_n 0, 1) := by decide +kernel
theorem dL_law_43 : decode cL_law 43 = .ok (.iload 4, 2) := by decide +kernel
theorem dL_law_45 : decode cL_law 45 = .ok (.iaload, 1) := by decide +kernel
theorem dL_law_46 : decode cL_law 46 = .ok (.bipush 31, 2) := by decide +kernel
theorem dL_law_48 : decode cL_law 48 = .ok (.iand, 1) := by decide +kernel
theorem dL_law_49 : decode cL_law 49 = .ok (.tableswitch 912 0 19 #[95, 132, 181, 230, 291, 304, 361, 374, 442, 491, 540, 577, 602, 639, 688, 713, 769, 782, 850, 863], 95) := by decide +kernel
theorem dL_law_144 : decode cL_law 144 = .ok (.aload_n 1, 1) := by decide +kernel
theorem dL_law_145 : decode cL_law 145 = .ok (.aload_n 0, 1) := by decide +kernel
theorem dL_law_146 : decode cL_law 146 = .ok (.iload 4, 2) := by decide +kernel
theorem dL_law_148 : decode cL_law 148 = .ok (.iconst 1, 1) := by decide +kernel
theorem dL_law_149 : decode cL_law 149 = .ok (.iadd, 1) := by decide +kernel
theorem dL_law_150 : decode cL_law 150 = .ok (.iaload, 1) := by decide +kernel
theorem dL_law_151 : decode cL_law 151 = .ok (.aload_n 0, 1) := by decide +kernel
theorem dL_law_152 : decode cL_law 152 = .ok (.iload 4, 2) := by decide +kernel
theorem dL_law_154 : decode cL_law 154 = .ok (.iconst 2, 1) := by decide +kernel
theorem dL_law_155 : decode cL_law 155 = .ok (.iadd, 1) := by decide +kernel
theorem dL_law_156 : decode cL_law 156 = .ok (.iaload, 1) := by decide +kernel
theorem dL_law_157 : decode cL_law 157 = .ok (.invokevirtual 34, 3) := by decide +kernel
theorem dL_law_160 : decode cL_law 160 = .ok (.aload_n 2, 1) := by decide +kernel
theorem dL_law_161 : decode cL_law 161 = .ok (.aload_n 0, 1) := by decide +kernel
theorem dL_law_162 : decode cL_law 162 = .ok (.iload 4, 2) := by decide +kernel
theorem dL_law_164 : decode cL_law 164 = .ok (.iconst 1, 1) := by decide +kernel
theorem dL_law_165 : decode cL_law 165 = .ok (.iadd, 1) := by decide +kernel
theorem dL_law_166 : decode cL_law 166 = .ok (.iaload, 1) := by decide +kernel
theorem dL_law_167 : decode cL_law 167 = .ok (.aload_n 0, 1) := by decide +kernel
theorem dL_law_168 : decode cL_law 168 = .ok (.iload 4, 2) := by decide +kernel
theorem dL_law_170 : decode cL_law 170 = .ok (.iconst 2, 1) := by decide +kernel
theorem dL_law_171 : decode cL_law 171 = .ok (.iadd, 1) := by decide +kernel
theorem dL_law_172 : decode cL_law 172 = .ok (.iaload, 1) := by decide +kernel
theorem dL_law_173 : decode cL_law 173 = .ok (.invokevirtual 38, 3) := by decide +kernel
theorem dL_law_176 : decode cL_law 176 = .ok (.if_icmp .eq 785, 3) := by decide +kernel
theorem dL_law_179 : decode cL_law 179 = .ok (.iconst 0, 1) := by decide +kernel
theorem dL_law_180 : decode cL_law 180 = .ok (.ireturn, 1) := by decide +kernel
theorem dL_law_181 : decode cL_law 181 = .ok (.aload_n 1, 1) := by decide +kernel
theorem dL_law_182 : decode cL_law 182 = .ok (.aload_n 0, 1) := by decide +kernel
theorem dL_law_183 : decode cL_law 183 = .ok (.iload 4, 2) := by decide +kernel
theorem dL_law_185 : decode cL_law 185 = .ok (.iconst 1, 1) := by decide +kernel
theorem dL_law_186 : decode cL_law 186 = .ok (.iadd, 1) := by decide +kernel
theorem dL_law_187 : decode cL_law 187 = .ok (.iaload, 1) := by decide +kernel
theorem dL_law_188 : decode cL_law 188 = .ok (.aload_n 0, 1) := by decide +kernel
theorem dL_law_189 : decode cL_law 189 = .ok (.iload 4, 2) := by decide +kernel
theorem dL_law_191 : decode cL_law 191 = .ok (.iconst 2, 1) := by decide +kernel
theorem dL_law_192 : decode cL_law 192 = .ok (.iadd, 1) := by decide +kernel
theorem dL_law_193 : decode cL_law 193 = .ok (.iaload, 1) := by decide +kernel
theorem dL_law_194 : decode cL_law 194 = .ok (.aload_n 0, 1) := by decide +kernel
theorem dL_law_195 : decode cL_law 195 = .ok (.iload 4, 2) := by decide +kernel
theorem dL_law_197 : decode cL_law 197 = .ok (.iconst 3, 1) := by decide +kernel
theorem dL_law_198 : decode cL_law 198 = .ok (.iadd, 1) := by decide +kernel
theorem dL_law_199 : decode cL_law 199 = .ok (.iaload, 1) := by decide +kernel
theorem dL_law_200 : decode cL_law 200 = .ok (.invokevirtual 39, 3) := by decide +kernel
theorem dL_law_203 : decode cL_law 203 = .ok (.aload_n 2, 1) := by decide +kernel
theorem dL_law_204 : decode cL_law 204 = .ok (.aload_n 0, 1) := by decide +kernel
theorem dL_law_205 : decode cL_law 205 = .ok (.iload 4, 2) := by decide +kernel
theorem dL_law_207 : decode cL_law 207 = .ok (.iconst 1, 1) := by decide +kernel
theorem dL_law_208 : decode cL_law 208 = .ok (.iadd, 1) := by decide +kernel
theorem dL_law_209 : decode cL_law 209 = .ok (.iaload, 1) := by decide +kernel
theorem dL_law_210 : decode cL_law 210 = .ok (.aload_n 0, 1) := by decide +kernel
theorem dL_law_211 : decode cL_law 211 = .ok (.iload 4, 2) := by decide +kernel
theorem dL_law_213 : decode cL_law 213 = .ok (.iconst 2, 1) := by decide +kernel
theorem dL_law_214 : decode cL_law 214 = .ok (.iadd, 1) := by decide +kernel
theorem dL_law_215 : decode cL_law 215 = .ok (.iaload, 1) := by decide +kernel
theorem dL_law_216 : decode cL_law 216 = .ok (.aload_n 0, 1) := by decide +kernel
theorem dL_law_217 : decode cL_law 217 = .ok (.iload 4, 2) := by decide +kernel
theorem dL_law_219 : decode cL_law 219 = .ok (.iconst 3, 1) := by decide +kernel
theorem dL_law_220 : decode cL_law 220 = .ok (.iadd, 1) := by decide +kernel
theorem dL_law_221 : decode cL_law 221 = .ok (.iaload, 1) := by decide +kernel
theorem dL_law_222 : decode cL_law 222 = .ok (.invokevirtual 43, 3) := by decide +kernel
theorem dL_law_225 : decode cL_law 225 = .ok (.if_icmp .eq 736, 3) := by decide +kernel
theorem dL_law_228 : decode cL_law 228 = .ok (.iconst 0, 1) := by decide +kernel
theorem dL_law_229 : decode cL_law 229 = .ok (.ireturn, 1) := by decide +kernel
theorem dL_law_230 : decode cL_law 230 = .ok (.aload_n 1, 1) := by decide +kernel
theorem dL_law_231 : decode cL_law 231 = .ok (.aload_n 0, 1) := by decide +kernel
theorem dL_law_232 : decode cL_law 232 = .ok (.iload 4, 2) := by decide +kernel
theorem dL_law_234 : decode cL_law 234 = .ok (.iconst 1, 1) := by decide +kernel
theorem dL_law_235 : decode cL_law 235 = .ok (.iadd, 1) := by decide +kernel
theorem dL_law_236 : decode cL_law 236 = .ok (.iaload, 1) := by decide +kernel
theorem dL_law_237 : decode cL_law 237 = .ok (.aload_n 0, 1) := by decide +kernel
theorem dL_law_238 : decode cL_law 238 = .ok (.iload 4, 2) := by decide +kernel
theorem dL_law_240 : decode cL_law 240 = .ok (.iconst 2, 1) := by decide +kernel
theorem dL_law_241 : decode cL_law 241 = .ok (.iadd, 1) := by decide +kernel
theorem dL_law_242 : decode cL_law 242 = .ok (.iaload, 1) := by decide +kernel
theorem dL_law_243 : decode cL_law 243 = .ok (.aload_n 0, 1) := by decide +kernel
theorem dL_law_244 : decode cL_law 244 = .ok (.iload 4, 2) := by decide +kernel
theorem dL_law_246 : decode cL_law 246 = .ok (.iconst 3, 1) := by decide +kernel
theorem dL_law_247 : decode cL_law 247 = .ok (.iadd, 1) := by decide +kernel
theorem dL_law_248 : decode cL_law 248 = .ok (.iaload, 1) := by decide +kernel
theorem dL_law_249 : decode cL_law 249 = .ok (.invokevirtual 44, 3) := by decide +kernel
theorem dL_law_252 : decode cL_law 252 = .ok (.aload_n 2, 1) := by decide +kernel
theorem dL_law_253 : decode cL_law 253 = .ok (.aload_n 0, 1) := by decide +kernel
theorem dL_law_254 : decode cL_law 254 = .ok (.iload 4, 2) := by decide +kernel
theorem dL_law_256 : decode cL_law 256 = .ok (.iconst 1, 1) := by decide +kernel
theorem dL_law_257 : decode cL_law 257 = .ok (.iadd, 1) := by decide +kernel
theorem dL_law_258 : decode cL_law 258 = .ok (.iaload, 1) := by decide +kernel
theorem dL_law_259 : decode cL_law 259 = .ok (.aload_n 0, 1) := by decide +kernel
theorem dL_law_260 : decode cL_law 260 = .ok (.iload 4, 2) := by decide +kernel
theorem dL_law_262 : decode cL_law 262 = .ok (.iconst 2, 1) := by decide +kernel
theorem dL_law_263 : decode cL_law 263 = .ok (.iadd, 1) := by decide +kernel
theorem dL_law_264 : decode cL_law 264 = .ok (.iaload, 1) := by decide +kernel
theorem dL_law_265 : decode cL_law 265 = .ok (.aload_n 0, 1) := by decide +kernel
theorem dL_law_266 : decode cL_law 266 = .ok (.iload 4, 2) := by decide +kernel
theorem dL_law_268 : decode cL_law 268 = .ok (.iconst 3, 1) := by decide +kernel
theorem dL_law_269 : decode cL_law 269 = .ok (.iadd, 1) := by decide +kernel
theorem dL_law_270 : decode cL_law 270 = .ok (.iaload, 1) := by decide +kernel
theorem dL_law_271 : decode cL_law 271 = .ok (.invokevirtual 47, 3) := by decide +kernel
theorem dL_law_274 : decode cL_law 274 = .ok (.if_icmp .eq 687, 3) := by decide +kernel
theorem dL_law_277 : decode cL_law 277 = .ok (.iconst 0, 1) := by decide +kernel
theorem dL_law_278 : decode cL_law 278 = .ok (.ireturn, 1) := by decide +kernel
theorem dL_law_279 : decode cL_law 279 = .ok (.aload_n 1, 1) := by decide +kernel
theorem dL_law_280 : decode cL_law 280 = .ok (.aload_n 0, 1) := by decide +kernel
theorem dL_law_281 : decode cL_law 281 = .ok (.iload 4, 2) := by decide +kernel
theorem dL_law_283 : decode cL_law 283 = .ok (.iconst 1, 1) := by decide +kernel
theorem dL_law_284 : decode cL_law 284 = .ok (.iadd, 1) := by decide +kernel
theorem dL_law_285 : decode cL_law 285 = .ok (.iaload, 1) := by decide +kernel
theorem dL_law_286 : decode cL_law 286 = .ok (.aload_n 0, 1) := by decide +kernel
theorem dL_law_287 : decode cL_law 287 = .ok (.iload 4, 2) := by decide +kernel
theorem dL_law_289 : decode cL_law 289 = .ok (.iconst 2, 1) := by decide +kernel
theorem dL_law_290 : decode cL_law 290 = .ok (.iadd, 1) := by decide +kernel
theorem dL_law_291 : decode cL_law 291 = .ok (.iaload, 1) := by decide +kernel
theorem dL_law_292 : decode cL_law 292 = .ok (.aload_n 0, 1) := by decide +kernel
theorem dL_law_293 : decode cL_law 293 = .ok (.iload 4, 2) := by decide +kernel
theorem dL_law_295 : decode cL_law 295 = .ok (.iconst 3, 1) := by decide +kernel
theorem dL_law_296 : decode cL_law 296 = .ok (.iadd, 1) := by decide +kernel
theorem dL_law_297 : decode cL_law 297 = .ok (.iaload, 1) := by decide +kernel
theorem dL_law_298 : decode cL_law 298 = .ok (.aload_n 0, 1) := by decide +kernel
theorem dL_law_299 : decode cL_law 299 = .ok (.iload 4, 2) := by decide +kernel
theorem dL_law_301 : decode cL_law 301 = .ok (.iconst 4, 1) := by decide +kernel
theorem dL_law_302 : decode cL_law 302 = .ok (.iadd, 1) := by decide +kernel
theorem dL_law_303 : decode cL_law 303 = .ok (.iaload, 1) := by decide +kernel
theorem dL_law_304 : decode cL_law 304 = .ok (.invokevirtual 48, 3) := by decide +kernel
theorem dL_law_307 : decode cL_law 307 = .ok (.aload_n 2, 1) := by decide +kernel
theorem dL_law_308 : decode cL_law 308 = .ok (.aload_n 0, 1) := by decide +kernel
theorem dL_law_309 : decode cL_law 309 = .ok (.iload 4, 2) := by decide +kernel
theorem dL_law_311 : decode cL_law 311 = .ok (.iconst 1, 1) := by decide +kernel
theorem dL_law_312 : decode cL_law 312 = .ok (.iadd, 1) := by decide +kernel
theorem dL_law_313 : decode cL_law 313 = .ok (.iaload, 1) := by decide +kernel
theorem dL_law_314 : decode cL_law 314 = .ok (.aload_n 0, 1) := by decide +kernel
theorem dL_law_315 : decode cL_law 315 = .ok (.iload 4, 2) := by decide +kernel
theorem dL_law_317 : decode cL_law 317 = .ok (.iconst 2, 1) := by decide +kernel
theorem dL_law_318 : decode cL_law 318 = .ok (.iadd, 1) := by decide +kernel
theorem dL_law_319 : decode cL_law 319 = .ok (.iaload, 1) := by decide +kernel
theorem dL_law_320 : decode cL_law 320 = .ok (.aload_n 0, 1) := by decide +kernel
theorem dL_law_321 : decode cL_law 321 = .ok (.iload 4, 2) := by decide +kernel
theorem dL_law_323 : decode cL_law 323 = .ok (.iconst 3, 1) := by decide +kernel
theorem dL_law_324 : decode cL_law 324 = .ok (.iadd, 1) := by decide +kernel
theorem dL_law_325 : decode cL_law 325 = .ok (.iaload, 1) := by decide +kernel
theorem dL_law_326 : decode cL_law 326 = .ok (.aload_n 0, 1) := by decide +kernel
theorem dL_law_327 : decode cL_law 327 = .ok (.iload 4, 2) := by decide +kernel
theorem dL_law_329 : decode cL_law 329 = .ok (.iconst 4, 1) := by decide +kernel
theorem dL_law_330 : decode cL_law 330 = .ok (.iadd, 1) := by decide +kernel
theorem dL_law_331 : decode cL_law 331 = .ok (.iaload, 1) := by decide +kernel
theorem dL_law_332 : decode cL_law 332 = .ok (.invokevirtual 52, 3) := by decide +kernel
theorem dL_law_335 : decode cL_law 335 = .ok (.if_icmp .eq 626, 3) := by decide +kernel
theorem dL_law_338 : decode cL_law 338 = .ok (.iconst 0, 1) := by decide +kernel
theorem dL_law_339 : decode cL_law 339 = .ok (.ireturn, 1) := by decide +kernel
theorem dL_law_340 : decode cL_law 340 = .ok (.aload_n 1, 1) := by decide +kernel
theorem dL_law_341 : decode cL_law 341 = .ok (.invokevirtual 53, 3) := by decide +kernel
theorem dL_law_344 : decode cL_law 344 = .ok (.aload_n 2, 1) := by decide +kernel
theorem dL_law_345 : decode cL_law 345 = .ok (.invokevirtual 57, 3) := by decide +kernel
theorem dL_law_348 : decode cL_law 348 = .ok (.if_icmp .eq 613, 3) := by decide +kernel
theorem dL_law_351 : decode cL_law 351 = .ok (.iconst 0, 1) := by decide +kernel
theorem dL_law_352 : decode cL_law 352 = .ok (.ireturn, 1) := by decide +kernel
theorem dL_law_353 : decode cL_law 353 = .ok (.aload_n 1, 1) := by decide +kernel
theorem dL_law_354 : decode cL_law 354 = .ok (.aload_n 0, 1) := by decide +kernel
theorem dL_law_355 : decode cL_law 355 = .ok (.iload 4, 2) := by decide +kernel
theorem dL_law_357 : decode cL_law 357 = .ok (.iconst 1, 1) := by decide +kernel
theorem dL_law_358 : decode cL_law 358 = .ok (.iadd, 1) := by decide +kernel
theorem dL_law_359 : decode cL_law 359 = .ok (.iaload, 1) := by decide +kernel
theorem dL_law_360 : decode cL_law 360 = .ok (.i2l, 1) := by decide +kernel
theorem dL_law_361 : decode cL_law 361 = .ok (.bipush 32, 2) := by decide +kernel
theorem dL_law_363 : decode cL_law 363 = .ok (.lshl, 1) := by decide +kernel
theorem dL_law_364 : decode cL_law 364 = .ok (.aload_n 0, 1) := by decide +kernel
theorem dL_law_365 : decode cL_law 365 = .ok (.iload 4, 2) := by decide +kernel
theorem dL_law_367 : decode cL_law 367 = .ok (.iconst 2, 1) := by decide +kernel
theorem dL_law_368 : decode cL_law 368 = .ok (.iadd, 1) := by decide +kernel
theorem dL_law_369 : decode cL_law 369 = .ok (.iaload, 1) := by decide +kernel
theorem dL_law_370 : decode cL_law 370 = .ok (.i2l, 1) := by decide +kernel
theorem dL_law_371 : decode cL_law 371 = .ok (.ldc2_w 58, 3) := by decide +kernel
theorem dL_law_374 : decode cL_law 374 = .ok (.land, 1) := by decide +kernel
theorem dL_law_375 : decode cL_law 375 = .ok (.lor, 1) := by decide +kernel
theorem dL_law_376 : decode cL_law 376 = .ok (.invokevirtual 60, 3) := by decide +kernel
theorem dL_law_379 : decode cL_law 379 = .ok (.aload_n 2, 1) := by decide +kernel
theorem dL_law_380 : decode cL_law 380 = .ok (.aload_n 0, 1) := by decide +kernel
theorem dL_law_381 : decode cL_law 381 = .ok (.iload 4, 2) := by decide +kernel
theorem dL_law_383 : decode cL_law 383 = .ok (.iconst 1, 1) := by decide +kernel
theorem dL_law_384 : decode cL_law 384 = .ok (.iadd, 1) := by decide +kernel
theorem dL_law_385 : decode cL_law 385 = .ok (.iaload, 1) := by decide +kernel
theorem dL_law_386 : decode cL_law 386 = .ok (.i2l, 1) := by decide +kernel
theorem dL_law_387 : decode cL_law 387 = .ok (.bipush 32, 2) := by decide +kernel
theorem dL_law_389 : decode cL_law 389 = .ok (.lshl, 1) := by decide +kernel
theorem dL_law_390 : decode cL_law 390 = .ok (.aload_n 0, 1) := by decide +kernel
theorem dL_law_391 : decode cL_law 391 = .ok (.iload 4, 2) := by decide +kernel
theorem dL_law_393 : decode cL_law 393 = .ok (.iconst 2, 1) := by decide +kernel
theorem dL_law_394 : decode cL_law 394 = .ok (.iadd, 1) := by decide +kernel
theorem dL_law_395 : decode cL_law 395 = .ok (.iaload, 1) := by decide +kernel
theorem dL_law_396 : decode cL_law 396 = .ok (.i2l, 1) := by decide +kernel
theorem dL_law_397 : decode cL_law 397 = .ok (.ldc2_w 58, 3) := by decide +kernel
theorem dL_law_400 : decode cL_law 400 = .ok (.land, 1) := by decide +kernel
theorem dL_law_401 : decode cL_law 401 = .ok (.lor, 1) := by decide +kernel
theorem dL_law_402 : decode cL_law 402 = .ok (.invokevirtual 64, 3) := by decide +kernel
theorem dL_law_405 : decode cL_law 405 = .ok (.if_icmp .eq 556, 3) := by decide +kernel
theorem dL_law_408 : decode cL_law 408 = .ok (.iconst 0, 1) := by decide +kernel
theorem dL_law_409 : decode cL_law 409 = .ok (.ireturn, 1) := by decide +kernel
theorem dL_law_410 : decode cL_law 410 = .ok (.aload_n 1, 1) := by decide +kernel
theorem dL_law_411 : decode cL_law 411 = .ok (.invokevirtual 65, 3) := by decide +kernel
theorem dL_law_414 : decode cL_law 414 = .ok (.aload_n 2, 1) := by decide +kernel
theorem dL_law_415 : decode cL_law 415 = .ok (.invokevirtual 68, 3) := by decide +kernel
theorem dL_law_418 : decode cL_law 418 = .ok (.if_icmp .eq 543, 3) := by decide +kernel
theorem dL_law_421 : decode cL_law 421 = .ok (.iconst 0, 1) := by decide +kernel
theorem dL_law_422 : decode cL_law 422 = .ok (.ireturn, 1) := by decide +kernel
theorem dL_law_423 : decode cL_law 423 = .ok (.aload_n 1, 1) := by decide +kernel
theorem dL_law_424 : decode cL_law 424 = .ok (.aload_n 0, 1) := by decide +kernel
theorem dL_law_425 : decode cL_law 425 = .ok (.iload 4, 2) := by decide +kernel
theorem dL_law_427 : decode cL_law 427 = .ok (.iconst 1, 1) := by decide +kernel
theorem dL_law_428 : decode cL_law 428 = .ok (.iadd, 1) := by decide +kernel
theorem dL_law_429 : decode cL_law 429 = .ok (.iaload, 1) := by decide +kernel
theorem dL_law_430 : decode cL_law 430 = .ok (.aload_n 0, 1) := by decide +kernel
theorem dL_law_431 : decode cL_law 431 = .ok (.iload 4, 2) := by decide +kernel
theorem dL_law_433 : decode cL_law 433 = .ok (.iconst 2, 1) := by decide +kernel
theorem dL_law_434 : decode cL_law 434 = .ok (.iadd, 1) := by decide +kernel
theorem dL_law_435 : decode cL_law 435 = .ok (.iaload, 1) := by decide +kernel
theorem dL_law_436 : decode cL_law 436 = .ok (.aload_n 3, 1) := by decide +kernel
theorem dL_law_437 : decode cL_law 437 = .ok (.invokestatic 69, 3) := by decide +kernel
theorem dL_law_440 : decode cL_law 440 = .ok (.istore 5, 2) := by decide +kernel
theorem dL_law_442 : decode cL_law 442 = .ok (.aload_n 2, 1) := by decide +kernel
theorem dL_law_443 : decode cL_law 443 = .ok (.aload_n 0, 1) := by decide +kernel
theorem dL_law_444 : decode cL_law 444 = .ok (.iload 4, 2) := by decide +kernel
theorem dL_law_446 : decode cL_law 446 = .ok (.iconst 1, 1) := by decide +kernel
theorem dL_law_447 : decode cL_law 447 = .ok (.iadd, 1) := by decide +kernel
theorem dL_law_448 : decode cL_law 448 = .ok (.iaload, 1) := by decide +kernel
theorem dL_law_449 : decode cL_law 449 = .ok (.aload_n 0, 1) := by decide +kernel
theorem dL_law_450 : decode cL_law 450 = .ok (.iload 4, 2) := by decide +kernel
theorem dL_law_452 : decode cL_law 452 = .ok (.iconst 2, 1) := by decide +kernel
theorem dL_law_453 : decode cL_law 453 = .ok (.iadd, 1) := by decide +kernel
theorem dL_law_454 : decode cL_law 454 = .ok (.iaload, 1) := by decide +kernel
theorem dL_law_455 : decode cL_law 455 = .ok (.invokevirtual 72, 3) := by decide +kernel
theorem dL_law_458 : decode cL_law 458 = .ok (.istore 6, 2) := by decide +kernel
theorem dL_law_460 : decode cL_law 460 = .ok (.aload_n 2, 1) := by decide +kernel
theorem dL_law_461 : decode cL_law 461 = .ok (.invokevirtual 73, 3) := by decide +kernel
theorem dL_law_464 : decode cL_law 464 = .ok (.iload 5, 2) := by decide +kernel
theorem dL_law_466 : decode cL_law 466 = .ok (.if_icmp .eq 5, 3) := by decide +kernel
theorem dL_law_469 : decode cL_law 469 = .ok (.iconst 0, 1) := by decide +kernel
theorem dL_law_470 : decode cL_law 470 = .ok (.ireturn, 1) := by decide +kernel
theorem dL_law_471 : decode cL_law 471 = .ok (.iload 5, 2) := by decide +kernel
theorem dL_law_473 : decode cL_law 473 = .ok (.ifCond .ne 15, 3) := by decide +kernel
theorem dL_law_476 : decode cL_law 476 = .ok (.aload_n 3, 1) := by decide +kernel
theorem dL_law_477 : decode cL_law 477 = .ok (.iconst 0, 1) := by decide +kernel
theorem dL_law_478 : decode cL_law 478 = .ok (.laload, 1) := by decide +kernel
theorem dL_law_479 : decode cL_law 479 = .ok (.iload 6, 2) := by decide +kernel
theorem dL_law_481 : decode cL_law 481 = .ok (.i2l, 1) := by decide +kernel
theorem dL_law_482 : decode cL_law 482 = .ok (.lcmp, 1) := by decide +kernel
theorem dL_law_483 : decode cL_law 483 = .ok (.ifCond .eq 5, 3) := by decide +kernel
theorem dL_law_486 : decode cL_law 486 = .ok (.iconst 0, 1) := by decide +kernel
theorem dL_law_487 : decode cL_law 487 = .ok (.ireturn, 1) := by decide +kernel
theorem dL_law_488 : decode cL_law 488 = .ok (.goto 473, 3) := by decide +kernel
theorem dL_law_491 : decode cL_law 491 = .ok (.aload_n 1, 1) := by decide +kernel
theorem dL_law_492 : decode cL_law 492 = .ok (.aload_n 0, 1) := by decide +kernel
theorem dL_law_493 : decode cL_law 493 = .ok (.iload 4, 2) := by decide +kernel
theorem dL_law_495 : decode cL_law 495 = .ok (.iconst 1, 1) := by decide +kernel
theorem dL_law_496 : decode cL_law 496 = .ok (.iadd, 1) := by decide +kernel
theorem dL_law_497 : decode cL_law 497 = .ok (.iaload, 1) := by decide +kernel
theorem dL_law_498 : decode cL_law 498 = .ok (.aload_n 0, 1) := by decide +kernel
theorem dL_law_499 : decode cL_law 499 = .ok (.iload 4, 2) := by decide +kernel
theorem dL_law_501 : decode cL_law 501 = .ok (.iconst 2, 1) := by decide +kernel
theorem dL_law_502 : decode cL_law 502 = .ok (.iadd, 1) := by decide +kernel
theorem dL_law_503 : decode cL_law 503 = .ok (.iaload, 1) := by decide +kernel
theorem dL_law_504 : decode cL_law 504 = .ok (.aload_n 0, 1) := by decide +kernel
theorem dL_law_505 : decode cL_law 505 = .ok (.iload 4, 2) := by decide +kernel
theorem dL_law_507 : decode cL_law 507 = .ok (.iconst 3, 1) := by decide +kernel
theorem dL_law_508 : decode cL_law 508 = .ok (.iadd, 1) := by decide +kernel
theorem dL_law_509 : decode cL_law 509 = .ok (.iaload, 1) := by decide +kernel
theorem dL_law_510 : decode cL_law 510 = .ok (.invokevirtual 76, 3) := by decide +kernel
theorem dL_law_513 : decode cL_law 513 = .ok (.aload_n 2, 1) := by decide +kernel
theorem dL_law_514 : decode cL_law 514 = .ok (.aload_n 0, 1) := by decide +kernel
theorem dL_law_515 : decode cL_law 515 = .ok (.iload 4, 2) := by decide +kernel
theorem dL_law_517 : decode cL_law 517 = .ok (.iconst 1, 1) := by decide +kernel
theorem dL_law_518 : decode cL_law 518 = .ok (.iadd, 1) := by decide +kernel
theorem dL_law_519 : decode cL_law 519 = .ok (.iaload, 1) := by decide +kernel
theorem dL_law_520 : decode cL_law 520 = .ok (.aload_n 0, 1) := by decide +kernel
theorem dL_law_521 : decode cL_law 521 = .ok (.iload 4, 2) := by decide +kernel
theorem dL_law_523 : decode cL_law 523 = .ok (.iconst 2, 1) := by decide +kernel
theorem dL_law_524 : decode cL_law 524 = .ok (.iadd, 1) := by decide +kernel
theorem dL_law_525 : decode cL_law 525 = .ok (.iaload, 1) := by decide +kernel
theorem dL_law_526 : decode cL_law 526 = .ok (.aload_n 0, 1) := by decide +kernel
theorem dL_law_527 : decode cL_law 527 = .ok (.iload 4, 2) := by decide +kernel
theorem dL_law_529 : decode cL_law 529 = .ok (.iconst 3, 1) := by decide +kernel
theorem dL_law_530 : decode cL_law 530 = .ok (.iadd, 1) := by decide +kernel
theorem dL_law_531 : decode cL_law 531 = .ok (.iaload, 1) := by decide +kernel
theorem dL_law_532 : decode cL_law 532 = .ok (.invokevirtual 79, 3) := by decide +kernel
theorem dL_law_535 : decode cL_law 535 = .ok (.if_icmp .eq 426, 3) := by decide +kernel
theorem dL_law_538 : decode cL_law 538 = .ok (.iconst 0, 1) := by decide +kernel
theorem dL_law_539 : decode cL_law 539 = .ok (.ireturn, 1) := by decide +kernel
theorem dL_law_540 : decode cL_law 540 = .ok (.aload_n 1, 1) := by decide +kernel
theorem dL_law_541 : decode cL_law 541 = .ok (.aload_n 0, 1) := by decide +kernel
theorem dL_law_542 : decode cL_law 542 = .ok (.iload 4, 2) := by decide +kernel
theorem dL_law_544 : decode cL_law 544 = .ok (.iconst 1, 1) := by decide +kernel
theorem dL_law_545 : decode cL_law 545 = .ok (.iadd, 1) := by decide +kernel
theorem dL_law_546 : decode cL_law 546 = .ok (.iaload, 1) := by decide +kernel
theorem dL_law_547 : decode cL_law 547 = .ok (.aload_n 0, 1) := by decide +kernel
theorem dL_law_548 : decode cL_law 548 = .ok (.iload 4, 2) := by decide +kernel
theorem dL_law_550 : decode cL_law 550 = .ok (.iconst 2, 1) := by decide +kernel
theorem dL_law_551 : decode cL_law 551 = .ok (.iadd, 1) := by decide +kernel
theorem dL_law_552 : decode cL_law 552 = .ok (.iaload, 1) := by decide +kernel
theorem dL_law_553 : decode cL_law 553 = .ok (.aload_n 0, 1) := by decide +kernel
theorem dL_law_554 : decode cL_law 554 = .ok (.iload 4, 2) := by decide +kernel
theorem dL_law_556 : decode cL_law 556 = .ok (.iconst 3, 1) := by decide +kernel
theorem dL_law_557 : decode cL_law 557 = .ok (.iadd, 1) := by decide +kernel
theorem dL_law_558 : decode cL_law 558 = .ok (.iaload, 1) := by decide +kernel
theorem dL_law_559 : decode cL_law 559 = .ok (.invokevirtual 80, 3) := by decide +kernel
theorem dL_law_562 : decode cL_law 562 = .ok (.aload_n 2, 1) := by decide +kernel
theorem dL_law_563 : decode cL_law 563 = .ok (.aload_n 0, 1) := by decide +kernel
theorem dL_law_564 : decode cL_law 564 = .ok (.iload 4, 2) := by decide +kernel
theorem dL_law_566 : decode cL_law 566 = .ok (.iconst 1, 1) := by decide +kernel
theorem dL_law_567 : decode cL_law 567 = .ok (.iadd, 1) := by decide +kernel
theorem dL_law_568 : decode cL_law 568 = .ok (.iaload, 1) := by decide +kernel
theorem dL_law_569 : decode cL_law 569 = .ok (.aload_n 0, 1) := by decide +kernel
theorem dL_law_570 : decode cL_law 570 = .ok (.iload 4, 2) := by decide +kernel
theorem dL_law_572 : decode cL_law 572 = .ok (.iconst 2, 1) := by decide +kernel
theorem dL_law_573 : decode cL_law 573 = .ok (.iadd, 1) := by decide +kernel
theorem dL_law_574 : decode cL_law 574 = .ok (.iaload, 1) := by decide +kernel
theorem dL_law_575 : decode cL_law 575 = .ok (.aload_n 0, 1) := by decide +kernel
theorem dL_law_576 : decode cL_law 576 = .ok (.iload 4, 2) := by decide +kernel
theorem dL_law_578 : decode cL_law 578 = .ok (.iconst 3, 1) := by decide +kernel
theorem dL_law_579 : decode cL_law 579 = .ok (.iadd, 1) := by decide +kernel
theorem dL_law_580 : decode cL_law 580 = .ok (.iaload, 1) := by decide +kernel
theorem dL_law_581 : decode cL_law 581 = .ok (.invokevirtual 83, 3) := by decide +kernel
theorem dL_law_584 : decode cL_law 584 = .ok (.if_icmp .eq 377, 3) := by decide +kernel
theorem dL_law_587 : decode cL_law 587 = .ok (.iconst 0, 1) := by decide +kernel
theorem dL_law_588 : decode cL_law 588 = .ok (.ireturn, 1) := by decide +kernel
theorem dL_law_589 : decode cL_law 589 = .ok (.aload_n 1, 1) := by decide +kernel
theorem dL_law_590 : decode cL_law 590 = .ok (.aload_n 0, 1) := by decide +kernel
theorem dL_law_591 : decode cL_law 591 = .ok (.iload 4, 2) := by decide +kernel
theorem dL_law_593 : decode cL_law 593 = .ok (.iconst 1, 1) := by decide +kernel
theorem dL_law_594 : decode cL_law 594 = .ok (.iadd, 1) := by decide +kernel
theorem dL_law_595 : decode cL_law 595 = .ok (.iaload, 1) := by decide +kernel
theorem dL_law_596 : decode cL_law 596 = .ok (.aload_n 0, 1) := by decide +kernel
theorem dL_law_597 : decode cL_law 597 = .ok (.iload 4, 2) := by decide +kernel
theorem dL_law_599 : decode cL_law 599 = .ok (.iconst 2, 1) := by decide +kernel
theorem dL_law_600 : decode cL_law 600 = .ok (.iadd, 1) := by decide +kernel
theorem dL_law_601 : decode cL_law 601 = .ok (.iaload, 1) := by decide +kernel
theorem dL_law_602 : decode cL_law 602 = .ok (.invokevirtual 84, 3) := by decide +kernel
theorem dL_law_605 : decode cL_law 605 = .ok (.aload_n 2, 1) := by decide +kernel
theorem dL_law_606 : decode cL_law 606 = .ok (.aload_n 0, 1) := by decide +kernel
theorem dL_law_607 : decode cL_law 607 = .ok (.iload 4, 2) := by decide +kernel
theorem dL_law_609 : decode cL_law 609 = .ok (.iconst 1, 1) := by decide +kernel
theorem dL_law_610 : decode cL_law 610 = .ok (.iadd, 1) := by decide +kernel
theorem dL_law_611 : decode cL_law 611 = .ok (.iaload, 1) := by decide +kernel
theorem dL_law_612 : decode cL_law 612 = .ok (.aload_n 0, 1) := by decide +kernel
theorem dL_law_613 : decode cL_law 613 = .ok (.iload 4, 2) := by decide +kernel
theorem dL_law_615 : decode cL_law 615 = .ok (.iconst 2, 1) := by decide +kernel
theorem dL_law_616 : decode cL_law 616 = .ok (.iadd, 1) := by decide +kernel
theorem dL_law_617 : decode cL_law 617 = .ok (.iaload, 1) := by decide +kernel
theorem dL_law_618 : decode cL_law 618 = .ok (.invokevirtual 87, 3) := by decide +kernel
theorem dL_law_621 : decode cL_law 621 = .ok (.if_icmp .eq 340, 3) := by decide +kernel
theorem dL_law_624 : decode cL_law 624 = .ok (.iconst 0, 1) := by decide +kernel
theorem dL_law_625 : decode cL_law 625 = .ok (.ireturn, 1) := by decide +kernel
theorem dL_law_626 : decode cL_law 626 = .ok (.aload_n 1, 1) := by decide +kernel
theorem dL_law_627 : decode cL_law 627 = .ok (.aload_n 0, 1) := by decide +kernel
theorem dL_law_628 : decode cL_law 628 = .ok (.iload 4, 2) := by decide +kernel
theorem dL_law_630 : decode cL_law 630 = .ok (.iconst 1, 1) := by decide +kernel
theorem dL_law_631 : decode cL_law 631 = .ok (.iadd, 1) := by decide +kernel
theorem dL_law_632 : decode cL_law 632 = .ok (.iaload, 1) := by decide +kernel
theorem dL_law_633 : decode cL_law 633 = .ok (.invokevirtual 88, 3) := by decide +kernel
theorem dL_law_636 : decode cL_law 636 = .ok (.aload_n 2, 1) := by decide +kernel
theorem dL_law_637 : decode cL_law 637 = .ok (.aload_n 0, 1) := by decide +kernel
theorem dL_law_638 : decode cL_law 638 = .ok (.iload 4, 2) := by decide +kernel
theorem dL_law_640 : decode cL_law 640 = .ok (.iconst 1, 1) := by decide +kernel
theorem dL_law_641 : decode cL_law 641 = .ok (.iadd, 1) := by decide +kernel
theorem dL_law_642 : decode cL_law 642 = .ok (.iaload, 1) := by decide +kernel
theorem dL_law_643 : decode cL_law 643 = .ok (.invokevirtual 92, 3) := by decide +kernel
theorem dL_law_646 : decode cL_law 646 = .ok (.if_icmp .eq 315, 3) := by decide +kernel
theorem dL_law_649 : decode cL_law 649 = .ok (.iconst 0, 1) := by decide +kernel
theorem dL_law_650 : decode cL_law 650 = .ok (.ireturn, 1) := by decide +kernel
theorem dL_law_651 : decode cL_law 651 = .ok (.aload_n 1, 1) := by decide +kernel
theorem dL_law_652 : decode cL_law 652 = .ok (.aload_n 0, 1) := by decide +kernel
theorem dL_law_653 : decode cL_law 653 = .ok (.iload 4, 2) := by decide +kernel
theorem dL_law_655 : decode cL_law 655 = .ok (.iconst 1, 1) := by decide +kernel
theorem dL_law_656 : decode cL_law 656 = .ok (.iadd, 1) := by decide +kernel
theorem dL_law_657 : decode cL_law 657 = .ok (.iaload, 1) := by decide +kernel
theorem dL_law_658 : decode cL_law 658 = .ok (.aload_n 0, 1) := by decide +kernel
theorem dL_law_659 : decode cL_law 659 = .ok (.iload 4, 2) := by decide +kernel
theorem dL_law_661 : decode cL_law 661 = .ok (.iconst 2, 1) := by decide +kernel
theorem dL_law_662 : decode cL_law 662 = .ok (.iadd, 1) := by decide +kernel
theorem dL_law_663 : decode cL_law 663 = .ok (.iaload, 1) := by decide +kernel
theorem dL_law_664 : decode cL_law 664 = .ok (.invokevirtual 93, 3) := by decide +kernel
theorem dL_law_667 : decode cL_law 667 = .ok (.aload_n 2, 1) := by decide +kernel
theorem dL_law_668 : decode cL_law 668 = .ok (.aload_n 0, 1) := by decide +kernel
theorem dL_law_669 : decode cL_law 669 = .ok (.iload 4, 2) := by decide +kernel
theorem dL_law_671 : decode cL_law 671 = .ok (.iconst 1, 1) := by decide +kernel
theorem dL_law_672 : decode cL_law 672 = .ok (.iadd, 1) := by decide +kernel
theorem dL_law_673 : decode cL_law 673 = .ok (.iaload, 1) := by decide +kernel
theorem dL_law_674 : decode cL_law 674 = .ok (.aload_n 0, 1) := by decide +kernel
theorem dL_law_675 : decode cL_law 675 = .ok (.iload 4, 2) := by decide +kernel
theorem dL_law_677 : decode cL_law 677 = .ok (.iconst 2, 1) := by decide +kernel
theorem dL_law_678 : decode cL_law 678 = .ok (.iadd, 1) := by decide +kernel
theorem dL_law_679 : decode cL_law 679 = .ok (.iaload, 1) := by decide +kernel
theorem dL_law_680 : decode cL_law 680 = .ok (.invokevirtual 96, 3) := by decide +kernel
theorem dL_law_683 : decode cL_law 683 = .ok (.if_icmp .eq 278, 3) := by decide +kernel
theorem dL_law_686 : decode cL_law 686 = .ok (.iconst 0, 1) := by decide +kernel
theorem dL_law_687 : decode cL_law 687 = .ok (.ireturn, 1) := by decide +kernel
theorem dL_law_688 : decode cL_law 688 = .ok (.aload_n 1, 1) := by decide +kernel
theorem dL_law_689 : decode cL_law 689 = .ok (.aload_n 0, 1) := by decide +kernel
theorem dL_law_690 : decode cL_law 690 = .ok (.iload 4, 2) := by decide +kernel
theorem dL_law_692 : decode cL_law 692 = .ok (.iconst 1, 1) := by decide +kernel
theorem dL_law_693 : decode cL_law 693 = .ok (.iadd, 1) := by decide +kernel
theorem dL_law_694 : decode cL_law 694 = .ok (.iaload, 1) := by decide +kernel
theorem dL_law_695 : decode cL_law 695 = .ok (.aload_n 0, 1) := by decide +kernel
theorem dL_law_696 : decode cL_law 696 = .ok (.iload 4, 2) := by decide +kernel
theorem dL_law_698 : decode cL_law 698 = .ok (.iconst 2, 1) := by decide +kernel
theorem dL_law_699 : decode cL_law 699 = .ok (.iadd, 1) := by decide +kernel
theorem dL_law_700 : decode cL_law 700 = .ok (.iaload, 1) := by decide +kernel
theorem dL_law_701 : decode cL_law 701 = .ok (.aload_n 0, 1) := by decide +kernel
theorem dL_law_702 : decode cL_law 702 = .ok (.iload 4, 2) := by decide +kernel
theorem dL_law_704 : decode cL_law 704 = .ok (.iconst 3, 1) := by decide +kernel
theorem dL_law_705 : decode cL_law 705 = .ok (.iadd, 1) := by decide +kernel
theorem dL_law_706 : decode cL_law 706 = .ok (.iaload, 1) := by decide +kernel
theorem dL_law_707 : decode cL_law 707 = .ok (.invokevirtual 97, 3) := by decide +kernel
theorem dL_law_710 : decode cL_law 710 = .ok (.aload_n 2, 1) := by decide +kernel
theorem dL_law_711 : decode cL_law 711 = .ok (.aload_n 0, 1) := by decide +kernel
theorem dL_law_712 : decode cL_law 712 = .ok (.iload 4, 2) := by decide +kernel
theorem dL_law_714 : decode cL_law 714 = .ok (.iconst 1, 1) := by decide +kernel
theorem dL_law_715 : decode cL_law 715 = .ok (.iadd, 1) := by decide +kernel
theorem dL_law_716 : decode cL_law 716 = .ok (.iaload, 1) := by decide +kernel
theorem dL_law_717 : decode cL_law 717 = .ok (.aload_n 0, 1) := by decide +kernel
theorem dL_law_718 : decode cL_law 718 = .ok (.iload 4, 2) := by decide +kernel
theorem dL_law_720 : decode cL_law 720 = .ok (.iconst 2, 1) := by decide +kernel
theorem dL_law_721 : decode cL_law 721 = .ok (.iadd, 1) := by decide +kernel
theorem dL_law_722 : decode cL_law 722 = .ok (.iaload, 1) := by decide +kernel
theorem dL_law_723 : decode cL_law 723 = .ok (.aload_n 0, 1) := by decide +kernel
theorem dL_law_724 : decode cL_law 724 = .ok (.iload 4, 2) := by decide +kernel
theorem dL_law_726 : decode cL_law 726 = .ok (.iconst 3, 1) := by decide +kernel
theorem dL_law_727 : decode cL_law 727 = .ok (.iadd, 1) := by decide +kernel
theorem dL_law_728 : decode cL_law 728 = .ok (.iaload, 1) := by decide +kernel
theorem dL_law_729 : decode cL_law 729 = .ok (.invokevirtual 100, 3) := by decide +kernel
theorem dL_law_732 : decode cL_law 732 = .ok (.if_icmp .eq 229, 3) := by decide +kernel
theorem dL_law_735 : decode cL_law 735 = .ok (.iconst 0, 1) := by decide +kernel
theorem dL_law_736 : decode cL_law 736 = .ok (.ireturn, 1) := by decide +kernel
theorem dL_law_737 : decode cL_law 737 = .ok (.aload_n 1, 1) := by decide +kernel
theorem dL_law_738 : decode cL_law 738 = .ok (.aload_n 0, 1) := by decide +kernel
theorem dL_law_739 : decode cL_law 739 = .ok (.iload 4, 2) := by decide +kernel
theorem dL_law_741 : decode cL_law 741 = .ok (.iconst 1, 1) := by decide +kernel
theorem dL_law_742 : decode cL_law 742 = .ok (.iadd, 1) := by decide +kernel
theorem dL_law_743 : decode cL_law 743 = .ok (.iaload, 1) := by decide +kernel
theorem dL_law_744 : decode cL_law 744 = .ok (.invokevirtual 101, 3) := by decide +kernel
theorem dL_law_747 : decode cL_law 747 = .ok (.aload_n 2, 1) := by decide +kernel
theorem dL_law_748 : decode cL_law 748 = .ok (.aload_n 0, 1) := by decide +kernel
theorem dL_law_749 : decode cL_law 749 = .ok (.iload 4, 2) := by decide +kernel
theorem dL_law_751 : decode cL_law 751 = .ok (.iconst 1, 1) := by decide +kernel
theorem dL_law_752 : decode cL_law 752 = .ok (.iadd, 1) := by decide +kernel
theorem dL_law_753 : decode cL_law 753 = .ok (.iaload, 1) := by decide +kernel
theorem dL_law_754 : decode cL_law 754 = .ok (.invokevirtual 104, 3) := by decide +kernel
theorem dL_law_757 : decode cL_law 757 = .ok (.if_icmp .eq 204, 3) := by decide +kernel
theorem dL_law_760 : decode cL_law 760 = .ok (.iconst 0, 1) := by decide +kernel
theorem dL_law_761 : decode cL_law 761 = .ok (.ireturn, 1) := by decide +kernel
theorem dL_law_762 : decode cL_law 762 = .ok (.aload_n 1, 1) := by decide +kernel
theorem dL_law_763 : decode cL_law 763 = .ok (.aload_n 0, 1) := by decide +kernel
theorem dL_law_764 : decode cL_law 764 = .ok (.iload 4, 2) := by decide +kernel
theorem dL_law_766 : decode cL_law 766 = .ok (.iconst 1, 1) := by decide +kernel
theorem dL_law_767 : decode cL_law 767 = .ok (.iadd, 1) := by decide +kernel
theorem dL_law_768 : decode cL_law 768 = .ok (.iaload, 1) := by decide +kernel
theorem dL_law_769 : decode cL_law 769 = .ok (.aload_n 3, 1) := by decide +kernel
theorem dL_law_770 : decode cL_law 770 = .ok (.invokestatic 105, 3) := by decide +kernel
theorem dL_law_773 : decode cL_law 773 = .ok (.istore 5, 2) := by decide +kernel
theorem dL_law_775 : decode cL_law 775 = .ok (.aload_n 2, 1) := by decide +kernel
theorem dL_law_776 : decode cL_law 776 = .ok (.aload_n 0, 1) := by decide +kernel
theorem dL_law_777 : decode cL_law 777 = .ok (.iload 4, 2) := by decide +kernel
theorem dL_law_779 : decode cL_law 779 = .ok (.iconst 1, 1) := by decide +kernel
theorem dL_law_780 : decode cL_law 780 = .ok (.iadd, 1) := by decide +kernel
theorem dL_law_781 : decode cL_law 781 = .ok (.iaload, 1) := by decide +kernel
theorem dL_law_782 : decode cL_law 782 = .ok (.invokevirtual 108, 3) := by decide +kernel
theorem dL_law_785 : decode cL_law 785 = .ok (.istore 6, 2) := by decide +kernel
theorem dL_law_787 : decode cL_law 787 = .ok (.aload_n 2, 1) := by decide +kernel
theorem dL_law_788 : decode cL_law 788 = .ok (.invokevirtual 73, 3) := by decide +kernel
theorem dL_law_791 : decode cL_law 791 = .ok (.iload 5, 2) := by decide +kernel
theorem dL_law_793 : decode cL_law 793 = .ok (.if_icmp .eq 5, 3) := by decide +kernel
theorem dL_law_796 : decode cL_law 796 = .ok (.iconst 0, 1) := by decide +kernel
theorem dL_law_797 : decode cL_law 797 = .ok (.ireturn, 1) := by decide +kernel
theorem dL_law_798 : decode cL_law 798 = .ok (.iload 5, 2) := by decide +kernel
theorem dL_law_800 : decode cL_law 800 = .ok (.ifCond .ne 15, 3) := by decide +kernel
theorem dL_law_803 : decode cL_law 803 = .ok (.aload_n 3, 1) := by decide +kernel
theorem dL_law_804 : decode cL_law 804 = .ok (.iconst 0, 1) := by decide +kernel
theorem dL_law_805 : decode cL_law 805 = .ok (.laload, 1) := by decide +kernel
theorem dL_law_806 : decode cL_law 806 = .ok (.iload 6, 2) := by decide +kernel
theorem dL_law_808 : decode cL_law 808 = .ok (.i2l, 1) := by decide +kernel
theorem dL_law_809 : decode cL_law 809 = .ok (.lcmp, 1) := by decide +kernel
theorem dL_law_810 : decode cL_law 810 = .ok (.ifCond .eq 5, 3) := by decide +kernel
theorem dL_law_813 : decode cL_law 813 = .ok (.iconst 0, 1) := by decide +kernel
theorem dL_law_814 : decode cL_law 814 = .ok (.ireturn, 1) := by decide +kernel
theorem dL_law_815 : decode cL_law 815 = .ok (.goto 146, 3) := by decide +kernel
theorem dL_law_818 : decode cL_law 818 = .ok (.aload_n 1, 1) := by decide +kernel
theorem dL_law_819 : decode cL_law 819 = .ok (.invokevirtual 109, 3) := by decide +kernel
theorem dL_law_822 : decode cL_law 822 = .ok (.aload_n 2, 1) := by decide +kernel
theorem dL_law_823 : decode cL_law 823 = .ok (.invokevirtual 112, 3) := by decide +kernel
theorem dL_law_826 : decode cL_law 826 = .ok (.if_icmp .eq 135, 3) := by decide +kernel
theorem dL_law_829 : decode cL_law 829 = .ok (.iconst 0, 1) := by decide +kernel
theorem dL_law_830 : decode cL_law 830 = .ok (.ireturn, 1) := by decide +kernel
theorem dL_law_831 : decode cL_law 831 = .ok (.aload_n 1, 1) := by decide +kernel
theorem dL_law_832 : decode cL_law 832 = .ok (.aload_n 0, 1) := by decide +kernel
theorem dL_law_833 : decode cL_law 833 = .ok (.iload 4, 2) := by decide +kernel
theorem dL_law_835 : decode cL_law 835 = .ok (.iconst 1, 1) := by decide +kernel
theorem dL_law_836 : decode cL_law 836 = .ok (.iadd, 1) := by decide +kernel
theorem dL_law_837 : decode cL_law 837 = .ok (.iaload, 1) := by decide +kernel
theorem dL_law_838 : decode cL_law 838 = .ok (.aload_n 0, 1) := by decide +kernel
theorem dL_law_839 : decode cL_law 839 = .ok (.iload 4, 2) := by decide +kernel
theorem dL_law_841 : decode cL_law 841 = .ok (.iconst 2, 1) := by decide +kernel
theorem dL_law_842 : decode cL_law 842 = .ok (.iadd, 1) := by decide +kernel
theorem dL_law_843 : decode cL_law 843 = .ok (.iaload, 1) := by decide +kernel
theorem dL_law_844 : decode cL_law 844 = .ok (.aload_n 3, 1) := by decide +kernel
theorem dL_law_845 : decode cL_law 845 = .ok (.invokestatic 113, 3) := by decide +kernel
theorem dL_law_848 : decode cL_law 848 = .ok (.istore 5, 2) := by decide +kernel
theorem dL_law_850 : decode cL_law 850 = .ok (.aload_n 2, 1) := by decide +kernel
theorem dL_law_851 : decode cL_law 851 = .ok (.aload_n 0, 1) := by decide +kernel
theorem dL_law_852 : decode cL_law 852 = .ok (.iload 4, 2) := by decide +kernel
theorem dL_law_854 : decode cL_law 854 = .ok (.iconst 1, 1) := by decide +kernel
theorem dL_law_855 : decode cL_law 855 = .ok (.iadd, 1) := by decide +kernel
theorem dL_law_856 : decode cL_law 856 = .ok (.iaload, 1) := by decide +kernel
theorem dL_law_857 : decode cL_law 857 = .ok (.aload_n 0, 1) := by decide +kernel
theorem dL_law_858 : decode cL_law 858 = .ok (.iload 4, 2) := by decide +kernel
theorem dL_law_860 : decode cL_law 860 = .ok (.iconst 2, 1) := by decide +kernel
theorem dL_law_861 : decode cL_law 861 = .ok (.iadd, 1) := by decide +kernel
theorem dL_law_862 : decode cL_law 862 = .ok (.iaload, 1) := by decide +kernel
theorem dL_law_863 : decode cL_law 863 = .ok (.invokevirtual 115, 3) := by decide +kernel
theorem dL_law_866 : decode cL_law 866 = .ok (.istore 6, 2) := by decide +kernel
theorem dL_law_868 : decode cL_law 868 = .ok (.aload_n 2, 1) := by decide +kernel
theorem dL_law_869 : decode cL_law 869 = .ok (.invokevirtual 73, 3) := by decide +kernel
theorem dL_law_872 : decode cL_law 872 = .ok (.iload 5, 2) := by decide +kernel
theorem dL_law_874 : decode cL_law 874 = .ok (.if_icmp .eq 5, 3) := by decide +kernel
theorem dL_law_877 : decode cL_law 877 = .ok (.iconst 0, 1) := by decide +kernel
theorem dL_law_878 : decode cL_law 878 = .ok (.ireturn, 1) := by decide +kernel
theorem dL_law_879 : decode cL_law 879 = .ok (.iload 5, 2) := by decide +kernel
theorem dL_law_881 : decode cL_law 881 = .ok (.ifCond .ne 15, 3) := by decide +kernel
theorem dL_law_884 : decode cL_law 884 = .ok (.aload_n 3, 1) := by decide +kernel
theorem dL_law_885 : decode cL_law 885 = .ok (.iconst 0, 1) := by decide +kernel
theorem dL_law_886 : decode cL_law 886 = .ok (.laload, 1) := by decide +kernel
theorem dL_law_887 : decode cL_law 887 = .ok (.iload 6, 2) := by decide +kernel
theorem dL_law_889 : decode cL_law 889 = .ok (.i2l, 1) := by decide +kernel
theorem dL_law_890 : decode cL_law 890 = .ok (.lcmp, 1) := by decide +kernel
theorem dL_law_891 : decode cL_law 891 = .ok (.ifCond .eq 5, 3) := by decide +kernel
theorem dL_law_894 : decode cL_law 894 = .ok (.iconst 0, 1) := by decide +kernel
theorem dL_law_895 : decode cL_law 895 = .ok (.ireturn, 1) := by decide +kernel
theorem dL_law_896 : decode cL_law 896 = .ok (.goto 65, 3) := by decide +kernel
theorem dL_law_899 : decode cL_law 899 = .ok (.aload_n 1, 1) := by decide +kernel
theorem dL_law_900 : decode cL_law 900 = .ok (.invokevirtual 116, 3) := by decide +kernel
theorem dL_law_903 : decode cL_law 903 = .ok (.aload_n 2, 1) := by decide +kernel
theorem dL_law_904 : decode cL_law 904 = .ok (.invokevirtual 119, 3) := by decide +kernel
theorem dL_law_907 : decode cL_law 907 = .ok (.if_icmp .eq 54, 3) := by decide +kernel
theorem dL_law_910 : decode cL_law 910 = .ok (.iconst 0, 1) := by decide +kernel
theorem dL_law_911 : decode cL_law 911 = .ok (.ireturn, 1) := by decide +kernel
theorem dL_law_912 : decode cL_law 912 = .ok (.aload_n 1, 1) := by decide +kernel
theorem dL_law_913 : decode cL_law 913 = .ok (.aload_n 0, 1) := by decide +kernel
theorem dL_law_914 : decode cL_law 914 = .ok (.iload 4, 2) := by decide +kernel
theorem dL_law_916 : decode cL_law 916 = .ok (.iconst 1, 1) := by decide +kernel
theorem dL_law_917 : decode cL_law 917 = .ok (.iadd, 1) := by decide +kernel
theorem dL_law_918 : decode cL_law 918 = .ok (.iaload, 1) := by decide +kernel
theorem dL_law_919 : decode cL_law 919 = .ok (.aload_n 0, 1) := by decide +kernel
theorem dL_law_920 : decode cL_law 920 = .ok (.iload 4, 2) := by decide +kernel
theorem dL_law_922 : decode cL_law 922 = .ok (.iconst 2, 1) := by decide +kernel
theorem dL_law_923 : decode cL_law 923 = .ok (.iadd, 1) := by decide +kernel
theorem dL_law_924 : decode cL_law 924 = .ok (.iaload, 1) := by decide +kernel
theorem dL_law_925 : decode cL_law 925 = .ok (.aload_n 0, 1) := by decide +kernel
theorem dL_law_926 : decode cL_law 926 = .ok (.iload 4, 2) := by decide +kernel
theorem dL_law_928 : decode cL_law 928 = .ok (.iconst 3, 1) := by decide +kernel
theorem dL_law_929 : decode cL_law 929 = .ok (.iadd, 1) := by decide +kernel
theorem dL_law_930 : decode cL_law 930 = .ok (.iaload, 1) := by decide +kernel
theorem dL_law_931 : decode cL_law 931 = .ok (.invokevirtual 120, 3) := by decide +kernel
theorem dL_law_934 : decode cL_law 934 = .ok (.aload_n 2, 1) := by decide +kernel
theorem dL_law_935 : decode cL_law 935 = .ok (.aload_n 0, 1) := by decide +kernel
theorem dL_law_936 : decode cL_law 936 = .ok (.iload 4, 2) := by decide +kernel
theorem dL_law_938 : decode cL_law 938 = .ok (.iconst 1, 1) := by decide +kernel
theorem dL_law_939 : decode cL_law 939 = .ok (.iadd, 1) := by decide +kernel
theorem dL_law_940 : decode cL_law 940 = .ok (.iaload, 1) := by decide +kernel
theorem dL_law_941 : decode cL_law 941 = .ok (.aload_n 0, 1) := by decide +kernel
theorem dL_law_942 : decode cL_law 942 = .ok (.iload 4, 2) := by decide +kernel
theorem dL_law_944 : decode cL_law 944 = .ok (.iconst 2, 1) := by decide +kernel
theorem dL_law_945 : decode cL_law 945 = .ok (.iadd, 1) := by decide +kernel
theorem dL_law_946 : decode cL_law 946 = .ok (.iaload, 1) := by decide +kernel
theorem dL_law_947 : decode cL_law 947 = .ok (.aload_n 0, 1) := by decide +kernel
theorem dL_law_948 : decode cL_law 948 = .ok (.iload 4, 2) := by decide +kernel
theorem dL_law_950 : decode cL_law 950 = .ok (.iconst 3, 1) := by decide +kernel
theorem dL_law_951 : decode cL_law 951 = .ok (.iadd, 1) := by decide +kernel
theorem dL_law_952 : decode cL_law 952 = .ok (.iaload, 1) := by decide +kernel
theorem dL_law_953 : decode cL_law 953 = .ok (.invokevirtual 123, 3) := by decide +kernel
theorem dL_law_956 : decode cL_law 956 = .ok (.if_icmp .eq 5, 3) := by decide +kernel
theorem dL_law_959 : decode cL_law 959 = .ok (.iconst 0, 1) := by decide +kernel
theorem dL_law_960 : decode cL_law 960 = .ok (.ireturn, 1) := by decide +kernel
theorem dL_law_961 : decode cL_law 961 = .ok (.iinc 4 5, 3) := by decide +kernel
theorem dL_law_964 : decode cL_law 964 = .ok (.goto (-931), 3) := by decide +kernel
theorem dL_law_967 : decode cL_law 967 = .ok (.iconst 1, 1) := by decide +kernel
theorem dL_law_968 : decode cL_law 968 = .ok (.ireturn, 1) := by decide +kernel
end
section
/-! NUMBERS: a word of the machine is kept as the whole number that it stands for -/
def zi_w (x : Int) : Int32 := Int32.ofInt x
def zi_l (x : Int) : Int64 := Int64.ofInt x
abbrev zi_r (x : Int) : Prop := -2147483648 ≤ x ∧ x ≤ 2147483647
abbrev zv_i (x : Int) : Value := .int (zi_w x)
abbrev zv_l (x : Int) : Value := .long (zi_l x)
/-- a truth as a number -/
def zi_b (c : Prop) [Decidable c] : Int := if c then 1 else 0
theorem zi_bt {c : Prop} [Decidable c] (h : c) : zi_b c = 1 := if_pos h
theorem zi_bf {c : Prop} [Decidable c] (h : ¬ c) : zi_b c = 0 := if_neg h
theorem zi_b01 (c : Prop) [Decidable c] : zi_b c = 0 ∨ zi_b c = 1 := by
  by_cases h : c
  · exact Or.inr (zi_bt h)
  · exact Or.inl (zi_bf h)
theorem zi_toInt {x : Int} (h : zi_r x) : (zi_w x).toInt = x := Int32.toInt_ofInt_of_le (by omega) (by omega)
theorem zi_of (x : Int32) : x = zi_w x.toInt := (Int32.ofInt_toInt x).symm
theorem zi_rg (x : Int32) : zi_r x.toInt := ⟨by have := Int32.le_toInt x; omega, by have := Int32.toInt_lt x; omega⟩
theorem zi_add (x y : Int) : zi_w x + zi_w y = zi_w (x + y) := (Int32.ofInt_add x y).symm
theorem zi_sub (x y : Int) : zi_w x - zi_w y = zi_w (x - y) := (Int32.ofInt_sub x y).symm
theorem zi_mul (x y : Int) : zi_w x * zi_w y = zi_w (x * y) := (Int32.ofInt_mul x y).symm
theorem zi_le {x y : Int} (hx : zi_r x) (hy : zi_r y) : zi_w x ≤ zi_w y ↔ x ≤ y := by
  rw [Int32.le_iff_toInt_le, zi_toInt hx, zi_toInt hy]
theorem zi_lt {x y : Int} (hx : zi_r x) (hy : zi_r y) : zi_w x < zi_w y ↔ x < y := by
  rw [Int32.lt_iff_toInt_lt, zi_toInt hx, zi_toInt hy]
theorem zi_eq {x y : Int} (hx : zi_r x) (hy : zi_r y) : zi_w x = zi_w y ↔ x = y := by
  rw [← Int32.toInt_inj, zi_toInt hx, zi_toInt hy]
theorem zi_0 : (0 : Int32) = zi_w 0 := rfl
theorem zi_r0 : zi_r 0 := ⟨by decide, by decide⟩
theorem zi_div {x y : Int} (hx : 0 ≤ x) (hx2 : x ≤ 2147483647) (hy : 0 < y) (hy2 : y ≤ 2147483647) : zi_w x / zi_w y = zi_w (x / y) := by
  have h1 : zi_r x := ⟨by omega, hx2⟩
  have h2 : zi_r y := ⟨by omega, hy2⟩
  have h0 : 0 ≤ x / y := Int.ediv_nonneg hx (by omega)
  have h9 : x / y ≤ x := Int.ediv_le_self y hx
  have h3 : zi_r (x / y) := ⟨by omega, by omega⟩
  apply Int32.toInt_inj.mp
  rw [Int32.toInt_div_of_ne_right _ _ (fun h => by
    have h4 := congrArg Int32.toInt h
    rw [zi_toInt h2] at h4
    have h5 : (-1 : Int32).toInt = -1 := by decide
    omega), zi_toInt h1, zi_toInt h2, zi_toInt h3, Int.tdiv_eq_ediv_of_nonneg hx]
theorem zi_rem {x y : Int} (hx : 0 ≤ x) (hx2 : x ≤ 2147483647) (hy : 0 < y) (hy2 : y ≤ 2147483647) : zi_w x - zi_w x / zi_w y * zi_w y = zi_w (x % y) := by
  rw [zi_div hx hx2 hy hy2, zi_mul, zi_sub, Int.emod_def, Int.mul_comm]
theorem zi_in {x : Int} {n : Nat} (h0 : 0 ≤ x) (h1 : x < n) (hn : (n : Int) ≤ 2147483647) : vp_in (zi_w x) n := by
  rw [vp_in_iff, zi_toInt ⟨by omega, by omega⟩]
  exact ⟨h0, h1⟩
theorem zi_cl {x : Int} (h0 : 0 ≤ x) (h1 : x ≤ 2147483647) : (zi_w x).toNatClampNeg = x.toNat := by
  unfold zi_w
  rw [Int32.toNatClampNeg_ofInt_of_le (by omega) (by omega)]
theorem zi_max {x y : Int} (hx : zi_r x) (hy : zi_r y) : (if zi_w x < zi_w y then zi_w y else zi_w x) = zi_w (max x y) := by
  by_cases h : x < y
  · rw [if_pos ((zi_lt hx hy).mpr h), show max x y = y by omega]
  · rw [if_neg (fun q => h ((zi_lt hx hy).mp q)), show max x y = x by omega]
theorem zi_min {x y : Int} (hx : zi_r x) (hy : zi_r y) : (if zi_w y < zi_w x then zi_w y else zi_w x) = zi_w (min x y) := by
  by_cases h : y < x
  · rw [if_pos ((zi_lt hy hx).mpr h), show min x y = y by omega]
  · rw [if_neg (fun q => h ((zi_lt hy hx).mp q)), show min x y = x by omega]
theorem zl_toInt {x : Int} (h : -9223372036854775808 ≤ x ∧ x ≤ 9223372036854775807) : (zi_l x).toInt = x := Int64.toInt_ofInt_of_le (by omega) (by omega)
theorem zl_add (x y : Int) : zi_l x + zi_l y = zi_l (x + y) := (Int64.ofInt_add x y).symm
theorem zl_sub (x y : Int) : zi_l x - zi_l y = zi_l (x - y) := (Int64.ofInt_sub x y).symm
theorem zl_mul (x y : Int) : zi_l x * zi_l y = zi_l (x * y) := (Int64.ofInt_mul x y).symm
theorem zl_of (x : Int64) : x = zi_l x.toInt := (Int64.ofInt_toInt x).symm
theorem zl_i2l {x : Int} (h : zi_r x) : (zi_w x).toInt64 = zi_l x := by
  apply Int64.toInt_inj.mp
  rw [Int32.toInt_toInt64, zi_toInt h, zl_toInt ⟨by omega, by omega⟩]
/-! THE WORLD: cells by numbers; g: the classes' numbers, the array classes, the address of each cell, the stem's last point -/
abbrev zg_G : Type := va_G × (Nat → ClassId) × (Nat → Nat) × Nat
abbrev zs_S : Type := Nat → Int → Int
/-- a cell's shape: an array of numbers (type, length); an array of cells (type, length, which); an object (class, its fields: none a number, some none a cell that may change, some (some q) the cell q) -/
abbrev zs_T : Type := (Nat × Nat) ⊕ ((Nat × Nat × (Nat → Nat)) ⊕ (Nat × List (Option (Option Nat))))
/-- how many cells the world has -/
abbrev zs_N : Nat := 91
/-- the cells: 0 the mill, 1 Bucking, 2 Stem (3 diameters, 4 grades, 5 tops, 6 worst), 7 kinds (8 + 2 j, its prices 9 + 2 j), 20 best, 21 chosen, 22 and 24 Cuttings (facts behind each), 26 Sawing, 27 sizes (28 + 2 j, prices 29 + 2 j), 40 Orders (41 needs, 42 shortages, 43 additions), 44 heights, 45 Chain (46 steps, 47 prices, 48 limits, 49 gains), 50 reaches, 51 and 59 Patterns (row + 1 .. 3, stack + 4 .. 6, prices + 7); 67 the reference and its arrays; the last: the law's own long[1] -/
def zs_L (n : Nat) : List zs_T := [
  .inr (.inr (10, [some (some 1), some (some 2), some (some 7), some (some 26), some (some 27), some (some 40)])),
  .inr (.inr (1, [some (some 2), some (some 7), some (some 20), some (some 21), some none, some none])),
  .inr (.inr (9, [none, some (some 3), some (some 4), none, some (some 5), some (some 6)])),
  .inl (0, n + 1),
  .inl (0, n + 1),
  .inl (0, n + 1),
  .inl (0, n + 1),
  .inr (.inl (3, 6, fun j => 8 + 2 * j)),
  .inr (.inr (5, [none, none, some (some 9)])),
  .inl (0, 57),
  .inr (.inr (5, [none, none, some (some 11)])),
  .inl (0, 57),
  .inr (.inr (5, [none, none, some (some 13)])),
  .inl (0, 57),
  .inr (.inr (5, [none, none, some (some 15)])),
  .inl (0, 57),
  .inr (.inr (5, [none, none, some (some 17)])),
  .inl (0, 57),
  .inr (.inr (5, [none, none, some (some 19)])),
  .inl (0, 57),
  .inl (0, n + 2),
  .inl (0, n + 1),
  .inr (.inr (3, [none, none, some (some 23)])),
  .inl (0, 240),
  .inr (.inr (3, [none, none, some (some 25)])),
  .inl (0, 240),
  .inr (.inr (8, [some (some 27), some (some 40), some (some 44), none, some (some 45), some (some 50), some none, some none])),
  .inr (.inl (4, 6, fun j => 28 + 2 * j)),
  .inr (.inr (0, [none, none, some (some 29)])),
  .inl (0, 3),
  .inr (.inr (0, [none, none, some (some 31)])),
  .inl (0, 3),
  .inr (.inr (0, [none, none, some (some 33)])),
  .inl (0, 3),
  .inr (.inr (0, [none, none, some (some 35)])),
  .inl (0, 3),
  .inr (.inr (0, [none, none, some (some 37)])),
  .inl (0, 3),
  .inr (.inr (0, [none, none, some (some 39)])),
  .inl (0, 3),
  .inr (.inr (6, [some (some 41), some (some 42), some (some 43)])),
  .inl (0, 6),
  .inl (0, 4),
  .inl (0, 4),
  .inl (0, 4),
  .inr (.inr (2, [some (some 46), some (some 47), some (some 48), some (some 49)])),
  .inl (0, 6),
  .inl (0, 6),
  .inl (0, 6),
  .inl (0, 9101),
  .inl (0, 6),
  .inr (.inr (7, [none, none, some (some 52), some (some 55), some (some 58)])),
  .inr (.inr (4, [none, some (some 53), some (some 54)])),
  .inl (0, 180),
  .inl (0, 180),
  .inr (.inr (4, [none, some (some 56), some (some 57)])),
  .inl (0, 90),
  .inl (0, 90),
  .inl (0, 6),
  .inr (.inr (7, [none, none, some (some 60), some (some 63), some (some 66)])),
  .inr (.inr (4, [none, some (some 61), some (some 62)])),
  .inl (0, 180),
  .inl (0, 180),
  .inr (.inr (4, [none, some (some 64), some (some 65)])),
  .inl (0, 90),
  .inl (0, 90),
  .inl (0, 6),
  .inr (.inr (11, [none, none, some (some 68), none, some (some 69), some (some 70), some (some 71), some (some 72), some (some 73), some (some 74), none, some (some 75), some (some 76), some (some 77), some (some 78), some (some 79), some (some 80), none, some (some 81), some (some 82), none, none, some (some 83), some (some 84), some (some 85), some (some 86), some (some 87), some (some 88), some (some 89)])),
  .inl (0, 81),
  .inl (0, 20),
  .inl (0, 20),
  .inl (0, 20),
  .inl (0, 6),
  .inl (0, 6),
  .inl (0, 456),
  .inl (0, 486),
  .inl (0, 6),
  .inl (0, 6),
  .inl (0, 24),
  .inl (0, 6),
  .inl (0, 4),
  .inl (0, 4),
  .inl (0, 4),
  .inl (0, 2400),
  .inl (0, 6),
  .inl (0, 300),
  .inl (0, 300),
  .inl (0, 600),
  .inl (0, 9400),
  .inl (1, 9400),
  .inl (2, 1)]
def zs_sh (n k : Nat) : zs_T := (zs_L n).getD k (.inl (0, 0))
theorem hs_0 (n : Nat) : zs_sh n 0 = .inr (.inr (10, [some (some 1), some (some 2), some (some 7), some (some 26), some (some 27), some (some 40)])) := rfl
theorem hs_1 (n : Nat) : zs_sh n 1 = .inr (.inr (1, [some (some 2), some (some 7), some (some 20), some (some 21), some none, some none])) := rfl
theorem hs_2 (n : Nat) : zs_sh n 2 = .inr (.inr (9, [none, some (some 3), some (some 4), none, some (some 5), some (some 6)])) := rfl
theorem hs_3 (n : Nat) : zs_sh n 3 = .inl (0, n + 1) := rfl
theorem hs_4 (n : Nat) : zs_sh n 4 = .inl (0, n + 1) := rfl
theorem hs_5 (n : Nat) : zs_sh n 5 = .inl (0, n + 1) := rfl
theorem hs_6 (n : Nat) : zs_sh n 6 = .inl (0, n + 1) := rfl
theorem hs_7 (n : Nat) : zs_sh n 7 = .inr (.inl (3, 6, fun j => 8 + 2 * j)) := rfl
theorem hs_8 (n : Nat) : zs_sh n 8 = .inr (.inr (5, [none, none, some (some 9)])) := rfl
theorem hs_9 (n : Nat) : zs_sh n 9 = .inl (0, 57) := rfl
theorem hs_10 (n : Nat) : zs_sh n 10 = .inr (.inr (5, [none, none, some (some 11)])) := rfl
theorem hs_11 (n : Nat) : zs_sh n 11 = .inl (0, 57) := rfl
theorem hs_12 (n : Nat) : zs_sh n 12 = .inr (.inr (5, [none, none, some (some 13)])) := rfl
theorem hs_13 (n : Nat) : zs_sh n 13 = .inl (0, 57) := rfl
theorem hs_14 (n : Nat) : zs_sh n 14 = .inr (.inr (5, [none, none, some (some 15)])) := rfl
theorem hs_15 (n : Nat) : zs_sh n 15 = .inl (0, 57) := rfl
theorem hs_16 (n : Nat) : zs_sh n 16 = .inr (.inr (5, [none, none, some (some 17)])) := rfl
theorem hs_17 (n : Nat) : zs_sh n 17 = .inl (0, 57) := rfl
theorem hs_18 (n : Nat) : zs_sh n 18 = .inr (.inr (5, [none, none, some (some 19)])) := rfl
theorem hs_19 (n : Nat) : zs_sh n 19 = .inl (0, 57) := rfl
theorem hs_20 (n : Nat) : zs_sh n 20 = .inl (0, n + 2) := rfl
theorem hs_21 (n : Nat) : zs_sh n 21 = .inl (0, n + 1) := rfl
theorem hs_22 (n : Nat) : zs_sh n 22 = .inr (.inr (3, [none, none, some (some 23)])) := rfl
theorem hs_23 (n : Nat) : zs_sh n 23 = .inl (0, 240) := rfl
theorem hs_24 (n : Nat) : zs_sh n 24 = .inr (.inr (3, [none, none, some (some 25)])) := rfl
theorem hs_25 (n : Nat) : zs_sh n 25 = .inl (0, 240) := rfl
theorem hs_26 (n : Nat) : zs_sh n 26 = .inr (.inr (8, [some (some 27), some (some 40), some (some 44), none, some (some 45), some (some 50), some none, some none])) := rfl
theorem hs_27 (n : Nat) : zs_sh n 27 = .inr (.inl (4, 6, fun j => 28 + 2 * j)) := rfl
theorem hs_28 (n : Nat) : zs_sh n 28 = .inr (.inr (0, [none, none, some (some 29)])) := rfl
theorem hs_29 (n : Nat) : zs_sh n 29 = .inl (0, 3) := rfl
theorem hs_30 (n : Nat) : zs_sh n 30 = .inr (.inr (0, [none, none, some (some 31)])) := rfl
theorem hs_31 (n : Nat) : zs_sh n 31 = .inl (0, 3) := rfl
theorem hs_32 (n : Nat) : zs_sh n 32 = .inr (.inr (0, [none, none, some (some 33)])) := rfl
theorem hs_33 (n : Nat) : zs_sh n 33 = .inl (0, 3) := rfl
theorem hs_34 (n : Nat) : zs_sh n 34 = .inr (.inr (0, [none, none, some (some 35)])) := rfl
theorem hs_35 (n : Nat) : zs_sh n 35 = .inl (0, 3) := rfl
theorem hs_36 (n : Nat) : zs_sh n 36 = .inr (.inr (0, [none, none, some (some 37)])) := rfl
theorem hs_37 (n : Nat) : zs_sh n 37 = .inl (0, 3) := rfl
theorem hs_38 (n : Nat) : zs_sh n 38 = .inr (.inr (0, [none, none, some (some 39)])) := rfl
theorem hs_39 (n : Nat) : zs_sh n 39 = .inl (0, 3) := rfl
theorem hs_40 (n : Nat) : zs_sh n 40 = .inr (.inr (6, [some (some 41), some (some 42), some (some 43)])) := rfl
theorem hs_41 (n : Nat) : zs_sh n 41 = .inl (0, 6) := rfl
theorem hs_42 (n : Nat) : zs_sh n 42 = .inl (0, 4) := rfl
theorem hs_43 (n : Nat) : zs_sh n 43 = .inl (0, 4) := rfl
theorem hs_44 (n : Nat) : zs_sh n 44 = .inl (0, 4) := rfl
theorem hs_45 (n : Nat) : zs_sh n 45 = .inr (.inr (2, [some (some 46), some (some 47), some (some 48), some (some 49)])) := rfl
theorem hs_46 (n : Nat) : zs_sh n 46 = .inl (0, 6) := rfl
theorem hs_47 (n : Nat) : zs_sh n 47 = .inl (0, 6) := rfl
theorem hs_48 (n : Nat) : zs_sh n 48 = .inl (0, 6) := rfl
theorem hs_49 (n : Nat) : zs_sh n 49 = .inl (0, 9101) := rfl
theorem hs_50 (n : Nat) : zs_sh n 50 = .inl (0, 6) := rfl
theorem hs_51 (n : Nat) : zs_sh n 51 = .inr (.inr (7, [none, none, some (some 52), some (some 55), some (some 58)])) := rfl
theorem hs_52 (n : Nat) : zs_sh n 52 = .inr (.inr (4, [none, some (some 53), some (some 54)])) := rfl
theorem hs_53 (n : Nat) : zs_sh n 53 = .inl (0, 180) := rfl
theorem hs_54 (n : Nat) : zs_sh n 54 = .inl (0, 180) := rfl
theorem hs_55 (n : Nat) : zs_sh n 55 = .inr (.inr (4, [none, some (some 56), some (some 57)])) := rfl
theorem hs_56 (n : Nat) : zs_sh n 56 = .inl (0, 90) := rfl
theorem hs_57 (n : Nat) : zs_sh n 57 = .inl (0, 90) := rfl
theorem hs_58 (n : Nat) : zs_sh n 58 = .inl (0, 6) := rfl
theorem hs_59 (n : Nat) : zs_sh n 59 = .inr (.inr (7, [none, none, some (some 60), some (some 63), some (some 66)])) := rfl
theorem hs_60 (n : Nat) : zs_sh n 60 = .inr (.inr (4, [none, some (some 61), some (some 62)])) := rfl
theorem hs_61 (n : Nat) : zs_sh n 61 = .inl (0, 180) := rfl
theorem hs_62 (n : Nat) : zs_sh n 62 = .inl (0, 180) := rfl
theorem hs_63 (n : Nat) : zs_sh n 63 = .inr (.inr (4, [none, some (some 64), some (some 65)])) := rfl
theorem hs_64 (n : Nat) : zs_sh n 64 = .inl (0, 90) := rfl
theorem hs_65 (n : Nat) : zs_sh n 65 = .inl (0, 90) := rfl
theorem hs_66 (n : Nat) : zs_sh n 66 = .inl (0, 6) := rfl
theorem hs_67 (n : Nat) : zs_sh n 67 = .inr (.inr (11, [none, none, some (some 68), none, some (some 69), some (some 70), some (some 71), some (some 72), some (some 73), some (some 74), none, some (some 75), some (some 76), some (some 77), some (some 78), some (some 79), some (some 80), none, some (some 81), some (some 82), none, none, some (some 83), some (some 84), some (some 85), some (some 86), some (some 87), some (some 88), some (some 89)])) := rfl
theorem hs_68 (n : Nat) : zs_sh n 68 = .inl (0, 81) := rfl
theorem hs_69 (n : Nat) : zs_sh n 69 = .inl (0, 20) := rfl
theorem hs_70 (n : Nat) : zs_sh n 70 = .inl (0, 20) := rfl
theorem hs_71 (n : Nat) : zs_sh n 71 = .inl (0, 20) := rfl
theorem hs_72 (n : Nat) : zs_sh n 72 = .inl (0, 6) := rfl
theorem hs_73 (n : Nat) : zs_sh n 73 = .inl (0, 6) := rfl
theorem hs_74 (n : Nat) : zs_sh n 74 = .inl (0, 456) := rfl
theorem hs_75 (n : Nat) : zs_sh n 75 = .inl (0, 486) := rfl
theorem hs_76 (n : Nat) : zs_sh n 76 = .inl (0, 6) := rfl
theorem hs_77 (n : Nat) : zs_sh n 77 = .inl (0, 6) := rfl
theorem hs_78 (n : Nat) : zs_sh n 78 = .inl (0, 24) := rfl
theorem hs_79 (n : Nat) : zs_sh n 79 = .inl (0, 6) := rfl
theorem hs_80 (n : Nat) : zs_sh n 80 = .inl (0, 4) := rfl
theorem hs_81 (n : Nat) : zs_sh n 81 = .inl (0, 4) := rfl
theorem hs_82 (n : Nat) : zs_sh n 82 = .inl (0, 4) := rfl
theorem hs_83 (n : Nat) : zs_sh n 83 = .inl (0, 2400) := rfl
theorem hs_84 (n : Nat) : zs_sh n 84 = .inl (0, 6) := rfl
theorem hs_85 (n : Nat) : zs_sh n 85 = .inl (0, 300) := rfl
theorem hs_86 (n : Nat) : zs_sh n 86 = .inl (0, 300) := rfl
theorem hs_87 (n : Nat) : zs_sh n 87 = .inl (0, 600) := rfl
theorem hs_88 (n : Nat) : zs_sh n 88 = .inl (0, 9400) := rfl
theorem hs_89 (n : Nat) : zs_sh n 89 = .inl (1, 9400) := rfl
theorem hs_90 (n : Nat) : zs_sh n 90 = .inl (2, 1) := rfl
def zs_v (g : zg_G) (σ : zs_S) (k : Nat) (j : Nat) : Option (Option Nat) → Value
  | none => .int (zi_w (σ k j))
  | some none => .ref (g.2.2.1 (σ k j).toNat)
  | some (some q) => .ref (g.2.2.1 q)
def zs_fl (g : zg_G) (σ : zs_S) (k : Nat) : Nat → List (Option (Option Nat)) → List Value
  | _, [] => []
  | j, f :: r => zs_v g σ k j f :: zs_fl g σ k (j + 1) r
theorem zs_fl_at (g : zg_G) (σ : zs_S) (k : Nat) : ∀ (fk : List (Option (Option Nat))) (j0 j : Nat), (zs_fl g σ k j0 fk)[j]? = (fk[j]?).map (zs_v g σ k (j0 + j))
  | [], j0, j => by simp [zs_fl]
  | f :: r, j0, 0 => by simp [zs_fl]
  | f :: r, j0, j + 1 => by
    rw [zs_fl, List.getElem?_cons_succ, List.getElem?_cons_succ, zs_fl_at g σ k r (j0 + 1) j, show j0 + 1 + j = j0 + (j + 1) by omega]
theorem zs_fl_len (g : zg_G) (σ : zs_S) (k : Nat) : ∀ (fk : List (Option (Option Nat))) (j0 : Nat), (zs_fl g σ k j0 fk).length = fk.length
  | [], j0 => by simp [zs_fl]
  | f :: r, j0 => by simp [zs_fl, zs_fl_len g σ k r (j0 + 1)]
def zs_c (g : zg_G) (σ : zs_S) (k : Nat) : zs_T → va_E
  | .inl (t, len) => if t = 2 then .inl (g.2.1 t, len, .inr (.inl (fun j => zi_l (σ k j)))) else .inl (g.2.1 t, len, .inl (fun j => zi_w (σ k j)))
  | .inr (.inl (t, len, f)) => .inl (g.2.1 t, len, .inr (.inr (.inr (.inr (fun j => some (g.2.2.1 (f j)))))))
  | .inr (.inr (ci, fk)) => .inr (ci, zs_fl g σ k 0 fk)
theorem zs_fl_congr {g : zg_G} {σ τ : zs_S} {k : Nat} (h : ∀ j, σ k j = τ k j) : ∀ (fk : List (Option (Option Nat))) (j0 : Nat), zs_fl g σ k j0 fk = zs_fl g τ k j0 fk
  | [], _ => rfl
  | f :: r, j0 => by
    rw [zs_fl, zs_fl, zs_fl_congr h r (j0 + 1)]
    congr 1
    cases f with
    | none => simp [zs_v, h]
    | some f => cases f with
      | none => simp [zs_v, h]
      | some q => rfl
theorem zs_c_congr {g : zg_G} {σ τ : zs_S} {k : Nat} (h : ∀ j, σ k j = τ k j) (T : zs_T) : zs_c g σ k T = zs_c g τ k T := by
  rcases T with ⟨t, len⟩ | ⟨t, len, f⟩ | ⟨ci, fk⟩
  · simp [zs_c, h]
  · rfl
  · simp only [zs_c, zs_fl_congr h fk 0]
def zs_W (g : zg_G) (σ : zs_S) : va_W := (List.range zs_N).map (fun k => (g.2.2.1 k, zs_c g σ k (zs_sh g.2.2.2 k)))
theorem zs_at (g : zg_G) (σ : zs_S) {k : Nat} (hk : k < zs_N) : (zs_W g σ)[k]? = some (g.2.2.1 k, zs_c g σ k (zs_sh g.2.2.2 k)) := by
  unfold zs_W
  rw [List.getElem?_map, List.getElem?_range hk]
  rfl
def zs_put (σ : zs_S) (k : Nat) (j v : Int) : zs_S := fun c i => if c = k ∧ i = j then v else σ c i
theorem zs_put_ne {σ : zs_S} {k c : Nat} {j v : Int} (h : c ≠ k) (i : Int) : zs_put σ k j v c i = σ c i := by simp [zs_put, h]
theorem zs_put_self {σ : zs_S} {k : Nat} {j v : Int} : zs_put σ k j v k j = v := by simp [zs_put]
theorem zs_put_at {σ : zs_S} {k : Nat} {j v i : Int} : zs_put σ k j v k i = if i = j then v else σ k i := by simp [zs_put]
theorem zs_put_off {σ : zs_S} {k : Nat} {j v i : Int} (h : i ≠ j) : zs_put σ k j v k i = σ k i := by simp [zs_put, h]
theorem zs_set {g : zg_G} {σ τ : zs_S} {k : Nat} (h : ∀ c, c ≠ k → ∀ i, τ c i = σ c i) : (zs_W g σ).set k (g.2.2.1 k, zs_c g τ k (zs_sh g.2.2.2 k)) = zs_W g τ := by
  have hlen : (zs_W g σ).length = zs_N := by simp [zs_W]
  apply List.ext_getElem?
  intro i
  by_cases hi : i < zs_N
  · rw [zs_at g τ hi]
    by_cases e : k = i
    · subst e
      rw [List.getElem?_set_self (by rw [hlen]; exact hi)]
    · rw [List.getElem?_set_ne e, zs_at g σ hi, zs_c_congr (fun j => (h i (Ne.symm e) j).symm)]
  · rw [List.getElem?_eq_none (by rw [List.length_set, hlen]; omega), List.getElem?_eq_none (by simp [zs_W]; omega)]
def zg_A (g : zg_G) : Nat → Prop := fun q => ∃ k, k < zs_N ∧ q = g.2.2.1 k
def zg_ad (g : zg_G) (A : Nat → Prop) : Prop := (∀ i j, i < zs_N → j < zs_N → g.2.2.1 i = g.2.2.1 j → i = j) ∧ ∀ k, k < zs_N → A (g.2.2.1 k)
theorem zg_D {g : zg_G} {A : Nat → Prop} (h : zg_ad g A) (σ : zs_S) : va_D A (zs_W g σ) := by
  have key : ∀ (i : Nat) (p : Nat × va_E), (zs_W g σ)[i]? = some p → i < zs_N ∧ p.1 = g.2.2.1 i := by
    intro i p hp
    have hi : i < zs_N := by
      have := (List.getElem?_eq_some_iff.mp hp).1
      simpa [zs_W] using this
    rw [zs_at g σ hi] at hp
    cases hp
    exact ⟨hi, rfl⟩
  refine ⟨fun i j p q hp hq he => ?_, fun k q hq => ?_⟩
  · obtain ⟨h1, e1⟩ := key i p hp
    obtain ⟨h2, e2⟩ := key j q hq
    exact h.1 i j h1 h2 (by rw [← e1, ← e2]; exact he)
  · obtain ⟨h1, e1⟩ := key k q hq
    rw [e1]
    exact h.2 k h1
/-- the array classes' types by their number -/
def zg_ty : Nat → FieldType
  | 0 => .int
  | 1 => .boolean
  | 2 => .long
  | 3 => .object zt_C3
  | _ => .object zt_C4
def zg_tys (g : zg_G) : List (ClassId × FieldType) := (List.range 5).map (fun t => (g.2.1 t, zg_ty t))
theorem zg_ty_at (g : zg_G) {t : Nat} (ht : t < 5) : (zg_tys g)[t]? = some (g.2.1 t, zg_ty t) := by
  unfold zg_tys
  rw [List.getElem?_map, List.getElem?_range ht]
  rfl
/-! A METHOD: name, bytes, locals, what it returns, how deep its calls go -/
abbrev zm_T : Type := MethodName × ByteArray × Nat × Option FieldType × Nat × Nat
def zm_room (d : Nat × Nat) : Room := { frames := d.1, cells := 0, slots := 0, locals := d.2 }
/-- the one link between nest mates that is used outside of constructors -/
def zt_N : Cond := .methodLinkNest RX8 102 yX10_room "StemMill"
/-- where the machine stands: all that doesn't change while a method runs -/
abbrev zk_T : Type := Program × Launch × Env × Room × State × MethodId × Array Value × List Frame × Method × Code × Nat × Nat × (State → Prop) × (Nat → Prop)
def zk_ok (g : zg_G) (M : zm_T) : zk_T → Prop
  | (p, _, _, R, s, m, args, _, _, c, cells, slots, _, A) => p.tables.exec = Jvm.exec ∧ c.code = M.2.1 ∧ c.maxLocals = M.2.2.1 ∧ s.vm.findClass M.1.cls = some m.cls ∧ (∀ w ∈ zt_W, w.before args s = true) ∧ va_K g.1 zt_cl (zg_tys g) s ∧ zg_ad g A ∧ M.2.2.2.2.1 ≤ R.frames ∧ M.2.2.2.2.2 ≤ R.locals ∧ cells ≤ R.cells ∧ slots ≤ R.slots ∧ va_Nw zt_N s
def zw_W (g : zg_G) (M : zm_T) : zk_T → Nat → List (Nat × Value) → List Value → zs_S → Prop
  | (p, l, e, R, s, m, args, below, meth, c, cells, slots, Q, A), pc, L, S, σ => ∀ (H : Heap) (locs : List Loc) (ls : Array Slot), va_P g.1 zt_cl (zs_W g σ) H → va_S A s.heap H locs → lv_has ls M.2.2.1 L → W p l e R s m args below meth c H locs cells slots Q (F0 m pc ls S)
/-- what a method's end owes -/
def zq_Q (g : zg_G) (Q : Option Value → zs_S → Prop) : Array Value → State → Outcome → State → Prop := fun _ st oc t => (∃ (v : Option Value) (σ : zs_S), oc = .returned v ∧ Q v σ ∧ va_P g.1 zt_cl (zs_W g σ) t.heap) ∧ va_F (zg_A g) st t
def zk_ret (g : zg_G) (M : zm_T) (Q : Option Value → zs_S → Prop) : zk_T → Prop
  | (_, _, _, _, s, _, args, below, meth, _, cells, slots, Qf, A) => Qf = MQ below (zq_Q g Q) args s 0 0 (zg_A g) ∧ A = zg_A g ∧ cells = 0 ∧ slots = 0 ∧ meth.sig.returnType = M.2.2.2.1 ∧ meth.locks = false
/-- a method's contract over the world: from the picture σ, with these arguments, it returns with Q -/
def zm_Met (g : zg_G) (M : zm_T) (σ : zs_S) (av : List Value) (Q : Option Value → zs_S → Prop) : Prop :=
  ∀ l : Launch, Met l M.1 (Cond.code M.1 M.2.1 M.2.2.1 M.2.2.2.1 :: zt_W) (zm_room M.2.2.2.2) (va_Pc av (fun U => va_P g.1 zt_cl (zs_W g σ) U.heap ∧ va_K g.1 zt_cl (zg_tys g) U ∧ zg_ad g (fun _ => True) ∧ va_Nw zt_N U)) (zq_Q g Q) 0 0 (zg_A g)
theorem zm_of {g : zg_G} {M : zm_T} {σ : zs_S} {av : List Value} {Q : Option Value → zs_S → Prop} (hy : plainName M.1.cls = true) (hlen : (lg_sl av).length ≤ M.2.2.1)
    (body : ∀ k : zk_T, zk_ok g M k → zk_ret g M Q k → zw_W g M k 0 (lv_args 0 av) [] σ) : zm_Met g M σ av Q := by
  intro l
  refine Met.ofW (cc := M.2.1) (maxL := M.2.2.1) (ret := M.2.2.2.1) hy rfl ?_
  intro p e s m args below meth c s₁ B hml hv
  obtain ⟨rfl, hP, hK, hA, hN⟩ := hv
  have hts := atoms_spec (ws := Cond.code M.1 M.2.1 M.2.2.1 M.2.2.2.1 :: zt_W) B.pre
  have hl := lv_entry av (n := M.2.2.1) hlen
  rw [lg_entry_eq]
  exact body (p, l, e, _, s, m, av.toArray, below, meth, c, 0, 0, MQ below (zq_Q g Q) av.toArray s 0 0 (zg_A g), zg_A g)
    ⟨B.exec, B.bytes, hml, findClass_of_methodNamed B.named, fun w hw => hts w (List.mem_cons_of_mem _ hw), hK, ⟨hA.1, fun k hk => ⟨k, hk, rfl⟩⟩, Nat.le_refl _, Nat.le_refl _, Nat.zero_le _, Nat.zero_le _, hN⟩
    ⟨rfl, rfl, rfl, rfl, B.returns, B.notSynchronized⟩ s.heap [] _ hP va_S.rf hl
end
section
section ZR
variable {g : zg_G} {M : zm_T} {k : zk_T} {pc : Nat} {L L' : List (Nat × Value)} {S : List Value} {σ : zs_S}
theorem zr_iconst (C : zk_ok g M k) {n : Int} (hd : decode M.2.1 pc = .ok (.iconst n, 1)) (K : zw_W g M k (pc + 1) L (zv_i n :: S) σ) : zw_W g M k pc L S σ := by
  obtain ⟨p, l, e, R, s, m, args, below, meth, c, cells, slots, Q, A⟩ := k
  obtain ⟨hx, hb, hml, hown, hts, hK, hA, hf1, hf2, hc1, hc2, hN⟩ := C
  intro H locs ls hP hS hl
  exact lv_iconst hx hb hd rfl (K H locs ls hP hS hl)
theorem zr_bipush (C : zk_ok g M k) {n : Int} (hd : decode M.2.1 pc = .ok (.bipush n, 2)) (hn : (Int8.ofInt n).toInt32 = zi_w n) (K : zw_W g M k (pc + 2) L (zv_i n :: S) σ) : zw_W g M k pc L S σ := by
  obtain ⟨p, l, e, R, s, m, args, below, meth, c, cells, slots, Q, A⟩ := k
  obtain ⟨hx, hb, hml, hown, hts, hK, hA, hf1, hf2, hc1, hc2, hN⟩ := C
  intro H locs ls hP hS hl
  exact lv_bipush hx hb hd hn (K H locs ls hP hS hl)
theorem zr_sipush (C : zk_ok g M k) {n : Int} (hd : decode M.2.1 pc = .ok (.sipush n, 3)) (hn : (Int16.ofInt n).toInt32 = zi_w n) (K : zw_W g M k (pc + 3) L (zv_i n :: S) σ) : zw_W g M k pc L S σ := by
  obtain ⟨p, l, e, R, s, m, args, below, meth, c, cells, slots, Q, A⟩ := k
  obtain ⟨hx, hb, hml, hown, hts, hK, hA, hf1, hf2, hc1, hc2, hN⟩ := C
  intro H locs ls hP hS hl
  exact lv_sipush hx hb hd hn (K H locs ls hP hS hl)
theorem zr_ldc (C : zk_ok g M k) {i : Nat} {v : Int32} (n : Int) (hd : decode M.2.1 pc = .ok (.ldc i, 2)) (hw : Cond.constant M.1.cls i v ∈ zt_W) (hn : v = zi_w n) (K : zw_W g M k (pc + 2) L (zv_i n :: S) σ) : zw_W g M k pc L S σ := by
  obtain ⟨p, l, e, R, s, m, args, below, meth, c, cells, slots, Q, A⟩ := k
  obtain ⟨hx, hb, hml, hown, hts, hK, hA, hf1, hf2, hc1, hc2, hN⟩ := C
  intro H locs ls hP hS hl
  subst hn
  exact lv_ldc hx hb hown (hts _ hw) hd (K H locs ls hP hS hl)
theorem zr_ldc2 (C : zk_ok g M k) {i : Nat} {v : Int64} (n : Int) (hd : decode M.2.1 pc = .ok (.ldc2_w i, 3)) (hw : Cond.constantLong M.1.cls i v ∈ zt_W) (hn : v = zi_l n) (K : zw_W g M k (pc + 3) L (zv_l n :: S) σ) : zw_W g M k pc L S σ := by
  obtain ⟨p, l, e, R, s, m, args, below, meth, c, cells, slots, Q, A⟩ := k
  obtain ⟨hx, hb, hml, hown, hts, hK, hA, hf1, hf2, hc1, hc2, hN⟩ := C
  intro H locs ls hP hS hl
  subst hn
  exact lv_ldc2 hx hb hown (hts _ hw) hd (K H locs ls hP hS hl)
theorem zr_lconst (C : zk_ok g M k) {n : Fin 2} (x : Int) (hd : decode M.2.1 pc = .ok (.lconst n, 1)) (hn : Int64.ofNat (n : Nat) = zi_l x) (K : zw_W g M k (pc + 1) L (zv_l x :: S) σ) : zw_W g M k pc L S σ := by
  obtain ⟨p, l, e, R, s, m, args, below, meth, c, cells, slots, Q, A⟩ := k
  obtain ⟨hx, hb, hml, hown, hts, hK, hA, hf1, hf2, hc1, hc2, hN⟩ := C
  intro H locs ls hP hS hl
  exact lv_lconst hx hb hd hn (K H locs ls hP hS hl)
theorem zr_iload (C : zk_ok g M k) {i : Nat} {x : Int32} (hd : decode M.2.1 pc = .ok (.iload i, 2)) (q : Nat) (hq : L[q]? = some (i, .int x)) (K : zw_W g M k (pc + 2) L (.int x :: S) σ) : zw_W g M k pc L S σ := by
  obtain ⟨p, l, e, R, s, m, args, below, meth, c, cells, slots, Q, A⟩ := k
  obtain ⟨hx, hb, hml, hown, hts, hK, hA, hf1, hf2, hc1, hc2, hN⟩ := C
  intro H locs ls hP hS hl
  exact lv_iload hx hb hd (lv_at hl q hq) (K H locs ls hP hS hl)
theorem zr_iload_n (C : zk_ok g M k) {i : Fin 4} {x : Int32} (hd : decode M.2.1 pc = .ok (.iload_n i, 1)) (q : Nat) (hq : L[q]? = some ((i : Nat), .int x)) (K : zw_W g M k (pc + 1) L (.int x :: S) σ) : zw_W g M k pc L S σ := by
  obtain ⟨p, l, e, R, s, m, args, below, meth, c, cells, slots, Q, A⟩ := k
  obtain ⟨hx, hb, hml, hown, hts, hK, hA, hf1, hf2, hc1, hc2, hN⟩ := C
  intro H locs ls hP hS hl
  exact lv_iload_n hx hb hd rfl (lv_at hl q hq) (K H locs ls hP hS hl)
theorem zr_lload (C : zk_ok g M k) {i : Nat} {x : Int64} (hd : decode M.2.1 pc = .ok (.lload i, 2)) (q : Nat) (hq : L[q]? = some (i, .long x)) (K : zw_W g M k (pc + 2) L (.long x :: S) σ) : zw_W g M k pc L S σ := by
  obtain ⟨p, l, e, R, s, m, args, below, meth, c, cells, slots, Q, A⟩ := k
  obtain ⟨hx, hb, hml, hown, hts, hK, hA, hf1, hf2, hc1, hc2, hN⟩ := C
  intro H locs ls hP hS hl
  exact lv_lload hx hb hd (lv_at hl q hq) (K H locs ls hP hS hl)
theorem zr_lload_n (C : zk_ok g M k) {i : Fin 4} {x : Int64} (hd : decode M.2.1 pc = .ok (.lload_n i, 1)) (q : Nat) (hq : L[q]? = some ((i : Nat), .long x)) (K : zw_W g M k (pc + 1) L (.long x :: S) σ) : zw_W g M k pc L S σ := by
  obtain ⟨p, l, e, R, s, m, args, below, meth, c, cells, slots, Q, A⟩ := k
  obtain ⟨hx, hb, hml, hown, hts, hK, hA, hf1, hf2, hc1, hc2, hN⟩ := C
  intro H locs ls hP hS hl
  exact lv_lload_n hx hb hd rfl (lv_at hl q hq) (K H locs ls hP hS hl)
theorem zr_aload (C : zk_ok g M k) {i : Nat} {x : Nat} (hd : decode M.2.1 pc = .ok (.aload i, 2)) (q : Nat) (hq : L[q]? = some (i, .ref x)) (K : zw_W g M k (pc + 2) L (.ref x :: S) σ) : zw_W g M k pc L S σ := by
  obtain ⟨p, l, e, R, s, m, args, below, meth, c, cells, slots, Q, A⟩ := k
  obtain ⟨hx, hb, hml, hown, hts, hK, hA, hf1, hf2, hc1, hc2, hN⟩ := C
  intro H locs ls hP hS hl
  exact lv_aload hx hb hd (lv_at hl q hq) (K H locs ls hP hS hl)
theorem zr_aload_n (C : zk_ok g M k) {i : Fin 4} {x : Nat} (hd : decode M.2.1 pc = .ok (.aload_n i, 1)) (q : Nat) (hq : L[q]? = some ((i : Nat), .ref x)) (K : zw_W g M k (pc + 1) L (.ref x :: S) σ) : zw_W g M k pc L S σ := by
  obtain ⟨p, l, e, R, s, m, args, below, meth, c, cells, slots, Q, A⟩ := k
  obtain ⟨hx, hb, hml, hown, hts, hK, hA, hf1, hf2, hc1, hc2, hN⟩ := C
  intro H locs ls hP hS hl
  exact lv_aload_n hx hb hd rfl (lv_at hl q hq) (K H locs ls hP hS hl)
theorem zr_istore (C : zk_ok g M k) {i : Nat} {x : Int32} (hd : decode M.2.1 pc = .ok (.istore i, 2)) (hi : i < M.2.2.1) (hL : (i, Value.int x) :: L.filter (fun q => !(q.1 == i) && !(q.1 + 1 == i && q.2.category == 2)) = L') (K : zw_W g M k (pc + 2) L' S σ) : zw_W g M k pc L (.int x :: S) σ := by
  obtain ⟨p, l, e, R, s, m, args, below, meth, c, cells, slots, Q, A⟩ := k
  obtain ⟨hx, hb, hml, hown, hts, hK, hA, hf1, hf2, hc1, hc2, hN⟩ := C
  intro H locs ls hP hS hl
  exact lv_istore hx hb hd hl hi hL (fun ls hl => K H locs ls hP hS hl)
theorem zr_istore_n (C : zk_ok g M k) {i : Fin 4} {x : Int32} (hd : decode M.2.1 pc = .ok (.istore_n i, 1)) (hi : (i : Nat) < M.2.2.1) (hL : ((i : Nat), Value.int x) :: L.filter (fun q => !(q.1 == (i : Nat)) && !(q.1 + 1 == (i : Nat) && q.2.category == 2)) = L') (K : zw_W g M k (pc + 1) L' S σ) : zw_W g M k pc L (.int x :: S) σ := by
  obtain ⟨p, l, e, R, s, m, args, below, meth, c, cells, slots, Q, A⟩ := k
  obtain ⟨hx, hb, hml, hown, hts, hK, hA, hf1, hf2, hc1, hc2, hN⟩ := C
  intro H locs ls hP hS hl
  exact lv_istore_n hx hb hd rfl hl hi hL (fun ls hl => K H locs ls hP hS hl)
theorem zr_astore (C : zk_ok g M k) {i : Nat} {x : Nat} (hd : decode M.2.1 pc = .ok (.astore i, 2)) (hi : i < M.2.2.1) (hL : (i, Value.ref x) :: L.filter (fun q => !(q.1 == i) && !(q.1 + 1 == i && q.2.category == 2)) = L') (K : zw_W g M k (pc + 2) L' S σ) : zw_W g M k pc L (.ref x :: S) σ := by
  obtain ⟨p, l, e, R, s, m, args, below, meth, c, cells, slots, Q, A⟩ := k
  obtain ⟨hx, hb, hml, hown, hts, hK, hA, hf1, hf2, hc1, hc2, hN⟩ := C
  intro H locs ls hP hS hl
  exact lv_astore hx hb hd hl hi hL (fun ls hl => K H locs ls hP hS hl)
theorem zr_astore_n (C : zk_ok g M k) {i : Fin 4} {x : Nat} (hd : decode M.2.1 pc = .ok (.astore_n i, 1)) (hi : (i : Nat) < M.2.2.1) (hL : ((i : Nat), Value.ref x) :: L.filter (fun q => !(q.1 == (i : Nat)) && !(q.1 + 1 == (i : Nat) && q.2.category == 2)) = L') (K : zw_W g M k (pc + 1) L' S σ) : zw_W g M k pc L (.ref x :: S) σ := by
  obtain ⟨p, l, e, R, s, m, args, below, meth, c, cells, slots, Q, A⟩ := k
  obtain ⟨hx, hb, hml, hown, hts, hK, hA, hf1, hf2, hc1, hc2, hN⟩ := C
  intro H locs ls hP hS hl
  exact lv_astore_n hx hb hd rfl hl hi hL (fun ls hl => K H locs ls hP hS hl)
theorem zr_lstore (C : zk_ok g M k) {i : Nat} {x : Int64} (hd : decode M.2.1 pc = .ok (.lstore i, 2)) (hi : i + 1 < M.2.2.1) (hL : (i, Value.long x) :: L.filter (fun q => !(q.1 == i) && (!(q.1 == i + 1) && !(q.1 + 1 == i && q.2.category == 2))) = L') (K : zw_W g M k (pc + 2) L' S σ) : zw_W g M k pc L (.long x :: S) σ := by
  obtain ⟨p, l, e, R, s, m, args, below, meth, c, cells, slots, Q, A⟩ := k
  obtain ⟨hx, hb, hml, hown, hts, hK, hA, hf1, hf2, hc1, hc2, hN⟩ := C
  intro H locs ls hP hS hl
  exact lv_lstore hx hb hd hl hi hL (fun ls hl => K H locs ls hP hS hl)
theorem zr_lstore_n (C : zk_ok g M k) {i : Fin 4} {x : Int64} (hd : decode M.2.1 pc = .ok (.lstore_n i, 1)) (hi : (i : Nat) + 1 < M.2.2.1) (hL : ((i : Nat), Value.long x) :: L.filter (fun q => !(q.1 == (i : Nat)) && (!(q.1 == (i : Nat) + 1) && !(q.1 + 1 == (i : Nat) && q.2.category == 2))) = L') (K : zw_W g M k (pc + 1) L' S σ) : zw_W g M k pc L (.long x :: S) σ := by
  obtain ⟨p, l, e, R, s, m, args, below, meth, c, cells, slots, Q, A⟩ := k
  obtain ⟨hx, hb, hml, hown, hts, hK, hA, hf1, hf2, hc1, hc2, hN⟩ := C
  intro H locs ls hP hS hl
  exact lv_lstore_n hx hb hd rfl hl hi hL (fun ls hl => K H locs ls hP hS hl)
theorem zr_iinc (C : zk_ok g M k) {i : Nat} {n x : Int} (hd : decode M.2.1 pc = .ok (.iinc i n, 3)) (q : Nat) (hq : L[q]? = some (i, zv_i x)) (hi : i < M.2.2.1) (hL : (i, zv_i (x + n)) :: L.filter (fun q => !(q.1 == i) && !(q.1 + 1 == i && q.2.category == 2)) = L') (K : zw_W g M k (pc + 3) L' S σ) : zw_W g M k pc L S σ := by
  obtain ⟨p, l, e, R, s, m, args, below, meth, c, cells, slots, Q, A⟩ := k
  obtain ⟨hx, hb, hml, hown, hts, hK, hA, hf1, hf2, hc1, hc2, hN⟩ := C
  intro H locs ls hP hS hl
  exact lv_iinc hx hb hd hl hq (zi_add x n) hi hL (fun ls hl => K H locs ls hP hS hl)
theorem zr_iadd (C : zk_ok g M k) {x y : Int} (hd : decode M.2.1 pc = .ok (.iadd, 1)) (K : zw_W g M k (pc + 1) L (zv_i (x + y) :: S) σ) : zw_W g M k pc L (zv_i y :: zv_i x :: S) σ := by
  obtain ⟨p, l, e, R, s, m, args, below, meth, c, cells, slots, Q, A⟩ := k
  obtain ⟨hx, hb, hml, hown, hts, hK, hA, hf1, hf2, hc1, hc2, hN⟩ := C
  intro H locs ls hP hS hl
  refine lv_iadd hx hb hd ?_
  rw [zi_add]
  exact K H locs ls hP hS hl
theorem zr_isub (C : zk_ok g M k) {x y : Int} (hd : decode M.2.1 pc = .ok (.isub, 1)) (K : zw_W g M k (pc + 1) L (zv_i (x - y) :: S) σ) : zw_W g M k pc L (zv_i y :: zv_i x :: S) σ := by
  obtain ⟨p, l, e, R, s, m, args, below, meth, c, cells, slots, Q, A⟩ := k
  obtain ⟨hx, hb, hml, hown, hts, hK, hA, hf1, hf2, hc1, hc2, hN⟩ := C
  intro H locs ls hP hS hl
  refine lv_isub hx hb hd ?_
  rw [zi_sub]
  exact K H locs ls hP hS hl
theorem zr_imul (C : zk_ok g M k) {x y : Int} (hd : decode M.2.1 pc = .ok (.imul, 1)) (K : zw_W g M k (pc + 1) L (zv_i (x * y) :: S) σ) : zw_W g M k pc L (zv_i y :: zv_i x :: S) σ := by
  obtain ⟨p, l, e, R, s, m, args, below, meth, c, cells, slots, Q, A⟩ := k
  obtain ⟨hx, hb, hml, hown, hts, hK, hA, hf1, hf2, hc1, hc2, hN⟩ := C
  intro H locs ls hP hS hl
  refine lv_imul hx hb hd ?_
  rw [zi_mul]
  exact K H locs ls hP hS hl
theorem zr_ladd (C : zk_ok g M k) {x y : Int} (hd : decode M.2.1 pc = .ok (.ladd, 1)) (K : zw_W g M k (pc + 1) L (zv_l (x + y) :: S) σ) : zw_W g M k pc L (zv_l y :: zv_l x :: S) σ := by
  obtain ⟨p, l, e, R, s, m, args, below, meth, c, cells, slots, Q, A⟩ := k
  obtain ⟨hx, hb, hml, hown, hts, hK, hA, hf1, hf2, hc1, hc2, hN⟩ := C
  intro H locs ls hP hS hl
  refine lv_ladd hx hb hd ?_
  rw [zl_add]
  exact K H locs ls hP hS hl
theorem zr_lsub (C : zk_ok g M k) {x y : Int} (hd : decode M.2.1 pc = .ok (.lsub, 1)) (K : zw_W g M k (pc + 1) L (zv_l (x - y) :: S) σ) : zw_W g M k pc L (zv_l y :: zv_l x :: S) σ := by
  obtain ⟨p, l, e, R, s, m, args, below, meth, c, cells, slots, Q, A⟩ := k
  obtain ⟨hx, hb, hml, hown, hts, hK, hA, hf1, hf2, hc1, hc2, hN⟩ := C
  intro H locs ls hP hS hl
  refine lv_lsub hx hb hd ?_
  rw [zl_sub]
  exact K H locs ls hP hS hl
theorem zr_lmul (C : zk_ok g M k) {x y : Int} (hd : decode M.2.1 pc = .ok (.lmul, 1)) (K : zw_W g M k (pc + 1) L (zv_l (x * y) :: S) σ) : zw_W g M k pc L (zv_l y :: zv_l x :: S) σ := by
  obtain ⟨p, l, e, R, s, m, args, below, meth, c, cells, slots, Q, A⟩ := k
  obtain ⟨hx, hb, hml, hown, hts, hK, hA, hf1, hf2, hc1, hc2, hN⟩ := C
  intro H locs ls hP hS hl
  refine lv_lmul hx hb hd ?_
  rw [zl_mul]
  exact K H locs ls hP hS hl
theorem zr_idiv (C : zk_ok g M k) {x y : Int} (hd : decode M.2.1 pc = .ok (.idiv, 1)) (h1 : 0 ≤ x) (h2 : x ≤ 2147483647) (h3 : 0 < y) (h4 : y ≤ 2147483647) (K : zw_W g M k (pc + 1) L (zv_i (x / y) :: S) σ) : zw_W g M k pc L (zv_i y :: zv_i x :: S) σ := by
  obtain ⟨p, l, e, R, s, m, args, below, meth, c, cells, slots, Q, A⟩ := k
  obtain ⟨hx, hb, hml, hown, hts, hK, hA, hf1, hf2, hc1, hc2, hN⟩ := C
  intro H locs ls hP hS hl
  refine lv_idiv hx hb hd (fun h => by rw [zi_0, zi_eq ⟨by omega, by omega⟩ zi_r0] at h; omega) ?_
  rw [zi_div h1 h2 h3 h4]
  exact K H locs ls hP hS hl
theorem zr_irem (C : zk_ok g M k) {x y : Int} (hd : decode M.2.1 pc = .ok (.irem, 1)) (h1 : 0 ≤ x) (h2 : x ≤ 2147483647) (h3 : 0 < y) (h4 : y ≤ 2147483647) (K : zw_W g M k (pc + 1) L (zv_i (x % y) :: S) σ) : zw_W g M k pc L (zv_i y :: zv_i x :: S) σ := by
  obtain ⟨p, l, e, R, s, m, args, below, meth, c, cells, slots, Q, A⟩ := k
  obtain ⟨hx, hb, hml, hown, hts, hK, hA, hf1, hf2, hc1, hc2, hN⟩ := C
  intro H locs ls hP hS hl
  refine lv_irem hx hb hd (fun h => by rw [zi_0, zi_eq ⟨by omega, by omega⟩ zi_r0] at h; omega) ?_
  rw [zi_rem h1 h2 h3 h4]
  exact K H locs ls hP hS hl
theorem zr_i2l (C : zk_ok g M k) {x : Int} (hd : decode M.2.1 pc = .ok (.i2l, 1)) (h : zi_r x) (K : zw_W g M k (pc + 1) L (zv_l x :: S) σ) : zw_W g M k pc L (zv_i x :: S) σ := by
  obtain ⟨p, l, e, R, s, m, args, below, meth, c, cells, slots, Q, A⟩ := k
  obtain ⟨hx, hb, hml, hown, hts, hK, hA, hf1, hf2, hc1, hc2, hN⟩ := C
  intro H locs ls hP hS hl
  exact lv_i2l hx hb hd (zl_i2l h) (K H locs ls hP hS hl)
theorem zr_dup (C : zk_ok g M k) {a : Value} (hd : decode M.2.1 pc = .ok (.dup, 1)) (ha : a.category = 1) (K : zw_W g M k (pc + 1) L (a :: a :: S) σ) : zw_W g M k pc L (a :: S) σ := by
  obtain ⟨p, l, e, R, s, m, args, below, meth, c, cells, slots, Q, A⟩ := k
  obtain ⟨hx, hb, hml, hown, hts, hK, hA, hf1, hf2, hc1, hc2, hN⟩ := C
  intro H locs ls hP hS hl
  exact lv_dup hx hb hd ha (K H locs ls hP hS hl)
theorem zr_pop (C : zk_ok g M k) {a : Value} (hd : decode M.2.1 pc = .ok (.pop, 1)) (ha : a.category = 1) (K : zw_W g M k (pc + 1) L S σ) : zw_W g M k pc L (a :: S) σ := by
  obtain ⟨p, l, e, R, s, m, args, below, meth, c, cells, slots, Q, A⟩ := k
  obtain ⟨hx, hb, hml, hown, hts, hK, hA, hf1, hf2, hc1, hc2, hN⟩ := C
  intro H locs ls hP hS hl
  exact lv_pop hx hb hd ha (K H locs ls hP hS hl)
theorem zr_dup_x1 (C : zk_ok g M k) {a b : Value} (hd : decode M.2.1 pc = .ok (.dup_x1, 1)) (ha : a.category = 1) (hb2 : b.category = 1) (K : zw_W g M k (pc + 1) L (a :: b :: a :: S) σ) : zw_W g M k pc L (a :: b :: S) σ := by
  obtain ⟨p, l, e, R, s, m, args, below, meth, c, cells, slots, Q, A⟩ := k
  obtain ⟨hx, hb, hml, hown, hts, hK, hA, hf1, hf2, hc1, hc2, hN⟩ := C
  intro H locs ls hP hS hl
  exact lv_dup_x1 hx hb hd ha hb2 (K H locs ls hP hS hl)
theorem zr_dup2_11 (C : zk_ok g M k) {a b : Value} (hd : decode M.2.1 pc = .ok (.dup2, 1)) (ha : a.category = 1) (hb2 : b.category = 1) (K : zw_W g M k (pc + 1) L (a :: b :: a :: b :: S) σ) : zw_W g M k pc L (a :: b :: S) σ := by
  obtain ⟨p, l, e, R, s, m, args, below, meth, c, cells, slots, Q, A⟩ := k
  obtain ⟨hx, hb, hml, hown, hts, hK, hA, hf1, hf2, hc1, hc2, hN⟩ := C
  intro H locs ls hP hS hl
  exact lv_dup2_11 hx hb hd ha hb2 (K H locs ls hP hS hl)
theorem zr_dup_x2 (C : zk_ok g M k) {a b d : Value} (hd : decode M.2.1 pc = .ok (.dup_x2, 1)) (ha : a.category = 1) (hb2 : b.category = 1) (hd2 : d.category = 1) (K : zw_W g M k (pc + 1) L (a :: b :: d :: a :: S) σ) : zw_W g M k pc L (a :: b :: d :: S) σ := by
  obtain ⟨p, l, e, R, s, m, args, below, meth, c, cells, slots, Q, A⟩ := k
  obtain ⟨hx, hb, hml, hown, hts, hK, hA, hf1, hf2, hc1, hc2, hN⟩ := C
  intro H locs ls hP hS hl
  exact lv_dup_x2 hx hb hd ha hb2 hd2 (K H locs ls hP hS hl)
theorem zr_icmp_eq (C : zk_ok g M k) {x y : Int} {off : Int} (tgt : Nat) (hd : decode M.2.1 pc = .ok (.if_icmp .eq off, 3)) (ht : (pc : Int) + off = (tgt : Int)) (hx0 : zi_r x) (hy0 : zi_r y) (K1 : x = y → zw_W g M k tgt L S σ) (K2 : ¬ x = y → zw_W g M k (pc + 3) L S σ) : zw_W g M k pc L (zv_i y :: zv_i x :: S) σ := by
  obtain ⟨p, l, e, R, s, m, args, below, meth, c, cells, slots, Q, A⟩ := k
  obtain ⟨hx, hb, hml, hown, hts, hK, hA, hf1, hf2, hc1, hc2, hN⟩ := C
  intro H locs ls hP hS hl
  exact lv_icmp_eq hx hb hd ht (fun h => K1 ((zi_eq hx0 hy0).mp h) H locs ls hP hS hl) (fun h => K2 (fun q => h ((zi_eq hx0 hy0).mpr q)) H locs ls hP hS hl)
theorem zr_if_eq (C : zk_ok g M k) {x : Int} {off : Int} (tgt : Nat) (hd : decode M.2.1 pc = .ok (.ifCond .eq off, 3)) (ht : (pc : Int) + off = (tgt : Int)) (hx0 : zi_r x) (K1 : x = 0 → zw_W g M k tgt L S σ) (K2 : ¬ x = 0 → zw_W g M k (pc + 3) L S σ) : zw_W g M k pc L (zv_i x :: S) σ := by
  obtain ⟨p, l, e, R, s, m, args, below, meth, c, cells, slots, Q, A⟩ := k
  obtain ⟨hx, hb, hml, hown, hts, hK, hA, hf1, hf2, hc1, hc2, hN⟩ := C
  intro H locs ls hP hS hl
  exact lv_if_eq hx hb hd ht (fun h => K1 ((zi_eq hx0 zi_r0).mp h) H locs ls hP hS hl) (fun h => K2 (fun q => h ((zi_eq hx0 zi_r0).mpr q)) H locs ls hP hS hl)
theorem zr_icmp_ne (C : zk_ok g M k) {x y : Int} {off : Int} (tgt : Nat) (hd : decode M.2.1 pc = .ok (.if_icmp .ne off, 3)) (ht : (pc : Int) + off = (tgt : Int)) (hx0 : zi_r x) (hy0 : zi_r y) (K1 : ¬ x = y → zw_W g M k tgt L S σ) (K2 : x = y → zw_W g M k (pc + 3) L S σ) : zw_W g M k pc L (zv_i y :: zv_i x :: S) σ := by
  obtain ⟨p, l, e, R, s, m, args, below, meth, c, cells, slots, Q, A⟩ := k
  obtain ⟨hx, hb, hml, hown, hts, hK, hA, hf1, hf2, hc1, hc2, hN⟩ := C
  intro H locs ls hP hS hl
  exact lv_icmp_ne hx hb hd ht (fun h => K1 (fun q => h ((zi_eq hx0 hy0).mpr q)) H locs ls hP hS hl) (fun h => K2 ((zi_eq hx0 hy0).mp h) H locs ls hP hS hl)
theorem zr_if_ne (C : zk_ok g M k) {x : Int} {off : Int} (tgt : Nat) (hd : decode M.2.1 pc = .ok (.ifCond .ne off, 3)) (ht : (pc : Int) + off = (tgt : Int)) (hx0 : zi_r x) (K1 : ¬ x = 0 → zw_W g M k tgt L S σ) (K2 : x = 0 → zw_W g M k (pc + 3) L S σ) : zw_W g M k pc L (zv_i x :: S) σ := by
  obtain ⟨p, l, e, R, s, m, args, below, meth, c, cells, slots, Q, A⟩ := k
  obtain ⟨hx, hb, hml, hown, hts, hK, hA, hf1, hf2, hc1, hc2, hN⟩ := C
  intro H locs ls hP hS hl
  exact lv_if_ne hx hb hd ht (fun h => K1 (fun q => h ((zi_eq hx0 zi_r0).mpr q)) H locs ls hP hS hl) (fun h => K2 ((zi_eq hx0 zi_r0).mp h) H locs ls hP hS hl)
theorem zr_icmp_lt (C : zk_ok g M k) {x y : Int} {off : Int} (tgt : Nat) (hd : decode M.2.1 pc = .ok (.if_icmp .lt off, 3)) (ht : (pc : Int) + off = (tgt : Int)) (hx0 : zi_r x) (hy0 : zi_r y) (K1 : x < y → zw_W g M k tgt L S σ) (K2 : ¬ x < y → zw_W g M k (pc + 3) L S σ) : zw_W g M k pc L (zv_i y :: zv_i x :: S) σ := by
  obtain ⟨p, l, e, R, s, m, args, below, meth, c, cells, slots, Q, A⟩ := k
  obtain ⟨hx, hb, hml, hown, hts, hK, hA, hf1, hf2, hc1, hc2, hN⟩ := C
  intro H locs ls hP hS hl
  exact lv_icmp_lt hx hb hd ht (fun h => K1 ((zi_lt hx0 hy0).mp h) H locs ls hP hS hl) (fun h => K2 (fun q => h ((zi_lt hx0 hy0).mpr q)) H locs ls hP hS hl)
theorem zr_if_lt (C : zk_ok g M k) {x : Int} {off : Int} (tgt : Nat) (hd : decode M.2.1 pc = .ok (.ifCond .lt off, 3)) (ht : (pc : Int) + off = (tgt : Int)) (hx0 : zi_r x) (K1 : x < 0 → zw_W g M k tgt L S σ) (K2 : ¬ x < 0 → zw_W g M k (pc + 3) L S σ) : zw_W g M k pc L (zv_i x :: S) σ := by
  obtain ⟨p, l, e, R, s, m, args, below, meth, c, cells, slots, Q, A⟩ := k
  obtain ⟨hx, hb, hml, hown, hts, hK, hA, hf1, hf2, hc1, hc2, hN⟩ := C
  intro H locs ls hP hS hl
  exact lv_if_lt hx hb hd ht (fun h => K1 ((zi_lt hx0 zi_r0).mp h) H locs ls hP hS hl) (fun h => K2 (fun q => h ((zi_lt hx0 zi_r0).mpr q)) H locs ls hP hS hl)
theorem zr_icmp_ge (C : zk_ok g M k) {x y : Int} {off : Int} (tgt : Nat) (hd : decode M.2.1 pc = .ok (.if_icmp .ge off, 3)) (ht : (pc : Int) + off = (tgt : Int)) (hx0 : zi_r x) (hy0 : zi_r y) (K1 : y ≤ x → zw_W g M k tgt L S σ) (K2 : ¬ y ≤ x → zw_W g M k (pc + 3) L S σ) : zw_W g M k pc L (zv_i y :: zv_i x :: S) σ := by
  obtain ⟨p, l, e, R, s, m, args, below, meth, c, cells, slots, Q, A⟩ := k
  obtain ⟨hx, hb, hml, hown, hts, hK, hA, hf1, hf2, hc1, hc2, hN⟩ := C
  intro H locs ls hP hS hl
  exact lv_icmp_ge hx hb hd ht (fun h => K1 ((zi_le hy0 hx0).mp h) H locs ls hP hS hl) (fun h => K2 (fun q => h ((zi_le hy0 hx0).mpr q)) H locs ls hP hS hl)
theorem zr_if_ge (C : zk_ok g M k) {x : Int} {off : Int} (tgt : Nat) (hd : decode M.2.1 pc = .ok (.ifCond .ge off, 3)) (ht : (pc : Int) + off = (tgt : Int)) (hx0 : zi_r x) (K1 : 0 ≤ x → zw_W g M k tgt L S σ) (K2 : ¬ 0 ≤ x → zw_W g M k (pc + 3) L S σ) : zw_W g M k pc L (zv_i x :: S) σ := by
  obtain ⟨p, l, e, R, s, m, args, below, meth, c, cells, slots, Q, A⟩ := k
  obtain ⟨hx, hb, hml, hown, hts, hK, hA, hf1, hf2, hc1, hc2, hN⟩ := C
  intro H locs ls hP hS hl
  exact lv_if_ge hx hb hd ht (fun h => K1 ((zi_le zi_r0 hx0).mp h) H locs ls hP hS hl) (fun h => K2 (fun q => h ((zi_le zi_r0 hx0).mpr q)) H locs ls hP hS hl)
theorem zr_icmp_gt (C : zk_ok g M k) {x y : Int} {off : Int} (tgt : Nat) (hd : decode M.2.1 pc = .ok (.if_icmp .gt off, 3)) (ht : (pc : Int) + off = (tgt : Int)) (hx0 : zi_r x) (hy0 : zi_r y) (K1 : y < x → zw_W g M k tgt L S σ) (K2 : ¬ y < x → zw_W g M k (pc + 3) L S σ) : zw_W g M k pc L (zv_i y :: zv_i x :: S) σ := by
  obtain ⟨p, l, e, R, s, m, args, below, meth, c, cells, slots, Q, A⟩ := k
  obtain ⟨hx, hb, hml, hown, hts, hK, hA, hf1, hf2, hc1, hc2, hN⟩ := C
  intro H locs ls hP hS hl
  exact lv_icmp_gt hx hb hd ht (fun h => K1 ((zi_lt hy0 hx0).mp h) H locs ls hP hS hl) (fun h => K2 (fun q => h ((zi_lt hy0 hx0).mpr q)) H locs ls hP hS hl)
theorem zr_if_gt (C : zk_ok g M k) {x : Int} {off : Int} (tgt : Nat) (hd : decode M.2.1 pc = .ok (.ifCond .gt off, 3)) (ht : (pc : Int) + off = (tgt : Int)) (hx0 : zi_r x) (K1 : 0 < x → zw_W g M k tgt L S σ) (K2 : ¬ 0 < x → zw_W g M k (pc + 3) L S σ) : zw_W g M k pc L (zv_i x :: S) σ := by
  obtain ⟨p, l, e, R, s, m, args, below, meth, c, cells, slots, Q, A⟩ := k
  obtain ⟨hx, hb, hml, hown, hts, hK, hA, hf1, hf2, hc1, hc2, hN⟩ := C
  intro H locs ls hP hS hl
  exact lv_if_gt hx hb hd ht (fun h => K1 ((zi_lt zi_r0 hx0).mp h) H locs ls hP hS hl) (fun h => K2 (fun q => h ((zi_lt zi_r0 hx0).mpr q)) H locs ls hP hS hl)
theorem zr_icmp_le (C : zk_ok g M k) {x y : Int} {off : Int} (tgt : Nat) (hd : decode M.2.1 pc = .ok (.if_icmp .le off, 3)) (ht : (pc : Int) + off = (tgt : Int)) (hx0 : zi_r x) (hy0 : zi_r y) (K1 : x ≤ y → zw_W g M k tgt L S σ) (K2 : ¬ x ≤ y → zw_W g M k (pc + 3) L S σ) : zw_W g M k pc L (zv_i y :: zv_i x :: S) σ := by
  obtain ⟨p, l, e, R, s, m, args, below, meth, c, cells, slots, Q, A⟩ := k
  obtain ⟨hx, hb, hml, hown, hts, hK, hA, hf1, hf2, hc1, hc2, hN⟩ := C
  intro H locs ls hP hS hl
  exact lv_icmp_le hx hb hd ht (fun h => K1 ((zi_le hx0 hy0).mp h) H locs ls hP hS hl) (fun h => K2 (fun q => h ((zi_le hx0 hy0).mpr q)) H locs ls hP hS hl)
theorem zr_if_le (C : zk_ok g M k) {x : Int} {off : Int} (tgt : Nat) (hd : decode M.2.1 pc = .ok (.ifCond .le off, 3)) (ht : (pc : Int) + off = (tgt : Int)) (hx0 : zi_r x) (K1 : x ≤ 0 → zw_W g M k tgt L S σ) (K2 : ¬ x ≤ 0 → zw_W g M k (pc + 3) L S σ) : zw_W g M k pc L (zv_i x :: S) σ := by
  obtain ⟨p, l, e, R, s, m, args, below, meth, c, cells, slots, Q, A⟩ := k
  obtain ⟨hx, hb, hml, hown, hts, hK, hA, hf1, hf2, hc1, hc2, hN⟩ := C
  intro H locs ls hP hS hl
  exact lv_if_le hx hb hd ht (fun h => K1 ((zi_le hx0 zi_r0).mp h) H locs ls hP hS hl) (fun h => K2 (fun q => h ((zi_le hx0 zi_r0).mpr q)) H locs ls hP hS hl)
theorem zr_if_eq_b (C : zk_ok g M k) {b : Prop} [Decidable b] {off : Int} (tgt : Nat) (hd : decode M.2.1 pc = .ok (.ifCond .eq off, 3)) (ht : (pc : Int) + off = (tgt : Int)) (K1 : ¬ b → zw_W g M k tgt L S σ) (K2 : b → zw_W g M k (pc + 3) L S σ) : zw_W g M k pc L (zv_i (zi_b b) :: S) σ := by
  obtain ⟨p, l, e, R, s, m, args, below, meth, c, cells, slots, Q, A⟩ := k
  obtain ⟨hx, hb, hml, hown, hts, hK, hA, hf1, hf2, hc1, hc2, hN⟩ := C
  intro H locs ls hP hS hl
  refine zr_if_eq (k := (p, l, e, R, s, m, args, below, meth, c, cells, slots, Q, A)) ⟨hx, hb, hml, hown, hts, hK, hA, hf1, hf2, hc1, hc2, hN⟩ tgt hd ht (by rcases zi_b01 b with h | h <;> rw [h] <;> exact ⟨by decide, by decide⟩) (fun h => K1 ?_) (fun h => K2 ?_) H locs ls hP hS hl
  · exact fun q => by rw [zi_bt q] at h; exact absurd h (by decide)
  · exact Classical.byContradiction fun q => h (zi_bf q)
theorem zr_if_ne_b (C : zk_ok g M k) {b : Prop} [Decidable b] {off : Int} (tgt : Nat) (hd : decode M.2.1 pc = .ok (.ifCond .ne off, 3)) (ht : (pc : Int) + off = (tgt : Int)) (K1 : b → zw_W g M k tgt L S σ) (K2 : ¬ b → zw_W g M k (pc + 3) L S σ) : zw_W g M k pc L (zv_i (zi_b b) :: S) σ := by
  obtain ⟨p, l, e, R, s, m, args, below, meth, c, cells, slots, Q, A⟩ := k
  obtain ⟨hx, hb, hml, hown, hts, hK, hA, hf1, hf2, hc1, hc2, hN⟩ := C
  intro H locs ls hP hS hl
  refine zr_if_ne (k := (p, l, e, R, s, m, args, below, meth, c, cells, slots, Q, A)) ⟨hx, hb, hml, hown, hts, hK, hA, hf1, hf2, hc1, hc2, hN⟩ tgt hd ht (by rcases zi_b01 b with h | h <;> rw [h] <;> exact ⟨by decide, by decide⟩) (fun h => K1 ?_) (fun h => K2 ?_) H locs ls hP hS hl
  · exact Classical.byContradiction fun q => h (zi_bf q)
  · exact fun q => by rw [zi_bt q] at h; exact absurd h (by decide)
theorem zr_goto (C : zk_ok g M k) {off : Int} (tgt : Nat) (hd : decode M.2.1 pc = .ok (.goto off, 3)) (ht : (pc : Int) + off = (tgt : Int)) (K : zw_W g M k tgt L S σ) : zw_W g M k pc L S σ := by
  obtain ⟨p, l, e, R, s, m, args, below, meth, c, cells, slots, Q, A⟩ := k
  obtain ⟨hx, hb, hml, hown, hts, hK, hA, hf1, hf2, hc1, hc2, hN⟩ := C
  intro H locs ls hP hS hl
  exact lv_goto hx hb hd ht (K H locs ls hP hS hl)
theorem zr_sub (ks : List Nat) (hL : lv_pick L ks = L') (K : zw_W g M k pc L' S σ) : zw_W g M k pc L S σ := by
  obtain ⟨p, l, e, R, s, m, args, below, meth, c, cells, slots, Q, A⟩ := k
  intro H locs ls hP hS hl
  exact K H locs ls hP hS (lv_sub hl ks hL)
end ZR
end
section
section ZH
variable {g : zg_G} {M : zm_T} {k : zk_T} {pc : Nat} {L L' : List (Nat × Value)} {S : List Value} {σ : zs_S}
/-- an array of numbers in the world -/
theorem zs_arr {c t len : Nat} (hc : c < zs_N) (hs : zs_sh g.2.2.2 c = .inl (t, len)) (ht : t ≠ 2) : (zs_W g σ)[c]? = some (g.2.2.1 c, .inl (g.2.1 t, len, .inl (fun j => zi_w (σ c j)))) := by
  rw [zs_at g σ hc, hs]
  simp [zs_c, ht]
theorem zs_arrL {c len : Nat} (hc : c < zs_N) (hs : zs_sh g.2.2.2 c = .inl (2, len)) : (zs_W g σ)[c]? = some (g.2.2.1 c, .inl (g.2.1 2, len, .inr (.inl (fun j => zi_l (σ c j))))) := by
  rw [zs_at g σ hc, hs]
  simp [zs_c]
theorem zs_arrR {c t len : Nat} {f : Nat → Nat} (hc : c < zs_N) (hs : zs_sh g.2.2.2 c = .inr (.inl (t, len, f))) : (zs_W g σ)[c]? = some (g.2.2.1 c, .inl (g.2.1 t, len, .inr (.inr (.inr (.inr (fun j => some (g.2.2.1 (f j)))))))) := by
  rw [zs_at g σ hc, hs]
  rfl
theorem zs_obj {c ci : Nat} {fk : List (Option (Option Nat))} (hc : c < zs_N) (hs : zs_sh g.2.2.2 c = .inr (.inr (ci, fk))) : (zs_W g σ)[c]? = some (g.2.2.1 c, .inr (ci, zs_fl g σ c 0 fk)) := by
  rw [zs_at g σ hc, hs]
  rfl
theorem zs_upd {c : Nat} {i x : Int} (h0 : 0 ≤ i) : upd (fun j : Nat => zi_w (σ c j)) i.toNat (zi_w x) = fun j : Nat => zi_w (zs_put σ c i x c j) := by
  funext j
  unfold upd
  by_cases h : j = i.toNat
  · rw [if_pos h, show (j : Int) = i by omega, zs_put_self]
  · rw [if_neg h, zs_put_off (by omega)]
theorem zs_updL {c : Nat} {i x : Int} (h0 : 0 ≤ i) : vp_updL (fun j : Nat => zi_l (σ c j)) i.toNat (zi_l x) = fun j : Nat => zi_l (zs_put σ c i x c j) := by
  funext j
  unfold vp_updL
  by_cases h : j = i.toNat
  · rw [if_pos h, show (j : Int) = i by omega, zs_put_self]
  · rw [if_neg h, zs_put_off (by omega)]
theorem zr_iaload (C : zk_ok g M k) {c len : Nat} {i : Int} (hd : decode M.2.1 pc = .ok (.iaload, 1)) (hc : c < zs_N) (hs : zs_sh g.2.2.2 c = .inl (0, len)) (h : 0 ≤ i ∧ i < len) (hn : (len : Int) ≤ 2147483647)
    (K : zw_W g M k (pc + 1) L (zv_i (σ c i) :: S) σ) : zw_W g M k pc L (zv_i i :: .ref (g.2.2.1 c) :: S) σ := by
  obtain ⟨p, l, e, R, s, m, args, below, meth, cd, cells, slots, Q, A⟩ := k
  obtain ⟨hx, hb, hml, hown, hts, hK, hA, hf1, hf2, hc1, hc2, hN⟩ := C
  intro H locs ls hP hS hl
  refine va_iald hx hb hK hP c 0 (zs_arr hc hs (by decide)) (zg_ty_at g (by decide)) (zi_in h.1 h.2 hn) hd ?_
  rw [zi_cl h.1 (by omega)]
  have e1 : ((i.toNat : Nat) : Int) = i := by omega
  show W _ _ _ _ _ _ _ _ _ _ _ _ _ _ _ (F0 m (pc + 1) ls (.int (zi_w (σ c ((i.toNat : Nat) : Int))) :: S))
  rw [e1]
  exact K H locs ls hP hS hl
theorem zr_baload (C : zk_ok g M k) {c len : Nat} {i : Int} (hd : decode M.2.1 pc = .ok (.baload, 1)) (hc : c < zs_N) (hs : zs_sh g.2.2.2 c = .inl (1, len)) (h : 0 ≤ i ∧ i < len) (hn : (len : Int) ≤ 2147483647)
    (K : zw_W g M k (pc + 1) L (zv_i (σ c i) :: S) σ) : zw_W g M k pc L (zv_i i :: .ref (g.2.2.1 c) :: S) σ := by
  obtain ⟨p, l, e, R, s, m, args, below, meth, cd, cells, slots, Q, A⟩ := k
  obtain ⟨hx, hb, hml, hown, hts, hK, hA, hf1, hf2, hc1, hc2, hN⟩ := C
  intro H locs ls hP hS hl
  refine va_zald hx hb hK hP c 1 (zs_arr hc hs (by decide)) (zg_ty_at g (by decide)) (zi_in h.1 h.2 hn) hd ?_
  rw [zi_cl h.1 (by omega)]
  have e1 : ((i.toNat : Nat) : Int) = i := by omega
  show W _ _ _ _ _ _ _ _ _ _ _ _ _ _ _ (F0 m (pc + 1) ls (.int (zi_w (σ c ((i.toNat : Nat) : Int))) :: S))
  rw [e1]
  exact K H locs ls hP hS hl
theorem zr_laload (C : zk_ok g M k) {c len : Nat} {i : Int} (hd : decode M.2.1 pc = .ok (.laload, 1)) (hc : c < zs_N) (hs : zs_sh g.2.2.2 c = .inl (2, len)) (h : 0 ≤ i ∧ i < len) (hn : (len : Int) ≤ 2147483647)
    (K : zw_W g M k (pc + 1) L (zv_l (σ c i) :: S) σ) : zw_W g M k pc L (zv_i i :: .ref (g.2.2.1 c) :: S) σ := by
  obtain ⟨p, l, e, R, s, m, args, below, meth, cd, cells, slots, Q, A⟩ := k
  obtain ⟨hx, hb, hml, hown, hts, hK, hA, hf1, hf2, hc1, hc2, hN⟩ := C
  intro H locs ls hP hS hl
  refine va_lald hx hb hK hP c 2 (zs_arrL hc hs) (zg_ty_at g (by decide)) (zi_in h.1 h.2 hn) hd ?_
  rw [zi_cl h.1 (by omega)]
  have e1 : ((i.toNat : Nat) : Int) = i := by omega
  show W _ _ _ _ _ _ _ _ _ _ _ _ _ _ _ (F0 m (pc + 1) ls (.long (zi_l (σ c ((i.toNat : Nat) : Int))) :: S))
  rw [e1]
  exact K H locs ls hP hS hl
theorem zr_aaload (C : zk_ok g M k) {c t len : Nat} {f : Nat → Nat} {i : Int} (hd : decode M.2.1 pc = .ok (.aaload, 1)) (hc : c < zs_N) (hs : zs_sh g.2.2.2 c = .inr (.inl (t, len, f))) (ht : t = 3 ∨ t = 4) (h : 0 ≤ i ∧ i < len) (hn : (len : Int) ≤ 2147483647)
    (K : zw_W g M k (pc + 1) L (.ref (g.2.2.1 (f i.toNat)) :: S) σ) : zw_W g M k pc L (zv_i i :: .ref (g.2.2.1 c) :: S) σ := by
  obtain ⟨p, l, e, R, s, m, args, below, meth, cd, cells, slots, Q, A⟩ := k
  obtain ⟨hx, hb, hml, hown, hts, hK, hA, hf1, hf2, hc1, hc2, hN⟩ := C
  intro H locs ls hP hS hl
  obtain ⟨Cn, hCn⟩ : ∃ Cn, zg_ty t = .object Cn := by
    rcases ht with rfl | rfl
    · exact ⟨_, rfl⟩
    · exact ⟨_, rfl⟩
  refine va_aldq (C := Cn) hx hb hK hP c t (zs_arrR hc hs) (by rw [zg_ty_at g (by omega), hCn]) (zi_in h.1 h.2 hn) hd ?_
  rw [zi_cl h.1 (by omega)]
  exact K H locs ls hP hS hl
theorem zr_alen (C : zk_ok g M k) {c t len : Nat} (n : Int) (hd : decode M.2.1 pc = .ok (.arraylength, 1)) (hc : c < zs_N) (hs : zs_sh g.2.2.2 c = .inl (t, len)) (ht : t < 2) (hn : (len : Int) = n)
    (K : zw_W g M k (pc + 1) L (zv_i n :: S) σ) : zw_W g M k pc L (.ref (g.2.2.1 c) :: S) σ := by
  obtain ⟨p, l, e, R, s, m, args, below, meth, cd, cells, slots, Q, A⟩ := k
  obtain ⟨hx, hb, hml, hown, hts, hK, hA, hf1, hf2, hc1, hc2, hN⟩ := C
  intro H locs ls hP hS hl
  refine va_alen (v := zi_w n) hx hb hK hP c t (zs_arr hc hs (by omega)) (zg_ty_at g (by omega)) ?_ hd (K H locs ls hP hS hl)
  subst hn
  rfl
theorem zr_iastore (C : zk_ok g M k) {c len : Nat} {i x : Int} (hd : decode M.2.1 pc = .ok (.iastore, 1)) (hc : c < zs_N) (hs : zs_sh g.2.2.2 c = .inl (0, len)) (h : 0 ≤ i ∧ i < len) (hn : (len : Int) ≤ 2147483647)
    (K : ∀ τ : zs_S, τ = zs_put σ c i x → zw_W g M k (pc + 1) L S τ) : zw_W g M k pc L (zv_i x :: zv_i i :: .ref (g.2.2.1 c) :: S) σ := by
  have K := K _ rfl
  obtain ⟨p, l, e, R, s, m, args, below, meth, cd, cells, slots, Q, A⟩ := k
  obtain ⟨hx, hb, hml, hown, hts, hK, hA, hf1, hf2, hc1, hc2, hN⟩ := C
  intro H locs ls hP hS hl
  refine va_iast hx hb hK hP (zg_D hA σ) hS c 0 (zs_arr hc hs (by decide)) (zg_ty_at g (by decide)) (zi_in h.1 h.2 hn) hd (fun H1 locs1 hP1 _ hS1 => ?_)
  refine K H1 locs1 ls ?_ hS1 hl
  rw [zi_cl h.1 (by omega), zs_upd h.1] at hP1
  rw [← zs_set (σ := σ) (τ := zs_put σ c i x) (k := c) (fun c' h' j => zs_put_ne h' j), hs]
  exact hP1
theorem zr_bastore (C : zk_ok g M k) {c len : Nat} {i x : Int} (hd : decode M.2.1 pc = .ok (.bastore, 1)) (hc : c < zs_N) (hs : zs_sh g.2.2.2 c = .inl (1, len)) (h : 0 ≤ i ∧ i < len) (hn : (len : Int) ≤ 2147483647) (h01 : x = 0 ∨ x = 1)
    (K : ∀ τ : zs_S, τ = zs_put σ c i x → zw_W g M k (pc + 1) L S τ) : zw_W g M k pc L (zv_i x :: zv_i i :: .ref (g.2.2.1 c) :: S) σ := by
  have K := K _ rfl
  obtain ⟨p, l, e, R, s, m, args, below, meth, cd, cells, slots, Q, A⟩ := k
  obtain ⟨hx, hb, hml, hown, hts, hK, hA, hf1, hf2, hc1, hc2, hN⟩ := C
  intro H locs ls hP hS hl
  refine va_zast hx hb hK hP (zg_D hA σ) hS c 1 (zs_arr hc hs (by decide)) (zg_ty_at g (by decide)) (zi_in h.1 h.2 hn) hd (fun H1 locs1 hP1 _ hS1 => ?_)
  refine K H1 locs1 ls ?_ hS1 hl
  rw [show vp_nar .boolean (zi_w x) = zi_w x by rcases h01 with rfl | rfl <;> decide, zi_cl h.1 (by omega), zs_upd h.1] at hP1
  rw [← zs_set (σ := σ) (τ := zs_put σ c i x) (k := c) (fun c' h' j => zs_put_ne h' j), hs]
  exact hP1
theorem zr_lastore (C : zk_ok g M k) {c len : Nat} {i x : Int} (hd : decode M.2.1 pc = .ok (.lastore, 1)) (hc : c < zs_N) (hs : zs_sh g.2.2.2 c = .inl (2, len)) (h : 0 ≤ i ∧ i < len) (hn : (len : Int) ≤ 2147483647)
    (K : ∀ τ : zs_S, τ = zs_put σ c i x → zw_W g M k (pc + 1) L S τ) : zw_W g M k pc L (zv_l x :: zv_i i :: .ref (g.2.2.1 c) :: S) σ := by
  have K := K _ rfl
  obtain ⟨p, l, e, R, s, m, args, below, meth, cd, cells, slots, Q, A⟩ := k
  obtain ⟨hx, hb, hml, hown, hts, hK, hA, hf1, hf2, hc1, hc2, hN⟩ := C
  intro H locs ls hP hS hl
  refine va_last hx hb hK hP (zg_D hA σ) hS c 2 (zs_arrL hc hs) (zg_ty_at g (by decide)) (zi_in h.1 h.2 hn) hd (fun H1 locs1 hP1 _ hS1 => ?_)
  refine K H1 locs1 ls ?_ hS1 hl
  rw [zi_cl h.1 (by omega), zs_updL h.1] at hP1
  rw [← zs_set (σ := σ) (τ := zs_put σ c i x) (k := c) (fun c' h' j => zs_put_ne h' j), hs]
  exact hP1
/-- what a method's field access rests on: the class, its field, the link -/
def zl_F (own : String) (idx ci j : Nat) : Prop := ∃ (C : String) (T : u_T) (N : Nat), zt_cl[ci]? = some (C, T, N) ∧ j < N ∧ (∀ w ∈ u_ws C T N, w ∈ zt_W) ∧ Cond.fieldLink own idx (T j).1 (T j).2.1 (T j).2.2.1 ∈ zt_W
def zl_P (own : String) (idx ci j : Nat) (ty : FieldType) : Prop := ∃ (C : String) (T : u_T) (N : Nat) (ty0 : Nat → FieldType), zt_cl[ci]? = some (C, T, N) ∧ j < N ∧ (∀ w ∈ u_ws C T N, w ∈ zt_W) ∧ Cond.fieldLink own idx (T j).1 (T j).2.1 (T j).2.2.1 ∈ zt_W ∧ (∀ k, k < N → parseFieldDescriptor (T k).2.2.1 = some (ty0 k)) ∧ (∀ a, a < N → ∀ b, b < N → a ≠ b → (T a).2.1 ≠ (T b).2.1) ∧ (T j).2.2.2 = false ∧ parseFieldDescriptor (T j).2.2.1 = some ty
theorem zr_get (C : zk_ok g M k) {c idx ci : Nat} {fk : List (Option (Option Nat))} (j : Nat) (f : Option (Option Nat)) (hd : decode M.2.1 pc = .ok (.getfield idx, 3)) (hF : zl_F M.1.cls idx ci j) (hc : c < zs_N) (hs : zs_sh g.2.2.2 c = .inr (.inr (ci, fk))) (hf : fk[j]? = some f) {v : Value} (hv : zs_v g σ c j f = v)
    (K : zw_W g M k (pc + 3) L (v :: S) σ) : zw_W g M k pc L (.ref (g.2.2.1 c) :: S) σ := by
  obtain ⟨p, l, e, R, s, m, args, below, meth, cd, cells, slots, Q, A⟩ := k
  obtain ⟨hx, hb, hml, hown, hts, hK, hA, hf1, hf2, hc1, hc2, hN⟩ := C
  obtain ⟨Cn, T, N, h1, h2, h3, h4⟩ := hF
  intro H locs ls hP hS hl
  refine va_get hx hb hts h3 hown hK hP c (zs_obj hc hs) h1 j h2 (hts _ h4) (fun _ h => h) ?_ hd (K H locs ls hP hS hl)
  rw [zs_fl_at, hf, Nat.zero_add]
  exact congrArg some hv
theorem zs_fl_set {τ : zs_S} {c j : Nat} {v : Value} {f : Option (Option Nat)} {fk : List (Option (Option Nat))} (hf : fk[j]? = some f) (hv : zs_v g τ c j f = v) (ho : ∀ i : Nat, i ≠ j → τ c i = σ c i) : (zs_fl g σ c 0 fk).set j v = zs_fl g τ c 0 fk := by
  have hj : j < fk.length := (List.getElem?_eq_some_iff.mp hf).1
  apply List.ext_getElem?
  intro i
  by_cases e : j = i
  · subst e
    rw [List.getElem?_set_self (by rw [zs_fl_len]; exact hj), zs_fl_at, hf, Nat.zero_add]
    exact congrArg some hv.symm
  · rw [List.getElem?_set_ne e, zs_fl_at, zs_fl_at, Nat.zero_add]
    cases hq : fk[i]? with
    | none => rfl
    | some f2 =>
      have e2 : zs_v g σ c i f2 = zs_v g τ c i f2 := by
        rcases f2 with _ | _ | q
        · simp [zs_v, ho i (Ne.symm e)]
        · simp [zs_v, ho i (Ne.symm e)]
        · rfl
      simp [e2]
theorem zr_put (C : zk_ok g M k) {c idx ci : Nat} {fk : List (Option (Option Nat))} {x : Int} (j : Nat) (ji : Int) (hji : (j : Int) = ji) (hd : decode M.2.1 pc = .ok (.putfield idx, 3)) (hF : zl_P M.1.cls idx ci j .int) (hc : c < zs_N) (hs : zs_sh g.2.2.2 c = .inr (.inr (ci, fk))) (hf : fk[j]? = some none)
    (K : ∀ τ : zs_S, τ = zs_put σ c ji x → zw_W g M k (pc + 3) L S τ) : zw_W g M k pc L (zv_i x :: .ref (g.2.2.1 c) :: S) σ := by
  subst hji
  have K := K _ rfl
  obtain ⟨p, l, e, R, s, m, args, below, meth, cd, cells, slots, Q, A⟩ := k
  obtain ⟨hx, hb, hml, hown, hts, hK, hA, hf1, hf2, hc1, hc2, hN⟩ := C
  obtain ⟨Cn, T, N, ty0, h1, h2, h3, h4, h5, h6, h7, h8⟩ := hF
  intro H locs ls hP hS hl
  refine va_put hx hb hts h3 ty0 h5 h6 hown hK hP (zg_D hA σ) hS c (zs_obj hc hs) h1 j h2 (hts _ h4) (fun _ h => h) h7 h8 rfl rfl (by rw [zs_fl_len]; exact (List.getElem?_eq_some_iff.mp hf).1) hd (fun H1 locs1 hP1 _ hS1 => ?_)
  refine K H1 locs1 ls ?_ hS1 hl
  rw [zs_fl_set (τ := zs_put σ c j x) hf (by simp [zs_v, zs_put]) (fun i hi => zs_put_off (by omega))] at hP1
  rw [← zs_set (σ := σ) (τ := zs_put σ c j x) (k := c) (fun c' h' j => zs_put_ne h' j), hs]
  exact hP1
theorem zr_putR (C : zk_ok g M k) {c idx ci q : Nat} {fk : List (Option (Option Nat))} {Cv : String} (j : Nat) (ji : Int) (hji : (j : Int) = ji) (hd : decode M.2.1 pc = .ok (.putfield idx, 3)) (hF : zl_P M.1.cls idx ci j (.object Cv)) (hc : c < zs_N) (hs : zs_sh g.2.2.2 c = .inr (.inr (ci, fk))) (hf : fk[j]? = some (some none))
    (K : ∀ τ : zs_S, τ = zs_put σ c ji q → zw_W g M k (pc + 3) L S τ) : zw_W g M k pc L (.ref (g.2.2.1 q) :: .ref (g.2.2.1 c) :: S) σ := by
  subst hji
  have K := K _ rfl
  obtain ⟨p, l, e, R, s, m, args, below, meth, cd, cells, slots, Q, A⟩ := k
  obtain ⟨hx, hb, hml, hown, hts, hK, hA, hf1, hf2, hc1, hc2, hN⟩ := C
  obtain ⟨Cn, T, N, ty0, h1, h2, h3, h4, h5, h6, h7, h8⟩ := hF
  intro H locs ls hP hS hl
  refine va_put hx hb hts h3 ty0 h5 h6 hown hK hP (zg_D hA σ) hS c (zs_obj hc hs) h1 j h2 (hts _ h4) (fun _ h => h) h7 h8 rfl rfl (by rw [zs_fl_len]; exact (List.getElem?_eq_some_iff.mp hf).1) hd (fun H1 locs1 hP1 _ hS1 => ?_)
  refine K H1 locs1 ls ?_ hS1 hl
  rw [zs_fl_set (τ := zs_put σ c j q) hf (by simp [zs_v, zs_put]) (fun i hi => zs_put_off (by omega))] at hP1
  rw [← zs_set (σ := σ) (τ := zs_put σ c j q) (k := c) (fun c' h' j => zs_put_ne h' j), hs]
  exact hP1
/-! CALLS -/
/-- what a callee's name rests on -/
def zl_M (Mc : zm_T) (n : Nat) : Prop := Cond.code Mc.1 Mc.2.1 Mc.2.2.1 Mc.2.2.2.1 ∈ zt_W ∧ Cond.initialized Mc.1.cls ∈ zt_W ∧ Mc.1.cls ≠ "java/lang/invoke/MethodHandle" ∧ Mc.1.cls ≠ "java/lang/invoke/VarHandle" ∧ (parseMethodDescriptor Mc.1.desc).map (fun d => d.parameters.length) = some n
def zl_S (own : String) (idx : Nat) (Mc : zm_T) : Prop := Cond.methodLink own idx Mc.1 ∈ zt_W ∧ Cond.static Mc.1 ∈ zt_W
def zl_SN (own : String) (idx : Nat) (Mc : zm_T) : Prop := Cond.methodLinkNest own idx Mc.1 "StemMill" = zt_N ∧ Cond.static Mc.1 ∈ zt_W
def zl_V (own : String) (idx ci : Nat) (Mc : zm_T) : Prop := ∃ q, zt_cl[ci]? = some q ∧ q.1 = Mc.1.cls ∧ Cond.methodLink own idx Mc.1 ∈ zt_W ∧ Cond.instanceMethod Mc.1 ∈ zt_W ∧ Cond.selects Mc.1.cls Mc.1 Mc.1 ∈ zt_W
theorem zl_good {y : MethodName} {cc : ByteArray} {n : Nat} {rt : Option FieldType} (h : Cond.code y cc n rt ∈ zt_W) : GoodIn zt_W (Cond.code y cc n rt :: zt_W) := by
  intro w hw
  rcases List.mem_cons.mp hw with rfl | hw
  · exact zt_ok _ h
  · exact zt_ok _ hw
theorem zc_blind {g : zg_G} {av : List Value} : FrameBlind (va_Pc av (fun U => va_P g.1 zt_cl (zs_W g σ) U.heap ∧ va_K g.1 zt_cl (zg_tys g) U ∧ zg_ad g (fun _ => True) ∧ va_Nw zt_N U)) := by
  intro a U g1 mk q
  obtain ⟨q0, qP, qK, qD, qN⟩ := q
  exact ⟨q0, qP, va_K.moved (u := U) (U := U.calling g1 mk a) (Vm.Alike.refl U.vm) qK, qD, va_Nw.same rfl (u := U) (U := U.calling g1 mk a) rfl qN⟩
/-- behind a call -/
theorem zc_go {g : zg_G} {M : zm_T} {p : Program} {l : Launch} {e : Env} {R : Room} {s : State} {m : MethodId} {args : Array Value} {below : List Frame} {meth : Method} {c : Code} {H : Heap} {locs : List Loc} {cells slots : Nat} {Q : State → Prop} {A : Nat → Prop} {ls : Array Slot} {st0 rest : List Value} {a : Array Value} {Qc : Option Value → zs_S → Prop}
    (hA : zg_ad g A) (hr : va_Run p l e R s m args below meth c H locs cells slots 0 0 (F0 m pc ls st0) rest (zq_Q g Qc a) (zg_A g)) (hS : va_S A s.heap H locs) (hl : lv_has ls M.2.2.1 L)
    (K : ∀ (v : Option Value) (τ : zs_S), Qc v τ → zw_W g M (p, l, e, R, s, m, args, below, meth, c, cells, slots, Q, A) (pc + 3) L (v.toList ++ rest) τ) : W p l e R s m args below meth c H locs cells slots Q (F0 m pc ls st0) := by
  intro T hT X
  obtain ⟨v, st₀, t, T', L1, h0, X', hL, e1, e2, ⟨⟨v2, τ, hv, hq, hP⟩, hz, hk⟩, st⟩ := hr T hT X
  cases hv
  rw [h0] at hz hk
  have hAA : ∀ q, zg_A g q → A q := fun q h => by
    obtain ⟨i, hi, rfl⟩ := h
    exact hA.2 i hi
  obtain ⟨t2, a1, b1⟩ := K v τ hq T'.heap (locs ++ L1) ls (by rw [e1]; exact hP) ⟨Nat.le_trans hS.1 (by rw [e1]; exact hz), fun q h1 h2 => by rw [e1, hk q (Nat.lt_of_lt_of_le h1 hS.1) (fun z => h2 (hAA q z))]; exact hS.2.1 q h1 h2, fun q hq => by
      rcases List.mem_append.mp hq with h | h
      · exact hS.2.2 q h
      · exact hAA _ (hL q h)⟩ hl T' rfl X'
  exact ⟨t2, st t2 a1, b1⟩
theorem zr_callS (C : zk_ok g M k) {idx n : Nat} {Mc : zm_T} {As rest : List Value} {Qc : Option Value → zs_S → Prop} (hd : decode M.2.1 pc = .ok (.invokestatic idx, 3)) (hM : zl_M Mc n) (hL : zl_S M.1.cls idx Mc) (hn : As.length = n) (hdep : Mc.2.2.2.2.1 + 1 ≤ M.2.2.2.2.1 ∧ 8 + (Mc.2.2.1 + 11) + Mc.2.2.2.2.2 ≤ M.2.2.2.2.2) (hst : S = As.reverse ++ rest) (hcat : (rest.map fun v => v.category).sum ≤ 8)
    (hc : zm_Met g Mc σ As Qc) (K : ∀ (v : Option Value) (τ : zs_S), Qc v τ → zw_W g M k (pc + 3) L (v.toList ++ rest) τ) : zw_W g M k pc L S σ := by
  obtain ⟨p, l, e, R, s, m, args, below, meth, cd, cells, slots, Q, A⟩ := k
  obtain ⟨hx, hb, hml, hown, hts, hK, hA, hf1, hf2, hc1, hc2, hN⟩ := C
  obtain ⟨m1, m2, m3, m4, m5⟩ := hM
  intro H locs ls hP hS hl
  have hr := va_runS (R := R) (locs := locs) (cells := cells) (slots := slots) (below := below) (meth := meth) (e := e) (p := p) (As := As) (rest := rest) (g := F0 m pc ls S) (own := M.1.cls) (nL := M.2.2.1) (cc := M.2.1) (c := cd) (H := H) ⟨hx, hb, hml, hown, hts⟩ (hc l)
    ⟨callB_of n hts (zl_good m1) rfl rfl rfl (hts _ m2) (hts _ hL.1) ⟨m3, m4, m5⟩ ⟨Nat.le_trans hdep.1 hf1, Nat.le_trans hdep.2 hf2⟩, hts _ hL.2⟩
    ⟨zc_blind, fun U hU hW => ⟨rfl, by rw [hU]; exact hP, va_K.moved hW.alike hK, ⟨hA.1, fun _ _ => trivial⟩, va_Nw.warmM hW hN⟩⟩ rfl hn hl.1 hst (lv_room hcat) hd ⟨hc1, hc2⟩
  exact zc_go hA hr hS hl K
theorem zr_callSN (C : zk_ok g M k) {idx n : Nat} {Mc : zm_T} {As rest : List Value} {Qc : Option Value → zs_S → Prop} (hd : decode M.2.1 pc = .ok (.invokestatic idx, 3)) (hM : zl_M Mc n) (hL : zl_SN M.1.cls idx Mc) (hn : As.length = n) (hdep : Mc.2.2.2.2.1 + 1 ≤ M.2.2.2.2.1 ∧ 8 + (Mc.2.2.1 + 11) + Mc.2.2.2.2.2 ≤ M.2.2.2.2.2) (hst : S = As.reverse ++ rest) (hcat : (rest.map fun v => v.category).sum ≤ 8)
    (hc : zm_Met g Mc σ As Qc) (K : ∀ (v : Option Value) (τ : zs_S), Qc v τ → zw_W g M k (pc + 3) L (v.toList ++ rest) τ) : zw_W g M k pc L S σ := by
  obtain ⟨p, l, e, R, s, m, args, below, meth, cd, cells, slots, Q, A⟩ := k
  obtain ⟨hx, hb, hml, hown, hts, hK, hA, hf1, hf2, hc1, hc2, hN⟩ := C
  obtain ⟨m1, m2, m3, m4, m5⟩ := hM
  obtain ⟨hL1, hL2⟩ := hL
  intro H locs ls hP hS hl
  have hr := va_runSN (R := R) (locs := locs) (cells := cells) (slots := slots) (below := below) (meth := meth) (e := e) (p := p) (As := As) (rest := rest) (g := F0 m pc ls S) (own := M.1.cls) (nL := M.2.2.1) (cc := M.2.1) (c := cd) (H := H) ⟨hx, hb, hml, hown, hts⟩ (hc l)
    ⟨va_cnB n hts (zl_good m1) rfl rfl rfl (by rw [hL1]; exact hN) (hts _ m2) ⟨m3, m4, m5⟩ ⟨Nat.le_trans hdep.1 hf1, Nat.le_trans hdep.2 hf2⟩, hts _ hL2, trivial⟩
    ⟨zc_blind, fun U hU hW => ⟨rfl, by rw [hU]; exact hP, va_K.moved hW.alike hK, ⟨hA.1, fun _ _ => trivial⟩, va_Nw.warmM hW hN⟩⟩ rfl hn hl.1 hst (lv_room hcat) hd ⟨hc1, hc2⟩
  exact zc_go hA hr hS hl K
theorem zr_callV (C : zk_ok g M k) {idx n ci b : Nat} {Mc : zm_T} {fk : List (Option (Option Nat))} {As rest : List Value} {Qc : Option Value → zs_S → Prop} (hd : decode M.2.1 pc = .ok (.invokevirtual idx, 3)) (hM : zl_M Mc n) (hL : zl_V M.1.cls idx ci Mc) (hn : As.length = n) (hdep : Mc.2.2.2.2.1 + 1 ≤ M.2.2.2.2.1 ∧ 8 + (Mc.2.2.1 + 11) + Mc.2.2.2.2.2 ≤ M.2.2.2.2.2) (hbN : b < zs_N) (hs : zs_sh g.2.2.2 b = .inr (.inr (ci, fk))) (hst : S = As.reverse ++ .ref (g.2.2.1 b) :: rest) (hcat : (rest.map fun v => v.category).sum ≤ 8)
    (hc : zm_Met g Mc σ (.ref (g.2.2.1 b) :: As) Qc) (K : ∀ (v : Option Value) (τ : zs_S), Qc v τ → zw_W g M k (pc + 3) L (v.toList ++ rest) τ) : zw_W g M k pc L S σ := by
  obtain ⟨p, l, e, R, s, m, args, below, meth, cd, cells, slots, Q, A⟩ := k
  obtain ⟨hx, hb, hml, hown, hts, hK, hA, hf1, hf2, hc1, hc2, hN⟩ := C
  obtain ⟨m1, m2, m3, m4, m5⟩ := hM
  obtain ⟨q, l1, l2, l3, l4, l5⟩ := hL
  intro H locs ls hP hS hl
  have hrecv := va_recv hK hP l1 (zs_obj hbN hs)
  rw [l2] at hrecv
  have hr := va_runV (C := Mc.1.cls) (R := R) (locs := locs) (cells := cells) (slots := slots) (below := below) (meth := meth) (e := e) (p := p) (As := As) (rest := rest) (g := F0 m pc ls S) (own := M.1.cls) (nL := M.2.2.1) (cc := M.2.1) (c := cd) (H := H) ⟨hx, hb, hml, hown, hts⟩ (hc l)
    ⟨callB_of n hts (zl_good m1) rfl rfl rfl (hts _ m2) (hts _ l3) ⟨m3, m4, m5⟩ ⟨Nat.le_trans hdep.1 hf1, Nat.le_trans hdep.2 hf2⟩, hts _ l4, hts _ l5⟩
    ⟨zc_blind, hrecv, fun U hU hW => ⟨rfl, by rw [hU]; exact hP, va_K.moved hW.alike hK, ⟨hA.1, fun _ _ => trivial⟩, va_Nw.warmM hW hN⟩⟩ rfl hn hl.1 hst (lv_room hcat) hd ⟨hc1, hc2⟩
  exact zc_go hA hr hS hl K
/-! RETURNS -/
theorem zr_iret (C : zk_ok g M k) {Q : Option Value → zs_S → Prop} (hr : zk_ret g M Q k) {x : Int32} (hd : decode M.2.1 pc = .ok (.ireturn, 1)) (ht : M.2.2.2.1 = some .int) (hq : Q (some (.int x)) σ) : zw_W g M k pc L [.int x] σ := by
  obtain ⟨p, l, e, R, s, m, args, below, meth, cd, cells, slots, Qf, A⟩ := k
  obtain ⟨hx, hb, hml, hown, hts, hK, hA, hf1, hf2, hc1, hc2, hN⟩ := C
  obtain ⟨rfl, rfl, rfl, rfl, r1, r2⟩ := hr
  intro H locs ls hP hS hl
  exact W.iret hx hb (by rw [r1, ht]) (fun t ht hW => ⟨⟨_, σ, rfl, hq, by rw [ht]; exact hP⟩, hS.F ht⟩) hS.2.2 hd
theorem zr_zret (C : zk_ok g M k) {Q : Option Value → zs_S → Prop} (hr : zk_ret g M Q k) {x : Int} (hd : decode M.2.1 pc = .ok (.ireturn, 1)) (ht : M.2.2.2.1 = some .boolean) (hx01 : x = 0 ∨ x = 1) (hq : Q (some (zv_i x)) σ) : zw_W g M k pc L [zv_i x] σ := by
  obtain ⟨p, l, e, R, s, m, args, below, meth, cd, cells, slots, Qf, A⟩ := k
  obtain ⟨hx, hb, hml, hown, hts, hK, hA, hf1, hf2, hc1, hc2, hN⟩ := C
  obtain ⟨rfl, rfl, rfl, rfl, r1, r2⟩ := hr
  intro H locs ls hP hS hl
  exact W.zret hx hb (by rw [r1, ht]) (by rcases hx01 with rfl | rfl <;> rfl) (fun t ht hW => ⟨⟨_, σ, rfl, hq, by rw [ht]; exact hP⟩, hS.F ht⟩) hS.2.2 hd
theorem zr_vret (C : zk_ok g M k) {Q : Option Value → zs_S → Prop} (hr : zk_ret g M Q k) (hd : decode M.2.1 pc = .ok (.return_, 1)) (ht : M.2.2.2.1 = none) (hq : Q none σ) : zw_W g M k pc L [] σ := by
  obtain ⟨p, l, e, R, s, m, args, below, meth, cd, cells, slots, Qf, A⟩ := k
  obtain ⟨hx, hb, hml, hown, hts, hK, hA, hf1, hf2, hc1, hc2, hN⟩ := C
  obtain ⟨rfl, rfl, rfl, rfl, r1, r2⟩ := hr
  intro H locs ls hP hS hl
  exact W.vret hx hb (by rw [r1, ht]) (fun t ht hW => ⟨⟨_, σ, rfl, hq, by rw [ht]; exact hP⟩, hS.F ht⟩) hS.2.2 hd
/-! Math.max, Math.min -/
def zl_max (own : String) (idx : Nat) : Prop := Cond.methodLink own idx Lib.Math.max.name ∈ zt_W ∧ Cond.static Lib.Math.max.name ∈ zt_W ∧ Cond.initialized "java/lang/Math" ∈ zt_W ∧ Cond.code Lib.Math.max.name Lib.Math.max.code 2 (some .int) ∈ zt_W
def zl_min (own : String) (idx : Nat) : Prop := Cond.methodLink own idx Lib.Math.min.name ∈ zt_W ∧ Cond.static Lib.Math.min.name ∈ zt_W ∧ Cond.initialized "java/lang/Math" ∈ zt_W ∧ Cond.code Lib.Math.min.name Lib.Math.min.code 2 (some .int) ∈ zt_W
theorem zr_max (C : zk_ok g M k) {idx : Nat} {x y : Int} (hd : decode M.2.1 pc = .ok (.invokestatic idx, 3)) (hL : zl_max M.1.cls idx) (hdep : 1 ≤ M.2.2.2.2.1 ∧ 21 ≤ M.2.2.2.2.2) (hcat : (S.map fun v => v.category).sum ≤ 8) (hx0 : zi_r x) (hy0 : zi_r y)
    (K : zw_W g M k (pc + 3) L (zv_i (max x y) :: S) σ) : zw_W g M k pc L (zv_i y :: zv_i x :: S) σ := by
  obtain ⟨p, l, e, R, s, m, args, below, meth, cd, cells, slots, Q, A⟩ := k
  obtain ⟨hx, hb, hml, hown, hts, hK, hA, hf1, hf2, hc1, hc2, hN⟩ := C
  obtain ⟨l1, l2, l3, l4⟩ := hL
  intro H locs ls hP hS hl
  refine va_mmax hx hb (by rw [hml, hl.1]) hown (hts _ l1) (hts _ l2) (hts _ l3) (hts _ l4) (by omega) (by omega) hc1 hc2 hd ?_
  rw [zi_max hx0 hy0]
  exact K H locs ls hP hS hl
theorem zr_min (C : zk_ok g M k) {idx : Nat} {x y : Int} (hd : decode M.2.1 pc = .ok (.invokestatic idx, 3)) (hL : zl_min M.1.cls idx) (hdep : 1 ≤ M.2.2.2.2.1 ∧ 21 ≤ M.2.2.2.2.2) (hcat : (S.map fun v => v.category).sum ≤ 8) (hx0 : zi_r x) (hy0 : zi_r y)
    (K : zw_W g M k (pc + 3) L (zv_i (min x y) :: S) σ) : zw_W g M k pc L (zv_i y :: zv_i x :: S) σ := by
  obtain ⟨p, l, e, R, s, m, args, below, meth, cd, cells, slots, Q, A⟩ := k
  obtain ⟨hx, hb, hml, hown, hts, hK, hA, hf1, hf2, hc1, hc2, hN⟩ := C
  obtain ⟨l1, l2, l3, l4⟩ := hL
  intro H locs ls hP hS hl
  refine va_mmin hx hb (by rw [hml, hl.1]) hown (hts _ l1) (hts _ l2) (hts _ l3) (hts _ l4) (by omega) (by omega) hc1 hc2 hd ?_
  rw [zi_min hx0 hy0]
  exact K H locs ls hP hS hl
end ZH
end
section
abbrev mX0_isTold : zm_T := (yX0_isTold, cX0_isTold, 1, some .boolean, 0, 0)
theorem kX0_isTold : zl_M mX0_isTold 0 := ⟨(zt_mem 439 (by decide +kernel) rfl), (zt_mem 41 (by decide +kernel) rfl), by decide, by decide, by decide +kernel⟩
abbrev mX0_become : zm_T := (yX0_become, cX0_become, 3, none, 1, 23)
theorem kX0_become : zl_M mX0_become 2 := ⟨(zt_mem 426 (by decide +kernel) rfl), (zt_mem 41 (by decide +kernel) rfl), by decide, by decide, by decide +kernel⟩
abbrev mX1_cutBest : zm_T := (yX1_cutBest, cX1_cutBest, 3, some .int, 3, 69)
theorem kX1_cutBest : zl_M mX1_cutBest 0 := ⟨(zt_mem 373 (by decide +kernel) rfl), (zt_mem 32 (by decide +kernel) rfl), by decide, by decide, by decide +kernel⟩
abbrev mX1_choose : zm_T := (yX1_choose, cX1_choose, 5, none, 2, 45)
theorem kX1_choose : zl_M mX1_choose 1 := ⟨(zt_mem 377 (by decide +kernel) rfl), (zt_mem 32 (by decide +kernel) rfl), by decide, by decide, by decide +kernel⟩
abbrev mX1_cutAsTold : zm_T := (yX1_cutAsTold, cX1_cutAsTold, 8, some .int, 3, 69)
theorem kX1_cutAsTold : zl_M mX1_cutAsTold 1 := ⟨(zt_mem 414 (by decide +kernel) rfl), (zt_mem 32 (by decide +kernel) rfl), by decide, by decide, by decide +kernel⟩
abbrev mX1_addLog : zm_T := (yX1_addLog, cX1_addLog, 5, some .boolean, 2, 45)
theorem kX1_addLog : zl_M mX1_addLog 2 := ⟨(zt_mem 398 (by decide +kernel) rfl), (zt_mem 32 (by decide +kernel) rfl), by decide, by decide, by decide +kernel⟩
abbrev mX1_priceFrom : zm_T := (yX1_priceFrom, cX1_priceFrom, 4, some .int, 1, 21)
theorem kX1_priceFrom : zl_M mX1_priceFrom 2 := ⟨(zt_mem 388 (by decide +kernel) rfl), (zt_mem 32 (by decide +kernel) rfl), by decide, by decide, by decide +kernel⟩
abbrev mX1_keepSpare : zm_T := (yX1_keepSpare, cX1_keepSpare, 2, some .int, 0, 0)
theorem kX1_keepSpare : zl_M mX1_keepSpare 0 := ⟨(zt_mem 406 (by decide +kernel) rfl), (zt_mem 32 (by decide +kernel) rfl), by decide, by decide, by decide +kernel⟩
abbrev mX2_solve : zm_T := (yX2_solve, cX2_solve, 3, some .int, 2, 45)
theorem kX2_solve : zl_M mX2_solve 0 := ⟨(zt_mem 593 (by decide +kernel) rfl), (zt_mem 38 (by decide +kernel) rfl), by decide, by decide, by decide +kernel⟩
abbrev mX2_lay : zm_T := (yX2_lay, cX2_lay, 5, none, 1, 23)
theorem kX2_lay : zl_M mX2_lay 1 := ⟨(zt_mem 611 (by decide +kernel) rfl), (zt_mem 38 (by decide +kernel) rfl), by decide, by decide, by decide +kernel⟩
abbrev mX2_farthestLimit : zm_T := (yX2_farthestLimit, cX2_farthestLimit, 3, some .int, 1, 21)
theorem kX2_farthestLimit : zl_M mX2_farthestLimit 0 := ⟨(zt_mem 597 (by decide +kernel) rfl), (zt_mem 38 (by decide +kernel) rfl), by decide, by decide, by decide +kernel⟩
abbrev mX2_reachOnFrom : zm_T := (yX2_reachOnFrom, cX2_reachOnFrom, 4, none, 0, 0)
theorem kX2_reachOnFrom : zl_M mX2_reachOnFrom 1 := ⟨(zt_mem 603 (by decide +kernel) rfl), (zt_mem 38 (by decide +kernel) rfl), by decide, by decide, by decide +kernel⟩
abbrev mX2_mostFrom : zm_T := (yX2_mostFrom, cX2_mostFrom, 5, some .int, 1, 21)
theorem kX2_mostFrom : zl_M mX2_mostFrom 1 := ⟨(zt_mem 607 (by decide +kernel) rfl), (zt_mem 38 (by decide +kernel) rfl), by decide, by decide, by decide +kernel⟩
abbrev mX2_lowestFrom : zm_T := (yX2_lowestFrom, cX2_lowestFrom, 4, some .int, 0, 0)
theorem kX2_lowestFrom : zl_M mX2_lowestFrom 1 := ⟨(zt_mem 615 (by decide +kernel) rfl), (zt_mem 38 (by decide +kernel) rfl), by decide, by decide, by decide +kernel⟩
abbrev mX3_clear : zm_T := (yX3_clear, cX3_clear, 1, none, 0, 0)
theorem kX3_clear : zl_M mX3_clear 0 := ⟨(zt_mem 394 (by decide +kernel) rfl), (zt_mem 33 (by decide +kernel) rfl), by decide, by decide, by decide +kernel⟩
abbrev mX3_add : zm_T := (yX3_add, cX3_add, 7, none, 0, 0)
theorem kX3_add : zl_M mX3_add 5 := ⟨(zt_mem 402 (by decide +kernel) rfl), (zt_mem 33 (by decide +kernel) rfl), by decide, by decide, by decide +kernel⟩
abbrev mX3_fact : zm_T := (yX3_fact, cX3_fact, 3, some .int, 0, 0)
theorem kX3_fact : zl_M mX3_fact 2 := ⟨(zt_mem 559 (by decide +kernel) rfl), (zt_mem 33 (by decide +kernel) rfl), by decide, by decide, by decide +kernel⟩
abbrev mX4_add : zm_T := (yX4_add, cX4_add, 3, none, 0, 0)
theorem kX4_add : zl_M mX4_add 2 := ⟨(zt_mem 619 (by decide +kernel) rfl), (zt_mem 40 (by decide +kernel) rfl), by decide, by decide, by decide +kernel⟩
abbrev mX4_countOf : zm_T := (yX4_countOf, cX4_countOf, 4, some .int, 0, 0)
theorem kX4_countOf : zl_M mX4_countOf 1 := ⟨(zt_mem 639 (by decide +kernel) rfl), (zt_mem 40 (by decide +kernel) rfl), by decide, by decide, by decide +kernel⟩
abbrev mX5_isTold : zm_T := (yX5_isTold, cX5_isTold, 1, some .boolean, 0, 0)
theorem kX5_isTold : zl_M mX5_isTold 0 := ⟨(zt_mem 361 (by decide +kernel) rfl), (zt_mem 35 (by decide +kernel) rfl), by decide, by decide, by decide +kernel⟩
abbrev mX5_become : zm_T := (yX5_become, cX5_become, 3, none, 1, 23)
theorem kX5_become : zl_M mX5_become 2 := ⟨(zt_mem 350 (by decide +kernel) rfl), (zt_mem 35 (by decide +kernel) rfl), by decide, by decide, by decide +kernel⟩
abbrev mX5_slot : zm_T := (yX5_slot, cX5_slot, 2, some .int, 0, 0)
theorem kX5_slot : zl_M mX5_slot 2 := ⟨(zt_mem 365 (by decide +kernel) rfl), (zt_mem 35 (by decide +kernel) rfl), by decide, by decide, by decide +kernel⟩
abbrev mX6_additionFor : zm_T := (yX6_additionFor, cX6_additionFor, 4, some .int, 1, 21)
theorem kX6_additionFor : zl_M mX6_additionFor 1 := ⟨(zt_mem 579 (by decide +kernel) rfl), (zt_mem 37 (by decide +kernel) rfl), by decide, by decide, by decide +kernel⟩
abbrev mX6_deliver : zm_T := (yX6_deliver, cX6_deliver, 3, none, 1, 21)
theorem kX6_deliver : zl_M mX6_deliver 2 := ⟨(zt_mem 643 (by decide +kernel) rfl), (zt_mem 37 (by decide +kernel) rfl), by decide, by decide, by decide +kernel⟩
abbrev mX7_stacks : zm_T := (yX7_stacks, cX7_stacks, 1, some .int, 0, 0)
theorem kX7_stacks : zl_M mX7_stacks 0 := ⟨(zt_mem 472 (by decide +kernel) rfl), (zt_mem 39 (by decide +kernel) rfl), by decide, by decide, by decide +kernel⟩
abbrev mX7_count : zm_T := (yX7_count, cX7_count, 1, some .int, 1, 20)
theorem kX7_count : zl_M mX7_count 0 := ⟨(zt_mem 468 (by decide +kernel) rfl), (zt_mem 39 (by decide +kernel) rfl), by decide, by decide, by decide +kernel⟩
abbrev mX7_countOf : zm_T := (yX7_countOf, cX7_countOf, 2, some .int, 1, 23)
theorem kX7_countOf : zl_M mX7_countOf 1 := ⟨(zt_mem 635 (by decide +kernel) rfl), (zt_mem 39 (by decide +kernel) rfl), by decide, by decide, by decide +kernel⟩
abbrev mX7_isBetterThan : zm_T := (yX7_isBetterThan, cX7_isBetterThan, 2, some .boolean, 0, 0)
theorem kX7_isBetterThan : zl_M mX7_isBetterThan 1 := ⟨(zt_mem 631 (by decide +kernel) rfl), (zt_mem 39 (by decide +kernel) rfl), by decide, by decide, by decide +kernel⟩
abbrev mX7_fact : zm_T := (yX7_fact, cX7_fact, 4, some .int, 1, 24)
theorem kX7_fact : zl_M mX7_fact 2 := ⟨(zt_mem 654 (by decide +kernel) rfl), (zt_mem 39 (by decide +kernel) rfl), by decide, by decide, by decide +kernel⟩
abbrev mX7_factOf : zm_T := (yX7_factOf, cX7_factOf, 5, some .int, 0, 0)
theorem kX7_factOf : zl_M mX7_factOf 4 := ⟨(zt_mem 658 (by decide +kernel) rfl), (zt_mem 39 (by decide +kernel) rfl), by decide, by decide, by decide +kernel⟩
abbrev mX8_sawThrough : zm_T := (yX8_sawThrough, cX8_sawThrough, 5, some .int, 5, 116)
theorem kX8_sawThrough : zl_M mX8_sawThrough 2 := ⟨(zt_mem 570 (by decide +kernel) rfl), (zt_mem 36 (by decide +kernel) rfl), by decide, by decide, by decide +kernel⟩
abbrev mX8_prepare : zm_T := (yX8_prepare, cX8_prepare, 5, none, 2, 44)
theorem kX8_prepare : zl_M mX8_prepare 2 := ⟨(zt_mem 574 (by decide +kernel) rfl), (zt_mem 36 (by decide +kernel) rfl), by decide, by decide, by decide +kernel⟩
abbrev mX8_tryWithoutCant : zm_T := (yX8_tryWithoutCant, cX8_tryWithoutCant, 1, none, 4, 91)
theorem kX8_tryWithoutCant : zl_M mX8_tryWithoutCant 0 := ⟨(zt_mem 585 (by decide +kernel) rfl), (zt_mem 36 (by decide +kernel) rfl), by decide, by decide, by decide +kernel⟩
abbrev mX8_tryHeight : zm_T := (yX8_tryHeight, cX8_tryHeight, 6, some .boolean, 4, 91)
theorem kX8_tryHeight : zl_M mX8_tryHeight 2 := ⟨(zt_mem 627 (by decide +kernel) rfl), (zt_mem 36 (by decide +kernel) rfl), by decide, by decide, by decide +kernel⟩
abbrev mX8_stackFrom : zm_T := (yX8_stackFrom, cX8_stackFrom, 5, some .int, 3, 67)
theorem kX8_stackFrom : zl_M mX8_stackFrom 1 := ⟨(zt_mem 589 (by decide +kernel) rfl), (zt_mem 36 (by decide +kernel) rfl), by decide, by decide, by decide +kernel⟩
abbrev mX8_keepTrial : zm_T := (yX8_keepTrial, cX8_keepTrial, 2, none, 0, 0)
theorem kX8_keepTrial : zl_M mX8_keepTrial 0 := ⟨(zt_mem 623 (by decide +kernel) rfl), (zt_mem 36 (by decide +kernel) rfl), by decide, by decide, by decide +kernel⟩
abbrev mX9_spoil : zm_T := (yX9_spoil, cX9_spoil, 5, some .boolean, 1, 21)
theorem kX9_spoil : zl_M mX9_spoil 3 := ⟨(zt_mem 339 (by decide +kernel) rfl), (zt_mem 34 (by decide +kernel) rfl), by decide, by decide, by decide +kernel⟩
abbrev mX9_lookFrom : zm_T := (yX9_lookFrom, cX9_lookFrom, 5, none, 1, 21)
theorem kX9_lookFrom : zl_M mX9_lookFrom 1 := ⟨(zt_mem 381 (by decide +kernel) rfl), (zt_mem 34 (by decide +kernel) rfl), by decide, by decide, by decide +kernel⟩
abbrev mX10_diameter : zm_T := (yX10_diameter, cX10_diameter, 3, some .boolean, 1, 22)
theorem kX10_diameter : zl_M mX10_diameter 2 := ⟨(zt_mem 331 (by decide +kernel) rfl), (zt_mem 31 (by decide +kernel) rfl), by decide, by decide, by decide +kernel⟩
abbrev mX10_defect : zm_T := (yX10_defect, cX10_defect, 4, some .boolean, 2, 45)
theorem kX10_defect : zl_M mX10_defect 3 := ⟨(zt_mem 335 (by decide +kernel) rfl), (zt_mem 31 (by decide +kernel) rfl), by decide, by decide, by decide +kernel⟩
abbrev mX10_logKind : zm_T := (yX10_logKind, cX10_logKind, 4, some .boolean, 2, 45)
theorem kX10_logKind : zl_M mX10_logKind 3 := ⟨(zt_mem 346 (by decide +kernel) rfl), (zt_mem 31 (by decide +kernel) rfl), by decide, by decide, by decide +kernel⟩
abbrev mX10_priceOf : zm_T := (yX10_priceOf, cX10_priceOf, 5, some .boolean, 1, 22)
theorem kX10_priceOf : zl_M mX10_priceOf 4 := ⟨(zt_mem 357 (by decide +kernel) rfl), (zt_mem 31 (by decide +kernel) rfl), by decide, by decide, by decide +kernel⟩
abbrev mX10_buck : zm_T := (yX10_buck, cX10_buck, 1, some .int, 4, 91)
theorem kX10_buck : zl_M mX10_buck 0 := ⟨(zt_mem 369 (by decide +kernel) rfl), (zt_mem 31 (by decide +kernel) rfl), by decide, by decide, by decide +kernel⟩
abbrev mX10_byHand : zm_T := (yX10_byHand, cX10_byHand, 3, some .int, 4, 96)
theorem kX10_byHand : zl_M mX10_byHand 1 := ⟨(zt_mem 410 (by decide +kernel) rfl), (zt_mem 31 (by decide +kernel) rfl), by decide, by decide, by decide +kernel⟩
abbrev mX10_logs : zm_T := (yX10_logs, cX10_logs, 1, some .int, 0, 0)
theorem kX10_logs : zl_M mX10_logs 0 := ⟨(zt_mem 418 (by decide +kernel) rfl), (zt_mem 31 (by decide +kernel) rfl), by decide, by decide, by decide +kernel⟩
abbrev mX10_log : zm_T := (yX10_log, cX10_log, 4, some .int, 1, 22)
theorem kX10_log : zl_M mX10_log 2 := ⟨(zt_mem 494 (by decide +kernel) rfl), (zt_mem 31 (by decide +kernel) rfl), by decide, by decide, by decide +kernel⟩
abbrev mX10_size : zm_T := (yX10_size, cX10_size, 4, some .boolean, 2, 45)
theorem kX10_size : zl_M mX10_size 3 := ⟨(zt_mem 422 (by decide +kernel) rfl), (zt_mem 31 (by decide +kernel) rfl), by decide, by decide, by decide +kernel⟩
abbrev mX10_boardPrice : zm_T := (yX10_boardPrice, cX10_boardPrice, 4, some .boolean, 2, 43)
theorem kX10_boardPrice : zl_M mX10_boardPrice 3 := ⟨(zt_mem 431 (by decide +kernel) rfl), (zt_mem 31 (by decide +kernel) rfl), by decide, by decide, by decide +kernel⟩
abbrev mX10_height : zm_T := (yX10_height, cX10_height, 3, some .boolean, 1, 22)
theorem kX10_height : zl_M mX10_height 2 := ⟨(zt_mem 443 (by decide +kernel) rfl), (zt_mem 31 (by decide +kernel) rfl), by decide, by decide, by decide +kernel⟩
abbrev mX10_kerf : zm_T := (yX10_kerf, cX10_kerf, 2, some .boolean, 1, 22)
theorem kX10_kerf : zl_M mX10_kerf 1 := ⟨(zt_mem 447 (by decide +kernel) rfl), (zt_mem 31 (by decide +kernel) rfl), by decide, by decide, by decide +kernel⟩
abbrev mX10_need : zm_T := (yX10_need, cX10_need, 3, some .boolean, 1, 22)
theorem kX10_need : zl_M mX10_need 2 := ⟨(zt_mem 451 (by decide +kernel) rfl), (zt_mem 31 (by decide +kernel) rfl), by decide, by decide, by decide +kernel⟩
abbrev mX10_ladder : zm_T := (yX10_ladder, cX10_ladder, 4, some .boolean, 1, 22)
theorem kX10_ladder : zl_M mX10_ladder 3 := ⟨(zt_mem 455 (by decide +kernel) rfl), (zt_mem 31 (by decide +kernel) rfl), by decide, by decide, by decide +kernel⟩
abbrev mX10_needNow : zm_T := (yX10_needNow, cX10_needNow, 2, some .int, 1, 22)
theorem kX10_needNow : zl_M mX10_needNow 1 := ⟨(zt_mem 460 (by decide +kernel) rfl), (zt_mem 31 (by decide +kernel) rfl), by decide, by decide, by decide +kernel⟩
abbrev mX10_saw : zm_T := (yX10_saw, cX10_saw, 3, some .int, 6, 140)
theorem kX10_saw : zl_M mX10_saw 1 := ⟨(zt_mem 566 (by decide +kernel) rfl), (zt_mem 31 (by decide +kernel) rfl), by decide, by decide, by decide +kernel⟩
abbrev mX10_boards : zm_T := (yX10_boards, cX10_boards, 1, some .int, 2, 40)
theorem kX10_boards : zl_M mX10_boards 0 := ⟨(zt_mem 464 (by decide +kernel) rfl), (zt_mem 31 (by decide +kernel) rfl), by decide, by decide, by decide +kernel⟩
abbrev mX10_board : zm_T := (yX10_board, cX10_board, 4, some .int, 2, 47)
theorem kX10_board : zl_M mX10_board 2 := ⟨(zt_mem 650 (by decide +kernel) rfl), (zt_mem 31 (by decide +kernel) rfl), by decide, by decide, by decide +kernel⟩
abbrev mX10_cant : zm_T := (yX10_cant, cX10_cant, 1, some .int, 0, 0)
theorem kX10_cant : zl_M mX10_cant 0 := ⟨(zt_mem 476 (by decide +kernel) rfl), (zt_mem 31 (by decide +kernel) rfl), by decide, by decide, by decide +kernel⟩
abbrev mX10_fits : zm_T := (yX10_fits, cX10_fits, 6, some .boolean, 2, 43)
theorem kX10_fits : zl_M mX10_fits 3 := ⟨(zt_mem 480 (by decide +kernel) rfl), (zt_mem 31 (by decide +kernel) rfl), by decide, by decide, by decide +kernel⟩
abbrev mX10_isToldSize : zm_T := (yX10_isToldSize, cX10_isToldSize, 2, some .boolean, 1, 22)
theorem kX10_isToldSize : zl_M mX10_isToldSize 1 := ⟨(zt_mem 435 (by decide +kernel) rfl), (zt_mem 31 (by decide +kernel) rfl), by decide, by decide, by decide +kernel⟩
abbrev mX10_within : zm_T := (yX10_within, cX10_within, 3, some .boolean, 0, 0)
theorem kX10_within : zl_M mX10_within 3 := ⟨(zt_mem 61 (by decide +kernel) rfl), (zt_mem 31 (by decide +kernel) rfl), by decide, by decide, by decide +kernel⟩
abbrev mX10_room : zm_T := (yX10_room, cX10_room, 6, some .int, 0, 0)
theorem kX10_room : zl_M mX10_room 2 := ⟨(zt_mem 483 (by decide +kernel) rfl), (zt_mem 31 (by decide +kernel) rfl), by decide, by decide, by decide +kernel⟩
abbrev mX11_thrown : zm_T := (yX11_thrown, cX11_thrown, 1, some .int, 0, 0)
theorem kX11_thrown : zl_M mX11_thrown 0 := ⟨(zt_mem 757 (by decide +kernel) rfl), (zt_mem 42 (by decide +kernel) rfl), by decide, by decide, by decide +kernel⟩
abbrev mX11_in : zm_T := (yX11_in, cX11_in, 3, some .boolean, 0, 0)
theorem kX11_in : zl_M mX11_in 3 := ⟨(zt_mem 764 (by decide +kernel) rfl), (zt_mem 42 (by decide +kernel) rfl), by decide, by decide, by decide +kernel⟩
abbrev mX11_diameter : zm_T := (yX11_diameter, cX11_diameter, 3, some .boolean, 1, 22)
theorem kX11_diameter : zl_M mX11_diameter 2 := ⟨(zt_mem 761 (by decide +kernel) rfl), (zt_mem 42 (by decide +kernel) rfl), by decide, by decide, by decide +kernel⟩
abbrev mX11_defect : zm_T := (yX11_defect, cX11_defect, 4, some .boolean, 1, 22)
theorem kX11_defect : zl_M mX11_defect 3 := ⟨(zt_mem 768 (by decide +kernel) rfl), (zt_mem 42 (by decide +kernel) rfl), by decide, by decide, by decide +kernel⟩
abbrev mX11_logKind : zm_T := (yX11_logKind, cX11_logKind, 5, some .boolean, 1, 22)
theorem kX11_logKind : zl_M mX11_logKind 3 := ⟨(zt_mem 772 (by decide +kernel) rfl), (zt_mem 42 (by decide +kernel) rfl), by decide, by decide, by decide +kernel⟩
abbrev mX11_priceOf : zm_T := (yX11_priceOf, cX11_priceOf, 5, some .boolean, 1, 22)
theorem kX11_priceOf : zl_M mX11_priceOf 4 := ⟨(zt_mem 776 (by decide +kernel) rfl), (zt_mem 42 (by decide +kernel) rfl), by decide, by decide, by decide +kernel⟩
abbrev mX11_topOf : zm_T := (yX11_topOf, cX11_topOf, 5, some .int, 0, 0)
theorem kX11_topOf : zl_M mX11_topOf 2 := ⟨(zt_mem 789 (by decide +kernel) rfl), (zt_mem 42 (by decide +kernel) rfl), by decide, by decide, by decide +kernel⟩
abbrev mX11_gradeOf : zm_T := (yX11_gradeOf, cX11_gradeOf, 5, some .int, 0, 0)
theorem kX11_gradeOf : zl_M mX11_gradeOf 2 := ⟨(zt_mem 797 (by decide +kernel) rfl), (zt_mem 42 (by decide +kernel) rfl), by decide, by decide, by decide +kernel⟩
abbrev mX11_isAllowed : zm_T := (yX11_isAllowed, cX11_isAllowed, 4, some .boolean, 1, 24)
theorem kX11_isAllowed : zl_M mX11_isAllowed 2 := ⟨(zt_mem 785 (by decide +kernel) rfl), (zt_mem 42 (by decide +kernel) rfl), by decide, by decide, by decide +kernel⟩
abbrev mX11_worth : zm_T := (yX11_worth, cX11_worth, 4, some .int, 1, 24)
theorem kX11_worth : zl_M mX11_worth 2 := ⟨(zt_mem 793 (by decide +kernel) rfl), (zt_mem 42 (by decide +kernel) rfl), by decide, by decide, by decide +kernel⟩
abbrev mX11_add : zm_T := (yX11_add, cX11_add, 5, none, 2, 47)
theorem kX11_add : zl_M mX11_add 2 := ⟨(zt_mem 805 (by decide +kernel) rfl), (zt_mem 42 (by decide +kernel) rfl), by decide, by decide, by decide +kernel⟩
abbrev mX11_buck : zm_T := (yX11_buck, cX11_buck, 6, some .int, 3, 71)
theorem kX11_buck : zl_M mX11_buck 0 := ⟨(zt_mem 781 (by decide +kernel) rfl), (zt_mem 42 (by decide +kernel) rfl), by decide, by decide, by decide +kernel⟩
abbrev mX11_steps : zm_T := (yX11_steps, cX11_steps, 4, some .boolean, 2, 47)
theorem kX11_steps : zl_M mX11_steps 2 := ⟨(zt_mem 801 (by decide +kernel) rfl), (zt_mem 42 (by decide +kernel) rfl), by decide, by decide, by decide +kernel⟩
abbrev mX11_byHand : zm_T := (yX11_byHand, cX11_byHand, 10, some .int, 3, 71)
theorem kX11_byHand : zl_M mX11_byHand 1 := ⟨(zt_mem 809 (by decide +kernel) rfl), (zt_mem 42 (by decide +kernel) rfl), by decide, by decide, by decide +kernel⟩
abbrev mX11_logs : zm_T := (yX11_logs, cX11_logs, 1, some .int, 0, 0)
theorem kX11_logs : zl_M mX11_logs 0 := ⟨(zt_mem 814 (by decide +kernel) rfl), (zt_mem 42 (by decide +kernel) rfl), by decide, by decide, by decide +kernel⟩
abbrev mX11_log : zm_T := (yX11_log, cX11_log, 3, some .int, 1, 22)
theorem kX11_log : zl_M mX11_log 2 := ⟨(zt_mem 818 (by decide +kernel) rfl), (zt_mem 42 (by decide +kernel) rfl), by decide, by decide, by decide +kernel⟩
abbrev mX11_size : zm_T := (yX11_size, cX11_size, 5, some .boolean, 1, 22)
theorem kX11_size : zl_M mX11_size 3 := ⟨(zt_mem 822 (by decide +kernel) rfl), (zt_mem 42 (by decide +kernel) rfl), by decide, by decide, by decide +kernel⟩
abbrev mX11_boardPrice : zm_T := (yX11_boardPrice, cX11_boardPrice, 4, some .boolean, 1, 22)
theorem kX11_boardPrice : zl_M mX11_boardPrice 3 := ⟨(zt_mem 826 (by decide +kernel) rfl), (zt_mem 42 (by decide +kernel) rfl), by decide, by decide, by decide +kernel⟩
abbrev mX11_height : zm_T := (yX11_height, cX11_height, 3, some .boolean, 1, 22)
theorem kX11_height : zl_M mX11_height 2 := ⟨(zt_mem 830 (by decide +kernel) rfl), (zt_mem 42 (by decide +kernel) rfl), by decide, by decide, by decide +kernel⟩
abbrev mX11_kerf : zm_T := (yX11_kerf, cX11_kerf, 2, some .boolean, 1, 22)
theorem kX11_kerf : zl_M mX11_kerf 1 := ⟨(zt_mem 834 (by decide +kernel) rfl), (zt_mem 42 (by decide +kernel) rfl), by decide, by decide, by decide +kernel⟩
abbrev mX11_need : zm_T := (yX11_need, cX11_need, 3, some .boolean, 1, 22)
theorem kX11_need : zl_M mX11_need 2 := ⟨(zt_mem 838 (by decide +kernel) rfl), (zt_mem 42 (by decide +kernel) rfl), by decide, by decide, by decide +kernel⟩
abbrev mX11_ladder : zm_T := (yX11_ladder, cX11_ladder, 4, some .boolean, 1, 22)
theorem kX11_ladder : zl_M mX11_ladder 3 := ⟨(zt_mem 842 (by decide +kernel) rfl), (zt_mem 42 (by decide +kernel) rfl), by decide, by decide, by decide +kernel⟩
abbrev mX11_needNow : zm_T := (yX11_needNow, cX11_needNow, 2, some .int, 1, 22)
theorem kX11_needNow : zl_M mX11_needNow 1 := ⟨(zt_mem 847 (by decide +kernel) rfl), (zt_mem 42 (by decide +kernel) rfl), by decide, by decide, by decide +kernel⟩
abbrev mX11_prices : zm_T := (yX11_prices, cX11_prices, 5, none, 0, 0)
theorem kX11_prices : zl_M mX11_prices 1 := ⟨(zt_mem 855 (by decide +kernel) rfl), (zt_mem 42 (by decide +kernel) rfl), by decide, by decide, by decide +kernel⟩
abbrev mX11_isWithin : zm_T := (yX11_isWithin, cX11_isWithin, 3, some .boolean, 0, 0)
theorem kX11_isWithin : zl_M mX11_isWithin 3 := ⟨(zt_mem 870 (by decide +kernel) rfl), (zt_mem 42 (by decide +kernel) rfl), by decide, by decide, by decide +kernel⟩
abbrev mX11_beside : zm_T := (yX11_beside, cX11_beside, 6, some .int, 1, 22)
theorem kX11_beside : zl_M mX11_beside 4 := ⟨(zt_mem 867 (by decide +kernel) rfl), (zt_mem 42 (by decide +kernel) rfl), by decide, by decide, by decide +kernel⟩
abbrev mX11_above : zm_T := (yX11_above, cX11_above, 5, some .int, 1, 22)
theorem kX11_above : zl_M mX11_above 3 := ⟨(zt_mem 874 (by decide +kernel) rfl), (zt_mem 42 (by decide +kernel) rfl), by decide, by decide, by decide +kernel⟩
abbrev mX11_step : zm_T := (yX11_step, cX11_step, 6, some .int, 2, 47)
theorem kX11_step : zl_M mX11_step 5 := ⟨(zt_mem 863 (by decide +kernel) rfl), (zt_mem 42 (by decide +kernel) rfl), by decide, by decide, by decide +kernel⟩
abbrev mX11_sequence : zm_T := (yX11_sequence, cX11_sequence, 10, some .int, 4, 98)
theorem kX11_sequence : zl_M mX11_sequence 5 := ⟨(zt_mem 859 (by decide +kernel) rfl), (zt_mem 42 (by decide +kernel) rfl), by decide, by decide, by decide +kernel⟩
abbrev mX11_isBest : zm_T := (yX11_isBest, cX11_isBest, 7, some .boolean, 3, 72)
theorem kX11_isBest : zl_M mX11_isBest 5 := ⟨(zt_mem 878 (by decide +kernel) rfl), (zt_mem 42 (by decide +kernel) rfl), by decide, by decide, by decide +kernel⟩
abbrev mX11_saw : zm_T := (yX11_saw, cX11_saw, 9, some .int, 5, 127)
theorem kX11_saw : zl_M mX11_saw 1 := ⟨(zt_mem 851 (by decide +kernel) rfl), (zt_mem 42 (by decide +kernel) rfl), by decide, by decide, by decide +kernel⟩
abbrev mX11_put : zm_T := (yX11_put, cX11_put, 5, none, 0, 0)
theorem kX11_put : zl_M mX11_put 3 := ⟨(zt_mem 886 (by decide +kernel) rfl), (zt_mem 42 (by decide +kernel) rfl), by decide, by decide, by decide +kernel⟩
abbrev mX11_lay : zm_T := (yX11_lay, cX11_lay, 6, none, 1, 24)
theorem kX11_lay : zl_M mX11_lay 1 := ⟨(zt_mem 882 (by decide +kernel) rfl), (zt_mem 42 (by decide +kernel) rfl), by decide, by decide, by decide +kernel⟩
abbrev mX11_boards : zm_T := (yX11_boards, cX11_boards, 1, some .int, 0, 0)
theorem kX11_boards : zl_M mX11_boards 0 := ⟨(zt_mem 890 (by decide +kernel) rfl), (zt_mem 42 (by decide +kernel) rfl), by decide, by decide, by decide +kernel⟩
abbrev mX11_board : zm_T := (yX11_board, cX11_board, 3, some .int, 1, 22)
theorem kX11_board : zl_M mX11_board 2 := ⟨(zt_mem 894 (by decide +kernel) rfl), (zt_mem 42 (by decide +kernel) rfl), by decide, by decide, by decide +kernel⟩
abbrev mX11_cant : zm_T := (yX11_cant, cX11_cant, 1, some .int, 0, 0)
theorem kX11_cant : zl_M mX11_cant 0 := ⟨(zt_mem 898 (by decide +kernel) rfl), (zt_mem 42 (by decide +kernel) rfl), by decide, by decide, by decide +kernel⟩
abbrev mX11_fits : zm_T := (yX11_fits, cX11_fits, 8, some .boolean, 1, 22)
theorem kX11_fits : zl_M mX11_fits 3 := ⟨(zt_mem 902 (by decide +kernel) rfl), (zt_mem 42 (by decide +kernel) rfl), by decide, by decide, by decide +kernel⟩
abbrev mJ7_fill_53178 : zm_T := (yJ7_fill_53178, cJ7_fill_53178, 4, none, 0, 0)
theorem kJ7_fill_53178 : zl_M mJ7_fill_53178 2 := ⟨(zt_mem 353 (by decide +kernel) rfl), (zt_mem 44 (by decide +kernel) rfl), by decide, by decide, by decide +kernel⟩
abbrev mL_cell : zm_T := (yL_cell, cL_cell, 2, some .int, 0, 0)
theorem kL_cell : zl_M mL_cell 2 := ⟨(zt_mem 486 (by decide +kernel) rfl), (zt_mem 30 (by decide +kernel) rfl), by decide, by decide, by decide +kernel⟩
theorem fX0_9 : zl_F RX0 9 0 2 := ⟨RX0, TX0, 3, rfl, by decide, zt_inX0, (zt_mem 269 (by decide +kernel) rfl)⟩
theorem fX0_15 : zl_F RX0 15 0 0 := ⟨RX0, TX0, 3, rfl, by decide, zt_inX0, (zt_mem 263 (by decide +kernel) rfl)⟩
theorem fX1_11 : zl_F RX1 11 1 1 := ⟨RX1, TX1, 6, rfl, by decide, zt_inX1, (zt_mem 138 (by decide +kernel) rfl)⟩
theorem fX1_20 : zl_F RX1 20 1 4 := ⟨RX1, TX1, 6, rfl, by decide, zt_inX1, (zt_mem 142 (by decide +kernel) rfl)⟩
theorem fX1_24 : zl_F RX1 24 1 5 := ⟨RX1, TX1, 6, rfl, by decide, zt_inX1, (zt_mem 144 (by decide +kernel) rfl)⟩
theorem fX1_32 : zl_F RX1 32 1 0 := ⟨RX1, TX1, 6, rfl, by decide, zt_inX1, (zt_mem 137 (by decide +kernel) rfl)⟩
theorem fX1_36 : zl_F RX1 36 1 2 := ⟨RX1, TX1, 6, rfl, by decide, zt_inX1, (zt_mem 140 (by decide +kernel) rfl)⟩
theorem fX1_40 : zl_F RX1 40 1 3 := ⟨RX1, TX1, 6, rfl, by decide, zt_inX1, (zt_mem 141 (by decide +kernel) rfl)⟩
theorem fX1_44 : zl_F RX1 44 9 0 := ⟨RX9, TX9, 6, rfl, by decide, zt_inX9, (zt_mem 94 (by decide +kernel) rfl)⟩
theorem fX1_58 : zl_F RX1 58 5 0 := ⟨RX5, TX5, 3, rfl, by decide, zt_inX5, (zt_mem 123 (by decide +kernel) rfl)⟩
theorem fX1_72 : zl_F RX1 72 9 4 := ⟨RX9, TX9, 6, rfl, by decide, zt_inX9, (zt_mem 101 (by decide +kernel) rfl)⟩
theorem fX1_75 : zl_F RX1 75 9 5 := ⟨RX9, TX9, 6, rfl, by decide, zt_inX9, (zt_mem 103 (by decide +kernel) rfl)⟩
theorem fX1_86 : zl_F RX1 86 5 1 := ⟨RX5, TX5, 3, rfl, by decide, zt_inX5, (zt_mem 125 (by decide +kernel) rfl)⟩
theorem fX1_89 : zl_F RX1 89 5 2 := ⟨RX5, TX5, 3, rfl, by decide, zt_inX5, (zt_mem 128 (by decide +kernel) rfl)⟩
theorem fX1_96 : zl_F RX1 96 3 1 := ⟨RX3, TX3, 3, rfl, by decide, zt_inX3, (zt_mem 77 (by decide +kernel) rfl)⟩
theorem fX10_18 : zl_F RX10 18 10 0 := ⟨RX10, TX10, 6, rfl, by decide, zt_inX10, (zt_mem 309 (by decide +kernel) rfl)⟩
theorem fX10_26 : zl_F RX10 26 10 1 := ⟨RX10, TX10, 6, rfl, by decide, zt_inX10, (zt_mem 310 (by decide +kernel) rfl)⟩
theorem fX10_31 : zl_F RX10 31 10 2 := ⟨RX10, TX10, 6, rfl, by decide, zt_inX10, (zt_mem 311 (by decide +kernel) rfl)⟩
theorem fX10_35 : zl_F RX10 35 10 3 := ⟨RX10, TX10, 6, rfl, by decide, zt_inX10, (zt_mem 312 (by decide +kernel) rfl)⟩
theorem fX10_43 : zl_F RX10 43 10 4 := ⟨RX10, TX10, 6, rfl, by decide, zt_inX10, (zt_mem 313 (by decide +kernel) rfl)⟩
theorem fX10_48 : zl_F RX10 48 10 5 := ⟨RX10, TX10, 6, rfl, by decide, zt_inX10, (zt_mem 314 (by decide +kernel) rfl)⟩
theorem fX10_49 : zl_F RX10 49 9 0 := ⟨RX9, TX9, 6, rfl, by decide, zt_inX9, (zt_mem 95 (by decide +kernel) rfl)⟩
theorem fX10_55 : zl_F RX10 55 9 1 := ⟨RX9, TX9, 6, rfl, by decide, zt_inX9, (zt_mem 97 (by decide +kernel) rfl)⟩
theorem fX10_73 : zl_F RX10 73 5 2 := ⟨RX5, TX5, 3, rfl, by decide, zt_inX5, (zt_mem 127 (by decide +kernel) rfl)⟩
theorem fX10_88 : zl_F RX10 88 1 4 := ⟨RX1, TX1, 6, rfl, by decide, zt_inX1, (zt_mem 143 (by decide +kernel) rfl)⟩
theorem fX10_92 : zl_F RX10 92 3 0 := ⟨RX3, TX3, 3, rfl, by decide, zt_inX3, (zt_mem 75 (by decide +kernel) rfl)⟩
theorem fX10_110 : zl_F RX10 110 0 2 := ⟨RX0, TX0, 3, rfl, by decide, zt_inX0, (zt_mem 271 (by decide +kernel) rfl)⟩
theorem fX10_111 : zl_F RX10 111 8 2 := ⟨RX8, TX8, 8, rfl, by decide, zt_inX8, (zt_mem 284 (by decide +kernel) rfl)⟩
theorem fX10_114 : zl_F RX10 114 8 3 := ⟨RX8, TX8, 8, rfl, by decide, zt_inX8, (zt_mem 286 (by decide +kernel) rfl)⟩
theorem fX10_117 : zl_F RX10 117 6 0 := ⟨RX6, TX6, 3, rfl, by decide, zt_inX6, (zt_mem 173 (by decide +kernel) rfl)⟩
theorem fX10_123 : zl_F RX10 123 6 1 := ⟨RX6, TX6, 3, rfl, by decide, zt_inX6, (zt_mem 175 (by decide +kernel) rfl)⟩
theorem fX10_126 : zl_F RX10 126 6 2 := ⟨RX6, TX6, 3, rfl, by decide, zt_inX6, (zt_mem 177 (by decide +kernel) rfl)⟩
theorem fX10_132 : zl_F RX10 132 8 6 := ⟨RX8, TX8, 8, rfl, by decide, zt_inX8, (zt_mem 290 (by decide +kernel) rfl)⟩
theorem fX10_141 : zl_F RX10 141 7 0 := ⟨RX7, TX7, 5, rfl, by decide, zt_inX7, (zt_mem 238 (by decide +kernel) rfl)⟩
theorem fX10_144 : zl_F RX10 144 0 0 := ⟨RX0, TX0, 3, rfl, by decide, zt_inX0, (zt_mem 265 (by decide +kernel) rfl)⟩
theorem fX10_147 : zl_F RX10 147 0 1 := ⟨RX0, TX0, 3, rfl, by decide, zt_inX0, (zt_mem 268 (by decide +kernel) rfl)⟩
theorem fX11_7 : zl_F RX11 7 11 2 := ⟨RX11, TX11, 29, rfl, by decide, zt_inX11, (zt_mem 667 (by decide +kernel) rfl)⟩
theorem fX11_13 : zl_F RX11 13 11 4 := ⟨RX11, TX11, 29, rfl, by decide, zt_inX11, (zt_mem 669 (by decide +kernel) rfl)⟩
theorem fX11_16 : zl_F RX11 16 11 5 := ⟨RX11, TX11, 29, rfl, by decide, zt_inX11, (zt_mem 670 (by decide +kernel) rfl)⟩
theorem fX11_19 : zl_F RX11 19 11 6 := ⟨RX11, TX11, 29, rfl, by decide, zt_inX11, (zt_mem 671 (by decide +kernel) rfl)⟩
theorem fX11_22 : zl_F RX11 22 11 7 := ⟨RX11, TX11, 29, rfl, by decide, zt_inX11, (zt_mem 672 (by decide +kernel) rfl)⟩
theorem fX11_25 : zl_F RX11 25 11 8 := ⟨RX11, TX11, 29, rfl, by decide, zt_inX11, (zt_mem 673 (by decide +kernel) rfl)⟩
theorem fX11_28 : zl_F RX11 28 11 9 := ⟨RX11, TX11, 29, rfl, by decide, zt_inX11, (zt_mem 674 (by decide +kernel) rfl)⟩
theorem fX11_31 : zl_F RX11 31 11 11 := ⟨RX11, TX11, 29, rfl, by decide, zt_inX11, (zt_mem 676 (by decide +kernel) rfl)⟩
theorem fX11_34 : zl_F RX11 34 11 12 := ⟨RX11, TX11, 29, rfl, by decide, zt_inX11, (zt_mem 677 (by decide +kernel) rfl)⟩
theorem fX11_37 : zl_F RX11 37 11 13 := ⟨RX11, TX11, 29, rfl, by decide, zt_inX11, (zt_mem 678 (by decide +kernel) rfl)⟩
theorem fX11_40 : zl_F RX11 40 11 14 := ⟨RX11, TX11, 29, rfl, by decide, zt_inX11, (zt_mem 679 (by decide +kernel) rfl)⟩
theorem fX11_43 : zl_F RX11 43 11 15 := ⟨RX11, TX11, 29, rfl, by decide, zt_inX11, (zt_mem 680 (by decide +kernel) rfl)⟩
theorem fX11_46 : zl_F RX11 46 11 16 := ⟨RX11, TX11, 29, rfl, by decide, zt_inX11, (zt_mem 681 (by decide +kernel) rfl)⟩
theorem fX11_49 : zl_F RX11 49 11 18 := ⟨RX11, TX11, 29, rfl, by decide, zt_inX11, (zt_mem 683 (by decide +kernel) rfl)⟩
theorem fX11_52 : zl_F RX11 52 11 19 := ⟨RX11, TX11, 29, rfl, by decide, zt_inX11, (zt_mem 684 (by decide +kernel) rfl)⟩
theorem fX11_55 : zl_F RX11 55 11 22 := ⟨RX11, TX11, 29, rfl, by decide, zt_inX11, (zt_mem 687 (by decide +kernel) rfl)⟩
theorem fX11_58 : zl_F RX11 58 11 23 := ⟨RX11, TX11, 29, rfl, by decide, zt_inX11, (zt_mem 688 (by decide +kernel) rfl)⟩
theorem fX11_61 : zl_F RX11 61 11 24 := ⟨RX11, TX11, 29, rfl, by decide, zt_inX11, (zt_mem 689 (by decide +kernel) rfl)⟩
theorem fX11_64 : zl_F RX11 64 11 25 := ⟨RX11, TX11, 29, rfl, by decide, zt_inX11, (zt_mem 690 (by decide +kernel) rfl)⟩
theorem fX11_67 : zl_F RX11 67 11 26 := ⟨RX11, TX11, 29, rfl, by decide, zt_inX11, (zt_mem 691 (by decide +kernel) rfl)⟩
theorem fX11_70 : zl_F RX11 70 11 27 := ⟨RX11, TX11, 29, rfl, by decide, zt_inX11, (zt_mem 692 (by decide +kernel) rfl)⟩
theorem fX11_73 : zl_F RX11 73 11 28 := ⟨RX11, TX11, 29, rfl, by decide, zt_inX11, (zt_mem 693 (by decide +kernel) rfl)⟩
theorem fX11_77 : zl_F RX11 77 11 1 := ⟨RX11, TX11, 29, rfl, by decide, zt_inX11, (zt_mem 666 (by decide +kernel) rfl)⟩
theorem fX11_81 : zl_F RX11 81 11 21 := ⟨RX11, TX11, 29, rfl, by decide, zt_inX11, (zt_mem 686 (by decide +kernel) rfl)⟩
theorem fX11_84 : zl_F RX11 84 11 0 := ⟨RX11, TX11, 29, rfl, by decide, zt_inX11, (zt_mem 665 (by decide +kernel) rfl)⟩
theorem fX11_91 : zl_F RX11 91 11 3 := ⟨RX11, TX11, 29, rfl, by decide, zt_inX11, (zt_mem 668 (by decide +kernel) rfl)⟩
theorem fX11_102 : zl_F RX11 102 11 10 := ⟨RX11, TX11, 29, rfl, by decide, zt_inX11, (zt_mem 675 (by decide +kernel) rfl)⟩
theorem fX11_121 : zl_F RX11 121 11 17 := ⟨RX11, TX11, 29, rfl, by decide, zt_inX11, (zt_mem 682 (by decide +kernel) rfl)⟩
theorem fX11_155 : zl_F RX11 155 11 20 := ⟨RX11, TX11, 29, rfl, by decide, zt_inX11, (zt_mem 685 (by decide +kernel) rfl)⟩
theorem fX2_9 : zl_F RX2 9 2 0 := ⟨RX2, TX2, 4, rfl, by decide, zt_inX2, (zt_mem 191 (by decide +kernel) rfl)⟩
theorem fX2_15 : zl_F RX2 15 2 1 := ⟨RX2, TX2, 4, rfl, by decide, zt_inX2, (zt_mem 193 (by decide +kernel) rfl)⟩
theorem fX2_18 : zl_F RX2 18 2 2 := ⟨RX2, TX2, 4, rfl, by decide, zt_inX2, (zt_mem 195 (by decide +kernel) rfl)⟩
theorem fX2_21 : zl_F RX2 21 2 3 := ⟨RX2, TX2, 4, rfl, by decide, zt_inX2, (zt_mem 197 (by decide +kernel) rfl)⟩
theorem fX3_9 : zl_F RX3 9 3 2 := ⟨RX3, TX3, 3, rfl, by decide, zt_inX3, (zt_mem 78 (by decide +kernel) rfl)⟩
theorem fX3_15 : zl_F RX3 15 3 0 := ⟨RX3, TX3, 3, rfl, by decide, zt_inX3, (zt_mem 74 (by decide +kernel) rfl)⟩
theorem fX3_19 : zl_F RX3 19 3 1 := ⟨RX3, TX3, 3, rfl, by decide, zt_inX3, (zt_mem 76 (by decide +kernel) rfl)⟩
theorem fX4_7 : zl_F RX4 7 4 1 := ⟨RX4, TX4, 3, rfl, by decide, zt_inX4, (zt_mem 223 (by decide +kernel) rfl)⟩
theorem fX4_13 : zl_F RX4 13 4 2 := ⟨RX4, TX4, 3, rfl, by decide, zt_inX4, (zt_mem 226 (by decide +kernel) rfl)⟩
theorem fX4_16 : zl_F RX4 16 4 0 := ⟨RX4, TX4, 3, rfl, by decide, zt_inX4, (zt_mem 219 (by decide +kernel) rfl)⟩
theorem fX5_9 : zl_F RX5 9 5 2 := ⟨RX5, TX5, 3, rfl, by decide, zt_inX5, (zt_mem 126 (by decide +kernel) rfl)⟩
theorem fX5_15 : zl_F RX5 15 5 0 := ⟨RX5, TX5, 3, rfl, by decide, zt_inX5, (zt_mem 122 (by decide +kernel) rfl)⟩
theorem fX6_9 : zl_F RX6 9 6 0 := ⟨RX6, TX6, 3, rfl, by decide, zt_inX6, (zt_mem 172 (by decide +kernel) rfl)⟩
theorem fX6_15 : zl_F RX6 15 6 1 := ⟨RX6, TX6, 3, rfl, by decide, zt_inX6, (zt_mem 174 (by decide +kernel) rfl)⟩
theorem fX6_18 : zl_F RX6 18 6 2 := ⟨RX6, TX6, 3, rfl, by decide, zt_inX6, (zt_mem 176 (by decide +kernel) rfl)⟩
theorem fX7_9 : zl_F RX7 9 7 0 := ⟨RX7, TX7, 5, rfl, by decide, zt_inX7, (zt_mem 236 (by decide +kernel) rfl)⟩
theorem fX7_20 : zl_F RX7 20 7 2 := ⟨RX7, TX7, 5, rfl, by decide, zt_inX7, (zt_mem 241 (by decide +kernel) rfl)⟩
theorem fX7_24 : zl_F RX7 24 7 3 := ⟨RX7, TX7, 5, rfl, by decide, zt_inX7, (zt_mem 243 (by decide +kernel) rfl)⟩
theorem fX7_27 : zl_F RX7 27 7 4 := ⟨RX7, TX7, 5, rfl, by decide, zt_inX7, (zt_mem 245 (by decide +kernel) rfl)⟩
theorem fX7_31 : zl_F RX7 31 4 0 := ⟨RX4, TX4, 3, rfl, by decide, zt_inX4, (zt_mem 221 (by decide +kernel) rfl)⟩
theorem fX7_42 : zl_F RX7 42 7 1 := ⟨RX7, TX7, 5, rfl, by decide, zt_inX7, (zt_mem 240 (by decide +kernel) rfl)⟩
theorem fX7_49 : zl_F RX7 49 4 1 := ⟨RX4, TX4, 3, rfl, by decide, zt_inX4, (zt_mem 225 (by decide +kernel) rfl)⟩
theorem fX7_52 : zl_F RX7 52 4 2 := ⟨RX4, TX4, 3, rfl, by decide, zt_inX4, (zt_mem 228 (by decide +kernel) rfl)⟩
theorem fX8_11 : zl_F RX8 11 8 0 := ⟨RX8, TX8, 8, rfl, by decide, zt_inX8, (zt_mem 279 (by decide +kernel) rfl)⟩
theorem fX8_20 : zl_F RX8 20 8 1 := ⟨RX8, TX8, 8, rfl, by decide, zt_inX8, (zt_mem 281 (by decide +kernel) rfl)⟩
theorem fX8_24 : zl_F RX8 24 8 2 := ⟨RX8, TX8, 8, rfl, by decide, zt_inX8, (zt_mem 283 (by decide +kernel) rfl)⟩
theorem fX8_31 : zl_F RX8 31 8 4 := ⟨RX8, TX8, 8, rfl, by decide, zt_inX8, (zt_mem 287 (by decide +kernel) rfl)⟩
theorem fX8_35 : zl_F RX8 35 8 5 := ⟨RX8, TX8, 8, rfl, by decide, zt_inX8, (zt_mem 288 (by decide +kernel) rfl)⟩
theorem fX8_41 : zl_F RX8 41 8 6 := ⟨RX8, TX8, 8, rfl, by decide, zt_inX8, (zt_mem 289 (by decide +kernel) rfl)⟩
theorem fX8_45 : zl_F RX8 45 8 7 := ⟨RX8, TX8, 8, rfl, by decide, zt_inX8, (zt_mem 291 (by decide +kernel) rfl)⟩
theorem fX8_67 : zl_F RX8 67 7 4 := ⟨RX7, TX7, 5, rfl, by decide, zt_inX7, (zt_mem 246 (by decide +kernel) rfl)⟩
theorem fX8_70 : zl_F RX8 70 2 1 := ⟨RX2, TX2, 4, rfl, by decide, zt_inX2, (zt_mem 194 (by decide +kernel) rfl)⟩
theorem fX8_78 : zl_F RX8 78 7 1 := ⟨RX7, TX7, 5, rfl, by decide, zt_inX7, (zt_mem 239 (by decide +kernel) rfl)⟩
theorem fX8_82 : zl_F RX8 82 2 0 := ⟨RX2, TX2, 4, rfl, by decide, zt_inX2, (zt_mem 192 (by decide +kernel) rfl)⟩
theorem fX8_85 : zl_F RX8 85 0 0 := ⟨RX0, TX0, 3, rfl, by decide, zt_inX0, (zt_mem 264 (by decide +kernel) rfl)⟩
theorem fX8_88 : zl_F RX8 88 8 3 := ⟨RX8, TX8, 8, rfl, by decide, zt_inX8, (zt_mem 285 (by decide +kernel) rfl)⟩
theorem fX8_95 : zl_F RX8 95 0 2 := ⟨RX0, TX0, 3, rfl, by decide, zt_inX0, (zt_mem 270 (by decide +kernel) rfl)⟩
theorem fX8_99 : zl_F RX8 99 0 1 := ⟨RX0, TX0, 3, rfl, by decide, zt_inX0, (zt_mem 267 (by decide +kernel) rfl)⟩
theorem fX8_109 : zl_F RX8 109 7 2 := ⟨RX7, TX7, 5, rfl, by decide, zt_inX7, (zt_mem 242 (by decide +kernel) rfl)⟩
theorem fX8_113 : zl_F RX8 113 4 0 := ⟨RX4, TX4, 3, rfl, by decide, zt_inX4, (zt_mem 222 (by decide +kernel) rfl)⟩
theorem fX8_121 : zl_F RX8 121 2 2 := ⟨RX2, TX2, 4, rfl, by decide, zt_inX2, (zt_mem 196 (by decide +kernel) rfl)⟩
theorem fX8_132 : zl_F RX8 132 7 3 := ⟨RX7, TX7, 5, rfl, by decide, zt_inX7, (zt_mem 244 (by decide +kernel) rfl)⟩
theorem fX8_135 : zl_F RX8 135 4 2 := ⟨RX4, TX4, 3, rfl, by decide, zt_inX4, (zt_mem 227 (by decide +kernel) rfl)⟩
theorem fX8_138 : zl_F RX8 138 4 1 := ⟨RX4, TX4, 3, rfl, by decide, zt_inX4, (zt_mem 224 (by decide +kernel) rfl)⟩
theorem fX9_9 : zl_F RX9 9 9 0 := ⟨RX9, TX9, 6, rfl, by decide, zt_inX9, (zt_mem 93 (by decide +kernel) rfl)⟩
theorem fX9_15 : zl_F RX9 15 9 1 := ⟨RX9, TX9, 6, rfl, by decide, zt_inX9, (zt_mem 96 (by decide +kernel) rfl)⟩
theorem fX9_19 : zl_F RX9 19 9 2 := ⟨RX9, TX9, 6, rfl, by decide, zt_inX9, (zt_mem 98 (by decide +kernel) rfl)⟩
theorem fX9_22 : zl_F RX9 22 9 4 := ⟨RX9, TX9, 6, rfl, by decide, zt_inX9, (zt_mem 100 (by decide +kernel) rfl)⟩
theorem fX9_25 : zl_F RX9 25 9 5 := ⟨RX9, TX9, 6, rfl, by decide, zt_inX9, (zt_mem 102 (by decide +kernel) rfl)⟩
theorem fX9_28 : zl_F RX9 28 9 3 := ⟨RX9, TX9, 6, rfl, by decide, zt_inX9, (zt_mem 99 (by decide +kernel) rfl)⟩
theorem pX0_15 : zl_P RX0 15 0 0 .int := ⟨RX0, TX0, 3, tyX0, rfl, by decide, zt_inX0, (zt_mem 263 (by decide +kernel) rfl), tyX0_ok, nmX0, rfl, by decide +kernel⟩
theorem pX0_19 : zl_P RX0 19 0 1 .int := ⟨RX0, TX0, 3, tyX0, rfl, by decide, zt_inX0, (zt_mem 266 (by decide +kernel) rfl), tyX0_ok, nmX0, rfl, by decide +kernel⟩
theorem pX1_20 : zl_P RX1 20 1 4 (.object "StemMill$Cutting") := ⟨RX1, TX1, 6, tyX1, rfl, by decide, zt_inX1, (zt_mem 142 (by decide +kernel) rfl), tyX1_ok, nmX1, rfl, by decide +kernel⟩
theorem pX1_24 : zl_P RX1 24 1 5 (.object "StemMill$Cutting") := ⟨RX1, TX1, 6, tyX1, rfl, by decide, zt_inX1, (zt_mem 144 (by decide +kernel) rfl), tyX1_ok, nmX1, rfl, by decide +kernel⟩
theorem pX10_114 : zl_P RX10 114 8 3 .int := ⟨RX8, TX8, 8, tyX8, rfl, by decide, zt_inX8, (zt_mem 286 (by decide +kernel) rfl), tyX8_ok, nmX8, rfl, by decide +kernel⟩
theorem pX11_81 : zl_P RX11 81 11 21 .int := ⟨RX11, TX11, 29, tyX11, rfl, by decide, zt_inX11, (zt_mem 686 (by decide +kernel) rfl), tyX11_ok, nmX11, rfl, by decide +kernel⟩
theorem pX11_84 : zl_P RX11 84 11 0 .int := ⟨RX11, TX11, 29, tyX11, rfl, by decide, zt_inX11, (zt_mem 665 (by decide +kernel) rfl), tyX11_ok, nmX11, rfl, by decide +kernel⟩
theorem pX11_91 : zl_P RX11 91 11 3 .int := ⟨RX11, TX11, 29, tyX11, rfl, by decide, zt_inX11, (zt_mem 668 (by decide +kernel) rfl), tyX11_ok, nmX11, rfl, by decide +kernel⟩
theorem pX11_102 : zl_P RX11 102 11 10 .int := ⟨RX11, TX11, 29, tyX11, rfl, by decide, zt_inX11, (zt_mem 675 (by decide +kernel) rfl), tyX11_ok, nmX11, rfl, by decide +kernel⟩
theorem pX11_121 : zl_P RX11 121 11 17 .int := ⟨RX11, TX11, 29, tyX11, rfl, by decide, zt_inX11, (zt_mem 682 (by decide +kernel) rfl), tyX11_ok, nmX11, rfl, by decide +kernel⟩
theorem pX11_155 : zl_P RX11 155 11 20 .int := ⟨RX11, TX11, 29, tyX11, rfl, by decide, zt_inX11, (zt_mem 685 (by decide +kernel) rfl), tyX11_ok, nmX11, rfl, by decide +kernel⟩
theorem pX2_36 : zl_P RX2 36 4 0 .int := ⟨RX4, TX4, 3, tyX4, rfl, by decide, zt_inX4, (zt_mem 220 (by decide +kernel) rfl), tyX4_ok, nmX4, rfl, by decide +kernel⟩
theorem pX3_15 : zl_P RX3 15 3 0 .int := ⟨RX3, TX3, 3, tyX3, rfl, by decide, zt_inX3, (zt_mem 74 (by decide +kernel) rfl), tyX3_ok, nmX3, rfl, by decide +kernel⟩
theorem pX3_19 : zl_P RX3 19 3 1 .int := ⟨RX3, TX3, 3, tyX3, rfl, by decide, zt_inX3, (zt_mem 76 (by decide +kernel) rfl), tyX3_ok, nmX3, rfl, by decide +kernel⟩
theorem pX4_16 : zl_P RX4 16 4 0 .int := ⟨RX4, TX4, 3, tyX4, rfl, by decide, zt_inX4, (zt_mem 219 (by decide +kernel) rfl), tyX4_ok, nmX4, rfl, by decide +kernel⟩
theorem pX5_15 : zl_P RX5 15 5 0 .int := ⟨RX5, TX5, 3, tyX5, rfl, by decide, zt_inX5, (zt_mem 122 (by decide +kernel) rfl), tyX5_ok, nmX5, rfl, by decide +kernel⟩
theorem pX5_19 : zl_P RX5 19 5 1 .int := ⟨RX5, TX5, 3, tyX5, rfl, by decide, zt_inX5, (zt_mem 124 (by decide +kernel) rfl), tyX5_ok, nmX5, rfl, by decide +kernel⟩
theorem pX8_41 : zl_P RX8 41 8 6 (.object "StemMill$Pattern") := ⟨RX8, TX8, 8, tyX8, rfl, by decide, zt_inX8, (zt_mem 289 (by decide +kernel) rfl), tyX8_ok, nmX8, rfl, by decide +kernel⟩
theorem pX8_45 : zl_P RX8 45 8 7 (.object "StemMill$Pattern") := ⟨RX8, TX8, 8, tyX8, rfl, by decide, zt_inX8, (zt_mem 291 (by decide +kernel) rfl), tyX8_ok, nmX8, rfl, by decide +kernel⟩
theorem pX8_78 : zl_P RX8 78 7 1 .int := ⟨RX7, TX7, 5, tyX7, rfl, by decide, zt_inX7, (zt_mem 239 (by decide +kernel) rfl), tyX7_ok, nmX7, rfl, by decide +kernel⟩
theorem pX8_106 : zl_P RX8 106 7 0 .int := ⟨RX7, TX7, 5, tyX7, rfl, by decide, zt_inX7, (zt_mem 237 (by decide +kernel) rfl), tyX7_ok, nmX7, rfl, by decide +kernel⟩
theorem pX8_113 : zl_P RX8 113 4 0 .int := ⟨RX4, TX4, 3, tyX4, rfl, by decide, zt_inX4, (zt_mem 222 (by decide +kernel) rfl), tyX4_ok, nmX4, rfl, by decide +kernel⟩
theorem pX9_28 : zl_P RX9 28 9 3 .int := ⟨RX9, TX9, 6, tyX9, rfl, by decide, zt_inX9, (zt_mem 99 (by decide +kernel) rfl), tyX9_ok, nmX9, rfl, by decide +kernel⟩
theorem sX0_22 : zl_S RX0 22 mJ7_fill_53178 := ⟨(zt_mem 427 (by decide +kernel) rfl), (zt_mem 352 (by decide +kernel) rfl)⟩
theorem vX1_48 : zl_V RX1 48 1 mX1_choose := ⟨_, rfl, rfl, (zt_mem 374 (by decide +kernel) rfl), (zt_mem 376 (by decide +kernel) rfl), (zt_mem 0 (by decide +kernel) rfl)⟩
theorem vX1_51 : zl_V RX1 51 3 mX3_clear := ⟨_, rfl, rfl, (zt_mem 391 (by decide +kernel) rfl), (zt_mem 392 (by decide +kernel) rfl), (zt_mem 393 (by decide +kernel) rfl)⟩
theorem vX1_54 : zl_V RX1 54 1 mX1_addLog := ⟨_, rfl, rfl, (zt_mem 395 (by decide +kernel) rfl), (zt_mem 397 (by decide +kernel) rfl), (zt_mem 2 (by decide +kernel) rfl)⟩
theorem vX1_61 : zl_V RX1 61 1 mX1_keepSpare := ⟨_, rfl, rfl, (zt_mem 403 (by decide +kernel) rfl), (zt_mem 405 (by decide +kernel) rfl), (zt_mem 3 (by decide +kernel) rfl)⟩
theorem vX1_65 : zl_V RX1 65 9 mX9_lookFrom := ⟨_, rfl, rfl, (zt_mem 378 (by decide +kernel) rfl), (zt_mem 379 (by decide +kernel) rfl), (zt_mem 380 (by decide +kernel) rfl)⟩
theorem vX1_68 : zl_V RX1 68 1 mX1_priceFrom := ⟨_, rfl, rfl, (zt_mem 385 (by decide +kernel) rfl), (zt_mem 387 (by decide +kernel) rfl), (zt_mem 1 (by decide +kernel) rfl)⟩
theorem vX1_78 : zl_V RX1 78 3 mX3_add := ⟨_, rfl, rfl, (zt_mem 399 (by decide +kernel) rfl), (zt_mem 400 (by decide +kernel) rfl), (zt_mem 401 (by decide +kernel) rfl)⟩
theorem vX1_82 : zl_V RX1 82 5 mX5_isTold := ⟨_, rfl, rfl, (zt_mem 389 (by decide +kernel) rfl), (zt_mem 359 (by decide +kernel) rfl), (zt_mem 360 (by decide +kernel) rfl)⟩
theorem sX1_92 : zl_S RX1 92 mX5_slot := ⟨(zt_mem 390 (by decide +kernel) rfl), (zt_mem 364 (by decide +kernel) rfl)⟩
theorem sX10_11 : zl_S RX10 11 mX10_within := ⟨(zt_mem 59 (by decide +kernel) rfl), (zt_mem 60 (by decide +kernel) rfl)⟩
theorem vX10_59 : zl_V RX10 59 9 mX9_spoil := ⟨_, rfl, rfl, (zt_mem 336 (by decide +kernel) rfl), (zt_mem 337 (by decide +kernel) rfl), (zt_mem 338 (by decide +kernel) rfl)⟩
theorem vX10_62 : zl_V RX10 62 5 mX5_become := ⟨_, rfl, rfl, (zt_mem 347 (by decide +kernel) rfl), (zt_mem 348 (by decide +kernel) rfl), (zt_mem 349 (by decide +kernel) rfl)⟩
theorem vX10_68 : zl_V RX10 68 5 mX5_isTold := ⟨_, rfl, rfl, (zt_mem 358 (by decide +kernel) rfl), (zt_mem 359 (by decide +kernel) rfl), (zt_mem 360 (by decide +kernel) rfl)⟩
theorem sX10_76 : zl_S RX10 76 mX5_slot := ⟨(zt_mem 363 (by decide +kernel) rfl), (zt_mem 364 (by decide +kernel) rfl)⟩
theorem vX10_80 : zl_V RX10 80 1 mX1_cutBest := ⟨_, rfl, rfl, (zt_mem 370 (by decide +kernel) rfl), (zt_mem 371 (by decide +kernel) rfl), (zt_mem 372 (by decide +kernel) rfl)⟩
theorem vX10_84 : zl_V RX10 84 1 mX1_cutAsTold := ⟨_, rfl, rfl, (zt_mem 411 (by decide +kernel) rfl), (zt_mem 412 (by decide +kernel) rfl), (zt_mem 413 (by decide +kernel) rfl)⟩
theorem vX10_100 : zl_V RX10 100 3 mX3_fact := ⟨_, rfl, rfl, (zt_mem 556 (by decide +kernel) rfl), (zt_mem 557 (by decide +kernel) rfl), (zt_mem 558 (by decide +kernel) rfl)⟩
theorem vX10_103 : zl_V RX10 103 0 mX0_become := ⟨_, rfl, rfl, (zt_mem 423 (by decide +kernel) rfl), (zt_mem 424 (by decide +kernel) rfl), (zt_mem 425 (by decide +kernel) rfl)⟩
theorem vX10_106 : zl_V RX10 106 10 mX10_isToldSize := ⟨_, rfl, rfl, (zt_mem 432 (by decide +kernel) rfl), (zt_mem 434 (by decide +kernel) rfl), (zt_mem 4 (by decide +kernel) rfl)⟩
theorem vX10_129 : zl_V RX10 129 8 mX8_sawThrough := ⟨_, rfl, rfl, (zt_mem 567 (by decide +kernel) rfl), (zt_mem 568 (by decide +kernel) rfl), (zt_mem 569 (by decide +kernel) rfl)⟩
theorem vX10_136 : zl_V RX10 136 7 mX7_count := ⟨_, rfl, rfl, (zt_mem 465 (by decide +kernel) rfl), (zt_mem 466 (by decide +kernel) rfl), (zt_mem 467 (by decide +kernel) rfl)⟩
theorem vX10_140 : zl_V RX10 140 7 mX7_fact := ⟨_, rfl, rfl, (zt_mem 651 (by decide +kernel) rfl), (zt_mem 652 (by decide +kernel) rfl), (zt_mem 653 (by decide +kernel) rfl)⟩
theorem sX10_150 : zl_S RX10 150 mX10_room := ⟨(zt_mem 481 (by decide +kernel) rfl), (zt_mem 482 (by decide +kernel) rfl)⟩
theorem vX10_153 : zl_V RX10 153 0 mX0_isTold := ⟨_, rfl, rfl, (zt_mem 436 (by decide +kernel) rfl), (zt_mem 437 (by decide +kernel) rfl), (zt_mem 438 (by decide +kernel) rfl)⟩
theorem sX11_87 : zl_S RX11 87 mX11_in := ⟨(zt_mem 762 (by decide +kernel) rfl), (zt_mem 763 (by decide +kernel) rfl)⟩
theorem vX11_95 : zl_V RX11 95 11 mX11_topOf := ⟨_, rfl, rfl, (zt_mem 786 (by decide +kernel) rfl), (zt_mem 788 (by decide +kernel) rfl), (zt_mem 17 (by decide +kernel) rfl)⟩
theorem vX11_99 : zl_V RX11 99 11 mX11_gradeOf := ⟨_, rfl, rfl, (zt_mem 794 (by decide +kernel) rfl), (zt_mem 796 (by decide +kernel) rfl), (zt_mem 19 (by decide +kernel) rfl)⟩
theorem vX11_105 : zl_V RX11 105 11 mX11_worth := ⟨_, rfl, rfl, (zt_mem 790 (by decide +kernel) rfl), (zt_mem 792 (by decide +kernel) rfl), (zt_mem 18 (by decide +kernel) rfl)⟩
theorem vX11_108 : zl_V RX11 108 11 mX11_isAllowed := ⟨_, rfl, rfl, (zt_mem 782 (by decide +kernel) rfl), (zt_mem 784 (by decide +kernel) rfl), (zt_mem 16 (by decide +kernel) rfl)⟩
theorem vX11_112 : zl_V RX11 112 11 mX11_steps := ⟨_, rfl, rfl, (zt_mem 798 (by decide +kernel) rfl), (zt_mem 800 (by decide +kernel) rfl), (zt_mem 20 (by decide +kernel) rfl)⟩
theorem vX11_115 : zl_V RX11 115 11 mX11_add := ⟨_, rfl, rfl, (zt_mem 802 (by decide +kernel) rfl), (zt_mem 804 (by decide +kernel) rfl), (zt_mem 21 (by decide +kernel) rfl)⟩
theorem sX11_125 : zl_S RX11 125 mX11_isWithin := ⟨(zt_mem 868 (by decide +kernel) rfl), (zt_mem 869 (by decide +kernel) rfl)⟩
theorem vX11_128 : zl_V RX11 128 11 mX11_beside := ⟨_, rfl, rfl, (zt_mem 864 (by decide +kernel) rfl), (zt_mem 866 (by decide +kernel) rfl), (zt_mem 25 (by decide +kernel) rfl)⟩
theorem vX11_132 : zl_V RX11 132 11 mX11_above := ⟨_, rfl, rfl, (zt_mem 871 (by decide +kernel) rfl), (zt_mem 873 (by decide +kernel) rfl), (zt_mem 26 (by decide +kernel) rfl)⟩
theorem vX11_136 : zl_V RX11 136 11 mX11_step := ⟨_, rfl, rfl, (zt_mem 860 (by decide +kernel) rfl), (zt_mem 862 (by decide +kernel) rfl), (zt_mem 24 (by decide +kernel) rfl)⟩
theorem vX11_140 : zl_V RX11 140 11 mX11_isBest := ⟨_, rfl, rfl, (zt_mem 875 (by decide +kernel) rfl), (zt_mem 877 (by decide +kernel) rfl), (zt_mem 27 (by decide +kernel) rfl)⟩
theorem vX11_144 : zl_V RX11 144 11 mX11_prices := ⟨_, rfl, rfl, (zt_mem 852 (by decide +kernel) rfl), (zt_mem 854 (by decide +kernel) rfl), (zt_mem 22 (by decide +kernel) rfl)⟩
theorem vX11_148 : zl_V RX11 148 11 mX11_sequence := ⟨_, rfl, rfl, (zt_mem 856 (by decide +kernel) rfl), (zt_mem 858 (by decide +kernel) rfl), (zt_mem 23 (by decide +kernel) rfl)⟩
theorem vX11_152 : zl_V RX11 152 11 mX11_lay := ⟨_, rfl, rfl, (zt_mem 879 (by decide +kernel) rfl), (zt_mem 881 (by decide +kernel) rfl), (zt_mem 28 (by decide +kernel) rfl)⟩
theorem vX11_158 : zl_V RX11 158 11 mX11_put := ⟨_, rfl, rfl, (zt_mem 883 (by decide +kernel) rfl), (zt_mem 885 (by decide +kernel) rfl), (zt_mem 29 (by decide +kernel) rfl)⟩
theorem vX2_24 : zl_V RX2 24 2 mX2_farthestLimit := ⟨_, rfl, rfl, (zt_mem 594 (by decide +kernel) rfl), (zt_mem 596 (by decide +kernel) rfl), (zt_mem 9 (by decide +kernel) rfl)⟩
theorem vX2_28 : zl_V RX2 28 2 mX2_reachOnFrom := ⟨_, rfl, rfl, (zt_mem 600 (by decide +kernel) rfl), (zt_mem 602 (by decide +kernel) rfl), (zt_mem 10 (by decide +kernel) rfl)⟩
theorem vX2_32 : zl_V RX2 32 2 mX2_mostFrom := ⟨_, rfl, rfl, (zt_mem 604 (by decide +kernel) rfl), (zt_mem 606 (by decide +kernel) rfl), (zt_mem 11 (by decide +kernel) rfl)⟩
theorem vX2_42 : zl_V RX2 42 2 mX2_lowestFrom := ⟨_, rfl, rfl, (zt_mem 612 (by decide +kernel) rfl), (zt_mem 614 (by decide +kernel) rfl), (zt_mem 12 (by decide +kernel) rfl)⟩
theorem vX2_45 : zl_V RX2 45 4 mX4_add := ⟨_, rfl, rfl, (zt_mem 616 (by decide +kernel) rfl), (zt_mem 617 (by decide +kernel) rfl), (zt_mem 618 (by decide +kernel) rfl)⟩
theorem xX2_49 : zl_min RX2 49 := ⟨(zt_mem 598 (by decide +kernel) rfl), (zt_mem 383 (by decide +kernel) rfl), (zt_mem 43 (by decide +kernel) rfl), (zt_mem 384 (by decide +kernel) rfl)⟩
theorem xX2_55 : zl_max RX2 55 := ⟨(zt_mem 599 (by decide +kernel) rfl), (zt_mem 341 (by decide +kernel) rfl), (zt_mem 43 (by decide +kernel) rfl), (zt_mem 342 (by decide +kernel) rfl)⟩
theorem sX5_22 : zl_S RX5 22 mJ7_fill_53178 := ⟨(zt_mem 351 (by decide +kernel) rfl), (zt_mem 352 (by decide +kernel) rfl)⟩
theorem xX6_21 : zl_max RX6 21 := ⟨(zt_mem 580 (by decide +kernel) rfl), (zt_mem 341 (by decide +kernel) rfl), (zt_mem 43 (by decide +kernel) rfl), (zt_mem 342 (by decide +kernel) rfl)⟩
theorem vX7_34 : zl_V RX7 34 7 mX7_stacks := ⟨_, rfl, rfl, (zt_mem 469 (by decide +kernel) rfl), (zt_mem 470 (by decide +kernel) rfl), (zt_mem 471 (by decide +kernel) rfl)⟩
theorem vX7_38 : zl_V RX7 38 4 mX4_countOf := ⟨_, rfl, rfl, (zt_mem 636 (by decide +kernel) rfl), (zt_mem 637 (by decide +kernel) rfl), (zt_mem 638 (by decide +kernel) rfl)⟩
theorem vX7_45 : zl_V RX7 45 7 mX7_factOf := ⟨_, rfl, rfl, (zt_mem 655 (by decide +kernel) rfl), (zt_mem 657 (by decide +kernel) rfl), (zt_mem 15 (by decide +kernel) rfl)⟩
theorem vX8_49 : zl_V RX8 49 8 mX8_prepare := ⟨_, rfl, rfl, (zt_mem 571 (by decide +kernel) rfl), (zt_mem 573 (by decide +kernel) rfl), (zt_mem 6 (by decide +kernel) rfl)⟩
theorem vX8_53 : zl_V RX8 53 8 mX8_tryWithoutCant := ⟨_, rfl, rfl, (zt_mem 582 (by decide +kernel) rfl), (zt_mem 584 (by decide +kernel) rfl), (zt_mem 7 (by decide +kernel) rfl)⟩
theorem vX8_56 : zl_V RX8 56 8 mX8_keepTrial := ⟨_, rfl, rfl, (zt_mem 620 (by decide +kernel) rfl), (zt_mem 622 (by decide +kernel) rfl), (zt_mem 13 (by decide +kernel) rfl)⟩
theorem vX8_59 : zl_V RX8 59 8 mX8_tryHeight := ⟨_, rfl, rfl, (zt_mem 624 (by decide +kernel) rfl), (zt_mem 626 (by decide +kernel) rfl), (zt_mem 14 (by decide +kernel) rfl)⟩
theorem vX8_63 : zl_V RX8 63 7 mX7_isBetterThan := ⟨_, rfl, rfl, (zt_mem 628 (by decide +kernel) rfl), (zt_mem 629 (by decide +kernel) rfl), (zt_mem 630 (by decide +kernel) rfl)⟩
theorem vX8_71 : zl_V RX8 71 7 mX7_countOf := ⟨_, rfl, rfl, (zt_mem 632 (by decide +kernel) rfl), (zt_mem 633 (by decide +kernel) rfl), (zt_mem 634 (by decide +kernel) rfl)⟩
theorem vX8_75 : zl_V RX8 75 6 mX6_deliver := ⟨_, rfl, rfl, (zt_mem 640 (by decide +kernel) rfl), (zt_mem 641 (by decide +kernel) rfl), (zt_mem 642 (by decide +kernel) rfl)⟩
theorem vX8_91 : zl_V RX8 91 0 mX0_isTold := ⟨_, rfl, rfl, (zt_mem 575 (by decide +kernel) rfl), (zt_mem 437 (by decide +kernel) rfl), (zt_mem 438 (by decide +kernel) rfl)⟩
theorem vX8_96 : zl_V RX8 96 6 mX6_additionFor := ⟨_, rfl, rfl, (zt_mem 576 (by decide +kernel) rfl), (zt_mem 577 (by decide +kernel) rfl), (zt_mem 578 (by decide +kernel) rfl)⟩
theorem sX8_102 : zl_SN RX8 102 mX10_room := ⟨rfl, (zt_mem 482 (by decide +kernel) rfl)⟩
theorem vX8_118 : zl_V RX8 118 8 mX8_stackFrom := ⟨_, rfl, rfl, (zt_mem 586 (by decide +kernel) rfl), (zt_mem 588 (by decide +kernel) rfl), (zt_mem 8 (by decide +kernel) rfl)⟩
theorem vX8_124 : zl_V RX8 124 2 mX2_solve := ⟨_, rfl, rfl, (zt_mem 590 (by decide +kernel) rfl), (zt_mem 591 (by decide +kernel) rfl), (zt_mem 592 (by decide +kernel) rfl)⟩
theorem vX8_128 : zl_V RX8 128 2 mX2_lay := ⟨_, rfl, rfl, (zt_mem 608 (by decide +kernel) rfl), (zt_mem 609 (by decide +kernel) rfl), (zt_mem 610 (by decide +kernel) rfl)⟩
theorem xX9_31 : zl_max RX9 31 := ⟨(zt_mem 340 (by decide +kernel) rfl), (zt_mem 341 (by decide +kernel) rfl), (zt_mem 43 (by decide +kernel) rfl), (zt_mem 342 (by decide +kernel) rfl)⟩
theorem xX9_37 : zl_min RX9 37 := ⟨(zt_mem 382 (by decide +kernel) rfl), (zt_mem 383 (by decide +kernel) rfl), (zt_mem 43 (by decide +kernel) rfl), (zt_mem 384 (by decide +kernel) rfl)⟩
end
section
theorem zq_1 {c : Prop} [Decidable c] (h : c) : some (zv_i 1) = some (zv_i (zi_b c)) := by rw [zi_bt h]
theorem zq_0 {c : Prop} [Decidable c] (h : ¬ c) : some (zv_i 0) = some (zv_i (zi_b c)) := by rw [zi_bf h]
theorem zq_b {c d : Prop} [Decidable c] [Decidable d] (h : c ↔ d) : some (zv_i (zi_b c)) = some (zv_i (zi_b d)) := by
  by_cases hc : c
  · rw [zi_bt hc, zi_bt (h.mp hc)]
  · rw [zi_bf hc, zi_bf (fun q => hc (h.mpr q))]
theorem zq_i {x y : Int} (h : x = y) : some (zv_i x) = some (zv_i y) := by rw [h]
/-- what a method left as it was: all cells but these -/
def zf_x (σ τ : zs_S) (cs : List Nat) : Prop := ∀ c, c ∉ cs → ∀ i, τ c i = σ c i
theorem zf_r (σ : zs_S) (cs : List Nat) : zf_x σ σ cs := fun _ _ _ => rfl
theorem zf_t {σ τ υ : zs_S} {cs ds es : List Nat} (h1 : zf_x σ τ cs) (h2 : zf_x τ υ ds) (hc : ∀ c, c ∈ cs → c ∈ es) (hd : ∀ c, c ∈ ds → c ∈ es) : zf_x σ υ es := fun c h i => by
  rw [h2 c (fun q => h (hd c q)) i, h1 c (fun q => h (hc c q)) i]
theorem zf_p {σ τ υ : zs_S} {cs : List Nat} {k : Nat} {j v : Int} (h1 : zf_x σ τ cs) (e : υ = zs_put τ k j v) (hk : k ∈ cs) : zf_x σ υ cs := fun c h i => by
  rw [e, zs_put_ne (fun q => h (by rw [q]; exact hk)) i, h1 c h i]
theorem zf_w {σ τ : zs_S} {cs ds : List Nat} (h : zf_x σ τ cs) (hc : ∀ c, c ∈ cs → c ∈ ds) : zf_x σ τ ds := fun c q i => h c (fun z => q (hc c z)) i
section ZB
variable {g : zg_G} {M : zm_T} {k : zk_T} {pc : Nat} {L L' : List (Nat × Value)} {S : List Value} {σ : zs_S}
theorem zi_shr1 {x : Int} (h0 : 0 ≤ x) (h1 : x ≤ 2147483647) : zi_w x >>> (zi_w 1 &&& 31) = zi_w (x / 2) := by
  apply Int32.toInt_inj.mp
  rw [pk_shr (zi_w x) (zi_w 1 &&& 31) 1 (by decide), zi_toInt ⟨by omega, h1⟩, zi_toInt ⟨by omega, by omega⟩, Int.shiftRight_eq_div_pow]
  rfl
theorem zr_ishr1 (C : zk_ok g M k) {x : Int} (hd : decode M.2.1 pc = .ok (.ishr, 1)) (h0 : 0 ≤ x) (h1 : x ≤ 2147483647) (K : zw_W g M k (pc + 1) L (zv_i (x / 2) :: S) σ) : zw_W g M k pc L (zv_i 1 :: zv_i x :: S) σ := by
  obtain ⟨p, l, e, R, s, m, args, below, meth, c, cells, slots, Q, A⟩ := k
  obtain ⟨hx, hb, hml, hown, hts, hK, hA, hf1, hf2, hc1, hc2, hN⟩ := C
  intro H locs ls hP hS hl
  refine lv_ishr hx hb hd ?_
  rw [zi_shr1 h0 h1]
  exact K H locs ls hP hS hl
end ZB
/-! cells by an index -/
theorem zs_j6 {j : Int} (h : 0 ≤ j ∧ j < 6) : j = 0 ∨ j = 1 ∨ j = 2 ∨ j = 3 ∨ j = 4 ∨ j = 5 := by omega
theorem hn_kind {j : Int} (h : 0 ≤ j ∧ j < 6) : 8 + 2 * j.toNat < zs_N := by show _ < 91; omega
theorem hn_kindP {j : Int} (h : 0 ≤ j ∧ j < 6) : 9 + 2 * j.toNat < zs_N := by show _ < 91; omega
theorem hn_size {j : Int} (h : 0 ≤ j ∧ j < 6) : 28 + 2 * j.toNat < zs_N := by show _ < 91; omega
theorem hn_sizeP {j : Int} (h : 0 ≤ j ∧ j < 6) : 29 + 2 * j.toNat < zs_N := by show _ < 91; omega
theorem hs_kind {n : Nat} {j : Int} (h : 0 ≤ j ∧ j < 6) : zs_sh n (8 + 2 * j.toNat) = .inr (.inr (5, [none, none, some (some (9 + 2 * j.toNat))])) := by
  rcases zs_j6 h with rfl | rfl | rfl | rfl | rfl | rfl <;> rfl
theorem hs_kindP {n : Nat} {j : Int} (h : 0 ≤ j ∧ j < 6) : zs_sh n (9 + 2 * j.toNat) = .inl (0, 57) := by
  rcases zs_j6 h with rfl | rfl | rfl | rfl | rfl | rfl <;> rfl
theorem hs_size {n : Nat} {j : Int} (h : 0 ≤ j ∧ j < 6) : zs_sh n (28 + 2 * j.toNat) = .inr (.inr (0, [none, none, some (some (29 + 2 * j.toNat))])) := by
  rcases zs_j6 h with rfl | rfl | rfl | rfl | rfl | rfl <;> rfl
theorem hs_sizeP {n : Nat} {j : Int} (h : 0 ≤ j ∧ j < 6) : zs_sh n (29 + 2 * j.toNat) = .inl (0, 3) := by
  rcases zs_j6 h with rfl | rfl | rfl | rfl | rfl | rfl <;> rfl
/-- a Cutting's cell -/
abbrev zs_q (q : Nat) : Prop := q = 22 ∨ q = 24
theorem hn_cut {q : Nat} (h : zs_q q) : q < zs_N := by show _ < 91; omega
theorem hn_cutF {q : Nat} (h : zs_q q) : q + 1 < zs_N := by show _ < 91; omega
theorem hs_cut {n q : Nat} (h : zs_q q) : zs_sh n q = .inr (.inr (3, [none, none, some (some (q + 1))])) := by
  rcases h with rfl | rfl <;> rfl
theorem hs_cutF {n q : Nat} (h : zs_q q) : zs_sh n (q + 1) = .inl (0, 240) := by
  rcases h with rfl | rfl <;> rfl
/-- a Pattern's cell -/
abbrev zs_p (q : Nat) : Prop := q = 51 ∨ q = 59
/-- a Line's cell -/
abbrev zs_l (q : Nat) : Prop := q = 52 ∨ q = 55 ∨ q = 60 ∨ q = 63
/-- how many boards a Line holds -/
def zs_n (q : Nat) : Nat := if q = 52 ∨ q = 60 then 180 else 90
theorem hn_line {q : Nat} (h : zs_l q) : q < zs_N := by show _ < 91; omega
theorem hn_line1 {q : Nat} (h : zs_l q) : q + 1 < zs_N := by show _ < 91; omega
theorem hn_line2 {q : Nat} (h : zs_l q) : q + 2 < zs_N := by show _ < 91; omega
theorem hs_line {n q : Nat} (h : zs_l q) : zs_sh n q = .inr (.inr (4, [none, some (some (q + 1)), some (some (q + 2))])) := by
  rcases h with rfl | rfl | rfl | rfl <;> rfl
theorem hs_line1 {n q : Nat} (h : zs_l q) : zs_sh n (q + 1) = .inl (0, zs_n q) := by
  rcases h with rfl | rfl | rfl | rfl <;> rfl
theorem hs_line2 {n q : Nat} (h : zs_l q) : zs_sh n (q + 2) = .inl (0, zs_n q) := by
  rcases h with rfl | rfl | rfl | rfl <;> rfl
theorem zs_n90 {q : Nat} : zs_n q = 180 ∨ zs_n q = 90 := by
  unfold zs_n
  by_cases h : q = 52 ∨ q = 60
  · exact Or.inl (if_pos h)
  · exact Or.inr (if_neg h)
theorem hn_pat {q : Nat} (h : zs_p q) : q < zs_N := by show _ < 91; omega
theorem hn_patP {q : Nat} (h : zs_p q) : q + 7 < zs_N := by show _ < 91; omega
theorem hs_pat {n q : Nat} (h : zs_p q) : zs_sh n q = .inr (.inr (7, [none, none, some (some (q + 1)), some (some (q + 4)), some (some (q + 7))])) := by
  rcases h with rfl | rfl <;> rfl
theorem hs_patP {n q : Nat} (h : zs_p q) : zs_sh n (q + 7) = .inl (0, 6) := by
  rcases h with rfl | rfl <;> rfl
theorem zl_1 {q : Nat} (h : zs_p q) : zs_l (q + 1) := by rcases h with rfl | rfl <;> decide
theorem zl_4 {q : Nat} (h : zs_p q) : zs_l (q + 4) := by rcases h with rfl | rfl <;> decide
end
section
set_option maxRecDepth 20000 in
set_option maxHeartbeats 4000000 in
theorem m_within (g : zg_G) (σ : zs_S) (x lo hi : Int) (hx : zi_r x) (hl : zi_r lo) (hh : zi_r hi) : zm_Met g mX10_within σ [zv_i x, zv_i lo, zv_i hi] (fun v τ => v = some (zv_i (zi_b (lo ≤ x ∧ x ≤ hi))) ∧ σ = τ) := by
  refine zm_of (by decide +kernel) (Nat.le_of_ble_eq_true rfl) ?_
  intro k C hr
  show zw_W g mX10_within k 0 [(0, zv_i x), (1, zv_i lo), (2, zv_i hi)] [] σ
  refine zr_iload_n (pc := 0) C dX10_within_0 0 rfl ?_
  refine zr_iload_n (pc := 1) C dX10_within_1 1 rfl ?_
  refine zr_icmp_lt (pc := 2) C 14 dX10_within_2 (by decide) (by omega) (by omega) (fun h_1 => ?_) (fun h_1 => ?_)
  · refine zr_iconst (pc := 14) C dX10_within_14 ?_
    exact zr_zret (pc := 15) C hr dX10_within_15 rfl (by decide) (⟨zq_0 (by omega), rfl⟩)
  · refine zr_iload_n (pc := 5) C dX10_within_5 0 rfl ?_
    refine zr_iload_n (pc := 6) C dX10_within_6 2 rfl ?_
    refine zr_icmp_gt (pc := 7) C 14 dX10_within_7 (by decide) (by omega) (by omega) (fun h_2 => ?_) (fun h_2 => ?_)
    · refine zr_iconst (pc := 14) C dX10_within_14 ?_
      exact zr_zret (pc := 15) C hr dX10_within_15 rfl (by decide) (⟨zq_0 (by omega), rfl⟩)
    · refine zr_iconst (pc := 10) C dX10_within_10 ?_
      refine zr_goto (pc := 11) C 15 dX10_within_11 (by decide) ?_
      exact zr_zret (pc := 15) C hr dX10_within_15 rfl (by decide) (⟨zq_1 (by omega), rfl⟩)

set_option maxRecDepth 20000 in
set_option maxHeartbeats 4000000 in
theorem n_in (g : zg_G) (σ : zs_S) (x lo hi : Int) (hx : zi_r x) (hl : zi_r lo) (hh : zi_r hi) : zm_Met g mX11_in σ [zv_i x, zv_i lo, zv_i hi] (fun v τ => v = some (zv_i (zi_b (lo ≤ x ∧ x ≤ hi))) ∧ σ = τ) := by
  refine zm_of (by decide +kernel) (Nat.le_of_ble_eq_true rfl) ?_
  intro k C hr
  show zw_W g mX11_in k 0 [(0, zv_i x), (1, zv_i lo), (2, zv_i hi)] [] σ
  refine zr_iload_n (pc := 0) C dX11_in_0 0 rfl ?_
  refine zr_iload_n (pc := 1) C dX11_in_1 1 rfl ?_
  refine zr_icmp_lt (pc := 2) C 14 dX11_in_2 (by decide) (by omega) (by omega) (fun h_1 => ?_) (fun h_1 => ?_)
  · refine zr_iconst (pc := 14) C dX11_in_14 ?_
    exact zr_zret (pc := 15) C hr dX11_in_15 rfl (by decide) (⟨zq_0 (by omega), rfl⟩)
  · refine zr_iload_n (pc := 5) C dX11_in_5 0 rfl ?_
    refine zr_iload_n (pc := 6) C dX11_in_6 2 rfl ?_
    refine zr_icmp_gt (pc := 7) C 14 dX11_in_7 (by decide) (by omega) (by omega) (fun h_2 => ?_) (fun h_2 => ?_)
    · refine zr_iconst (pc := 14) C dX11_in_14 ?_
      exact zr_zret (pc := 15) C hr dX11_in_15 rfl (by decide) (⟨zq_0 (by omega), rfl⟩)
    · refine zr_iconst (pc := 10) C dX11_in_10 ?_
      refine zr_goto (pc := 11) C 15 dX11_in_11 (by decide) ?_
      exact zr_zret (pc := 15) C hr dX11_in_15 rfl (by decide) (⟨zq_1 (by omega), rfl⟩)

set_option maxRecDepth 20000 in
set_option maxHeartbeats 4000000 in
theorem m_toldK (g : zg_G) (σ : zs_S) (j : Int) (hj : 0 ≤ j ∧ j < 6) (hx : zi_r (σ (8 + 2 * j.toNat) 0)) : zm_Met g mX5_isTold σ [.ref (g.2.2.1 (8 + 2 * j.toNat))] (fun v τ => v = some (zv_i (zi_b (0 < σ (8 + 2 * j.toNat) 0))) ∧ σ = τ) := by
  refine zm_of (by decide +kernel) (Nat.le_of_ble_eq_true rfl) ?_
  intro k C hr
  show zw_W g mX5_isTold k 0 [(0, .ref (g.2.2.1 (8 + 2 * j.toNat)))] [] σ
  refine zr_aload_n (pc := 0) C dX5_isTold_0 0 rfl ?_
  refine zr_get (v := zv_i (σ (8 + 2 * j.toNat) 0)) (pc := 1) C 0 none dX5_isTold_1 fX5_15 (hn_kind hj) (hs_kind hj) rfl rfl ?_
  refine zr_if_le (pc := 4) C 11 dX5_isTold_4 (by decide) (by omega) (fun h_1 => ?_) (fun h_1 => ?_)
  · refine zr_iconst (pc := 11) C dX5_isTold_11 ?_
    exact zr_zret (pc := 12) C hr dX5_isTold_12 rfl (by decide) (⟨zq_0 (by omega), rfl⟩)
  · refine zr_iconst (pc := 7) C dX5_isTold_7 ?_
    refine zr_goto (pc := 8) C 12 dX5_isTold_8 (by decide) ?_
    exact zr_zret (pc := 12) C hr dX5_isTold_12 rfl (by decide) (⟨zq_1 (by omega), rfl⟩)

set_option maxRecDepth 20000 in
set_option maxHeartbeats 4000000 in
theorem m_toldS (g : zg_G) (σ : zs_S) (j : Int) (hj : 0 ≤ j ∧ j < 6) (hx : zi_r (σ (28 + 2 * j.toNat) 0)) : zm_Met g mX0_isTold σ [.ref (g.2.2.1 (28 + 2 * j.toNat))] (fun v τ => v = some (zv_i (zi_b (0 < σ (28 + 2 * j.toNat) 0))) ∧ σ = τ) := by
  refine zm_of (by decide +kernel) (Nat.le_of_ble_eq_true rfl) ?_
  intro k C hr
  show zw_W g mX0_isTold k 0 [(0, .ref (g.2.2.1 (28 + 2 * j.toNat)))] [] σ
  refine zr_aload_n (pc := 0) C dX0_isTold_0 0 rfl ?_
  refine zr_get (v := zv_i (σ (28 + 2 * j.toNat) 0)) (pc := 1) C 0 none dX0_isTold_1 fX0_15 (hn_size hj) (hs_size hj) rfl rfl ?_
  refine zr_if_le (pc := 4) C 11 dX0_isTold_4 (by decide) (by omega) (fun h_1 => ?_) (fun h_1 => ?_)
  · refine zr_iconst (pc := 11) C dX0_isTold_11 ?_
    exact zr_zret (pc := 12) C hr dX0_isTold_12 rfl (by decide) (⟨zq_0 (by omega), rfl⟩)
  · refine zr_iconst (pc := 7) C dX0_isTold_7 ?_
    refine zr_goto (pc := 8) C 12 dX0_isTold_8 (by decide) ?_
    exact zr_zret (pc := 12) C hr dX0_isTold_12 rfl (by decide) (⟨zq_1 (by omega), rfl⟩)

set_option maxRecDepth 20000 in
set_option maxHeartbeats 4000000 in
theorem m_slot (g : zg_G) (σ : zs_S) (t r : Int) : zm_Met g mX5_slot σ [zv_i t, zv_i r] (fun v τ => v = some (zv_i (t * 3 + r - 1)) ∧ σ = τ) := by
  refine zm_of (by decide +kernel) (Nat.le_of_ble_eq_true rfl) ?_
  intro k C hr
  show zw_W g mX5_slot k 0 [(0, zv_i t), (1, zv_i r)] [] σ
  refine zr_iload_n (pc := 0) C dX5_slot_0 0 rfl ?_
  refine zr_iconst (pc := 1) C dX5_slot_1 ?_
  refine zr_imul (pc := 2) C dX5_slot_2 ?_
  refine zr_iload_n (pc := 3) C dX5_slot_3 1 rfl ?_
  refine zr_iadd (pc := 4) C dX5_slot_4 ?_
  refine zr_iconst (pc := 5) C dX5_slot_5 ?_
  refine zr_isub (pc := 6) C dX5_slot_6 ?_
  exact zr_iret (pc := 7) C hr dX5_slot_7 rfl (⟨rfl, rfl⟩)
end
section
/-! THE MATHEMATICS OF THE CLASS, part A -/
theorem zi_sq {x : Int} (h0 : 0 ≤ x) (h1 : x ≤ 16384) : zi_r (x * x) := by
  have h2 : 0 ≤ x * x := Int.mul_nonneg h0 h0
  have h3 : x * x ≤ 16384 * 16384 := Int.mul_le_mul h1 h1 h0 (by decide)
  exact ⟨by omega, by omega⟩
/-- the root by bits: from bit k - 1 down, on top of r -/
def ro_r (sq : Int) : Nat → Int → Int
  | 0, r => r
  | k + 1, r => if (r + 2 ^ k) * (r + 2 ^ k) ≤ sq then ro_r sq k (r + 2 ^ k) else ro_r sq k r
/-- the other side of the largest rectangle with side b in a circle a across -/
def ro_m (a b : Int) : Int := if a * a - b * b < 0 then -1 else ro_r (a * a - b * b) 14 0
theorem ro_n {sq r bit : Int} {j : Nat} (hj : bit = 2 ^ j) (h : sq < (r + bit) * (r + bit)) : ro_r sq (j + 1) r = ro_r sq j r := by
  subst hj
  simp only [ro_r]
  rw [if_neg (by omega)]
theorem ro_y {sq r bit : Int} {j : Nat} (hj : bit = 2 ^ j) (h : ¬ sq < (r + bit) * (r + bit)) : ro_r sq (j + 1) r = ro_r sq j (r + bit) := by
  subst hj
  simp only [ro_r]
  rw [if_pos (by omega)]
/-- the bit that stands at step k -/
def ro_k (k : Nat) (bit : Int) : Prop := (k = 0 ∧ bit = 0) ∨ ∃ j, k = j + 1 ∧ bit = 2 ^ j
theorem ro_h {j : Nat} {bit : Int} (h : bit = 2 ^ j) : ro_k j (bit / 2) := by
  subst h
  cases j with
  | zero => exact Or.inl ⟨rfl, by decide⟩
  | succ j => exact Or.inr ⟨j, rfl, by rw [Int.pow_succ, Int.mul_ediv_cancel _ (by decide)]⟩
theorem ro_e {k : Nat} {bit : Int} (h : ro_k k bit) (h0 : 0 < bit) : ∃ j, k = j + 1 ∧ bit = 2 ^ j := by
  rcases h with ⟨-, h⟩ | h
  · omega
  · exact h
theorem ro_z {k : Nat} {bit : Int} (h : ro_k k bit) (h0 : bit ≤ 0) : k = 0 := by
  rcases h with ⟨h, -⟩ | ⟨j, -, h⟩
  · exact h
  · have : (0 : Int) < 2 ^ j := Int.pow_pos (by decide)
    omega
theorem ro_hd (j : Nat) : ((2 : Int) ^ j) / 2 + ((2 : Int) ^ j) / 2 ≤ 2 ^ j := by omega
/-- what the root is: r² ≤ sq < (r + 1)² -/
theorem ro_rs (sq : Int) : ∀ (k : Nat) (r : Int), 0 ≤ r → r * r ≤ sq → sq < (r + 2 ^ k) * (r + 2 ^ k) → 0 ≤ ro_r sq k r ∧ ro_r sq k r * ro_r sq k r ≤ sq ∧ sq < (ro_r sq k r + 1) * (ro_r sq k r + 1)
  | 0, r, h0, h1, h2 => ⟨h0, h1, by simpa [ro_r] using h2⟩
  | k + 1, r, h0, h1, h2 => by
    have hp : (0 : Int) < 2 ^ k := Int.pow_pos (by decide)
    simp only [ro_r]
    by_cases h : (r + 2 ^ k) * (r + 2 ^ k) ≤ sq
    · rw [if_pos h]
      refine ro_rs sq k (r + 2 ^ k) (by omega) h ?_
      rw [Int.pow_succ] at h2
      rw [show r + 2 ^ k + 2 ^ k = r + 2 ^ k * 2 by omega]
      exact h2
    · rw [if_neg h]
      exact ro_rs sq k r h0 h1 (by omega)
/-- the least of k diameters from a on, 900 at most; the worst of k grades from a on, 1 at least -/
def lo_t (d : Int → Int) (a : Int) : Nat → Int
  | 0 => 900
  | k + 1 => min (lo_t d a k) (d (a + k))
def hi_t (d : Int → Int) (a : Int) : Nat → Int
  | 0 => 1
  | k + 1 => max (hi_t d a k) (d (a + k))
theorem lo_s {d : Int → Int} {a p : Int} (h : a ≤ p) : lo_t d a (p + 1 - a).toNat = min (lo_t d a (p - a).toNat) (d p) := by
  rw [show (p + 1 - a).toNat = (p - a).toNat + 1 by omega, lo_t, show a + ((p - a).toNat : Int) = p by omega]
theorem hi_s {d : Int → Int} {a p : Int} (h : a ≤ p) : hi_t d a (p + 1 - a).toNat = max (hi_t d a (p - a).toNat) (d p) := by
  rw [show (p + 1 - a).toNat = (p - a).toNat + 1 by omega, hi_t, show a + ((p - a).toNat : Int) = p by omega]
theorem lo_0 {d : Int → Int} {a : Int} : lo_t d a (a - a).toNat = 900 := by rw [show (a - a).toNat = 0 by omega]; rfl
theorem hi_0 {d : Int → Int} {a : Int} : hi_t d a (a - a).toNat = 1 := by rw [show (a - a).toNat = 0 by omega]; rfl
theorem lo_b {d : Int → Int} {a b : Int} (h : ∀ p, a ≤ p → p ≤ b → 50 ≤ d p ∧ d p ≤ 900) : ∀ k : Nat, a + k ≤ b + 1 → 50 ≤ lo_t d a k ∧ lo_t d a k ≤ 900
  | 0, _ => ⟨by simp [lo_t], by simp [lo_t]⟩
  | k + 1, hk => by
    have h1 := lo_b h k (by omega)
    have h2 := h (a + k) (by omega) (by omega)
    rw [lo_t]
    omega
theorem hi_b {d : Int → Int} {a b : Int} (h : ∀ p, a ≤ p → p ≤ b → 1 ≤ d p ∧ d p ≤ 3) : ∀ k : Nat, a + k ≤ b + 1 → 1 ≤ hi_t d a k ∧ hi_t d a k ≤ 3
  | 0, _ => ⟨by simp [hi_t], by simp [hi_t]⟩
  | k + 1, hk => by
    have h1 := hi_b h k (by omega)
    have h2 := h (a + k) (by omega) (by omega)
    rw [hi_t]
    omega
theorem lo_c {d e : Int → Int} {a : Int} : ∀ {k : Nat}, (∀ p, a ≤ p → p < a + k → d p = e p) → lo_t d a k = lo_t e a k
  | 0, _ => rfl
  | k + 1, h => by rw [lo_t, lo_t, lo_c (fun p h1 h2 => h p h1 (by omega)), h (a + k) (by omega) (by omega)]
theorem hi_c {d e : Int → Int} {a : Int} : ∀ {k : Nat}, (∀ p, a ≤ p → p < a + k → d p = e p) → hi_t d a k = hi_t e a k
  | 0, _ => rfl
  | k + 1, h => by rw [hi_t, hi_t, hi_c (fun p h1 h2 => h p h1 (by omega)), h (a + k) (by omega) (by omega)]
/-! what holds of the stem and the kinds: s_ -/
/-- the stem's last point, diameters, grades -/
def ks_s (σ : zs_S) (n : Int) : Prop := 1 ≤ n ∧ n ≤ 80 ∧ σ 2 0 = n ∧ (∀ p, 0 ≤ p → p ≤ n → 50 ≤ σ 3 p ∧ σ 3 p ≤ 900) ∧ (∀ p, 0 ≤ p → p ≤ n → 1 ≤ σ 4 p ∧ σ 4 p ≤ 3)
/-- the kinds: length 0 .. 60, least top, prices -/
def ks_k (σ : zs_S) : Prop := ∀ j : Int, 0 ≤ j → j < 6 → (0 ≤ σ (8 + 2 * j.toNat) 0 ∧ σ (8 + 2 * j.toNat) 0 ≤ 60) ∧ (0 ≤ σ (8 + 2 * j.toNat) 1 ∧ σ (8 + 2 * j.toNat) 1 ≤ 900) ∧ ∀ i, 0 ≤ i → i < 57 → 0 ≤ σ (9 + 2 * j.toNat) i ∧ σ (9 + 2 * j.toNat) i ≤ 1000000
theorem ks_sx {σ τ : zs_S} {n : Int} (h : ks_s σ n) (h2 : ∀ i, τ 2 i = σ 2 i) (h3 : ∀ i, τ 3 i = σ 3 i) (h4 : ∀ i, τ 4 i = σ 4 i) : ks_s τ n := by
  obtain ⟨a, b, c, d, e⟩ := h
  exact ⟨a, b, by rw [h2]; exact c, fun p x y => by rw [h3]; exact d p x y, fun p x y => by rw [h4]; exact e p x y⟩
theorem ks_kx {σ τ : zs_S} (h : ks_k σ) (h1 : ∀ c, 8 ≤ c → c ≤ 19 → ∀ i, τ c i = σ c i) : ks_k τ := by
  intro j a b
  obtain ⟨x, y, z⟩ := h j a b
  refine ⟨by rw [h1 _ (by omega) (by omega)]; exact x, by rw [h1 _ (by omega) (by omega)]; exact y, fun i p q => by rw [h1 _ (by omega) (by omega)]; exact z i p q⟩
/-- the arrays tops and worst are those of a look from f -/
def ks_l (σ : zs_S) (n f : Int) : Prop := ∀ j, 0 ≤ j → j ≤ n - f → σ 5 j = lo_t (σ 3) f (j + 1).toNat ∧ σ 6 j = hi_t (σ 4) f (j + 1).toNat
/-- a log of kind j from p: its length, whether it is allowed, its top, grade and price -/
abbrev bk_n (σ : zs_S) (j : Int) : Int := σ (8 + 2 * j.toNat) 0
abbrev bk_t (σ : zs_S) (p j : Int) : Int := lo_t (σ 3) p (bk_n σ j + 1).toNat
abbrev bk_g (σ : zs_S) (p j : Int) : Int := hi_t (σ 4) p (bk_n σ j + 1).toNat
abbrev bk_a (σ : zs_S) (n p j : Int) : Prop := 0 < bk_n σ j ∧ p + bk_n σ j ≤ n ∧ σ (8 + 2 * j.toNat) 1 ≤ bk_t σ p j
abbrev bk_v (σ : zs_S) (p j : Int) : Int := σ (9 + 2 * j.toNat) (bk_t σ p j / 50 * 3 + bk_g σ p j - 1)
/-- the price from a look, -1 where no log is allowed -/
def bk_p (σ : zs_S) (n p j : Int) : Int := if bk_a σ n p j then bk_v σ p j else -1
theorem bk_pc {σ τ : zs_S} {n p j : Int} (h3 : ∀ i, τ 3 i = σ 3 i) (h4 : ∀ i, τ 4 i = σ 4 i) (hj : 0 ≤ j ∧ j < 6) (h1 : ∀ c, 8 ≤ c → c ≤ 19 → ∀ i, τ c i = σ c i) : bk_p τ n p j = bk_p σ n p j ∧ bk_n τ j = bk_n σ j ∧ bk_t τ p j = bk_t σ p j ∧ bk_g τ p j = bk_g σ p j := by
  have e1 : bk_n τ j = bk_n σ j := h1 _ (by omega) (by omega) _
  have e2 : bk_t τ p j = bk_t σ p j := by
    show lo_t (τ 3) p (bk_n τ j + 1).toNat = _
    rw [e1]; exact lo_c (fun q _ _ => h3 q)
  have e3 : bk_g τ p j = bk_g σ p j := by
    show hi_t (τ 4) p (bk_n τ j + 1).toNat = _
    rw [e1]; exact hi_c (fun q _ _ => h4 q)
  refine ⟨?_, e1, e2, e3⟩
  unfold bk_p bk_a bk_v
  rw [e1, e2, e3, h1 (8 + 2 * j.toNat) (by omega) (by omega), h1 (9 + 2 * j.toNat) (by omega) (by omega)]
end
section
set_option maxRecDepth 20000 in
set_option maxHeartbeats 4000000 in
theorem l_room {g : zg_G} {k : zk_T} {Q : Option Value → zs_S → Prop} (C : zk_ok g mX10_room k) (hr : zk_ret g mX10_room Q k) (a b sq : Int) (hq : 0 ≤ sq ∧ sq ≤ 2147483647) (R : Int) (σ0 : zs_S) (hQ : Q (some (zv_i R)) σ0) : ∀ (N : Nat) (σ : zs_S) (kk : Nat) (r bit : Int), kk < N → (σ = σ0) → (0 ≤ r) → (r + (bit + bit) ≤ 16384) → (ro_k kk bit) → (ro_r sq kk r = R) → zw_W g mX10_room k 21 [(0, zv_i a), (1, zv_i b), (2, zv_i sq), (3, zv_i r), (4, zv_i bit)] [] σ := by
  intro N
  induction N with
  | zero =>
    intro σ kk r bit hN
    exact absurd hN (by omega)
  | succ N ih =>
    intro σ kk r bit hN hs h0 hb0 hb he
    subst hs
    have hbb : 0 ≤ bit := by
      rcases hb with ⟨-, h⟩ | ⟨j, -, h⟩
      · omega
      · have : (0 : Int) < 2 ^ j := Int.pow_pos (by decide)
        omega
    refine zr_iload (pc := 21) C dX10_room_21 4 rfl ?_
    refine zr_if_le (pc := 23) C 53 dX10_room_23 (by decide) (by omega) (fun h_1 => ?_) (fun h_1 => ?_)
    · have hk0 := ro_z hb h_1
      subst hk0
      refine zr_iload_n (pc := 53) C dX10_room_53 3 rfl ?_
      exact zr_iret (pc := 54) C hr dX10_room_54 rfl (by rw [show r = R from he]; exact hQ)
    · obtain ⟨j, hkj, hj⟩ := ro_e hb (by omega)
      subst hkj
      refine zr_iload_n (pc := 26) C dX10_room_26 3 rfl ?_
      refine zr_iload (pc := 27) C dX10_room_27 4 rfl ?_
      refine zr_iadd (pc := 29) C dX10_room_29 ?_
      refine zr_istore (L' := [(5, zv_i (r + bit)), (0, zv_i a), (1, zv_i b), (2, zv_i sq), (3, zv_i r), (4, zv_i bit)]) (pc := 30) C dX10_room_30 (by decide) rfl ?_
      refine zr_iload (pc := 32) C dX10_room_32 0 rfl ?_
      refine zr_iload (pc := 34) C dX10_room_34 0 rfl ?_
      refine zr_imul (pc := 36) C dX10_room_36 ?_
      refine zr_iload_n (pc := 37) C dX10_room_37 3 rfl ?_
      refine zr_icmp_gt (pc := 38) C 44 dX10_room_38 (by decide) (by exact zi_sq (by omega) (by omega)) (by omega) (fun h_2 => ?_) (fun h_2 => ?_)
      · have he2 : ro_r sq j r = R := (ro_n hj (by omega)).symm.trans he
        refine zr_iload (pc := 44) C dX10_room_44 5 rfl ?_
        refine zr_iconst (pc := 46) C dX10_room_46 ?_
        refine zr_ishr1 (pc := 47) C dX10_room_47 (by omega) (by omega) ?_
        refine zr_istore (L' := [(4, zv_i (bit / 2)), (5, zv_i (r + bit)), (0, zv_i a), (1, zv_i b), (2, zv_i sq), (3, zv_i r)]) (pc := 48) C dX10_room_48 (by decide) rfl ?_
        refine zr_goto (pc := 50) C 21 dX10_room_50 (by decide) ?_
        refine zr_sub [2, 3, 4, 5, 0] rfl ?_
        exact ih σ j (r) (bit / 2) (by omega) rfl (by omega) (by omega) (ro_h hj) he2
      · have he2 : ro_r sq j (r + bit) = R := (ro_y hj (by omega)).symm.trans he
        refine zr_iload (pc := 41) C dX10_room_41 0 rfl ?_
        refine zr_istore_n (L' := [(3, zv_i (r + bit)), (5, zv_i (r + bit)), (0, zv_i a), (1, zv_i b), (2, zv_i sq), (4, zv_i bit)]) (pc := 43) C dX10_room_43 (by decide) rfl ?_
        refine zr_iload (pc := 44) C dX10_room_44 5 rfl ?_
        refine zr_iconst (pc := 46) C dX10_room_46 ?_
        refine zr_ishr1 (pc := 47) C dX10_room_47 (by omega) (by omega) ?_
        refine zr_istore (L' := [(4, zv_i (bit / 2)), (3, zv_i (r + bit)), (5, zv_i (r + bit)), (0, zv_i a), (1, zv_i b), (2, zv_i sq)]) (pc := 48) C dX10_room_48 (by decide) rfl ?_
        refine zr_goto (pc := 50) C 21 dX10_room_50 (by decide) ?_
        refine zr_sub [3, 4, 5, 1, 0] rfl ?_
        exact ih σ j (r + bit) (bit / 2) (by omega) rfl (by omega) (by omega) (ro_h hj) he2

set_option maxRecDepth 20000 in
set_option maxHeartbeats 4000000 in
theorem m_room (g : zg_G) (σ : zs_S) (a b : Int) (ha : 0 ≤ a ∧ a ≤ 9000) (hb : 0 ≤ b ∧ b ≤ 9000) : zm_Met g mX10_room σ [zv_i a, zv_i b] (fun v τ => v = some (zv_i (ro_m a b)) ∧ σ = τ) := by
  refine zm_of (by decide +kernel) (Nat.le_of_ble_eq_true rfl) ?_
  intro k C hr
  show zw_W g mX10_room k 0 [(0, zv_i a), (1, zv_i b)] [] σ
  have ha2 := zi_sq (x := a) (by omega) (by omega)
  have hb2 := zi_sq (x := b) (by omega) (by omega)
  have ha0 : 0 ≤ a * a := Int.mul_nonneg ha.1 ha.1
  have hb0 : 0 ≤ b * b := Int.mul_nonneg hb.1 hb.1
  have ha3 : a * a ≤ 9000 * 9000 := Int.mul_le_mul ha.2 ha.2 ha.1 (by decide)
  have hb3 : b * b ≤ 9000 * 9000 := Int.mul_le_mul hb.2 hb.2 hb.1 (by decide)
  refine zr_iload_n (pc := 0) C dX10_room_0 0 rfl ?_
  refine zr_iload_n (pc := 1) C dX10_room_1 0 rfl ?_
  refine zr_imul (pc := 2) C dX10_room_2 ?_
  refine zr_iload_n (pc := 3) C dX10_room_3 1 rfl ?_
  refine zr_iload_n (pc := 4) C dX10_room_4 1 rfl ?_
  refine zr_imul (pc := 5) C dX10_room_5 ?_
  refine zr_isub (pc := 6) C dX10_room_6 ?_
  refine zr_istore_n (L' := [(2, zv_i ((a * a) - (b * b))), (0, zv_i a), (1, zv_i b)]) (pc := 7) C dX10_room_7 (by decide) rfl ?_
  refine zr_iload_n (pc := 8) C dX10_room_8 0 rfl ?_
  refine zr_if_ge (pc := 9) C 14 dX10_room_9 (by decide) (by omega) (fun h_1 => ?_) (fun h_1 => ?_)
  · refine zr_iconst (pc := 14) C dX10_room_14 ?_
    refine zr_istore_n (L' := [(3, zv_i 0), (2, zv_i ((a * a) - (b * b))), (0, zv_i a), (1, zv_i b)]) (pc := 15) C dX10_room_15 (by decide) rfl ?_
    refine zr_sipush (pc := 16) C dX10_room_16 (by decide) ?_
    refine zr_istore (L' := [(4, zv_i 8192), (3, zv_i 0), (2, zv_i ((a * a) - (b * b))), (0, zv_i a), (1, zv_i b)]) (pc := 19) C dX10_room_19 (by decide) rfl ?_
    refine zr_sub [3, 4, 2, 1, 0] rfl ?_
    exact l_room C hr a b (a * a - b * b) (by omega) (ro_m a b) σ ⟨rfl, rfl⟩ 15 σ 14 0 8192 (by omega) rfl (by omega) (by omega) (Or.inr ⟨13, rfl, by decide⟩) (by unfold ro_m; rw [if_neg (by omega)])
  · refine zr_iconst (pc := 12) C dX10_room_12 ?_
    exact zr_iret (pc := 13) C hr dX10_room_13 rfl (⟨zq_i (by unfold ro_m; rw [if_pos (by omega)]), rfl⟩)

set_option maxRecDepth 20000 in
set_option maxHeartbeats 4000000 in
theorem l_fill {g : zg_G} {k : zk_T} {Q : Option Value → zs_S → Prop} (C : zk_ok g mJ7_fill_53178 k) (hr : zk_ret g mJ7_fill_53178 Q k) (c len : Nat) (x : Int) (hc : c < zs_N) (hs : zs_sh g.2.2.2 c = .inl (0, len)) (hn : (len : Int) ≤ 2147483647) (σ0 : zs_S) (hQ : ∀ τ, (∀ i : Int, 0 ≤ i → i < len → τ c i = x) → zf_x σ0 τ [c] → Q none τ) : ∀ (N : Nat) (σ : zs_S) (a : Int), (len - a).toNat < N → (0 ≤ a ∧ a ≤ len) → (zf_x σ0 σ [c]) → (∀ i : Int, 0 ≤ i → i < a → σ c i = x) → zw_W g mJ7_fill_53178 k 5 [(0, .ref (g.2.2.1 (c))), (1, zv_i x), (2, zv_i a), (3, zv_i ((len : Int)))] [] σ := by
  intro N
  induction N with
  | zero =>
    intro σ a hN
    exact absurd hN (by omega)
  | succ N ih =>
    intro σ a hN h0 hf hx
    refine zr_iload_n (pc := 5) C dJ7_fill_53178_5 2 rfl ?_
    refine zr_iload_n (pc := 6) C dJ7_fill_53178_6 3 rfl ?_
    refine zr_icmp_ge (pc := 7) C 20 dJ7_fill_53178_7 (by decide) (by omega) (by omega) (fun h_1 => ?_) (fun h_1 => ?_)
    · exact zr_vret (pc := 20) C hr dJ7_fill_53178_20 rfl (hQ σ (fun i h1 h2 => hx i h1 (by omega)) hf)
    · refine zr_aload_n (pc := 10) C dJ7_fill_53178_10 0 rfl ?_
      refine zr_iload_n (pc := 11) C dJ7_fill_53178_11 2 rfl ?_
      refine zr_iload_n (pc := 12) C dJ7_fill_53178_12 1 rfl ?_
      refine zr_iastore (pc := 13) C dJ7_fill_53178_13 hc hs (by omega) (by exact hn) (fun τ_2 e_3 => ?_)
      refine zr_iinc (L' := [(2, zv_i (a + 1)), (0, .ref (g.2.2.1 (c))), (1, zv_i x), (3, zv_i ((len : Int)))]) (pc := 14) C dJ7_fill_53178_14 2 rfl (by decide) rfl ?_
      refine zr_goto (pc := 17) C 5 dJ7_fill_53178_17 (by decide) ?_
      refine zr_sub [1, 2, 0, 3] rfl ?_
      exact ih τ_2 (a + 1) (by omega) (by omega) (zf_p hf e_3 (by simp)) (fun i h1 h2 => by
        rw [e_3, zs_put_at]
        by_cases hi : i = a
        · rw [if_pos hi]
        · rw [if_neg hi]; exact hx i h1 (by omega))

set_option maxRecDepth 20000 in
set_option maxHeartbeats 4000000 in
theorem m_fill (g : zg_G) (σ : zs_S) (c len : Nat) (x : Int) (hc : c < zs_N) (hs : zs_sh g.2.2.2 c = .inl (0, len)) (hn : (len : Int) ≤ 2147483647) : zm_Met g mJ7_fill_53178 σ [.ref (g.2.2.1 (c)), zv_i x] (fun v τ => v = none ∧ (∀ i : Int, 0 ≤ i → i < len → τ c i = x) ∧ zf_x σ τ [c]) := by
  refine zm_of (by decide +kernel) (Nat.le_of_ble_eq_true rfl) ?_
  intro k C hr
  show zw_W g mJ7_fill_53178 k 0 [(0, .ref (g.2.2.1 (c))), (1, zv_i x)] [] σ
  refine zr_iconst (pc := 0) C dJ7_fill_53178_0 ?_
  refine zr_istore_n (L' := [(2, zv_i 0), (0, .ref (g.2.2.1 (c))), (1, zv_i x)]) (pc := 1) C dJ7_fill_53178_1 (by decide) rfl ?_
  refine zr_aload_n (pc := 2) C dJ7_fill_53178_2 1 rfl ?_
  refine zr_alen (pc := 3) C (len : Int) dJ7_fill_53178_3 hc hs (by decide) rfl ?_
  refine zr_istore_n (L' := [(3, zv_i ((len : Int))), (2, zv_i 0), (0, .ref (g.2.2.1 (c))), (1, zv_i x)]) (pc := 4) C dJ7_fill_53178_4 (by decide) rfl ?_
  refine zr_sub [2, 3, 1, 0] rfl ?_
  exact l_fill C hr c len x hc hs hn σ (fun τ h1 h2 => ⟨rfl, h1, h2⟩) (len + 1) σ 0 (by omega) (by omega) (zf_r σ [c]) (fun i h1 h2 => absurd h2 (by omega))

set_option maxRecDepth 20000 in
set_option maxHeartbeats 4000000 in
theorem m_becomeK (g : zg_G) (σ : zs_S) (j x y : Int) (hj : 0 ≤ j ∧ j < 6) : zm_Met g mX5_become σ [.ref (g.2.2.1 (8 + 2 * j.toNat)), zv_i x, zv_i y] (fun v τ => v = none ∧ τ (8 + 2 * j.toNat) 0 = x ∧ τ (8 + 2 * j.toNat) 1 = y ∧ (∀ i : Int, 0 ≤ i → i < 57 → τ (9 + 2 * j.toNat) i = 0) ∧ zf_x σ τ [8 + 2 * j.toNat, 9 + 2 * j.toNat]) := by
  refine zm_of (by decide +kernel) (Nat.le_of_ble_eq_true rfl) ?_
  intro k C hr
  show zw_W g mX5_become k 0 [(0, .ref (g.2.2.1 (8 + 2 * j.toNat))), (1, zv_i x), (2, zv_i y)] [] σ
  refine zr_aload_n (pc := 0) C dX5_become_0 0 rfl ?_
  refine zr_iload_n (pc := 1) C dX5_become_1 1 rfl ?_
  refine zr_put (pc := 2) C 0 0 rfl dX5_become_2 pX5_15 (hn_kind hj) (hs_kind hj) rfl (fun τ_1 e_2 => ?_)
  refine zr_aload_n (pc := 5) C dX5_become_5 0 rfl ?_
  refine zr_iload_n (pc := 6) C dX5_become_6 2 rfl ?_
  refine zr_put (pc := 7) C 1 1 rfl dX5_become_7 pX5_19 (hn_kind hj) (hs_kind hj) rfl (fun τ_3 e_4 => ?_)
  refine zr_aload_n (pc := 10) C dX5_become_10 0 rfl ?_
  refine zr_get (v := .ref (g.2.2.1 (9 + 2 * j.toNat))) (pc := 11) C 2 (some (some (9 + 2 * j.toNat))) dX5_become_11 fX5_9 (hn_kind hj) (hs_kind hj) rfl rfl ?_
  refine zr_iconst (pc := 14) C dX5_become_14 ?_
  refine zr_callS (As := [.ref (g.2.2.1 (9 + 2 * j.toNat)), zv_i 0]) (rest := []) (pc := 15) C dX5_become_15 kJ7_fill_53178 sX5_22 rfl (by decide) rfl (Nat.le_of_ble_eq_true rfl) (m_fill g τ_3 (9 + 2 * j.toNat) 57 0 (hn_kindP hj) (hs_kindP hj) (by decide)) (fun v_ τ_ h_ => ?_)
  obtain ⟨rfl, h_6⟩ := h_
  generalize τ_ = τ_5 at h_6 ⊢
  show zw_W g mX5_become k 18 [(0, .ref (g.2.2.1 (8 + 2 * j.toNat))), (1, zv_i x), (2, zv_i y)] [] τ_5
  exact zr_vret (pc := 18) C hr dX5_become_18 rfl (⟨rfl, by rw [h_6.2 _ (by simp), e_4, zs_put_off (by decide), e_2, zs_put_self], by rw [h_6.2 _ (by simp), e_4, zs_put_self], fun i a b => h_6.1 i a (by omega), fun c hc i => by rw [h_6.2 c (fun z => hc (by simp at z ⊢; omega)) i, e_4, zs_put_ne (fun z => hc (by simp at z ⊢; omega)), e_2, zs_put_ne (fun z => hc (by simp at z ⊢; omega))]⟩)

set_option maxRecDepth 20000 in
set_option maxHeartbeats 4000000 in
theorem m_becomeS (g : zg_G) (σ : zs_S) (j x y : Int) (hj : 0 ≤ j ∧ j < 6) : zm_Met g mX0_become σ [.ref (g.2.2.1 (28 + 2 * j.toNat)), zv_i x, zv_i y] (fun v τ => v = none ∧ τ (28 + 2 * j.toNat) 0 = x ∧ τ (28 + 2 * j.toNat) 1 = y ∧ (∀ i : Int, 0 ≤ i → i < 3 → τ (29 + 2 * j.toNat) i = 0) ∧ zf_x σ τ [28 + 2 * j.toNat, 29 + 2 * j.toNat]) := by
  refine zm_of (by decide +kernel) (Nat.le_of_ble_eq_true rfl) ?_
  intro k C hr
  show zw_W g mX0_become k 0 [(0, .ref (g.2.2.1 (28 + 2 * j.toNat))), (1, zv_i x), (2, zv_i y)] [] σ
  refine zr_aload_n (pc := 0) C dX0_become_0 0 rfl ?_
  refine zr_iload_n (pc := 1) C dX0_become_1 1 rfl ?_
  refine zr_put (pc := 2) C 0 0 rfl dX0_become_2 pX0_15 (hn_size hj) (hs_size hj) rfl (fun τ_1 e_2 => ?_)
  refine zr_aload_n (pc := 5) C dX0_become_5 0 rfl ?_
  refine zr_iload_n (pc := 6) C dX0_become_6 2 rfl ?_
  refine zr_put (pc := 7) C 1 1 rfl dX0_become_7 pX0_19 (hn_size hj) (hs_size hj) rfl (fun τ_3 e_4 => ?_)
  refine zr_aload_n (pc := 10) C dX0_become_10 0 rfl ?_
  refine zr_get (v := .ref (g.2.2.1 (29 + 2 * j.toNat))) (pc := 11) C 2 (some (some (29 + 2 * j.toNat))) dX0_become_11 fX0_9 (hn_size hj) (hs_size hj) rfl rfl ?_
  refine zr_iconst (pc := 14) C dX0_become_14 ?_
  refine zr_callS (As := [.ref (g.2.2.1 (29 + 2 * j.toNat)), zv_i 0]) (rest := []) (pc := 15) C dX0_become_15 kJ7_fill_53178 sX0_22 rfl (by decide) rfl (Nat.le_of_ble_eq_true rfl) (m_fill g τ_3 (29 + 2 * j.toNat) 3 0 (hn_sizeP hj) (hs_sizeP hj) (by decide)) (fun v_ τ_ h_ => ?_)
  obtain ⟨rfl, h_6⟩ := h_
  generalize τ_ = τ_5 at h_6 ⊢
  show zw_W g mX0_become k 18 [(0, .ref (g.2.2.1 (28 + 2 * j.toNat))), (1, zv_i x), (2, zv_i y)] [] τ_5
  exact zr_vret (pc := 18) C hr dX0_become_18 rfl (⟨rfl, by rw [h_6.2 _ (by simp), e_4, zs_put_off (by decide), e_2, zs_put_self], by rw [h_6.2 _ (by simp), e_4, zs_put_self], fun i a b => h_6.1 i a (by omega), fun c hc i => by rw [h_6.2 c (fun z => hc (by simp at z ⊢; omega)) i, e_4, zs_put_ne (fun z => hc (by simp at z ⊢; omega)), e_2, zs_put_ne (fun z => hc (by simp at z ⊢; omega))]⟩)
end
section
set_option maxRecDepth 20000 in
set_option maxHeartbeats 4000000 in
theorem l_look {g : zg_G} {k : zk_T} {Q : Option Value → zs_S → Prop} (C : zk_ok g mX9_lookFrom k) (hr : zk_ret g mX9_lookFrom Q k) (n : Int) (hg : (g.2.2.2 : Int) = n) (f : Int) (σ0 : zs_S) (hS : ks_s σ0 n) (hf0 : 0 ≤ f ∧ f ≤ n) (hQ : ∀ τ, zf_x σ0 τ [5, 6] → ks_l τ n f → Q none τ) : ∀ (N : Nat) (σ : zs_S) (p t r : Int), (n + 1 - p).toNat < N → (f ≤ p ∧ p ≤ n + 1) → (t = lo_t (σ0 3) f (p - f).toNat) → (r = hi_t (σ0 4) f (p - f).toNat) → (zf_x σ0 σ [5, 6]) → (∀ j, 0 ≤ j → j < p - f → σ 5 j = lo_t (σ0 3) f (j + 1).toNat ∧ σ 6 j = hi_t (σ0 4) f (j + 1).toNat) → zw_W g mX9_lookFrom k 9 [(0, .ref (g.2.2.1 2)), (1, zv_i f), (2, zv_i t), (3, zv_i r), (4, zv_i p)] [] σ := by
  intro N
  induction N with
  | zero =>
    intro σ p t r hN
    exact absurd hN (by omega)
  | succ N ih =>
    intro σ p t r hN hp ht hr2 hf hA
    obtain ⟨hn1, hn2, hlast, hd, hgd⟩ := id hS
    have e1 : σ 2 0 = n := (hf 2 (by decide) 0).trans hlast
    refine zr_iload (pc := 9) C dX9_lookFrom_9 4 rfl ?_
    refine zr_aload_n (pc := 11) C dX9_lookFrom_11 0 rfl ?_
    refine zr_get (v := zv_i (σ 2 0)) (pc := 12) C 0 none dX9_lookFrom_12 fX9_9 (by decide) (hs_2 _) rfl rfl ?_
    refine zr_icmp_gt (pc := 15) C 68 dX9_lookFrom_15 (by decide) (by omega) (by omega) (fun h_1 => ?_) (fun h_1 => ?_)
    · exact zr_vret (pc := 68) C hr dX9_lookFrom_68 rfl (hQ σ hf (fun j h1 h2 => by
          rw [show σ 3 = σ0 3 from funext (hf 3 (by decide)), show σ 4 = σ0 4 from funext (hf 4 (by decide))]
          exact hA j h1 (by omega)))
    · have e3 : σ 3 p = σ0 3 p := hf 3 (by decide) p
      have e4 : σ 4 p = σ0 4 p := hf 4 (by decide) p
      have d3 := hd p (by omega) (by omega)
      have d4 := hgd p (by omega) (by omega)
      have b3 := lo_b (a := f) (b := n) (fun q h1 h2 => hd q (by omega) h2) (p - f).toNat (by omega)
      have b4 := hi_b (a := f) (b := n) (fun q h1 h2 => hgd q (by omega) h2) (p - f).toNat (by omega)
      rw [← ht] at b3
      rw [← hr2] at b4
      have ht2 : min t (σ 3 p) = lo_t (σ0 3) f (p + 1 - f).toNat := by rw [lo_s hp.1, ← ht, e3]
      have hr3 : max r (σ 4 p) = hi_t (σ0 4) f (p + 1 - f).toNat := by rw [hi_s hp.1, ← hr2, e4]
      refine zr_iload_n (pc := 18) C dX9_lookFrom_18 2 rfl ?_
      refine zr_aload_n (pc := 19) C dX9_lookFrom_19 0 rfl ?_
      refine zr_get (v := .ref (g.2.2.1 3)) (pc := 20) C 1 (some (some 3)) dX9_lookFrom_20 fX9_15 (by decide) (hs_2 _) rfl rfl ?_
      refine zr_iload (pc := 23) C dX9_lookFrom_23 4 rfl ?_
      refine zr_iaload (pc := 25) C dX9_lookFrom_25 (by decide) (hs_3 _) (by omega) (by omega) ?_
      refine zr_min (pc := 26) C dX9_lookFrom_26 xX9_37 (by decide) (Nat.le_of_ble_eq_true rfl) (by omega) (by omega) ?_
      refine zr_istore_n (L' := [(2, zv_i (min t (σ 3 p))), (0, .ref (g.2.2.1 2)), (1, zv_i f), (3, zv_i r), (4, zv_i p)]) (pc := 29) C dX9_lookFrom_29 (by decide) rfl ?_
      refine zr_iload_n (pc := 30) C dX9_lookFrom_30 3 rfl ?_
      refine zr_aload_n (pc := 31) C dX9_lookFrom_31 1 rfl ?_
      refine zr_get (v := .ref (g.2.2.1 4)) (pc := 32) C 2 (some (some 4)) dX9_lookFrom_32 fX9_19 (by decide) (hs_2 _) rfl rfl ?_
      refine zr_iload (pc := 35) C dX9_lookFrom_35 4 rfl ?_
      refine zr_iaload (pc := 37) C dX9_lookFrom_37 (by decide) (hs_4 _) (by omega) (by omega) ?_
      refine zr_max (pc := 38) C dX9_lookFrom_38 xX9_31 (by decide) (Nat.le_of_ble_eq_true rfl) (by omega) (by omega) ?_
      refine zr_istore_n (L' := [(3, zv_i (max r (σ 4 p))), (2, zv_i (min t (σ 3 p))), (0, .ref (g.2.2.1 2)), (1, zv_i f), (4, zv_i p)]) (pc := 41) C dX9_lookFrom_41 (by decide) rfl ?_
      refine zr_aload_n (pc := 42) C dX9_lookFrom_42 2 rfl ?_
      refine zr_get (v := .ref (g.2.2.1 5)) (pc := 43) C 4 (some (some 5)) dX9_lookFrom_43 fX9_22 (by decide) (hs_2 _) rfl rfl ?_
      refine zr_iload (pc := 46) C dX9_lookFrom_46 4 rfl ?_
      refine zr_iload_n (pc := 48) C dX9_lookFrom_48 3 rfl ?_
      refine zr_isub (pc := 49) C dX9_lookFrom_49 ?_
      refine zr_iload_n (pc := 50) C dX9_lookFrom_50 1 rfl ?_
      refine zr_iastore (pc := 51) C dX9_lookFrom_51 (by decide) (hs_5 _) (by omega) (by omega) (fun τ_2 e_3 => ?_)
      refine zr_aload_n (pc := 52) C dX9_lookFrom_52 2 rfl ?_
      refine zr_get (v := .ref (g.2.2.1 6)) (pc := 53) C 5 (some (some 6)) dX9_lookFrom_53 fX9_25 (by decide) (hs_2 _) rfl rfl ?_
      refine zr_iload (pc := 56) C dX9_lookFrom_56 4 rfl ?_
      refine zr_iload_n (pc := 58) C dX9_lookFrom_58 3 rfl ?_
      refine zr_isub (pc := 59) C dX9_lookFrom_59 ?_
      refine zr_iload_n (pc := 60) C dX9_lookFrom_60 0 rfl ?_
      refine zr_iastore (pc := 61) C dX9_lookFrom_61 (by decide) (hs_6 _) (by omega) (by omega) (fun τ_4 e_5 => ?_)
      refine zr_iinc (L' := [(4, zv_i (p + 1)), (3, zv_i (max r (σ 4 p))), (2, zv_i (min t (σ 3 p))), (0, .ref (g.2.2.1 2)), (1, zv_i f)]) (pc := 62) C dX9_lookFrom_62 4 rfl (by decide) rfl ?_
      refine zr_goto (pc := 65) C 9 dX9_lookFrom_65 (by decide) ?_
      refine zr_sub [3, 4, 2, 1, 0] rfl ?_
      exact ih τ_4 (p + 1) (min t (σ 3 p)) (max r (σ 4 p)) (by omega) (by omega) ht2 hr3 (zf_p (zf_p hf e_3 (by decide)) e_5 (by decide)) (fun j h1 h2 => by
        have ea : τ_4 5 j = if j = p - f then min t (σ 3 p) else σ 5 j := by rw [e_5, zs_put_ne (by decide), e_3, zs_put_at]
        have eb : τ_4 6 j = if j = p - f then max r (σ 4 p) else σ 6 j := by rw [e_5, zs_put_at, e_3, zs_put_ne (by decide)]
        by_cases hj : j = p - f
        · rw [ea, eb, if_pos hj, if_pos hj, show (j + 1).toNat = (p + 1 - f).toNat by omega]
          exact ⟨ht2, hr3⟩
        · rw [ea, eb, if_neg hj, if_neg hj]
          exact hA j h1 (by omega))

set_option maxRecDepth 20000 in
set_option maxHeartbeats 4000000 in
theorem m_look (g : zg_G) (σ : zs_S) (n : Int) (hg : (g.2.2.2 : Int) = n) (f : Int) (hS : ks_s σ n) (hf0 : 0 ≤ f ∧ f ≤ n) : zm_Met g mX9_lookFrom σ [.ref (g.2.2.1 2), zv_i f] (fun v τ => v = none ∧ zf_x σ τ [5, 6] ∧ ks_l τ n f) := by
  refine zm_of (by decide +kernel) (Nat.le_of_ble_eq_true rfl) ?_
  intro k C hr
  show zw_W g mX9_lookFrom k 0 [(0, .ref (g.2.2.1 2)), (1, zv_i f)] [] σ
  refine zr_sipush (pc := 0) C dX9_lookFrom_0 (by decide) ?_
  refine zr_istore_n (L' := [(2, zv_i 900), (0, .ref (g.2.2.1 2)), (1, zv_i f)]) (pc := 3) C dX9_lookFrom_3 (by decide) rfl ?_
  refine zr_iconst (pc := 4) C dX9_lookFrom_4 ?_
  refine zr_istore_n (L' := [(3, zv_i 1), (2, zv_i 900), (0, .ref (g.2.2.1 2)), (1, zv_i f)]) (pc := 5) C dX9_lookFrom_5 (by decide) rfl ?_
  refine zr_iload_n (pc := 6) C dX9_lookFrom_6 3 rfl ?_
  refine zr_istore (L' := [(4, zv_i f), (3, zv_i 1), (2, zv_i 900), (0, .ref (g.2.2.1 2)), (1, zv_i f)]) (pc := 7) C dX9_lookFrom_7 (by decide) rfl ?_
  refine zr_sub [3, 4, 2, 1, 0] rfl ?_
  exact l_look C hr n hg f σ hS hf0 (fun τ h1 h2 => ⟨rfl, h1, h2⟩) ((n + 1 - f).toNat + 1) σ f 900 1 (by omega) (by omega) lo_0.symm hi_0.symm (zf_r σ [5, 6]) (fun j h1 h2 => absurd h2 (by omega))

set_option maxRecDepth 20000 in
set_option maxHeartbeats 4000000 in
theorem l_spoil {g : zg_G} {k : zk_T} {Q : Option Value → zs_S → Prop} (C : zk_ok g mX9_spoil k) (hr : zk_ret g mX9_spoil Q k) (n : Int) (hg : (g.2.2.2 : Int) = n) (a b c : Int) (σ0 : zs_S) (hn : 1 ≤ n ∧ n ≤ 80) (hd : ∀ p, 0 ≤ p → p ≤ n → 1 ≤ σ0 4 p ∧ σ0 4 p ≤ 3) (hab : 0 ≤ a ∧ a ≤ b ∧ b ≤ n) (hc : 2 ≤ c ∧ c ≤ 3) (hQ : ∀ τ, zf_x σ0 τ [4] → (∀ p, τ 4 p = if a ≤ p ∧ p ≤ b then max (σ0 4 p) c else σ0 4 p) → Q (some (zv_i 1)) τ) : ∀ (N : Nat) (σ : zs_S) (p : Int), (b + 1 - p).toNat < N → (a ≤ p ∧ p ≤ b + 1) → (zf_x σ0 σ [4]) → (∀ x, σ 4 x = if a ≤ x ∧ x < p then max (σ0 4 x) c else σ0 4 x) → zw_W g mX9_spoil k 24 [(0, .ref (g.2.2.1 2)), (1, zv_i a), (2, zv_i b), (3, zv_i c), (4, zv_i p)] [] σ := by
  intro N
  induction N with
  | zero =>
    intro σ p hN
    exact absurd hN (by omega)
  | succ N ih =>
    intro σ p hN hp hf hA
    refine zr_iload (pc := 24) C dX9_spoil_24 4 rfl ?_
    refine zr_iload_n (pc := 26) C dX9_spoil_26 2 rfl ?_
    refine zr_icmp_gt (pc := 27) C 54 dX9_spoil_27 (by decide) (by omega) (by omega) (fun h_1 => ?_) (fun h_1 => ?_)
    · refine zr_iconst (pc := 54) C dX9_spoil_54 ?_
      exact zr_zret (pc := 55) C hr dX9_spoil_55 rfl (by decide) (hQ σ hf (fun x => by
          rw [hA x]
          by_cases h9 : a ≤ x ∧ x ≤ b
          · rw [if_pos h9, if_pos (by omega)]
          · rw [if_neg h9, if_neg (by omega)]))
    · have d3 := hd p (by omega) (by omega)
      have e4 : σ 4 p = σ0 4 p := by rw [hA p, if_neg (by omega)]
      refine zr_aload_n (pc := 30) C dX9_spoil_30 0 rfl ?_
      refine zr_get (v := .ref (g.2.2.1 4)) (pc := 31) C 2 (some (some 4)) dX9_spoil_31 fX9_19 (by decide) (hs_2 _) rfl rfl ?_
      refine zr_iload (pc := 34) C dX9_spoil_34 4 rfl ?_
      refine zr_aload_n (pc := 36) C dX9_spoil_36 0 rfl ?_
      refine zr_get (v := .ref (g.2.2.1 4)) (pc := 37) C 2 (some (some 4)) dX9_spoil_37 fX9_19 (by decide) (hs_2 _) rfl rfl ?_
      refine zr_iload (pc := 40) C dX9_spoil_40 4 rfl ?_
      refine zr_iaload (pc := 42) C dX9_spoil_42 (by decide) (hs_4 _) (by omega) (by omega) ?_
      refine zr_iload_n (pc := 43) C dX9_spoil_43 3 rfl ?_
      refine zr_max (pc := 44) C dX9_spoil_44 xX9_31 (by decide) (Nat.le_of_ble_eq_true rfl) (by omega) (by omega) ?_
      refine zr_iastore (pc := 47) C dX9_spoil_47 (by decide) (hs_4 _) (by omega) (by omega) (fun τ_2 e_3 => ?_)
      refine zr_iinc (L' := [(4, zv_i (p + 1)), (0, .ref (g.2.2.1 2)), (1, zv_i a), (2, zv_i b), (3, zv_i c)]) (pc := 48) C dX9_spoil_48 4 rfl (by decide) rfl ?_
      refine zr_goto (pc := 51) C 24 dX9_spoil_51 (by decide) ?_
      refine zr_sub [1, 2, 3, 4, 0] rfl ?_
      exact ih τ_2 (p + 1) (by omega) (by omega) (zf_p hf e_3 (by decide)) (fun x => by
        rw [e_3, zs_put_at]
        by_cases hx : x = p
        · subst hx
          rw [if_pos rfl, if_pos (by omega), e4]
        · rw [if_neg hx, hA x]
          by_cases h9 : a ≤ x ∧ x < p
          · rw [if_pos h9, if_pos (by omega)]
          · rw [if_neg h9, if_neg (by omega)])

set_option maxRecDepth 20000 in
set_option maxHeartbeats 4000000 in
theorem m_spoil (g : zg_G) (σ : zs_S) (n : Int) (hg : (g.2.2.2 : Int) = n) (a b c : Int) (hS : ks_s σ n) (hab : 0 ≤ a ∧ a ≤ b ∧ b ≤ n) (hc : 2 ≤ c ∧ c ≤ 3) (h20 : 0 ≤ σ 2 3 ∧ σ 2 3 ≤ 20) : zm_Met g mX9_spoil σ [.ref (g.2.2.1 2), zv_i a, zv_i b, zv_i c] (fun v τ => v = some (zv_i (zi_b (σ 2 3 < 20))) ∧ (20 ≤ σ 2 3 → σ = τ) ∧ (σ 2 3 < 20 → τ 2 3 = σ 2 3 + 1 ∧ τ 2 0 = σ 2 0 ∧ (∀ p, τ 4 p = if a ≤ p ∧ p ≤ b then max (σ 4 p) c else σ 4 p) ∧ zf_x σ τ [2, 4])) := by
  refine zm_of (by decide +kernel) (Nat.le_of_ble_eq_true rfl) ?_
  intro k C hr
  show zw_W g mX9_spoil k 0 [(0, .ref (g.2.2.1 2)), (1, zv_i a), (2, zv_i b), (3, zv_i c)] [] σ
  obtain ⟨hn1, hn2, hlast, hd, hgd⟩ := id hS
  refine zr_aload_n (pc := 0) C dX9_spoil_0 0 rfl ?_
  refine zr_get (v := zv_i (σ 2 3)) (pc := 1) C 3 none dX9_spoil_1 fX9_28 (by decide) (hs_2 _) rfl rfl ?_
  refine zr_bipush (pc := 4) C dX9_spoil_4 (by decide) ?_
  refine zr_icmp_lt (pc := 6) C 11 dX9_spoil_6 (by decide) (by omega) (by omega) (fun h_1 => ?_) (fun h_1 => ?_)
  · refine zr_aload_n (pc := 11) C dX9_spoil_11 0 rfl ?_
    refine zr_dup (pc := 12) C dX9_spoil_12 rfl ?_
    refine zr_get (v := zv_i (σ 2 3)) (pc := 13) C 3 none dX9_spoil_13 fX9_28 (by decide) (hs_2 _) rfl rfl ?_
    refine zr_iconst (pc := 16) C dX9_spoil_16 ?_
    refine zr_iadd (pc := 17) C dX9_spoil_17 ?_
    refine zr_put (pc := 18) C 3 3 rfl dX9_spoil_18 pX9_28 (by decide) (hs_2 _) rfl (fun τ_2 e_3 => ?_)
    refine zr_iload_n (pc := 21) C dX9_spoil_21 1 rfl ?_
    refine zr_istore (L' := [(4, zv_i a), (0, .ref (g.2.2.1 2)), (1, zv_i a), (2, zv_i b), (3, zv_i c)]) (pc := 22) C dX9_spoil_22 (by decide) rfl ?_
    refine zr_sub [1, 2, 3, 4, 0] rfl ?_
    exact l_spoil C hr n hg a b c τ_2 (by omega) (fun p h1 h2 => by rw [e_3, zs_put_ne (by decide)]; exact hgd p h1 h2) hab hc (fun τ h1 h2 => ⟨zq_1 (by omega), fun h => absurd h (by omega), fun _ => ⟨by rw [h1 2 (by decide), e_3, zs_put_self], by rw [h1 2 (by decide), e_3, zs_put_off (by decide)], fun p => by rw [h2 p, e_3, zs_put_ne (by decide)], zf_t (zf_p (zf_r σ [2]) e_3 (by decide)) h1 (by simp) (by simp)⟩⟩) ((b + 1 - a).toNat + 1) τ_2 a (by omega) (by omega) (zf_r τ_2 [4]) (fun x => by rw [if_neg (by omega)])
  · refine zr_iconst (pc := 9) C dX9_spoil_9 ?_
    exact zr_zret (pc := 10) C hr dX9_spoil_10 rfl (by decide) (⟨zq_0 (by omega), fun _ => rfl, fun h => absurd h (by omega)⟩)

set_option maxRecDepth 20000 in
set_option maxHeartbeats 4000000 in
theorem m_clear (g : zg_G) (σ : zs_S) (q : Nat) (hq : zs_q q) : zm_Met g mX3_clear σ [.ref (g.2.2.1 (q))] (fun v τ => v = none ∧ τ q 0 = 0 ∧ τ q 1 = 0 ∧ zf_x σ τ [q]) := by
  refine zm_of (by decide +kernel) (Nat.le_of_ble_eq_true rfl) ?_
  intro k C hr
  show zw_W g mX3_clear k 0 [(0, .ref (g.2.2.1 (q)))] [] σ
  refine zr_aload_n (pc := 0) C dX3_clear_0 0 rfl ?_
  refine zr_iconst (pc := 1) C dX3_clear_1 ?_
  refine zr_put (pc := 2) C 0 0 rfl dX3_clear_2 pX3_15 (hn_cut hq) (hs_cut hq) rfl (fun τ_1 e_2 => ?_)
  refine zr_aload_n (pc := 5) C dX3_clear_5 0 rfl ?_
  refine zr_iconst (pc := 6) C dX3_clear_6 ?_
  refine zr_put (pc := 7) C 1 1 rfl dX3_clear_7 pX3_19 (hn_cut hq) (hs_cut hq) rfl (fun τ_3 e_4 => ?_)
  exact zr_vret (pc := 10) C hr dX3_clear_10 rfl (⟨rfl, by rw [e_4, zs_put_off (by decide), e_2, zs_put_self], by rw [e_4, zs_put_self], zf_p (zf_p (zf_r σ [q]) e_2 (by simp)) e_4 (by simp)⟩)

set_option maxRecDepth 20000 in
set_option maxHeartbeats 4000000 in
theorem m_add (g : zg_G) (σ : zs_S) (q : Nat) (hq : zs_q q) (c a b t r x : Int) (hc : σ q 0 = c) (hcc : 0 ≤ c ∧ c < 40) (ht : 0 ≤ t ∧ t ≤ 900) : zm_Met g mX3_add σ [.ref (g.2.2.1 (q)), zv_i a, zv_i b, zv_i t, zv_i r, zv_i x] (fun v τ => v = none ∧ τ q 0 = c + 1 ∧ τ q 1 = σ q 1 + x ∧ (∀ i, i < c * 6 → τ (q + 1) i = σ (q + 1) i) ∧ τ (q + 1) (c * 6 + 0) = a ∧ τ (q + 1) (c * 6 + 1) = b ∧ τ (q + 1) (c * 6 + 2) = t ∧ τ (q + 1) (c * 6 + 3) = t / 50 ∧ τ (q + 1) (c * 6 + 4) = r ∧ τ (q + 1) (c * 6 + 5) = x ∧ zf_x σ τ [q, q + 1]) := by
  refine zm_of (by decide +kernel) (Nat.le_of_ble_eq_true rfl) ?_
  intro k C hr
  show zw_W g mX3_add k 0 [(0, .ref (g.2.2.1 (q))), (1, zv_i a), (2, zv_i b), (3, zv_i t), (4, zv_i r), (5, zv_i x)] [] σ
  subst hc
  refine zr_aload_n (pc := 0) C dX3_add_0 0 rfl ?_
  refine zr_get (v := zv_i (σ q 0)) (pc := 1) C 0 none dX3_add_1 fX3_15 (hn_cut hq) (hs_cut hq) rfl rfl ?_
  refine zr_bipush (pc := 4) C dX3_add_4 (by decide) ?_
  refine zr_icmp_lt (pc := 6) C 10 dX3_add_6 (by decide) (by omega) (by omega) (fun h_1 => ?_) (fun h_1 => ?_)
  · refine zr_aload_n (pc := 10) C dX3_add_10 0 rfl ?_
    refine zr_get (v := zv_i (σ q 0)) (pc := 11) C 0 none dX3_add_11 fX3_15 (hn_cut hq) (hs_cut hq) rfl rfl ?_
    refine zr_bipush (pc := 14) C dX3_add_14 (by decide) ?_
    refine zr_imul (pc := 16) C dX3_add_16 ?_
    refine zr_istore (L' := [(6, zv_i ((σ q 0) * 6)), (0, .ref (g.2.2.1 (q))), (1, zv_i a), (2, zv_i b), (3, zv_i t), (4, zv_i r), (5, zv_i x)]) (pc := 17) C dX3_add_17 (by decide) rfl ?_
    refine zr_aload_n (pc := 19) C dX3_add_19 1 rfl ?_
    refine zr_get (v := .ref (g.2.2.1 (q + 1))) (pc := 20) C 2 (some (some (q + 1))) dX3_add_20 fX3_9 (hn_cut hq) (hs_cut hq) rfl rfl ?_
    refine zr_iload (pc := 23) C dX3_add_23 0 rfl ?_
    refine zr_iconst (pc := 25) C dX3_add_25 ?_
    refine zr_iadd (pc := 26) C dX3_add_26 ?_
    refine zr_iload_n (pc := 27) C dX3_add_27 2 rfl ?_
    refine zr_iastore (pc := 28) C dX3_add_28 (hn_cutF hq) (hs_cutF hq) (by omega) (by decide) (fun τ_2 e_3 => ?_)
    refine zr_aload_n (pc := 29) C dX3_add_29 1 rfl ?_
    refine zr_get (v := .ref (g.2.2.1 (q + 1))) (pc := 30) C 2 (some (some (q + 1))) dX3_add_30 fX3_9 (hn_cut hq) (hs_cut hq) rfl rfl ?_
    refine zr_iload (pc := 33) C dX3_add_33 0 rfl ?_
    refine zr_iconst (pc := 35) C dX3_add_35 ?_
    refine zr_iadd (pc := 36) C dX3_add_36 ?_
    refine zr_iload_n (pc := 37) C dX3_add_37 3 rfl ?_
    refine zr_iastore (pc := 38) C dX3_add_38 (hn_cutF hq) (hs_cutF hq) (by omega) (by decide) (fun τ_4 e_5 => ?_)
    refine zr_aload_n (pc := 39) C dX3_add_39 1 rfl ?_
    refine zr_get (v := .ref (g.2.2.1 (q + 1))) (pc := 40) C 2 (some (some (q + 1))) dX3_add_40 fX3_9 (hn_cut hq) (hs_cut hq) rfl rfl ?_
    refine zr_iload (pc := 43) C dX3_add_43 0 rfl ?_
    refine zr_iconst (pc := 45) C dX3_add_45 ?_
    refine zr_iadd (pc := 46) C dX3_add_46 ?_
    refine zr_iload_n (pc := 47) C dX3_add_47 4 rfl ?_
    refine zr_iastore (pc := 48) C dX3_add_48 (hn_cutF hq) (hs_cutF hq) (by omega) (by decide) (fun τ_6 e_7 => ?_)
    refine zr_aload_n (pc := 49) C dX3_add_49 1 rfl ?_
    refine zr_get (v := .ref (g.2.2.1 (q + 1))) (pc := 50) C 2 (some (some (q + 1))) dX3_add_50 fX3_9 (hn_cut hq) (hs_cut hq) rfl rfl ?_
    refine zr_iload (pc := 53) C dX3_add_53 0 rfl ?_
    refine zr_iconst (pc := 55) C dX3_add_55 ?_
    refine zr_iadd (pc := 56) C dX3_add_56 ?_
    refine zr_iload_n (pc := 57) C dX3_add_57 4 rfl ?_
    refine zr_bipush (pc := 58) C dX3_add_58 (by decide) ?_
    refine zr_idiv (pc := 60) C dX3_add_60 (by omega) (by omega) (by omega) (by omega) ?_
    refine zr_iastore (pc := 61) C dX3_add_61 (hn_cutF hq) (hs_cutF hq) (by omega) (by decide) (fun τ_8 e_9 => ?_)
    refine zr_aload_n (pc := 62) C dX3_add_62 1 rfl ?_
    refine zr_get (v := .ref (g.2.2.1 (q + 1))) (pc := 63) C 2 (some (some (q + 1))) dX3_add_63 fX3_9 (hn_cut hq) (hs_cut hq) rfl rfl ?_
    refine zr_iload (pc := 66) C dX3_add_66 0 rfl ?_
    refine zr_iconst (pc := 68) C dX3_add_68 ?_
    refine zr_iadd (pc := 69) C dX3_add_69 ?_
    refine zr_iload (pc := 70) C dX3_add_70 5 rfl ?_
    refine zr_iastore (pc := 72) C dX3_add_72 (hn_cutF hq) (hs_cutF hq) (by omega) (by decide) (fun τ_10 e_11 => ?_)
    refine zr_aload_n (pc := 73) C dX3_add_73 1 rfl ?_
    refine zr_get (v := .ref (g.2.2.1 (q + 1))) (pc := 74) C 2 (some (some (q + 1))) dX3_add_74 fX3_9 (hn_cut hq) (hs_cut hq) rfl rfl ?_
    refine zr_iload (pc := 77) C dX3_add_77 0 rfl ?_
    refine zr_iconst (pc := 79) C dX3_add_79 ?_
    refine zr_iadd (pc := 80) C dX3_add_80 ?_
    refine zr_iload (pc := 81) C dX3_add_81 6 rfl ?_
    refine zr_iastore (pc := 83) C dX3_add_83 (hn_cutF hq) (hs_cutF hq) (by omega) (by decide) (fun τ_12 e_13 => ?_)
    refine zr_aload_n (pc := 84) C dX3_add_84 1 rfl ?_
    have hv6 : τ_12 q 0 = σ q 0 := by rw [e_13, zs_put_ne (by omega), e_11, zs_put_ne (by omega), e_9, zs_put_ne (by omega), e_7, zs_put_ne (by omega), e_5, zs_put_ne (by omega), e_3, zs_put_ne (by omega)]
    refine zr_dup (pc := 85) C dX3_add_85 rfl ?_
    refine zr_get (v := zv_i (τ_12 q 0)) (pc := 86) C 0 none dX3_add_86 fX3_15 (hn_cut hq) (hs_cut hq) rfl rfl ?_
    refine zr_iconst (pc := 89) C dX3_add_89 ?_
    refine zr_iadd (pc := 90) C dX3_add_90 ?_
    refine zr_put (pc := 91) C 0 0 rfl dX3_add_91 pX3_15 (hn_cut hq) (hs_cut hq) rfl (fun τ_14 e_15 => ?_)
    refine zr_aload_n (pc := 94) C dX3_add_94 1 rfl ?_
    have hv7 : τ_14 q 1 = σ q 1 := by rw [e_15, zs_put_off (by decide), e_13, zs_put_ne (by omega), e_11, zs_put_ne (by omega), e_9, zs_put_ne (by omega), e_7, zs_put_ne (by omega), e_5, zs_put_ne (by omega), e_3, zs_put_ne (by omega)]
    refine zr_dup (pc := 95) C dX3_add_95 rfl ?_
    refine zr_get (v := zv_i (τ_14 q 1)) (pc := 96) C 1 none dX3_add_96 fX3_19 (hn_cut hq) (hs_cut hq) rfl rfl ?_
    refine zr_iload (pc := 99) C dX3_add_99 6 rfl ?_
    refine zr_iadd (pc := 101) C dX3_add_101 ?_
    refine zr_put (pc := 102) C 1 1 rfl dX3_add_102 pX3_19 (hn_cut hq) (hs_cut hq) rfl (fun τ_16 e_17 => ?_)
    exact zr_vret (pc := 105) C hr dX3_add_105 rfl (⟨rfl, by rw [e_17, zs_put_off (by omega), e_15, zs_put_self, hv6], by rw [e_17, zs_put_self, hv7], fun i hi => by rw [e_17, zs_put_ne (by omega), e_15, zs_put_ne (by omega), e_13, zs_put_off (by omega), e_11, zs_put_off (by omega), e_9, zs_put_off (by omega), e_7, zs_put_off (by omega), e_5, zs_put_off (by omega), e_3, zs_put_off (by omega)], by rw [e_17, zs_put_ne (by omega), e_15, zs_put_ne (by omega), e_13, zs_put_off (by omega), e_11, zs_put_off (by omega), e_9, zs_put_off (by omega), e_7, zs_put_off (by omega), e_5, zs_put_off (by omega), e_3, zs_put_self], by rw [e_17, zs_put_ne (by omega), e_15, zs_put_ne (by omega), e_13, zs_put_off (by omega), e_11, zs_put_off (by omega), e_9, zs_put_off (by omega), e_7, zs_put_off (by omega), e_5, zs_put_self], by rw [e_17, zs_put_ne (by omega), e_15, zs_put_ne (by omega), e_13, zs_put_off (by omega), e_11, zs_put_off (by omega), e_9, zs_put_off (by omega), e_7, zs_put_self], by rw [e_17, zs_put_ne (by omega), e_15, zs_put_ne (by omega), e_13, zs_put_off (by omega), e_11, zs_put_off (by omega), e_9, zs_put_self], by rw [e_17, zs_put_ne (by omega), e_15, zs_put_ne (by omega), e_13, zs_put_off (by omega), e_11, zs_put_self], by rw [e_17, zs_put_ne (by omega), e_15, zs_put_ne (by omega), e_13, zs_put_self], (zf_p (zf_p (zf_p (zf_p (zf_p (zf_p (zf_p (zf_p (zf_r σ [q, q + 1]) e_3 (by simp)) e_5 (by simp)) e_7 (by simp)) e_9 (by simp)) e_11 (by simp)) e_13 (by simp)) e_15 (by simp)) e_17 (by simp))⟩)
  · exact zr_vret (pc := 9) C hr dX3_add_9 rfl (absurd hcc (by omega))

set_option maxRecDepth 20000 in
set_option maxHeartbeats 4000000 in
theorem m_fact (g : zg_G) (σ : zs_S) (q : Nat) (hq : zs_q q) (a b : Int) (h : 0 ≤ a * 6 + b ∧ a * 6 + b < 240) : zm_Met g mX3_fact σ [.ref (g.2.2.1 (q)), zv_i a, zv_i b] (fun v τ => v = some (zv_i (σ (q + 1) (a * 6 + b))) ∧ σ = τ) := by
  refine zm_of (by decide +kernel) (Nat.le_of_ble_eq_true rfl) ?_
  intro k C hr
  show zw_W g mX3_fact k 0 [(0, .ref (g.2.2.1 (q))), (1, zv_i a), (2, zv_i b)] [] σ
  refine zr_aload_n (pc := 0) C dX3_fact_0 0 rfl ?_
  refine zr_get (v := .ref (g.2.2.1 (q + 1))) (pc := 1) C 2 (some (some (q + 1))) dX3_fact_1 fX3_9 (hn_cut hq) (hs_cut hq) rfl rfl ?_
  refine zr_iload_n (pc := 4) C dX3_fact_4 1 rfl ?_
  refine zr_bipush (pc := 5) C dX3_fact_5 (by decide) ?_
  refine zr_imul (pc := 7) C dX3_fact_7 ?_
  refine zr_iload_n (pc := 8) C dX3_fact_8 2 rfl ?_
  refine zr_iadd (pc := 9) C dX3_fact_9 ?_
  refine zr_iaload (pc := 10) C dX3_fact_10 (hn_cutF hq) (hs_cutF hq) (by omega) (by decide) ?_
  exact zr_iret (pc := 11) C hr dX3_fact_11 rfl (⟨rfl, rfl⟩)
end
section
/-! THE MATHEMATICS OF THE CLASS, part B: bucking -/
theorem bk_tb {σ : zs_S} {n p j : Int} (hS : ks_s σ n) (hp : 0 ≤ p) (h : bk_a σ n p j) : (50 ≤ bk_t σ p j ∧ bk_t σ p j ≤ 900) ∧ (1 ≤ bk_g σ p j ∧ bk_g σ p j ≤ 3) := by
  obtain ⟨hn1, hn2, hlast, hd, hgd⟩ := hS
  obtain ⟨h1, h2, h3⟩ := h
  have h1' : 0 < σ (8 + 2 * j.toNat) 0 := h1
  have h2' : p + σ (8 + 2 * j.toNat) 0 ≤ n := h2
  exact ⟨lo_b (a := p) (b := n) (fun q x y => hd q (by omega) y) _ (by show p + (((σ (8 + 2 * j.toNat) 0 + 1).toNat : Nat) : Int) ≤ n + 1; omega), hi_b (a := p) (b := n) (fun q x y => hgd q (by omega) y) _ (by show p + (((σ (8 + 2 * j.toNat) 0 + 1).toNat : Nat) : Int) ≤ n + 1; omega)⟩
theorem bk_vb {σ : zs_S} {n p j : Int} (hS : ks_s σ n) (hK : ks_k σ) (hj : 0 ≤ j ∧ j < 6) (hp : 0 ≤ p) (h : bk_a σ n p j) : 0 ≤ bk_v σ p j ∧ bk_v σ p j ≤ 1000000 := by
  obtain ⟨⟨a, b⟩, c, d⟩ := bk_tb hS hp h
  exact (hK j hj.1 hj.2).2.2 _ (by omega) (by omega)
theorem bk_pp {σ : zs_S} {n p j : Int} (h : bk_a σ n p j) : bk_p σ n p j = bk_v σ p j := if_pos h
theorem bk_pn {σ : zs_S} {n p j : Int} (h : ¬ bk_a σ n p j) : bk_p σ n p j = -1 := if_neg h
theorem bk_pr {σ : zs_S} {n p j : Int} (hS : ks_s σ n) (hK : ks_k σ) (hj : 0 ≤ j ∧ j < 6) (hp : 0 ≤ p) : -1 ≤ bk_p σ n p j ∧ bk_p σ n p j ≤ 1000000 := by
  by_cases h : bk_a σ n p j
  · rw [bk_pp h]
    have := bk_vb hS hK hj hp h
    omega
  · rw [bk_pn h]
    omega
theorem bk_pa {σ : zs_S} {n p j : Int} (h : ¬ bk_p σ n p j = -1) : bk_a σ n p j := Classical.byContradiction fun q => h (bk_pn q)
theorem bk_pz {σ : zs_S} {n p j : Int} (hS : ks_s σ n) (hK : ks_k σ) (hj : 0 ≤ j ∧ j < 6) (hp : 0 ≤ p) (h : bk_p σ n p j = -1) : ¬ bk_a σ n p j := fun q => by
  have := bk_vb hS hK hj hp q
  rw [bk_pp q] at h
  omega
theorem bk_ac {σ τ : zs_S} {n p j : Int} (h3 : ∀ i, τ 3 i = σ 3 i) (h4 : ∀ i, τ 4 i = σ 4 i) (hj : 0 ≤ j ∧ j < 6) (h1 : ∀ c, 8 ≤ c → c ≤ 19 → ∀ i, τ c i = σ c i) : (bk_a τ n p j ↔ bk_a σ n p j) ∧ bk_v τ p j = bk_v σ p j := by
  obtain ⟨-, e1, e2, e3⟩ := bk_pc (n := n) (p := p) h3 h4 hj h1
  unfold bk_a bk_v
  rw [e1, e2, e3, h1 (8 + 2 * j.toNat) (by omega) (by omega), h1 (9 + 2 * j.toNat) (by omega) (by omega)]
  exact ⟨Iff.rfl, rfl⟩
/-- the facts of a log -/
def bk_e (σ : zs_S) (A : Int → Int) (c p j : Int) : Prop := A (c * 6 + 0) = p ∧ A (c * 6 + 1) = j ∧ A (c * 6 + 2) = bk_t σ p j ∧ A (c * 6 + 3) = bk_t σ p j / 50 ∧ A (c * 6 + 4) = bk_g σ p j ∧ A (c * 6 + 5) = bk_v σ p j
/-- the best value of logs from p on, and the kind that begins there, over the first m kinds; B: the best values behind p -/
def bk_f (σ : zs_S) (n p : Int) (B : Int → Int) : Nat → Int × Int
  | 0 => (B (p + 1), -1)
  | m + 1 => if bk_a σ n p m ∧ (bk_f σ n p B m).1 < bk_v σ p m + B (p + bk_n σ m + 1) then (bk_v σ p m + B (p + bk_n σ m + 1), (m : Int)) else bk_f σ n p B m
theorem bk_fy {σ : zs_S} {n p : Int} {B : Int → Int} {m : Nat} (h : bk_a σ n p m ∧ (bk_f σ n p B m).1 < bk_v σ p m + B (p + bk_n σ m + 1)) : bk_f σ n p B (m + 1) = (bk_v σ p m + B (p + bk_n σ m + 1), (m : Int)) := by
  rw [bk_f]; exact if_pos h
theorem bk_fn {σ : zs_S} {n p : Int} {B : Int → Int} {m : Nat} (h : ¬ (bk_a σ n p m ∧ (bk_f σ n p B m).1 < bk_v σ p m + B (p + bk_n σ m + 1))) : bk_f σ n p B (m + 1) = bk_f σ n p B m := by
  rw [bk_f]; exact if_neg h
/-- best values are bounded by what the points could bear -/
def bk_b (n p : Int) (B : Int → Int) : Prop := ∀ x, p < x → x ≤ n + 1 → 0 ≤ B x ∧ B x ≤ (n + 1 - x) * 1000000
theorem bk_fb {σ : zs_S} {n p : Int} {B : Int → Int} (hS : ks_s σ n) (hK : ks_k σ) (hp : 0 ≤ p ∧ p ≤ n) (hB : bk_b n p B) : ∀ m : Nat, m ≤ 6 → (0 ≤ (bk_f σ n p B m).1 ∧ (bk_f σ n p B m).1 ≤ (n + 1 - p) * 1000000) ∧ (-1 ≤ (bk_f σ n p B m).2 ∧ (bk_f σ n p B m).2 < 6)
  | 0, _ => by
    have h := hB (p + 1) (by omega) (by omega)
    simp only [bk_f]
    omega
  | m + 1, hm => by
    have ih := bk_fb hS hK hp hB m (by omega)
    by_cases h : bk_a σ n p m ∧ (bk_f σ n p B m).1 < bk_v σ p m + B (p + bk_n σ m + 1)
    · rw [bk_fy h]
      have hv := bk_vb hS hK (j := (m : Int)) ⟨by omega, by omega⟩ hp.1 h.1
      have a1 : 0 < σ (8 + 2 * (m : Int).toNat) 0 := h.1.1
      have a2 : p + σ (8 + 2 * (m : Int).toNat) 0 ≤ n := h.1.2.1
      have h2 := hB (p + bk_n σ m + 1) (by show p < p + σ (8 + 2 * (m : Int).toNat) 0 + 1; omega) (by show p + σ (8 + 2 * (m : Int).toNat) 0 + 1 ≤ n + 1; omega)
      refine ⟨⟨by omega, ?_⟩, by dsimp only; omega, by dsimp only; omega⟩
      have h3 : bk_n σ m = σ (8 + 2 * (m : Int).toNat) 0 := rfl
      dsimp only
      omega
    · rw [bk_fn h]
      exact ih
theorem bk_fc {σ τ : zs_S} {n p : Int} {B E : Int → Int} (h3 : ∀ i, τ 3 i = σ 3 i) (h4 : ∀ i, τ 4 i = σ 4 i) (h1 : ∀ c, 8 ≤ c → c ≤ 19 → ∀ i, τ c i = σ c i) (hp : p ≤ n) (hB : ∀ x, p < x → x ≤ n + 1 → E x = B x) : ∀ m : Nat, m ≤ 6 → bk_f τ n p E m = bk_f σ n p B m
  | 0, _ => by simp only [bk_f]; rw [hB (p + 1) (by omega) (by omega)]
  | m + 1, hm => by
    have ih := bk_fc h3 h4 h1 hp hB m (by omega)
    obtain ⟨-, e1, -, -⟩ := bk_pc (n := n) (p := p) (j := (m : Int)) h3 h4 ⟨by omega, by omega⟩ h1
    obtain ⟨ea, ev⟩ := bk_ac (n := n) (p := p) (j := (m : Int)) h3 h4 ⟨by omega, by omega⟩ h1
    by_cases ha : bk_a σ n p m
    · have a1 : 0 < bk_n σ m := ha.1
      have a2 : p + bk_n σ m ≤ n := ha.2.1
      have hE := hB (p + bk_n σ m + 1) (by omega) (by omega)
      by_cases h : (bk_f σ n p B m).1 < bk_v σ p m + B (p + bk_n σ m + 1)
      · rw [bk_fy ⟨ha, h⟩, bk_fy ⟨ea.mpr ha, by rw [ih, ev, e1, hE]; exact h⟩, ev, e1, hE]
      · rw [bk_fn (fun z => h z.2), bk_fn (fun z => h (by have z2 := z.2; rw [ih, ev, e1, hE] at z2; exact z2)), ih]
    · rw [bk_fn (fun z => ha z.1), bk_fn (fun z => ha (ea.mp z.1)), ih]
end
section
set_option maxRecDepth 20000 in
set_option maxHeartbeats 4000000 in
theorem m_keepSpare (g : zg_G) (σ : zs_S) (b q : Nat) (hb : zs_q b) (hq : zs_q q) (hb4 : σ 1 4 = b) (hs5 : σ 1 5 = q) : zm_Met g mX1_keepSpare σ [.ref (g.2.2.1 1)] (fun v τ => v = some (zv_i (σ q 1)) ∧ τ 1 4 = q ∧ τ 1 5 = b ∧ zf_x σ τ [1]) := by
  refine zm_of (by decide +kernel) (Nat.le_of_ble_eq_true rfl) ?_
  intro k C hr
  show zw_W g mX1_keepSpare k 0 [(0, .ref (g.2.2.1 1))] [] σ
  refine zr_aload_n (pc := 0) C dX1_keepSpare_0 0 rfl ?_
  refine zr_get (v := .ref (g.2.2.1 (σ 1 5).toNat)) (pc := 1) C 5 (some none) dX1_keepSpare_1 fX1_24 (by decide) (hs_1 _) rfl rfl ?_
  rw [hs5]
  show zw_W g mX1_keepSpare k 4 [(0, .ref (g.2.2.1 1))] [.ref (g.2.2.1 (q))] σ
  refine zr_astore_n (L' := [(1, .ref (g.2.2.1 (q))), (0, .ref (g.2.2.1 1))]) (pc := 4) C dX1_keepSpare_4 (by decide) rfl ?_
  refine zr_aload_n (pc := 5) C dX1_keepSpare_5 1 rfl ?_
  refine zr_aload_n (pc := 6) C dX1_keepSpare_6 1 rfl ?_
  refine zr_get (v := .ref (g.2.2.1 (σ 1 4).toNat)) (pc := 7) C 4 (some none) dX1_keepSpare_7 fX1_20 (by decide) (hs_1 _) rfl rfl ?_
  rw [hb4]
  show zw_W g mX1_keepSpare k 10 [(1, .ref (g.2.2.1 (q))), (0, .ref (g.2.2.1 1))] [.ref (g.2.2.1 (b)), .ref (g.2.2.1 1)] σ
  refine zr_putR (pc := 10) C 5 5 rfl dX1_keepSpare_10 pX1_24 (by decide) (hs_1 _) rfl (fun τ_1 e_2 => ?_)
  refine zr_aload_n (pc := 13) C dX1_keepSpare_13 1 rfl ?_
  refine zr_aload_n (pc := 14) C dX1_keepSpare_14 0 rfl ?_
  refine zr_putR (pc := 15) C 4 4 rfl dX1_keepSpare_15 pX1_20 (by decide) (hs_1 _) rfl (fun τ_3 e_4 => ?_)
  refine zr_aload_n (pc := 18) C dX1_keepSpare_18 0 rfl ?_
  refine zr_get (v := zv_i (τ_3 q 1)) (pc := 19) C 1 none dX1_keepSpare_19 fX1_96 (hn_cut hq) (hs_cut hq) rfl rfl ?_
  exact zr_iret (pc := 22) C hr dX1_keepSpare_22 rfl (⟨zq_i (by rw [e_4, zs_put_ne (by omega), e_2, zs_put_ne (by omega)]), by rw [e_4, zs_put_self], by rw [e_4, zs_put_off (by decide), e_2, zs_put_self], zf_p (zf_p (zf_r σ [1]) e_2 (by decide)) e_4 (by decide)⟩)

set_option maxRecDepth 20000 in
set_option maxHeartbeats 4000000 in
theorem m_price (g : zg_G) (σ : zs_S) (n : Int) (hg : (g.2.2.2 : Int) = n) (f j : Int) (hj : 0 ≤ j ∧ j < 6) (hf : 0 ≤ f ∧ f ≤ n) (hS : ks_s σ n) (hK : ks_k σ) (hl : ks_l σ n f) : zm_Met g mX1_priceFrom σ [.ref (g.2.2.1 1), zv_i f, .ref (g.2.2.1 (8 + 2 * j.toNat))] (fun v τ => v = some (zv_i (bk_p σ n f j)) ∧ σ = τ) := by
  refine zm_of (by decide +kernel) (Nat.le_of_ble_eq_true rfl) ?_
  intro k C hr
  show zw_W g mX1_priceFrom k 0 [(0, .ref (g.2.2.1 1)), (1, zv_i f), (2, .ref (g.2.2.1 (8 + 2 * j.toNat)))] [] σ
  obtain ⟨hn1, hn2, hlast, hd, hgd⟩ := id hS
  obtain ⟨⟨k1, k2⟩, ⟨k3, k4⟩, k5⟩ := hK j hj.1 hj.2
  refine zr_aload_n (pc := 0) C dX1_priceFrom_0 2 rfl ?_
  refine zr_get (v := zv_i (σ (8 + 2 * j.toNat) 0)) (pc := 1) C 0 none dX1_priceFrom_1 fX1_58 (hn_kind hj) (hs_kind hj) rfl rfl ?_
  refine zr_istore_n (L' := [(3, zv_i (σ (8 + 2 * j.toNat) 0)), (0, .ref (g.2.2.1 1)), (1, zv_i f), (2, .ref (g.2.2.1 (8 + 2 * j.toNat)))]) (pc := 4) C dX1_priceFrom_4 (by decide) rfl ?_
  refine zr_aload_n (pc := 5) C dX1_priceFrom_5 3 rfl ?_
  refine zr_callV (As := []) (rest := []) (b := 8 + 2 * j.toNat) (pc := 6) C dX1_priceFrom_6 kX5_isTold vX1_82 rfl (by decide) (hn_kind hj) (hs_kind hj) rfl (Nat.le_of_ble_eq_true rfl) (m_toldK g σ j (by omega) (by omega)) (fun v_ τ_ h_ => ?_)
  obtain ⟨rfl, rfl⟩ := h_
  show zw_W g mX1_priceFrom k 9 [(3, zv_i (σ (8 + 2 * j.toNat) 0)), (0, .ref (g.2.2.1 1)), (1, zv_i f), (2, .ref (g.2.2.1 (8 + 2 * j.toNat)))] [zv_i (zi_b (0 < σ (8 + 2 * j.toNat) 0))] σ
  refine zr_if_eq_b (pc := 9) C 41 dX1_priceFrom_9 (by decide) (fun h_1 => ?_) (fun h_1 => ?_)
  · refine zr_iconst (pc := 41) C dX1_priceFrom_41 ?_
    exact zr_iret (pc := 42) C hr dX1_priceFrom_42 rfl (⟨zq_i (bk_pn (fun z => by obtain ⟨z1, z2, z3⟩ := z; have z1 : 0 < σ (8 + 2 * j.toNat) 0 := z1; have z2 : f + σ (8 + 2 * j.toNat) 0 ≤ n := z2; omega)).symm, rfl⟩)
  · refine zr_iload_n (pc := 12) C dX1_priceFrom_12 2 rfl ?_
    refine zr_iload_n (pc := 13) C dX1_priceFrom_13 0 rfl ?_
    refine zr_iadd (pc := 14) C dX1_priceFrom_14 ?_
    refine zr_aload_n (pc := 15) C dX1_priceFrom_15 1 rfl ?_
    refine zr_get (v := .ref (g.2.2.1 2)) (pc := 16) C 0 (some (some 2)) dX1_priceFrom_16 fX1_32 (by decide) (hs_1 _) rfl rfl ?_
    refine zr_get (v := zv_i (σ 2 0)) (pc := 19) C 0 none dX1_priceFrom_19 fX1_44 (by decide) (hs_2 _) rfl rfl ?_
    refine zr_icmp_gt (pc := 22) C 41 dX1_priceFrom_22 (by decide) (by omega) (by omega) (fun h_2 => ?_) (fun h_2 => ?_)
    · refine zr_iconst (pc := 41) C dX1_priceFrom_41 ?_
      exact zr_iret (pc := 42) C hr dX1_priceFrom_42 rfl (⟨zq_i (bk_pn (fun z => by obtain ⟨z1, z2, z3⟩ := z; have z1 : 0 < σ (8 + 2 * j.toNat) 0 := z1; have z2 : f + σ (8 + 2 * j.toNat) 0 ≤ n := z2; omega)).symm, rfl⟩)
    · have hL := hl (σ (8 + 2 * j.toNat) 0) (by omega) (by omega)
      have b3 := lo_b (a := f) (b := n) (fun q h1 h2 => hd q (by omega) h2) (σ (8 + 2 * j.toNat) 0 + 1).toNat (by omega)
      have b4 := hi_b (a := f) (b := n) (fun q h1 h2 => hgd q (by omega) h2) (σ (8 + 2 * j.toNat) 0 + 1).toNat (by omega)
      rw [← hL.1] at b3
      rw [← hL.2] at b4
      refine zr_aload_n (pc := 25) C dX1_priceFrom_25 1 rfl ?_
      refine zr_get (v := .ref (g.2.2.1 2)) (pc := 26) C 0 (some (some 2)) dX1_priceFrom_26 fX1_32 (by decide) (hs_1 _) rfl rfl ?_
      refine zr_get (v := .ref (g.2.2.1 5)) (pc := 29) C 4 (some (some 5)) dX1_priceFrom_29 fX1_72 (by decide) (hs_2 _) rfl rfl ?_
      refine zr_iload_n (pc := 32) C dX1_priceFrom_32 0 rfl ?_
      refine zr_iaload (pc := 33) C dX1_priceFrom_33 (by decide) (hs_5 _) (by omega) (by omega) ?_
      refine zr_aload_n (pc := 34) C dX1_priceFrom_34 3 rfl ?_
      refine zr_get (v := zv_i (σ (8 + 2 * j.toNat) 1)) (pc := 35) C 1 none dX1_priceFrom_35 fX1_86 (hn_kind hj) (hs_kind hj) rfl rfl ?_
      refine zr_icmp_ge (pc := 38) C 43 dX1_priceFrom_38 (by decide) (by omega) (by omega) (fun h_3 => ?_) (fun h_3 => ?_)
      · refine zr_aload_n (pc := 43) C dX1_priceFrom_43 3 rfl ?_
        refine zr_get (v := .ref (g.2.2.1 (9 + 2 * j.toNat))) (pc := 44) C 2 (some (some (9 + 2 * j.toNat))) dX1_priceFrom_44 fX1_89 (hn_kind hj) (hs_kind hj) rfl rfl ?_
        refine zr_aload_n (pc := 47) C dX1_priceFrom_47 1 rfl ?_
        refine zr_get (v := .ref (g.2.2.1 2)) (pc := 48) C 0 (some (some 2)) dX1_priceFrom_48 fX1_32 (by decide) (hs_1 _) rfl rfl ?_
        refine zr_get (v := .ref (g.2.2.1 5)) (pc := 51) C 4 (some (some 5)) dX1_priceFrom_51 fX1_72 (by decide) (hs_2 _) rfl rfl ?_
        refine zr_iload_n (pc := 54) C dX1_priceFrom_54 0 rfl ?_
        refine zr_iaload (pc := 55) C dX1_priceFrom_55 (by decide) (hs_5 _) (by omega) (by omega) ?_
        refine zr_bipush (pc := 56) C dX1_priceFrom_56 (by decide) ?_
        refine zr_idiv (pc := 58) C dX1_priceFrom_58 (by omega) (by omega) (by omega) (by omega) ?_
        refine zr_aload_n (pc := 59) C dX1_priceFrom_59 1 rfl ?_
        refine zr_get (v := .ref (g.2.2.1 2)) (pc := 60) C 0 (some (some 2)) dX1_priceFrom_60 fX1_32 (by decide) (hs_1 _) rfl rfl ?_
        refine zr_get (v := .ref (g.2.2.1 6)) (pc := 63) C 5 (some (some 6)) dX1_priceFrom_63 fX1_75 (by decide) (hs_2 _) rfl rfl ?_
        refine zr_iload_n (pc := 66) C dX1_priceFrom_66 0 rfl ?_
        refine zr_iaload (pc := 67) C dX1_priceFrom_67 (by decide) (hs_6 _) (by omega) (by omega) ?_
        refine zr_callS (As := [zv_i ((σ 5 (σ (8 + 2 * j.toNat) 0)) / 50), zv_i (σ 6 (σ (8 + 2 * j.toNat) 0))]) (rest := [.ref (g.2.2.1 (9 + 2 * j.toNat))]) (pc := 68) C dX1_priceFrom_68 kX5_slot sX1_92 rfl (by decide) rfl (Nat.le_of_ble_eq_true rfl) (m_slot g σ ((σ 5 (σ (8 + 2 * j.toNat) 0)) / 50) (σ 6 (σ (8 + 2 * j.toNat) 0)) ) (fun v_ τ_ h_ => ?_)
        obtain ⟨rfl, rfl⟩ := h_
        show zw_W g mX1_priceFrom k 71 [(3, zv_i (σ (8 + 2 * j.toNat) 0)), (0, .ref (g.2.2.1 1)), (1, zv_i f), (2, .ref (g.2.2.1 (8 + 2 * j.toNat)))] [zv_i (((σ 5 (σ (8 + 2 * j.toNat) 0)) / 50) * 3 + (σ 6 (σ (8 + 2 * j.toNat) 0)) - 1), .ref (g.2.2.1 (9 + 2 * j.toNat))] σ
        have hi0 : 0 ≤ σ 5 (σ (8 + 2 * j.toNat) 0) / 50 * 3 + σ 6 (σ (8 + 2 * j.toNat) 0) - 1 ∧ σ 5 (σ (8 + 2 * j.toNat) 0) / 50 * 3 + σ 6 (σ (8 + 2 * j.toNat) 0) - 1 < 57 := by omega
        refine zr_iaload (pc := 71) C dX1_priceFrom_71 (hn_kindP hj) (hs_kindP hj) (by omega) (by decide) ?_
        exact zr_iret (pc := 72) C hr dX1_priceFrom_72 rfl (⟨zq_i (by rw [bk_pp ⟨by show 0 < σ (8 + 2 * j.toNat) 0; omega, by show f + σ (8 + 2 * j.toNat) 0 ≤ n; omega, by show σ (8 + 2 * j.toNat) 1 ≤ lo_t (σ 3) f (σ (8 + 2 * j.toNat) 0 + 1).toNat; rw [← hL.1]; omega⟩]; show _ = σ (9 + 2 * j.toNat) (lo_t (σ 3) f (σ (8 + 2 * j.toNat) 0 + 1).toNat / 50 * 3 + hi_t (σ 4) f (σ (8 + 2 * j.toNat) 0 + 1).toNat - 1); rw [← hL.1, ← hL.2]), rfl⟩)
      · refine zr_iconst (pc := 41) C dX1_priceFrom_41 ?_
        exact zr_iret (pc := 42) C hr dX1_priceFrom_42 rfl (⟨zq_i (bk_pn (fun z => by obtain ⟨z1, z2, z3⟩ := z; have z1 : 0 < σ (8 + 2 * j.toNat) 0 := z1; have z2 : f + σ (8 + 2 * j.toNat) 0 ≤ n := z2; have z3 : σ (8 + 2 * j.toNat) 1 ≤ lo_t (σ 3) f (σ (8 + 2 * j.toNat) 0 + 1).toNat := z3; rw [← hL.1] at z3; omega)).symm, rfl⟩)

set_option maxRecDepth 20000 in
set_option maxHeartbeats 4000000 in
theorem m_addLog (g : zg_G) (σ : zs_S) (n : Int) (hg : (g.2.2.2 : Int) = n) (q : Nat) (hq : zs_q q) (j f c : Int) (hj : 0 ≤ j ∧ j < 6) (hf : 0 ≤ f ∧ f ≤ 1000) (hS : ks_s σ n) (hK : ks_k σ) (hs5 : σ 1 5 = q) (hc : σ q 0 = c) (hcc : 0 ≤ c ∧ (bk_a σ n f j → c < 40)) : zm_Met g mX1_addLog σ [.ref (g.2.2.1 1), zv_i j, zv_i f] (fun v τ => v = some (zv_i (zi_b (bk_a σ n f j))) ∧ zf_x σ τ [5, 6, q, q + 1] ∧ (¬ bk_a σ n f j → zf_x σ τ [5, 6]) ∧ (bk_a σ n f j → τ q 0 = c + 1 ∧ τ q 1 = σ q 1 + bk_v σ f j ∧ (∀ i, i < c * 6 → τ (q + 1) i = σ (q + 1) i) ∧ bk_e σ (τ (q + 1)) c f j)) := by
  refine zm_of (by decide +kernel) (Nat.le_of_ble_eq_true rfl) ?_
  intro k C hr
  show zw_W g mX1_addLog k 0 [(0, .ref (g.2.2.1 1)), (1, zv_i j), (2, zv_i f)] [] σ
  obtain ⟨hn1, hn2, hlast, hd, hgd⟩ := id hS
  refine zr_iload_n (pc := 0) C dX1_addLog_0 2 rfl ?_
  refine zr_aload_n (pc := 1) C dX1_addLog_1 0 rfl ?_
  refine zr_get (v := .ref (g.2.2.1 2)) (pc := 2) C 0 (some (some 2)) dX1_addLog_2 fX1_32 (by decide) (hs_1 _) rfl rfl ?_
  refine zr_get (v := zv_i (σ 2 0)) (pc := 5) C 0 none dX1_addLog_5 fX1_44 (by decide) (hs_2 _) rfl rfl ?_
  refine zr_icmp_le (pc := 8) C 13 dX1_addLog_8 (by decide) (by omega) (by omega) (fun h_1 => ?_) (fun h_1 => ?_)
  · refine zr_aload_n (pc := 13) C dX1_addLog_13 0 rfl ?_
    refine zr_get (v := .ref (g.2.2.1 2)) (pc := 14) C 0 (some (some 2)) dX1_addLog_14 fX1_32 (by decide) (hs_1 _) rfl rfl ?_
    refine zr_iload_n (pc := 17) C dX1_addLog_17 2 rfl ?_
    refine zr_callV (As := [zv_i f]) (rest := []) (b := 2) (pc := 18) C dX1_addLog_18 kX9_lookFrom vX1_65 rfl (by decide) (by decide) (hs_2 _) rfl (Nat.le_of_ble_eq_true rfl) (m_look g σ n hg f (by exact hS) (by omega)) (fun v_ τ_ h_ => ?_)
    obtain ⟨rfl, h_3⟩ := h_
    generalize τ_ = τ_2 at h_3 ⊢
    show zw_W g mX1_addLog k 21 [(0, .ref (g.2.2.1 1)), (1, zv_i j), (2, zv_i f)] [] τ_2
    have fr := h_3.1
    have hl := h_3.2
    have hS1 : ks_s τ_2 n := ks_sx hS (fun i => fr 2 (by decide) i) (fun i => fr 3 (by decide) i) (fun i => fr 4 (by decide) i)
    have hK1 : ks_k τ_2 := ks_kx hK (fun c h1 h2 i => fr c (by simp; omega) i)
    obtain ⟨ep, en, et, eg⟩ := bk_pc (n := n) (p := f) (j := j) (σ := σ) (τ := τ_2) (fun i => fr 3 (by decide) i) (fun i => fr 4 (by decide) i) hj (fun c h1 h2 i => fr c (by simp; omega) i)
    have pr := bk_pr hS1 hK1 hj (p := f) (by omega)
    refine zr_aload_n (pc := 21) C dX1_addLog_21 0 rfl ?_
    refine zr_iload_n (pc := 22) C dX1_addLog_22 2 rfl ?_
    refine zr_aload_n (pc := 23) C dX1_addLog_23 0 rfl ?_
    refine zr_get (v := .ref (g.2.2.1 7)) (pc := 24) C 1 (some (some 7)) dX1_addLog_24 fX1_11 (by decide) (hs_1 _) rfl rfl ?_
    refine zr_iload_n (pc := 27) C dX1_addLog_27 1 rfl ?_
    refine zr_aaload (pc := 28) C dX1_addLog_28 (by decide) (hs_7 _) (by decide) (by omega) (by decide) ?_
    show zw_W g mX1_addLog k 29 [(0, .ref (g.2.2.1 1)), (1, zv_i j), (2, zv_i f)] [.ref (g.2.2.1 (8 + 2 * j.toNat)), zv_i f, .ref (g.2.2.1 1)] τ_2
    refine zr_callV (As := [zv_i f, .ref (g.2.2.1 (8 + 2 * j.toNat))]) (rest := []) (b := 1) (pc := 29) C dX1_addLog_29 kX1_priceFrom vX1_68 rfl (by decide) (by decide) (hs_1 _) rfl (Nat.le_of_ble_eq_true rfl) (m_price g τ_2 n hg f j (by omega) (by omega) (by exact hS1) (by exact hK1) (by exact hl)) (fun v_ τ_ h_ => ?_)
    obtain ⟨rfl, rfl⟩ := h_
    show zw_W g mX1_addLog k 32 [(0, .ref (g.2.2.1 1)), (1, zv_i j), (2, zv_i f)] [zv_i (bk_p τ_2 n f j)] τ_2
    refine zr_istore_n (L' := [(3, zv_i (bk_p τ_2 n f j)), (0, .ref (g.2.2.1 1)), (1, zv_i j), (2, zv_i f)]) (pc := 32) C dX1_addLog_32 (by decide) rfl ?_
    refine zr_iload_n (pc := 33) C dX1_addLog_33 0 rfl ?_
    refine zr_iconst (pc := 34) C dX1_addLog_34 ?_
    refine zr_icmp_ne (pc := 35) C 40 dX1_addLog_35 (by decide) (by omega) (by omega) (fun h_4 => ?_) (fun h_4 => ?_)
    · have ha1 := bk_pa h_4
      have ha : bk_a σ n f j := (bk_ac (fun i => fr 3 (by decide) i) (fun i => fr 4 (by decide) i) hj (fun c h1 h2 i => fr c (by simp; omega) i)).1.mp ha1
      have ev : bk_v τ_2 f j = bk_v σ f j := (bk_ac (n := n) (fun i => fr 3 (by decide) i) (fun i => fr 4 (by decide) i) hj (fun c h1 h2 i => fr c (by simp; omega) i)).2
      have a1 : 0 < τ_2 (8 + 2 * j.toNat) 0 := ha1.1
      have a2 : f + τ_2 (8 + 2 * j.toNat) 0 ≤ n := ha1.2.1
      have hL := hl (τ_2 (8 + 2 * j.toNat) 0) (by omega) (by omega)
      have tb := bk_tb hS1 (by omega) ha1
      have t1 : τ_2 5 (τ_2 (8 + 2 * j.toNat) 0) = bk_t σ f j := hL.1.trans et
      have g1 : τ_2 6 (τ_2 (8 + 2 * j.toNat) 0) = bk_g σ f j := hL.2.trans eg
      rw [et, eg] at tb
      have epv : bk_p τ_2 n f j = bk_v σ f j := by rw [bk_pp ha1, ev]
      refine zr_aload_n (pc := 40) C dX1_addLog_40 1 rfl ?_
      refine zr_get (v := .ref (g.2.2.1 7)) (pc := 41) C 1 (some (some 7)) dX1_addLog_41 fX1_11 (by decide) (hs_1 _) rfl rfl ?_
      refine zr_iload_n (pc := 44) C dX1_addLog_44 2 rfl ?_
      refine zr_aaload (pc := 45) C dX1_addLog_45 (by decide) (hs_7 _) (by decide) (by omega) (by decide) ?_
      show zw_W g mX1_addLog k 46 [(3, zv_i (bk_p τ_2 n f j)), (0, .ref (g.2.2.1 1)), (1, zv_i j), (2, zv_i f)] [.ref (g.2.2.1 (8 + 2 * j.toNat))] τ_2
      refine zr_get (v := zv_i (τ_2 (8 + 2 * j.toNat) 0)) (pc := 46) C 0 none dX1_addLog_46 fX1_58 (hn_kind (by omega)) (hs_kind (by omega)) rfl rfl ?_
      refine zr_istore (L' := [(4, zv_i (τ_2 (8 + 2 * j.toNat) 0)), (3, zv_i (bk_p τ_2 n f j)), (0, .ref (g.2.2.1 1)), (1, zv_i j), (2, zv_i f)]) (pc := 49) C dX1_addLog_49 (by decide) rfl ?_
      refine zr_aload_n (pc := 51) C dX1_addLog_51 2 rfl ?_
      refine zr_get (v := .ref (g.2.2.1 (τ_2 1 5).toNat)) (pc := 52) C 5 (some none) dX1_addLog_52 fX1_24 (by decide) (hs_1 _) rfl rfl ?_
      rw [show τ_2 1 5 = (q : Int) from (fr 1 (by decide) 5).trans hs5]
      show zw_W g mX1_addLog k 55 [(4, zv_i (τ_2 (8 + 2 * j.toNat) 0)), (3, zv_i (bk_p τ_2 n f j)), (0, .ref (g.2.2.1 1)), (1, zv_i j), (2, zv_i f)] [.ref (g.2.2.1 (q))] τ_2
      refine zr_iload_n (pc := 55) C dX1_addLog_55 4 rfl ?_
      refine zr_iload_n (pc := 56) C dX1_addLog_56 3 rfl ?_
      refine zr_aload_n (pc := 57) C dX1_addLog_57 2 rfl ?_
      refine zr_get (v := .ref (g.2.2.1 2)) (pc := 58) C 0 (some (some 2)) dX1_addLog_58 fX1_32 (by decide) (hs_1 _) rfl rfl ?_
      refine zr_get (v := .ref (g.2.2.1 5)) (pc := 61) C 4 (some (some 5)) dX1_addLog_61 fX1_72 (by decide) (hs_2 _) rfl rfl ?_
      refine zr_iload (pc := 64) C dX1_addLog_64 0 rfl ?_
      refine zr_iaload (pc := 66) C dX1_addLog_66 (by decide) (hs_5 _) (by omega) (by omega) ?_
      refine zr_aload_n (pc := 67) C dX1_addLog_67 2 rfl ?_
      refine zr_get (v := .ref (g.2.2.1 2)) (pc := 68) C 0 (some (some 2)) dX1_addLog_68 fX1_32 (by decide) (hs_1 _) rfl rfl ?_
      refine zr_get (v := .ref (g.2.2.1 6)) (pc := 71) C 5 (some (some 6)) dX1_addLog_71 fX1_75 (by decide) (hs_2 _) rfl rfl ?_
      refine zr_iload (pc := 74) C dX1_addLog_74 0 rfl ?_
      refine zr_iaload (pc := 76) C dX1_addLog_76 (by decide) (hs_6 _) (by omega) (by omega) ?_
      refine zr_iload_n (pc := 77) C dX1_addLog_77 1 rfl ?_
      refine zr_callV (As := [zv_i f, zv_i j, zv_i (τ_2 5 (τ_2 (8 + 2 * j.toNat) 0)), zv_i (τ_2 6 (τ_2 (8 + 2 * j.toNat) 0)), zv_i (bk_p τ_2 n f j)]) (rest := []) (b := q) (pc := 78) C dX1_addLog_78 kX3_add vX1_78 rfl (by decide) (hn_cut hq) (hs_cut hq) rfl (Nat.le_of_ble_eq_true rfl) (m_add g τ_2 q hq c f j (τ_2 5 (τ_2 (8 + 2 * j.toNat) 0)) (τ_2 6 (τ_2 (8 + 2 * j.toNat) 0)) (bk_p τ_2 n f j) (by rw [fr q (by simp; omega) 0]; exact hc) (by exact ⟨hcc.1, hcc.2 ha⟩) (by rw [t1]; omega)) (fun v_ τ_ h_ => ?_)
      obtain ⟨rfl, h_6⟩ := h_
      generalize τ_ = τ_5 at h_6 ⊢
      show zw_W g mX1_addLog k 81 [(4, zv_i (τ_2 (8 + 2 * j.toNat) 0)), (3, zv_i (bk_p τ_2 n f j)), (0, .ref (g.2.2.1 1)), (1, zv_i j), (2, zv_i f)] [] τ_5
      refine zr_iconst (pc := 81) C dX1_addLog_81 ?_
      exact zr_zret (pc := 82) C hr dX1_addLog_82 rfl (by decide) ((by
          obtain ⟨c1, c2, c3, f0, f1, f2, f3, f4, f5, ff⟩ := h_6
          have fz : zf_x σ τ_5 [5, 6, q, q + 1] := zf_t fr ff (by simp) (by simp)
          refine ⟨zq_1 ha, fz, fun z => absurd ha z, fun _ => ⟨c1, ?_, fun i hi => ?_, f0, f1, ?_, ?_, ?_, ?_⟩⟩
          · rw [c2, fr q (by simp; omega) 1, epv]
          · rw [c3 i hi, fr (q + 1) (by simp; omega) i]
          · rw [f2, t1]
          · rw [f3, t1]
          · rw [f4, g1]
          · rw [f5, epv]))
    · refine zr_iconst (pc := 38) C dX1_addLog_38 ?_
      exact zr_zret (pc := 39) C hr dX1_addLog_39 rfl (by decide) ((by
          have hna : ¬ bk_a σ n f j := fun q => (bk_pz hS1 hK1 hj (by omega) h_4) ((bk_ac (fun i => fr 3 (by decide) i) (fun i => fr 4 (by decide) i) hj (fun c h1 h2 i => fr c (by simp; omega) i)).1.mpr q)
          exact ⟨zq_0 hna, zf_w fr (by simp), fun _ => fr, fun z => absurd z hna⟩))
  · refine zr_iconst (pc := 11) C dX1_addLog_11 ?_
    exact zr_zret (pc := 12) C hr dX1_addLog_12 rfl (by decide) (⟨zq_0 (fun z => by have z1 : 0 < σ (8 + 2 * j.toNat) 0 := z.1; have z2 : f + σ (8 + 2 * j.toNat) 0 ≤ n := z.2.1; omega), zf_r σ _, fun _ => zf_r σ _, fun z => absurd z (fun z => by have z1 : 0 < σ (8 + 2 * j.toNat) 0 := z.1; have z2 : f + σ (8 + 2 * j.toNat) 0 ≤ n := z.2.1; omega)⟩)
end
section
/-! THE MATHEMATICS OF THE CLASS, part C: the best cutting -/
theorem bk_fyi {σ : zs_S} {n p a : Int} {B : Int → Int} (h0 : 0 ≤ a) (h : bk_a σ n p a) (h2 : (bk_f σ n p B a.toNat).1 < bk_v σ p a + B (p + bk_n σ a + 1)) : bk_f σ n p B (a + 1).toNat = (bk_v σ p a + B (p + bk_n σ a + 1), a) := by
  obtain ⟨m, rfl⟩ := Int.eq_ofNat_of_zero_le h0
  rw [show ((m : Int) + 1).toNat = m + 1 by omega]
  exact bk_fy ⟨h, h2⟩
theorem bk_fni {σ : zs_S} {n p a : Int} {B : Int → Int} (h0 : 0 ≤ a) (h : ¬ (bk_a σ n p a ∧ (bk_f σ n p B a.toNat).1 < bk_v σ p a + B (p + bk_n σ a + 1))) : bk_f σ n p B (a + 1).toNat = bk_f σ n p B a.toNat := by
  obtain ⟨m, rfl⟩ := Int.eq_ofNat_of_zero_le h0
  rw [show ((m : Int) + 1).toNat = m + 1 by omega]
  exact bk_fn h
/-- what the fold finds: no kind gives more; the lowest that gives so much, and more than none -/
theorem bk_fs {σ : zs_S} {n p : Int} {B : Int → Int} : ∀ m : Nat, B (p + 1) ≤ (bk_f σ n p B m).1 ∧ (∀ a : Int, 0 ≤ a → a < m → bk_a σ n p a → bk_v σ p a + B (p + bk_n σ a + 1) ≤ (bk_f σ n p B m).1) ∧
    (((bk_f σ n p B m).2 = -1 ∧ (bk_f σ n p B m).1 = B (p + 1)) ∨ (0 ≤ (bk_f σ n p B m).2 ∧ (bk_f σ n p B m).2 < m ∧ bk_a σ n p (bk_f σ n p B m).2 ∧ (bk_f σ n p B m).1 = bk_v σ p (bk_f σ n p B m).2 + B (p + bk_n σ (bk_f σ n p B m).2 + 1) ∧ B (p + 1) < (bk_f σ n p B m).1 ∧ ∀ a : Int, 0 ≤ a → a < (bk_f σ n p B m).2 → bk_a σ n p a → bk_v σ p a + B (p + bk_n σ a + 1) < (bk_f σ n p B m).1))
  | 0 => ⟨by simp [bk_f], fun a h1 h2 => absurd h2 (by omega), Or.inl ⟨rfl, rfl⟩⟩
  | m + 1 => by
    obtain ⟨h1, h2, h3⟩ := bk_fs (σ := σ) (n := n) (p := p) (B := B) m
    by_cases h : bk_a σ n p m ∧ (bk_f σ n p B m).1 < bk_v σ p m + B (p + bk_n σ m + 1)
    · rw [bk_fy h]
      refine ⟨by dsimp only; omega, fun a a1 a2 a3 => ?_, Or.inr ⟨by dsimp only; omega, by dsimp only; omega, h.1, rfl, by dsimp only; omega, fun a a1 a2 a3 => ?_⟩⟩
      · rcases (show a < (m : Int) ∨ a = (m : Int) by omega) with h4 | h4
        · have := h2 a a1 h4 a3
          dsimp only; omega
        · subst h4
          exact Int.le_refl _
      · have := h2 a a1 a2 a3
        dsimp only; omega
    · rw [bk_fn h]
      refine ⟨h1, fun a a1 a2 a3 => ?_, ?_⟩
      · rcases (show a < (m : Int) ∨ a = (m : Int) by omega) with h4 | h4
        · exact h2 a a1 h4 a3
        · subst h4
          exact Int.not_lt.mp (fun z => h ⟨a3, z⟩)
      · rcases h3 with h3 | ⟨b1, b2, b3⟩
        · exact Or.inl h3
        · exact Or.inr ⟨b1, by omega, b3⟩
/-- best values and kinds of all points of the stem -/
def bk_z (σ : zs_S) (n : Int) (B K : Int → Int) : Prop := B (n + 1) = 0 ∧ ∀ x, 0 ≤ x → x ≤ n → (B x = (bk_f σ n x B 6).1 ∧ K x = (bk_f σ n x B 6).2) ∧ (0 ≤ B x ∧ B x ≤ (n + 1 - x) * 1000000)
/-- the logs l stand from s up to e as the kinds K say -/
def bk_D (σ : zs_S) (K : Int → Int) : List (Int × Int) → Int → Int → Prop
  | [], s, e => s ≤ e ∧ ∀ x, s ≤ x → x < e → K x = -1
  | q :: r, s, e => s ≤ q.1 ∧ (∀ x, s ≤ x → x < q.1 → K x = -1) ∧ K q.1 = q.2 ∧ q.2 ≠ -1 ∧ bk_D σ K r (q.1 + bk_n σ q.2 + 1) e
theorem bk_Dn {σ : zs_S} {K : Int → Int} : ∀ {l : List (Int × Int)} {s e : Int}, bk_D σ K l s e → K e = -1 → bk_D σ K l s (e + 1)
  | [], s, e, ⟨h1, h2⟩, h => ⟨by omega, fun x a b => by
    rcases (show x < e ∨ x = e by omega) with c | c
    · exact h2 x a c
    · rw [c]; exact h⟩
  | q :: r, s, e, ⟨h1, h2, h3, h4, h5⟩, h => ⟨h1, h2, h3, h4, bk_Dn h5 h⟩
theorem bk_Dy {σ : zs_S} {K : Int → Int} : ∀ {l : List (Int × Int)} {s e : Int}, bk_D σ K l s e → K e ≠ -1 → bk_D σ K (l ++ [(e, K e)]) s (e + bk_n σ (K e) + 1)
  | [], s, e, ⟨h1, h2⟩, h => ⟨h1, h2, rfl, h, Int.le_refl _, fun x a b => absurd b (by dsimp only at a b ⊢; omega)⟩
  | q :: r, s, e, ⟨h1, h2, h3, h4, h5⟩, h => ⟨h1, h2, h3, h4, bk_Dy h5 h⟩
theorem bk_Du {σ : zs_S} {K : Int → Int} : ∀ {l m : List (Int × Int)} {s e : Int}, bk_D σ K l s e → bk_D σ K m s e → (∀ q ∈ l, q.1 < e) → (∀ q ∈ m, q.1 < e) → l = m
  | [], [], _, _, _, _, _, _ => rfl
  | [], q :: r, s, e, ⟨h1, h2⟩, ⟨g1, g2, g3, g4, g5⟩, _, gm => absurd (h2 q.1 g1 (gm q List.mem_cons_self)) (by rw [g3]; exact g4)
  | q :: r, [], s, e, ⟨h1, h2, h3, h4, h5⟩, ⟨g1, g2⟩, hm, _ => absurd (g2 q.1 h1 (hm q List.mem_cons_self)) (by rw [h3]; exact h4)
  | q :: r, u :: w, s, e, ⟨h1, h2, h3, h4, h5⟩, ⟨g1, g2, g3, g4, g5⟩, hm, gm => by
    have e1 : q.1 = u.1 := by
      rcases Int.lt_trichotomy q.1 u.1 with c | c | c
      · exact absurd (g2 q.1 h1 c) (by rw [h3]; exact h4)
      · exact c
      · exact absurd (h2 u.1 g1 c) (by rw [g3]; exact g4)
    have e2 : q.2 = u.2 := by rw [← h3, ← g3, e1]
    have e3 : q = u := Prod.ext e1 e2
    subst e3
    rw [bk_Du h5 g5 (fun z hz => hm z (List.mem_cons_of_mem _ hz)) (fun z hz => gm z (List.mem_cons_of_mem _ hz))]
/-- the facts of the logs l, one behind the other -/
def bk_R (σ : zs_S) (A : Int → Int) (l : List (Int × Int)) : Prop := ∀ (i : Nat) (p j : Int), l[i]? = some (p, j) → bk_e σ A i p j
theorem bk_Rc {σ : zs_S} {A A' : Int → Int} {l : List (Int × Int)} (h : bk_R σ A l) (hA : ∀ i, 0 ≤ i → i < (l.length : Int) * 6 → A' i = A i) : bk_R σ A' l := by
  intro i p j hi
  have hl := (List.getElem?_eq_some_iff.mp hi).1
  obtain ⟨a, b, c, d, e, f⟩ := h i p j hi
  exact ⟨by rw [hA _ (by omega) (by omega)]; exact a, by rw [hA _ (by omega) (by omega)]; exact b, by rw [hA _ (by omega) (by omega)]; exact c, by rw [hA _ (by omega) (by omega)]; exact d, by rw [hA _ (by omega) (by omega)]; exact e, by rw [hA _ (by omega) (by omega)]; exact f⟩
theorem bk_Ra {σ : zs_S} {A A' : Int → Int} {l : List (Int × Int)} {p j : Int} (h : bk_R σ A l) (hA : ∀ i, 0 ≤ i → i < (l.length : Int) * 6 → A' i = A i) (he : bk_e σ A' (l.length : Int) p j) : bk_R σ A' (l ++ [(p, j)]) := by
  intro i p' j' hi
  by_cases hl : i < l.length
  · rw [List.getElem?_append_left hl] at hi
    exact bk_Rc h hA i p' j' hi
  · rw [List.getElem?_append_right (by omega)] at hi
    have hz : i - l.length < 1 := (List.getElem?_eq_some_iff.mp hi).1
    have e0 : i = l.length := by omega
    subst e0
    rw [Nat.sub_self] at hi
    cases hi
    exact he
end
section
set_option maxRecDepth 20000 in
set_option maxHeartbeats 4000000 in
theorem l_choose {g : zg_G} {k : zk_T} {Q : Option Value → zs_S → Prop} (C : zk_ok g mX1_choose k) (hr : zk_ret g mX1_choose Q k) (n : Int) (hg : (g.2.2.2 : Int) = n) (p : Int) (σ0 : zs_S) (hS : ks_s σ0 n) (hK : ks_k σ0) (hp : 0 ≤ p ∧ p ≤ n) (hB : bk_b n p (σ0 20)) (hQ : ∀ τ, zf_x σ0 τ [5, 6, 20, 21] → (∀ x, x ≠ p → τ 20 x = σ0 20 x) → (∀ x, x ≠ p → τ 21 x = σ0 21 x) → τ 20 p = (bk_f σ0 n p (σ0 20) 6).1 → τ 21 p = (bk_f σ0 n p (σ0 20) 6).2 → Q none τ) : ∀ (N : Nat) (σ : zs_S) (a : Int), (6 - a).toNat < N → (0 ≤ a ∧ a ≤ 6) → (zf_x σ0 σ [5, 6, 20, 21]) → (∀ x, x ≠ p → σ 20 x = σ0 20 x) → (∀ x, x ≠ p → σ 21 x = σ0 21 x) → (σ 20 p = (bk_f σ0 n p (σ0 20) a.toNat).1) → (σ 21 p = (bk_f σ0 n p (σ0 20) a.toNat).2) → (ks_l σ n p) → zw_W g mX1_choose k 31 [(0, .ref (g.2.2.1 1)), (1, zv_i p), (2, zv_i a)] [] σ := by
  intro N
  induction N with
  | zero =>
    intro σ a hN
    exact absurd hN (by omega)
  | succ N ih =>
    intro σ a hN ha0 fr h20 h21 hb hc hl
    obtain ⟨hn1, hn2, hlast, hd, hgd⟩ := id hS
    have hS1 : ks_s σ n := ks_sx hS (fun i => fr 2 (by decide) i) (fun i => fr 3 (by decide) i) (fun i => fr 4 (by decide) i)
    have hK1 : ks_k σ := ks_kx hK (fun c h1 h2 i => fr c (by simp; omega) i)
    have fb := bk_fb hS hK hp hB a.toNat (by omega)
    refine zr_iload_n (pc := 31) C dX1_choose_31 2 rfl ?_
    refine zr_bipush (pc := 32) C dX1_choose_32 (by decide) ?_
    refine zr_icmp_ge (pc := 34) C 111 dX1_choose_34 (by decide) (by omega) (by omega) (fun h_1 => ?_) (fun h_1 => ?_)
    · exact zr_vret (pc := 111) C hr dX1_choose_111 rfl (by
            have h6 : a.toNat = 6 := by omega
            rw [h6] at hb hc
            exact hQ σ fr h20 h21 hb hc)
    · obtain ⟨ep, en, et, eg⟩ := bk_pc (n := n) (p := p) (j := a) (σ := σ0) (τ := σ) (fun i => fr 3 (by decide) i) (fun i => fr 4 (by decide) i) ⟨by omega, by omega⟩ (fun c h1 h2 i => fr c (by simp; omega) i)
      obtain ⟨ea, ev⟩ := bk_ac (n := n) (p := p) (j := a) (σ := σ0) (τ := σ) (fun i => fr 3 (by decide) i) (fun i => fr 4 (by decide) i) ⟨by omega, by omega⟩ (fun c h1 h2 i => fr c (by simp; omega) i)
      have pr := bk_pr hS1 hK1 (j := a) ⟨by omega, by omega⟩ (p := p) (by omega)
      refine zr_aload_n (pc := 37) C dX1_choose_37 0 rfl ?_
      refine zr_iload_n (pc := 38) C dX1_choose_38 1 rfl ?_
      refine zr_aload_n (pc := 39) C dX1_choose_39 0 rfl ?_
      refine zr_get (v := .ref (g.2.2.1 7)) (pc := 40) C 1 (some (some 7)) dX1_choose_40 fX1_11 (by decide) (hs_1 _) rfl rfl ?_
      refine zr_iload_n (pc := 43) C dX1_choose_43 2 rfl ?_
      refine zr_aaload (pc := 44) C dX1_choose_44 (by decide) (hs_7 _) (by decide) (by omega) (by decide) ?_
      show zw_W g mX1_choose k 45 [(0, .ref (g.2.2.1 1)), (1, zv_i p), (2, zv_i a)] [.ref (g.2.2.1 (8 + 2 * a.toNat)), zv_i p, .ref (g.2.2.1 1)] σ
      refine zr_callV (As := [zv_i p, .ref (g.2.2.1 (8 + 2 * a.toNat))]) (rest := []) (b := 1) (pc := 45) C dX1_choose_45 kX1_priceFrom vX1_68 rfl (by decide) (by decide) (hs_1 _) rfl (Nat.le_of_ble_eq_true rfl) (m_price g σ n hg p a (by omega) (by omega) (by exact hS1) (by exact hK1) (by exact hl)) (fun v_ τ_ h_ => ?_)
      obtain ⟨rfl, rfl⟩ := h_
      show zw_W g mX1_choose k 48 [(0, .ref (g.2.2.1 1)), (1, zv_i p), (2, zv_i a)] [zv_i (bk_p σ n p a)] σ
      refine zr_istore_n (L' := [(3, zv_i (bk_p σ n p a)), (0, .ref (g.2.2.1 1)), (1, zv_i p), (2, zv_i a)]) (pc := 48) C dX1_choose_48 (by decide) rfl ?_
      refine zr_iload_n (pc := 49) C dX1_choose_49 0 rfl ?_
      refine zr_iconst (pc := 50) C dX1_choose_50 ?_
      refine zr_icmp_ne (pc := 51) C 57 dX1_choose_51 (by decide) (by omega) (by omega) (fun h_2 => ?_) (fun h_2 => ?_)
      · 
        have ha1 : bk_a σ n p a := bk_pa h_2
        have ha : bk_a σ0 n p a := ea.mp ha1
        have a1 : 0 < σ (8 + 2 * a.toNat) 0 := ha1.1
        have a2 : p + σ (8 + 2 * a.toNat) 0 ≤ n := ha1.2.1
        have epv : bk_p σ n p a = bk_v σ0 p a := by rw [bk_pp ha1, ev]
        have en1 : bk_n σ0 a = σ (8 + 2 * a.toNat) 0 := en.symm
        have hB1 := hB (p + σ (8 + 2 * a.toNat) 0 + 1) (by omega) (by omega)
        have e20 : σ 20 (p + σ (8 + 2 * a.toNat) 0 + 1) = σ0 20 (p + σ (8 + 2 * a.toNat) 0 + 1) := h20 _ (by omega)
        refine zr_iload_n (pc := 57) C dX1_choose_57 0 rfl ?_
        refine zr_aload_n (pc := 58) C dX1_choose_58 1 rfl ?_
        refine zr_get (v := .ref (g.2.2.1 20)) (pc := 59) C 2 (some (some 20)) dX1_choose_59 fX1_36 (by decide) (hs_1 _) rfl rfl ?_
        refine zr_iload_n (pc := 62) C dX1_choose_62 2 rfl ?_
        refine zr_aload_n (pc := 63) C dX1_choose_63 1 rfl ?_
        refine zr_get (v := .ref (g.2.2.1 7)) (pc := 64) C 1 (some (some 7)) dX1_choose_64 fX1_11 (by decide) (hs_1 _) rfl rfl ?_
        refine zr_iload_n (pc := 67) C dX1_choose_67 3 rfl ?_
        refine zr_aaload (pc := 68) C dX1_choose_68 (by decide) (hs_7 _) (by decide) (by omega) (by decide) ?_
        show zw_W g mX1_choose k 69 [(3, zv_i (bk_p σ n p a)), (0, .ref (g.2.2.1 1)), (1, zv_i p), (2, zv_i a)] [.ref (g.2.2.1 (8 + 2 * a.toNat)), zv_i p, .ref (g.2.2.1 20), zv_i (bk_p σ n p a)] σ
        refine zr_get (v := zv_i (σ (8 + 2 * a.toNat) 0)) (pc := 69) C 0 none dX1_choose_69 fX1_58 (hn_kind (by omega)) (hs_kind (by omega)) rfl rfl ?_
        refine zr_iadd (pc := 72) C dX1_choose_72 ?_
        refine zr_iconst (pc := 73) C dX1_choose_73 ?_
        refine zr_iadd (pc := 74) C dX1_choose_74 ?_
        refine zr_iaload (pc := 75) C dX1_choose_75 (by decide) (hs_20 _) (by omega) (by omega) ?_
        refine zr_iadd (pc := 76) C dX1_choose_76 ?_
        refine zr_istore (L' := [(4, zv_i ((bk_p σ n p a) + (σ 20 ((p + (σ (8 + 2 * a.toNat) 0)) + 1)))), (3, zv_i (bk_p σ n p a)), (0, .ref (g.2.2.1 1)), (1, zv_i p), (2, zv_i a)]) (pc := 77) C dX1_choose_77 (by decide) rfl ?_
        refine zr_iload (pc := 79) C dX1_choose_79 0 rfl ?_
        refine zr_aload_n (pc := 81) C dX1_choose_81 2 rfl ?_
        refine zr_get (v := .ref (g.2.2.1 20)) (pc := 82) C 2 (some (some 20)) dX1_choose_82 fX1_36 (by decide) (hs_1 _) rfl rfl ?_
        refine zr_iload_n (pc := 85) C dX1_choose_85 3 rfl ?_
        refine zr_iaload (pc := 86) C dX1_choose_86 (by decide) (hs_20 _) (by omega) (by omega) ?_
        refine zr_icmp_le (pc := 87) C 105 dX1_choose_87 (by decide) (by rw [e20] at *; omega) (by rw [hb]; omega) (fun h_3 => ?_) (fun h_3 => ?_)
        · 
          refine zr_iinc (L' := [(2, zv_i (a + 1)), (4, zv_i ((bk_p σ n p a) + (σ 20 ((p + (σ (8 + 2 * a.toNat) 0)) + 1)))), (3, zv_i (bk_p σ n p a)), (0, .ref (g.2.2.1 1)), (1, zv_i p)]) (pc := 105) C dX1_choose_105 4 rfl (by decide) rfl ?_
          refine zr_goto (pc := 108) C 31 dX1_choose_108 (by decide) ?_
          have hne : ¬ (bk_a σ0 n p a ∧ (bk_f σ0 n p (σ0 20) a.toNat).1 < bk_v σ0 p a + σ0 20 (p + bk_n σ0 a + 1)) := fun z => by
            have z2 := z.2
            rw [en1, ← e20, ← epv, ← hb] at z2
            omega
          refine zr_sub [3, 4, 0] rfl ?_
          exact ih σ (a + 1) (by omega) (by omega) fr h20 h21 (by rw [bk_fni (by omega) hne]; exact hb) (by rw [bk_fni (by omega) hne]; exact hc) hl
        · 
          refine zr_aload_n (pc := 90) C dX1_choose_90 2 rfl ?_
          refine zr_get (v := .ref (g.2.2.1 20)) (pc := 91) C 2 (some (some 20)) dX1_choose_91 fX1_36 (by decide) (hs_1 _) rfl rfl ?_
          refine zr_iload_n (pc := 94) C dX1_choose_94 3 rfl ?_
          refine zr_iload (pc := 95) C dX1_choose_95 0 rfl ?_
          refine zr_iastore (pc := 97) C dX1_choose_97 (by decide) (hs_20 _) (by omega) (by omega) (fun τ_4 e_5 => ?_)
          refine zr_aload_n (pc := 98) C dX1_choose_98 2 rfl ?_
          refine zr_get (v := .ref (g.2.2.1 21)) (pc := 99) C 3 (some (some 21)) dX1_choose_99 fX1_40 (by decide) (hs_1 _) rfl rfl ?_
          refine zr_iload_n (pc := 102) C dX1_choose_102 3 rfl ?_
          refine zr_iload_n (pc := 103) C dX1_choose_103 4 rfl ?_
          refine zr_iastore (pc := 104) C dX1_choose_104 (by decide) (hs_21 _) (by omega) (by omega) (fun τ_6 e_7 => ?_)
          refine zr_iinc (L' := [(2, zv_i (a + 1)), (4, zv_i ((bk_p σ n p a) + (σ 20 ((p + (σ (8 + 2 * a.toNat) 0)) + 1)))), (3, zv_i (bk_p σ n p a)), (0, .ref (g.2.2.1 1)), (1, zv_i p)]) (pc := 105) C dX1_choose_105 4 rfl (by decide) rfl ?_
          refine zr_goto (pc := 108) C 31 dX1_choose_108 (by decide) ?_
          have hy : bk_f σ0 n p (σ0 20) (a + 1).toNat = (bk_p σ n p a + σ 20 (p + σ (8 + 2 * a.toNat) 0 + 1), a) := by
            rw [bk_fyi (by omega) ha (by rw [en1, ← e20, ← epv, ← hb]; omega), en1, ← e20, ← epv]
          refine zr_sub [3, 4, 0] rfl ?_
          exact ih τ_6 (a + 1) (by omega) (by omega) (zf_p (zf_p fr e_5 (by decide)) e_7 (by decide)) (fun x hx => by rw [e_7, zs_put_ne (by decide), e_5, zs_put_off hx]; exact h20 x hx) (fun x hx => by rw [e_7, zs_put_off hx, e_5, zs_put_ne (by decide)]; exact h21 x hx) (by rw [hy, e_7, zs_put_ne (by decide), e_5, zs_put_self]) (by rw [hy, e_7, zs_put_self]) (fun j h1 h2 => by
            have q1 : ∀ c, c ≠ 20 → c ≠ 21 → τ_6 c = σ c := fun c x y => funext fun i => by rw [e_7, zs_put_ne y, e_5, zs_put_ne x]
            rw [q1 5 (by decide) (by decide), q1 6 (by decide) (by decide), q1 3 (by decide) (by decide), q1 4 (by decide) (by decide)]
            exact hl j h1 h2)
      · 
        refine zr_goto (pc := 54) C 105 dX1_choose_54 (by decide) ?_
        refine zr_iinc (L' := [(2, zv_i (a + 1)), (3, zv_i (bk_p σ n p a)), (0, .ref (g.2.2.1 1)), (1, zv_i p)]) (pc := 105) C dX1_choose_105 3 rfl (by decide) rfl ?_
        refine zr_goto (pc := 108) C 31 dX1_choose_108 (by decide) ?_
        refine zr_sub [2, 3, 0] rfl ?_
        exact ih σ (a + 1) (by omega) (by omega) fr h20 h21 (by rw [bk_fni (by omega) (fun z => bk_pz hS1 hK1 ⟨by omega, by omega⟩ (by omega) h_2 (ea.mpr z.1))]; exact hb) (by rw [bk_fni (by omega) (fun z => bk_pz hS1 hK1 ⟨by omega, by omega⟩ (by omega) h_2 (ea.mpr z.1))]; exact hc) hl

set_option maxRecDepth 20000 in
set_option maxHeartbeats 4000000 in
theorem m_choose (g : zg_G) (σ : zs_S) (n : Int) (hg : (g.2.2.2 : Int) = n) (p : Int) (hS : ks_s σ n) (hK : ks_k σ) (hp : 0 ≤ p ∧ p ≤ n) (hB : bk_b n p (σ 20)) : zm_Met g mX1_choose σ [.ref (g.2.2.1 1), zv_i p] (fun v τ => v = none ∧ zf_x σ τ [5, 6, 20, 21] ∧ (∀ x, x ≠ p → τ 20 x = σ 20 x) ∧ (∀ x, x ≠ p → τ 21 x = σ 21 x) ∧ τ 20 p = (bk_f σ n p (σ 20) 6).1 ∧ τ 21 p = (bk_f σ n p (σ 20) 6).2) := by
  refine zm_of (by decide +kernel) (Nat.le_of_ble_eq_true rfl) ?_
  intro k C hr
  show zw_W g mX1_choose k 0 [(0, .ref (g.2.2.1 1)), (1, zv_i p)] [] σ
  obtain ⟨hn1, hn2, hlast, hd, hgd⟩ := id hS
  refine zr_aload_n (pc := 0) C dX1_choose_0 0 rfl ?_
  refine zr_get (v := .ref (g.2.2.1 2)) (pc := 1) C 0 (some (some 2)) dX1_choose_1 fX1_32 (by decide) (hs_1 _) rfl rfl ?_
  refine zr_iload_n (pc := 4) C dX1_choose_4 1 rfl ?_
  refine zr_callV (As := [zv_i p]) (rest := []) (b := 2) (pc := 5) C dX1_choose_5 kX9_lookFrom vX1_65 rfl (by decide) (by decide) (hs_2 _) rfl (Nat.le_of_ble_eq_true rfl) (m_look g σ n hg p (by exact hS) (by exact hp)) (fun v_ τ_ h_ => ?_)
  obtain ⟨rfl, h_2⟩ := h_
  generalize τ_ = τ_1 at h_2 ⊢
  show zw_W g mX1_choose k 8 [(0, .ref (g.2.2.1 1)), (1, zv_i p)] [] τ_1
  refine zr_aload_n (pc := 8) C dX1_choose_8 0 rfl ?_
  refine zr_get (v := .ref (g.2.2.1 20)) (pc := 9) C 2 (some (some 20)) dX1_choose_9 fX1_36 (by decide) (hs_1 _) rfl rfl ?_
  refine zr_iload_n (pc := 12) C dX1_choose_12 1 rfl ?_
  refine zr_aload_n (pc := 13) C dX1_choose_13 0 rfl ?_
  refine zr_get (v := .ref (g.2.2.1 20)) (pc := 14) C 2 (some (some 20)) dX1_choose_14 fX1_36 (by decide) (hs_1 _) rfl rfl ?_
  refine zr_iload_n (pc := 17) C dX1_choose_17 1 rfl ?_
  refine zr_iconst (pc := 18) C dX1_choose_18 ?_
  refine zr_iadd (pc := 19) C dX1_choose_19 ?_
  refine zr_iaload (pc := 20) C dX1_choose_20 (by decide) (hs_20 _) (by omega) (by omega) ?_
  refine zr_iastore (pc := 21) C dX1_choose_21 (by decide) (hs_20 _) (by omega) (by omega) (fun τ_3 e_4 => ?_)
  refine zr_aload_n (pc := 22) C dX1_choose_22 0 rfl ?_
  refine zr_get (v := .ref (g.2.2.1 21)) (pc := 23) C 3 (some (some 21)) dX1_choose_23 fX1_40 (by decide) (hs_1 _) rfl rfl ?_
  refine zr_iload_n (pc := 26) C dX1_choose_26 1 rfl ?_
  refine zr_iconst (pc := 27) C dX1_choose_27 ?_
  refine zr_iastore (pc := 28) C dX1_choose_28 (by decide) (hs_21 _) (by omega) (by omega) (fun τ_5 e_6 => ?_)
  refine zr_iconst (pc := 29) C dX1_choose_29 ?_
  refine zr_istore_n (L' := [(2, zv_i 0), (0, .ref (g.2.2.1 1)), (1, zv_i p)]) (pc := 30) C dX1_choose_30 (by decide) rfl ?_
  refine zr_sub [1, 2, 0] rfl ?_
  have q1 : ∀ c, c ≠ 20 → c ≠ 21 → τ_5 c = τ_1 c := fun c x y => funext fun i => by rw [e_6, zs_put_ne y, e_4, zs_put_ne x]
  exact l_choose C hr n hg p σ hS hK hp hB (fun τ h1 h2 h3 h4 h5 => ⟨rfl, h1, h2, h3, h4, h5⟩) 7 τ_5 0 (by omega) (by omega) (zf_p (zf_p (zf_w h_2.1 (by simp)) e_4 (by decide)) e_6 (by decide)) (fun x hx => by rw [e_6, zs_put_ne (by decide), e_4, zs_put_off hx, h_2.1 20 (by decide)]) (fun x hx => by rw [e_6, zs_put_off hx, e_4, zs_put_ne (by decide), h_2.1 21 (by decide)]) (by rw [e_6, zs_put_ne (by decide), e_4, zs_put_self, h_2.1 20 (by decide)]; rfl) (by rw [e_6, zs_put_self]; rfl) (fun j h1 h2 => by
    rw [q1 5 (by decide) (by decide), q1 6 (by decide) (by decide), q1 3 (by decide) (by decide), q1 4 (by decide) (by decide)]
    exact h_2.2 j h1 h2)
end
section
/-- the logs l of a cutting: each allowed, on the stem, ahead of e -/
def bk_W (σ : zs_S) (n e : Int) (l : List (Int × Int)) : Prop := ∀ z ∈ l, z.1 < e ∧ 0 ≤ z.1 ∧ (0 ≤ z.2 ∧ z.2 < 6) ∧ bk_a σ n z.1 z.2
/-- what the best cutting leaves: its logs l in the Cutting q, which is the bucked one then -/
def bk_O (σ τ : zs_S) (n : Int) (q b : Nat) (B K : Int → Int) (l : List (Int × Int)) (r : Int) : Prop := bk_z σ n B K ∧ bk_D σ K l 0 (n + 1) ∧ bk_W σ n (n + 1) l ∧ r = B 0 ∧ τ q 0 = l.length ∧ (l.length : Int) ≤ 40 ∧ bk_R σ (τ (q + 1)) l ∧ τ 1 4 = q ∧ τ 1 5 = b ∧ τ 20 (n + 1) = 0 ∧ zf_x σ τ [1, 5, 6, 20, 21, q, q + 1]
theorem bk_We {σ : zs_S} {n e f : Int} {l : List (Int × Int)} (h : bk_W σ n e l) (hf : e ≤ f) : bk_W σ n f l := fun z hz => by
  obtain ⟨a, b⟩ := h z hz
  exact ⟨by omega, b⟩
theorem bk_Wa {σ : zs_S} {n e f p j : Int} {l : List (Int × Int)} (h : bk_W σ n e l) (hf : e ≤ f) (h1 : p < f ∧ 0 ≤ p ∧ (0 ≤ j ∧ j < 6) ∧ bk_a σ n p j) : bk_W σ n f (l ++ [(p, j)]) := fun z hz => by
  rcases List.mem_append.mp hz with q | q
  · exact bk_We h hf z q
  · rw [List.mem_singleton.mp q]
    exact h1
end
section
set_option maxRecDepth 20000 in
set_option maxHeartbeats 4000000 in
theorem l_cut1 {g : zg_G} {k : zk_T} {Q : Option Value → zs_S → Prop} (C : zk_ok g mX1_cutBest k) (hr : zk_ret g mX1_cutBest Q k) (n : Int) (hg : (g.2.2.2 : Int) = n) (σ0 : zs_S) (hS : ks_s σ0 n) (hK : ks_k σ0) (hex : ∀ τ, zf_x σ0 τ [5, 6, 20, 21] → bk_z σ0 n (τ 20) (τ 21) → zw_W g mX1_cutBest k 23 [(0, .ref (g.2.2.1 1))] [] τ) : ∀ (N : Nat) (σ : zs_S) (p : Int), (p + 1).toNat < N → (-1 ≤ p ∧ p ≤ n) → (zf_x σ0 σ [5, 6, 20, 21]) → (σ 20 (n + 1) = 0) → (∀ x, p < x → x ≤ n → (σ 20 x = (bk_f σ0 n x (σ 20) 6).1 ∧ σ 21 x = (bk_f σ0 n x (σ 20) 6).2) ∧ (0 ≤ σ 20 x ∧ σ 20 x ≤ (n + 1 - x) * 1000000)) → zw_W g mX1_cutBest k 8 [(0, .ref (g.2.2.1 1)), (1, zv_i p)] [] σ := by
  intro N
  induction N with
  | zero =>
    intro σ p hN
    exact absurd hN (by omega)
  | succ N ih =>
    intro σ p hN hp fr h0 hz
    obtain ⟨hn1, hn2, hlast, hd, hgd⟩ := id hS
    have hS1 : ks_s σ n := ks_sx hS (fun i => fr 2 (by decide) i) (fun i => fr 3 (by decide) i) (fun i => fr 4 (by decide) i)
    have hK1 : ks_k σ := ks_kx hK (fun c h1 h2 i => fr c (by simp; omega) i)
    have hB1 : bk_b n p (σ 20) := fun x y1 y2 => by
      rcases (show x ≤ n ∨ x = n + 1 by omega) with y | y
      · exact (hz x y1 y).2
      · rw [y, h0]; omega
    refine zr_iload_n (pc := 8) C dX1_cutBest_8 1 rfl ?_
    refine zr_if_lt (pc := 9) C 23 dX1_cutBest_9 (by decide) (by omega) (fun h_1 => ?_) (fun h_1 => ?_)
    · refine zr_sub [0] rfl ?_
      exact hex σ fr ⟨h0, fun x y1 y2 => hz x (by omega) y2⟩
    · refine zr_aload_n (pc := 12) C dX1_cutBest_12 0 rfl ?_
      refine zr_iload_n (pc := 13) C dX1_cutBest_13 1 rfl ?_
      refine zr_callV (As := [zv_i p]) (rest := []) (b := 1) (pc := 14) C dX1_cutBest_14 kX1_choose vX1_48 rfl (by decide) (by decide) (hs_1 _) rfl (Nat.le_of_ble_eq_true rfl) (m_choose g σ n hg p (by exact hS1) (by exact hK1) (by omega) (by exact hB1)) (fun v_ τ_ h_ => ?_)
      obtain ⟨rfl, h_3⟩ := h_
      generalize τ_ = τ_2 at h_3 ⊢
      show zw_W g mX1_cutBest k 17 [(0, .ref (g.2.2.1 1)), (1, zv_i p)] [] τ_2
      refine zr_iinc (L' := [(1, zv_i (p + (-1))), (0, .ref (g.2.2.1 1))]) (pc := 17) C dX1_cutBest_17 1 rfl (by decide) rfl ?_
      refine zr_goto (pc := 20) C 8 dX1_cutBest_20 (by decide) ?_
      refine zr_sub [1, 0] rfl ?_
      obtain ⟨fz, a20, a21, b20, b21⟩ := h_3
      have fb := bk_fb hS1 hK1 (p := p) (by omega) hB1 6 (by omega)
      have ec : bk_f σ n p (σ 20) 6 = bk_f σ0 n p (τ_2 20) 6 := bk_fc (fun i => fr 3 (by decide) i) (fun i => fr 4 (by decide) i) (fun c y1 y2 i => fr c (by simp; omega) i) hp.2 (fun x y1 y2 => (a20 x (by omega)).symm) 6 (by omega)
      exact ih τ_2 (p + (-1)) (by omega) (by omega) (zf_t fr fz (by simp) (by simp)) (by rw [a20 _ (by omega)]; exact h0) (fun x y1 y2 => by
        rcases (show x = p ∨ p < x by omega) with y | y
        · rw [y, b20, b21, ← ec]
          exact ⟨⟨rfl, rfl⟩, fb.1⟩
        · have e2 : bk_f σ0 n x (τ_2 20) 6 = bk_f σ0 n x (σ 20) 6 := bk_fc (fun _ => rfl) (fun _ => rfl) (fun _ _ _ _ => rfl) y2 (fun z z1 z2 => a20 z (by omega)) 6 (by omega)
          rw [a20 x (by omega), a21 x (by omega), e2]
          exact hz x y y2)

set_option maxRecDepth 20000 in
set_option maxHeartbeats 4000000 in
theorem l_cut2 {g : zg_G} {k : zk_T} {Q : Option Value → zs_S → Prop} (C : zk_ok g mX1_cutBest k) (hr : zk_ret g mX1_cutBest Q k) (n : Int) (hg : (g.2.2.2 : Int) = n) (q b : Nat) (hq : zs_q q) (hb : zs_q b) (hqb : q ≠ b) (σ0 : zs_S) (hS : ks_s σ0 n) (hK : ks_k σ0) (B K : Int → Int) (hz : bk_z σ0 n B K) (hb4 : σ0 1 4 = b) (hs5 : σ0 1 5 = q) (hQ : ∀ r τ l, bk_O σ0 τ n q b B K l r → Q (some (zv_i r)) τ) : ∀ (N : Nat) (σ : zs_S) (l : List (Int × Int)) (e x f : Int), (n + 1 - x).toNat < N → ((0 ≤ x ∧ x ≤ n + 1) ∧ (0 ≤ f ∧ f ≤ n + 1)) → (e = max x f) → (zf_x σ0 σ [5, 6, 20, 21, q, q + 1]) → (∀ y, σ 20 y = B y) → (∀ y, σ 21 y = K y) → (bk_D σ0 K l 0 e) → (σ q 0 = l.length) → (σ q 1 + B e = B 0) → (bk_R σ0 (σ (q + 1)) l) → (2 * (l.length : Int) ≤ e) → (bk_W σ0 n e l) → zw_W g mX1_cutBest k 34 [(0, .ref (g.2.2.1 1)), (1, zv_i f), (2, zv_i x)] [] σ := by
  intro N
  induction N with
  | zero =>
    intro σ l e x f hN
    exact absurd hN (by omega)
  | succ N ih =>
    intro σ l e x f hN hx he fr hB hKK hD hc hv hR h2 hW
    obtain ⟨hn1, hn2, hlast, hd, hgd⟩ := id hS
    have hS1 : ks_s σ n := ks_sx hS (fun i => fr 2 (by simp; omega) i) (fun i => fr 3 (by simp; omega) i) (fun i => fr 4 (by simp; omega) i)
    have hK1 : ks_k σ := ks_kx hK (fun c h1 h2 i => fr c (by simp; omega) i)
    have e1 : σ 2 0 = n := (fr 2 (by simp; omega) 0).trans hlast
    refine zr_iload_n (pc := 34) C dX1_cutBest_34 2 rfl ?_
    refine zr_aload_n (pc := 35) C dX1_cutBest_35 0 rfl ?_
    refine zr_get (v := .ref (g.2.2.1 2)) (pc := 36) C 0 (some (some 2)) dX1_cutBest_36 fX1_32 (by decide) (hs_1 _) rfl rfl ?_
    refine zr_get (v := zv_i (σ 2 0)) (pc := 39) C 0 none dX1_cutBest_39 fX1_44 (by decide) (hs_2 _) rfl rfl ?_
    refine zr_icmp_gt (pc := 42) C 99 dX1_cutBest_42 (by decide) (by omega) (by omega) (fun h_1 => ?_) (fun h_1 => ?_)
    · refine zr_aload_n (pc := 99) C dX1_cutBest_99 0 rfl ?_
      refine zr_callV (As := []) (rest := []) (b := 1) (pc := 100) C dX1_cutBest_100 kX1_keepSpare vX1_61 rfl (by decide) (by decide) (hs_1 _) rfl (Nat.le_of_ble_eq_true rfl) (m_keepSpare g σ b q hb hq (by rw [fr 1 (by simp; omega) 4]; exact hb4) (by rw [fr 1 (by simp; omega) 5]; exact hs5)) (fun v_ τ_ h_ => ?_)
      obtain ⟨rfl, h_3⟩ := h_
      generalize τ_ = τ_2 at h_3 ⊢
      show zw_W g mX1_cutBest k 103 [(0, .ref (g.2.2.1 1)), (1, zv_i f), (2, zv_i x)] [zv_i (σ q 1)] τ_2
      exact zr_iret (pc := 103) C hr dX1_cutBest_103 rfl (hQ _ τ_2 l (by
              have e0 : e = n + 1 := by omega
              rw [e0] at hv hD hW h2
              rw [hz.1] at hv
              obtain ⟨k1, k2, k3⟩ := h_3
              exact ⟨hz, hD, hW, by omega, by rw [k3 q (by simp; omega) 0]; exact hc, by omega, by rw [show τ_2 (q + 1) = σ (q + 1) from funext fun y => k3 (q + 1) (by simp; omega) y]; exact hR, k1, k2, by rw [k3 20 (by decide), hB]; exact hz.1, zf_t fr k3 (by simp) (by simp)⟩))
    · refine zr_iload_n (pc := 45) C dX1_cutBest_45 2 rfl ?_
      refine zr_iload_n (pc := 46) C dX1_cutBest_46 1 rfl ?_
      refine zr_icmp_lt (pc := 47) C 93 dX1_cutBest_47 (by decide) (by omega) (by omega) (fun h_5 => ?_) (fun h_5 => ?_)
      · 
        refine zr_iinc (L' := [(2, zv_i (x + 1)), (0, .ref (g.2.2.1 1)), (1, zv_i f)]) (pc := 93) C dX1_cutBest_93 2 rfl (by decide) rfl ?_
        refine zr_goto (pc := 96) C 34 dX1_cutBest_96 (by decide) ?_
        refine zr_sub [1, 2, 0] rfl ?_
        exact ih σ l e (x + 1) f (by omega) (by omega) (by omega) fr hB hKK hD hc hv hR h2 hW
      · have zrx := hz.2 x (by omega) (by omega)
        have kb := bk_fb hS hK (p := x) (by omega) (B := B) (fun y y1 y2 => by
          rcases (show y ≤ n ∨ y = n + 1 by omega) with z | z
          · exact (hz.2 y (by omega) z).2
          · rw [z, hz.1]; omega) 6 (by omega)
        have hkx0 : σ 21 x = K x := hKK x
        have kb2 := kb.2
        rw [← zrx.1.2] at kb2
        refine zr_aload_n (pc := 50) C dX1_cutBest_50 0 rfl ?_
        refine zr_get (v := .ref (g.2.2.1 21)) (pc := 51) C 3 (some (some 21)) dX1_cutBest_51 fX1_40 (by decide) (hs_1 _) rfl rfl ?_
        refine zr_iload_n (pc := 54) C dX1_cutBest_54 2 rfl ?_
        refine zr_iaload (pc := 55) C dX1_cutBest_55 (by decide) (hs_21 _) (by omega) (by omega) ?_
        refine zr_iconst (pc := 56) C dX1_cutBest_56 ?_
        refine zr_icmp_eq (pc := 57) C 93 dX1_cutBest_57 (by decide) (by omega) (by omega) (fun h_6 => ?_) (fun h_6 => ?_)
        · 
          refine zr_iinc (L' := [(2, zv_i (x + 1)), (0, .ref (g.2.2.1 1)), (1, zv_i f)]) (pc := 93) C dX1_cutBest_93 2 rfl (by decide) rfl ?_
          refine zr_goto (pc := 96) C 34 dX1_cutBest_96 (by decide) ?_
          have hk : K x = -1 := by rw [← hKK x]; exact h_6
          refine zr_sub [1, 2, 0] rfl ?_
          have e0 : e = x := by omega
          subst e0
          obtain ⟨⟨zb, zk⟩, zr⟩ := hz.2 e (by omega) (by omega)
          have hB2 : B e = B (e + 1) := by
            obtain ⟨-, -, h | h⟩ := bk_fs (σ := σ0) (n := n) (p := e) (B := B) 6
            · rw [zb]; exact h.2
            · have := h.1; omega
          exact ih σ l (e + 1) (e + 1) f (by omega) (by omega) (by omega) fr hB hKK (bk_Dn hD hk) hc (by rw [← hB2]; exact hv) hR (by omega) (bk_We hW (by omega))
        · have e0 : e = x := by omega
          obtain ⟨⟨zb, zk⟩, zr⟩ := hz.2 x (by omega) (by omega)
          have hkx : σ 21 x = K x := hKK x
          obtain ⟨-, -, hfs | ⟨f1, f2, ha, f4, -, -⟩⟩ := bk_fs (σ := σ0) (n := n) (p := x) (B := B) 6
          · exact absurd hfs.1 (by omega)
          rw [← zk] at f1 f2 ha f4
          rw [← zb] at f4
          have f2 : K x < 6 := f2
          obtain ⟨-, en, ett, egg⟩ := bk_pc (n := n) (p := x) (j := K x) (σ := σ0) (τ := σ) (fun i => fr 3 (by simp; omega) i) (fun i => fr 4 (by simp; omega) i) ⟨by omega, by omega⟩ (fun c h1 h2 i => fr c (by simp; omega) i)
          obtain ⟨eaa, evv⟩ := bk_ac (n := n) (p := x) (j := K x) (σ := σ0) (τ := σ) (fun i => fr 3 (by simp; omega) i) (fun i => fr 4 (by simp; omega) i) ⟨by omega, by omega⟩ (fun c h1 h2 i => fr c (by simp; omega) i)
          have hBe : B x = bk_v σ0 x (K x) + B (x + bk_n σ0 (K x) + 1) := f4
          have ha1 : bk_a σ n x (σ 21 x) := by rw [hkx]; exact eaa.mpr ha
          have l1 : 0 < bk_n σ0 (K x) := ha.1
          have l2 : x + bk_n σ0 (K x) ≤ n := ha.2.1
          refine zr_aload_n (pc := 60) C dX1_cutBest_60 0 rfl ?_
          refine zr_aload_n (pc := 61) C dX1_cutBest_61 0 rfl ?_
          refine zr_get (v := .ref (g.2.2.1 21)) (pc := 62) C 3 (some (some 21)) dX1_cutBest_62 fX1_40 (by decide) (hs_1 _) rfl rfl ?_
          refine zr_iload_n (pc := 65) C dX1_cutBest_65 2 rfl ?_
          refine zr_iaload (pc := 66) C dX1_cutBest_66 (by decide) (hs_21 _) (by omega) (by omega) ?_
          refine zr_iload_n (pc := 67) C dX1_cutBest_67 2 rfl ?_
          refine zr_callV (As := [zv_i (σ 21 x), zv_i x]) (rest := []) (b := 1) (pc := 68) C dX1_cutBest_68 kX1_addLog vX1_54 rfl (by decide) (by decide) (hs_1 _) rfl (Nat.le_of_ble_eq_true rfl) (m_addLog g σ n hg q hq (σ 21 x) x (l.length) (by omega) (by omega) (by exact hS1) (by exact hK1) (by rw [fr 1 (by simp; omega) 5]; exact hs5) (by exact hc) (by refine ⟨by omega, fun _ => ?_⟩; omega)) (fun v_ τ_ h_ => ?_)
          obtain ⟨rfl, h_8⟩ := h_
          generalize τ_ = τ_7 at h_8 ⊢
          show zw_W g mX1_cutBest k 71 [(0, .ref (g.2.2.1 1)), (1, zv_i f), (2, zv_i x)] [zv_i (zi_b (bk_a σ n x (σ 21 x)))] τ_7
          refine zr_if_eq_b (pc := 71) C 93 dX1_cutBest_71 (by decide) (fun h_9 => ?_) (fun h_9 => ?_)
          · exact absurd ha1 h_9
          · have ek : τ_7 21 x = K x := (h_8.1 21 (by simp; omega) x).trans hkx
            refine zr_iload_n (pc := 74) C dX1_cutBest_74 2 rfl ?_
            refine zr_aload_n (pc := 75) C dX1_cutBest_75 0 rfl ?_
            refine zr_get (v := .ref (g.2.2.1 7)) (pc := 76) C 1 (some (some 7)) dX1_cutBest_76 fX1_11 (by decide) (hs_1 _) rfl rfl ?_
            refine zr_aload_n (pc := 79) C dX1_cutBest_79 0 rfl ?_
            refine zr_get (v := .ref (g.2.2.1 21)) (pc := 80) C 3 (some (some 21)) dX1_cutBest_80 fX1_40 (by decide) (hs_1 _) rfl rfl ?_
            refine zr_iload_n (pc := 83) C dX1_cutBest_83 2 rfl ?_
            refine zr_iaload (pc := 84) C dX1_cutBest_84 (by decide) (hs_21 _) (by omega) (by omega) ?_
            refine zr_aaload (pc := 85) C dX1_cutBest_85 (by decide) (hs_7 _) (by decide) (by omega) (by decide) ?_
            show zw_W g mX1_cutBest k 86 [(0, .ref (g.2.2.1 1)), (1, zv_i f), (2, zv_i x)] [.ref (g.2.2.1 (8 + 2 * ((τ_7 21 x)).toNat)), zv_i x] τ_7
            refine zr_get (v := zv_i (τ_7 (8 + 2 * ((τ_7 21 x)).toNat) 0)) (pc := 86) C 0 none dX1_cutBest_86 fX1_58 (hn_kind (by omega)) (hs_kind (by omega)) rfl rfl ?_
            refine zr_iadd (pc := 89) C dX1_cutBest_89 ?_
            refine zr_iconst (pc := 90) C dX1_cutBest_90 ?_
            refine zr_iadd (pc := 91) C dX1_cutBest_91 ?_
            refine zr_istore_n (L' := [(1, zv_i ((x + (τ_7 (8 + 2 * ((τ_7 21 x)).toNat) 0)) + 1)), (0, .ref (g.2.2.1 1)), (2, zv_i x)]) (pc := 92) C dX1_cutBest_92 (by decide) rfl ?_
            refine zr_iinc (L' := [(2, zv_i (x + 1)), (1, zv_i ((x + (τ_7 (8 + 2 * ((τ_7 21 x)).toNat) 0)) + 1)), (0, .ref (g.2.2.1 1))]) (pc := 93) C dX1_cutBest_93 2 rfl (by decide) rfl ?_
            refine zr_goto (pc := 96) C 34 dX1_cutBest_96 (by decide) ?_
            obtain ⟨fz, -, hyes⟩ := h_8
            obtain ⟨c1, c2, c3, c4⟩ := hyes ha1
            have hlen : τ_7 (8 + 2 * (τ_7 21 x).toNat) 0 = bk_n σ0 (K x) := by
              rw [ek]
              exact (fz _ (by simp; omega) 0).trans (fr _ (by simp; omega) 0)
            have l1 : 0 < bk_n σ0 (K x) := ha.1
            have l2 : x + bk_n σ0 (K x) ≤ n := ha.2.1
            refine zr_sub [2, 1, 0] rfl ?_
            rw [hlen]
            have e0 : e = x := by omega
            subst e0
            exact ih τ_7 (l ++ [(e, K e)]) (e + bk_n σ0 (K e) + 1) (e + 1) (e + bk_n σ0 (K e) + 1) (by omega) (by omega) (by omega) (zf_t fr fz (by simp) (by simp)) (fun y => by rw [fz 20 (by simp; omega)]; exact hB y) (fun y => by rw [fz 21 (by simp; omega)]; exact hKK y) (bk_Dy hD (by omega)) (by rw [c1, List.length_append]; simp) (by rw [c2, hKK e, evv]; omega) (bk_Ra hR (fun j y1 y2 => c3 j y2) (by
              obtain ⟨z0, z1, z2, z3, z4, z5⟩ := c4
              exact ⟨z0, by rw [z1]; exact hKK e, by rw [z2, hKK e, ett], by rw [z3, hKK e, ett], by rw [z4, hKK e, egg], by rw [z5, hKK e, evv]⟩)) (by rw [List.length_append]; simp; omega) (bk_Wa hW (by omega) ⟨by omega, by omega, ⟨by omega, by omega⟩, ha⟩)

set_option maxRecDepth 20000 in
set_option maxHeartbeats 4000000 in
theorem m_cutBest (g : zg_G) (σ : zs_S) (n : Int) (hg : (g.2.2.2 : Int) = n) (q b : Nat) (hq : zs_q q) (hb : zs_q b) (hqb : q ≠ b) (hS : ks_s σ n) (hK : ks_k σ) (hb4 : σ 1 4 = b) (hs5 : σ 1 5 = q) (h20 : σ 20 (n + 1) = 0) : zm_Met g mX1_cutBest σ [.ref (g.2.2.1 1)] (fun v τ => ∃ r B K l, v = some (zv_i r) ∧ bk_O σ τ n q b B K l r) := by
  refine zm_of (by decide +kernel) (Nat.le_of_ble_eq_true rfl) ?_
  intro k C hr
  show zw_W g mX1_cutBest k 0 [(0, .ref (g.2.2.1 1))] [] σ
  obtain ⟨hn1, hn2, hlast, hd, hgd⟩ := id hS
  refine zr_aload_n (pc := 0) C dX1_cutBest_0 0 rfl ?_
  refine zr_get (v := .ref (g.2.2.1 2)) (pc := 1) C 0 (some (some 2)) dX1_cutBest_1 fX1_32 (by decide) (hs_1 _) rfl rfl ?_
  refine zr_get (v := zv_i (σ 2 0)) (pc := 4) C 0 none dX1_cutBest_4 fX1_44 (by decide) (hs_2 _) rfl rfl ?_
  refine zr_istore_n (L' := [(1, zv_i (σ 2 0)), (0, .ref (g.2.2.1 1))]) (pc := 7) C dX1_cutBest_7 (by decide) rfl ?_
  rw [hlast]
  refine zr_sub [1, 0] rfl ?_
  refine l_cut1 C hr n hg σ hS hK (fun τ fr hz => ?_) (n.toNat + 2) σ n (by omega) (by omega) (zf_r σ _) h20 (fun x y1 y2 => absurd y2 (by omega))
  refine zr_aload_n (pc := 23) C dX1_cutBest_23 0 rfl ?_
  refine zr_get (v := .ref (g.2.2.1 (τ 1 5).toNat)) (pc := 24) C 5 (some none) dX1_cutBest_24 fX1_24 (by decide) (hs_1 _) rfl rfl ?_
  rw [show τ 1 5 = (q : Int) from (fr 1 (by decide) 5).trans hs5]
  show zw_W g mX1_cutBest k 27 [(0, .ref (g.2.2.1 1))] [.ref (g.2.2.1 (q))] τ
  refine zr_callV (As := []) (rest := []) (b := q) (pc := 27) C dX1_cutBest_27 kX3_clear vX1_51 rfl (by decide) (hn_cut hq) (hs_cut hq) rfl (Nat.le_of_ble_eq_true rfl) (m_clear g τ q hq) (fun v_ τ_ h_ => ?_)
  obtain ⟨rfl, h_102⟩ := h_
  generalize τ_ = τ_101 at h_102 ⊢
  show zw_W g mX1_cutBest k 30 [(0, .ref (g.2.2.1 1))] [] τ_101
  refine zr_iconst (pc := 30) C dX1_cutBest_30 ?_
  refine zr_istore_n (L' := [(1, zv_i 0), (0, .ref (g.2.2.1 1))]) (pc := 31) C dX1_cutBest_31 (by decide) rfl ?_
  refine zr_iconst (pc := 32) C dX1_cutBest_32 ?_
  refine zr_istore_n (L' := [(2, zv_i 0), (1, zv_i 0), (0, .ref (g.2.2.1 1))]) (pc := 33) C dX1_cutBest_33 (by decide) rfl ?_
  refine zr_sub [2, 1, 0] rfl ?_
  obtain ⟨y1, y2, y3⟩ := h_102
  exact l_cut2 C hr n hg q b hq hb hqb σ hS hK (τ 20) (τ 21) hz hb4 hs5 (fun r υ l hO => ⟨r, _, _, l, rfl, hO⟩) (n.toNat + 2) τ_101 [] 0 0 0 (by omega) (by omega) (by omega) (zf_t fr y3 (by simp) (by simp)) (fun y => by rw [y3 20 (by simp; omega)]) (fun y => by rw [y3 21 (by simp; omega)]) ⟨Int.le_refl _, fun x y1 y2 => absurd y2 (by omega)⟩ (by rw [y1]; rfl) (by rw [y2]; omega) (fun i p j h => by simp at h) (by simp) (fun z hz => by simp at hz)
end
section
/-! THE MATHEMATICS OF THE CLASS, part E: a cutting by hand -/
/-- the byte of the word at a shift -/
def by_c (w : Int64) (s : Int) : Int := ((w.toUInt64 >>> ((zi_w s).toInt64.toUInt64 &&& Int64.toUInt64 63)).toInt64.toInt32 &&& zi_w 255).toInt
theorem by_b (w : Int64) (s : Int) : 0 ≤ by_c w s ∧ by_c w s ≤ 255 := by
  unfold by_c
  rw [pk_and _ 8 (by decide)]
  generalize ((w.toUInt64 >>> ((zi_w s).toInt64.toUInt64 &&& Int64.toUInt64 63)).toInt64.toInt32).toBitVec.toNat = x
  rw [nI_toInt (by omega)]
  omega
section ZBY
variable {g : zg_G} {M : zm_T} {k : zk_T} {pc : Nat} {L L' : List (Nat × Value)} {S : List Value} {σ : zs_S}
theorem zr_byte (C : zk_ok g M k) {w : Int64} {x : Int} (h1 : decode M.2.1 pc = .ok (.lushr, 1)) (h2 : decode M.2.1 (pc + 1) = .ok (.l2i, 1)) (h3 : decode M.2.1 (pc + 2) = .ok (.sipush 255, 3)) (h4 : decode M.2.1 (pc + 5) = .ok (.iand, 1))
    (K : zw_W g M k (pc + 6) L (zv_i (by_c w x) :: S) σ) : zw_W g M k pc L (zv_i x :: .long w :: S) σ := by
  obtain ⟨p, l, e, R, s, m, args, below, meth, c, cells, slots, Q, A⟩ := k
  obtain ⟨hx, hb, hml, hown, hts, hK, hA, hf1, hf2, hc1, hc2, hN⟩ := C
  intro H locs ls hP hS hl
  refine lv_lushr hx hb h1 rfl ?_
  refine lv_l2i hx hb h2 rfl ?_
  refine lv_sipush (v := zi_w 255) hx hb h3 (by decide) ?_
  refine lv_iand hx hb h4 ?_
  rw [zi_of ((w.toUInt64 >>> ((zi_w x).toInt64.toUInt64 &&& Int64.toUInt64 63)).toInt64.toInt32 &&& zi_w 255)]
  exact K H locs ls hP hS hl
theorem zr_byteM (C : zk_ok g M k) {w : Int64} {x : Int} {ix : Nat} (h1 : decode M.2.1 pc = .ok (.lushr, 1)) (h2 : decode M.2.1 (pc + 1) = .ok (.ldc2_w ix, 3)) (hw : Cond.constantLong M.1.cls ix 255 ∈ zt_W) (h3 : decode M.2.1 (pc + 4) = .ok (.land, 1)) (h4 : decode M.2.1 (pc + 5) = .ok (.l2i, 1))
    (K : zw_W g M k (pc + 6) L (zv_i (by_c w x) :: S) σ) : zw_W g M k pc L (zv_i x :: .long w :: S) σ := by
  obtain ⟨p, l, e, R, s, m, args, below, meth, c, cells, slots, Q, A⟩ := k
  obtain ⟨hx, hb, hml, hown, hts, hK, hA, hf1, hf2, hc1, hc2, hN⟩ := C
  intro H locs ls hP hS hl
  refine lv_lushr hx hb h1 rfl ?_
  refine lv_ldc2 hx hb hown (hts _ hw) h2 ?_
  refine lv_land hx hb h3 ?_
  refine lv_l2i (v := zi_w (by_c w x)) hx hb h4 ?_ (K H locs ls hP hS hl)
  rw [Int64.toInt32_and]
  exact zi_of _
end ZBY
/-- the logs that the first m bytes of the word tell, and where the next may begin; none where one isn't allowed -/
def by_f (σ : zs_S) (n : Int) (w : Int64) : Nat → Option (Int × List (Int × Int))
  | 0 => some (0, [])
  | m + 1 => match by_f σ n w m with
    | none => none
    | some (f, l) => if by_c w (8 * (m : Int)) = 0 then some (f, l) else if bk_a σ n (f + (by_c w (8 * (m : Int)) - 1) / 6) ((by_c w (8 * (m : Int)) - 1) % 6) then some (f + (by_c w (8 * (m : Int)) - 1) / 6 + bk_n σ ((by_c w (8 * (m : Int)) - 1) % 6) + 1, l ++ [(f + (by_c w (8 * (m : Int)) - 1) / 6, (by_c w (8 * (m : Int)) - 1) % 6)]) else none
theorem by_f0 {σ : zs_S} {n f : Int} {w : Int64} {l : List (Int × Int)} {m : Nat} (h : by_f σ n w m = some (f, l)) (hc : by_c w (8 * (m : Int)) = 0) : by_f σ n w (m + 1) = some (f, l) := by
  simp only [by_f, h, hc]
  rfl
theorem by_fy {σ : zs_S} {n f : Int} {w : Int64} {l : List (Int × Int)} {m : Nat} (h : by_f σ n w m = some (f, l)) (hc : ¬ by_c w (8 * (m : Int)) = 0) (ha : bk_a σ n (f + (by_c w (8 * (m : Int)) - 1) / 6) ((by_c w (8 * (m : Int)) - 1) % 6)) : by_f σ n w (m + 1) = some (f + (by_c w (8 * (m : Int)) - 1) / 6 + bk_n σ ((by_c w (8 * (m : Int)) - 1) % 6) + 1, l ++ [(f + (by_c w (8 * (m : Int)) - 1) / 6, (by_c w (8 * (m : Int)) - 1) % 6)]) := by
  rw [by_f, h]
  simp only []
  rw [if_neg hc, if_pos ha]
theorem by_fn {σ : zs_S} {n f : Int} {w : Int64} {l : List (Int × Int)} {m : Nat} (h : by_f σ n w m = some (f, l)) (hc : ¬ by_c w (8 * (m : Int)) = 0) (ha : ¬ bk_a σ n (f + (by_c w (8 * (m : Int)) - 1) / 6) ((by_c w (8 * (m : Int)) - 1) % 6)) : by_f σ n w (m + 1) = none := by
  rw [by_f, h]
  simp only []
  rw [if_neg hc, if_neg ha]
theorem by_fz {σ : zs_S} {n : Int} {w : Int64} {m : Nat} (h : by_f σ n w m = none) : ∀ k : Nat, by_f σ n w (m + k) = none
  | 0 => h
  | k + 1 => by
    rw [show m + (k + 1) = (m + k) + 1 by omega, by_f, by_fz h k]
theorem by_f8 {σ : zs_S} {n : Int} {w : Int64} {m : Nat} (h : by_f σ n w m = none) (hm : m ≤ 8) : by_f σ n w 8 = none := by
  have := by_fz h (8 - m)
  rwa [show m + (8 - m) = 8 by omega] at this
/-- the worth of logs -/
def bk_S (σ : zs_S) : List (Int × Int) → Int
  | [] => 0
  | q :: r => bk_v σ q.1 q.2 + bk_S σ r
theorem bk_Sa (σ : zs_S) (p j : Int) : ∀ l : List (Int × Int), bk_S σ (l ++ [(p, j)]) = bk_S σ l + bk_v σ p j
  | [] => by simp [bk_S]
  | q :: r => by
    rw [List.cons_append, bk_S, bk_S, bk_Sa σ p j r]
    omega
end
section
set_option maxRecDepth 20000 in
set_option maxHeartbeats 4000000 in
theorem l_told {g : zg_G} {k : zk_T} {Q : Option Value → zs_S → Prop} (C : zk_ok g mX1_cutAsTold k) (hr : zk_ret g mX1_cutAsTold Q k) (n : Int) (hg : (g.2.2.2 : Int) = n) (w : Int64) (q b : Nat) (hq : zs_q q) (hb : zs_q b) (hqb : q ≠ b) (σ0 : zs_S) (hS : ks_s σ0 n) (hK : ks_k σ0) (hb4 : σ0 1 4 = b) (hs5 : σ0 1 5 = q) (hQn : by_f σ0 n w 8 = none → ∀ (v : Option Value) (τ : zs_S), v = some (zv_i (-1)) → zf_x σ0 τ [5, 6, q, q + 1] → Q v τ) (hQy : ∀ f l, by_f σ0 n w 8 = some (f, l) → ∀ (v : Option Value) (τ : zs_S), v = some (zv_i (bk_S σ0 l)) → (τ q 0 = l.length ∧ (l.length : Int) ≤ 8 ∧ bk_R σ0 (τ (q + 1)) l ∧ bk_W σ0 n (n + 1) l ∧ τ 1 4 = q ∧ τ 1 5 = b ∧ zf_x σ0 τ [1, 5, 6, q, q + 1]) → Q v τ) : ∀ (N : Nat) (σ : zs_S) (m : Nat) (f : Int) (l : List (Int × Int)), 8 - m < N → (m ≤ 8) → (by_f σ0 n w m = some (f, l)) → (0 ≤ f ∧ f ≤ n + 1) → (zf_x σ0 σ [5, 6, q, q + 1]) → (σ q 0 = l.length) → (σ q 1 = bk_S σ0 l) → (bk_R σ0 (σ (q + 1)) l) → (bk_W σ0 n f l) → ((l.length : Int) ≤ m) → zw_W g mX1_cutAsTold k 12 [(0, .ref (g.2.2.1 1)), (1, .long w), (3, zv_i f), (4, zv_i (8 * (m : Int)))] [] σ := by
  intro N
  induction N with
  | zero =>
    intro σ m f l hN
    exact absurd hN (by omega)
  | succ N ih =>
    intro σ m f l hN hm hf hf0 fr hc hv hR hW hll
    obtain ⟨hn1, hn2, hlast, hd, hgd⟩ := id hS
    have hS1 : ks_s σ n := ks_sx hS (fun i => fr 2 (by simp; omega) i) (fun i => fr 3 (by simp; omega) i) (fun i => fr 4 (by simp; omega) i)
    have hK1 : ks_k σ := ks_kx hK (fun c h1 h2 i => fr c (by simp; omega) i)
    have hbb0 := by_b w (8 * (m : Int))
    refine zr_iload (pc := 12) C dX1_cutAsTold_12 3 rfl ?_
    refine zr_bipush (pc := 14) C dX1_cutAsTold_14 (by decide) ?_
    refine zr_icmp_ge (pc := 16) C 93 dX1_cutAsTold_16 (by decide) (by omega) (by omega) (fun h_1 => ?_) (fun h_1 => ?_)
    · refine zr_aload_n (pc := 93) C dX1_cutAsTold_93 0 rfl ?_
      refine zr_callV (As := []) (rest := []) (b := 1) (pc := 94) C dX1_cutAsTold_94 kX1_keepSpare vX1_61 rfl (by decide) (by decide) (hs_1 _) rfl (Nat.le_of_ble_eq_true rfl) (m_keepSpare g σ b q hb hq (by rw [fr 1 (by simp; omega) 4]; exact hb4) (by rw [fr 1 (by simp; omega) 5]; exact hs5)) (fun v_ τ_ h_ => ?_)
      obtain ⟨rfl, h_3⟩ := h_
      generalize τ_ = τ_2 at h_3 ⊢
      show zw_W g mX1_cutAsTold k 97 [(0, .ref (g.2.2.1 1)), (1, .long w), (3, zv_i f), (4, zv_i (8 * (m : Int)))] [zv_i (σ q 1)] τ_2
      exact zr_iret (pc := 97) C hr dX1_cutAsTold_97 rfl (hQy f l (by rw [show (8 : Nat) = m by omega]; exact hf) _ τ_2 (zq_i hv) (by
              obtain ⟨k1, k2, k3⟩ := h_3
              exact ⟨by rw [k3 q (by simp; omega) 0]; exact hc, by omega, by rw [show τ_2 (q + 1) = σ (q + 1) from funext fun y => k3 (q + 1) (by simp; omega) y]; exact hR, bk_We hW (by omega), k1, k2, zf_t fr k3 (by simp) (by simp)⟩))
    · refine zr_lload_n (pc := 19) C dX1_cutAsTold_19 1 rfl ?_
      refine zr_iload (pc := 20) C dX1_cutAsTold_20 3 rfl ?_
      refine zr_byte (pc := 22) C dX1_cutAsTold_22 dX1_cutAsTold_23 dX1_cutAsTold_24 dX1_cutAsTold_27 ?_
      refine zr_istore (L' := [(5, zv_i (by_c w (8 * (m : Int)))), (0, .ref (g.2.2.1 1)), (1, .long w), (3, zv_i f), (4, zv_i (8 * (m : Int)))]) (pc := 28) C dX1_cutAsTold_28 (by decide) rfl ?_
      refine zr_iload (pc := 30) C dX1_cutAsTold_30 0 rfl ?_
      refine zr_if_ne (pc := 32) C 38 dX1_cutAsTold_32 (by decide) (by omega) (fun h_5 => ?_) (fun h_5 => ?_)
      · have hbb := by_b w (8 * (m : Int))
        obtain ⟨-, en, ett, egg⟩ := bk_pc (n := n) (p := f + (by_c w (8 * (m : Int)) - 1) / 6) (j := (by_c w (8 * (m : Int)) - 1) % 6) (σ := σ0) (τ := σ) (fun i => fr 3 (by simp; omega) i) (fun i => fr 4 (by simp; omega) i) ⟨by omega, by omega⟩ (fun c h1 h2 i => fr c (by simp; omega) i)
        obtain ⟨eaa, evv⟩ := bk_ac (n := n) (p := f + (by_c w (8 * (m : Int)) - 1) / 6) (j := (by_c w (8 * (m : Int)) - 1) % 6) (σ := σ0) (τ := σ) (fun i => fr 3 (by simp; omega) i) (fun i => fr 4 (by simp; omega) i) ⟨by omega, by omega⟩ (fun c h1 h2 i => fr c (by simp; omega) i)
        refine zr_iload (pc := 38) C dX1_cutAsTold_38 0 rfl ?_
        refine zr_iconst (pc := 40) C dX1_cutAsTold_40 ?_
        refine zr_isub (pc := 41) C dX1_cutAsTold_41 ?_
        refine zr_bipush (pc := 42) C dX1_cutAsTold_42 (by decide) ?_
        refine zr_irem (pc := 44) C dX1_cutAsTold_44 (by omega) (by omega) (by omega) (by omega) ?_
        refine zr_istore (L' := [(6, zv_i (((by_c w (8 * (m : Int))) - 1) % 6)), (5, zv_i (by_c w (8 * (m : Int)))), (0, .ref (g.2.2.1 1)), (1, .long w), (3, zv_i f), (4, zv_i (8 * (m : Int)))]) (pc := 45) C dX1_cutAsTold_45 (by decide) rfl ?_
        refine zr_iload_n (pc := 47) C dX1_cutAsTold_47 4 rfl ?_
        refine zr_iload (pc := 48) C dX1_cutAsTold_48 1 rfl ?_
        refine zr_iconst (pc := 50) C dX1_cutAsTold_50 ?_
        refine zr_isub (pc := 51) C dX1_cutAsTold_51 ?_
        refine zr_bipush (pc := 52) C dX1_cutAsTold_52 (by decide) ?_
        refine zr_idiv (pc := 54) C dX1_cutAsTold_54 (by omega) (by omega) (by omega) (by omega) ?_
        refine zr_iadd (pc := 55) C dX1_cutAsTold_55 ?_
        refine zr_istore (L' := [(7, zv_i (f + (((by_c w (8 * (m : Int))) - 1) / 6))), (6, zv_i (((by_c w (8 * (m : Int))) - 1) % 6)), (5, zv_i (by_c w (8 * (m : Int)))), (0, .ref (g.2.2.1 1)), (1, .long w), (3, zv_i f), (4, zv_i (8 * (m : Int)))]) (pc := 56) C dX1_cutAsTold_56 (by decide) rfl ?_
        refine zr_aload_n (pc := 58) C dX1_cutAsTold_58 3 rfl ?_
        refine zr_iload (pc := 59) C dX1_cutAsTold_59 1 rfl ?_
        refine zr_iload (pc := 61) C dX1_cutAsTold_61 0 rfl ?_
        refine zr_callV (As := [zv_i (((by_c w (8 * (m : Int))) - 1) % 6), zv_i (f + (((by_c w (8 * (m : Int))) - 1) / 6))]) (rest := []) (b := 1) (pc := 63) C dX1_cutAsTold_63 kX1_addLog vX1_54 rfl (by decide) (by decide) (hs_1 _) rfl (Nat.le_of_ble_eq_true rfl) (m_addLog g σ n hg q hq (((by_c w (8 * (m : Int))) - 1) % 6) (f + (((by_c w (8 * (m : Int))) - 1) / 6)) (l.length) (by omega) (by omega) (by exact hS1) (by exact hK1) (by rw [fr 1 (by simp; omega) 5]; exact hs5) (by exact hc) (by refine ⟨by omega, fun _ => ?_⟩; omega)) (fun v_ τ_ h_ => ?_)
        obtain ⟨rfl, h_7⟩ := h_
        generalize τ_ = τ_6 at h_7 ⊢
        show zw_W g mX1_cutAsTold k 66 [(7, zv_i (f + (((by_c w (8 * (m : Int))) - 1) / 6))), (6, zv_i (((by_c w (8 * (m : Int))) - 1) % 6)), (5, zv_i (by_c w (8 * (m : Int)))), (0, .ref (g.2.2.1 1)), (1, .long w), (3, zv_i f), (4, zv_i (8 * (m : Int)))] [zv_i (zi_b (bk_a σ n (f + (((by_c w (8 * (m : Int))) - 1) / 6)) (((by_c w (8 * (m : Int))) - 1) % 6)))] τ_6
        refine zr_if_ne_b (pc := 66) C 71 dX1_cutAsTold_66 (by decide) (fun h_8 => ?_) (fun h_8 => ?_)
        · 
          refine zr_iload (pc := 71) C dX1_cutAsTold_71 0 rfl ?_
          refine zr_aload_n (pc := 73) C dX1_cutAsTold_73 3 rfl ?_
          refine zr_get (v := .ref (g.2.2.1 7)) (pc := 74) C 1 (some (some 7)) dX1_cutAsTold_74 fX1_11 (by decide) (hs_1 _) rfl rfl ?_
          refine zr_iload (pc := 77) C dX1_cutAsTold_77 1 rfl ?_
          refine zr_aaload (pc := 79) C dX1_cutAsTold_79 (by decide) (hs_7 _) (by decide) (by omega) (by decide) ?_
          show zw_W g mX1_cutAsTold k 80 [(7, zv_i (f + (((by_c w (8 * (m : Int))) - 1) / 6))), (6, zv_i (((by_c w (8 * (m : Int))) - 1) % 6)), (5, zv_i (by_c w (8 * (m : Int)))), (0, .ref (g.2.2.1 1)), (1, .long w), (3, zv_i f), (4, zv_i (8 * (m : Int)))] [.ref (g.2.2.1 (8 + 2 * ((((by_c w (8 * (m : Int))) - 1) % 6)).toNat)), zv_i (f + (((by_c w (8 * (m : Int))) - 1) / 6))] τ_6
          refine zr_get (v := zv_i (τ_6 (8 + 2 * ((((by_c w (8 * (m : Int))) - 1) % 6)).toNat) 0)) (pc := 80) C 0 none dX1_cutAsTold_80 fX1_58 (hn_kind (by omega)) (hs_kind (by omega)) rfl rfl ?_
          refine zr_iadd (pc := 83) C dX1_cutAsTold_83 ?_
          refine zr_iconst (pc := 84) C dX1_cutAsTold_84 ?_
          refine zr_iadd (pc := 85) C dX1_cutAsTold_85 ?_
          refine zr_istore_n (L' := [(3, zv_i (((f + (((by_c w (8 * (m : Int))) - 1) / 6)) + (τ_6 (8 + 2 * ((((by_c w (8 * (m : Int))) - 1) % 6)).toNat) 0)) + 1)), (7, zv_i (f + (((by_c w (8 * (m : Int))) - 1) / 6))), (6, zv_i (((by_c w (8 * (m : Int))) - 1) % 6)), (5, zv_i (by_c w (8 * (m : Int)))), (0, .ref (g.2.2.1 1)), (1, .long w), (4, zv_i (8 * (m : Int)))]) (pc := 86) C dX1_cutAsTold_86 (by decide) rfl ?_
          refine zr_iinc (L' := [(4, zv_i ((8 * (m : Int)) + 8)), (3, zv_i (((f + (((by_c w (8 * (m : Int))) - 1) / 6)) + (τ_6 (8 + 2 * ((((by_c w (8 * (m : Int))) - 1) % 6)).toNat) 0)) + 1)), (7, zv_i (f + (((by_c w (8 * (m : Int))) - 1) / 6))), (6, zv_i (((by_c w (8 * (m : Int))) - 1) % 6)), (5, zv_i (by_c w (8 * (m : Int)))), (0, .ref (g.2.2.1 1)), (1, .long w)]) (pc := 87) C dX1_cutAsTold_87 6 rfl (by decide) rfl ?_
          refine zr_goto (pc := 90) C 12 dX1_cutAsTold_90 (by decide) ?_
          obtain ⟨fz, -, hyes⟩ := h_7
          obtain ⟨c1, c2, c3, c4⟩ := hyes h_8
          have ha : bk_a σ0 n (f + (by_c w (8 * (m : Int)) - 1) / 6) ((by_c w (8 * (m : Int)) - 1) % 6) := eaa.mp h_8
          have hlen : τ_6 (8 + 2 * ((by_c w (8 * (m : Int)) - 1) % 6).toNat) 0 = bk_n σ0 ((by_c w (8 * (m : Int)) - 1) % 6) := (fz _ (by simp; omega) 0).trans (fr _ (by simp; omega) 0)
          have l1 : 0 < bk_n σ0 ((by_c w (8 * (m : Int)) - 1) % 6) := ha.1
          have l2 : f + (by_c w (8 * (m : Int)) - 1) / 6 + bk_n σ0 ((by_c w (8 * (m : Int)) - 1) % 6) ≤ n := ha.2.1
          refine zr_sub [5, 6, 1, 0] rfl ?_
          rw [hlen]
          exact ih τ_6 (m + 1) (f + (by_c w (8 * (m : Int)) - 1) / 6 + bk_n σ0 ((by_c w (8 * (m : Int)) - 1) % 6) + 1) (l ++ [(f + (by_c w (8 * (m : Int)) - 1) / 6, (by_c w (8 * (m : Int)) - 1) % 6)]) (by omega) (by omega) (by_fy hf (by omega) ha) (by omega) (zf_t fr fz (by simp) (by simp)) (by rw [c1, List.length_append]; simp) (by rw [c2, bk_Sa, hv, evv]) (bk_Ra hR (fun j y1 y2 => c3 j y2) (by
            obtain ⟨z0, z1, z2, z3, z4, z5⟩ := c4
            exact ⟨z0, z1, by rw [z2, ett], by rw [z3, ett], by rw [z4, egg], by rw [z5, evv]⟩)) (bk_Wa hW (by omega) ⟨by omega, by omega, ⟨by omega, by omega⟩, ha⟩) (by rw [List.length_append]; simp; omega)
        · 
          refine zr_iconst (pc := 69) C dX1_cutAsTold_69 ?_
          exact zr_iret (pc := 70) C hr dX1_cutAsTold_70 rfl (hQn (by_f8 (by_fn hf (by omega) (fun z => h_8 (eaa.mpr z))) (by omega)) _ τ_6 rfl (zf_w (zf_t fr (h_7.2.1 h_8) (by simp) (by simp) (es := [5, 6, q, q + 1])) (by simp)))
      · 
        refine zr_goto (pc := 35) C 87 dX1_cutAsTold_35 (by decide) ?_
        refine zr_iinc (L' := [(4, zv_i ((8 * (m : Int)) + 8)), (5, zv_i (by_c w (8 * (m : Int)))), (0, .ref (g.2.2.1 1)), (1, .long w), (3, zv_i f)]) (pc := 87) C dX1_cutAsTold_87 4 rfl (by decide) rfl ?_
        refine zr_goto (pc := 90) C 12 dX1_cutAsTold_90 (by decide) ?_
        refine zr_sub [2, 3, 4, 0] rfl ?_
        exact ih σ (m + 1) f l (by omega) (by omega) (by_f0 hf h_5) hf0 fr hc hv hR hW (by omega)

set_option maxRecDepth 20000 in
set_option maxHeartbeats 4000000 in
theorem m_cutAsTold (g : zg_G) (σ : zs_S) (n : Int) (hg : (g.2.2.2 : Int) = n) (w : Int64) (q b : Nat) (hq : zs_q q) (hb : zs_q b) (hqb : q ≠ b) (hS : ks_s σ n) (hK : ks_k σ) (hb4 : σ 1 4 = b) (hs5 : σ 1 5 = q) : zm_Met g mX1_cutAsTold σ [.ref (g.2.2.1 1), .long w] (fun v τ => (by_f σ n w 8 = none → v = some (zv_i (-1)) ∧ zf_x σ τ [5, 6, q, q + 1]) ∧ (∀ f l, by_f σ n w 8 = some (f, l) → v = some (zv_i (bk_S σ l)) ∧ τ q 0 = l.length ∧ (l.length : Int) ≤ 8 ∧ bk_R σ (τ (q + 1)) l ∧ bk_W σ n (n + 1) l ∧ τ 1 4 = q ∧ τ 1 5 = b ∧ zf_x σ τ [1, 5, 6, q, q + 1])) := by
  refine zm_of (by decide +kernel) (Nat.le_of_ble_eq_true rfl) ?_
  intro k C hr
  show zw_W g mX1_cutAsTold k 0 [(0, .ref (g.2.2.1 1)), (1, .long w)] [] σ
  obtain ⟨hn1, hn2, hlast, hd, hgd⟩ := id hS
  refine zr_aload_n (pc := 0) C dX1_cutAsTold_0 0 rfl ?_
  refine zr_get (v := .ref (g.2.2.1 (σ 1 5).toNat)) (pc := 1) C 5 (some none) dX1_cutAsTold_1 fX1_24 (by decide) (hs_1 _) rfl rfl ?_
  rw [hs5]
  show zw_W g mX1_cutAsTold k 4 [(0, .ref (g.2.2.1 1)), (1, .long w)] [.ref (g.2.2.1 (q))] σ
  refine zr_callV (As := []) (rest := []) (b := q) (pc := 4) C dX1_cutAsTold_4 kX3_clear vX1_51 rfl (by decide) (hn_cut hq) (hs_cut hq) rfl (Nat.le_of_ble_eq_true rfl) (m_clear g σ q hq) (fun v_ τ_ h_ => ?_)
  obtain ⟨rfl, h_2⟩ := h_
  generalize τ_ = τ_1 at h_2 ⊢
  show zw_W g mX1_cutAsTold k 7 [(0, .ref (g.2.2.1 1)), (1, .long w)] [] τ_1
  refine zr_iconst (pc := 7) C dX1_cutAsTold_7 ?_
  refine zr_istore_n (L' := [(3, zv_i 0), (0, .ref (g.2.2.1 1)), (1, .long w)]) (pc := 8) C dX1_cutAsTold_8 (by decide) rfl ?_
  refine zr_iconst (pc := 9) C dX1_cutAsTold_9 ?_
  refine zr_istore (L' := [(4, zv_i 0), (3, zv_i 0), (0, .ref (g.2.2.1 1)), (1, .long w)]) (pc := 10) C dX1_cutAsTold_10 (by decide) rfl ?_
  obtain ⟨y1, y2, y3⟩ := h_2
  refine zr_sub [2, 3, 1, 0] rfl ?_
  exact l_told C hr n hg w q b hq hb hqb σ hS hK hb4 hs5 (fun h1 v τ h2 h3 => ⟨fun _ => ⟨h2, h3⟩, fun f l h => by rw [h1] at h; cases h⟩) (fun f l h1 v τ h2 h3 => ⟨fun h => (by rw [h1] at h; cases h), fun f' l' h => (by rw [h1] at h; cases h; exact ⟨h2, h3⟩)⟩) 9 τ_1 0 0 [] (by omega) (by omega) rfl (by omega) (zf_w y3 (by simp)) (by rw [y1]; rfl) (by rw [y2]; rfl) (fun i p j h => by simp at h) (fun z hz => by simp at hz) (by simp)
end
section
/-! THE MATHEMATICS OF THE CLASS, part F: a chain of boards -/
/-- what a chain needs of its steps, prices and limits -/
def ch_I (σ : zs_S) : Prop := ∀ k : Int, 0 ≤ k → k < 6 → (0 ≤ σ 46 k ∧ σ 46 k ≤ 4100) ∧ (0 ≤ σ 47 k ∧ σ 47 k ≤ 1100000) ∧ (-1 ≤ σ 48 k ∧ σ 48 k ≤ 9100) ∧ (0 ≤ σ 48 k → 50 ≤ σ 46 k ∧ 0 < σ 47 k)
/-- no place holds a mark, and none is too great -/
def ch_J (σ : zs_S) : Prop := ∀ x : Int, 0 ≤ x → x ≤ 9100 → 0 ≤ σ 49 x ∧ σ 49 x ≤ 201300000
def ch_m (li : Int → Int) : Nat → Int
  | 0 => 0
  | m + 1 => max (ch_m li m) (li m)
theorem ch_ms {li : Int → Int} {k : Int} (h : 0 ≤ k) : ch_m li (k + 1).toNat = max (ch_m li k.toNat) (li k) := by
  rw [show (k + 1).toNat = k.toNat + 1 by omega, ch_m, show ((k.toNat : Nat) : Int) = k by omega]
theorem ch_mb {li : Int → Int} (h : ∀ k : Int, 0 ≤ k → k < 6 → li k ≤ 9100) : ∀ m : Nat, m ≤ 6 → 0 ≤ ch_m li m ∧ ch_m li m ≤ 9100 ∧ ∀ k : Int, 0 ≤ k → k < m → li k ≤ ch_m li m
  | 0, _ => ⟨by simp [ch_m], by simp [ch_m], fun k a b => absurd b (by omega)⟩
  | m + 1, hm => by
    obtain ⟨a, b, c⟩ := ch_mb h m (by omega)
    have d := h m (by omega) (by omega)
    rw [ch_m]
    refine ⟨by omega, by omega, fun k x y => ?_⟩
    rcases (show k < (m : Int) ∨ k = m by omega) with z | z
    · have := c k x z
      omega
    · subst z
      omega
/-- the most that can be gained from x on, over the first m sizes -/
def ch_f (st pr li G : Int → Int) (x : Int) : Nat → Int
  | 0 => 0
  | m + 1 => if x + st m ≤ li m then max (ch_f st pr li G x m) (pr m + G (x + st m)) else ch_f st pr li G x m
theorem ch_fy {st pr li G : Int → Int} {x k : Int} (h0 : 0 ≤ k) (h : x + st k ≤ li k) : ch_f st pr li G x (k + 1).toNat = max (ch_f st pr li G x k.toNat) (pr k + G (x + st k)) := by
  rw [show (k + 1).toNat = k.toNat + 1 by omega, ch_f, show ((k.toNat : Nat) : Int) = k by omega]
  exact if_pos h
theorem ch_fn {st pr li G : Int → Int} {x k : Int} (h0 : 0 ≤ k) (h : ¬ x + st k ≤ li k) : ch_f st pr li G x (k + 1).toNat = ch_f st pr li G x k.toNat := by
  rw [show (k + 1).toNat = k.toNat + 1 by omega, ch_f, show ((k.toNat : Nat) : Int) = k by omega]
  exact if_neg h
theorem ch_fc {st pr li G E : Int → Int} {x : Int} : ∀ {m : Nat}, (∀ k : Int, 0 ≤ k → k < m → x + st k ≤ li k → G (x + st k) = E (x + st k)) → ch_f st pr li G x m = ch_f st pr li E x m
  | 0, _ => rfl
  | m + 1, h => by
    have ih := ch_fc (pr := pr) (G := G) (E := E) (m := m) (fun k a b => h k a (by omega))
    by_cases c : x + st m ≤ li m
    · rw [ch_f, ch_f, if_pos c, if_pos c, ih, h m (by omega) (by omega) c]
    · rw [ch_f, ch_f, if_neg c, if_neg c, ih]
theorem ch_fb {st pr li G : Int → Int} {x : Int} (hx : 0 ≤ x ∧ x ≤ 9100) (hst : ∀ k : Int, 0 ≤ k → k < 6 → x + st k ≤ li k → 50 ≤ st k) (hpr : ∀ k : Int, 0 ≤ k → k < 6 → 0 ≤ pr k ∧ pr k ≤ 1100000) (hG : ∀ k : Int, 0 ≤ k → k < 6 → x + st k ≤ li k → 0 ≤ G (x + st k) ∧ 50 * G (x + st k) ≤ (9150 - (x + st k)) * 1100000) : ∀ m : Nat, m ≤ 6 → 0 ≤ ch_f st pr li G x m ∧ 50 * ch_f st pr li G x m ≤ (9150 - x) * 1100000
  | 0, _ => ⟨by simp [ch_f], by simp only [ch_f]; omega⟩
  | m + 1, hm => by
    have ih := ch_fb hx hst hpr hG m (by omega)
    by_cases c : x + st m ≤ li m
    · rw [ch_f, if_pos c]
      have h1 := hst m (by omega) (by omega) c
      have h2 := hpr m (by omega) (by omega)
      have h3 := hG m (by omega) (by omega) c
      omega
    · rw [ch_f, if_neg c]
      exact ih
/-- what the fold is: no size gives more, and nothing or some size gives so much -/
theorem ch_fs {st pr li G : Int → Int} {x : Int} : ∀ m : Nat, 0 ≤ ch_f st pr li G x m ∧ (∀ k : Int, 0 ≤ k → k < m → x + st k ≤ li k → pr k + G (x + st k) ≤ ch_f st pr li G x m) ∧ (ch_f st pr li G x m = 0 ∨ ∃ k : Int, 0 ≤ k ∧ k < m ∧ x + st k ≤ li k ∧ pr k + G (x + st k) = ch_f st pr li G x m)
  | 0 => ⟨by simp [ch_f], fun k a b => absurd b (by omega), Or.inl rfl⟩
  | m + 1 => by
    obtain ⟨h1, h2, h3⟩ := ch_fs (st := st) (pr := pr) (li := li) (G := G) (x := x) m
    by_cases c : x + st m ≤ li m
    · rw [ch_f, if_pos c]
      refine ⟨by omega, fun k a b d => ?_, ?_⟩
      · rcases (show k < (m : Int) ∨ k = m by omega) with z | z
        · have := h2 k a z d
          omega
        · subst z
          omega
      · by_cases e : pr m + G (x + st m) ≤ ch_f st pr li G x m
        · rw [show max (ch_f st pr li G x m) (pr m + G (x + st m)) = ch_f st pr li G x m by omega]
          rcases h3 with h3 | ⟨k, a, b, d⟩
          · exact Or.inl h3
          · exact Or.inr ⟨k, a, by omega, d⟩
        · exact Or.inr ⟨m, by omega, by omega, c, by omega⟩
    · rw [ch_f, if_neg c]
      refine ⟨h1, fun k a b d => ?_, ?_⟩
      · rcases (show k < (m : Int) ∨ k = m by omega) with z | z
        · exact h2 k a z d
        · subst z
          exact absurd d c
      · rcases h3 with h3 | ⟨k, a, b, d⟩
        · exact Or.inl h3
        · exact Or.inr ⟨k, a, by omega, d⟩
/-- size k may come next at x, and gains the most -/
abbrev ch_c (st pr li G : Int → Int) (x k : Int) : Prop := x + st k ≤ li k ∧ pr k + G (x + st k) = G x
/-- r is the lowest such size, -1 where there is none -/
def ch_k (st pr li G : Int → Int) (x r : Int) : Prop := (r = -1 ∧ ∀ k : Int, 0 ≤ k → k < 6 → ¬ ch_c st pr li G x k) ∨ (0 ≤ r ∧ r < 6 ∧ ch_c st pr li G x r ∧ ∀ k : Int, 0 ≤ k → k < r → ¬ ch_c st pr li G x k)
/-- places from 0 on that hold what can be gained: 0 is one of them, and what may follow one is one too -/
def ch_M (st li : Int → Int) (Mk : Int → Prop) : Prop := Mk 0 ∧ ∀ x, Mk x → (0 ≤ x ∧ x ≤ 9100) ∧ ∀ k : Int, 0 ≤ k → k < 6 → x + st k ≤ li k → Mk (x + st k)
def ch_S (σ : zs_S) : Prop := ∃ Mk : Int → Prop, ch_M (σ 46) (σ 48) Mk ∧ ∀ x, Mk x → σ 49 x = ch_f (σ 46) (σ 47) (σ 48) (σ 49) x 6
/-- the sizes l stand from x on: each the lowest of those that gain the most, none may follow the last -/
def ch_L (st pr li G : Int → Int) : List Int → Int → Prop
  | [], x => ∀ k : Int, 0 ≤ k → k < 6 → ¬ ch_c st pr li G x k
  | r :: l, x => (0 ≤ r ∧ r < 6) ∧ ch_c st pr li G x r ∧ (∀ k : Int, 0 ≤ k → k < r → ¬ ch_c st pr li G x k) ∧ ch_L st pr li G l (x + st r)
end
section
set_option maxRecDepth 20000 in
set_option maxHeartbeats 4000000 in
theorem l_far {g : zg_G} {k : zk_T} {Q : Option Value → zs_S → Prop} (C : zk_ok g mX2_farthestLimit k) (hr : zk_ret g mX2_farthestLimit Q k) (σ0 : zs_S) (hI : ch_I σ0) (hQ : Q (some (zv_i (ch_m (σ0 48) 6))) σ0) : ∀ (N : Nat) (σ : zs_S) (a m : Int), (6 - a).toNat < N → (σ = σ0) → (0 ≤ a ∧ a ≤ 6) → (m = ch_m (σ0 48) a.toNat) → zw_W g mX2_farthestLimit k 4 [(0, .ref (g.2.2.1 45)), (1, zv_i m), (2, zv_i a)] [] σ := by
  intro N
  induction N with
  | zero =>
    intro σ a m hN
    exact absurd hN (by omega)
  | succ N ih =>
    intro σ a m hN hs ha hm
    subst hs
    have mb := ch_mb (li := σ 48) (fun k y1 y2 => (hI k y1 y2).2.2.1.2) a.toNat (by omega)
    rw [← hm] at mb
    refine zr_iload_n (pc := 4) C dX2_farthestLimit_4 2 rfl ?_
    refine zr_bipush (pc := 5) C dX2_farthestLimit_5 (by decide) ?_
    refine zr_icmp_ge (pc := 7) C 45 dX2_farthestLimit_7 (by decide) (by omega) (by omega) (fun h_1 => ?_) (fun h_1 => ?_)
    · refine zr_iload_n (pc := 45) C dX2_farthestLimit_45 1 rfl ?_
      exact zr_iret (pc := 46) C hr dX2_farthestLimit_46 rfl (by rw [hm, show a.toNat = 6 by omega]; exact hQ)
    · have kb := (hI a (by omega) (by omega)).2.2.1
      refine zr_aload_n (pc := 10) C dX2_farthestLimit_10 0 rfl ?_
      refine zr_get (v := .ref (g.2.2.1 48)) (pc := 11) C 2 (some (some 48)) dX2_farthestLimit_11 fX2_18 (by decide) (hs_45 _) rfl rfl ?_
      refine zr_iload_n (pc := 14) C dX2_farthestLimit_14 2 rfl ?_
      refine zr_aload_n (pc := 15) C dX2_farthestLimit_15 0 rfl ?_
      refine zr_get (v := .ref (g.2.2.1 48)) (pc := 16) C 2 (some (some 48)) dX2_farthestLimit_16 fX2_18 (by decide) (hs_45 _) rfl rfl ?_
      refine zr_iload_n (pc := 19) C dX2_farthestLimit_19 2 rfl ?_
      refine zr_iaload (pc := 20) C dX2_farthestLimit_20 (by decide) (hs_48 _) (by omega) (by decide) ?_
      refine zr_sipush (pc := 21) C dX2_farthestLimit_21 (by decide) ?_
      refine zr_min (pc := 24) C dX2_farthestLimit_24 xX2_49 (by decide) (Nat.le_of_ble_eq_true rfl) (by omega) (by omega) ?_
      refine zr_iastore (pc := 27) C dX2_farthestLimit_27 (by decide) (hs_48 _) (by omega) (by decide) (fun τ_2 e_3 => ?_)
      have hsame : τ_2 = σ := by
        rw [e_3]
        funext c i
        unfold zs_put
        by_cases h : c = 48 ∧ i = a
        · rw [if_pos h, h.1, h.2]
          omega
        · rw [if_neg h]
      rw [hsame]
      refine zr_iload_n (pc := 28) C dX2_farthestLimit_28 1 rfl ?_
      refine zr_aload_n (pc := 29) C dX2_farthestLimit_29 0 rfl ?_
      refine zr_get (v := .ref (g.2.2.1 48)) (pc := 30) C 2 (some (some 48)) dX2_farthestLimit_30 fX2_18 (by decide) (hs_45 _) rfl rfl ?_
      refine zr_iload_n (pc := 33) C dX2_farthestLimit_33 2 rfl ?_
      refine zr_iaload (pc := 34) C dX2_farthestLimit_34 (by decide) (hs_48 _) (by omega) (by decide) ?_
      refine zr_max (pc := 35) C dX2_farthestLimit_35 xX2_55 (by decide) (Nat.le_of_ble_eq_true rfl) (by omega) (by omega) ?_
      refine zr_istore_n (L' := [(1, zv_i (max m (σ 48 a))), (0, .ref (g.2.2.1 45)), (2, zv_i a)]) (pc := 38) C dX2_farthestLimit_38 (by decide) rfl ?_
      refine zr_iinc (L' := [(2, zv_i (a + 1)), (1, zv_i (max m (σ 48 a))), (0, .ref (g.2.2.1 45))]) (pc := 39) C dX2_farthestLimit_39 2 rfl (by decide) rfl ?_
      refine zr_goto (pc := 42) C 4 dX2_farthestLimit_42 (by decide) ?_
      refine zr_sub [2, 1, 0] rfl ?_
      exact ih σ (a + 1) (max m (σ 48 a)) (by omega) rfl (by omega) (by rw [ch_ms (by omega), hm])

set_option maxRecDepth 20000 in
set_option maxHeartbeats 4000000 in
theorem m_far (g : zg_G) (σ : zs_S) (hI : ch_I σ) : zm_Met g mX2_farthestLimit σ [.ref (g.2.2.1 45)] (fun v τ => v = some (zv_i (ch_m (σ 48) 6)) ∧ σ = τ) := by
  refine zm_of (by decide +kernel) (Nat.le_of_ble_eq_true rfl) ?_
  intro k C hr
  show zw_W g mX2_farthestLimit k 0 [(0, .ref (g.2.2.1 45))] [] σ
  refine zr_iconst (pc := 0) C dX2_farthestLimit_0 ?_
  refine zr_istore_n (L' := [(1, zv_i 0), (0, .ref (g.2.2.1 45))]) (pc := 1) C dX2_farthestLimit_1 (by decide) rfl ?_
  refine zr_iconst (pc := 2) C dX2_farthestLimit_2 ?_
  refine zr_istore_n (L' := [(2, zv_i 0), (1, zv_i 0), (0, .ref (g.2.2.1 45))]) (pc := 3) C dX2_farthestLimit_3 (by decide) rfl ?_
  refine zr_sub [2, 1, 0] rfl ?_
  exact l_far C hr σ hI ⟨rfl, rfl⟩ 7 σ 0 0 (by omega) rfl (by omega) rfl

set_option maxRecDepth 20000 in
set_option maxHeartbeats 4000000 in
theorem l_reach {g : zg_G} {k : zk_T} {Q : Option Value → zs_S → Prop} (C : zk_ok g mX2_reachOnFrom k) (hr : zk_ret g mX2_reachOnFrom Q k) (p : Int) (hp : 0 ≤ p ∧ p ≤ 9100) (σ0 : zs_S) (hI : ch_I σ0) (hQ : ∀ τ, zf_x σ0 τ [49] ∧ (∀ a : Int, 0 ≤ a → a < 6 → p + σ0 46 a ≤ σ0 48 a → τ 49 (p + σ0 46 a) = -1) ∧ (∀ x, τ 49 x = σ0 49 x ∨ (τ 49 x = -1 ∧ ∃ a : Int, 0 ≤ a ∧ a < 6 ∧ p + σ0 46 a ≤ σ0 48 a ∧ x = p + σ0 46 a)) → Q none τ) : ∀ (N : Nat) (σ : zs_S) (a : Int), (6 - a).toNat < N → (0 ≤ a ∧ a ≤ 6) → (zf_x σ0 σ [49]) → (∀ y : Int, 0 ≤ y → y < a → p + σ0 46 y ≤ σ0 48 y → σ 49 (p + σ0 46 y) = -1) → (∀ x, σ 49 x = σ0 49 x ∨ (σ 49 x = -1 ∧ ∃ a : Int, 0 ≤ a ∧ a < 6 ∧ p + σ0 46 a ≤ σ0 48 a ∧ x = p + σ0 46 a)) → zw_W g mX2_reachOnFrom k 2 [(0, .ref (g.2.2.1 45)), (1, zv_i p), (2, zv_i a)] [] σ := by
  intro N
  induction N with
  | zero =>
    intro σ a hN
    exact absurd hN (by omega)
  | succ N ih =>
    intro σ a hN ha fr h1 h2
    refine zr_iload_n (pc := 2) C dX2_reachOnFrom_2 2 rfl ?_
    refine zr_bipush (pc := 3) C dX2_reachOnFrom_3 (by decide) ?_
    refine zr_icmp_ge (pc := 5) C 40 dX2_reachOnFrom_5 (by decide) (by omega) (by omega) (fun h_1 => ?_) (fun h_1 => ?_)
    · exact zr_vret (pc := 40) C hr dX2_reachOnFrom_40 rfl (hQ σ ⟨fr, fun y y1 y2 y3 => h1 y y1 (by omega) y3, h2⟩)
    · have kb := hI a (by omega) (by omega)
      have e46 : σ 46 a = σ0 46 a := fr 46 (by decide) a
      have e48 : σ 48 a = σ0 48 a := fr 48 (by decide) a
      have kb3 := kb.2.2.1
      refine zr_iload_n (pc := 8) C dX2_reachOnFrom_8 1 rfl ?_
      refine zr_aload_n (pc := 9) C dX2_reachOnFrom_9 0 rfl ?_
      refine zr_get (v := .ref (g.2.2.1 46)) (pc := 10) C 0 (some (some 46)) dX2_reachOnFrom_10 fX2_9 (by decide) (hs_45 _) rfl rfl ?_
      refine zr_iload_n (pc := 13) C dX2_reachOnFrom_13 2 rfl ?_
      refine zr_iaload (pc := 14) C dX2_reachOnFrom_14 (by decide) (hs_46 _) (by omega) (by decide) ?_
      refine zr_iadd (pc := 15) C dX2_reachOnFrom_15 ?_
      refine zr_istore_n (L' := [(3, zv_i (p + (σ 46 a))), (0, .ref (g.2.2.1 45)), (1, zv_i p), (2, zv_i a)]) (pc := 16) C dX2_reachOnFrom_16 (by decide) rfl ?_
      refine zr_iload_n (pc := 17) C dX2_reachOnFrom_17 0 rfl ?_
      refine zr_aload_n (pc := 18) C dX2_reachOnFrom_18 1 rfl ?_
      refine zr_get (v := .ref (g.2.2.1 48)) (pc := 19) C 2 (some (some 48)) dX2_reachOnFrom_19 fX2_18 (by decide) (hs_45 _) rfl rfl ?_
      refine zr_iload_n (pc := 22) C dX2_reachOnFrom_22 3 rfl ?_
      refine zr_iaload (pc := 23) C dX2_reachOnFrom_23 (by decide) (hs_48 _) (by omega) (by decide) ?_
      refine zr_icmp_gt (pc := 24) C 34 dX2_reachOnFrom_24 (by decide) (by omega) (by omega) (fun h_2 => ?_) (fun h_2 => ?_)
      · refine zr_iinc (L' := [(2, zv_i (a + 1)), (3, zv_i (p + (σ 46 a))), (0, .ref (g.2.2.1 45)), (1, zv_i p)]) (pc := 34) C dX2_reachOnFrom_34 3 rfl (by decide) rfl ?_
        refine zr_goto (pc := 37) C 2 dX2_reachOnFrom_37 (by decide) ?_
        refine zr_sub [2, 3, 0] rfl ?_
        exact ih σ (a + 1) (by omega) (by omega) fr (fun y y1 y2 y3 => (by rcases (show y < a ∨ y = a by omega) with z | z; exact h1 y y1 z y3; subst z; exact absurd y3 (by omega))) h2
      · refine zr_aload_n (pc := 27) C dX2_reachOnFrom_27 1 rfl ?_
        refine zr_get (v := .ref (g.2.2.1 49)) (pc := 28) C 3 (some (some 49)) dX2_reachOnFrom_28 fX2_21 (by decide) (hs_45 _) rfl rfl ?_
        refine zr_iload_n (pc := 31) C dX2_reachOnFrom_31 0 rfl ?_
        refine zr_iconst (pc := 32) C dX2_reachOnFrom_32 ?_
        refine zr_iastore (pc := 33) C dX2_reachOnFrom_33 (by decide) (hs_49 _) (by omega) (by decide) (fun τ_3 e_4 => ?_)
        refine zr_iinc (L' := [(2, zv_i (a + 1)), (3, zv_i (p + (σ 46 a))), (0, .ref (g.2.2.1 45)), (1, zv_i p)]) (pc := 34) C dX2_reachOnFrom_34 3 rfl (by decide) rfl ?_
        refine zr_goto (pc := 37) C 2 dX2_reachOnFrom_37 (by decide) ?_
        refine zr_sub [2, 3, 0] rfl ?_
        exact ih τ_3 (a + 1) (by omega) (by omega) (zf_p fr e_4 (by decide)) (fun y y1 y2 y3 => by
          rw [e_4, zs_put_at]
          by_cases c : p + σ0 46 y = p + σ 46 a
          · rw [if_pos c]
          · rw [if_neg c]
            rcases (show y < a ∨ y = a by omega) with z | z
            · exact h1 y y1 z y3
            · subst z; exact absurd (by rw [e46]) c) (fun x => by
          rw [e_4, zs_put_at]
          by_cases c : x = p + σ 46 a
          · rw [if_pos c]
            exact Or.inr ⟨rfl, a, by omega, by omega, by omega, by omega⟩
          · rw [if_neg c]
            exact h2 x)

set_option maxRecDepth 20000 in
set_option maxHeartbeats 4000000 in
theorem m_reach (g : zg_G) (σ : zs_S) (p : Int) (hp : 0 ≤ p ∧ p ≤ 9100) (hI : ch_I σ) : zm_Met g mX2_reachOnFrom σ [.ref (g.2.2.1 45), zv_i p] (fun v τ => v = none ∧ zf_x σ τ [49] ∧ (∀ a : Int, 0 ≤ a → a < 6 → p + σ 46 a ≤ σ 48 a → τ 49 (p + σ 46 a) = -1) ∧ (∀ x, τ 49 x = σ 49 x ∨ (τ 49 x = -1 ∧ ∃ a : Int, 0 ≤ a ∧ a < 6 ∧ p + σ 46 a ≤ σ 48 a ∧ x = p + σ 46 a))) := by
  refine zm_of (by decide +kernel) (Nat.le_of_ble_eq_true rfl) ?_
  intro k C hr
  show zw_W g mX2_reachOnFrom k 0 [(0, .ref (g.2.2.1 45)), (1, zv_i p)] [] σ
  refine zr_iconst (pc := 0) C dX2_reachOnFrom_0 ?_
  refine zr_istore_n (L' := [(2, zv_i 0), (0, .ref (g.2.2.1 45)), (1, zv_i p)]) (pc := 1) C dX2_reachOnFrom_1 (by decide) rfl ?_
  refine zr_sub [1, 2, 0] rfl ?_
  exact l_reach C hr p hp σ hI (fun τ h => ⟨rfl, h⟩) 7 σ 0 (by omega) (by omega) (zf_r σ _) (fun y y1 y2 => absurd y2 (by omega)) (fun x => Or.inl rfl)

set_option maxRecDepth 20000 in
set_option maxHeartbeats 4000000 in
theorem l_most {g : zg_G} {k : zk_T} {Q : Option Value → zs_S → Prop} (C : zk_ok g mX2_mostFrom k) (hr : zk_ret g mX2_mostFrom Q k) (p : Int) (hp : 0 ≤ p ∧ p ≤ 9100) (σ0 : zs_S) (hI : ch_I σ0) (hG : ∀ a : Int, 0 ≤ a → a < 6 → p + σ0 46 a ≤ σ0 48 a → 0 ≤ σ0 49 (p + σ0 46 a) ∧ 50 * σ0 49 (p + σ0 46 a) ≤ (9150 - (p + σ0 46 a)) * 1100000) (hQ : Q (some (zv_i (ch_f (σ0 46) (σ0 47) (σ0 48) (σ0 49) p 6))) σ0) : ∀ (N : Nat) (σ : zs_S) (a m : Int), (6 - a).toNat < N → (σ = σ0) → (0 ≤ a ∧ a ≤ 6) → (m = ch_f (σ0 46) (σ0 47) (σ0 48) (σ0 49) p a.toNat) → zw_W g mX2_mostFrom k 4 [(0, .ref (g.2.2.1 45)), (1, zv_i p), (2, zv_i m), (3, zv_i a)] [] σ := by
  intro N
  induction N with
  | zero =>
    intro σ a m hN
    exact absurd hN (by omega)
  | succ N ih =>
    intro σ a m hN hs ha hm
    subst hs
    have mb := ch_fb (st := σ 46) (pr := σ 47) (li := σ 48) (G := σ 49) hp (fun k y1 y2 y3 => ((hI k y1 y2).2.2.2 (by have := (hI k y1 y2).1; omega)).1) (fun k y1 y2 => (hI k y1 y2).2.1) hG a.toNat (by omega)
    rw [← hm] at mb
    refine zr_iload_n (pc := 4) C dX2_mostFrom_4 3 rfl ?_
    refine zr_bipush (pc := 5) C dX2_mostFrom_5 (by decide) ?_
    refine zr_icmp_ge (pc := 7) C 56 dX2_mostFrom_7 (by decide) (by omega) (by omega) (fun h_1 => ?_) (fun h_1 => ?_)
    · refine zr_iload_n (pc := 56) C dX2_mostFrom_56 2 rfl ?_
      exact zr_iret (pc := 57) C hr dX2_mostFrom_57 rfl (by rw [hm, show a.toNat = 6 by omega]; exact hQ)
    · have kb := hI a (by omega) (by omega)
      have kb3 := kb.2.2.1
      refine zr_iload_n (pc := 10) C dX2_mostFrom_10 1 rfl ?_
      refine zr_aload_n (pc := 11) C dX2_mostFrom_11 0 rfl ?_
      refine zr_get (v := .ref (g.2.2.1 46)) (pc := 12) C 0 (some (some 46)) dX2_mostFrom_12 fX2_9 (by decide) (hs_45 _) rfl rfl ?_
      refine zr_iload_n (pc := 15) C dX2_mostFrom_15 3 rfl ?_
      refine zr_iaload (pc := 16) C dX2_mostFrom_16 (by decide) (hs_46 _) (by omega) (by decide) ?_
      refine zr_iadd (pc := 17) C dX2_mostFrom_17 ?_
      refine zr_istore (L' := [(4, zv_i (p + (σ 46 a))), (0, .ref (g.2.2.1 45)), (1, zv_i p), (2, zv_i m), (3, zv_i a)]) (pc := 18) C dX2_mostFrom_18 (by decide) rfl ?_
      refine zr_iload (pc := 20) C dX2_mostFrom_20 0 rfl ?_
      refine zr_aload_n (pc := 22) C dX2_mostFrom_22 1 rfl ?_
      refine zr_get (v := .ref (g.2.2.1 48)) (pc := 23) C 2 (some (some 48)) dX2_mostFrom_23 fX2_18 (by decide) (hs_45 _) rfl rfl ?_
      refine zr_iload_n (pc := 26) C dX2_mostFrom_26 4 rfl ?_
      refine zr_iaload (pc := 27) C dX2_mostFrom_27 (by decide) (hs_48 _) (by omega) (by decide) ?_
      refine zr_icmp_gt (pc := 28) C 50 dX2_mostFrom_28 (by decide) (by omega) (by omega) (fun h_2 => ?_) (fun h_2 => ?_)
      · 
        refine zr_iinc (L' := [(3, zv_i (a + 1)), (4, zv_i (p + (σ 46 a))), (0, .ref (g.2.2.1 45)), (1, zv_i p), (2, zv_i m)]) (pc := 50) C dX2_mostFrom_50 4 rfl (by decide) rfl ?_
        refine zr_goto (pc := 53) C 4 dX2_mostFrom_53 (by decide) ?_
        refine zr_sub [2, 3, 4, 0] rfl ?_
        exact ih σ (a + 1) m (by omega) rfl (by omega) (by rw [ch_fn (by omega) (by omega), hm])
      · have hg2 := hG a (by omega) (by omega) (by omega)
        refine zr_iload_n (pc := 31) C dX2_mostFrom_31 3 rfl ?_
        refine zr_aload_n (pc := 32) C dX2_mostFrom_32 1 rfl ?_
        refine zr_get (v := .ref (g.2.2.1 47)) (pc := 33) C 1 (some (some 47)) dX2_mostFrom_33 fX2_15 (by decide) (hs_45 _) rfl rfl ?_
        refine zr_iload_n (pc := 36) C dX2_mostFrom_36 4 rfl ?_
        refine zr_iaload (pc := 37) C dX2_mostFrom_37 (by decide) (hs_47 _) (by omega) (by decide) ?_
        refine zr_aload_n (pc := 38) C dX2_mostFrom_38 1 rfl ?_
        refine zr_get (v := .ref (g.2.2.1 49)) (pc := 39) C 3 (some (some 49)) dX2_mostFrom_39 fX2_21 (by decide) (hs_45 _) rfl rfl ?_
        refine zr_iload (pc := 42) C dX2_mostFrom_42 0 rfl ?_
        refine zr_iaload (pc := 44) C dX2_mostFrom_44 (by decide) (hs_49 _) (by omega) (by decide) ?_
        refine zr_iadd (pc := 45) C dX2_mostFrom_45 ?_
        refine zr_max (pc := 46) C dX2_mostFrom_46 xX2_55 (by decide) (Nat.le_of_ble_eq_true rfl) (by omega) (by omega) ?_
        refine zr_istore_n (L' := [(2, zv_i (max m ((σ 47 a) + (σ 49 (p + (σ 46 a)))))), (4, zv_i (p + (σ 46 a))), (0, .ref (g.2.2.1 45)), (1, zv_i p), (3, zv_i a)]) (pc := 49) C dX2_mostFrom_49 (by decide) rfl ?_
        refine zr_iinc (L' := [(3, zv_i (a + 1)), (2, zv_i (max m ((σ 47 a) + (σ 49 (p + (σ 46 a)))))), (4, zv_i (p + (σ 46 a))), (0, .ref (g.2.2.1 45)), (1, zv_i p)]) (pc := 50) C dX2_mostFrom_50 4 rfl (by decide) rfl ?_
        refine zr_goto (pc := 53) C 4 dX2_mostFrom_53 (by decide) ?_
        refine zr_sub [3, 4, 1, 0] rfl ?_
        exact ih σ (a + 1) (max m (σ 47 a + σ 49 (p + σ 46 a))) (by omega) rfl (by omega) (by rw [ch_fy (by omega) (by omega), hm])

set_option maxRecDepth 20000 in
set_option maxHeartbeats 4000000 in
theorem m_most (g : zg_G) (σ : zs_S) (p : Int) (hp : 0 ≤ p ∧ p ≤ 9100) (hI : ch_I σ) (hG : ∀ a : Int, 0 ≤ a → a < 6 → p + σ 46 a ≤ σ 48 a → 0 ≤ σ 49 (p + σ 46 a) ∧ 50 * σ 49 (p + σ 46 a) ≤ (9150 - (p + σ 46 a)) * 1100000) : zm_Met g mX2_mostFrom σ [.ref (g.2.2.1 45), zv_i p] (fun v τ => v = some (zv_i (ch_f (σ 46) (σ 47) (σ 48) (σ 49) p 6)) ∧ σ = τ) := by
  refine zm_of (by decide +kernel) (Nat.le_of_ble_eq_true rfl) ?_
  intro k C hr
  show zw_W g mX2_mostFrom k 0 [(0, .ref (g.2.2.1 45)), (1, zv_i p)] [] σ
  refine zr_iconst (pc := 0) C dX2_mostFrom_0 ?_
  refine zr_istore_n (L' := [(2, zv_i 0), (0, .ref (g.2.2.1 45)), (1, zv_i p)]) (pc := 1) C dX2_mostFrom_1 (by decide) rfl ?_
  refine zr_iconst (pc := 2) C dX2_mostFrom_2 ?_
  refine zr_istore_n (L' := [(3, zv_i 0), (2, zv_i 0), (0, .ref (g.2.2.1 45)), (1, zv_i p)]) (pc := 3) C dX2_mostFrom_3 (by decide) rfl ?_
  refine zr_sub [2, 3, 1, 0] rfl ?_
  exact l_most C hr p hp σ hI hG ⟨rfl, rfl⟩ 7 σ 0 0 (by omega) rfl (by omega) rfl

set_option maxRecDepth 20000 in
set_option maxHeartbeats 4000000 in
theorem l_low {g : zg_G} {k : zk_T} {Q : Option Value → zs_S → Prop} (C : zk_ok g mX2_lowestFrom k) (hr : zk_ret g mX2_lowestFrom Q k) (p : Int) (hp : 0 ≤ p ∧ p ≤ 9100) (σ0 : zs_S) (hI : ch_I σ0) (hJ : ∀ a : Int, 0 ≤ a → a < 6 → p + σ0 46 a ≤ σ0 48 a → 0 ≤ σ0 49 (p + σ0 46 a) ∧ σ0 49 (p + σ0 46 a) ≤ 201300000) (hJp : 0 ≤ σ0 49 p ∧ σ0 49 p ≤ 201300000) (hQ : ∀ r, ch_k (σ0 46) (σ0 47) (σ0 48) (σ0 49) p r → Q (some (zv_i r)) σ0) : ∀ (N : Nat) (σ : zs_S) (a : Int), (6 - a).toNat < N → (σ = σ0) → (0 ≤ a ∧ a ≤ 6) → (∀ y : Int, 0 ≤ y → y < a → ¬ ch_c (σ0 46) (σ0 47) (σ0 48) (σ0 49) p y) → zw_W g mX2_lowestFrom k 2 [(0, .ref (g.2.2.1 45)), (1, zv_i p), (2, zv_i a)] [] σ := by
  intro N
  induction N with
  | zero =>
    intro σ a hN
    exact absurd hN (by omega)
  | succ N ih =>
    intro σ a hN hs ha hm
    subst hs
    refine zr_iload_n (pc := 2) C dX2_lowestFrom_2 2 rfl ?_
    refine zr_bipush (pc := 3) C dX2_lowestFrom_3 (by decide) ?_
    refine zr_icmp_ge (pc := 5) C 57 dX2_lowestFrom_5 (by decide) (by omega) (by omega) (fun h_1 => ?_) (fun h_1 => ?_)
    · refine zr_iconst (pc := 57) C dX2_lowestFrom_57 ?_
      exact zr_iret (pc := 58) C hr dX2_lowestFrom_58 rfl (hQ (-1) (Or.inl ⟨rfl, fun y y1 y2 => hm y y1 (by omega)⟩))
    · have kb := hI a (by omega) (by omega)
      have kb3 := kb.2.2.1
      refine zr_iload_n (pc := 8) C dX2_lowestFrom_8 1 rfl ?_
      refine zr_aload_n (pc := 9) C dX2_lowestFrom_9 0 rfl ?_
      refine zr_get (v := .ref (g.2.2.1 46)) (pc := 10) C 0 (some (some 46)) dX2_lowestFrom_10 fX2_9 (by decide) (hs_45 _) rfl rfl ?_
      refine zr_iload_n (pc := 13) C dX2_lowestFrom_13 2 rfl ?_
      refine zr_iaload (pc := 14) C dX2_lowestFrom_14 (by decide) (hs_46 _) (by omega) (by decide) ?_
      refine zr_iadd (pc := 15) C dX2_lowestFrom_15 ?_
      refine zr_istore_n (L' := [(3, zv_i (p + (σ 46 a))), (0, .ref (g.2.2.1 45)), (1, zv_i p), (2, zv_i a)]) (pc := 16) C dX2_lowestFrom_16 (by decide) rfl ?_
      refine zr_iload_n (pc := 17) C dX2_lowestFrom_17 0 rfl ?_
      refine zr_aload_n (pc := 18) C dX2_lowestFrom_18 1 rfl ?_
      refine zr_get (v := .ref (g.2.2.1 48)) (pc := 19) C 2 (some (some 48)) dX2_lowestFrom_19 fX2_18 (by decide) (hs_45 _) rfl rfl ?_
      refine zr_iload_n (pc := 22) C dX2_lowestFrom_22 3 rfl ?_
      refine zr_iaload (pc := 23) C dX2_lowestFrom_23 (by decide) (hs_48 _) (by omega) (by decide) ?_
      refine zr_icmp_gt (pc := 24) C 51 dX2_lowestFrom_24 (by decide) (by omega) (by omega) (fun h_2 => ?_) (fun h_2 => ?_)
      · refine zr_iinc (L' := [(2, zv_i (a + 1)), (3, zv_i (p + (σ 46 a))), (0, .ref (g.2.2.1 45)), (1, zv_i p)]) (pc := 51) C dX2_lowestFrom_51 3 rfl (by decide) rfl ?_
        refine zr_goto (pc := 54) C 2 dX2_lowestFrom_54 (by decide) ?_
        refine zr_sub [2, 3, 0] rfl ?_
        exact ih σ (a + 1) (by omega) rfl (by omega) (fun y y1 y2 z => by
          rcases (show y < a ∨ y = a by omega) with c | c
          · exact hm y y1 c z
          · subst c
            obtain ⟨z1, z2⟩ := z
            omega)
      · have hg2 := hJ a (by omega) (by omega) (by omega)
        refine zr_aload_n (pc := 27) C dX2_lowestFrom_27 1 rfl ?_
        refine zr_get (v := .ref (g.2.2.1 47)) (pc := 28) C 1 (some (some 47)) dX2_lowestFrom_28 fX2_15 (by decide) (hs_45 _) rfl rfl ?_
        refine zr_iload_n (pc := 31) C dX2_lowestFrom_31 3 rfl ?_
        refine zr_iaload (pc := 32) C dX2_lowestFrom_32 (by decide) (hs_47 _) (by omega) (by decide) ?_
        refine zr_aload_n (pc := 33) C dX2_lowestFrom_33 1 rfl ?_
        refine zr_get (v := .ref (g.2.2.1 49)) (pc := 34) C 3 (some (some 49)) dX2_lowestFrom_34 fX2_21 (by decide) (hs_45 _) rfl rfl ?_
        refine zr_iload_n (pc := 37) C dX2_lowestFrom_37 0 rfl ?_
        refine zr_iaload (pc := 38) C dX2_lowestFrom_38 (by decide) (hs_49 _) (by omega) (by decide) ?_
        refine zr_iadd (pc := 39) C dX2_lowestFrom_39 ?_
        refine zr_aload_n (pc := 40) C dX2_lowestFrom_40 1 rfl ?_
        refine zr_get (v := .ref (g.2.2.1 49)) (pc := 41) C 3 (some (some 49)) dX2_lowestFrom_41 fX2_21 (by decide) (hs_45 _) rfl rfl ?_
        refine zr_iload_n (pc := 44) C dX2_lowestFrom_44 2 rfl ?_
        refine zr_iaload (pc := 45) C dX2_lowestFrom_45 (by decide) (hs_49 _) (by omega) (by decide) ?_
        refine zr_icmp_ne (pc := 46) C 51 dX2_lowestFrom_46 (by decide) (by omega) (by omega) (fun h_3 => ?_) (fun h_3 => ?_)
        · refine zr_iinc (L' := [(2, zv_i (a + 1)), (3, zv_i (p + (σ 46 a))), (0, .ref (g.2.2.1 45)), (1, zv_i p)]) (pc := 51) C dX2_lowestFrom_51 3 rfl (by decide) rfl ?_
          refine zr_goto (pc := 54) C 2 dX2_lowestFrom_54 (by decide) ?_
          refine zr_sub [2, 3, 0] rfl ?_
          exact ih σ (a + 1) (by omega) rfl (by omega) (fun y y1 y2 z => by
            rcases (show y < a ∨ y = a by omega) with c | c
            · exact hm y y1 c z
            · subst c
              obtain ⟨z1, z2⟩ := z
              omega)
        · refine zr_iload_n (pc := 49) C dX2_lowestFrom_49 3 rfl ?_
          exact zr_iret (pc := 50) C hr dX2_lowestFrom_50 rfl (hQ a (Or.inr ⟨by omega, by omega, ⟨by omega, by omega⟩, hm⟩))

set_option maxRecDepth 20000 in
set_option maxHeartbeats 4000000 in
theorem m_low (g : zg_G) (σ : zs_S) (p : Int) (hp : 0 ≤ p ∧ p ≤ 9100) (hI : ch_I σ) (hJ : ∀ a : Int, 0 ≤ a → a < 6 → p + σ 46 a ≤ σ 48 a → 0 ≤ σ 49 (p + σ 46 a) ∧ σ 49 (p + σ 46 a) ≤ 201300000) (hJp : 0 ≤ σ 49 p ∧ σ 49 p ≤ 201300000) : zm_Met g mX2_lowestFrom σ [.ref (g.2.2.1 45), zv_i p] (fun v τ => ∃ r, v = some (zv_i r) ∧ σ = τ ∧ ch_k (σ 46) (σ 47) (σ 48) (σ 49) p r) := by
  refine zm_of (by decide +kernel) (Nat.le_of_ble_eq_true rfl) ?_
  intro k C hr
  show zw_W g mX2_lowestFrom k 0 [(0, .ref (g.2.2.1 45)), (1, zv_i p)] [] σ
  refine zr_iconst (pc := 0) C dX2_lowestFrom_0 ?_
  refine zr_istore_n (L' := [(2, zv_i 0), (0, .ref (g.2.2.1 45)), (1, zv_i p)]) (pc := 1) C dX2_lowestFrom_1 (by decide) rfl ?_
  refine zr_sub [1, 2, 0] rfl ?_
  exact l_low C hr p hp σ hI hJ hJp (fun r h => ⟨r, rfl, rfl, h⟩) 7 σ 0 (by omega) rfl (by omega) (fun y y1 y2 => absurd y2 (by omega))
end
section
/-! THE MATHEMATICS OF THE CLASS, part G: how a chain is solved -/
/-- the places that can be reached are marked, on from those below p -/
def ch_A (σ0 σ : zs_S) (la p : Int) : Prop := zf_x σ0 σ [49] ∧ σ 49 0 = -1 ∧ (∀ x, 0 ≤ x → x ≤ 9100 → σ 49 x = -1 ∨ σ 49 x = σ0 49 x) ∧ (∀ x, 0 ≤ x → x ≤ 9100 → σ 49 x = -1 → x ≤ la) ∧ (∀ x, 0 ≤ x → x < p → σ 49 x = -1 → ∀ k : Int, 0 ≤ k → k < 6 → x + σ0 46 k ≤ σ0 48 k → σ 49 (x + σ0 46 k) = -1)
theorem ch_An {σ0 σ : zs_S} {la p : Int} (h : ch_A σ0 σ la p) (hp : ¬ σ 49 p = -1) : ch_A σ0 σ la (p + 1) := by
  obtain ⟨a, b, c, d, e⟩ := h
  refine ⟨a, b, c, d, fun x h1 h2 h3 => ?_⟩
  rcases (show x < p ∨ x = p by omega) with z | z
  · exact e x h1 z h3
  · subst z; exact absurd h3 hp
theorem ch_Ay {σ0 σ τ : zs_S} {la p : Int} (hI : ch_I σ0) (hJ : ch_J σ0) (hla : 0 ≤ la ∧ la ≤ 9100) (hli : ∀ k : Int, 0 ≤ k → k < 6 → σ0 48 k ≤ la) (hp : 0 ≤ p ∧ p ≤ la) (h : ch_A σ0 σ la p)
    (f : zf_x σ τ [49]) (h1 : ∀ a : Int, 0 ≤ a → a < 6 → p + σ 46 a ≤ σ 48 a → τ 49 (p + σ 46 a) = -1) (h2 : ∀ x, τ 49 x = σ 49 x ∨ (τ 49 x = -1 ∧ ∃ a : Int, 0 ≤ a ∧ a < 6 ∧ p + σ 46 a ≤ σ 48 a ∧ x = p + σ 46 a)) : ch_A σ0 τ la (p + 1) := by
  obtain ⟨a, b, c, d, e⟩ := h
  have e46 : ∀ i, σ 46 i = σ0 46 i := a 46 (by decide)
  have e48 : ∀ i, σ 48 i = σ0 48 i := a 48 (by decide)
  have up : ∀ x, σ 49 x = -1 → τ 49 x = -1 := fun x hx => by
    rcases h2 x with z | z
    · rw [z]; exact hx
    · exact z.1
  refine ⟨zf_t a f (by simp) (by simp), up 0 b, fun x x1 x2 => ?_, fun x x1 x2 x3 => ?_, fun x x1 x2 x3 k k1 k2 k3 => ?_⟩
  · rcases h2 x with z | z
    · rw [z]; exact c x x1 x2
    · exact Or.inl z.1
  · rcases h2 x with z | ⟨-, k, k1, k2, k3, k4⟩
    · rw [z] at x3; exact d x x1 x2 x3
    · rw [e46, e48] at k3
      rw [e46] at k4
      have := hli k k1 k2
      omega
  · have k3' : x + σ 46 k ≤ σ 48 k := by rw [e46, e48]; exact k3
    rcases (show x < p ∨ x = p by omega) with z | z
    · have kb := hI k k1 k2
      have hx3 : σ 49 x = -1 := by
        rcases h2 x with y | ⟨-, q, q1, q2, q3, q4⟩
        · rw [← y]; exact x3
        · rw [e46, e48] at q3
          rw [e46] at q4
          have qb := hI q q1 q2
          have := (qb.2.2.2 (by omega)).1
          omega
      exact up _ (e x x1 z hx3 k k1 k2 k3)
    · subst z
      have := h1 k k1 k2 k3'
      rw [e46] at this
      exact this
/-- the gains of the marked places behind p are worked out -/
def ch_B (σ0 σ1 σ : zs_S) (la p : Int) : Prop := zf_x σ0 σ [49] ∧ (∀ x, p < x → (0 ≤ x ∧ x ≤ la ∧ σ1 49 x = -1) → σ 49 x = ch_f (σ0 46) (σ0 47) (σ0 48) (σ 49) x 6 ∧ 0 ≤ σ 49 x ∧ 50 * σ 49 x ≤ (9150 - x) * 1100000) ∧ (∀ x, x ≤ p → (0 ≤ x ∧ x ≤ la ∧ σ1 49 x = -1) → σ 49 x = -1) ∧ (∀ x, 0 ≤ x → x ≤ 9100 → ¬ (0 ≤ x ∧ x ≤ la ∧ σ1 49 x = -1) → σ 49 x = σ0 49 x)
/-- what mostFrom needs at p -/
theorem ch_Bg {σ0 σ1 σ : zs_S} {la p : Int} (hI : ch_I σ0) (hla : 0 ≤ la ∧ la ≤ 9100) (hli : ∀ k : Int, 0 ≤ k → k < 6 → σ0 48 k ≤ la) (hp : 0 ≤ p ∧ p ≤ la) (hA : ch_A σ0 σ1 la (la + 1)) (h : ch_B σ0 σ1 σ la p) (hm : σ1 49 p = -1) :
    ∀ a : Int, 0 ≤ a → a < 6 → p + σ 46 a ≤ σ 48 a → (0 ≤ p + σ 46 a ∧ p + σ 46 a ≤ la ∧ p < p + σ 46 a) ∧ σ1 49 (p + σ 46 a) = -1 ∧ 0 ≤ σ 49 (p + σ 46 a) ∧ 50 * σ 49 (p + σ 46 a) ≤ (9150 - (p + σ 46 a)) * 1100000 := by
  obtain ⟨a, b, c, d⟩ := h
  obtain ⟨-, -, -, -, e⟩ := hA
  intro k k1 k2 k3
  have e46 : ∀ i, σ 46 i = σ0 46 i := a 46 (by decide)
  have e48 : ∀ i, σ 48 i = σ0 48 i := a 48 (by decide)
  rw [e46, e48] at k3
  have kb := hI k k1 k2
  have l := hli k k1 k2
  have s := (kb.2.2.2 (by omega)).1
  have m2 := e p hp.1 (by omega) hm k k1 k2 k3
  have r := b (p + σ0 46 k) (by omega) ⟨by omega, by omega, m2⟩
  rw [e46]
  exact ⟨by omega, m2, r.2⟩
theorem ch_By {σ0 σ1 σ : zs_S} {la p : Int} (hI : ch_I σ0) (hJ : ch_J σ0) (hla : 0 ≤ la ∧ la ≤ 9100) (hli : ∀ k : Int, 0 ≤ k → k < 6 → σ0 48 k ≤ la) (hp : 0 ≤ p ∧ p ≤ la) (hA : ch_A σ0 σ1 la (la + 1)) (h : ch_B σ0 σ1 σ la p) (hm : σ 49 p = -1) {τ : zs_S} (e : τ = zs_put σ 49 p (ch_f (σ 46) (σ 47) (σ 48) (σ 49) p 6)) : ch_B σ0 σ1 τ la (p - 1) := by
  have h0 := h
  obtain ⟨a, b, c, d⟩ := h
  have mp : σ1 49 p = -1 := Classical.byContradiction fun z => by
    have := d p hp.1 (by omega) (fun y => z y.2.2)
    have := hJ p hp.1 (by omega)
    omega
  have g := ch_Bg hI hla hli hp hA h0 mp
  have e46 : σ 46 = σ0 46 := funext (a 46 (by decide))
  have e47 : σ 47 = σ0 47 := funext (a 47 (by decide))
  have e48 : σ 48 = σ0 48 := funext (a 48 (by decide))
  have fb := ch_fb (st := σ 46) (pr := σ 47) (li := σ 48) (G := σ 49) (x := p) ⟨hp.1, by omega⟩ (fun k k1 k2 k3 => ((hI k k1 k2).2.2.2 (by have := (hI k k1 k2).1; rw [e46, e48] at k3; omega)).1 |> (by rw [e46]; exact ·)) (fun k k1 k2 => by rw [e47]; exact (hI k k1 k2).2.1) (fun k k1 k2 k3 => (g k k1 k2 k3).2.2) 6 (by omega)
  have off : ∀ x, x ≠ p → τ 49 x = σ 49 x := fun x hx => by rw [e, zs_put_off hx]
  have same : ∀ x, p ≤ x → ch_f (σ0 46) (σ0 47) (σ0 48) (τ 49) x 6 = ch_f (σ0 46) (σ0 47) (σ0 48) (σ 49) x 6 := fun x hx => ch_fc (fun k k1 k2 k3 => off _ (by
    have kb := hI k k1 k2
    have := (kb.2.2.2 (by omega)).1
    omega))
  refine ⟨zf_p a e (by decide), fun x x1 x2 => ?_, fun x x1 x2 => ?_, fun x x1 x2 x3 => ?_⟩
  · rw [same x (by omega)]
    rcases (show x = p ∨ p < x by omega) with z | z
    · rw [z, e, zs_put_self, ← e46, ← e47, ← e48]
      exact ⟨rfl, fb⟩
    · rw [off x (by omega)]
      exact b x z x2
  · rw [off x (by omega)]
    exact c x (by omega) x2
  · rw [off x (fun z => x3 (by rw [z]; exact ⟨hp.1, hp.2, mp⟩))]
    exact d x x1 x2 x3
theorem ch_Bn {σ0 σ1 σ : zs_S} {la p : Int} (h : ch_B σ0 σ1 σ la p) (hm : ¬ σ 49 p = -1) : ch_B σ0 σ1 σ la (p - 1) := by
  obtain ⟨a, b, c, d⟩ := h
  refine ⟨a, fun x x1 x2 => ?_, fun x x1 x2 => c x (by omega) x2, d⟩
  rcases (show x = p ∨ p < x by omega) with z | z
  · subst z
    exact absurd (c x (Int.le_refl _) x2) hm
  · exact b x z x2
/-- at the end -/
theorem ch_Be {σ0 σ1 σ : zs_S} {la : Int} (hJ : ch_J σ0) (hla : 0 ≤ la ∧ la ≤ 9100) (hI : ch_I σ0) (hli : ∀ k : Int, 0 ≤ k → k < 6 → σ0 48 k ≤ la) (hA : ch_A σ0 σ1 la (la + 1)) (h : ch_B σ0 σ1 σ la (-1)) : zf_x σ0 σ [49] ∧ ch_S σ ∧ ch_J σ := by
  obtain ⟨a, b, c, d⟩ := h
  obtain ⟨-, a2, -, -, a5⟩ := hA
  have e46 : σ 46 = σ0 46 := funext (a 46 (by decide))
  have e47 : σ 47 = σ0 47 := funext (a 47 (by decide))
  have e48 : σ 48 = σ0 48 := funext (a 48 (by decide))
  refine ⟨a, ⟨fun x => 0 ≤ x ∧ x ≤ la ∧ σ1 49 x = -1, ⟨⟨by omega, by omega, a2⟩, fun x hx => ⟨⟨hx.1, by omega⟩, fun k k1 k2 k3 => ?_⟩⟩, fun x hx => ?_⟩, fun x x1 x2 => ?_⟩
  · rw [e46, e48] at k3
    rw [e46]
    have := hli k k1 k2
    have := (hI k k1 k2).1
    exact ⟨by omega, by omega, a5 x hx.1 (by omega) hx.2.2 k k1 k2 k3⟩
  · rw [e46, e47, e48]
    exact (b x (by omega) hx).1
  · by_cases hx : 0 ≤ x ∧ x ≤ la ∧ σ1 49 x = -1
    · have := (b x (by omega) hx).2
      omega
    · rw [d x x1 x2 hx]
      exact hJ x x1 x2
end
section
set_option maxRecDepth 20000 in
set_option maxHeartbeats 4000000 in
theorem l_solA {g : zg_G} {k : zk_T} {Q : Option Value → zs_S → Prop} (C : zk_ok g mX2_solve k) (hr : zk_ret g mX2_solve Q k) (la : Int) (hla : 0 ≤ la ∧ la ≤ 9100) (σ0 : zs_S) (hI : ch_I σ0) (hJ : ch_J σ0) (hli : ∀ k : Int, 0 ≤ k → k < 6 → σ0 48 k ≤ la) (hex : ∀ σ1, ch_A σ0 σ1 la (la + 1) → zw_W g mX2_solve k 40 [(0, .ref (g.2.2.1 45)), (1, zv_i la)] [] σ1) : ∀ (N : Nat) (σ : zs_S) (p : Int), (la + 1 - p).toNat < N → (0 ≤ p ∧ p ≤ la + 1) → (ch_A σ0 σ la p) → zw_W g mX2_solve k 14 [(0, .ref (g.2.2.1 45)), (1, zv_i la), (2, zv_i p)] [] σ := by
  intro N
  induction N with
  | zero =>
    intro σ p hN
    exact absurd hN (by omega)
  | succ N ih =>
    intro σ p hN hp hA
    have fr := hA.1
    refine zr_iload_n (pc := 14) C dX2_solve_14 2 rfl ?_
    refine zr_iload_n (pc := 15) C dX2_solve_15 1 rfl ?_
    refine zr_icmp_gt (pc := 16) C 40 dX2_solve_16 (by decide) (by omega) (by omega) (fun h_1 => ?_) (fun h_1 => ?_)
    · refine zr_sub [0, 1] rfl ?_
      have ep : p = la + 1 := by omega
      rw [ep] at hA
      exact hex σ hA
    · have hb := hA.2.2.1 p (by omega) (by omega)
      have hj := hJ p (by omega) (by omega)
      refine zr_aload_n (pc := 19) C dX2_solve_19 0 rfl ?_
      refine zr_get (v := .ref (g.2.2.1 49)) (pc := 20) C 3 (some (some 49)) dX2_solve_20 fX2_21 (by decide) (hs_45 _) rfl rfl ?_
      refine zr_iload_n (pc := 23) C dX2_solve_23 2 rfl ?_
      refine zr_iaload (pc := 24) C dX2_solve_24 (by decide) (hs_49 _) (by omega) (by decide) ?_
      refine zr_iconst (pc := 25) C dX2_solve_25 ?_
      refine zr_icmp_ne (pc := 26) C 34 dX2_solve_26 (by decide) (by omega) (by omega) (fun h_2 => ?_) (fun h_2 => ?_)
      · 
        refine zr_iinc (L' := [(2, zv_i (p + 1)), (0, .ref (g.2.2.1 45)), (1, zv_i la)]) (pc := 34) C dX2_solve_34 2 rfl (by decide) rfl ?_
        refine zr_goto (pc := 37) C 14 dX2_solve_37 (by decide) ?_
        refine zr_sub [1, 2, 0] rfl ?_
        exact ih σ (p + 1) (by omega) (by omega) (ch_An hA (by omega))
      · 
        refine zr_aload_n (pc := 29) C dX2_solve_29 0 rfl ?_
        refine zr_iload_n (pc := 30) C dX2_solve_30 2 rfl ?_
        refine zr_callV (As := [zv_i p]) (rest := []) (b := 45) (pc := 31) C dX2_solve_31 kX2_reachOnFrom vX2_28 rfl (by decide) (by decide) (hs_45 _) rfl (Nat.le_of_ble_eq_true rfl) (m_reach g σ p (by omega) (by exact fun k y1 y2 => by rw [fr 46 (by decide), fr 47 (by decide), fr 48 (by decide)]; exact hI k y1 y2)) (fun v_ τ_ h_ => ?_)
        obtain ⟨rfl, h_4⟩ := h_
        generalize τ_ = τ_3 at h_4 ⊢
        show zw_W g mX2_solve k 34 [(0, .ref (g.2.2.1 45)), (1, zv_i la), (2, zv_i p)] [] τ_3
        refine zr_iinc (L' := [(2, zv_i (p + 1)), (0, .ref (g.2.2.1 45)), (1, zv_i la)]) (pc := 34) C dX2_solve_34 2 rfl (by decide) rfl ?_
        refine zr_goto (pc := 37) C 14 dX2_solve_37 (by decide) ?_
        refine zr_sub [1, 2, 0] rfl ?_
        exact ih τ_3 (p + 1) (by omega) (by omega) (ch_Ay hI hJ hla hli (by omega) hA h_4.1 h_4.2.1 h_4.2.2)

set_option maxRecDepth 20000 in
set_option maxHeartbeats 4000000 in
theorem l_solB {g : zg_G} {k : zk_T} {Q : Option Value → zs_S → Prop} (C : zk_ok g mX2_solve k) (hr : zk_ret g mX2_solve Q k) (la : Int) (hla : 0 ≤ la ∧ la ≤ 9100) (σ0 : zs_S) (hI : ch_I σ0) (hJ : ch_J σ0) (hli : ∀ k : Int, 0 ≤ k → k < 6 → σ0 48 k ≤ la) (σ1 : zs_S) (hA : ch_A σ0 σ1 la (la + 1)) (hQ : ∀ τ, zf_x σ0 τ [49] → ch_S τ → ch_J τ → Q (some (zv_i (τ 49 0))) τ) : ∀ (N : Nat) (σ : zs_S) (p : Int), (p + 1).toNat < N → (-1 ≤ p ∧ p ≤ la) → (ch_B σ0 σ1 σ la p) → zw_W g mX2_solve k 42 [(0, .ref (g.2.2.1 45)), (1, zv_i la), (2, zv_i p)] [] σ := by
  intro N
  induction N with
  | zero =>
    intro σ p hN
    exact absurd hN (by omega)
  | succ N ih =>
    intro σ p hN hp hB
    have fr := hB.1
    refine zr_iload_n (pc := 42) C dX2_solve_42 2 rfl ?_
    refine zr_if_lt (pc := 43) C 73 dX2_solve_43 (by decide) (by omega) (fun h_1 => ?_) (fun h_1 => ?_)
    · have e0 : p = -1 := by omega
      subst e0
      obtain ⟨z1, z2, z3⟩ := ch_Be hJ hla hI hli hA hB
      refine zr_aload_n (pc := 73) C dX2_solve_73 0 rfl ?_
      refine zr_get (v := .ref (g.2.2.1 49)) (pc := 74) C 3 (some (some 49)) dX2_solve_74 fX2_21 (by decide) (hs_45 _) rfl rfl ?_
      refine zr_iconst (pc := 77) C dX2_solve_77 ?_
      refine zr_iaload (pc := 78) C dX2_solve_78 (by decide) (hs_49 _) (by omega) (by decide) ?_
      exact zr_iret (pc := 79) C hr dX2_solve_79 rfl (hQ σ z1 z2 z3)
    · have hj := hJ p (by omega) (by omega)
      have hb : σ 49 p = -1 ∨ σ 49 p = σ0 49 p := by
        by_cases z : 0 ≤ p ∧ p ≤ la ∧ σ1 49 p = -1
        · exact Or.inl (hB.2.2.1 p (Int.le_refl _) z)
        · exact Or.inr (hB.2.2.2 p (by omega) (by omega) z)
      refine zr_aload_n (pc := 46) C dX2_solve_46 0 rfl ?_
      refine zr_get (v := .ref (g.2.2.1 49)) (pc := 47) C 3 (some (some 49)) dX2_solve_47 fX2_21 (by decide) (hs_45 _) rfl rfl ?_
      refine zr_iload_n (pc := 50) C dX2_solve_50 2 rfl ?_
      refine zr_iaload (pc := 51) C dX2_solve_51 (by decide) (hs_49 _) (by omega) (by decide) ?_
      refine zr_iconst (pc := 52) C dX2_solve_52 ?_
      refine zr_icmp_ne (pc := 53) C 67 dX2_solve_53 (by decide) (by omega) (by omega) (fun h_2 => ?_) (fun h_2 => ?_)
      · 
        refine zr_iinc (L' := [(2, zv_i (p + (-1))), (0, .ref (g.2.2.1 45)), (1, zv_i la)]) (pc := 67) C dX2_solve_67 2 rfl (by decide) rfl ?_
        refine zr_goto (pc := 70) C 42 dX2_solve_70 (by decide) ?_
        refine zr_sub [1, 2, 0] rfl ?_
        exact ih σ (p + (-1)) (by omega) (by omega) (ch_Bn hB (by omega))
      · have mp : σ1 49 p = -1 := Classical.byContradiction fun z => by
          have := hB.2.2.2 p (by omega) (by omega) (fun y => z y.2.2)
          omega
        have hg9 := ch_Bg hI hla hli (by omega) hA hB mp
        refine zr_aload_n (pc := 56) C dX2_solve_56 0 rfl ?_
        refine zr_get (v := .ref (g.2.2.1 49)) (pc := 57) C 3 (some (some 49)) dX2_solve_57 fX2_21 (by decide) (hs_45 _) rfl rfl ?_
        refine zr_iload_n (pc := 60) C dX2_solve_60 2 rfl ?_
        refine zr_aload_n (pc := 61) C dX2_solve_61 0 rfl ?_
        refine zr_iload_n (pc := 62) C dX2_solve_62 2 rfl ?_
        refine zr_callV (As := [zv_i p]) (rest := [zv_i p, .ref (g.2.2.1 49)]) (b := 45) (pc := 63) C dX2_solve_63 kX2_mostFrom vX2_32 rfl (by decide) (by decide) (hs_45 _) rfl (Nat.le_of_ble_eq_true rfl) (m_most g σ p (by omega) (by exact fun k y1 y2 => by rw [fr 46 (by decide), fr 47 (by decide), fr 48 (by decide)]; exact hI k y1 y2) (by exact fun a y1 y2 y3 => (hg9 a y1 y2 y3).2.2)) (fun v_ τ_ h_ => ?_)
        obtain ⟨rfl, rfl⟩ := h_
        show zw_W g mX2_solve k 66 [(0, .ref (g.2.2.1 45)), (1, zv_i la), (2, zv_i p)] [zv_i (ch_f (σ 46) (σ 47) (σ 48) (σ 49) p 6), zv_i p, .ref (g.2.2.1 49)] σ
        refine zr_iastore (pc := 66) C dX2_solve_66 (by decide) (hs_49 _) (by omega) (by decide) (fun τ_3 e_4 => ?_)
        refine zr_iinc (L' := [(2, zv_i (p + (-1))), (0, .ref (g.2.2.1 45)), (1, zv_i la)]) (pc := 67) C dX2_solve_67 2 rfl (by decide) rfl ?_
        refine zr_goto (pc := 70) C 42 dX2_solve_70 (by decide) ?_
        refine zr_sub [1, 2, 0] rfl ?_
        exact ih τ_3 (p + (-1)) (by omega) (by omega) (ch_By hI hJ hla hli (by omega) hA hB (by omega) e_4)

set_option maxRecDepth 20000 in
set_option maxHeartbeats 4000000 in
theorem m_solve (g : zg_G) (σ : zs_S) (hI : ch_I σ) (hJ : ch_J σ) : zm_Met g mX2_solve σ [.ref (g.2.2.1 45)] (fun v τ => v = some (zv_i (τ 49 0)) ∧ zf_x σ τ [49] ∧ ch_S τ ∧ ch_J τ) := by
  refine zm_of (by decide +kernel) (Nat.le_of_ble_eq_true rfl) ?_
  intro k C hr
  show zw_W g mX2_solve k 0 [(0, .ref (g.2.2.1 45))] [] σ
  refine zr_aload_n (pc := 0) C dX2_solve_0 0 rfl ?_
  refine zr_callV (As := []) (rest := []) (b := 45) (pc := 1) C dX2_solve_1 kX2_farthestLimit vX2_24 rfl (by decide) (by decide) (hs_45 _) rfl (Nat.le_of_ble_eq_true rfl) (m_far g σ (by exact hI)) (fun v_ τ_ h_ => ?_)
  obtain ⟨rfl, rfl⟩ := h_
  show zw_W g mX2_solve k 4 [(0, .ref (g.2.2.1 45))] [zv_i (ch_m (σ 48) 6)] σ
  refine zr_istore_n (L' := [(1, zv_i (ch_m (σ 48) 6)), (0, .ref (g.2.2.1 45))]) (pc := 4) C dX2_solve_4 (by decide) rfl ?_
  refine zr_aload_n (pc := 5) C dX2_solve_5 1 rfl ?_
  refine zr_get (v := .ref (g.2.2.1 49)) (pc := 6) C 3 (some (some 49)) dX2_solve_6 fX2_21 (by decide) (hs_45 _) rfl rfl ?_
  refine zr_iconst (pc := 9) C dX2_solve_9 ?_
  refine zr_iconst (pc := 10) C dX2_solve_10 ?_
  refine zr_iastore (pc := 11) C dX2_solve_11 (by decide) (hs_49 _) (by omega) (by decide) (fun τ_1 e_2 => ?_)
  refine zr_iconst (pc := 12) C dX2_solve_12 ?_
  refine zr_istore_n (L' := [(2, zv_i 0), (1, zv_i (ch_m (σ 48) 6)), (0, .ref (g.2.2.1 45))]) (pc := 13) C dX2_solve_13 (by decide) rfl ?_
  refine zr_sub [2, 1, 0] rfl ?_
  have mb := ch_mb (li := σ 48) (fun k y1 y2 => (hI k y1 y2).2.2.1.2) 6 (by omega)
  refine l_solA C hr (ch_m (σ 48) 6) (by omega) σ hI hJ (fun k y1 y2 => mb.2.2 k y1 (by omega)) (fun σ1 hA => ?_) ((ch_m (σ 48) 6).toNat + 2) τ_1 0 (by omega) (by omega) ⟨zf_p (zf_r σ _) e_2 (by decide), by rw [e_2, zs_put_self], fun x x1 x2 => ?_, fun x x1 x2 x3 => ?_, fun x x1 x2 => absurd x2 (by omega)⟩
  · refine zr_iload_n (pc := 40) C dX2_solve_40 1 rfl ?_
    refine zr_istore_n (L' := [(2, zv_i (ch_m (σ 48) 6)), (0, .ref (g.2.2.1 45)), (1, zv_i (ch_m (σ 48) 6))]) (pc := 41) C dX2_solve_41 (by decide) rfl ?_
    refine zr_sub [1, 2, 0] rfl ?_
    exact l_solB C hr (ch_m (σ 48) 6) (by omega) σ hI hJ (fun k y1 y2 => mb.2.2 k y1 (by omega)) σ1 hA (fun τ z1 z2 z3 => ⟨rfl, z1, z2, z3⟩) ((ch_m (σ 48) 6).toNat + 2) σ1 (ch_m (σ 48) 6) (by omega) (by omega) ⟨hA.1, fun x x1 x2 => absurd x2.2.1 (by omega), fun x x1 x2 => x2.2.2, fun x x1 x2 x3 => by
      rcases hA.2.2.1 x x1 x2 with z | z
      · exact absurd ⟨x1, hA.2.2.2.1 x x1 x2 z, z⟩ x3
      · exact z⟩
  · rw [e_2, zs_put_at]
    by_cases z : x = 0
    · rw [if_pos z]; exact Or.inl rfl
    · rw [if_neg z]; exact Or.inr rfl
  · rw [e_2, zs_put_at] at x3
    by_cases z : x = 0
    · omega
    · rw [if_neg z] at x3
      have := hJ x x1 x2
      omega
end
section
/-! THE MATHEMATICS OF THE CLASS, part H: lines, orders, patterns -/
def ch_t (st : Int → Int) : List Int → Int
  | [] => 0
  | k :: r => st k + ch_t st r
theorem ch_ta (st : Int → Int) (k : Int) : ∀ l : List Int, ch_t st (l ++ [k]) = ch_t st l + st k
  | [] => by simp [ch_t]
  | q :: r => by rw [List.cons_append, ch_t, ch_t, ch_ta st k r]; omega
theorem ch_tc {st su : Int → Int} : ∀ {l : List Int}, (∀ k ∈ l, st k = su k) → ch_t st l = ch_t su l
  | [], _ => rfl
  | q :: r, h => by rw [ch_t, ch_t, h q List.mem_cons_self, ch_tc (fun k hk => h k (List.mem_cons_of_mem _ hk))]
/-- the sizes l stand from x up to e -/
def ch_P (st pr li G : Int → Int) : List Int → Int → Int → Prop
  | [], x, e => x = e
  | r :: l, x, e => (0 ≤ r ∧ r < 6) ∧ ch_c st pr li G x r ∧ (∀ k : Int, 0 ≤ k → k < r → ¬ ch_c st pr li G x k) ∧ ch_P st pr li G l (x + st r) e
theorem ch_Pa {st pr li G : Int → Int} {r : Int} : ∀ {l : List Int} {x e : Int}, ch_P st pr li G l x e → (0 ≤ r ∧ r < 6) → ch_c st pr li G e r → (∀ k : Int, 0 ≤ k → k < r → ¬ ch_c st pr li G e k) → ch_P st pr li G (l ++ [r]) x (e + st r)
  | [], x, e, h, a, b, c => by
    cases h
    exact ⟨a, b, c, rfl⟩
  | q :: l, x, e, ⟨h1, h2, h3, h4⟩, a, b, c => ⟨h1, h2, h3, ch_Pa h4 a b c⟩
theorem ch_Pl {st pr li G : Int → Int} : ∀ {l : List Int} {x e : Int}, ch_P st pr li G l x e → (∀ k : Int, 0 ≤ k → k < 6 → ¬ ch_c st pr li G e k) → ch_L st pr li G l x
  | [], x, e, h, a => by
    cases h
    exact a
  | q :: l, x, e, ⟨h1, h2, h3, h4⟩, a => ⟨h1, h2, h3, ch_Pl h4 a⟩
theorem ch_Pt {st pr li G : Int → Int} : ∀ {l : List Int} {x e : Int}, ch_P st pr li G l x e → e = x + ch_t st l
  | [], x, e, h => by
    cases h
    simp [ch_t]
  | q :: l, x, e, ⟨h1, h2, h3, h4⟩ => by
    rw [ch_Pt h4, ch_t]
    omega
theorem ch_Lm {st pr li G : Int → Int} : ∀ {l : List Int} {x : Int}, ch_L st pr li G l x → ∀ k ∈ l, 0 ≤ k ∧ k < 6
  | [], x, _, k, hk => by simp at hk
  | q :: l, x, ⟨h1, _, _, h4⟩, k, hk => by
    rcases List.mem_cons.mp hk with z | z
    · rw [z]; exact h1
    · exact ch_Lm h4 k z
/-- a line that holds the sizes l: A the sizes, P the places -/
def ln_R (st A P : Int → Int) (l : List Int) : Prop := ∀ (i : Nat) (k : Int), l[i]? = some k → A i = k ∧ P i = ch_t st (l.take i)
theorem ln_Ra {st A P A' P' : Int → Int} {l : List Int} {r : Int} (h : ln_R st A P l) (hA : ∀ i : Int, i ≠ l.length → A' i = A i) (hP : ∀ i : Int, i ≠ l.length → P' i = P i) (h1 : A' l.length = r) (h2 : P' l.length = ch_t st l) : ln_R st A' P' (l ++ [r]) := by
  intro i k hi
  by_cases hl : i < l.length
  · rw [List.getElem?_append_left hl] at hi
    rw [List.take_append_of_le_length (by omega), hA _ (by omega), hP _ (by omega)]
    exact h i k hi
  · rw [List.getElem?_append_right (by omega)] at hi
    have hz : i - l.length < 1 := (List.getElem?_eq_some_iff.mp hi).1
    have e0 : i = l.length := by omega
    subst e0
    rw [Nat.sub_self] at hi
    cases hi
    rw [List.take_append_of_le_length (Nat.le_refl _), List.take_length]
    exact ⟨h1, h2⟩
/-- how many of the first m are s -/
def ln_c (A : Int → Int) (s : Int) : Nat → Int
  | 0 => 0
  | m + 1 => ln_c A s m + (if A m = s then 1 else 0)
theorem ln_cs {A : Int → Int} {s a : Int} (h : 0 ≤ a) : ln_c A s (a + 1).toNat = ln_c A s a.toNat + (if A a = s then 1 else 0) := by
  rw [show (a + 1).toNat = a.toNat + 1 by omega, ln_c, show ((a.toNat : Nat) : Int) = a by omega]
theorem ln_cb {A : Int → Int} {s : Int} : ∀ m : Nat, 0 ≤ ln_c A s m ∧ ln_c A s m ≤ m
  | 0 => ⟨by simp [ln_c], by simp [ln_c]⟩
  | m + 1 => by
    have := ln_cb (A := A) (s := s) m
    rw [ln_c]
    by_cases h : A m = s
    · rw [if_pos h]; omega
    · rw [if_neg h]; omega
/-- what a shortage adds -/
def od_a (sh ad : Int → Int) (nd : Int) : Nat → Int
  | 0 => 0
  | m + 1 => if 0 < sh m ∧ sh m ≤ nd then max (od_a sh ad nd m) (ad m) else od_a sh ad nd m
theorem od_y {sh ad : Int → Int} {nd a : Int} (h0 : 0 ≤ a) (h : 0 < sh a ∧ sh a ≤ nd) : od_a sh ad nd (a + 1).toNat = max (od_a sh ad nd a.toNat) (ad a) := by
  rw [show (a + 1).toNat = a.toNat + 1 by omega, od_a, show ((a.toNat : Nat) : Int) = a by omega]
  exact if_pos h
theorem od_n {sh ad : Int → Int} {nd a : Int} (h0 : 0 ≤ a) (h : ¬ (0 < sh a ∧ sh a ≤ nd)) : od_a sh ad nd (a + 1).toNat = od_a sh ad nd a.toNat := by
  rw [show (a + 1).toNat = a.toNat + 1 by omega, od_a, show ((a.toNat : Nat) : Int) = a by omega]
  exact if_neg h
/-- the orders' numbers -/
def od_I (σ : zs_S) : Prop := (∀ k : Int, 0 ≤ k → k < 6 → 0 ≤ σ 41 k ∧ σ 41 k ≤ 1000) ∧ ∀ k : Int, 0 ≤ k → k < 4 → (0 ≤ σ 42 k ∧ σ 42 k ≤ 100000) ∧ (0 ≤ σ 43 k ∧ σ 43 k ≤ 100000)
theorem od_b {sh ad : Int → Int} {nd : Int} (h : ∀ k : Int, 0 ≤ k → k < 4 → 0 ≤ ad k ∧ ad k ≤ 100000) : ∀ m : Nat, m ≤ 4 → 0 ≤ od_a sh ad nd m ∧ od_a sh ad nd m ≤ 100000
  | 0, _ => ⟨by simp [od_a], by simp [od_a]⟩
  | m + 1, hm => by
    have := od_b (sh := sh) (nd := nd) h m (by omega)
    have := h m (by omega) (by omega)
    rw [od_a]
    by_cases c : 0 < sh m ∧ sh m ≤ nd
    · rw [if_pos c]; omega
    · rw [if_neg c]; omega
/-- how often a stack stands -/
def pa_s (h : Int) : Int := if h = -1 then 1 else 2
theorem pa_s1 {h : Int} (e : h = -1) : pa_s h = 1 := if_pos e
theorem pa_s2 {h : Int} (e : ¬ h = -1) : pa_s h = 2 := if_neg e
theorem pa_sb (h : Int) : pa_s h = 1 ∨ pa_s h = 2 := by
  by_cases e : h = -1
  · exact Or.inl (pa_s1 e)
  · exact Or.inr (pa_s2 e)
section ZTS
variable {g : zg_G} {M : zm_T} {k : zk_T} {pc : Nat} {L L' : List (Nat × Value)} {S : List Value} {σ : zs_S}
theorem zr_tabIn (C : zk_ok g M k) {dflt lo hi off : Int} {offs : Array Int} {len : Nat} {x : Int} (tgt : Nat) (hd : decode M.2.1 pc = .ok (.tableswitch dflt lo hi offs, len)) (hr : zi_r x) (h : lo ≤ x ∧ x ≤ hi) (ho : offs[(x - lo).toNat]? = some off) (ht : (pc : Int) + off = (tgt : Int))
    (K : zw_W g M k tgt L S σ) : zw_W g M k pc L (zv_i x :: S) σ := by
  obtain ⟨p, l, e, R, s, m, args, below, meth, c, cells, slots, Q, A⟩ := k
  obtain ⟨hx, hb, hml, hown, hts, hK, hA, hf1, hf2, hc1, hc2, hN⟩ := C
  intro H locs ls hP hS hl
  exact lv_tableIn hx hb hd (by rw [zi_toInt hr]; omega) (by rw [zi_toInt hr]; omega) (by rw [zi_toInt hr]; exact ho) ht (K H locs ls hP hS hl)
theorem zr_tabOut (C : zk_ok g M k) {dflt lo hi : Int} {offs : Array Int} {len : Nat} {x : Int} (tgt : Nat) (hd : decode M.2.1 pc = .ok (.tableswitch dflt lo hi offs, len)) (hr : zi_r x) (h : x < lo ∨ hi < x) (ht : (pc : Int) + dflt = (tgt : Int))
    (K : zw_W g M k tgt L S σ) : zw_W g M k pc L (zv_i x :: S) σ := by
  obtain ⟨p, l, e, R, s, m, args, below, meth, c, cells, slots, Q, A⟩ := k
  obtain ⟨hx, hb, hml, hown, hts, hK, hA, hf1, hf2, hc1, hc2, hN⟩ := C
  intro H locs ls hP hS hl
  exact lv_tableOut hx hb hd (by rw [zi_toInt hr]; exact h) ht (K H locs ls hP hS hl)
end ZTS
end
section
set_option maxRecDepth 20000 in
set_option maxHeartbeats 4000000 in
theorem m_ladd (g : zg_G) (σ : zs_S) (q : Nat) (hq : zs_l q) (s x : Int) (hcc : 0 ≤ σ q 0 ∧ σ q 0 < zs_n q) : zm_Met g mX4_add σ [.ref (g.2.2.1 (q)), zv_i s, zv_i x] (fun v τ => v = none ∧ τ q 0 = σ q 0 + 1 ∧ τ (q + 1) (σ q 0) = s ∧ τ (q + 2) (σ q 0) = x ∧ (∀ i, i ≠ σ q 0 → τ (q + 1) i = σ (q + 1) i) ∧ (∀ i, i ≠ σ q 0 → τ (q + 2) i = σ (q + 2) i) ∧ zf_x σ τ [q, q + 1, q + 2]) := by
  refine zm_of (by decide +kernel) (Nat.le_of_ble_eq_true rfl) ?_
  intro k C hr
  show zw_W g mX4_add k 0 [(0, .ref (g.2.2.1 (q))), (1, zv_i s), (2, zv_i x)] [] σ
  have hn9 := zs_n90 (q := q)
  refine zr_aload_n (pc := 0) C dX4_add_0 0 rfl ?_
  refine zr_get (v := zv_i (σ q 0)) (pc := 1) C 0 none dX4_add_1 fX4_16 (hn_line hq) (hs_line hq) rfl rfl ?_
  refine zr_aload_n (pc := 4) C dX4_add_4 0 rfl ?_
  refine zr_get (v := .ref (g.2.2.1 (q + 1))) (pc := 5) C 1 (some (some (q + 1))) dX4_add_5 fX4_7 (hn_line hq) (hs_line hq) rfl rfl ?_
  refine zr_alen (pc := 8) C (zs_n q : Int) dX4_add_8 (hn_line1 hq) (hs_line1 hq) (by decide) rfl ?_
  refine zr_icmp_ge (pc := 9) C 42 dX4_add_9 (by decide) (by omega) (by omega) (fun h_1 => ?_) (fun h_1 => ?_)
  · exact absurd h_1 (by omega)
  · refine zr_aload_n (pc := 12) C dX4_add_12 0 rfl ?_
    refine zr_get (v := .ref (g.2.2.1 (q + 1))) (pc := 13) C 1 (some (some (q + 1))) dX4_add_13 fX4_7 (hn_line hq) (hs_line hq) rfl rfl ?_
    refine zr_aload_n (pc := 16) C dX4_add_16 0 rfl ?_
    refine zr_get (v := zv_i (σ q 0)) (pc := 17) C 0 none dX4_add_17 fX4_16 (hn_line hq) (hs_line hq) rfl rfl ?_
    refine zr_iload_n (pc := 20) C dX4_add_20 1 rfl ?_
    refine zr_iastore (pc := 21) C dX4_add_21 (hn_line1 hq) (hs_line1 hq) (by omega) (by omega) (fun τ_2 e_3 => ?_)
    have hv2 : τ_2 q 0 = σ q 0 := by rw [e_3, zs_put_ne (by omega)]
    refine zr_aload_n (pc := 22) C dX4_add_22 0 rfl ?_
    refine zr_get (v := .ref (g.2.2.1 (q + 2))) (pc := 23) C 2 (some (some (q + 2))) dX4_add_23 fX4_13 (hn_line hq) (hs_line hq) rfl rfl ?_
    refine zr_aload_n (pc := 26) C dX4_add_26 0 rfl ?_
    refine zr_get (v := zv_i (τ_2 q 0)) (pc := 27) C 0 none dX4_add_27 fX4_16 (hn_line hq) (hs_line hq) rfl rfl ?_
    refine zr_iload_n (pc := 30) C dX4_add_30 2 rfl ?_
    refine zr_iastore (pc := 31) C dX4_add_31 (hn_line2 hq) (hs_line2 hq) (by omega) (by omega) (fun τ_4 e_5 => ?_)
    refine zr_aload_n (pc := 32) C dX4_add_32 0 rfl ?_
    have hv1 : τ_4 q 0 = σ q 0 := by rw [e_5, zs_put_ne (by omega), hv2]
    refine zr_dup (pc := 33) C dX4_add_33 rfl ?_
    refine zr_get (v := zv_i (τ_4 q 0)) (pc := 34) C 0 none dX4_add_34 fX4_16 (hn_line hq) (hs_line hq) rfl rfl ?_
    refine zr_iconst (pc := 37) C dX4_add_37 ?_
    refine zr_iadd (pc := 38) C dX4_add_38 ?_
    refine zr_put (pc := 39) C 0 0 rfl dX4_add_39 pX4_16 (hn_line hq) (hs_line hq) rfl (fun τ_6 e_7 => ?_)
    exact zr_vret (pc := 42) C hr dX4_add_42 rfl (⟨rfl, by rw [e_7, zs_put_self, hv1], by rw [e_7, zs_put_ne (by omega), e_5, zs_put_ne (by omega), e_3, zs_put_self], by rw [e_7, zs_put_ne (by omega), e_5, zs_put_at, if_pos hv2.symm], fun i hi => by rw [e_7, zs_put_ne (by omega), e_5, zs_put_ne (by omega), e_3, zs_put_off hi], fun i hi => by rw [e_7, zs_put_ne (by omega), e_5, zs_put_off (by rw [hv2]; exact hi), e_3, zs_put_ne (by omega)], zf_p (zf_p (zf_p (zf_r σ _) e_3 (by simp)) e_5 (by simp)) e_7 (by simp)⟩)

set_option maxRecDepth 20000 in
set_option maxHeartbeats 4000000 in
theorem l_lcount {g : zg_G} {k : zk_T} {Q : Option Value → zs_S → Prop} (C : zk_ok g mX4_countOf k) (hr : zk_ret g mX4_countOf Q k) (q : Nat) (hq : zs_l q) (s : Int) (hs : zi_r s) (σ0 : zs_S) (hcc : 0 ≤ σ0 q 0 ∧ σ0 q 0 ≤ zs_n q) (hA : ∀ i : Int, 0 ≤ i → i < σ0 q 0 → 0 ≤ σ0 (q + 1) i ∧ σ0 (q + 1) i < 6) (hQ : Q (some (zv_i (ln_c (σ0 (q + 1)) s (σ0 q 0).toNat))) σ0) : ∀ (N : Nat) (σ : zs_S) (a m : Int), (σ0 q 0 - a).toNat < N → (σ = σ0) → (0 ≤ a ∧ a ≤ σ0 q 0) → (m = ln_c (σ0 (q + 1)) s a.toNat) → zw_W g mX4_countOf k 4 [(0, .ref (g.2.2.1 (q))), (1, zv_i s), (2, zv_i m), (3, zv_i a)] [] σ := by
  intro N
  induction N with
  | zero =>
    intro σ a m hN
    exact absurd hN (by omega)
  | succ N ih =>
    intro σ a m hN hss ha hm
    subst hss
    have hn9 := zs_n90 (q := q)
    refine zr_iload_n (pc := 4) C dX4_countOf_4 3 rfl ?_
    refine zr_aload_n (pc := 5) C dX4_countOf_5 0 rfl ?_
    refine zr_get (v := zv_i (σ q 0)) (pc := 6) C 0 none dX4_countOf_6 fX4_16 (hn_line hq) (hs_line hq) rfl rfl ?_
    refine zr_icmp_ge (pc := 9) C 31 dX4_countOf_9 (by decide) (by omega) (by omega) (fun h_1 => ?_) (fun h_1 => ?_)
    · refine zr_iload_n (pc := 31) C dX4_countOf_31 2 rfl ?_
      exact zr_iret (pc := 32) C hr dX4_countOf_32 rfl (by rw [hm, show a.toNat = (σ q 0).toNat by omega]; exact hQ)
    · have hb := hA a (by omega) (by omega)
      refine zr_aload_n (pc := 12) C dX4_countOf_12 0 rfl ?_
      refine zr_get (v := .ref (g.2.2.1 (q + 1))) (pc := 13) C 1 (some (some (q + 1))) dX4_countOf_13 fX4_7 (hn_line hq) (hs_line hq) rfl rfl ?_
      refine zr_iload_n (pc := 16) C dX4_countOf_16 3 rfl ?_
      refine zr_iaload (pc := 17) C dX4_countOf_17 (hn_line1 hq) (hs_line1 hq) (by omega) (by omega) ?_
      refine zr_iload_n (pc := 18) C dX4_countOf_18 1 rfl ?_
      refine zr_icmp_ne (pc := 19) C 25 dX4_countOf_19 (by decide) (by omega) (by omega) (fun h_2 => ?_) (fun h_2 => ?_)
      · 
        refine zr_iinc (L' := [(3, zv_i (a + 1)), (0, .ref (g.2.2.1 (q))), (1, zv_i s), (2, zv_i m)]) (pc := 25) C dX4_countOf_25 3 rfl (by decide) rfl ?_
        refine zr_goto (pc := 28) C 4 dX4_countOf_28 (by decide) ?_
        refine zr_sub [1, 2, 3, 0] rfl ?_
        exact ih σ (a + 1) m (by omega) rfl (by omega) (by rw [ln_cs (by omega), if_neg (by omega), hm]; omega)
      · 
        refine zr_iinc (L' := [(2, zv_i (m + 1)), (0, .ref (g.2.2.1 (q))), (1, zv_i s), (3, zv_i a)]) (pc := 22) C dX4_countOf_22 2 rfl (by decide) rfl ?_
        refine zr_iinc (L' := [(3, zv_i (a + 1)), (2, zv_i (m + 1)), (0, .ref (g.2.2.1 (q))), (1, zv_i s)]) (pc := 25) C dX4_countOf_25 3 rfl (by decide) rfl ?_
        refine zr_goto (pc := 28) C 4 dX4_countOf_28 (by decide) ?_
        refine zr_sub [2, 3, 1, 0] rfl ?_
        exact ih σ (a + 1) (m + 1) (by omega) rfl (by omega) (by rw [ln_cs (by omega), if_pos (by omega), hm])

set_option maxRecDepth 20000 in
set_option maxHeartbeats 4000000 in
theorem m_lcount (g : zg_G) (σ : zs_S) (q : Nat) (hq : zs_l q) (s : Int) (hs : zi_r s) (hcc : 0 ≤ σ q 0 ∧ σ q 0 ≤ zs_n q) (hA : ∀ i : Int, 0 ≤ i → i < σ q 0 → 0 ≤ σ (q + 1) i ∧ σ (q + 1) i < 6) : zm_Met g mX4_countOf σ [.ref (g.2.2.1 (q)), zv_i s] (fun v τ => v = some (zv_i (ln_c (σ (q + 1)) s (σ q 0).toNat)) ∧ σ = τ) := by
  refine zm_of (by decide +kernel) (Nat.le_of_ble_eq_true rfl) ?_
  intro k C hr
  show zw_W g mX4_countOf k 0 [(0, .ref (g.2.2.1 (q))), (1, zv_i s)] [] σ
  refine zr_iconst (pc := 0) C dX4_countOf_0 ?_
  refine zr_istore_n (L' := [(2, zv_i 0), (0, .ref (g.2.2.1 (q))), (1, zv_i s)]) (pc := 1) C dX4_countOf_1 (by decide) rfl ?_
  refine zr_iconst (pc := 2) C dX4_countOf_2 ?_
  refine zr_istore_n (L' := [(3, zv_i 0), (2, zv_i 0), (0, .ref (g.2.2.1 (q))), (1, zv_i s)]) (pc := 3) C dX4_countOf_3 (by decide) rfl ?_
  refine zr_sub [2, 3, 1, 0] rfl ?_
  exact l_lcount C hr q hq s hs σ hcc hA ⟨rfl, rfl⟩ ((σ q 0).toNat + 1) σ 0 0 (by omega) rfl (by omega) rfl

set_option maxRecDepth 20000 in
set_option maxHeartbeats 4000000 in
theorem l_lay {g : zg_G} {k : zk_T} {Q : Option Value → zs_S → Prop} (C : zk_ok g mX2_lay k) (hr : zk_ret g mX2_lay Q k) (q : Nat) (hq : zs_l q) (σ0 : zs_S) (hI : ch_I σ0) (hJ : ch_J σ0) (Mk : Int → Prop) (hM : ch_M (σ0 46) (σ0 48) Mk) (gp : Int) (hgp : 0 ≤ gp ∧ ∀ k : Int, 0 ≤ k → k < 6 → 0 ≤ σ0 48 k → 50 + gp ≤ σ0 46 k ∧ σ0 48 k ≤ 50 * zs_n q + gp) (hQ : ∀ τ l, zf_x σ0 τ [q, q + 1, q + 2] → ch_L (σ0 46) (σ0 47) (σ0 48) (σ0 49) l 0 → τ q 0 = l.length → (l.length : Int) ≤ zs_n q → ln_R (σ0 46) (τ (q + 1)) (τ (q + 2)) l → Q none τ) : ∀ (N : Nat) (σ : zs_S) (l : List Int) (x a : Int), (180 - a).toNat < N → (a = l.length ∧ a ≤ 180 ∧ a ≤ zs_n q) → (50 * a ≤ x) → (Mk x) → (zf_x σ0 σ [q, q + 1, q + 2]) → (ch_P (σ0 46) (σ0 47) (σ0 48) (σ0 49) l 0 x) → (σ q 0 = a) → (ln_R (σ0 46) (σ (q + 1)) (σ (q + 2)) l) → zw_W g mX2_lay k 9 [(0, .ref (g.2.2.1 45)), (1, .ref (g.2.2.1 (q))), (2, zv_i x), (3, zv_i a)] [] σ := by
  intro N
  induction N with
  | zero =>
    intro σ l x a hN
    exact absurd hN (by omega)
  | succ N ih =>
    intro σ l x a hN ha hx hMx fr hP hc hR
    have hn9 := zs_n90 (q := q)
    have hx9 := (hM.2 x hMx).1
    have e4 : ∀ c : Nat, 46 ≤ c → c ≤ 49 → σ c = σ0 c := fun c y1 y2 => funext (fr c (by simp; omega))
    have i46 := e4 46 (by omega) (by omega)
    have i47 := e4 47 (by omega) (by omega)
    have i48 := e4 48 (by omega) (by omega)
    have i49 := e4 49 (by omega) (by omega)
    have hI1 : ch_I σ := fun k y1 y2 => by rw [i46, i47, i48]; exact hI k y1 y2
    have hJ1 : ch_J σ := fun k y1 y2 => by rw [i49]; exact hJ k y1 y2
    refine zr_iload_n (pc := 9) C dX2_lay_9 3 rfl ?_
    refine zr_sipush (pc := 10) C dX2_lay_10 (by decide) ?_
    refine zr_icmp_ge (pc := 13) C 53 dX2_lay_13 (by decide) (by omega) (by omega) (fun h_1 => ?_) (fun h_1 => ?_)
    · exact zr_vret (pc := 53) C hr dX2_lay_53 rfl (hQ σ l fr (ch_Pl hP (by
            intro k y1 y2 z
            have kb := hI k y1 y2
            have z1 := z.1
            have kg := hgp.2 k y1 y2 (by omega)
            omega)) (by omega) (by omega) hR)
    · refine zr_aload_n (pc := 16) C dX2_lay_16 0 rfl ?_
      refine zr_iload_n (pc := 17) C dX2_lay_17 2 rfl ?_
      refine zr_callV (As := [zv_i x]) (rest := []) (b := 45) (pc := 18) C dX2_lay_18 kX2_lowestFrom vX2_42 rfl (by decide) (by decide) (hs_45 _) rfl (Nat.le_of_ble_eq_true rfl) (m_low g σ x (by omega) (by exact hI1) (by exact fun a y1 y2 y3 => hJ1 _ (by have := (hI1 a y1 y2).1; omega) (by have := (hI1 a y1 y2).2.2.1; omega)) (by exact hJ1 x hx9.1 hx9.2)) (fun v_ τ_ h_ => ?_)
      obtain ⟨r_2, rfl, rfl, h_3⟩ := h_
      show zw_W g mX2_lay k 21 [(0, .ref (g.2.2.1 45)), (1, .ref (g.2.2.1 (q))), (2, zv_i x), (3, zv_i a)] [zv_i r_2] σ
      refine zr_istore (L' := [(4, zv_i r_2), (0, .ref (g.2.2.1 45)), (1, .ref (g.2.2.1 (q))), (2, zv_i x), (3, zv_i a)]) (pc := 21) C dX2_lay_21 (by decide) rfl ?_
      have hk := h_3
      rw [i46, i47, i48, i49] at hk
      have rb : -1 ≤ r_2 ∧ r_2 < 6 := by
        rcases hk with z | z
        · omega
        · omega
      refine zr_iload (pc := 23) C dX2_lay_23 0 rfl ?_
      refine zr_iconst (pc := 25) C dX2_lay_25 ?_
      refine zr_icmp_ne (pc := 26) C 30 dX2_lay_26 (by decide) (by omega) (by omega) (fun h_4 => ?_) (fun h_4 => ?_)
      · obtain ⟨k1, k2, k3, k4⟩ : 0 ≤ r_2 ∧ r_2 < 6 ∧ ch_c (σ0 46) (σ0 47) (σ0 48) (σ0 49) x r_2 ∧ ∀ k : Int, 0 ≤ k → k < r_2 → ¬ ch_c (σ0 46) (σ0 47) (σ0 48) (σ0 49) x k := by
          rcases hk with z | z
          · exact absurd z.1 (by omega)
          · exact z
        have kb := hI r_2 k1 k2
        have kc := k3.1
        have kg := hgp.2 r_2 k1 k2 (by omega)
        refine zr_aload_n (pc := 30) C dX2_lay_30 2 rfl ?_
        refine zr_iload (pc := 31) C dX2_lay_31 0 rfl ?_
        refine zr_iload_n (pc := 33) C dX2_lay_33 3 rfl ?_
        refine zr_callV (As := [zv_i r_2, zv_i x]) (rest := []) (b := q) (pc := 34) C dX2_lay_34 kX4_add vX2_45 rfl (by decide) (hn_line hq) (hs_line hq) rfl (Nat.le_of_ble_eq_true rfl) (m_ladd g σ q hq r_2 x (by omega)) (fun v_ τ_ h_ => ?_)
        obtain ⟨rfl, h_6⟩ := h_
        generalize τ_ = τ_5 at h_6 ⊢
        show zw_W g mX2_lay k 37 [(4, zv_i r_2), (0, .ref (g.2.2.1 45)), (1, .ref (g.2.2.1 (q))), (2, zv_i x), (3, zv_i a)] [] τ_5
        refine zr_iload_n (pc := 37) C dX2_lay_37 3 rfl ?_
        refine zr_aload_n (pc := 38) C dX2_lay_38 1 rfl ?_
        refine zr_get (v := .ref (g.2.2.1 46)) (pc := 39) C 0 (some (some 46)) dX2_lay_39 fX2_9 (by decide) (hs_45 _) rfl rfl ?_
        refine zr_iload (pc := 42) C dX2_lay_42 0 rfl ?_
        refine zr_iaload (pc := 44) C dX2_lay_44 (by decide) (hs_46 _) (by omega) (by decide) ?_
        refine zr_iadd (pc := 45) C dX2_lay_45 ?_
        refine zr_istore_n (L' := [(2, zv_i (x + (τ_5 46 r_2))), (4, zv_i r_2), (0, .ref (g.2.2.1 45)), (1, .ref (g.2.2.1 (q))), (3, zv_i a)]) (pc := 46) C dX2_lay_46 (by decide) rfl ?_
        refine zr_iinc (L' := [(3, zv_i (a + 1)), (2, zv_i (x + (τ_5 46 r_2))), (4, zv_i r_2), (0, .ref (g.2.2.1 45)), (1, .ref (g.2.2.1 (q)))]) (pc := 47) C dX2_lay_47 4 rfl (by decide) rfl ?_
        refine zr_goto (pc := 50) C 9 dX2_lay_50 (by decide) ?_
        obtain ⟨d1, d2, d3, d4, d5, d6⟩ := h_6
        rw [hc] at d1 d2 d3 d4 d5
        have e46 : τ_5 46 r_2 = σ0 46 r_2 := by rw [d6 46 (by simp; omega), i46]
        refine zr_sub [3, 4, 1, 0] rfl ?_
        exact ih τ_5 (l ++ [r_2]) (x + τ_5 46 r_2) (a + 1) (by omega) (by rw [List.length_append]; simp; omega) (by omega) (by rw [e46]; exact (hM.2 x hMx).2 r_2 k1 k2 kc) (zf_t fr d6 (by simp) (by simp)) (by rw [e46]; exact ch_Pa hP ⟨k1, k2⟩ k3 k4) d1 (by
          have ea := ha.1
          rw [ea] at d2 d3 d4 d5
          exact ln_Ra hR d4 d5 d2 (by rw [d3]; have := ch_Pt hP; omega))
      · exact zr_vret (pc := 29) C hr dX2_lay_29 rfl (hQ σ l fr (ch_Pl hP (by
                rcases hk with z | z
                · exact z.2
                · exact absurd z.1 (by omega))) (by omega) (by omega) hR)

set_option maxRecDepth 20000 in
set_option maxHeartbeats 4000000 in
theorem m_lay (g : zg_G) (σ : zs_S) (q : Nat) (hq : zs_l q) (hI : ch_I σ) (hJ : ch_J σ) (hS : ch_S σ) (gp : Int) (hgp : 0 ≤ gp ∧ ∀ k : Int, 0 ≤ k → k < 6 → 0 ≤ σ 48 k → 50 + gp ≤ σ 46 k ∧ σ 48 k ≤ 50 * zs_n q + gp) : zm_Met g mX2_lay σ [.ref (g.2.2.1 45), .ref (g.2.2.1 (q))] (fun v τ => v = none ∧ zf_x σ τ [q, q + 1, q + 2] ∧ ∃ l, ch_L (σ 46) (σ 47) (σ 48) (σ 49) l 0 ∧ τ q 0 = l.length ∧ (l.length : Int) ≤ zs_n q ∧ ln_R (σ 46) (τ (q + 1)) (τ (q + 2)) l) := by
  refine zm_of (by decide +kernel) (Nat.le_of_ble_eq_true rfl) ?_
  intro k C hr
  show zw_W g mX2_lay k 0 [(0, .ref (g.2.2.1 45)), (1, .ref (g.2.2.1 (q)))] [] σ
  obtain ⟨Mk, hM, hBl⟩ := hS
  have hn9 := zs_n90 (q := q)
  refine zr_aload_n (pc := 0) C dX2_lay_0 1 rfl ?_
  refine zr_iconst (pc := 1) C dX2_lay_1 ?_
  refine zr_put (pc := 2) C 0 0 rfl dX2_lay_2 pX2_36 (hn_line hq) (hs_line hq) rfl (fun τ_1 e_2 => ?_)
  refine zr_iconst (pc := 5) C dX2_lay_5 ?_
  refine zr_istore_n (L' := [(2, zv_i 0), (0, .ref (g.2.2.1 45)), (1, .ref (g.2.2.1 (q)))]) (pc := 6) C dX2_lay_6 (by decide) rfl ?_
  refine zr_iconst (pc := 7) C dX2_lay_7 ?_
  refine zr_istore_n (L' := [(3, zv_i 0), (2, zv_i 0), (0, .ref (g.2.2.1 45)), (1, .ref (g.2.2.1 (q)))]) (pc := 8) C dX2_lay_8 (by decide) rfl ?_
  have e4 : ∀ c : Nat, 46 ≤ c → c ≤ 49 → τ_1 c = σ c := fun c y1 y2 => funext fun j => by rw [e_2, zs_put_ne (by omega)]
  refine zr_sub [2, 3, 1, 0] rfl ?_
  exact l_lay C hr q hq σ hI hJ Mk hM gp hgp (fun τ l z1 z2 z3 z4 z5 => ⟨rfl, z1, l, z2, z3, z4, z5⟩) 181 τ_1 [] 0 0 (by omega) (by simp) (by omega) hM.1 (zf_p (zf_r σ _) e_2 (by simp)) rfl (by rw [e_2, zs_put_self]) (fun j k h => by simp at h)

set_option maxRecDepth 20000 in
set_option maxHeartbeats 4000000 in
theorem l_addf {g : zg_G} {k : zk_T} {Q : Option Value → zs_S → Prop} (C : zk_ok g mX6_additionFor k) (hr : zk_ret g mX6_additionFor Q k) (s : Int) (hs : 0 ≤ s ∧ s < 6) (σ0 : zs_S) (hO : od_I σ0) (hQ : Q (some (zv_i (od_a (σ0 42) (σ0 43) (σ0 41 s) 4))) σ0) : ∀ (N : Nat) (σ : zs_S) (a m : Int), (4 - a).toNat < N → (σ = σ0) → (0 ≤ a ∧ a ≤ 4) → (m = od_a (σ0 42) (σ0 43) (σ0 41 s) a.toNat) → zw_W g mX6_additionFor k 4 [(0, .ref (g.2.2.1 40)), (1, zv_i s), (2, zv_i m), (3, zv_i a)] [] σ := by
  intro N
  induction N with
  | zero =>
    intro σ a m hN
    exact absurd hN (by omega)
  | succ N ih =>
    intro σ a m hN hss ha hm
    subst hss
    have mb := od_b (sh := σ 42) (ad := σ 43) (nd := σ 41 s) (fun k y1 y2 => (hO.2 k y1 y2).2) a.toNat (by omega)
    rw [← hm] at mb
    have nb := hO.1 s hs.1 hs.2
    refine zr_iload_n (pc := 4) C dX6_additionFor_4 3 rfl ?_
    refine zr_iconst (pc := 5) C dX6_additionFor_5 ?_
    refine zr_icmp_ge (pc := 6) C 50 dX6_additionFor_6 (by decide) (by omega) (by omega) (fun h_1 => ?_) (fun h_1 => ?_)
    · refine zr_iload_n (pc := 50) C dX6_additionFor_50 2 rfl ?_
      exact zr_iret (pc := 51) C hr dX6_additionFor_51 rfl (by rw [hm, show a.toNat = 4 by omega]; exact hQ)
    · have kb := hO.2 a (by omega) (by omega)
      refine zr_aload_n (pc := 9) C dX6_additionFor_9 0 rfl ?_
      refine zr_get (v := .ref (g.2.2.1 42)) (pc := 10) C 1 (some (some 42)) dX6_additionFor_10 fX6_15 (by decide) (hs_40 _) rfl rfl ?_
      refine zr_iload_n (pc := 13) C dX6_additionFor_13 3 rfl ?_
      refine zr_iaload (pc := 14) C dX6_additionFor_14 (by decide) (hs_42 _) (by omega) (by decide) ?_
      refine zr_if_le (pc := 15) C 44 dX6_additionFor_15 (by decide) (by omega) (fun h_2 => ?_) (fun h_2 => ?_)
      · 
        refine zr_iinc (L' := [(3, zv_i (a + 1)), (0, .ref (g.2.2.1 40)), (1, zv_i s), (2, zv_i m)]) (pc := 44) C dX6_additionFor_44 3 rfl (by decide) rfl ?_
        refine zr_goto (pc := 47) C 4 dX6_additionFor_47 (by decide) ?_
        refine zr_sub [1, 2, 3, 0] rfl ?_
        exact ih σ (a + 1) m (by omega) rfl (by omega) (by rw [od_n (by omega) (by omega), hm])
      · refine zr_aload_n (pc := 18) C dX6_additionFor_18 0 rfl ?_
        refine zr_get (v := .ref (g.2.2.1 42)) (pc := 19) C 1 (some (some 42)) dX6_additionFor_19 fX6_15 (by decide) (hs_40 _) rfl rfl ?_
        refine zr_iload_n (pc := 22) C dX6_additionFor_22 3 rfl ?_
        refine zr_iaload (pc := 23) C dX6_additionFor_23 (by decide) (hs_42 _) (by omega) (by decide) ?_
        refine zr_aload_n (pc := 24) C dX6_additionFor_24 0 rfl ?_
        refine zr_get (v := .ref (g.2.2.1 41)) (pc := 25) C 0 (some (some 41)) dX6_additionFor_25 fX6_9 (by decide) (hs_40 _) rfl rfl ?_
        refine zr_iload_n (pc := 28) C dX6_additionFor_28 1 rfl ?_
        refine zr_iaload (pc := 29) C dX6_additionFor_29 (by decide) (hs_41 _) (by omega) (by decide) ?_
        refine zr_icmp_gt (pc := 30) C 44 dX6_additionFor_30 (by decide) (by omega) (by omega) (fun h_3 => ?_) (fun h_3 => ?_)
        · 
          refine zr_iinc (L' := [(3, zv_i (a + 1)), (0, .ref (g.2.2.1 40)), (1, zv_i s), (2, zv_i m)]) (pc := 44) C dX6_additionFor_44 3 rfl (by decide) rfl ?_
          refine zr_goto (pc := 47) C 4 dX6_additionFor_47 (by decide) ?_
          refine zr_sub [1, 2, 3, 0] rfl ?_
          exact ih σ (a + 1) m (by omega) rfl (by omega) (by rw [od_n (by omega) (by omega), hm])
        · 
          refine zr_iload_n (pc := 33) C dX6_additionFor_33 2 rfl ?_
          refine zr_aload_n (pc := 34) C dX6_additionFor_34 0 rfl ?_
          refine zr_get (v := .ref (g.2.2.1 43)) (pc := 35) C 2 (some (some 43)) dX6_additionFor_35 fX6_18 (by decide) (hs_40 _) rfl rfl ?_
          refine zr_iload_n (pc := 38) C dX6_additionFor_38 3 rfl ?_
          refine zr_iaload (pc := 39) C dX6_additionFor_39 (by decide) (hs_43 _) (by omega) (by decide) ?_
          refine zr_max (pc := 40) C dX6_additionFor_40 xX6_21 (by decide) (Nat.le_of_ble_eq_true rfl) (by omega) (by omega) ?_
          refine zr_istore_n (L' := [(2, zv_i (max m (σ 43 a))), (0, .ref (g.2.2.1 40)), (1, zv_i s), (3, zv_i a)]) (pc := 43) C dX6_additionFor_43 (by decide) rfl ?_
          refine zr_iinc (L' := [(3, zv_i (a + 1)), (2, zv_i (max m (σ 43 a))), (0, .ref (g.2.2.1 40)), (1, zv_i s)]) (pc := 44) C dX6_additionFor_44 3 rfl (by decide) rfl ?_
          refine zr_goto (pc := 47) C 4 dX6_additionFor_47 (by decide) ?_
          refine zr_sub [2, 3, 1, 0] rfl ?_
          exact ih σ (a + 1) (max m (σ 43 a)) (by omega) rfl (by omega) (by rw [od_y (by omega) (by omega), hm])

set_option maxRecDepth 20000 in
set_option maxHeartbeats 4000000 in
theorem m_addf (g : zg_G) (σ : zs_S) (s : Int) (hs : 0 ≤ s ∧ s < 6) (hO : od_I σ) : zm_Met g mX6_additionFor σ [.ref (g.2.2.1 40), zv_i s] (fun v τ => v = some (zv_i (od_a (σ 42) (σ 43) (σ 41 s) 4)) ∧ σ = τ) := by
  refine zm_of (by decide +kernel) (Nat.le_of_ble_eq_true rfl) ?_
  intro k C hr
  show zw_W g mX6_additionFor k 0 [(0, .ref (g.2.2.1 40)), (1, zv_i s)] [] σ
  refine zr_iconst (pc := 0) C dX6_additionFor_0 ?_
  refine zr_istore_n (L' := [(2, zv_i 0), (0, .ref (g.2.2.1 40)), (1, zv_i s)]) (pc := 1) C dX6_additionFor_1 (by decide) rfl ?_
  refine zr_iconst (pc := 2) C dX6_additionFor_2 ?_
  refine zr_istore_n (L' := [(3, zv_i 0), (2, zv_i 0), (0, .ref (g.2.2.1 40)), (1, zv_i s)]) (pc := 3) C dX6_additionFor_3 (by decide) rfl ?_
  refine zr_sub [2, 3, 1, 0] rfl ?_
  exact l_addf C hr s hs σ hO ⟨rfl, rfl⟩ 5 σ 0 0 (by omega) rfl (by omega) rfl

set_option maxRecDepth 20000 in
set_option maxHeartbeats 4000000 in
theorem m_deliver (g : zg_G) (σ : zs_S) (s c : Int) (hs : 0 ≤ s ∧ s < 6) (hb : 0 ≤ σ 41 s ∧ σ 41 s ≤ 1000) (hc : 0 ≤ c ∧ c ≤ 1000) : zm_Met g mX6_deliver σ [.ref (g.2.2.1 40), zv_i s, zv_i c] (fun v τ => v = none ∧ τ = zs_put σ 41 s (max 0 (σ 41 s - c))) := by
  refine zm_of (by decide +kernel) (Nat.le_of_ble_eq_true rfl) ?_
  intro k C hr
  show zw_W g mX6_deliver k 0 [(0, .ref (g.2.2.1 40)), (1, zv_i s), (2, zv_i c)] [] σ
  refine zr_aload_n (pc := 0) C dX6_deliver_0 0 rfl ?_
  refine zr_get (v := .ref (g.2.2.1 41)) (pc := 1) C 0 (some (some 41)) dX6_deliver_1 fX6_9 (by decide) (hs_40 _) rfl rfl ?_
  refine zr_iload_n (pc := 4) C dX6_deliver_4 1 rfl ?_
  refine zr_iconst (pc := 5) C dX6_deliver_5 ?_
  refine zr_aload_n (pc := 6) C dX6_deliver_6 0 rfl ?_
  refine zr_get (v := .ref (g.2.2.1 41)) (pc := 7) C 0 (some (some 41)) dX6_deliver_7 fX6_9 (by decide) (hs_40 _) rfl rfl ?_
  refine zr_iload_n (pc := 10) C dX6_deliver_10 1 rfl ?_
  refine zr_iaload (pc := 11) C dX6_deliver_11 (by decide) (hs_41 _) (by omega) (by decide) ?_
  refine zr_iload_n (pc := 12) C dX6_deliver_12 2 rfl ?_
  refine zr_isub (pc := 13) C dX6_deliver_13 ?_
  refine zr_max (pc := 14) C dX6_deliver_14 xX6_21 (by decide) (Nat.le_of_ble_eq_true rfl) (by omega) (by omega) ?_
  refine zr_iastore (pc := 17) C dX6_deliver_17 (by decide) (hs_41 _) (by omega) (by decide) (fun τ_1 e_2 => ?_)
  exact zr_vret (pc := 18) C hr dX6_deliver_18 rfl (⟨rfl, e_2⟩)
end
section
/-- how a pattern's numbers lie -/
def pa_I (σ : zs_S) (p : Nat) : Prop := (-1 ≤ σ p 0 ∧ σ p 0 ≤ 5000) ∧ (0 ≤ σ p 1 ∧ σ p 1 ≤ 1000000000) ∧ (0 ≤ σ (p + 1) 0 ∧ σ (p + 1) 0 ≤ 180) ∧ (0 ≤ σ (p + 4) 0 ∧ σ (p + 4) 0 ≤ 90) ∧ (∀ i : Int, 0 ≤ i → i < σ (p + 1) 0 → 0 ≤ σ (p + 1 + 1) i ∧ σ (p + 1 + 1) i < 6) ∧ (∀ i : Int, 0 ≤ i → i < σ (p + 4) 0 → 0 ≤ σ (p + 4 + 1) i ∧ σ (p + 4 + 1) i < 6)
theorem zs_n1 {p : Nat} (h : zs_p p) : zs_n (p + 1) = 180 := by rcases h with rfl | rfl <;> rfl
theorem zs_n4 {p : Nat} (h : zs_p p) : zs_n (p + 4) = 90 := by rcases h with rfl | rfl <;> rfl
def pa_n (σ : zs_S) (p : Nat) : Int := σ (p + 1) 0 + pa_s (σ p 0) * σ (p + 4) 0
def pa_c (σ : zs_S) (p : Nat) (s : Int) : Int := ln_c (σ (p + 1 + 1)) s (σ (p + 1) 0).toNat + pa_s (σ p 0) * ln_c (σ (p + 4 + 1)) s (σ (p + 4) 0).toNat
abbrev pa_b (σ : zs_S) (p q : Nat) : Prop := σ q 1 < σ p 1 ∨ (σ p 1 = σ q 1 ∧ ¬ σ p 0 = -1 ∧ (σ q 0 = -1 ∨ σ p 0 < σ q 0))
def pa_f (a w x y k : Int) : Int := if k = 0 then a else if k = 1 then w else if k = 2 then x else y
/-- what fact k of the board i is -/
def pa_F (σ : zs_S) (p : Nat) (i k : Int) : Int :=
  if i < σ (p + 1) 0 then pa_f (σ (p + 1 + 1) i) 0 (σ (p + 1 + 2) i) (σ (p + 7) (σ (p + 1 + 1) i)) k
  else if i - σ (p + 1) 0 < σ (p + 4) 0 then pa_f (σ (p + 4 + 1) (i - σ (p + 1) 0)) 1 (σ (p + 4 + 2) (i - σ (p + 1) 0)) (σ (p + 7) (σ (p + 4 + 1) (i - σ (p + 1) 0))) k
  else pa_f (σ (p + 4 + 1) (i - σ (p + 1) 0 - σ (p + 4) 0)) 2 (σ (p + 4 + 2) (i - σ (p + 1) 0 - σ (p + 4) 0)) (σ (p + 7) (σ (p + 4 + 1) (i - σ (p + 1) 0 - σ (p + 4) 0))) k

set_option maxRecDepth 20000 in
set_option maxHeartbeats 4000000 in
theorem m_stacks (g : zg_G) (σ : zs_S) (p : Nat) (hp : zs_p p) (hI : -1 ≤ σ p 0 ∧ σ p 0 ≤ 5000) : zm_Met g mX7_stacks σ [.ref (g.2.2.1 (p))] (fun v τ => v = some (zv_i (pa_s (σ p 0))) ∧ σ = τ) := by
  refine zm_of (by decide +kernel) (Nat.le_of_ble_eq_true rfl) ?_
  intro k C hr
  show zw_W g mX7_stacks k 0 [(0, .ref (g.2.2.1 (p)))] [] σ
  refine zr_aload_n (pc := 0) C dX7_stacks_0 0 rfl ?_
  refine zr_get (v := zv_i (σ p 0)) (pc := 1) C 0 none dX7_stacks_1 fX7_9 (hn_pat hp) (hs_pat hp) rfl rfl ?_
  refine zr_iconst (pc := 4) C dX7_stacks_4 ?_
  refine zr_icmp_ne (pc := 5) C 12 dX7_stacks_5 (by decide) (by omega) (by omega) (fun h_1 => ?_) (fun h_1 => ?_)
  · refine zr_iconst (pc := 12) C dX7_stacks_12 ?_
    exact zr_iret (pc := 13) C hr dX7_stacks_13 rfl (⟨zq_i (pa_s2 (by omega)).symm, rfl⟩)
  · refine zr_iconst (pc := 8) C dX7_stacks_8 ?_
    refine zr_goto (pc := 9) C 13 dX7_stacks_9 (by decide) ?_
    exact zr_iret (pc := 13) C hr dX7_stacks_13 rfl (⟨zq_i (pa_s1 (by omega)).symm, rfl⟩)

set_option maxRecDepth 20000 in
set_option maxHeartbeats 4000000 in
theorem m_count (g : zg_G) (σ : zs_S) (p : Nat) (hp : zs_p p) (hI : pa_I σ p) : zm_Met g mX7_count σ [.ref (g.2.2.1 (p))] (fun v τ => v = some (zv_i (pa_n σ p)) ∧ σ = τ) := by
  refine zm_of (by decide +kernel) (Nat.le_of_ble_eq_true rfl) ?_
  intro k C hr
  show zw_W g mX7_count k 0 [(0, .ref (g.2.2.1 (p)))] [] σ
  obtain ⟨i1, i2, i3, i4, i5, i6⟩ := id hI
  refine zr_aload_n (pc := 0) C dX7_count_0 0 rfl ?_
  refine zr_get (v := .ref (g.2.2.1 (p + 1))) (pc := 1) C 2 (some (some (p + 1))) dX7_count_1 fX7_20 (hn_pat hp) (hs_pat hp) rfl rfl ?_
  refine zr_get (v := zv_i (σ (p + 1) 0)) (pc := 4) C 0 none dX7_count_4 fX7_31 (hn_line (zl_1 hp)) (hs_line (zl_1 hp)) rfl rfl ?_
  refine zr_aload_n (pc := 7) C dX7_count_7 0 rfl ?_
  refine zr_callV (As := []) (rest := [zv_i (σ (p + 1) 0)]) (b := p) (pc := 8) C dX7_count_8 kX7_stacks vX7_34 rfl (by decide) (hn_pat hp) (hs_pat hp) rfl (Nat.le_of_ble_eq_true rfl) (m_stacks g σ p hp (by omega)) (fun v_ τ_ h_ => ?_)
  obtain ⟨rfl, rfl⟩ := h_
  show zw_W g mX7_count k 11 [(0, .ref (g.2.2.1 (p)))] [zv_i (pa_s (σ p 0)), zv_i (σ (p + 1) 0)] σ
  refine zr_aload_n (pc := 11) C dX7_count_11 0 rfl ?_
  refine zr_get (v := .ref (g.2.2.1 (p + 4))) (pc := 12) C 3 (some (some (p + 4))) dX7_count_12 fX7_24 (hn_pat hp) (hs_pat hp) rfl rfl ?_
  refine zr_get (v := zv_i (σ (p + 4) 0)) (pc := 15) C 0 none dX7_count_15 fX7_31 (hn_line (zl_4 hp)) (hs_line (zl_4 hp)) rfl rfl ?_
  refine zr_imul (pc := 18) C dX7_count_18 ?_
  refine zr_iadd (pc := 19) C dX7_count_19 ?_
  exact zr_iret (pc := 20) C hr dX7_count_20 rfl (⟨rfl, rfl⟩)

set_option maxRecDepth 20000 in
set_option maxHeartbeats 4000000 in
theorem m_pcount (g : zg_G) (σ : zs_S) (p : Nat) (hp : zs_p p) (s : Int) (hs : zi_r s) (hI : pa_I σ p) : zm_Met g mX7_countOf σ [.ref (g.2.2.1 (p)), zv_i s] (fun v τ => v = some (zv_i (pa_c σ p s)) ∧ σ = τ) := by
  refine zm_of (by decide +kernel) (Nat.le_of_ble_eq_true rfl) ?_
  intro k C hr
  show zw_W g mX7_countOf k 0 [(0, .ref (g.2.2.1 (p))), (1, zv_i s)] [] σ
  obtain ⟨i1, i2, i3, i4, i5, i6⟩ := id hI
  have z1 := zs_n1 hp
  have z4 := zs_n4 hp
  refine zr_aload_n (pc := 0) C dX7_countOf_0 0 rfl ?_
  refine zr_get (v := .ref (g.2.2.1 (p + 1))) (pc := 1) C 2 (some (some (p + 1))) dX7_countOf_1 fX7_20 (hn_pat hp) (hs_pat hp) rfl rfl ?_
  refine zr_iload_n (pc := 4) C dX7_countOf_4 1 rfl ?_
  refine zr_callV (As := [zv_i s]) (rest := []) (b := p + 1) (pc := 5) C dX7_countOf_5 kX4_countOf vX7_38 rfl (by decide) (hn_line (zl_1 hp)) (hs_line (zl_1 hp)) rfl (Nat.le_of_ble_eq_true rfl) (m_lcount g σ (p + 1) (zl_1 hp) s (by omega) (by omega) (by exact i5)) (fun v_ τ_ h_ => ?_)
  obtain ⟨rfl, rfl⟩ := h_
  show zw_W g mX7_countOf k 8 [(0, .ref (g.2.2.1 (p))), (1, zv_i s)] [zv_i (ln_c (σ (p + 1 + 1)) s (σ (p + 1) 0).toNat)] σ
  refine zr_aload_n (pc := 8) C dX7_countOf_8 0 rfl ?_
  refine zr_callV (As := []) (rest := [zv_i (ln_c (σ (p + 1 + 1)) s (σ (p + 1) 0).toNat)]) (b := p) (pc := 9) C dX7_countOf_9 kX7_stacks vX7_34 rfl (by decide) (hn_pat hp) (hs_pat hp) rfl (Nat.le_of_ble_eq_true rfl) (m_stacks g σ p hp (by omega)) (fun v_ τ_ h_ => ?_)
  obtain ⟨rfl, rfl⟩ := h_
  show zw_W g mX7_countOf k 12 [(0, .ref (g.2.2.1 (p))), (1, zv_i s)] [zv_i (pa_s (σ p 0)), zv_i (ln_c (σ (p + 1 + 1)) s (σ (p + 1) 0).toNat)] σ
  refine zr_aload_n (pc := 12) C dX7_countOf_12 0 rfl ?_
  refine zr_get (v := .ref (g.2.2.1 (p + 4))) (pc := 13) C 3 (some (some (p + 4))) dX7_countOf_13 fX7_24 (hn_pat hp) (hs_pat hp) rfl rfl ?_
  refine zr_iload_n (pc := 16) C dX7_countOf_16 1 rfl ?_
  refine zr_callV (As := [zv_i s]) (rest := [zv_i (pa_s (σ p 0)), zv_i (ln_c (σ (p + 1 + 1)) s (σ (p + 1) 0).toNat)]) (b := p + 4) (pc := 17) C dX7_countOf_17 kX4_countOf vX7_38 rfl (by decide) (hn_line (zl_4 hp)) (hs_line (zl_4 hp)) rfl (Nat.le_of_ble_eq_true rfl) (m_lcount g σ (p + 4) (zl_4 hp) s (by omega) (by omega) (by exact i6)) (fun v_ τ_ h_ => ?_)
  obtain ⟨rfl, rfl⟩ := h_
  show zw_W g mX7_countOf k 20 [(0, .ref (g.2.2.1 (p))), (1, zv_i s)] [zv_i (ln_c (σ (p + 4 + 1)) s (σ (p + 4) 0).toNat), zv_i (pa_s (σ p 0)), zv_i (ln_c (σ (p + 1 + 1)) s (σ (p + 1) 0).toNat)] σ
  refine zr_imul (pc := 20) C dX7_countOf_20 ?_
  refine zr_iadd (pc := 21) C dX7_countOf_21 ?_
  exact zr_iret (pc := 22) C hr dX7_countOf_22 rfl (⟨rfl, rfl⟩)

set_option maxRecDepth 20000 in
set_option maxHeartbeats 4000000 in
theorem m_better (g : zg_G) (σ : zs_S) (p : Nat) (hp : zs_p p) (q : Nat) (hq : zs_p q) (hI : pa_I σ p) (hI2 : pa_I σ q) : zm_Met g mX7_isBetterThan σ [.ref (g.2.2.1 (p)), .ref (g.2.2.1 (q))] (fun v τ => v = some (zv_i (zi_b (pa_b σ p q))) ∧ σ = τ) := by
  refine zm_of (by decide +kernel) (Nat.le_of_ble_eq_true rfl) ?_
  intro k C hr
  show zw_W g mX7_isBetterThan k 0 [(0, .ref (g.2.2.1 (p))), (1, .ref (g.2.2.1 (q)))] [] σ
  obtain ⟨i1, i2, i3, i4, i5, i6⟩ := id hI
  obtain ⟨j1, j2, j3, j4, j5, j6⟩ := id hI2
  refine zr_aload_n (pc := 0) C dX7_isBetterThan_0 0 rfl ?_
  refine zr_get (v := zv_i (σ p 1)) (pc := 1) C 1 none dX7_isBetterThan_1 fX7_42 (hn_pat hp) (hs_pat hp) rfl rfl ?_
  refine zr_aload_n (pc := 4) C dX7_isBetterThan_4 1 rfl ?_
  refine zr_get (v := zv_i (σ q 1)) (pc := 5) C 1 none dX7_isBetterThan_5 fX7_42 (hn_pat hq) (hs_pat hq) rfl rfl ?_
  refine zr_icmp_eq (pc := 8) C 28 dX7_isBetterThan_8 (by decide) (by omega) (by omega) (fun h_1 => ?_) (fun h_1 => ?_)
  · refine zr_aload_n (pc := 28) C dX7_isBetterThan_28 0 rfl ?_
    refine zr_get (v := zv_i (σ p 0)) (pc := 29) C 0 none dX7_isBetterThan_29 fX7_9 (hn_pat hp) (hs_pat hp) rfl rfl ?_
    refine zr_iconst (pc := 32) C dX7_isBetterThan_32 ?_
    refine zr_icmp_eq (pc := 33) C 59 dX7_isBetterThan_33 (by decide) (by omega) (by omega) (fun h_2 => ?_) (fun h_2 => ?_)
    · refine zr_iconst (pc := 59) C dX7_isBetterThan_59 ?_
      exact zr_zret (pc := 60) C hr dX7_isBetterThan_60 rfl (by decide) (⟨zq_0 (by show ¬ (σ q 1 < σ p 1 ∨ (σ p 1 = σ q 1 ∧ ¬ σ p 0 = -1 ∧ (σ q 0 = -1 ∨ σ p 0 < σ q 0))); omega), rfl⟩)
    · refine zr_aload_n (pc := 36) C dX7_isBetterThan_36 1 rfl ?_
      refine zr_get (v := zv_i (σ q 0)) (pc := 37) C 0 none dX7_isBetterThan_37 fX7_9 (hn_pat hq) (hs_pat hq) rfl rfl ?_
      refine zr_iconst (pc := 40) C dX7_isBetterThan_40 ?_
      refine zr_icmp_eq (pc := 41) C 55 dX7_isBetterThan_41 (by decide) (by omega) (by omega) (fun h_3 => ?_) (fun h_3 => ?_)
      · refine zr_iconst (pc := 55) C dX7_isBetterThan_55 ?_
        refine zr_goto (pc := 56) C 60 dX7_isBetterThan_56 (by decide) ?_
        exact zr_zret (pc := 60) C hr dX7_isBetterThan_60 rfl (by decide) (⟨zq_1 (by show σ q 1 < σ p 1 ∨ (σ p 1 = σ q 1 ∧ ¬ σ p 0 = -1 ∧ (σ q 0 = -1 ∨ σ p 0 < σ q 0)); omega), rfl⟩)
      · refine zr_aload_n (pc := 44) C dX7_isBetterThan_44 0 rfl ?_
        refine zr_get (v := zv_i (σ p 0)) (pc := 45) C 0 none dX7_isBetterThan_45 fX7_9 (hn_pat hp) (hs_pat hp) rfl rfl ?_
        refine zr_aload_n (pc := 48) C dX7_isBetterThan_48 1 rfl ?_
        refine zr_get (v := zv_i (σ q 0)) (pc := 49) C 0 none dX7_isBetterThan_49 fX7_9 (hn_pat hq) (hs_pat hq) rfl rfl ?_
        refine zr_icmp_ge (pc := 52) C 59 dX7_isBetterThan_52 (by decide) (by omega) (by omega) (fun h_4 => ?_) (fun h_4 => ?_)
        · refine zr_iconst (pc := 59) C dX7_isBetterThan_59 ?_
          exact zr_zret (pc := 60) C hr dX7_isBetterThan_60 rfl (by decide) (⟨zq_0 (by show ¬ (σ q 1 < σ p 1 ∨ (σ p 1 = σ q 1 ∧ ¬ σ p 0 = -1 ∧ (σ q 0 = -1 ∨ σ p 0 < σ q 0))); omega), rfl⟩)
        · refine zr_iconst (pc := 55) C dX7_isBetterThan_55 ?_
          refine zr_goto (pc := 56) C 60 dX7_isBetterThan_56 (by decide) ?_
          exact zr_zret (pc := 60) C hr dX7_isBetterThan_60 rfl (by decide) (⟨zq_1 (by show σ q 1 < σ p 1 ∨ (σ p 1 = σ q 1 ∧ ¬ σ p 0 = -1 ∧ (σ q 0 = -1 ∨ σ p 0 < σ q 0)); omega), rfl⟩)
  · refine zr_aload_n (pc := 11) C dX7_isBetterThan_11 0 rfl ?_
    refine zr_get (v := zv_i (σ p 1)) (pc := 12) C 1 none dX7_isBetterThan_12 fX7_42 (hn_pat hp) (hs_pat hp) rfl rfl ?_
    refine zr_aload_n (pc := 15) C dX7_isBetterThan_15 1 rfl ?_
    refine zr_get (v := zv_i (σ q 1)) (pc := 16) C 1 none dX7_isBetterThan_16 fX7_42 (hn_pat hq) (hs_pat hq) rfl rfl ?_
    refine zr_icmp_le (pc := 19) C 26 dX7_isBetterThan_19 (by decide) (by omega) (by omega) (fun h_5 => ?_) (fun h_5 => ?_)
    · refine zr_iconst (pc := 26) C dX7_isBetterThan_26 ?_
      exact zr_zret (pc := 27) C hr dX7_isBetterThan_27 rfl (by decide) (⟨zq_0 (by show ¬ (σ q 1 < σ p 1 ∨ (σ p 1 = σ q 1 ∧ ¬ σ p 0 = -1 ∧ (σ q 0 = -1 ∨ σ p 0 < σ q 0))); omega), rfl⟩)
    · refine zr_iconst (pc := 22) C dX7_isBetterThan_22 ?_
      refine zr_goto (pc := 23) C 27 dX7_isBetterThan_23 (by decide) ?_
      exact zr_zret (pc := 27) C hr dX7_isBetterThan_27 rfl (by decide) (⟨zq_1 (by show σ q 1 < σ p 1 ∨ (σ p 1 = σ q 1 ∧ ¬ σ p 0 = -1 ∧ (σ q 0 = -1 ∨ σ p 0 < σ q 0)); omega), rfl⟩)

set_option maxRecDepth 20000 in
set_option maxHeartbeats 4000000 in
theorem m_factOf (g : zg_G) (σ : zs_S) (p : Nat) (hp : zs_p p) (q : Nat) (hq : zs_l q) (a w k0 : Int) (hk : 0 ≤ k0 ∧ k0 ≤ 3) (ha : 0 ≤ a ∧ a < zs_n q) (hb : 0 ≤ σ (q + 1) a ∧ σ (q + 1) a < 6) : zm_Met g mX7_factOf σ [.ref (g.2.2.1 (p)), .ref (g.2.2.1 (q)), zv_i a, zv_i w, zv_i k0] (fun v τ => v = some (zv_i (pa_f (σ (q + 1) a) w (σ (q + 2) a) (σ (p + 7) (σ (q + 1) a)) k0)) ∧ σ = τ) := by
  refine zm_of (by decide +kernel) (Nat.le_of_ble_eq_true rfl) ?_
  intro k C hr
  show zw_W g mX7_factOf k 0 [(0, .ref (g.2.2.1 (p))), (1, .ref (g.2.2.1 (q))), (2, zv_i a), (3, zv_i w), (4, zv_i k0)] [] σ
  have hn9 := zs_n90 (q := q)
  refine zr_iload (pc := 0) C dX7_factOf_0 4 rfl ?_
  rcases (show k0 = 0 ∨ k0 = 1 ∨ k0 = 2 ∨ (k0 < 0 ∨ 2 < k0) by omega) with h_1 | h_1 | h_1 | h_1
  · refine zr_tabIn (pc := 2) C 28 dX7_factOf_2 (by omega) (by omega) (by rw [h_1]; rfl) (by decide) ?_
    refine zr_aload_n (pc := 28) C dX7_factOf_28 1 rfl ?_
    refine zr_get (v := .ref (g.2.2.1 (q + 1))) (pc := 29) C 1 (some (some (q + 1))) dX7_factOf_29 fX7_49 (hn_line hq) (hs_line hq) rfl rfl ?_
    refine zr_iload_n (pc := 32) C dX7_factOf_32 2 rfl ?_
    refine zr_iaload (pc := 33) C dX7_factOf_33 (hn_line1 hq) (hs_line1 hq) (by omega) (by omega) ?_
    exact zr_iret (pc := 34) C hr dX7_factOf_34 rfl (⟨zq_i (by unfold pa_f; rw [if_pos (by omega)]), rfl⟩)
  · refine zr_tabIn (pc := 2) C 35 dX7_factOf_2 (by omega) (by omega) (by rw [h_1]; rfl) (by decide) ?_
    refine zr_iload_n (pc := 35) C dX7_factOf_35 3 rfl ?_
    exact zr_iret (pc := 36) C hr dX7_factOf_36 rfl (⟨zq_i (by unfold pa_f; rw [if_neg (by omega), if_pos (by omega)]), rfl⟩)
  · refine zr_tabIn (pc := 2) C 37 dX7_factOf_2 (by omega) (by omega) (by rw [h_1]; rfl) (by decide) ?_
    refine zr_aload_n (pc := 37) C dX7_factOf_37 1 rfl ?_
    refine zr_get (v := .ref (g.2.2.1 (q + 2))) (pc := 38) C 2 (some (some (q + 2))) dX7_factOf_38 fX7_52 (hn_line hq) (hs_line hq) rfl rfl ?_
    refine zr_iload_n (pc := 41) C dX7_factOf_41 2 rfl ?_
    refine zr_iaload (pc := 42) C dX7_factOf_42 (hn_line2 hq) (hs_line2 hq) (by omega) (by omega) ?_
    exact zr_iret (pc := 43) C hr dX7_factOf_43 rfl (⟨zq_i (by unfold pa_f; rw [if_neg (by omega), if_neg (by omega), if_pos (by omega)]), rfl⟩)
  · refine zr_tabOut (pc := 2) C 44 dX7_factOf_2 (by omega) h_1 (by decide) ?_
    refine zr_aload_n (pc := 44) C dX7_factOf_44 0 rfl ?_
    refine zr_get (v := .ref (g.2.2.1 (p + 7))) (pc := 45) C 4 (some (some (p + 7))) dX7_factOf_45 fX7_27 (hn_pat hp) (hs_pat hp) rfl rfl ?_
    refine zr_aload_n (pc := 48) C dX7_factOf_48 1 rfl ?_
    refine zr_get (v := .ref (g.2.2.1 (q + 1))) (pc := 49) C 1 (some (some (q + 1))) dX7_factOf_49 fX7_49 (hn_line hq) (hs_line hq) rfl rfl ?_
    refine zr_iload_n (pc := 52) C dX7_factOf_52 2 rfl ?_
    refine zr_iaload (pc := 53) C dX7_factOf_53 (hn_line1 hq) (hs_line1 hq) (by omega) (by omega) ?_
    refine zr_iaload (pc := 54) C dX7_factOf_54 (hn_patP hp) (hs_patP hp) (by omega) (by decide) ?_
    exact zr_iret (pc := 55) C hr dX7_factOf_55 rfl (⟨zq_i (by unfold pa_f; rw [if_neg (by omega), if_neg (by omega), if_neg (by omega)]), rfl⟩)

set_option maxRecDepth 20000 in
set_option maxHeartbeats 4000000 in
theorem m_pfact (g : zg_G) (σ : zs_S) (p : Nat) (hp : zs_p p) (a k0 : Int) (hk : 0 ≤ k0 ∧ k0 ≤ 3) (hI : pa_I σ p) (ha : 0 ≤ a ∧ a < pa_n σ p) : zm_Met g mX7_fact σ [.ref (g.2.2.1 (p)), zv_i a, zv_i k0] (fun v τ => v = some (zv_i (pa_F σ p a k0)) ∧ σ = τ) := by
  refine zm_of (by decide +kernel) (Nat.le_of_ble_eq_true rfl) ?_
  intro k C hr
  show zw_W g mX7_fact k 0 [(0, .ref (g.2.2.1 (p))), (1, zv_i a), (2, zv_i k0)] [] σ
  obtain ⟨i1, i2, i3, i4, i5, i6⟩ := id hI
  have z1 := zs_n1 hp
  have z4 := zs_n4 hp
  have hn : a < σ (p + 1) 0 + (σ (p + 4) 0 + σ (p + 4) 0) := by
    have := ha.2
    unfold pa_n at this
    rcases pa_sb (σ p 0) with z | z
    · rw [z] at this; omega
    · rw [z] at this; omega
  refine zr_iload_n (pc := 0) C dX7_fact_0 1 rfl ?_
  refine zr_aload_n (pc := 1) C dX7_fact_1 0 rfl ?_
  refine zr_get (v := .ref (g.2.2.1 (p + 1))) (pc := 2) C 2 (some (some (p + 1))) dX7_fact_2 fX7_20 (hn_pat hp) (hs_pat hp) rfl rfl ?_
  refine zr_get (v := zv_i (σ (p + 1) 0)) (pc := 5) C 0 none dX7_fact_5 fX7_31 (hn_line (zl_1 hp)) (hs_line (zl_1 hp)) rfl rfl ?_
  refine zr_icmp_ge (pc := 8) C 23 dX7_fact_8 (by decide) (by omega) (by omega) (fun h_1 => ?_) (fun h_1 => ?_)
  · refine zr_iload_n (pc := 23) C dX7_fact_23 1 rfl ?_
    refine zr_aload_n (pc := 24) C dX7_fact_24 0 rfl ?_
    refine zr_get (v := .ref (g.2.2.1 (p + 1))) (pc := 25) C 2 (some (some (p + 1))) dX7_fact_25 fX7_20 (hn_pat hp) (hs_pat hp) rfl rfl ?_
    refine zr_get (v := zv_i (σ (p + 1) 0)) (pc := 28) C 0 none dX7_fact_28 fX7_31 (hn_line (zl_1 hp)) (hs_line (zl_1 hp)) rfl rfl ?_
    refine zr_isub (pc := 31) C dX7_fact_31 ?_
    refine zr_istore_n (L' := [(3, zv_i (a - (σ (p + 1) 0))), (0, .ref (g.2.2.1 (p))), (1, zv_i a), (2, zv_i k0)]) (pc := 32) C dX7_fact_32 (by decide) rfl ?_
    refine zr_iload_n (pc := 33) C dX7_fact_33 0 rfl ?_
    refine zr_aload_n (pc := 34) C dX7_fact_34 1 rfl ?_
    refine zr_get (v := .ref (g.2.2.1 (p + 4))) (pc := 35) C 3 (some (some (p + 4))) dX7_fact_35 fX7_24 (hn_pat hp) (hs_pat hp) rfl rfl ?_
    refine zr_get (v := zv_i (σ (p + 4) 0)) (pc := 38) C 0 none dX7_fact_38 fX7_31 (hn_line (zl_4 hp)) (hs_line (zl_4 hp)) rfl rfl ?_
    refine zr_icmp_ge (pc := 41) C 56 dX7_fact_41 (by decide) (by omega) (by omega) (fun h_2 => ?_) (fun h_2 => ?_)
    · refine zr_aload_n (pc := 56) C dX7_fact_56 1 rfl ?_
      refine zr_aload_n (pc := 57) C dX7_fact_57 1 rfl ?_
      refine zr_get (v := .ref (g.2.2.1 (p + 4))) (pc := 58) C 3 (some (some (p + 4))) dX7_fact_58 fX7_24 (hn_pat hp) (hs_pat hp) rfl rfl ?_
      refine zr_iload_n (pc := 61) C dX7_fact_61 0 rfl ?_
      refine zr_aload_n (pc := 62) C dX7_fact_62 1 rfl ?_
      refine zr_get (v := .ref (g.2.2.1 (p + 4))) (pc := 63) C 3 (some (some (p + 4))) dX7_fact_63 fX7_24 (hn_pat hp) (hs_pat hp) rfl rfl ?_
      refine zr_get (v := zv_i (σ (p + 4) 0)) (pc := 66) C 0 none dX7_fact_66 fX7_31 (hn_line (zl_4 hp)) (hs_line (zl_4 hp)) rfl rfl ?_
      refine zr_isub (pc := 69) C dX7_fact_69 ?_
      refine zr_iconst (pc := 70) C dX7_fact_70 ?_
      refine zr_iload_n (pc := 71) C dX7_fact_71 3 rfl ?_
      refine zr_callV (As := [.ref (g.2.2.1 (p + 4)), zv_i ((a - (σ (p + 1) 0)) - (σ (p + 4) 0)), zv_i 2, zv_i k0]) (rest := []) (b := p) (pc := 72) C dX7_fact_72 kX7_factOf vX7_45 rfl (by decide) (hn_pat hp) (hs_pat hp) rfl (Nat.le_of_ble_eq_true rfl) (m_factOf g σ p hp (p + 4) (zl_4 hp) ((a - (σ (p + 1) 0)) - (σ (p + 4) 0)) 2 k0 (by omega) (by omega) (by exact i6 _ (by omega) (by omega))) (fun v_ τ_ h_ => ?_)
      obtain ⟨rfl, rfl⟩ := h_
      show zw_W g mX7_fact k 75 [(3, zv_i (a - (σ (p + 1) 0))), (0, .ref (g.2.2.1 (p))), (1, zv_i a), (2, zv_i k0)] [zv_i (pa_f (σ (p + 4 + 1) ((a - (σ (p + 1) 0)) - (σ (p + 4) 0))) 2 (σ (p + 4 + 2) ((a - (σ (p + 1) 0)) - (σ (p + 4) 0))) (σ (p + 7) (σ (p + 4 + 1) ((a - (σ (p + 1) 0)) - (σ (p + 4) 0)))) k0)] σ
      exact zr_iret (pc := 75) C hr dX7_fact_75 rfl (⟨zq_i (by unfold pa_F; rw [if_neg (by omega), if_neg (by omega)]), rfl⟩)
    · refine zr_aload_n (pc := 44) C dX7_fact_44 1 rfl ?_
      refine zr_aload_n (pc := 45) C dX7_fact_45 1 rfl ?_
      refine zr_get (v := .ref (g.2.2.1 (p + 4))) (pc := 46) C 3 (some (some (p + 4))) dX7_fact_46 fX7_24 (hn_pat hp) (hs_pat hp) rfl rfl ?_
      refine zr_iload_n (pc := 49) C dX7_fact_49 0 rfl ?_
      refine zr_iconst (pc := 50) C dX7_fact_50 ?_
      refine zr_iload_n (pc := 51) C dX7_fact_51 3 rfl ?_
      refine zr_callV (As := [.ref (g.2.2.1 (p + 4)), zv_i (a - (σ (p + 1) 0)), zv_i 1, zv_i k0]) (rest := []) (b := p) (pc := 52) C dX7_fact_52 kX7_factOf vX7_45 rfl (by decide) (hn_pat hp) (hs_pat hp) rfl (Nat.le_of_ble_eq_true rfl) (m_factOf g σ p hp (p + 4) (zl_4 hp) (a - (σ (p + 1) 0)) 1 k0 (by omega) (by omega) (by exact i6 _ (by omega) (by omega))) (fun v_ τ_ h_ => ?_)
      obtain ⟨rfl, rfl⟩ := h_
      show zw_W g mX7_fact k 55 [(3, zv_i (a - (σ (p + 1) 0))), (0, .ref (g.2.2.1 (p))), (1, zv_i a), (2, zv_i k0)] [zv_i (pa_f (σ (p + 4 + 1) (a - (σ (p + 1) 0))) 1 (σ (p + 4 + 2) (a - (σ (p + 1) 0))) (σ (p + 7) (σ (p + 4 + 1) (a - (σ (p + 1) 0)))) k0)] σ
      exact zr_iret (pc := 55) C hr dX7_fact_55 rfl (⟨zq_i (by unfold pa_F; rw [if_neg (by omega), if_pos (by omega)]), rfl⟩)
  · refine zr_aload_n (pc := 11) C dX7_fact_11 0 rfl ?_
    refine zr_aload_n (pc := 12) C dX7_fact_12 0 rfl ?_
    refine zr_get (v := .ref (g.2.2.1 (p + 1))) (pc := 13) C 2 (some (some (p + 1))) dX7_fact_13 fX7_20 (hn_pat hp) (hs_pat hp) rfl rfl ?_
    refine zr_iload_n (pc := 16) C dX7_fact_16 1 rfl ?_
    refine zr_iconst (pc := 17) C dX7_fact_17 ?_
    refine zr_iload_n (pc := 18) C dX7_fact_18 2 rfl ?_
    refine zr_callV (As := [.ref (g.2.2.1 (p + 1)), zv_i a, zv_i 0, zv_i k0]) (rest := []) (b := p) (pc := 19) C dX7_fact_19 kX7_factOf vX7_45 rfl (by decide) (hn_pat hp) (hs_pat hp) rfl (Nat.le_of_ble_eq_true rfl) (m_factOf g σ p hp (p + 1) (zl_1 hp) a 0 k0 (by omega) (by omega) (by exact i5 _ (by omega) (by omega))) (fun v_ τ_ h_ => ?_)
    obtain ⟨rfl, rfl⟩ := h_
    show zw_W g mX7_fact k 22 [(0, .ref (g.2.2.1 (p))), (1, zv_i a), (2, zv_i k0)] [zv_i (pa_f (σ (p + 1 + 1) a) 0 (σ (p + 1 + 2) a) (σ (p + 7) (σ (p + 1 + 1) a)) k0)] σ
    exact zr_iret (pc := 22) C hr dX7_fact_22 rfl (⟨zq_i (by unfold pa_F; rw [if_pos (by omega)]), rfl⟩)
end
section
/-! THE MATHEMATICS OF THE CLASS, part I: sawing -/
/-- the most valuable chain: its gain r, its sizes l -/
def ch_O (st pr li : Int → Int) (r : Int) (l : List Int) : Prop := ∃ (G : Int → Int) (Mk : Int → Prop), ch_M st li Mk ∧ (∀ x, Mk x → G x = ch_f st pr li G x 6) ∧ r = G 0 ∧ ch_L st pr li G l 0
theorem ch_fd {st pr li st' pr' li' G : Int → Int} {x : Int} : ∀ {m : Nat}, (∀ k : Int, 0 ≤ k → k < m → st k = st' k ∧ pr k = pr' k ∧ li k = li' k) → ch_f st pr li G x m = ch_f st' pr' li' G x m
  | 0, _ => rfl
  | m + 1, h => by
    have ih := ch_fd (G := G) (x := x) (m := m) (fun k a b => h k a (by omega))
    obtain ⟨a, b, c⟩ := h m (by omega) (by omega)
    rw [ch_f, ch_f, ih, a, b, c]
theorem ch_Ld {st pr li st' pr' li' G : Int → Int} (h : ∀ k : Int, 0 ≤ k → k < 6 → st k = st' k ∧ pr k = pr' k ∧ li k = li' k) : ∀ {l : List Int} {x : Int}, ch_L st pr li G l x → ch_L st' pr' li' G l x
  | [], x, hl => fun k a b => by
    obtain ⟨e1, e2, e3⟩ := h k a b
    have := hl k a b
    unfold ch_c at this ⊢
    rw [← e1, ← e2, ← e3]
    exact this
  | q :: l, x, ⟨h1, h2, h3, h4⟩ => by
    obtain ⟨e1, e2, e3⟩ := h q h1.1 h1.2
    refine ⟨h1, by unfold ch_c at h2 ⊢; rw [← e1, ← e2, ← e3]; exact h2, fun k a b => ?_, by rw [← e1]; exact ch_Ld h h4⟩
    obtain ⟨f1, f2, f3⟩ := h k a (by omega)
    have := h3 k a b
    unfold ch_c at this ⊢
    rw [← f1, ← f2, ← f3]
    exact this
theorem ch_Od {st pr li st' pr' li' : Int → Int} {r : Int} {l : List Int} (h : ∀ k : Int, 0 ≤ k → k < 6 → st k = st' k ∧ pr k = pr' k ∧ li k = li' k) (hO : ch_O st pr li r l) : ch_O st' pr' li' r l := by
  obtain ⟨G, Mk, ⟨m1, m2⟩, b, c, d⟩ := hO
  refine ⟨G, Mk, ⟨m1, fun x hx => ⟨(m2 x hx).1, fun k k1 k2 k3 => ?_⟩⟩, fun x hx => ?_, c, ch_Ld h d⟩
  · obtain ⟨e1, e2, e3⟩ := h k k1 k2
    rw [← e1, ← e3] at k3
    rw [← e1]
    exact (m2 x hx).2 k k1 k2 k3
  · rw [b x hx]
    exact ch_fd (fun k k1 k2 => h k k1 (by omega))
/-- gain and sizes of a chain are one -/
theorem ch_Gu {st pr li G E : Int → Int} {Mk Nk : Int → Prop} (hst : ∀ k : Int, 0 ≤ k → k < 6 → 0 ≤ st k ∧ (0 ≤ li k → 50 ≤ st k)) (hM : ch_M st li Mk) (hN : ch_M st li Nk) (hG : ∀ x, Mk x → G x = ch_f st pr li G x 6) (hE : ∀ x, Nk x → E x = ch_f st pr li E x 6) : ∀ (n : Nat) (x : Int), (9101 - x).toNat < n → Mk x → Nk x → G x = E x := by
  intro n
  induction n with
  | zero => intro x h; exact absurd h (by omega)
  | succ n ih =>
    intro x h hx hy
    rw [hG x hx, hE x hy]
    refine ch_fc (fun k k1 k2 k3 => ?_)
    have k2' : k < 6 := k2
    have b := (hM.2 x hx).1
    have s := hst k k1 k2'
    have s2 := s.2 (by omega)
    have mm := (hM.2 x hx).2 k k1 k2' k3
    have b2 := (hM.2 _ mm).1
    exact ih (x + st k) (by omega) mm ((hN.2 x hy).2 k k1 k2' k3)
theorem ch_Lu {st pr li G E : Int → Int} {Mk Nk : Int → Prop} (hM : ch_M st li Mk) (hN : ch_M st li Nk) (hGE : ∀ x, Mk x → Nk x → G x = E x) : ∀ {l m : List Int} {x : Int}, Mk x → Nk x → ch_L st pr li G l x → ch_L st pr li E m x → l = m := by
  have cc : ∀ x, Mk x → Nk x → ∀ k : Int, 0 ≤ k → k < 6 → (ch_c st pr li G x k ↔ ch_c st pr li E x k) := fun x hx hy k k1 k2 => by
    unfold ch_c
    rw [hGE x hx hy]
    constructor
    · rintro ⟨a, b⟩
      exact ⟨a, by rw [← hGE _ ((hM.2 x hx).2 k k1 k2 a) ((hN.2 x hy).2 k k1 k2 a)]; exact b⟩
    · rintro ⟨a, b⟩
      exact ⟨a, by rw [hGE _ ((hM.2 x hx).2 k k1 k2 a) ((hN.2 x hy).2 k k1 k2 a)]; exact b⟩
  intro l
  induction l with
  | nil =>
    intro m x hx hy h1 h2
    cases m with
    | nil => rfl
    | cons q r => exact absurd ((cc x hx hy q h2.1.1 h2.1.2).mpr h2.2.1) (h1 q h2.1.1 h2.1.2)
  | cons p l ih =>
    intro m x hx hy h1 h2
    obtain ⟨a1, a2, a3, a4⟩ := h1
    cases m with
    | nil => exact absurd ((cc x hx hy p a1.1 a1.2).mp a2) (h2 p a1.1 a1.2)
    | cons q r =>
      obtain ⟨b1, b2, b3, b4⟩ := h2
      have e : p = q := by
        rcases Int.lt_trichotomy p q with c | c | c
        · exact absurd ((cc x hx hy p a1.1 a1.2).mp a2) (b3 p a1.1 c)
        · exact c
        · exact absurd ((cc x hx hy q b1.1 b1.2).mpr b2) (a3 q b1.1 c)
      subst e
      rw [ih ((hM.2 x hx).2 p a1.1 a1.2 a2.1) ((hN.2 x hy).2 p a1.1 a1.2 a2.1) a4 b4]
theorem ch_Ou {st pr li : Int → Int} {r s : Int} {l m : List Int} (hst : ∀ k : Int, 0 ≤ k → k < 6 → 0 ≤ st k ∧ (0 ≤ li k → 50 ≤ st k)) (h1 : ch_O st pr li r l) (h2 : ch_O st pr li s m) : r = s ∧ l = m := by
  obtain ⟨G, Mk, hM, hG, rfl, hl⟩ := h1
  obtain ⟨E, Nk, hN, hE, rfl, hm⟩ := h2
  have key : ∀ x, Mk x → Nk x → G x = E x := fun x hx hy => ch_Gu hst hM hN hG hE _ x (Nat.lt_succ_self _) hx hy
  exact ⟨key 0 hM.1 hN.1, ch_Lu hM hN key hM.1 hN.1 hl hm⟩
theorem ch_Om {st pr li : Int → Int} {r : Int} {l : List Int} (h : ch_O st pr li r l) : ∀ k ∈ l, 0 ≤ k ∧ k < 6 := by
  obtain ⟨G, Mk, hM, hG, -, hl⟩ := h
  exact ch_Lm hl
/-- limits of a stack on a face, of a row in a cant -/
def sw_ls (pr rc : Int → Int) (face : Int) : Int → Int := fun k => if 0 < pr k ∧ ¬ rc k = -1 ∧ face ≤ rc k then (rc k - face) / 2 else -1
def sw_lr (wd pr : Int → Int) (h wi gp : Int) : Int → Int := fun k => if wd k = h ∧ 0 < pr k ∧ ¬ wi = -1 then wi + gp else -1
/-- the sizes, the kerf, the heights, the orders -/
def sw_I (σ : zs_S) : Prop := (∀ j : Int, 0 ≤ j → j < 6 → (σ (28 + 2 * j.toNat) 0 = 0 ∨ (50 ≤ σ (28 + 2 * j.toNat) 0 ∧ σ (28 + 2 * j.toNat) 0 ≤ 4000)) ∧ (0 ≤ σ (28 + 2 * j.toNat) 1 ∧ σ (28 + 2 * j.toNat) 1 ≤ 4000) ∧ ∀ i : Int, 0 ≤ i → i < 3 → 0 ≤ σ (29 + 2 * j.toNat) i ∧ σ (29 + 2 * j.toNat) i ≤ 1000000) ∧ (0 ≤ σ 26 3 ∧ σ 26 3 ≤ 100) ∧ (∀ i : Int, 0 ≤ i → i < 4 → σ 44 i = 0 ∨ (300 ≤ σ 44 i ∧ σ 44 i ≤ 5000)) ∧ od_I σ
/-- step, price and width of size k -/
def sw_s (σ : zs_S) (k : Int) : Int := σ (28 + 2 * k.toNat) 0 + σ 26 3
def sw_p (σ : zs_S) (gr k : Int) : Int := if 0 < σ (28 + 2 * k.toNat) 0 then σ (29 + 2 * k.toNat) (gr - 1) + od_a (σ 42) (σ 43) (σ 41 k) 4 else 0
def sw_w (σ : zs_S) (k : Int) : Int := σ (28 + 2 * k.toNat) 1
def sw_r (σ : zs_S) (d k : Int) : Int := ro_m d (sw_w σ k)
theorem ro_mb {a b : Int} (ha : 0 ≤ a ∧ a ≤ 9000) (hb : 0 ≤ b) : -1 ≤ ro_m a b ∧ ro_m a b ≤ 9000 := by
  unfold ro_m
  by_cases h : a * a - b * b < 0
  · rw [if_pos h]; omega
  · rw [if_neg h]
    have h0 : (0 : Int) ≤ a * a - b * b := by omega
    have hb2 : 0 ≤ b * b := Int.mul_nonneg hb hb
    have ha2 : a * a ≤ 9000 * 9000 := Int.mul_le_mul ha.2 ha.2 ha.1 (by decide)
    obtain ⟨h1, h2, h3⟩ := ro_rs (a * a - b * b) 14 0 (Int.le_refl _) (by simpa using h0) (by
      show a * a - b * b < (0 + 2 ^ 14) * (0 + 2 ^ 14)
      have : ((0 : Int) + 2 ^ 14) * (0 + 2 ^ 14) = 268435456 := by decide
      omega)
    refine ⟨by omega, ?_⟩
    rcases (show 9000 < ro_r (a * a - b * b) 14 0 ∨ ro_r (a * a - b * b) 14 0 ≤ 9000 by omega) with c | c
    · have : 9001 * 9001 ≤ ro_r (a * a - b * b) 14 0 * ro_r (a * a - b * b) 14 0 := Int.mul_le_mul (by omega) (by omega) (by decide) (by omega)
      omega
    · exact c
theorem sw_pb {σ : zs_S} {gr k : Int} (hI : sw_I σ) (hg : 1 ≤ gr ∧ gr ≤ 3) (hk : 0 ≤ k ∧ k < 6) : (0 ≤ sw_p σ gr k ∧ sw_p σ gr k ≤ 1100000) ∧ (0 < sw_p σ gr k → 50 ≤ σ (28 + 2 * k.toNat) 0) ∧ (0 ≤ sw_s σ k ∧ sw_s σ k ≤ 4100) := by
  obtain ⟨a, b, c, d⟩ := hI
  obtain ⟨a1, a2, a3⟩ := a k hk.1 hk.2
  have a4 := a3 (gr - 1) (by omega) (by omega)
  have o := od_b (sh := σ 42) (ad := σ 43) (nd := σ 41 k) (fun j y1 y2 => (d.2 j y1 y2).2) 4 (by omega)
  unfold sw_p sw_s
  by_cases h : 0 < σ (28 + 2 * k.toNat) 0
  · rw [if_pos h]; omega
  · rw [if_neg h]; omega
/-- the chain stands ready: steps, prices and reaches of a log -/
def sw_C (σ : zs_S) (s p r : Int → Int) (gp : Int) : Prop := (0 ≤ gp ∧ gp ≤ 100 ∧ σ 26 3 = gp) ∧ ch_J σ ∧ ∀ k : Int, 0 ≤ k → k < 6 → (σ 46 k = s k ∧ σ 47 k = p k ∧ σ 50 k = r k) ∧ (0 ≤ s k ∧ s k ≤ 4100) ∧ (0 ≤ p k ∧ p k ≤ 1100000) ∧ (0 < p k → 50 + gp ≤ s k) ∧ (-1 ≤ r k ∧ r k ≤ 9000)
/-- a stack of the sizes l on a face: A the sizes, P the places -/
def st_R (st A P : Int → Int) (face : Int) (l : List Int) : Prop := ∀ (i : Nat) (k : Int), l[i]? = some k → A i = k ∧ P i = face + 2 * ch_t st (l.take (i + 1))
theorem ch_tk {st : Int → Int} : ∀ {l : List Int} {i : Nat} {k : Int}, l[i]? = some k → ch_t st (l.take (i + 1)) = ch_t st (l.take i) + st k
  | [], i, k, h => by simp at h
  | q :: r, 0, k, h => by
    simp at h
    subst h
    simp [ch_t]
  | q :: r, i + 1, k, h => by
    rw [List.getElem?_cons_succ] at h
    rw [List.take_succ_cons, List.take_succ_cons, ch_t, ch_t, ch_tk h]
    omega
end
section
set_option maxRecDepth 20000 in
set_option maxHeartbeats 4000000 in
theorem m_keepTrial (g : zg_G) (σ : zs_S) (p u : Nat) (hp : zs_p p) (hu : zs_p u) (h6 : σ 26 6 = u) (h7 : σ 26 7 = p) : zm_Met g mX8_keepTrial σ [.ref (g.2.2.1 26)] (fun v τ => v = none ∧ τ 26 6 = p ∧ τ 26 7 = u ∧ τ 26 3 = σ 26 3 ∧ zf_x σ τ [26]) := by
  refine zm_of (by decide +kernel) (Nat.le_of_ble_eq_true rfl) ?_
  intro k C hr
  show zw_W g mX8_keepTrial k 0 [(0, .ref (g.2.2.1 26))] [] σ
  refine zr_aload_n (pc := 0) C dX8_keepTrial_0 0 rfl ?_
  refine zr_get (v := .ref (g.2.2.1 (σ 26 7).toNat)) (pc := 1) C 7 (some none) dX8_keepTrial_1 fX8_45 (by decide) (hs_26 _) rfl rfl ?_
  rw [h7]
  show zw_W g mX8_keepTrial k 4 [(0, .ref (g.2.2.1 26))] [.ref (g.2.2.1 (p))] σ
  refine zr_astore_n (L' := [(1, .ref (g.2.2.1 (p))), (0, .ref (g.2.2.1 26))]) (pc := 4) C dX8_keepTrial_4 (by decide) rfl ?_
  refine zr_aload_n (pc := 5) C dX8_keepTrial_5 1 rfl ?_
  refine zr_aload_n (pc := 6) C dX8_keepTrial_6 1 rfl ?_
  refine zr_get (v := .ref (g.2.2.1 (σ 26 6).toNat)) (pc := 7) C 6 (some none) dX8_keepTrial_7 fX8_41 (by decide) (hs_26 _) rfl rfl ?_
  rw [h6]
  show zw_W g mX8_keepTrial k 10 [(1, .ref (g.2.2.1 (p))), (0, .ref (g.2.2.1 26))] [.ref (g.2.2.1 (u)), .ref (g.2.2.1 26)] σ
  refine zr_putR (pc := 10) C 7 7 rfl dX8_keepTrial_10 pX8_45 (by decide) (hs_26 _) rfl (fun τ_1 e_2 => ?_)
  refine zr_aload_n (pc := 13) C dX8_keepTrial_13 1 rfl ?_
  refine zr_aload_n (pc := 14) C dX8_keepTrial_14 0 rfl ?_
  refine zr_putR (pc := 15) C 6 6 rfl dX8_keepTrial_15 pX8_41 (by decide) (hs_26 _) rfl (fun τ_3 e_4 => ?_)
  exact zr_vret (pc := 18) C hr dX8_keepTrial_18 rfl (⟨rfl, by rw [e_4, zs_put_self], by rw [e_4, zs_put_off (by decide), e_2, zs_put_self], by rw [e_4, zs_put_off (by decide), e_2, zs_put_off (by decide)], zf_p (zf_p (zf_r σ _) e_2 (by decide)) e_4 (by decide)⟩)

set_option maxRecDepth 20000 in
set_option maxHeartbeats 4000000 in
theorem l_prep {g : zg_G} {k : zk_T} {Q : Option Value → zs_S → Prop} (C : zk_ok g mX8_prepare k) (hr : zk_ret g mX8_prepare Q k) (d gr : Int) (hd : 0 ≤ d ∧ d ≤ 9000) (hgr : 1 ≤ gr ∧ gr ≤ 3) (σ0 : zs_S) (hI : sw_I σ0) (hQ : ∀ τ, zf_x σ0 τ [46, 47, 50] → (∀ y : Int, 0 ≤ y → y < 6 → τ 46 y = sw_s σ0 y ∧ τ 47 y = sw_p σ0 gr y ∧ τ 50 y = sw_r σ0 d y) → Q none τ) : ∀ (N : Nat) (σ : zs_S) (a : Int), (6 - a).toNat < N → (0 ≤ a ∧ a ≤ 6) → (zf_x σ0 σ [46, 47, 50]) → ((∀ y : Int, 0 ≤ y → y < a → σ 46 y = sw_s σ0 y ∧ σ 47 y = sw_p σ0 gr y ∧ σ 50 y = sw_r σ0 d y)) → zw_W g mX8_prepare k 2 [(0, .ref (g.2.2.1 26)), (1, zv_i d), (2, zv_i gr), (3, zv_i a)] [] σ := by
  intro N
  induction N with
  | zero =>
    intro σ a hN
    exact absurd hN (by omega)
  | succ N ih =>
    intro σ a hN ha fr hA
    refine zr_iload_n (pc := 2) C dX8_prepare_2 3 rfl ?_
    refine zr_bipush (pc := 3) C dX8_prepare_3 (by decide) ?_
    refine zr_icmp_ge (pc := 5) C 95 dX8_prepare_5 (by decide) (by omega) (by omega) (fun h_1 => ?_) (fun h_1 => ?_)
    · exact zr_vret (pc := 95) C hr dX8_prepare_95 rfl (hQ σ fr (fun y y1 y2 => hA y y1 (by omega)))
    · obtain ⟨⟨a1, a2, a3⟩, g1, -, o1⟩ : ((σ0 (28 + 2 * a.toNat) 0 = 0 ∨ (50 ≤ σ0 (28 + 2 * a.toNat) 0 ∧ σ0 (28 + 2 * a.toNat) 0 ≤ 4000)) ∧ (0 ≤ σ0 (28 + 2 * a.toNat) 1 ∧ σ0 (28 + 2 * a.toNat) 1 ≤ 4000) ∧ ∀ i : Int, 0 ≤ i → i < 3 → 0 ≤ σ0 (29 + 2 * a.toNat) i ∧ σ0 (29 + 2 * a.toNat) i ≤ 1000000) ∧ (0 ≤ σ0 26 3 ∧ σ0 26 3 ≤ 100) ∧ (∀ i : Int, 0 ≤ i → i < 4 → σ0 44 i = 0 ∨ (300 ≤ σ0 44 i ∧ σ0 44 i ≤ 5000)) ∧ od_I σ0 := ⟨hI.1 a (by omega) (by omega), hI.2⟩
      have e0 : σ (28 + 2 * a.toNat) 0 = σ0 (28 + 2 * a.toNat) 0 := fr _ (by simp; omega) 0
      have e3 : σ 26 3 = σ0 26 3 := fr 26 (by decide) 3
      have ej : 0 ≤ a ∧ a < 6 := by omega
      refine zr_aload_n (pc := 8) C dX8_prepare_8 0 rfl ?_
      refine zr_get (v := .ref (g.2.2.1 27)) (pc := 9) C 0 (some (some 27)) dX8_prepare_9 fX8_11 (by decide) (hs_26 _) rfl rfl ?_
      refine zr_iload_n (pc := 12) C dX8_prepare_12 3 rfl ?_
      refine zr_aaload (pc := 13) C dX8_prepare_13 (by decide) (hs_27 _) (by decide) (by exact ej) (by decide) ?_
      show zw_W g mX8_prepare k 14 [(0, .ref (g.2.2.1 26)), (1, zv_i d), (2, zv_i gr), (3, zv_i a)] [.ref (g.2.2.1 (28 + 2 * a.toNat))] σ
      refine zr_astore (L' := [(4, .ref (g.2.2.1 (28 + 2 * a.toNat))), (0, .ref (g.2.2.1 26)), (1, zv_i d), (2, zv_i gr), (3, zv_i a)]) (pc := 14) C dX8_prepare_14 (by decide) rfl ?_
      refine zr_aload_n (pc := 16) C dX8_prepare_16 1 rfl ?_
      refine zr_get (v := .ref (g.2.2.1 45)) (pc := 17) C 4 (some (some 45)) dX8_prepare_17 fX8_31 (by decide) (hs_26 _) rfl rfl ?_
      refine zr_get (v := .ref (g.2.2.1 46)) (pc := 20) C 0 (some (some 46)) dX8_prepare_20 fX8_82 (by decide) (hs_45 _) rfl rfl ?_
      refine zr_iload_n (pc := 23) C dX8_prepare_23 4 rfl ?_
      refine zr_aload (pc := 24) C dX8_prepare_24 0 rfl ?_
      refine zr_get (v := zv_i (σ (28 + 2 * a.toNat) 0)) (pc := 26) C 0 none dX8_prepare_26 fX8_85 (hn_size (by exact ej)) (hs_size (by exact ej)) rfl rfl ?_
      refine zr_aload_n (pc := 29) C dX8_prepare_29 1 rfl ?_
      refine zr_get (v := zv_i (σ 26 3)) (pc := 30) C 3 none dX8_prepare_30 fX8_88 (by decide) (hs_26 _) rfl rfl ?_
      refine zr_iadd (pc := 33) C dX8_prepare_33 ?_
      refine zr_iastore (pc := 34) C dX8_prepare_34 (by decide) (hs_46 _) (by omega) (by decide) (fun τ_2 e_3 => ?_)
      refine zr_aload_n (pc := 35) C dX8_prepare_35 1 rfl ?_
      refine zr_get (v := .ref (g.2.2.1 45)) (pc := 36) C 4 (some (some 45)) dX8_prepare_36 fX8_31 (by decide) (hs_26 _) rfl rfl ?_
      refine zr_get (v := .ref (g.2.2.1 47)) (pc := 39) C 1 (some (some 47)) dX8_prepare_39 fX8_70 (by decide) (hs_45 _) rfl rfl ?_
      refine zr_iload_n (pc := 42) C dX8_prepare_42 4 rfl ?_
      have e9 : τ_2 (28 + 2 * a.toNat) 0 = σ0 (28 + 2 * a.toNat) 0 := by rw [e_3, zs_put_ne (by omega), e0]
      refine zr_aload (pc := 43) C dX8_prepare_43 0 rfl ?_
      refine zr_callV (As := []) (rest := [zv_i a, .ref (g.2.2.1 47)]) (b := 28 + 2 * a.toNat) (pc := 45) C dX8_prepare_45 kX0_isTold vX8_91 rfl (by decide) (hn_size (by exact ej)) (hs_size (by exact ej)) rfl (Nat.le_of_ble_eq_true rfl) (m_toldS g τ_2 a (by exact ej) (by rw [e9]; omega)) (fun v_ τ_ h_ => ?_)
      obtain ⟨rfl, rfl⟩ := h_
      show zw_W g mX8_prepare k 48 [(4, .ref (g.2.2.1 (28 + 2 * a.toNat))), (0, .ref (g.2.2.1 26)), (1, zv_i d), (2, zv_i gr), (3, zv_i a)] [zv_i (zi_b (0 < τ_2 (28 + 2 * a.toNat) 0)), zv_i a, .ref (g.2.2.1 47)] τ_2
      refine zr_if_eq_b (pc := 48) C 72 dX8_prepare_48 (by decide) (fun h_4 => ?_) (fun h_4 => ?_)
      · 
        refine zr_iconst (pc := 72) C dX8_prepare_72 ?_
        refine zr_iastore (pc := 73) C dX8_prepare_73 (by decide) (hs_47 _) (by omega) (by decide) (fun τ_5 e_6 => ?_)
        have ew : τ_5 (28 + 2 * a.toNat) 1 = σ0 (28 + 2 * a.toNat) 1 := by rw [e_6, zs_put_ne (by omega), e_3, zs_put_ne (by omega), fr _ (by simp; omega)]
        refine zr_aload_n (pc := 74) C dX8_prepare_74 1 rfl ?_
        refine zr_get (v := .ref (g.2.2.1 50)) (pc := 75) C 5 (some (some 50)) dX8_prepare_75 fX8_35 (by decide) (hs_26 _) rfl rfl ?_
        refine zr_iload_n (pc := 78) C dX8_prepare_78 4 rfl ?_
        refine zr_iload_n (pc := 79) C dX8_prepare_79 2 rfl ?_
        refine zr_aload (pc := 80) C dX8_prepare_80 0 rfl ?_
        refine zr_get (v := zv_i (τ_5 (28 + 2 * a.toNat) 1)) (pc := 82) C 1 none dX8_prepare_82 fX8_99 (hn_size (by exact ej)) (hs_size (by exact ej)) rfl rfl ?_
        refine zr_callSN (As := [zv_i d, zv_i (τ_5 (28 + 2 * a.toNat) 1)]) (rest := [zv_i a, .ref (g.2.2.1 50)]) (pc := 85) C dX8_prepare_85 kX10_room sX8_102 rfl (by decide) rfl (Nat.le_of_ble_eq_true rfl) (m_room g τ_5 d (τ_5 (28 + 2 * a.toNat) 1) (by omega) (by rw [ew]; omega)) (fun v_ τ_ h_ => ?_)
        obtain ⟨rfl, rfl⟩ := h_
        show zw_W g mX8_prepare k 88 [(4, .ref (g.2.2.1 (28 + 2 * a.toNat))), (0, .ref (g.2.2.1 26)), (1, zv_i d), (2, zv_i gr), (3, zv_i a)] [zv_i (ro_m d (τ_5 (28 + 2 * a.toNat) 1)), zv_i a, .ref (g.2.2.1 50)] τ_5
        refine zr_iastore (pc := 88) C dX8_prepare_88 (by decide) (hs_50 _) (by omega) (by decide) (fun τ_7 e_8 => ?_)
        refine zr_iinc (L' := [(3, zv_i (a + 1)), (4, .ref (g.2.2.1 (28 + 2 * a.toNat))), (0, .ref (g.2.2.1 26)), (1, zv_i d), (2, zv_i gr)]) (pc := 89) C dX8_prepare_89 4 rfl (by decide) rfl ?_
        refine zr_goto (pc := 92) C 2 dX8_prepare_92 (by decide) ?_
        have ep : 0 = sw_p σ0 gr a := by
          unfold sw_p
          rw [if_neg (by omega)]
        refine zr_sub [2, 3, 4, 0] rfl ?_
        exact ih τ_7 (a + 1) (by omega) (by omega) (zf_p (zf_p (zf_p fr e_3 (by decide)) e_6 (by decide)) e_8 (by decide)) (fun y y1 y2 => by
          have q46 : τ_7 46 y = if y = a then σ (28 + 2 * a.toNat) 0 + σ 26 3 else σ 46 y := by rw [e_8, zs_put_ne (by decide), e_6, zs_put_ne (by decide), e_3, zs_put_at]
          have r47 : τ_2 47 y = σ 47 y := by rw [e_3, zs_put_ne (by decide)]
          have q47 : τ_7 47 y = if y = a then 0 else σ 47 y := by rw [e_8, zs_put_ne (by decide), e_6, zs_put_at, r47]
          have r50 : τ_5 50 y = σ 50 y := by rw [e_6, zs_put_ne (by decide), e_3, zs_put_ne (by decide)]
          have q50 : τ_7 50 y = if y = a then ro_m d (τ_5 (28 + 2 * a.toNat) 1) else σ 50 y := by rw [e_8, zs_put_at, r50]
          rw [q46, q47, q50]
          by_cases z : y = a
          · subst z
            rw [if_pos rfl, if_pos rfl, if_pos rfl]
            refine ⟨by rw [e0, e3]; rfl, ep, ?_⟩
            unfold sw_r sw_w
            rw [ew]
          · rw [if_neg z, if_neg z, if_neg z]
            exact hA y y1 (by omega))
      · have f1 : τ_2 (29 + 2 * a.toNat) (gr - 1) = σ0 (29 + 2 * a.toNat) (gr - 1) := by rw [e_3, zs_put_ne (by omega), fr _ (by simp; omega)]
        have f2 : τ_2 42 = σ0 42 := funext fun y => by rw [e_3, zs_put_ne (by omega), fr _ (by simp)]
        have f3 : τ_2 43 = σ0 43 := funext fun y => by rw [e_3, zs_put_ne (by omega), fr _ (by simp)]
        have f4 : τ_2 41 a = σ0 41 a := by rw [e_3, zs_put_ne (by omega), fr _ (by simp)]
        have f5 : ∀ c, c ≠ 46 → c ≠ 47 → c ≠ 50 → ∀ y, τ_2 c y = σ0 c y := fun c x1 x2 x3 y => by rw [e_3, zs_put_ne x1, fr c (by simp; omega)]
        have oS : od_I τ_2 := ⟨fun y y1 y2 => by rw [f5 41 (by decide) (by decide) (by decide)]; exact o1.1 y y1 y2, fun y y1 y2 => by rw [f5 42 (by decide) (by decide) (by decide), f5 43 (by decide) (by decide) (by decide)]; exact o1.2 y y1 y2⟩
        refine zr_aload (pc := 51) C dX8_prepare_51 0 rfl ?_
        refine zr_get (v := .ref (g.2.2.1 (29 + 2 * a.toNat))) (pc := 53) C 2 (some (some (29 + 2 * a.toNat))) dX8_prepare_53 fX8_95 (hn_size (by exact ej)) (hs_size (by exact ej)) rfl rfl ?_
        refine zr_iload_n (pc := 56) C dX8_prepare_56 3 rfl ?_
        refine zr_iconst (pc := 57) C dX8_prepare_57 ?_
        refine zr_isub (pc := 58) C dX8_prepare_58 ?_
        refine zr_iaload (pc := 59) C dX8_prepare_59 (hn_sizeP (by exact ej)) (hs_sizeP (by exact ej)) (by omega) (by decide) ?_
        refine zr_aload_n (pc := 60) C dX8_prepare_60 1 rfl ?_
        refine zr_get (v := .ref (g.2.2.1 40)) (pc := 61) C 1 (some (some 40)) dX8_prepare_61 fX8_20 (by decide) (hs_26 _) rfl rfl ?_
        refine zr_iload_n (pc := 64) C dX8_prepare_64 4 rfl ?_
        refine zr_callV (As := [zv_i a]) (rest := [zv_i (τ_2 (29 + 2 * a.toNat) (gr - 1)), zv_i a, .ref (g.2.2.1 47)]) (b := 40) (pc := 65) C dX8_prepare_65 kX6_additionFor vX8_96 rfl (by decide) (by decide) (hs_40 _) rfl (Nat.le_of_ble_eq_true rfl) (m_addf g τ_2 a (by omega) (by exact oS)) (fun v_ τ_ h_ => ?_)
        obtain ⟨rfl, rfl⟩ := h_
        show zw_W g mX8_prepare k 68 [(4, .ref (g.2.2.1 (28 + 2 * a.toNat))), (0, .ref (g.2.2.1 26)), (1, zv_i d), (2, zv_i gr), (3, zv_i a)] [zv_i (od_a (τ_2 42) (τ_2 43) (τ_2 41 a) 4), zv_i (τ_2 (29 + 2 * a.toNat) (gr - 1)), zv_i a, .ref (g.2.2.1 47)] τ_2
        refine zr_iadd (pc := 68) C dX8_prepare_68 ?_
        refine zr_goto (pc := 69) C 73 dX8_prepare_69 (by decide) ?_
        refine zr_iastore (pc := 73) C dX8_prepare_73 (by decide) (hs_47 _) (by omega) (by decide) (fun τ_9 e_10 => ?_)
        have ew : τ_9 (28 + 2 * a.toNat) 1 = σ0 (28 + 2 * a.toNat) 1 := by rw [e_10, zs_put_ne (by omega), e_3, zs_put_ne (by omega), fr _ (by simp; omega)]
        refine zr_aload_n (pc := 74) C dX8_prepare_74 1 rfl ?_
        refine zr_get (v := .ref (g.2.2.1 50)) (pc := 75) C 5 (some (some 50)) dX8_prepare_75 fX8_35 (by decide) (hs_26 _) rfl rfl ?_
        refine zr_iload_n (pc := 78) C dX8_prepare_78 4 rfl ?_
        refine zr_iload_n (pc := 79) C dX8_prepare_79 2 rfl ?_
        refine zr_aload (pc := 80) C dX8_prepare_80 0 rfl ?_
        refine zr_get (v := zv_i (τ_9 (28 + 2 * a.toNat) 1)) (pc := 82) C 1 none dX8_prepare_82 fX8_99 (hn_size (by exact ej)) (hs_size (by exact ej)) rfl rfl ?_
        refine zr_callSN (As := [zv_i d, zv_i (τ_9 (28 + 2 * a.toNat) 1)]) (rest := [zv_i a, .ref (g.2.2.1 50)]) (pc := 85) C dX8_prepare_85 kX10_room sX8_102 rfl (by decide) rfl (Nat.le_of_ble_eq_true rfl) (m_room g τ_9 d (τ_9 (28 + 2 * a.toNat) 1) (by omega) (by rw [ew]; omega)) (fun v_ τ_ h_ => ?_)
        obtain ⟨rfl, rfl⟩ := h_
        show zw_W g mX8_prepare k 88 [(4, .ref (g.2.2.1 (28 + 2 * a.toNat))), (0, .ref (g.2.2.1 26)), (1, zv_i d), (2, zv_i gr), (3, zv_i a)] [zv_i (ro_m d (τ_9 (28 + 2 * a.toNat) 1)), zv_i a, .ref (g.2.2.1 50)] τ_9
        refine zr_iastore (pc := 88) C dX8_prepare_88 (by decide) (hs_50 _) (by omega) (by decide) (fun τ_11 e_12 => ?_)
        refine zr_iinc (L' := [(3, zv_i (a + 1)), (4, .ref (g.2.2.1 (28 + 2 * a.toNat))), (0, .ref (g.2.2.1 26)), (1, zv_i d), (2, zv_i gr)]) (pc := 89) C dX8_prepare_89 4 rfl (by decide) rfl ?_
        refine zr_goto (pc := 92) C 2 dX8_prepare_92 (by decide) ?_
        have ep : ((τ_2 (29 + 2 * a.toNat) (gr - 1)) + (od_a (τ_2 42) (τ_2 43) (τ_2 41 a) 4)) = sw_p σ0 gr a := by
          unfold sw_p
          rw [if_pos (by omega), f1, f2, f3, f4]
        refine zr_sub [2, 3, 4, 0] rfl ?_
        exact ih τ_11 (a + 1) (by omega) (by omega) (zf_p (zf_p (zf_p fr e_3 (by decide)) e_10 (by decide)) e_12 (by decide)) (fun y y1 y2 => by
          have q46 : τ_11 46 y = if y = a then σ (28 + 2 * a.toNat) 0 + σ 26 3 else σ 46 y := by rw [e_12, zs_put_ne (by decide), e_10, zs_put_ne (by decide), e_3, zs_put_at]
          have r47 : τ_2 47 y = σ 47 y := by rw [e_3, zs_put_ne (by decide)]
          have q47 : τ_11 47 y = if y = a then ((τ_2 (29 + 2 * a.toNat) (gr - 1)) + (od_a (τ_2 42) (τ_2 43) (τ_2 41 a) 4)) else σ 47 y := by rw [e_12, zs_put_ne (by decide), e_10, zs_put_at, r47]
          have r50 : τ_9 50 y = σ 50 y := by rw [e_10, zs_put_ne (by decide), e_3, zs_put_ne (by decide)]
          have q50 : τ_11 50 y = if y = a then ro_m d (τ_9 (28 + 2 * a.toNat) 1) else σ 50 y := by rw [e_12, zs_put_at, r50]
          rw [q46, q47, q50]
          by_cases z : y = a
          · subst z
            rw [if_pos rfl, if_pos rfl, if_pos rfl]
            refine ⟨by rw [e0, e3]; rfl, ep, ?_⟩
            unfold sw_r sw_w
            rw [ew]
          · rw [if_neg z, if_neg z, if_neg z]
            exact hA y y1 (by omega))

set_option maxRecDepth 20000 in
set_option maxHeartbeats 4000000 in
theorem m_prep (g : zg_G) (σ : zs_S) (d gr : Int) (hd : 0 ≤ d ∧ d ≤ 9000) (hgr : 1 ≤ gr ∧ gr ≤ 3) (hI : sw_I σ) : zm_Met g mX8_prepare σ [.ref (g.2.2.1 26), zv_i d, zv_i gr] (fun v τ => v = none ∧ zf_x σ τ [46, 47, 50] ∧ (∀ y : Int, 0 ≤ y → y < 6 → τ 46 y = sw_s σ y ∧ τ 47 y = sw_p σ gr y ∧ τ 50 y = sw_r σ d y)) := by
  refine zm_of (by decide +kernel) (Nat.le_of_ble_eq_true rfl) ?_
  intro k C hr
  show zw_W g mX8_prepare k 0 [(0, .ref (g.2.2.1 26)), (1, zv_i d), (2, zv_i gr)] [] σ
  refine zr_iconst (pc := 0) C dX8_prepare_0 ?_
  refine zr_istore_n (L' := [(3, zv_i 0), (0, .ref (g.2.2.1 26)), (1, zv_i d), (2, zv_i gr)]) (pc := 1) C dX8_prepare_1 (by decide) rfl ?_
  refine zr_sub [1, 2, 3, 0] rfl ?_
  exact l_prep C hr d gr hd hgr σ hI (fun τ z1 z2 => ⟨rfl, z1, z2⟩) 7 σ 0 (by omega) (by omega) (zf_r σ _) (fun y y1 y2 => absurd y2 (by omega))
end
section
set_option maxRecDepth 20000 in
set_option maxHeartbeats 4000000 in
theorem l_stackA {g : zg_G} {k : zk_T} {Q : Option Value → zs_S → Prop} (C : zk_ok g mX8_stackFrom k) (hr : zk_ret g mX8_stackFrom Q k) (s pr rc : Int → Int) (gp : Int) (face : Int) (σ0 : zs_S) (hC : sw_C σ0 s pr rc gp) (hf : -2 * gp ≤ face ∧ face ≤ 5000) (hex : ∀ σ1, zf_x σ0 σ1 [48] → (∀ y : Int, 0 ≤ y → y < 6 → σ1 48 y = sw_ls pr rc face y) → zw_W g mX8_stackFrom k 79 [(0, .ref (g.2.2.1 26)), (1, zv_i face)] [] σ1) : ∀ (N : Nat) (σ : zs_S) (a : Int), (6 - a).toNat < N → (0 ≤ a ∧ a ≤ 6) → (zf_x σ0 σ [48]) → (∀ y : Int, 0 ≤ y → y < a → σ 48 y = sw_ls pr rc face y) → zw_W g mX8_stackFrom k 2 [(0, .ref (g.2.2.1 26)), (1, zv_i face), (2, zv_i a)] [] σ := by
  intro N
  induction N with
  | zero =>
    intro σ a hN
    exact absurd hN (by omega)
  | succ N ih =>
    intro σ a hN ha fr hA
    refine zr_iload_n (pc := 2) C dX8_stackFrom_2 2 rfl ?_
    refine zr_bipush (pc := 3) C dX8_stackFrom_3 (by decide) ?_
    refine zr_icmp_ge (pc := 5) C 79 dX8_stackFrom_5 (by decide) (by omega) (by omega) (fun h_1 => ?_) (fun h_1 => ?_)
    · refine zr_sub [0, 1] rfl ?_
      exact hex σ fr (fun y y1 y2 => hA y y1 (by omega))
    · have kb := hC.2.2 a (by omega) (by omega)
      have e47 : σ 47 a = pr a := (fr 47 (by decide) a).trans kb.1.2.1
      have e50 : σ 50 a = rc a := (fr 50 (by decide) a).trans kb.1.2.2
      have g1 := hC.1
      refine zr_aload_n (pc := 8) C dX8_stackFrom_8 0 rfl ?_
      refine zr_get (v := .ref (g.2.2.1 45)) (pc := 9) C 4 (some (some 45)) dX8_stackFrom_9 fX8_31 (by decide) (hs_26 _) rfl rfl ?_
      refine zr_get (v := .ref (g.2.2.1 47)) (pc := 12) C 1 (some (some 47)) dX8_stackFrom_12 fX8_70 (by decide) (hs_45 _) rfl rfl ?_
      refine zr_iload_n (pc := 15) C dX8_stackFrom_15 2 rfl ?_
      refine zr_iaload (pc := 16) C dX8_stackFrom_16 (by decide) (hs_47 _) (by omega) (by decide) ?_
      refine zr_if_le (pc := 17) C 44 dX8_stackFrom_17 (by decide) (by omega) (fun h_2 => ?_) (fun h_2 => ?_)
      · refine zr_iconst (pc := 44) C dX8_stackFrom_44 ?_
        refine zr_istore_n (L' := [(3, zv_i 0), (0, .ref (g.2.2.1 26)), (1, zv_i face), (2, zv_i a)]) (pc := 45) C dX8_stackFrom_45 (by decide) rfl ?_
        refine zr_aload_n (pc := 46) C dX8_stackFrom_46 1 rfl ?_
        refine zr_get (v := .ref (g.2.2.1 45)) (pc := 47) C 4 (some (some 45)) dX8_stackFrom_47 fX8_31 (by decide) (hs_26 _) rfl rfl ?_
        refine zr_get (v := .ref (g.2.2.1 48)) (pc := 50) C 2 (some (some 48)) dX8_stackFrom_50 fX8_121 (by decide) (hs_45 _) rfl rfl ?_
        refine zr_iload_n (pc := 53) C dX8_stackFrom_53 3 rfl ?_
        refine zr_iload_n (pc := 54) C dX8_stackFrom_54 0 rfl ?_
        refine zr_if_eq (pc := 55) C 71 dX8_stackFrom_55 (by decide) (by omega) (fun h_3 => ?_) (fun h_3 => ?_)
        · refine zr_iconst (pc := 71) C dX8_stackFrom_71 ?_
          refine zr_iastore (pc := 72) C dX8_stackFrom_72 (by decide) (hs_48 _) (by omega) (by decide) (fun τ_4 e_5 => ?_)
          refine zr_iinc (L' := [(2, zv_i (a + 1)), (3, zv_i 0), (0, .ref (g.2.2.1 26)), (1, zv_i face)]) (pc := 73) C dX8_stackFrom_73 3 rfl (by decide) rfl ?_
          refine zr_goto (pc := 76) C 2 dX8_stackFrom_76 (by decide) ?_
          refine zr_sub [2, 3, 0] rfl ?_
          exact ih τ_4 (a + 1) (by omega) (by omega) (zf_p fr e_5 (by decide)) (fun y y1 y2 => by
            rw [e_5, zs_put_at]
            by_cases z : y = a
            · subst z
              rw [if_pos rfl]
              unfold sw_ls; rw [if_neg (by omega)]
            · rw [if_neg z]
              exact hA y y1 (by omega))
        · exact absurd h_3 (by decide)
      · refine zr_aload_n (pc := 20) C dX8_stackFrom_20 0 rfl ?_
        refine zr_get (v := .ref (g.2.2.1 50)) (pc := 21) C 5 (some (some 50)) dX8_stackFrom_21 fX8_35 (by decide) (hs_26 _) rfl rfl ?_
        refine zr_iload_n (pc := 24) C dX8_stackFrom_24 2 rfl ?_
        refine zr_iaload (pc := 25) C dX8_stackFrom_25 (by decide) (hs_50 _) (by omega) (by decide) ?_
        refine zr_iconst (pc := 26) C dX8_stackFrom_26 ?_
        refine zr_icmp_eq (pc := 27) C 44 dX8_stackFrom_27 (by decide) (by omega) (by omega) (fun h_6 => ?_) (fun h_6 => ?_)
        · refine zr_iconst (pc := 44) C dX8_stackFrom_44 ?_
          refine zr_istore_n (L' := [(3, zv_i 0), (0, .ref (g.2.2.1 26)), (1, zv_i face), (2, zv_i a)]) (pc := 45) C dX8_stackFrom_45 (by decide) rfl ?_
          refine zr_aload_n (pc := 46) C dX8_stackFrom_46 1 rfl ?_
          refine zr_get (v := .ref (g.2.2.1 45)) (pc := 47) C 4 (some (some 45)) dX8_stackFrom_47 fX8_31 (by decide) (hs_26 _) rfl rfl ?_
          refine zr_get (v := .ref (g.2.2.1 48)) (pc := 50) C 2 (some (some 48)) dX8_stackFrom_50 fX8_121 (by decide) (hs_45 _) rfl rfl ?_
          refine zr_iload_n (pc := 53) C dX8_stackFrom_53 3 rfl ?_
          refine zr_iload_n (pc := 54) C dX8_stackFrom_54 0 rfl ?_
          refine zr_if_eq (pc := 55) C 71 dX8_stackFrom_55 (by decide) (by omega) (fun h_7 => ?_) (fun h_7 => ?_)
          · refine zr_iconst (pc := 71) C dX8_stackFrom_71 ?_
            refine zr_iastore (pc := 72) C dX8_stackFrom_72 (by decide) (hs_48 _) (by omega) (by decide) (fun τ_8 e_9 => ?_)
            refine zr_iinc (L' := [(2, zv_i (a + 1)), (3, zv_i 0), (0, .ref (g.2.2.1 26)), (1, zv_i face)]) (pc := 73) C dX8_stackFrom_73 3 rfl (by decide) rfl ?_
            refine zr_goto (pc := 76) C 2 dX8_stackFrom_76 (by decide) ?_
            refine zr_sub [2, 3, 0] rfl ?_
            exact ih τ_8 (a + 1) (by omega) (by omega) (zf_p fr e_9 (by decide)) (fun y y1 y2 => by
              rw [e_9, zs_put_at]
              by_cases z : y = a
              · subst z
                rw [if_pos rfl]
                unfold sw_ls; rw [if_neg (by omega)]
              · rw [if_neg z]
                exact hA y y1 (by omega))
          · exact absurd h_7 (by decide)
        · refine zr_aload_n (pc := 30) C dX8_stackFrom_30 0 rfl ?_
          refine zr_get (v := .ref (g.2.2.1 50)) (pc := 31) C 5 (some (some 50)) dX8_stackFrom_31 fX8_35 (by decide) (hs_26 _) rfl rfl ?_
          refine zr_iload_n (pc := 34) C dX8_stackFrom_34 2 rfl ?_
          refine zr_iaload (pc := 35) C dX8_stackFrom_35 (by decide) (hs_50 _) (by omega) (by decide) ?_
          refine zr_iload_n (pc := 36) C dX8_stackFrom_36 1 rfl ?_
          refine zr_icmp_lt (pc := 37) C 44 dX8_stackFrom_37 (by decide) (by omega) (by omega) (fun h_10 => ?_) (fun h_10 => ?_)
          · refine zr_iconst (pc := 44) C dX8_stackFrom_44 ?_
            refine zr_istore_n (L' := [(3, zv_i 0), (0, .ref (g.2.2.1 26)), (1, zv_i face), (2, zv_i a)]) (pc := 45) C dX8_stackFrom_45 (by decide) rfl ?_
            refine zr_aload_n (pc := 46) C dX8_stackFrom_46 1 rfl ?_
            refine zr_get (v := .ref (g.2.2.1 45)) (pc := 47) C 4 (some (some 45)) dX8_stackFrom_47 fX8_31 (by decide) (hs_26 _) rfl rfl ?_
            refine zr_get (v := .ref (g.2.2.1 48)) (pc := 50) C 2 (some (some 48)) dX8_stackFrom_50 fX8_121 (by decide) (hs_45 _) rfl rfl ?_
            refine zr_iload_n (pc := 53) C dX8_stackFrom_53 3 rfl ?_
            refine zr_iload_n (pc := 54) C dX8_stackFrom_54 0 rfl ?_
            refine zr_if_eq (pc := 55) C 71 dX8_stackFrom_55 (by decide) (by omega) (fun h_11 => ?_) (fun h_11 => ?_)
            · refine zr_iconst (pc := 71) C dX8_stackFrom_71 ?_
              refine zr_iastore (pc := 72) C dX8_stackFrom_72 (by decide) (hs_48 _) (by omega) (by decide) (fun τ_12 e_13 => ?_)
              refine zr_iinc (L' := [(2, zv_i (a + 1)), (3, zv_i 0), (0, .ref (g.2.2.1 26)), (1, zv_i face)]) (pc := 73) C dX8_stackFrom_73 3 rfl (by decide) rfl ?_
              refine zr_goto (pc := 76) C 2 dX8_stackFrom_76 (by decide) ?_
              refine zr_sub [2, 3, 0] rfl ?_
              exact ih τ_12 (a + 1) (by omega) (by omega) (zf_p fr e_13 (by decide)) (fun y y1 y2 => by
                rw [e_13, zs_put_at]
                by_cases z : y = a
                · subst z
                  rw [if_pos rfl]
                  unfold sw_ls; rw [if_neg (by omega)]
                · rw [if_neg z]
                  exact hA y y1 (by omega))
            · exact absurd h_11 (by decide)
          · refine zr_iconst (pc := 40) C dX8_stackFrom_40 ?_
            refine zr_goto (pc := 41) C 45 dX8_stackFrom_41 (by decide) ?_
            refine zr_istore_n (L' := [(3, zv_i 1), (0, .ref (g.2.2.1 26)), (1, zv_i face), (2, zv_i a)]) (pc := 45) C dX8_stackFrom_45 (by decide) rfl ?_
            refine zr_aload_n (pc := 46) C dX8_stackFrom_46 1 rfl ?_
            refine zr_get (v := .ref (g.2.2.1 45)) (pc := 47) C 4 (some (some 45)) dX8_stackFrom_47 fX8_31 (by decide) (hs_26 _) rfl rfl ?_
            refine zr_get (v := .ref (g.2.2.1 48)) (pc := 50) C 2 (some (some 48)) dX8_stackFrom_50 fX8_121 (by decide) (hs_45 _) rfl rfl ?_
            refine zr_iload_n (pc := 53) C dX8_stackFrom_53 3 rfl ?_
            refine zr_iload_n (pc := 54) C dX8_stackFrom_54 0 rfl ?_
            refine zr_if_eq (pc := 55) C 71 dX8_stackFrom_55 (by decide) (by omega) (fun h_14 => ?_) (fun h_14 => ?_)
            · exact absurd h_14 (by decide)
            · refine zr_aload_n (pc := 58) C dX8_stackFrom_58 1 rfl ?_
              refine zr_get (v := .ref (g.2.2.1 50)) (pc := 59) C 5 (some (some 50)) dX8_stackFrom_59 fX8_35 (by decide) (hs_26 _) rfl rfl ?_
              refine zr_iload_n (pc := 62) C dX8_stackFrom_62 3 rfl ?_
              refine zr_iaload (pc := 63) C dX8_stackFrom_63 (by decide) (hs_50 _) (by omega) (by decide) ?_
              refine zr_iload_n (pc := 64) C dX8_stackFrom_64 2 rfl ?_
              refine zr_isub (pc := 65) C dX8_stackFrom_65 ?_
              refine zr_iconst (pc := 66) C dX8_stackFrom_66 ?_
              refine zr_idiv (pc := 67) C dX8_stackFrom_67 (by omega) (by omega) (by omega) (by omega) ?_
              refine zr_goto (pc := 68) C 72 dX8_stackFrom_68 (by decide) ?_
              refine zr_iastore (pc := 72) C dX8_stackFrom_72 (by decide) (hs_48 _) (by omega) (by decide) (fun τ_15 e_16 => ?_)
              refine zr_iinc (L' := [(2, zv_i (a + 1)), (3, zv_i 1), (0, .ref (g.2.2.1 26)), (1, zv_i face)]) (pc := 73) C dX8_stackFrom_73 3 rfl (by decide) rfl ?_
              refine zr_goto (pc := 76) C 2 dX8_stackFrom_76 (by decide) ?_
              refine zr_sub [2, 3, 0] rfl ?_
              exact ih τ_15 (a + 1) (by omega) (by omega) (zf_p fr e_16 (by decide)) (fun y y1 y2 => by
                rw [e_16, zs_put_at]
                by_cases z : y = a
                · subst z
                  rw [if_pos rfl]
                  unfold sw_ls; rw [if_pos (by omega), e50]
                · rw [if_neg z]
                  exact hA y y1 (by omega))

set_option maxRecDepth 20000 in
set_option maxHeartbeats 4000000 in
theorem l_stackB {g : zg_G} {k : zk_T} {Q : Option Value → zs_S → Prop} (C : zk_ok g mX8_stackFrom k) (hr : zk_ret g mX8_stackFrom Q k) (p : Nat) (hp : zs_p p) (s : Int → Int) (face r : Int) (σ0 : zs_S) (l : List Int) (hs : ∀ k : Int, 0 ≤ k → k < 6 → σ0 46 k = s k) (hc : σ0 (p + 4) 0 = l.length) (hl9 : (l.length : Int) ≤ 90) (hR : ln_R s (σ0 (p + 4 + 1)) (σ0 (p + 4 + 2)) l) (hm : ∀ k ∈ l, 0 ≤ k ∧ k < 6) (hQ : ∀ τ, zf_x σ0 τ [p + 4 + 2] → st_R s (σ0 (p + 4 + 1)) (τ (p + 4 + 2)) face l → Q (some (zv_i r)) τ) : ∀ (N : Nat) (σ : zs_S) (a : Int), (l.length - a).toNat < N → (0 ≤ a ∧ a ≤ l.length) → (zf_x σ0 σ [p + 4 + 2]) → (∀ (j : Nat) (k : Int), (j : Int) < a → l[j]? = some k → σ (p + 4 + 2) j = face + 2 * ch_t s (l.take (j + 1))) → (∀ j : Int, a ≤ j → σ (p + 4 + 2) j = σ0 (p + 4 + 2) j) → zw_W g mX8_stackFrom k 106 [(0, .ref (g.2.2.1 26)), (1, zv_i face), (2, zv_i r), (3, .ref (g.2.2.1 (p + 4))), (4, zv_i a)] [] σ := by
  intro N
  induction N with
  | zero =>
    intro σ a hN
    exact absurd hN (by omega)
  | succ N ih =>
    intro σ a hN ha fr h1 h2
    have z4 := zs_n4 hp
    have ec : σ (p + 4) 0 = l.length := (fr _ (by simp) 0).trans hc
    refine zr_iload (pc := 106) C dX8_stackFrom_106 4 rfl ?_
    refine zr_aload_n (pc := 108) C dX8_stackFrom_108 3 rfl ?_
    refine zr_get (v := zv_i (σ (p + 4) 0)) (pc := 109) C 0 none dX8_stackFrom_109 fX8_113 (hn_line (zl_4 hp)) (hs_line (zl_4 hp)) rfl rfl ?_
    refine zr_icmp_ge (pc := 112) C 155 dX8_stackFrom_112 (by decide) (by omega) (by omega) (fun h_1 => ?_) (fun h_1 => ?_)
    · refine zr_iload_n (pc := 155) C dX8_stackFrom_155 2 rfl ?_
      exact zr_iret (pc := 156) C hr dX8_stackFrom_156 rfl (hQ σ fr (fun j k hj => ⟨(hR j k hj).1, h1 j k (by have := (List.getElem?_eq_some_iff.mp hj).1; omega) hj⟩))
    · obtain ⟨q, hq⟩ : ∃ q, l[a.toNat]? = some q := ⟨_, List.getElem?_eq_getElem (by omega)⟩
      have hqm := hm q (List.mem_of_getElem? hq)
      have hqr := hR a.toNat q hq
      rw [show ((a.toNat : Nat) : Int) = a by omega] at hqr
      have e1 : σ (p + 4 + 1) a = q := (fr _ (by simp) a).trans hqr.1
      have e2 : σ (p + 4 + 2) a = ch_t s (l.take a.toNat) := (h2 a (Int.le_refl _)).trans hqr.2
      have e3 : σ 46 (σ (p + 4 + 1) a) = s q := by rw [e1, fr 46 (by simp; omega) q, hs q hqm.1 hqm.2]
      refine zr_aload_n (pc := 115) C dX8_stackFrom_115 3 rfl ?_
      refine zr_get (v := .ref (g.2.2.1 (p + 4 + 2))) (pc := 116) C 2 (some (some (p + 4 + 2))) dX8_stackFrom_116 fX8_135 (hn_line (zl_4 hp)) (hs_line (zl_4 hp)) rfl rfl ?_
      refine zr_iload (pc := 119) C dX8_stackFrom_119 4 rfl ?_
      refine zr_iload_n (pc := 121) C dX8_stackFrom_121 1 rfl ?_
      refine zr_iconst (pc := 122) C dX8_stackFrom_122 ?_
      refine zr_aload_n (pc := 123) C dX8_stackFrom_123 3 rfl ?_
      refine zr_get (v := .ref (g.2.2.1 (p + 4 + 2))) (pc := 124) C 2 (some (some (p + 4 + 2))) dX8_stackFrom_124 fX8_135 (hn_line (zl_4 hp)) (hs_line (zl_4 hp)) rfl rfl ?_
      refine zr_iload (pc := 127) C dX8_stackFrom_127 4 rfl ?_
      refine zr_iaload (pc := 129) C dX8_stackFrom_129 (hn_line2 (zl_4 hp)) (hs_line2 (zl_4 hp)) (by omega) (by omega) ?_
      refine zr_aload_n (pc := 130) C dX8_stackFrom_130 0 rfl ?_
      refine zr_get (v := .ref (g.2.2.1 45)) (pc := 131) C 4 (some (some 45)) dX8_stackFrom_131 fX8_31 (by decide) (hs_26 _) rfl rfl ?_
      refine zr_get (v := .ref (g.2.2.1 46)) (pc := 134) C 0 (some (some 46)) dX8_stackFrom_134 fX8_82 (by decide) (hs_45 _) rfl rfl ?_
      refine zr_aload_n (pc := 137) C dX8_stackFrom_137 3 rfl ?_
      refine zr_get (v := .ref (g.2.2.1 (p + 4 + 1))) (pc := 138) C 1 (some (some (p + 4 + 1))) dX8_stackFrom_138 fX8_138 (hn_line (zl_4 hp)) (hs_line (zl_4 hp)) rfl rfl ?_
      refine zr_iload (pc := 141) C dX8_stackFrom_141 4 rfl ?_
      refine zr_iaload (pc := 143) C dX8_stackFrom_143 (hn_line1 (zl_4 hp)) (hs_line1 (zl_4 hp)) (by omega) (by omega) ?_
      refine zr_iaload (pc := 144) C dX8_stackFrom_144 (by decide) (hs_46 _) (by omega) (by decide) ?_
      refine zr_iadd (pc := 145) C dX8_stackFrom_145 ?_
      refine zr_imul (pc := 146) C dX8_stackFrom_146 ?_
      refine zr_iadd (pc := 147) C dX8_stackFrom_147 ?_
      refine zr_iastore (pc := 148) C dX8_stackFrom_148 (hn_line2 (zl_4 hp)) (hs_line2 (zl_4 hp)) (by omega) (by omega) (fun τ_2 e_3 => ?_)
      refine zr_iinc (L' := [(4, zv_i (a + 1)), (0, .ref (g.2.2.1 26)), (1, zv_i face), (2, zv_i r), (3, .ref (g.2.2.1 (p + 4)))]) (pc := 149) C dX8_stackFrom_149 4 rfl (by decide) rfl ?_
      refine zr_goto (pc := 152) C 106 dX8_stackFrom_152 (by decide) ?_
      refine zr_sub [1, 2, 3, 4, 0] rfl ?_
      exact ih τ_2 (a + 1) (by omega) (by omega) (zf_p fr e_3 (by simp)) (fun j k j1 j2 => by
        rw [e_3, zs_put_at]
        by_cases z : (j : Int) = a
        · rw [if_pos z, e2, e3]
          have ej : a.toNat = j := by omega
          rw [ej] at hq ⊢
          rw [ch_tk hq]
        · rw [if_neg z]
          exact h1 j k (by omega) j2) (fun j j1 => by
        rw [e_3, zs_put_off (by omega)]
        exact h2 j (by omega))

set_option maxRecDepth 20000 in
set_option maxHeartbeats 4000000 in
theorem m_stack (g : zg_G) (σ : zs_S) (p : Nat) (hp : zs_p p) (s pr rc : Int → Int) (gp : Int) (face : Int) (h7 : σ 26 7 = p) (hC : sw_C σ s pr rc gp) (hf : -2 * gp ≤ face ∧ face ≤ 5000) : zm_Met g mX8_stackFrom σ [.ref (g.2.2.1 26), zv_i face] (fun v τ => ∃ r, v = some (zv_i r) ∧ zf_x σ τ [48, 49, p + 4, p + 4 + 1, p + 4 + 2] ∧ ch_J τ ∧ (0 ≤ r ∧ r ≤ 201300000) ∧ ∃ l, ch_O s pr (sw_ls pr rc face) r l ∧ τ (p + 4) 0 = l.length ∧ (l.length : Int) ≤ 90 ∧ st_R s (τ (p + 4 + 1)) (τ (p + 4 + 2)) face l) := by
  refine zm_of (by decide +kernel) (Nat.le_of_ble_eq_true rfl) ?_
  intro k C hr
  show zw_W g mX8_stackFrom k 0 [(0, .ref (g.2.2.1 26)), (1, zv_i face)] [] σ
  refine zr_iconst (pc := 0) C dX8_stackFrom_0 ?_
  refine zr_istore_n (L' := [(2, zv_i 0), (0, .ref (g.2.2.1 26)), (1, zv_i face)]) (pc := 1) C dX8_stackFrom_1 (by decide) rfl ?_
  refine zr_sub [1, 2, 0] rfl ?_
  refine l_stackA C hr s pr rc gp face σ hC hf (fun σ1 f1 hA => ?_) 7 σ 0 (by omega) (by omega) (zf_r σ _) (fun y y1 y2 => absurd y2 (by omega))
  have k46 : ∀ k : Int, 0 ≤ k → k < 6 → σ1 46 k = s k := fun k y1 y2 => (f1 46 (by decide) k).trans (hC.2.2 k y1 y2).1.1
  have k47 : ∀ k : Int, 0 ≤ k → k < 6 → σ1 47 k = pr k := fun k y1 y2 => (f1 47 (by decide) k).trans (hC.2.2 k y1 y2).1.2.1
  have lb : ∀ k : Int, 0 ≤ k → k < 6 → (-1 ≤ sw_ls pr rc face k ∧ sw_ls pr rc face k ≤ 4500 + gp) ∧ (0 ≤ sw_ls pr rc face k → 0 < pr k) := fun k y1 y2 => by
    have kb := hC.2.2 k y1 y2
    unfold sw_ls
    by_cases z : 0 < pr k ∧ ¬ rc k = -1 ∧ face ≤ rc k
    · rw [if_pos z]; omega
    · rw [if_neg z]; omega
  have hI1 : ch_I σ1 := fun k y1 y2 => by
    have kb := hC.2.2 k y1 y2
    have g1 := hC.1
    have l1 := lb k y1 y2
    rw [k46 k y1 y2, k47 k y1 y2, hA k y1 y2]
    refine ⟨kb.2.1, kb.2.2.1, by omega, fun z => ?_⟩
    have := l1.2 z
    have := kb.2.2.2.1 this
    omega
  have hJ1 : ch_J σ1 := fun k y1 y2 => by rw [f1 49 (by decide)]; exact hC.2.1 k y1 y2
  refine zr_aload_n (pc := 79) C dX8_stackFrom_79 0 rfl ?_
  refine zr_get (v := .ref (g.2.2.1 45)) (pc := 80) C 4 (some (some 45)) dX8_stackFrom_80 fX8_31 (by decide) (hs_26 _) rfl rfl ?_
  refine zr_callV (As := []) (rest := []) (b := 45) (pc := 83) C dX8_stackFrom_83 kX2_solve vX8_124 rfl (by decide) (by decide) (hs_45 _) rfl (Nat.le_of_ble_eq_true rfl) (m_solve g σ1 (by exact hI1) (by exact hJ1)) (fun v_ τ_ h_ => ?_)
  obtain ⟨rfl, h_102⟩ := h_
  generalize τ_ = τ_101 at h_102 ⊢
  show zw_W g mX8_stackFrom k 86 [(0, .ref (g.2.2.1 26)), (1, zv_i face)] [zv_i (τ_101 49 0)] τ_101
  obtain ⟨f2, hS2, hJ2⟩ := h_102
  have i46 : τ_101 46 = σ1 46 := funext (f2 46 (by decide))
  have i47 : τ_101 47 = σ1 47 := funext (f2 47 (by decide))
  have i48 : τ_101 48 = σ1 48 := funext (f2 48 (by decide))
  have hI2 : ch_I τ_101 := fun k y1 y2 => by rw [i46, i47, i48]; exact hI1 k y1 y2
  have z4 := zs_n4 hp
  refine zr_istore_n (L' := [(2, zv_i (τ_101 49 0)), (0, .ref (g.2.2.1 26)), (1, zv_i face)]) (pc := 86) C dX8_stackFrom_86 (by decide) rfl ?_
  refine zr_aload_n (pc := 87) C dX8_stackFrom_87 1 rfl ?_
  refine zr_get (v := .ref (g.2.2.1 (τ_101 26 7).toNat)) (pc := 88) C 7 (some none) dX8_stackFrom_88 fX8_45 (by decide) (hs_26 _) rfl rfl ?_
  rw [show τ_101 26 7 = (p : Int) from (f2 26 (by decide) 7).trans ((f1 26 (by decide) 7).trans h7)]
  show zw_W g mX8_stackFrom k 91 [(2, zv_i (τ_101 49 0)), (0, .ref (g.2.2.1 26)), (1, zv_i face)] [.ref (g.2.2.1 (p))] τ_101
  refine zr_get (v := .ref (g.2.2.1 (p + 4))) (pc := 91) C 3 (some (some (p + 4))) dX8_stackFrom_91 fX8_132 (hn_pat hp) (hs_pat hp) rfl rfl ?_
  refine zr_astore_n (L' := [(3, .ref (g.2.2.1 (p + 4))), (2, zv_i (τ_101 49 0)), (0, .ref (g.2.2.1 26)), (1, zv_i face)]) (pc := 94) C dX8_stackFrom_94 (by decide) rfl ?_
  refine zr_aload_n (pc := 95) C dX8_stackFrom_95 2 rfl ?_
  refine zr_get (v := .ref (g.2.2.1 45)) (pc := 96) C 4 (some (some 45)) dX8_stackFrom_96 fX8_31 (by decide) (hs_26 _) rfl rfl ?_
  refine zr_aload_n (pc := 99) C dX8_stackFrom_99 0 rfl ?_
  refine zr_callV (As := [.ref (g.2.2.1 (p + 4))]) (rest := []) (b := 45) (pc := 100) C dX8_stackFrom_100 kX2_lay vX8_128 rfl (by decide) (by decide) (hs_45 _) rfl (Nat.le_of_ble_eq_true rfl) (m_lay g τ_101 (p + 4) (zl_4 hp) (by exact hI2) (by exact hJ2) (by exact hS2) (gp) (by exact ⟨hC.1.1, fun k y1 y2 y3 => by rw [i48, hA k y1 y2] at y3 ⊢; rw [i46, k46 k y1 y2]; have l1 := lb k y1 y2; have l2 := l1.2 y3; have kb := (hC.2.2 k y1 y2).2.2.2.1 l2; omega⟩)) (fun v_ τ_ h_ => ?_)
  obtain ⟨rfl, h_104⟩ := h_
  generalize τ_ = τ_103 at h_104 ⊢
  show zw_W g mX8_stackFrom k 103 [(3, .ref (g.2.2.1 (p + 4))), (2, zv_i (τ_101 49 0)), (0, .ref (g.2.2.1 26)), (1, zv_i face)] [] τ_103
  refine zr_iconst (pc := 103) C dX8_stackFrom_103 ?_
  refine zr_istore (L' := [(4, zv_i 0), (3, .ref (g.2.2.1 (p + 4))), (2, zv_i (τ_101 49 0)), (0, .ref (g.2.2.1 26)), (1, zv_i face)]) (pc := 104) C dX8_stackFrom_104 (by decide) rfl ?_
  refine zr_sub [3, 4, 2, 1, 0] rfl ?_
  obtain ⟨f3, l, hL, c1, c2, hR⟩ := h_104
  have hm := ch_Lm hL
  have hR2 : ln_R s (τ_103 (p + 4 + 1)) (τ_103 (p + 4 + 2)) l := fun j k hj => by
    obtain ⟨r1, r2⟩ := hR j k hj
    refine ⟨r1, r2.trans (ch_tc (fun q hq => ?_))⟩
    have qm := hm q (List.mem_of_mem_take hq)
    rw [i46]
    exact k46 q qm.1 qm.2
  have gO : ch_O s pr (sw_ls pr rc face) (τ_101 49 0) l := by
    obtain ⟨Mk, hM, hB⟩ := hS2
    refine ch_Od (st := τ_101 46) (pr := τ_101 47) (li := τ_101 48) (fun k y1 y2 => ?_) ⟨τ_101 49, Mk, hM, hB, rfl, hL⟩
    rw [i46, i47, i48]
    exact ⟨k46 k y1 y2, k47 k y1 y2, hA k y1 y2⟩
  exact l_stackB C hr p hp s face (τ_101 49 0) τ_103 l (fun k y1 y2 => by rw [f3 46 (by simp; omega), i46]; exact k46 k y1 y2) c1 (by omega) hR2 hm (fun τ q1 q2 => ⟨_, rfl, zf_t f1 (zf_t f2 (zf_t f3 q1 (by simp) (by simp) (es := [p + 4, p + 4 + 1, p + 4 + 2])) (by simp) (by simp) (es := [49, p + 4, p + 4 + 1, p + 4 + 2])) (by simp) (by simp), fun x y1 y2 => by rw [q1 49 (by simp; omega), f3 49 (by simp; omega)]; exact hJ2 x y1 y2, hJ2 0 (by omega) (by omega), l, gO, by rw [q1 _ (by simp)]; exact c1, by omega, by rw [show τ (p + 4 + 1) = τ_103 (p + 4 + 1) from funext (q1 _ (by simp))]; exact q2⟩) (l.length + 1) τ_103 0 (by omega) (by omega) (zf_r τ_103 _) (fun j k j1 => absurd j1 (by omega)) (fun j _ => rfl)
end
section
/-! THE MATHEMATICS OF THE CLASS, part J: the best pattern -/
/-- the pattern at p: height h, value v, row l1, stack l2 on a face -/
def pd_R (σ : zs_S) (p : Nat) (s : Int → Int) (h v : Int) (l1 l2 : List Int) (face : Int) : Prop := σ p 0 = h ∧ σ p 1 = v ∧ (σ (p + 1) 0 = l1.length ∧ (l1.length : Int) ≤ 180 ∧ ln_R s (σ (p + 1 + 1)) (σ (p + 1 + 2)) l1) ∧ (σ (p + 4) 0 = l2.length ∧ (l2.length : Int) ≤ 90 ∧ st_R s (σ (p + 4 + 1)) (σ (p + 4 + 2)) face l2)
theorem pd_Rx {σ τ : zs_S} {p : Nat} {s : Int → Int} {h v face : Int} {l1 l2 : List Int} (hR : pd_R σ p s h v l1 l2 face) (hx : ∀ c, p ≤ c → c ≤ p + 6 → ∀ i, τ c i = σ c i) : pd_R τ p s h v l1 l2 face := by
  obtain ⟨a, b, ⟨c, d, e⟩, f, g, k⟩ := hR
  refine ⟨by rw [hx _ (by omega) (by omega)]; exact a, by rw [hx _ (by omega) (by omega)]; exact b, ⟨by rw [hx _ (by omega) (by omega)]; exact c, d, ?_⟩, by rw [hx _ (by omega) (by omega)]; exact f, g, ?_⟩
  · rw [show τ (p + 1 + 1) = σ (p + 1 + 1) from funext (hx _ (by omega) (by omega)), show τ (p + 1 + 2) = σ (p + 1 + 2) from funext (hx _ (by omega) (by omega))]
    exact e
  · rw [show τ (p + 4 + 1) = σ (p + 4 + 1) from funext (hx _ (by omega) (by omega)), show τ (p + 4 + 2) = σ (p + 4 + 2) from funext (hx _ (by omega) (by omega))]
    exact k
/-- the patterns that a log allows: without a cant, or with the height at a place below m -/
def sw_D (s pr rc wd : Int → Int) (gp d : Int) (hs : Int → Int) (m : Int) (h v : Int) (l1 l2 : List Int) : Prop := (h = -1 ∧ l1 = [] ∧ ch_O s pr (sw_ls pr rc (-2 * gp)) v l2) ∨ (∃ i : Int, 0 ≤ i ∧ i < m ∧ hs i = h ∧ 0 < h ∧ ∃ r1 r2, ch_O s pr (sw_lr wd pr h (ro_m d h) gp) r1 l1 ∧ ¬ r1 = 0 ∧ ch_O s pr (sw_ls pr rc h) r2 l2 ∧ v = r1 + 2 * r2)
/-- the face on which the stack of a pattern of height h stands -/
def sw_F (gp h : Int) : Int := if h = -1 then -2 * gp else h
/-- (v, h) is better than (w, k) -/
abbrev sw_B (v h w k : Int) : Prop := w < v ∨ (v = w ∧ ¬ h = -1 ∧ (k = -1 ∨ h < k))
/-- none of the patterns below m is better than (v, h) -/
def sw_X (s pr rc wd : Int → Int) (gp d : Int) (hs : Int → Int) (m : Int) (h v : Int) : Prop := ∀ (h' v' : Int) (l1' l2' : List Int), sw_D s pr rc wd gp d hs m h' v' l1' l2' → ¬ sw_B v' h' v h
theorem sw_Dm {s pr rc wd hs : Int → Int} {gp d m n h v : Int} {l1 l2 : List Int} (hD : sw_D s pr rc wd gp d hs m h v l1 l2) (hm : m ≤ n) : sw_D s pr rc wd gp d hs n h v l1 l2 := by
  rcases hD with z | ⟨i, i1, i2, z⟩
  · exact Or.inl z
  · exact Or.inr ⟨i, i1, by omega, z⟩
theorem pd_I {σ : zs_S} {p : Nat} {s : Int → Int} {h v face : Int} {l1 l2 : List Int} (hR : pd_R σ p s h v l1 l2 face) (hh : -1 ≤ h ∧ h ≤ 5000) (hv : 0 ≤ v ∧ v ≤ 1000000000) (m1 : ∀ k ∈ l1, 0 ≤ k ∧ k < 6) (m2 : ∀ k ∈ l2, 0 ≤ k ∧ k < 6) : pa_I σ p := by
  obtain ⟨a, b, ⟨c, d, e⟩, f, g, k⟩ := hR
  refine ⟨by rw [a]; exact hh, by rw [b]; exact hv, by rw [c]; omega, by rw [f]; omega, fun i i1 i2 => ?_, fun i i1 i2 => ?_⟩
  · rw [c] at i2
    obtain ⟨q, hq⟩ : ∃ q, l1[i.toNat]? = some q := ⟨_, List.getElem?_eq_getElem (by omega)⟩
    have := (e i.toNat q hq).1
    rw [show ((i.toNat : Nat) : Int) = i by omega] at this
    rw [this]
    exact m1 q (List.mem_of_getElem? hq)
  · rw [f] at i2
    obtain ⟨q, hq⟩ : ∃ q, l2[i.toNat]? = some q := ⟨_, List.getElem?_eq_getElem (by omega)⟩
    have := (k i.toNat q hq).1
    rw [show ((i.toNat : Nat) : Int) = i by omega] at this
    rw [this]
    exact m2 q (List.mem_of_getElem? hq)
/-- how often s stands in l -/
def ln_n (s : Int) : List Int → Int
  | [] => 0
  | k :: r => (if k = s then 1 else 0) + ln_n s r
theorem ln_na (s k : Int) : ∀ l : List Int, ln_n s (l ++ [k]) = ln_n s l + (if k = s then 1 else 0)
  | [] => by simp [ln_n]
  | q :: r => by rw [List.cons_append, ln_n, ln_n, ln_na s k r]; omega
theorem ln_nb (s : Int) : ∀ l : List Int, 0 ≤ ln_n s l ∧ ln_n s l ≤ l.length
  | [] => by simp [ln_n]
  | q :: r => by
    have := ln_nb s r
    rw [ln_n, List.length_cons]
    by_cases h : q = s
    · rw [if_pos h]; omega
    · rw [if_neg h]; omega
theorem ln_nt {A : Int → Int} {s : Int} {l : List Int} (h : ∀ (i : Nat) (k : Int), l[i]? = some k → A i = k) : ∀ m : Nat, m ≤ l.length → ln_c A s m = ln_n s (l.take m)
  | 0, _ => by simp [ln_c, ln_n]
  | m + 1, hm => by
    have hk : l[m]? = some l[m] := List.getElem?_eq_getElem (by omega)
    have e : l.take (m + 1) = l.take m ++ [l[m]] := by rw [List.take_append_getElem]
    rw [ln_c, ln_nt h m (by omega), e, ln_na, h m _ hk]
theorem pd_c {σ : zs_S} {p : Nat} {s : Int → Int} {h v face : Int} {l1 l2 : List Int} (hR : pd_R σ p s h v l1 l2 face) (y : Int) : pa_c σ p y = ln_n y l1 + pa_s h * ln_n y l2 := by
  obtain ⟨a, b, ⟨c, d, e⟩, f, g, k⟩ := hR
  unfold pa_c
  rw [a, c, f, show ((l1.length : Nat) : Int).toNat = l1.length by omega, show ((l2.length : Nat) : Int).toNat = l2.length by omega, ln_nt (fun i q hi => (e i q hi).1) _ (Nat.le_refl _), ln_nt (fun i q hi => (k i q hi).1) _ (Nat.le_refl _), List.take_length, List.take_length]
/-- where r isn't 0, P (kept from omega's eyes) -/
def sw_Y (r : Int) (P : Prop) : Prop := ¬ r = 0 → P
end
section
set_option maxRecDepth 20000 in
set_option maxHeartbeats 4000000 in
theorem m_noCant (g : zg_G) (σ : zs_S) (p : Nat) (hp : zs_p p) (s pr rc : Int → Int) (gp : Int) (h7 : σ 26 7 = p) (hC : sw_C σ s pr rc gp) : zm_Met g mX8_tryWithoutCant σ [.ref (g.2.2.1 26)] (fun v τ => v = none ∧ zf_x σ τ [48, 49, p, p + 1, p + 4, p + 4 + 1, p + 4 + 2] ∧ ch_J τ ∧ ∃ x l, (0 ≤ x ∧ x ≤ 201300000) ∧ ch_O s pr (sw_ls pr rc (-2 * gp)) x l ∧ pd_R τ p s (-1) x [] l (-2 * gp)) := by
  refine zm_of (by decide +kernel) (Nat.le_of_ble_eq_true rfl) ?_
  intro k C hr
  show zw_W g mX8_tryWithoutCant k 0 [(0, .ref (g.2.2.1 26))] [] σ
  refine zr_aload_n (pc := 0) C dX8_tryWithoutCant_0 0 rfl ?_
  refine zr_get (v := .ref (g.2.2.1 (σ 26 7).toNat)) (pc := 1) C 7 (some none) dX8_tryWithoutCant_1 fX8_45 (by decide) (hs_26 _) rfl rfl ?_
  first | rw [h720] | rw [h79] | rw [h7]
  show zw_W g mX8_tryWithoutCant k 4 [(0, .ref (g.2.2.1 26))] [.ref (g.2.2.1 (p))] σ
  refine zr_iconst (pc := 4) C dX8_tryWithoutCant_4 ?_
  refine zr_put (pc := 5) C 0 0 rfl dX8_tryWithoutCant_5 pX8_106 (hn_pat hp) (hs_pat hp) rfl (fun τ_1 e_2 => ?_)
  refine zr_aload_n (pc := 8) C dX8_tryWithoutCant_8 0 rfl ?_
  have h79 : τ_1 26 7 = p := by rw [e_2, zs_put_ne (by omega)]; exact h7
  refine zr_get (v := .ref (g.2.2.1 (τ_1 26 7).toNat)) (pc := 9) C 7 (some none) dX8_tryWithoutCant_9 fX8_45 (by decide) (hs_26 _) rfl rfl ?_
  first | rw [h720] | rw [h79] | rw [h7]
  show zw_W g mX8_tryWithoutCant k 12 [(0, .ref (g.2.2.1 26))] [.ref (g.2.2.1 (p))] τ_1
  refine zr_get (v := .ref (g.2.2.1 (p + 1))) (pc := 12) C 2 (some (some (p + 1))) dX8_tryWithoutCant_12 fX8_109 (hn_pat hp) (hs_pat hp) rfl rfl ?_
  refine zr_iconst (pc := 15) C dX8_tryWithoutCant_15 ?_
  refine zr_put (pc := 16) C 0 0 rfl dX8_tryWithoutCant_16 pX8_113 (hn_line (zl_1 hp)) (hs_line (zl_1 hp)) rfl (fun τ_3 e_4 => ?_)
  refine zr_aload_n (pc := 19) C dX8_tryWithoutCant_19 0 rfl ?_
  have h720 : τ_3 26 7 = p := by rw [e_4, zs_put_ne (by omega)]; exact h79
  refine zr_get (v := .ref (g.2.2.1 (τ_3 26 7).toNat)) (pc := 20) C 7 (some none) dX8_tryWithoutCant_20 fX8_45 (by decide) (hs_26 _) rfl rfl ?_
  first | rw [h720] | rw [h79] | rw [h7]
  show zw_W g mX8_tryWithoutCant k 23 [(0, .ref (g.2.2.1 26))] [.ref (g.2.2.1 (p))] τ_3
  refine zr_aload_n (pc := 23) C dX8_tryWithoutCant_23 0 rfl ?_
  refine zr_bipush (pc := 24) C dX8_tryWithoutCant_24 (by decide) ?_
  refine zr_aload_n (pc := 26) C dX8_tryWithoutCant_26 0 rfl ?_
  refine zr_get (v := zv_i (τ_3 26 3)) (pc := 27) C 3 none dX8_tryWithoutCant_27 fX8_88 (by decide) (hs_26 _) rfl rfl ?_
  refine zr_imul (pc := 30) C dX8_tryWithoutCant_30 ?_
  have eg : τ_3 26 3 = gp := by rw [e_4, zs_put_ne (by omega), e_2, zs_put_ne (by omega)]; exact hC.1.2.2
  have fz : zf_x σ τ_3 [p, p + 1] := zf_p (zf_p (zf_r σ _) e_2 (by simp)) e_4 (by simp)
  have hC1 : sw_C τ_3 s pr rc gp := ⟨⟨hC.1.1, hC.1.2.1, eg⟩, fun x y1 y2 => by rw [fz 49 (by simp; omega)]; exact hC.2.1 x y1 y2, fun x y1 y2 => by rw [fz 46 (by simp; omega), fz 47 (by simp; omega), fz 50 (by simp; omega)]; exact hC.2.2 x y1 y2⟩
  rw [show ((-2) * τ_3 26 3 : Int) = -2 * gp from by rw [eg]]
  refine zr_callV (As := [zv_i (-2 * gp)]) (rest := [.ref (g.2.2.1 (p))]) (b := 26) (pc := 31) C dX8_tryWithoutCant_31 kX8_stackFrom vX8_118 rfl (by decide) (by decide) (hs_26 _) rfl (Nat.le_of_ble_eq_true rfl) (m_stack g τ_3 p hp s pr rc gp (-2 * gp) (by exact h720) (by exact hC1) (by have := hC.1; omega)) (fun v_ τ_ h_ => ?_)
  obtain ⟨r_7, rfl, h_6⟩ := h_
  generalize τ_ = τ_5 at h_6 ⊢
  show zw_W g mX8_tryWithoutCant k 34 [(0, .ref (g.2.2.1 26))] [zv_i r_7, .ref (g.2.2.1 (p))] τ_5
  refine zr_put (pc := 34) C 1 1 rfl dX8_tryWithoutCant_34 pX8_78 (hn_pat hp) (hs_pat hp) rfl (fun τ_8 e_9 => ?_)
  exact zr_vret (pc := 37) C hr dX8_tryWithoutCant_37 rfl (by
      obtain ⟨y1, y2, y3, l, y4, y5, y6, y7⟩ := h_6
      have fe : zf_x σ τ_8 [48, 49, p, p + 1, p + 4, p + 4 + 1, p + 4 + 2] := zf_p (zf_t fz y1 (by simp) (by simp)) e_9 (by simp)
      have off : ∀ q, q ≠ p → τ_8 q = τ_5 q := fun q hq => funext fun j => by rw [e_9, zs_put_ne hq]
      refine ⟨rfl, fe, fun x x1 x2 => by rw [off 49 (by omega)]; exact y2 x x1 x2, _, l, y3, y4, ⟨?_, by rw [e_9, zs_put_self], ⟨?_, by simp, fun j k hj => by simp at hj⟩, by rw [off (p + 4) (by omega)]; exact y5, y6, by rw [off (p + 4 + 1) (by omega), off (p + 4 + 2) (by omega)]; exact y7⟩⟩
      · rw [e_9, zs_put_off (by decide), y1 p (by simp; omega), e_4, zs_put_ne (by omega), e_2, zs_put_self]
      · rw [off (p + 1) (by omega), y1 (p + 1) (by simp; omega), e_4, zs_put_self]
        rfl)

set_option maxRecDepth 20000 in
set_option maxHeartbeats 4000000 in
theorem l_height {g : zg_G} {k : zk_T} {Q : Option Value → zs_S → Prop} (C : zk_ok g mX8_tryHeight k) (hr : zk_ret g mX8_tryHeight Q k) (s pr rc : Int → Int) (gp : Int) (wd : Int → Int) (h d wi : Int) (σ0 : zs_S) (hC : sw_C σ0 s pr rc gp) (hW : ∀ k : Int, 0 ≤ k → k < 6 → σ0 (28 + 2 * k.toNat) 1 = wd k ∧ 0 ≤ wd k ∧ wd k ≤ 4000) (hh : 300 ≤ h ∧ h ≤ 5000) (hwi : -1 ≤ wi ∧ wi ≤ 9000) (hex : ∀ σ1, zf_x σ0 σ1 [48] → (∀ y : Int, 0 ≤ y → y < 6 → σ1 48 y = sw_lr wd pr h wi gp y) → zw_W g mX8_tryHeight k 86 [(0, .ref (g.2.2.1 26)), (1, zv_i h), (2, zv_i d), (3, zv_i wi)] [] σ1) : ∀ (N : Nat) (σ : zs_S) (a : Int), (6 - a).toNat < N → (0 ≤ a ∧ a ≤ 6) → (zf_x σ0 σ [48]) → (∀ y : Int, 0 ≤ y → y < a → σ 48 y = sw_lr wd pr h wi gp y) → zw_W g mX8_tryHeight k 9 [(0, .ref (g.2.2.1 26)), (1, zv_i h), (2, zv_i d), (3, zv_i wi), (4, zv_i a)] [] σ := by
  intro N
  induction N with
  | zero =>
    intro σ a hN
    exact absurd hN (by omega)
  | succ N ih =>
    intro σ a hN ha fr hA
    refine zr_iload (pc := 9) C dX8_tryHeight_9 4 rfl ?_
    refine zr_bipush (pc := 11) C dX8_tryHeight_11 (by decide) ?_
    refine zr_icmp_ge (pc := 13) C 86 dX8_tryHeight_13 (by decide) (by omega) (by omega) (fun h_1 => ?_) (fun h_1 => ?_)
    · refine zr_sub [0, 1, 2, 3] rfl ?_
      exact hex σ fr (fun y y1 y2 => hA y y1 (by omega))
    · have kb := hC.2.2 a (by omega) (by omega)
      have ej : 0 ≤ a ∧ a < 6 := by omega
      have e47 : σ 47 a = pr a := (fr 47 (by decide) a).trans kb.1.2.1
      have ew := hW a (by omega) (by omega)
      have e1 : σ (28 + 2 * a.toNat) 1 = wd a := (fr _ (by simp; omega) 1).trans ew.1
      have e3 : σ 26 3 = gp := (fr 26 (by decide) 3).trans hC.1.2.2
      refine zr_aload_n (pc := 16) C dX8_tryHeight_16 0 rfl ?_
      refine zr_get (v := .ref (g.2.2.1 27)) (pc := 17) C 0 (some (some 27)) dX8_tryHeight_17 fX8_11 (by decide) (hs_26 _) rfl rfl ?_
      refine zr_iload (pc := 20) C dX8_tryHeight_20 4 rfl ?_
      refine zr_aaload (pc := 22) C dX8_tryHeight_22 (by decide) (hs_27 _) (by decide) (by exact ej) (by decide) ?_
      show zw_W g mX8_tryHeight k 23 [(0, .ref (g.2.2.1 26)), (1, zv_i h), (2, zv_i d), (3, zv_i wi), (4, zv_i a)] [.ref (g.2.2.1 (28 + 2 * a.toNat))] σ
      refine zr_get (v := zv_i (σ (28 + 2 * a.toNat) 1)) (pc := 23) C 1 none dX8_tryHeight_23 fX8_99 (hn_size (by exact ej)) (hs_size (by exact ej)) rfl rfl ?_
      refine zr_iload_n (pc := 26) C dX8_tryHeight_26 1 rfl ?_
      refine zr_icmp_ne (pc := 27) C 52 dX8_tryHeight_27 (by decide) (by omega) (by omega) (fun h_2 => ?_) (fun h_2 => ?_)
      · refine zr_iconst (pc := 52) C dX8_tryHeight_52 ?_
        refine zr_istore (L' := [(5, zv_i 0), (0, .ref (g.2.2.1 26)), (1, zv_i h), (2, zv_i d), (3, zv_i wi), (4, zv_i a)]) (pc := 53) C dX8_tryHeight_53 (by decide) rfl ?_
        refine zr_aload_n (pc := 55) C dX8_tryHeight_55 1 rfl ?_
        refine zr_get (v := .ref (g.2.2.1 45)) (pc := 56) C 4 (some (some 45)) dX8_tryHeight_56 fX8_31 (by decide) (hs_26 _) rfl rfl ?_
        refine zr_get (v := .ref (g.2.2.1 48)) (pc := 59) C 2 (some (some 48)) dX8_tryHeight_59 fX8_121 (by decide) (hs_45 _) rfl rfl ?_
        refine zr_iload (pc := 62) C dX8_tryHeight_62 5 rfl ?_
        refine zr_iload (pc := 64) C dX8_tryHeight_64 0 rfl ?_
        refine zr_if_eq (pc := 66) C 78 dX8_tryHeight_66 (by decide) (by omega) (fun h_3 => ?_) (fun h_3 => ?_)
        · refine zr_iconst (pc := 78) C dX8_tryHeight_78 ?_
          refine zr_iastore (pc := 79) C dX8_tryHeight_79 (by decide) (hs_48 _) (by omega) (by decide) (fun τ_4 e_5 => ?_)
          refine zr_iinc (L' := [(4, zv_i (a + 1)), (5, zv_i 0), (0, .ref (g.2.2.1 26)), (1, zv_i h), (2, zv_i d), (3, zv_i wi)]) (pc := 80) C dX8_tryHeight_80 5 rfl (by decide) rfl ?_
          refine zr_goto (pc := 83) C 9 dX8_tryHeight_83 (by decide) ?_
          refine zr_sub [2, 3, 4, 5, 0] rfl ?_
          exact ih τ_4 (a + 1) (by omega) (by omega) (zf_p fr e_5 (by decide)) (fun y y1 y2 => by
            rw [e_5, zs_put_at]
            by_cases z : y = a
            · subst z
              rw [if_pos rfl]
              unfold sw_lr; rw [if_neg (by omega)]
            · rw [if_neg z]
              exact hA y y1 (by omega))
        · exact absurd h_3 (by decide)
      · refine zr_aload_n (pc := 30) C dX8_tryHeight_30 0 rfl ?_
        refine zr_get (v := .ref (g.2.2.1 45)) (pc := 31) C 4 (some (some 45)) dX8_tryHeight_31 fX8_31 (by decide) (hs_26 _) rfl rfl ?_
        refine zr_get (v := .ref (g.2.2.1 47)) (pc := 34) C 1 (some (some 47)) dX8_tryHeight_34 fX8_70 (by decide) (hs_45 _) rfl rfl ?_
        refine zr_iload (pc := 37) C dX8_tryHeight_37 4 rfl ?_
        refine zr_iaload (pc := 39) C dX8_tryHeight_39 (by decide) (hs_47 _) (by omega) (by decide) ?_
        refine zr_if_le (pc := 40) C 52 dX8_tryHeight_40 (by decide) (by omega) (fun h_6 => ?_) (fun h_6 => ?_)
        · refine zr_iconst (pc := 52) C dX8_tryHeight_52 ?_
          refine zr_istore (L' := [(5, zv_i 0), (0, .ref (g.2.2.1 26)), (1, zv_i h), (2, zv_i d), (3, zv_i wi), (4, zv_i a)]) (pc := 53) C dX8_tryHeight_53 (by decide) rfl ?_
          refine zr_aload_n (pc := 55) C dX8_tryHeight_55 1 rfl ?_
          refine zr_get (v := .ref (g.2.2.1 45)) (pc := 56) C 4 (some (some 45)) dX8_tryHeight_56 fX8_31 (by decide) (hs_26 _) rfl rfl ?_
          refine zr_get (v := .ref (g.2.2.1 48)) (pc := 59) C 2 (some (some 48)) dX8_tryHeight_59 fX8_121 (by decide) (hs_45 _) rfl rfl ?_
          refine zr_iload (pc := 62) C dX8_tryHeight_62 5 rfl ?_
          refine zr_iload (pc := 64) C dX8_tryHeight_64 0 rfl ?_
          refine zr_if_eq (pc := 66) C 78 dX8_tryHeight_66 (by decide) (by omega) (fun h_7 => ?_) (fun h_7 => ?_)
          · refine zr_iconst (pc := 78) C dX8_tryHeight_78 ?_
            refine zr_iastore (pc := 79) C dX8_tryHeight_79 (by decide) (hs_48 _) (by omega) (by decide) (fun τ_8 e_9 => ?_)
            refine zr_iinc (L' := [(4, zv_i (a + 1)), (5, zv_i 0), (0, .ref (g.2.2.1 26)), (1, zv_i h), (2, zv_i d), (3, zv_i wi)]) (pc := 80) C dX8_tryHeight_80 5 rfl (by decide) rfl ?_
            refine zr_goto (pc := 83) C 9 dX8_tryHeight_83 (by decide) ?_
            refine zr_sub [2, 3, 4, 5, 0] rfl ?_
            exact ih τ_8 (a + 1) (by omega) (by omega) (zf_p fr e_9 (by decide)) (fun y y1 y2 => by
              rw [e_9, zs_put_at]
              by_cases z : y = a
              · subst z
                rw [if_pos rfl]
                unfold sw_lr; rw [if_neg (by omega)]
              · rw [if_neg z]
                exact hA y y1 (by omega))
          · exact absurd h_7 (by decide)
        · refine zr_iload_n (pc := 43) C dX8_tryHeight_43 3 rfl ?_
          refine zr_iconst (pc := 44) C dX8_tryHeight_44 ?_
          refine zr_icmp_eq (pc := 45) C 52 dX8_tryHeight_45 (by decide) (by omega) (by omega) (fun h_10 => ?_) (fun h_10 => ?_)
          · refine zr_iconst (pc := 52) C dX8_tryHeight_52 ?_
            refine zr_istore (L' := [(5, zv_i 0), (0, .ref (g.2.2.1 26)), (1, zv_i h), (2, zv_i d), (3, zv_i wi), (4, zv_i a)]) (pc := 53) C dX8_tryHeight_53 (by decide) rfl ?_
            refine zr_aload_n (pc := 55) C dX8_tryHeight_55 1 rfl ?_
            refine zr_get (v := .ref (g.2.2.1 45)) (pc := 56) C 4 (some (some 45)) dX8_tryHeight_56 fX8_31 (by decide) (hs_26 _) rfl rfl ?_
            refine zr_get (v := .ref (g.2.2.1 48)) (pc := 59) C 2 (some (some 48)) dX8_tryHeight_59 fX8_121 (by decide) (hs_45 _) rfl rfl ?_
            refine zr_iload (pc := 62) C dX8_tryHeight_62 5 rfl ?_
            refine zr_iload (pc := 64) C dX8_tryHeight_64 0 rfl ?_
            refine zr_if_eq (pc := 66) C 78 dX8_tryHeight_66 (by decide) (by omega) (fun h_11 => ?_) (fun h_11 => ?_)
            · refine zr_iconst (pc := 78) C dX8_tryHeight_78 ?_
              refine zr_iastore (pc := 79) C dX8_tryHeight_79 (by decide) (hs_48 _) (by omega) (by decide) (fun τ_12 e_13 => ?_)
              refine zr_iinc (L' := [(4, zv_i (a + 1)), (5, zv_i 0), (0, .ref (g.2.2.1 26)), (1, zv_i h), (2, zv_i d), (3, zv_i wi)]) (pc := 80) C dX8_tryHeight_80 5 rfl (by decide) rfl ?_
              refine zr_goto (pc := 83) C 9 dX8_tryHeight_83 (by decide) ?_
              refine zr_sub [2, 3, 4, 5, 0] rfl ?_
              exact ih τ_12 (a + 1) (by omega) (by omega) (zf_p fr e_13 (by decide)) (fun y y1 y2 => by
                rw [e_13, zs_put_at]
                by_cases z : y = a
                · subst z
                  rw [if_pos rfl]
                  unfold sw_lr; rw [if_neg (by omega)]
                · rw [if_neg z]
                  exact hA y y1 (by omega))
            · exact absurd h_11 (by decide)
          · refine zr_iconst (pc := 48) C dX8_tryHeight_48 ?_
            refine zr_goto (pc := 49) C 53 dX8_tryHeight_49 (by decide) ?_
            refine zr_istore (L' := [(5, zv_i 1), (0, .ref (g.2.2.1 26)), (1, zv_i h), (2, zv_i d), (3, zv_i wi), (4, zv_i a)]) (pc := 53) C dX8_tryHeight_53 (by decide) rfl ?_
            refine zr_aload_n (pc := 55) C dX8_tryHeight_55 1 rfl ?_
            refine zr_get (v := .ref (g.2.2.1 45)) (pc := 56) C 4 (some (some 45)) dX8_tryHeight_56 fX8_31 (by decide) (hs_26 _) rfl rfl ?_
            refine zr_get (v := .ref (g.2.2.1 48)) (pc := 59) C 2 (some (some 48)) dX8_tryHeight_59 fX8_121 (by decide) (hs_45 _) rfl rfl ?_
            refine zr_iload (pc := 62) C dX8_tryHeight_62 5 rfl ?_
            refine zr_iload (pc := 64) C dX8_tryHeight_64 0 rfl ?_
            refine zr_if_eq (pc := 66) C 78 dX8_tryHeight_66 (by decide) (by omega) (fun h_14 => ?_) (fun h_14 => ?_)
            · exact absurd h_14 (by decide)
            · refine zr_iload_n (pc := 69) C dX8_tryHeight_69 4 rfl ?_
              refine zr_aload_n (pc := 70) C dX8_tryHeight_70 1 rfl ?_
              refine zr_get (v := zv_i (σ 26 3)) (pc := 71) C 3 none dX8_tryHeight_71 fX8_88 (by decide) (hs_26 _) rfl rfl ?_
              refine zr_iadd (pc := 74) C dX8_tryHeight_74 ?_
              refine zr_goto (pc := 75) C 79 dX8_tryHeight_75 (by decide) ?_
              refine zr_iastore (pc := 79) C dX8_tryHeight_79 (by decide) (hs_48 _) (by omega) (by decide) (fun τ_15 e_16 => ?_)
              refine zr_iinc (L' := [(4, zv_i (a + 1)), (5, zv_i 1), (0, .ref (g.2.2.1 26)), (1, zv_i h), (2, zv_i d), (3, zv_i wi)]) (pc := 80) C dX8_tryHeight_80 5 rfl (by decide) rfl ?_
              refine zr_goto (pc := 83) C 9 dX8_tryHeight_83 (by decide) ?_
              refine zr_sub [2, 3, 4, 5, 0] rfl ?_
              exact ih τ_15 (a + 1) (by omega) (by omega) (zf_p fr e_16 (by decide)) (fun y y1 y2 => by
                rw [e_16, zs_put_at]
                by_cases z : y = a
                · subst z
                  rw [if_pos rfl]
                  unfold sw_lr; rw [if_pos (by omega), e3]
                · rw [if_neg z]
                  exact hA y y1 (by omega))

set_option maxRecDepth 20000 in
set_option maxHeartbeats 4000000 in
theorem m_height (g : zg_G) (σ : zs_S) (p : Nat) (hp : zs_p p) (s pr rc : Int → Int) (gp : Int) (wd : Int → Int) (h d : Int) (h7 : σ 26 7 = p) (hC : sw_C σ s pr rc gp) (hW : ∀ k : Int, 0 ≤ k → k < 6 → σ (28 + 2 * k.toNat) 1 = wd k ∧ 0 ≤ wd k ∧ wd k ≤ 4000) (hh : 300 ≤ h ∧ h ≤ 5000) (hd : 0 ≤ d ∧ d ≤ 9000) : zm_Met g mX8_tryHeight σ [.ref (g.2.2.1 26), zv_i h, zv_i d] (fun v τ => ∃ r1 l1, v = some (zv_i (zi_b (¬ r1 = 0))) ∧ ch_O s pr (sw_lr wd pr h (ro_m d h) gp) r1 l1 ∧ zf_x σ τ [48, 49, p, p + 1, p + 1 + 1, p + 1 + 2, p + 4, p + 4 + 1, p + 4 + 2] ∧ ch_J τ ∧ sw_Y r1 (∃ r2 l2, ch_O s pr (sw_ls pr rc h) r2 l2 ∧ pd_R τ p s h (r1 + 2 * r2) l1 l2 h ∧ (0 ≤ r1 ∧ r1 ≤ 201300000) ∧ (0 ≤ r2 ∧ r2 ≤ 201300000))) := by
  refine zm_of (by decide +kernel) (Nat.le_of_ble_eq_true rfl) ?_
  intro k C hr
  show zw_W g mX8_tryHeight k 0 [(0, .ref (g.2.2.1 26)), (1, zv_i h), (2, zv_i d)] [] σ
  refine zr_iload_n (pc := 0) C dX8_tryHeight_0 2 rfl ?_
  refine zr_iload_n (pc := 1) C dX8_tryHeight_1 1 rfl ?_
  refine zr_callSN (As := [zv_i d, zv_i h]) (rest := []) (pc := 2) C dX8_tryHeight_2 kX10_room sX8_102 rfl (by decide) rfl (Nat.le_of_ble_eq_true rfl) (m_room g σ d h (by omega) (by omega)) (fun v_ τ_ h_ => ?_)
  obtain ⟨rfl, rfl⟩ := h_
  show zw_W g mX8_tryHeight k 5 [(0, .ref (g.2.2.1 26)), (1, zv_i h), (2, zv_i d)] [zv_i (ro_m d h)] σ
  refine zr_istore_n (L' := [(3, zv_i (ro_m d h)), (0, .ref (g.2.2.1 26)), (1, zv_i h), (2, zv_i d)]) (pc := 5) C dX8_tryHeight_5 (by decide) rfl ?_
  refine zr_iconst (pc := 6) C dX8_tryHeight_6 ?_
  refine zr_istore (L' := [(4, zv_i 0), (3, zv_i (ro_m d h)), (0, .ref (g.2.2.1 26)), (1, zv_i h), (2, zv_i d)]) (pc := 7) C dX8_tryHeight_7 (by decide) rfl ?_
  refine zr_sub [2, 3, 4, 1, 0] rfl ?_
  refine l_height C hr s pr rc gp wd h d (ro_m d h) σ hC hW hh (ro_mb hd (by omega)) (fun σ1 f1 hA => ?_) 7 σ 0 (by omega) (by omega) (zf_r σ _) (fun y y1 y2 => absurd y2 (by omega))
  have wb := ro_mb (a := d) (b := h) hd (by omega)
  have k46 : ∀ k : Int, 0 ≤ k → k < 6 → σ1 46 k = s k := fun k y1 y2 => (f1 46 (by decide) k).trans (hC.2.2 k y1 y2).1.1
  have k47 : ∀ k : Int, 0 ≤ k → k < 6 → σ1 47 k = pr k := fun k y1 y2 => (f1 47 (by decide) k).trans (hC.2.2 k y1 y2).1.2.1
  have lb : ∀ k : Int, 0 ≤ k → k < 6 → (-1 ≤ sw_lr wd pr h (ro_m d h) gp k ∧ sw_lr wd pr h (ro_m d h) gp k ≤ 9000 + gp) ∧ (0 ≤ sw_lr wd pr h (ro_m d h) gp k → 0 < pr k) := fun k y1 y2 => by
    have kb := hC.2.2 k y1 y2
    have g1 := hC.1
    unfold sw_lr
    by_cases z : wd k = h ∧ 0 < pr k ∧ ¬ ro_m d h = -1
    · rw [if_pos z]; omega
    · rw [if_neg z]; omega
  have hI1 : ch_I σ1 := fun k y1 y2 => by
    have kb := hC.2.2 k y1 y2
    have g1 := hC.1
    have l1 := lb k y1 y2
    rw [k46 k y1 y2, k47 k y1 y2, hA k y1 y2]
    refine ⟨kb.2.1, kb.2.2.1, by omega, fun z => ?_⟩
    have := l1.2 z
    have := kb.2.2.2.1 this
    omega
  have hJ1 : ch_J σ1 := fun k y1 y2 => by rw [f1 49 (by decide)]; exact hC.2.1 k y1 y2
  refine zr_aload_n (pc := 86) C dX8_tryHeight_86 0 rfl ?_
  refine zr_get (v := .ref (g.2.2.1 45)) (pc := 87) C 4 (some (some 45)) dX8_tryHeight_87 fX8_31 (by decide) (hs_26 _) rfl rfl ?_
  refine zr_callV (As := []) (rest := []) (b := 45) (pc := 90) C dX8_tryHeight_90 kX2_solve vX8_124 rfl (by decide) (by decide) (hs_45 _) rfl (Nat.le_of_ble_eq_true rfl) (m_solve g σ1 (by exact hI1) (by exact hJ1)) (fun v_ τ_ h_ => ?_)
  obtain ⟨rfl, h_102⟩ := h_
  generalize τ_ = τ_101 at h_102 ⊢
  show zw_W g mX8_tryHeight k 93 [(0, .ref (g.2.2.1 26)), (1, zv_i h), (2, zv_i d), (3, zv_i (ro_m d h))] [zv_i (τ_101 49 0)] τ_101
  obtain ⟨f2, hS2, hJ2⟩ := h_102
  have i46 : τ_101 46 = σ1 46 := funext (f2 46 (by decide))
  have i47 : τ_101 47 = σ1 47 := funext (f2 47 (by decide))
  have i48 : τ_101 48 = σ1 48 := funext (f2 48 (by decide))
  have hI2 : ch_I τ_101 := fun k y1 y2 => by rw [i46, i47, i48]; exact hI1 k y1 y2
  have z1 := zs_n1 hp
  have fz2 : zf_x σ τ_101 [48, 49] := zf_t f1 f2 (by simp) (by simp)
  have h72 : τ_101 26 7 = p := (fz2 26 (by decide) 7).trans h7
  have gO : ∀ l, ch_L (τ_101 46) (τ_101 47) (τ_101 48) (τ_101 49) l 0 → ch_O s pr (sw_lr wd pr h (ro_m d h) gp) (τ_101 49 0) l := fun l hL => by
    obtain ⟨Mk, hM, hB⟩ := hS2
    refine ch_Od (st := τ_101 46) (pr := τ_101 47) (li := τ_101 48) (fun k y1 y2 => ?_) ⟨τ_101 49, Mk, hM, hB, rfl, hL⟩
    rw [i46, i47, i48]
    exact ⟨k46 k y1 y2, k47 k y1 y2, hA k y1 y2⟩
  have rb := hJ2 0 (by omega) (by omega)
  refine zr_istore (L' := [(4, zv_i (τ_101 49 0)), (0, .ref (g.2.2.1 26)), (1, zv_i h), (2, zv_i d), (3, zv_i (ro_m d h))]) (pc := 93) C dX8_tryHeight_93 (by decide) rfl ?_
  refine zr_iload (pc := 95) C dX8_tryHeight_95 0 rfl ?_
  refine zr_if_ne (pc := 97) C 102 dX8_tryHeight_97 (by decide) (by omega) (fun h_103 => ?_) (fun h_103 => ?_)
  · refine zr_aload_n (pc := 102) C dX8_tryHeight_102 1 rfl ?_
    refine zr_get (v := .ref (g.2.2.1 45)) (pc := 103) C 4 (some (some 45)) dX8_tryHeight_103 fX8_31 (by decide) (hs_26 _) rfl rfl ?_
    refine zr_aload_n (pc := 106) C dX8_tryHeight_106 1 rfl ?_
    refine zr_get (v := .ref (g.2.2.1 (τ_101 26 7).toNat)) (pc := 107) C 7 (some none) dX8_tryHeight_107 fX8_45 (by decide) (hs_26 _) rfl rfl ?_
    first | rw [h74] | rw [h73] | rw [h72]
    show zw_W g mX8_tryHeight k 110 [(4, zv_i (τ_101 49 0)), (0, .ref (g.2.2.1 26)), (1, zv_i h), (2, zv_i d), (3, zv_i (ro_m d h))] [.ref (g.2.2.1 (p)), .ref (g.2.2.1 45)] τ_101
    refine zr_get (v := .ref (g.2.2.1 (p + 1))) (pc := 110) C 2 (some (some (p + 1))) dX8_tryHeight_110 fX8_109 (hn_pat hp) (hs_pat hp) rfl rfl ?_
    refine zr_callV (As := [.ref (g.2.2.1 (p + 1))]) (rest := []) (b := 45) (pc := 113) C dX8_tryHeight_113 kX2_lay vX8_128 rfl (by decide) (by decide) (hs_45 _) rfl (Nat.le_of_ble_eq_true rfl) (m_lay g τ_101 (p + 1) (zl_1 hp) (by exact hI2) (by exact hJ2) (by exact hS2) (gp) (by exact ⟨hC.1.1, fun k y1 y2 y3 => by rw [i48, hA k y1 y2] at y3 ⊢; rw [i46, k46 k y1 y2]; have l1 := lb k y1 y2; have l2 := l1.2 y3; have kb := (hC.2.2 k y1 y2).2.2.2.1 l2; omega⟩)) (fun v_ τ_ h_ => ?_)
    obtain ⟨rfl, h_105⟩ := h_
    generalize τ_ = τ_104 at h_105 ⊢
    show zw_W g mX8_tryHeight k 116 [(4, zv_i (τ_101 49 0)), (0, .ref (g.2.2.1 26)), (1, zv_i h), (2, zv_i d), (3, zv_i (ro_m d h))] [] τ_104
    obtain ⟨f3, l1, hL, c1, c2, hR⟩ := h_105
    have hm := ch_Lm hL
    have hR2 : ln_R s (τ_104 (p + 1 + 1)) (τ_104 (p + 1 + 2)) l1 := fun j k hj => by
      obtain ⟨r1, r2⟩ := hR j k hj
      refine ⟨r1, r2.trans (ch_tc (fun q hq => ?_))⟩
      have qm := hm q (List.mem_of_mem_take hq)
      rw [i46]
      exact k46 q qm.1 qm.2
    have h73 : τ_104 26 7 = p := (f3 26 (by simp; omega) 7).trans h72
    refine zr_aload_n (pc := 116) C dX8_tryHeight_116 1 rfl ?_
    refine zr_get (v := .ref (g.2.2.1 (τ_104 26 7).toNat)) (pc := 117) C 7 (some none) dX8_tryHeight_117 fX8_45 (by decide) (hs_26 _) rfl rfl ?_
    first | rw [h74] | rw [h73] | rw [h72]
    show zw_W g mX8_tryHeight k 120 [(4, zv_i (τ_101 49 0)), (0, .ref (g.2.2.1 26)), (1, zv_i h), (2, zv_i d), (3, zv_i (ro_m d h))] [.ref (g.2.2.1 (p))] τ_104
    refine zr_iload_n (pc := 120) C dX8_tryHeight_120 2 rfl ?_
    refine zr_put (pc := 121) C 0 0 rfl dX8_tryHeight_121 pX8_106 (hn_pat hp) (hs_pat hp) rfl (fun τ_106 e_107 => ?_)
    have fz3 : zf_x σ τ_106 [48, 49, p, p + 1, p + 1 + 1, p + 1 + 2, p + 4, p + 4 + 1, p + 4 + 2] := zf_p (zf_t fz2 f3 (by simp) (by simp)) e_107 (by simp)
    have h74 : τ_106 26 7 = p := (fz3 26 (by simp; omega) 7).trans h7
    have hC1 : sw_C τ_106 s pr rc gp := ⟨⟨hC.1.1, hC.1.2.1, (fz3 26 (by simp; omega) 3).trans hC.1.2.2⟩, fun x y1 y2 => by rw [e_107, zs_put_ne (by omega), f3 49 (by simp; omega)]; exact hJ2 x y1 y2, fun x y1 y2 => by rw [fz3 46 (by simp; omega), fz3 47 (by simp; omega), fz3 50 (by simp; omega)]; exact hC.2.2 x y1 y2⟩
    refine zr_aload_n (pc := 124) C dX8_tryHeight_124 1 rfl ?_
    refine zr_get (v := .ref (g.2.2.1 (τ_106 26 7).toNat)) (pc := 125) C 7 (some none) dX8_tryHeight_125 fX8_45 (by decide) (hs_26 _) rfl rfl ?_
    first | rw [h74] | rw [h73] | rw [h72]
    show zw_W g mX8_tryHeight k 128 [(4, zv_i (τ_101 49 0)), (0, .ref (g.2.2.1 26)), (1, zv_i h), (2, zv_i d), (3, zv_i (ro_m d h))] [.ref (g.2.2.1 (p))] τ_106
    refine zr_iload (pc := 128) C dX8_tryHeight_128 0 rfl ?_
    refine zr_iconst (pc := 130) C dX8_tryHeight_130 ?_
    refine zr_aload_n (pc := 131) C dX8_tryHeight_131 1 rfl ?_
    refine zr_iload_n (pc := 132) C dX8_tryHeight_132 2 rfl ?_
    refine zr_callV (As := [zv_i h]) (rest := [zv_i 2, zv_i (τ_101 49 0), .ref (g.2.2.1 (p))]) (b := 26) (pc := 133) C dX8_tryHeight_133 kX8_stackFrom vX8_118 rfl (by decide) (by decide) (hs_26 _) rfl (Nat.le_of_ble_eq_true rfl) (m_stack g τ_106 p hp s pr rc gp h (by exact h74) (by exact hC1) (by have := hC.1; omega)) (fun v_ τ_ h_ => ?_)
    obtain ⟨r_110, rfl, h_109⟩ := h_
    generalize τ_ = τ_108 at h_109 ⊢
    show zw_W g mX8_tryHeight k 136 [(4, zv_i (τ_101 49 0)), (0, .ref (g.2.2.1 26)), (1, zv_i h), (2, zv_i d), (3, zv_i (ro_m d h))] [zv_i r_110, zv_i 2, zv_i (τ_101 49 0), .ref (g.2.2.1 (p))] τ_108
    refine zr_imul (pc := 136) C dX8_tryHeight_136 ?_
    refine zr_iadd (pc := 137) C dX8_tryHeight_137 ?_
    refine zr_put (pc := 138) C 1 1 rfl dX8_tryHeight_138 pX8_78 (hn_pat hp) (hs_pat hp) rfl (fun τ_111 e_112 => ?_)
    refine zr_iconst (pc := 141) C dX8_tryHeight_141 ?_
    exact zr_zret (pc := 142) C hr dX8_tryHeight_142 rfl (by decide) (by
            obtain ⟨y1, y2, y3, l2, y4, y5, y6, y7⟩ := h_109
            have off : ∀ q, q ≠ p → τ_111 q = τ_108 q := fun q hq => funext fun j => by rw [e_112, zs_put_ne hq]
            have fe : zf_x σ τ_111 [48, 49, p, p + 1, p + 1 + 1, p + 1 + 2, p + 4, p + 4 + 1, p + 4 + 2] := zf_p (zf_t fz3 (zf_w y1 (by simp) (ds := [48, 49, p, p + 1, p + 1 + 1, p + 1 + 2, p + 4, p + 4 + 1, p + 4 + 2])) (by simp) (by simp)) e_112 (by simp)
            refine ⟨_, l1, zq_1 h_103, gO l1 hL, fe, fun x x1 x2 => by rw [off 49 (by omega)]; exact y2 x x1 x2, fun _ => ⟨_, l2, y4, ⟨?_, by rw [e_112, zs_put_self], ⟨?_, by omega, ?_⟩, by rw [off (p + 4) (by omega)]; exact y5, y6, by rw [off (p + 4 + 1) (by omega), off (p + 4 + 2) (by omega)]; exact y7⟩, rb, y3⟩⟩
            · rw [e_112, zs_put_off (by decide), y1 p (by simp; omega), e_107, zs_put_self]
            · rw [off (p + 1) (by omega), y1 (p + 1) (by simp; omega), e_107, zs_put_ne (by omega)]
              exact c1
            · rw [off (p + 1 + 1) (by omega), off (p + 1 + 2) (by omega), show τ_108 (p + 1 + 1) = τ_104 (p + 1 + 1) from funext fun j => by rw [y1 _ (by simp; omega), e_107, zs_put_ne (by omega)], show τ_108 (p + 1 + 2) = τ_104 (p + 1 + 2) from funext fun j => by rw [y1 _ (by simp; omega), e_107, zs_put_ne (by omega)]]
              exact hR2)
  · refine zr_iconst (pc := 100) C dX8_tryHeight_100 ?_
    exact zr_zret (pc := 101) C hr dX8_tryHeight_101 rfl (by decide) (by
            refine ⟨_, [], zq_0 (fun z => z h_103), gO [] (fun k y1 y2 z => ?_), zf_w fz2 (by simp), hJ2, fun z => absurd h_103 z⟩
            have zz := z.2
            rw [h_103] at zz
            have kb := hI2 k y1 y2
            have z0 := z.1
            have k0 := kb.2.2.2 (by omega)
            have kj := hJ2 (0 + τ_101 46 k) (by omega) (by omega)
            omega)
end
section
/-! THE MATHEMATICS OF THE CLASS, part K: choosing the pattern -/
theorem sw_Bt {a b c d e f : Int} (h1 : sw_B a b c d) (h2 : sw_B c d e f) : sw_B a b e f := by
  unfold sw_B at *
  omega
/-- steps of sizes that stand are 50 at least -/
def sw_U (s pr : Int → Int) : Prop := ∀ k : Int, 0 ≤ k → k < 6 → 0 ≤ s k ∧ (0 < pr k → 50 ≤ s k)
theorem sw_us {s pr rc : Int → Int} {face : Int} (h : sw_U s pr) : ∀ k : Int, 0 ≤ k → k < 6 → 0 ≤ s k ∧ (0 ≤ sw_ls pr rc face k → 50 ≤ s k) := fun k a b => ⟨(h k a b).1, fun z => (h k a b).2 (by
  unfold sw_ls at z
  by_cases c : 0 < pr k ∧ ¬ rc k = -1 ∧ face ≤ rc k
  · exact c.1
  · rw [if_neg c] at z; omega)⟩
theorem sw_ur {s pr wd : Int → Int} {h wi gp : Int} (hU : sw_U s pr) : ∀ k : Int, 0 ≤ k → k < 6 → 0 ≤ s k ∧ (0 ≤ sw_lr wd pr h wi gp k → 50 ≤ s k) := fun k a b => ⟨(hU k a b).1, fun z => (hU k a b).2 (by
  unfold sw_lr at z
  by_cases c : wd k = h ∧ 0 < pr k ∧ ¬ wi = -1
  · exact c.2.1
  · rw [if_neg c] at z; omega)⟩
/-- no height at place a: nothing comes -/
theorem sw_X0 {s pr rc wd hs : Int → Int} {gp d a h v : Int} (hX : sw_X s pr rc wd gp d hs a h v) (h0 : hs a ≤ 0) : sw_X s pr rc wd gp d hs (a + 1) h v := by
  intro h' v' l1' l2' hD
  rcases hD with z | ⟨i, i1, i2, i3, i4, z⟩
  · exact hX h' v' l1' l2' (Or.inl z)
  · rcases (show i < a ∨ i = a by omega) with c | c
    · exact hX h' v' l1' l2' (Or.inr ⟨i, i1, c, i3, i4, z⟩)
    · subst c; omega
/-- the height at place a has no row -/
theorem sw_X1 {s pr rc wd hs : Int → Int} {gp d a h v r : Int} {l : List Int} (hU : sw_U s pr) (hX : sw_X s pr rc wd gp d hs a h v) (hO : ch_O s pr (sw_lr wd pr (hs a) (ro_m d (hs a)) gp) r l) (hr : r = 0) : sw_X s pr rc wd gp d hs (a + 1) h v := by
  intro h' v' l1' l2' hD
  rcases hD with z | ⟨i, i1, i2, i3, i4, r1, r2, o1, o2, z⟩
  · exact hX h' v' l1' l2' (Or.inl z)
  · rcases (show i < a ∨ i = a by omega) with c | c
    · exact hX h' v' l1' l2' (Or.inr ⟨i, i1, c, i3, i4, r1, r2, o1, o2, z⟩)
    · subst c; subst i3
      have := (ch_Ou (sw_ur hU) hO o1).1
      omega
/-- the pattern of the height at place a isn't better -/
theorem sw_X2 {s pr rc wd hs : Int → Int} {gp d a h v r1 r2 : Int} {l1 l2 : List Int} (hU : sw_U s pr) (hX : sw_X s pr rc wd gp d hs a h v) (o1 : ch_O s pr (sw_lr wd pr (hs a) (ro_m d (hs a)) gp) r1 l1) (o2 : ch_O s pr (sw_ls pr rc (hs a)) r2 l2) (hn : ¬ sw_B (r1 + 2 * r2) (hs a) v h) : sw_X s pr rc wd gp d hs (a + 1) h v := by
  intro h' v' l1' l2' hD
  rcases hD with z | ⟨i, i1, i2, i3, i4, q1, q2, p1, p2, p3, p4⟩
  · exact hX h' v' l1' l2' (Or.inl z)
  · rcases (show i < a ∨ i = a by omega) with c | c
    · exact hX h' v' l1' l2' (Or.inr ⟨i, i1, c, i3, i4, q1, q2, p1, p2, p3, p4⟩)
    · subst c; subst i3
      have e1 := (ch_Ou (sw_ur hU) o1 p1).1
      have e2 := (ch_Ou (sw_us hU) o2 p3).1
      rw [p4, ← e1, ← e2]
      exact hn
/-- it is better -/
theorem sw_X3 {s pr rc wd hs : Int → Int} {gp d a h v r1 r2 : Int} {l1 l2 : List Int} (hU : sw_U s pr) (hX : sw_X s pr rc wd gp d hs a h v) (o1 : ch_O s pr (sw_lr wd pr (hs a) (ro_m d (hs a)) gp) r1 l1) (o2 : ch_O s pr (sw_ls pr rc (hs a)) r2 l2) (hb : sw_B (r1 + 2 * r2) (hs a) v h) : sw_X s pr rc wd gp d hs (a + 1) (hs a) (r1 + 2 * r2) := by
  intro h' v' l1' l2' hD
  rcases hD with z | ⟨i, i1, i2, i3, i4, q1, q2, p1, p2, p3, p4⟩
  · exact fun y => hX h' v' l1' l2' (Or.inl z) (sw_Bt y hb)
  · rcases (show i < a ∨ i = a by omega) with c | c
    · exact fun y => hX h' v' l1' l2' (Or.inr ⟨i, i1, c, i3, i4, q1, q2, p1, p2, p3, p4⟩) (sw_Bt y hb)
    · subst c; subst i3
      have e1 := (ch_Ou (sw_ur hU) o1 p1).1
      have e2 := (ch_Ou (sw_us hU) o2 p3).1
      rw [p4, ← e1, ← e2]
      unfold sw_B
      omega
theorem sw_Xn {s pr rc wd hs : Int → Int} {gp d v : Int} {l : List Int} (hU : sw_U s pr) (o : ch_O s pr (sw_ls pr rc (-2 * gp)) v l) : sw_X s pr rc wd gp d hs 0 (-1) v := by
  intro h' v' l1' l2' hD
  rcases hD with ⟨z1, z2, z3⟩ | ⟨i, i1, i2, z⟩
  · have := (ch_Ou (sw_us hU) o z3).1
    unfold sw_B
    omega
  · omega
/-- all cells but those that sawing writes -/
def sw_Q (σ τ : zs_S) : Prop := ∀ c : Nat, (c < 46 ∨ 66 < c) → c ≠ 26 → ∀ i, τ c i = σ c i
/-- what sawing leaves: the pattern u is the latest, its boards are delivered -/
def sw_O (σ τ : zs_S) (d gr h v : Int) (l1 l2 : List Int) (u p : Nat) : Prop := sw_D (sw_s σ) (sw_p σ gr) (sw_r σ d) (sw_w σ) (σ 26 3) d (σ 44) 4 h v l1 l2 ∧ sw_X (sw_s σ) (sw_p σ gr) (sw_r σ d) (sw_w σ) (σ 26 3) d (σ 44) 4 h v ∧ (zs_p u ∧ zs_p p ∧ u ≠ p) ∧ (τ 26 6 = u ∧ τ 26 7 = p ∧ τ 26 3 = σ 26 3) ∧ pd_R τ u (sw_s σ) h v l1 l2 (sw_F (σ 26 3) h) ∧ (∀ y : Int, 0 ≤ y → y < 6 → τ (u + 7) y = sw_p σ gr y ∧ τ 41 y = max 0 (σ 41 y - (ln_n y l1 + pa_s h * ln_n y l2))) ∧ ch_J τ ∧ pa_I τ u ∧ (∀ c : Nat, (c < 46 ∨ 66 < c) → c ≠ 26 → c ≠ 41 → ∀ i, τ c i = σ c i)
end
section
set_option maxRecDepth 20000 in
set_option maxHeartbeats 4000000 in
theorem l_saw1 {g : zg_G} {k : zk_T} {Q : Option Value → zs_S → Prop} (C : zk_ok g mX8_sawThrough k) (hr : zk_ret g mX8_sawThrough Q k) (s pr rc wd hs : Int → Int) (gp d tp gr : Int) (hd : 0 ≤ d ∧ d ≤ 9000) (σ0 : zs_S) (hU : sw_U s pr) (hW : ∀ k : Int, 0 ≤ k → k < 6 → σ0 (28 + 2 * k.toNat) 1 = wd k ∧ 0 ≤ wd k ∧ wd k ≤ 4000) (hH : ∀ a : Int, 0 ≤ a → a < 4 → σ0 44 a = hs a ∧ (hs a = 0 ∨ (300 ≤ hs a ∧ hs a ≤ 5000))) (hex : ∀ (σ1 : zs_S) (p u : Nat) (ht vl : Int) (l1 l2 : List Int), (zs_p p ∧ zs_p u ∧ u ≠ p) → (σ1 26 6 = u ∧ σ1 26 7 = p) → sw_Q σ0 σ1 → sw_C σ1 s pr rc gp → pd_R σ1 u s ht vl l1 l2 (sw_F gp ht) → sw_D s pr rc wd gp d hs 4 ht vl l1 l2 → sw_X s pr rc wd gp d hs 4 ht vl → ((0 ≤ vl ∧ vl ≤ 1000000000) ∧ (-1 ≤ ht ∧ ht ≤ 5000)) → ((∀ k ∈ l1, 0 ≤ k ∧ k < 6) ∧ (∀ k ∈ l2, 0 ≤ k ∧ k < 6)) → zw_W g mX8_sawThrough k 77 [(0, .ref (g.2.2.1 26))] [] σ1) : ∀ (N : Nat) (σ : zs_S) (p u : Nat) (a ht vl : Int) (l1 l2 : List Int), (4 - a).toNat < N → ((zs_p p ∧ zs_p u ∧ u ≠ p) ∧ 0 ≤ a ∧ a ≤ 4) → (σ 26 6 = u ∧ σ 26 7 = p) → (sw_Q σ0 σ) → (sw_C σ s pr rc gp) → (pd_R σ u s ht vl l1 l2 (sw_F gp ht)) → (sw_D s pr rc wd gp d hs a ht vl l1 l2) → (sw_X s pr rc wd gp d hs a ht vl) → ((0 ≤ vl ∧ vl ≤ 1000000000) ∧ (-1 ≤ ht ∧ ht ≤ 5000)) → ((∀ k ∈ l1, 0 ≤ k ∧ k < 6) ∧ (∀ k ∈ l2, 0 ≤ k ∧ k < 6)) → zw_W g mX8_sawThrough k 22 [(0, .ref (g.2.2.1 26)), (1, zv_i tp), (2, zv_i gr), (3, zv_i d), (4, zv_i a)] [] σ := by
  intro N
  induction N with
  | zero =>
    intro σ p u a ht vl l1 l2 hN
    exact absurd hN (by omega)
  | succ N ih =>
    intro σ p u a ht vl l1 l2 hN hpu h67 fr hC hR hD hX hvb hm
    have hp := hpu.1.1
    have hu := hpu.1.2.1
    refine zr_iload (pc := 22) C dX8_sawThrough_22 4 rfl ?_
    refine zr_iconst (pc := 24) C dX8_sawThrough_24 ?_
    refine zr_icmp_ge (pc := 25) C 77 dX8_sawThrough_25 (by decide) (by omega) (by omega) (fun h_1 => ?_) (fun h_1 => ?_)
    · refine zr_sub [0] rfl ?_
      have e4 : a = 4 := by omega
      subst e4
      exact hex σ p u ht vl l1 l2 hpu.1 h67 fr hC hR hD hX hvb hm
    · have hH1 := hH a (by omega) (by omega)
      have e44 : σ 44 a = hs a := (fr 44 (by omega) (by omega) a).trans hH1.1
      have hW1 : ∀ k : Int, 0 ≤ k → k < 6 → σ (28 + 2 * k.toNat) 1 = wd k ∧ 0 ≤ wd k ∧ wd k ≤ 4000 := fun k y1 y2 => by rw [fr (28 + 2 * k.toNat) (by omega) (by omega)]; exact hW k y1 y2
      refine zr_aload_n (pc := 28) C dX8_sawThrough_28 0 rfl ?_
      refine zr_get (v := .ref (g.2.2.1 44)) (pc := 29) C 2 (some (some 44)) dX8_sawThrough_29 fX8_24 (by decide) (hs_26 _) rfl rfl ?_
      refine zr_iload (pc := 32) C dX8_sawThrough_32 4 rfl ?_
      refine zr_iaload (pc := 34) C dX8_sawThrough_34 (by decide) (hs_44 _) (by omega) (by decide) ?_
      refine zr_if_le (pc := 35) C 71 dX8_sawThrough_35 (by decide) (by omega) (fun h_2 => ?_) (fun h_2 => ?_)
      · 
        refine zr_iinc (L' := [(4, zv_i (a + 1)), (0, .ref (g.2.2.1 26)), (1, zv_i tp), (2, zv_i gr), (3, zv_i d)]) (pc := 71) C dX8_sawThrough_71 4 rfl (by decide) rfl ?_
        refine zr_goto (pc := 74) C 22 dX8_sawThrough_74 (by decide) ?_
        refine zr_sub [1, 2, 3, 4, 0] rfl ?_
        exact ih σ p u (a + 1) ht vl l1 l2 (by omega) (by omega) h67 fr hC hR (sw_Dm hD (by omega)) (sw_X0 hX (by omega)) hvb hm
      · refine zr_aload_n (pc := 38) C dX8_sawThrough_38 0 rfl ?_
        refine zr_aload_n (pc := 39) C dX8_sawThrough_39 0 rfl ?_
        refine zr_get (v := .ref (g.2.2.1 44)) (pc := 40) C 2 (some (some 44)) dX8_sawThrough_40 fX8_24 (by decide) (hs_26 _) rfl rfl ?_
        refine zr_iload (pc := 43) C dX8_sawThrough_43 4 rfl ?_
        refine zr_iaload (pc := 45) C dX8_sawThrough_45 (by decide) (hs_44 _) (by omega) (by decide) ?_
        refine zr_iload_n (pc := 46) C dX8_sawThrough_46 3 rfl ?_
        refine zr_callV (As := [zv_i (σ 44 a), zv_i d]) (rest := []) (b := 26) (pc := 47) C dX8_sawThrough_47 kX8_tryHeight vX8_59 rfl (by decide) (by decide) (hs_26 _) rfl (Nat.le_of_ble_eq_true rfl) (m_height g σ p hp s pr rc gp wd (σ 44 a) d (by exact h67.2) (by exact hC) (by exact hW1) (by omega) (by omega)) (fun v_ τ_ h_ => ?_)
        obtain ⟨r_5, l_6, rfl, h_4⟩ := h_
        generalize τ_ = τ_3 at h_4 ⊢
        show zw_W g mX8_sawThrough k 50 [(0, .ref (g.2.2.1 26)), (1, zv_i tp), (2, zv_i gr), (3, zv_i d), (4, zv_i a)] [zv_i (zi_b (¬ r_5 = 0))] τ_3
        refine zr_if_eq_b (pc := 50) C 71 dX8_sawThrough_50 (by decide) (fun h_7 => ?_) (fun h_7 => ?_)
        · 
          refine zr_iinc (L' := [(4, zv_i (a + 1)), (0, .ref (g.2.2.1 26)), (1, zv_i tp), (2, zv_i gr), (3, zv_i d)]) (pc := 71) C dX8_sawThrough_71 4 rfl (by decide) rfl ?_
          refine zr_goto (pc := 74) C 22 dX8_sawThrough_74 (by decide) ?_
          obtain ⟨o1, fz, hJ2, hyes⟩ := h_4
          have fz' : zf_x σ τ_3 [48, 49, p, p + 1, p + 1 + 1, p + 1 + 2, p + 4, p + 4 + 1, p + 4 + 2] := fz
          have hC2 : sw_C τ_3 s pr rc gp := ⟨⟨hC.1.1, hC.1.2.1, (fz 26 (by simp; omega) 3).trans hC.1.2.2⟩, hJ2, fun x y1 y2 => by rw [fz 46 (by simp; omega), fz 47 (by simp; omega), fz 50 (by simp; omega)]; exact hC.2.2 x y1 y2⟩
          have fr2 : sw_Q σ0 τ_3 := fun c c1 c2 j => by rw [fz c (by simp; omega)]; exact fr c c1 c2 j
          have h672 : τ_3 26 6 = u ∧ τ_3 26 7 = p := ⟨(fz 26 (by simp; omega) 6).trans h67.1, (fz 26 (by simp; omega) 7).trans h67.2⟩
          have hR2 : pd_R τ_3 u s ht vl l1 l2 (sw_F gp ht) := pd_Rx hR (fun c c1 c2 j => fz c (by simp; omega) j)
          refine zr_sub [1, 2, 3, 4, 0] rfl ?_
          exact ih τ_3 p u (a + 1) ht vl l1 l2 (by omega) (by omega) h672 fr2 hC2 hR2 (sw_Dm hD (by omega)) (sw_X1 hU hX (by rw [← e44]; exact o1) (Classical.byContradiction h_7)) hvb hm
        · 
          obtain ⟨o1, fz, hJ2, hyes⟩ := h_4
          obtain ⟨r2, l2', o2, hP, b1, b2⟩ := hyes h_7
          have hC2 : sw_C τ_3 s pr rc gp := ⟨⟨hC.1.1, hC.1.2.1, (fz 26 (by simp; omega) 3).trans hC.1.2.2⟩, hJ2, fun x y1 y2 => by rw [fz 46 (by simp; omega), fz 47 (by simp; omega), fz 50 (by simp; omega)]; exact hC.2.2 x y1 y2⟩
          have fr2 : sw_Q σ0 τ_3 := fun c c1 c2 j => by rw [fz c (by simp; omega)]; exact fr c c1 c2 j
          have h672 : τ_3 26 6 = u ∧ τ_3 26 7 = p := ⟨(fz 26 (by simp; omega) 6).trans h67.1, (fz 26 (by simp; omega) 7).trans h67.2⟩
          have hR2 : pd_R τ_3 u s ht vl l1 l2 (sw_F gp ht) := pd_Rx hR (fun c c1 c2 j => fz c (by simp; omega) j)
          have hI1 : pa_I τ_3 p := pd_I hP (by omega) (by omega) (ch_Om o1) (ch_Om o2)
          have hI2 : pa_I τ_3 u := pd_I hR2 (by omega) (by omega) hm.1 hm.2
          have eb : pa_b τ_3 p u ↔ sw_B (r_5 + 2 * r2) (σ 44 a) vl ht := by
            unfold pa_b sw_B
            rw [hP.1, hP.2.1, hR2.1, hR2.2.1]
          refine zr_aload_n (pc := 53) C dX8_sawThrough_53 0 rfl ?_
          refine zr_get (v := .ref (g.2.2.1 (τ_3 26 7).toNat)) (pc := 54) C 7 (some none) dX8_sawThrough_54 fX8_45 (by decide) (hs_26 _) rfl rfl ?_
          rw [h672.2]
          show zw_W g mX8_sawThrough k 57 [(0, .ref (g.2.2.1 26)), (1, zv_i tp), (2, zv_i gr), (3, zv_i d), (4, zv_i a)] [.ref (g.2.2.1 (p))] τ_3
          refine zr_aload_n (pc := 57) C dX8_sawThrough_57 0 rfl ?_
          refine zr_get (v := .ref (g.2.2.1 (τ_3 26 6).toNat)) (pc := 58) C 6 (some none) dX8_sawThrough_58 fX8_41 (by decide) (hs_26 _) rfl rfl ?_
          rw [h672.1]
          show zw_W g mX8_sawThrough k 61 [(0, .ref (g.2.2.1 26)), (1, zv_i tp), (2, zv_i gr), (3, zv_i d), (4, zv_i a)] [.ref (g.2.2.1 (u)), .ref (g.2.2.1 (p))] τ_3
          refine zr_callV (As := [.ref (g.2.2.1 (u))]) (rest := []) (b := p) (pc := 61) C dX8_sawThrough_61 kX7_isBetterThan vX8_63 rfl (by decide) (hn_pat hp) (hs_pat hp) rfl (Nat.le_of_ble_eq_true rfl) (m_better g τ_3 p hp u hu (by exact hI1) (by exact hI2)) (fun v_ τ_ h_ => ?_)
          obtain ⟨rfl, rfl⟩ := h_
          show zw_W g mX8_sawThrough k 64 [(0, .ref (g.2.2.1 26)), (1, zv_i tp), (2, zv_i gr), (3, zv_i d), (4, zv_i a)] [zv_i (zi_b (pa_b τ_3 p u))] τ_3
          refine zr_if_eq_b (pc := 64) C 71 dX8_sawThrough_64 (by decide) (fun h_8 => ?_) (fun h_8 => ?_)
          · 
            refine zr_iinc (L' := [(4, zv_i (a + 1)), (0, .ref (g.2.2.1 26)), (1, zv_i tp), (2, zv_i gr), (3, zv_i d)]) (pc := 71) C dX8_sawThrough_71 4 rfl (by decide) rfl ?_
            refine zr_goto (pc := 74) C 22 dX8_sawThrough_74 (by decide) ?_
            refine zr_sub [1, 2, 3, 4, 0] rfl ?_
            exact ih τ_3 p u (a + 1) ht vl l1 l2 (by omega) (by omega) h672 fr2 hC2 hR2 (sw_Dm hD (by omega)) (sw_X2 hU hX (by rw [← e44]; exact o1) (by rw [← e44]; exact o2) (fun z => h_8 (by rw [← e44] at z; exact eb.mpr z))) hvb hm
          · 
            refine zr_aload_n (pc := 67) C dX8_sawThrough_67 0 rfl ?_
            refine zr_callV (As := []) (rest := []) (b := 26) (pc := 68) C dX8_sawThrough_68 kX8_keepTrial vX8_56 rfl (by decide) (by decide) (hs_26 _) rfl (Nat.le_of_ble_eq_true rfl) (m_keepTrial g τ_3 p u hp hu (by exact h672.1) (by exact h672.2)) (fun v_ τ_ h_ => ?_)
            obtain ⟨rfl, h_10⟩ := h_
            generalize τ_ = τ_9 at h_10 ⊢
            show zw_W g mX8_sawThrough k 71 [(0, .ref (g.2.2.1 26)), (1, zv_i tp), (2, zv_i gr), (3, zv_i d), (4, zv_i a)] [] τ_9
            refine zr_iinc (L' := [(4, zv_i (a + 1)), (0, .ref (g.2.2.1 26)), (1, zv_i tp), (2, zv_i gr), (3, zv_i d)]) (pc := 71) C dX8_sawThrough_71 4 rfl (by decide) rfl ?_
            refine zr_goto (pc := 74) C 22 dX8_sawThrough_74 (by decide) ?_
            obtain ⟨k1, k2, k3, k4⟩ := h_10
            have hC3 : sw_C τ_9 s pr rc gp := ⟨⟨hC.1.1, hC.1.2.1, k3.trans hC2.1.2.2⟩, fun x y1 y2 => by rw [k4 49 (by simp)]; exact hJ2 x y1 y2, fun x y1 y2 => by rw [k4 46 (by simp), k4 47 (by simp), k4 50 (by simp)]; exact hC2.2.2 x y1 y2⟩
            refine zr_sub [1, 2, 3, 4, 0] rfl ?_
            exact ih τ_9 u p (a + 1) (hs a) (r_5 + 2 * r2) l_6 l2' (by omega) (by omega) ⟨k1, k2⟩ (fun c c1 c2 j => by rw [k4 c (by simp; omega)]; exact fr2 c c1 c2 j) hC3 (pd_Rx (by rw [show sw_F gp (hs a) = hs a from if_neg (by omega), ← e44]; exact hP) (fun c c1 c2 j => k4 c (by simp; omega) j)) (Or.inr ⟨a, by omega, by omega, rfl, by omega, r_5, r2, by rw [← e44]; exact o1, h_7, by rw [← e44]; exact o2, rfl⟩) (sw_X3 hU hX (by rw [← e44]; exact o1) (by rw [← e44]; exact o2) (by rw [← e44]; exact eb.mp h_8)) (by omega) ⟨ch_Om o1, ch_Om o2⟩

set_option maxRecDepth 20000 in
set_option maxHeartbeats 4000000 in
theorem l_saw2 {g : zg_G} {k : zk_T} {Q : Option Value → zs_S → Prop} (C : zk_ok g mX8_sawThrough k) (hr : zk_ret g mX8_sawThrough Q k) (s pr : Int → Int) (u : Nat) (hu : zs_p u) (ht vl face : Int) (l1 l2 : List Int) (σ0 : zs_S) (h6 : σ0 26 6 = u) (hR : pd_R σ0 u s ht vl l1 l2 face) (hvb : (0 ≤ vl ∧ vl ≤ 1000000000) ∧ (-1 ≤ ht ∧ ht ≤ 5000)) (hm : (∀ k ∈ l1, 0 ≤ k ∧ k < 6) ∧ (∀ k ∈ l2, 0 ≤ k ∧ k < 6)) (hpr : ∀ k : Int, 0 ≤ k → k < 6 → σ0 47 k = pr k) (hn : ∀ k : Int, 0 ≤ k → k < 6 → 0 ≤ σ0 41 k ∧ σ0 41 k ≤ 1000) (hQ : ∀ τ, zf_x σ0 τ [41, u + 7] → (∀ y : Int, 0 ≤ y → y < 6 → τ (u + 7) y = pr y ∧ τ 41 y = max 0 (σ0 41 y - (ln_n y l1 + pa_s ht * ln_n y l2))) → Q (some (zv_i vl)) τ) : ∀ (N : Nat) (σ : zs_S) (a : Int), (6 - a).toNat < N → (0 ≤ a ∧ a ≤ 6) → (zf_x σ0 σ [41, u + 7]) → (∀ y : Int, 0 ≤ y → y < a → σ (u + 7) y = pr y ∧ σ 41 y = max 0 (σ0 41 y - (ln_n y l1 + pa_s ht * ln_n y l2))) → (∀ y : Int, a ≤ y → σ 41 y = σ0 41 y) → zw_W g mX8_sawThrough k 80 [(0, .ref (g.2.2.1 26)), (4, zv_i a)] [] σ := by
  intro N
  induction N with
  | zero =>
    intro σ a hN
    exact absurd hN (by omega)
  | succ N ih =>
    intro σ a hN ha fr hA hB
    have h61 : σ 26 6 = u := (fr 26 (by simp; omega) 6).trans h6
    refine zr_iload (pc := 80) C dX8_sawThrough_80 1 rfl ?_
    refine zr_bipush (pc := 82) C dX8_sawThrough_82 (by decide) ?_
    refine zr_icmp_ge (pc := 84) C 131 dX8_sawThrough_84 (by decide) (by omega) (by omega) (fun h_1 => ?_) (fun h_1 => ?_)
    · refine zr_aload_n (pc := 131) C dX8_sawThrough_131 0 rfl ?_
      refine zr_get (v := .ref (g.2.2.1 (σ 26 6).toNat)) (pc := 132) C 6 (some none) dX8_sawThrough_132 fX8_41 (by decide) (hs_26 _) rfl rfl ?_
      first | rw [h62] | rw [h61]
      show zw_W g mX8_sawThrough k 135 [(0, .ref (g.2.2.1 26)), (4, zv_i a)] [.ref (g.2.2.1 (u))] σ
      refine zr_get (v := zv_i (σ u 1)) (pc := 135) C 1 none dX8_sawThrough_135 fX8_78 (hn_pat hu) (hs_pat hu) rfl rfl ?_
      exact zr_iret (pc := 138) C hr dX8_sawThrough_138 rfl (by rw [fr u (by simp; omega) 1, hR.2.1]; exact hQ σ fr (fun y y1 y2 => hA y y1 (by omega)))
    · have e47 : σ 47 a = pr a := (fr 47 (by simp; omega) a).trans (hpr a (by omega) (by omega))
      refine zr_aload_n (pc := 87) C dX8_sawThrough_87 0 rfl ?_
      refine zr_get (v := .ref (g.2.2.1 (σ 26 6).toNat)) (pc := 88) C 6 (some none) dX8_sawThrough_88 fX8_41 (by decide) (hs_26 _) rfl rfl ?_
      first | rw [h62] | rw [h61]
      show zw_W g mX8_sawThrough k 91 [(0, .ref (g.2.2.1 26)), (4, zv_i a)] [.ref (g.2.2.1 (u))] σ
      refine zr_get (v := .ref (g.2.2.1 (u + 7))) (pc := 91) C 4 (some (some (u + 7))) dX8_sawThrough_91 fX8_67 (hn_pat hu) (hs_pat hu) rfl rfl ?_
      refine zr_iload (pc := 94) C dX8_sawThrough_94 1 rfl ?_
      refine zr_aload_n (pc := 96) C dX8_sawThrough_96 0 rfl ?_
      refine zr_get (v := .ref (g.2.2.1 45)) (pc := 97) C 4 (some (some 45)) dX8_sawThrough_97 fX8_31 (by decide) (hs_26 _) rfl rfl ?_
      refine zr_get (v := .ref (g.2.2.1 47)) (pc := 100) C 1 (some (some 47)) dX8_sawThrough_100 fX8_70 (by decide) (hs_45 _) rfl rfl ?_
      refine zr_iload (pc := 103) C dX8_sawThrough_103 1 rfl ?_
      refine zr_iaload (pc := 105) C dX8_sawThrough_105 (by decide) (hs_47 _) (by omega) (by decide) ?_
      refine zr_iastore (pc := 106) C dX8_sawThrough_106 (hn_patP hu) (hs_patP hu) (by omega) (by decide) (fun τ_2 e_3 => ?_)
      have h62 : τ_2 26 6 = u := by rw [e_3, zs_put_ne (by omega)]; exact h61
      have f2 : zf_x σ0 τ_2 [41, u + 7] := zf_p fr e_3 (by simp)
      have hR2 : pd_R τ_2 u s ht vl l1 l2 face := pd_Rx hR (fun c c1 c2 j => f2 c (by simp; omega) j)
      have hI2 : pa_I τ_2 u := pd_I hR2 (by omega) (by omega) hm.1 hm.2
      have ec := pd_c hR2 a
      have n1 := ln_nb a l1
      have n2 := ln_nb a l2
      have m1 := hR.2.2.1.2.1
      have m2 := hR.2.2.2.2.1
      have cb : 0 ≤ pa_c τ_2 u a ∧ pa_c τ_2 u a ≤ 1000 := by
        rw [ec]
        rcases pa_sb ht with z | z
        · rw [z]; omega
        · rw [z]; omega
      have e41 : τ_2 41 a = σ0 41 a := by rw [e_3, zs_put_ne (by omega)]; exact hB a (Int.le_refl _)
      have nb := hn a (by omega) (by omega)
      refine zr_aload_n (pc := 107) C dX8_sawThrough_107 0 rfl ?_
      refine zr_get (v := .ref (g.2.2.1 40)) (pc := 108) C 1 (some (some 40)) dX8_sawThrough_108 fX8_20 (by decide) (hs_26 _) rfl rfl ?_
      refine zr_iload (pc := 111) C dX8_sawThrough_111 1 rfl ?_
      refine zr_aload_n (pc := 113) C dX8_sawThrough_113 0 rfl ?_
      refine zr_get (v := .ref (g.2.2.1 (τ_2 26 6).toNat)) (pc := 114) C 6 (some none) dX8_sawThrough_114 fX8_41 (by decide) (hs_26 _) rfl rfl ?_
      first | rw [h62] | rw [h61]
      show zw_W g mX8_sawThrough k 117 [(0, .ref (g.2.2.1 26)), (4, zv_i a)] [.ref (g.2.2.1 (u)), zv_i a, .ref (g.2.2.1 40)] τ_2
      refine zr_iload (pc := 117) C dX8_sawThrough_117 1 rfl ?_
      refine zr_callV (As := [zv_i a]) (rest := [zv_i a, .ref (g.2.2.1 40)]) (b := u) (pc := 119) C dX8_sawThrough_119 kX7_countOf vX8_71 rfl (by decide) (hn_pat hu) (hs_pat hu) rfl (Nat.le_of_ble_eq_true rfl) (m_pcount g τ_2 u hu a (by omega) (by exact hI2)) (fun v_ τ_ h_ => ?_)
      obtain ⟨rfl, rfl⟩ := h_
      show zw_W g mX8_sawThrough k 122 [(0, .ref (g.2.2.1 26)), (4, zv_i a)] [zv_i (pa_c τ_2 u a), zv_i a, .ref (g.2.2.1 40)] τ_2
      refine zr_callV (As := [zv_i a, zv_i (pa_c τ_2 u a)]) (rest := []) (b := 40) (pc := 122) C dX8_sawThrough_122 kX6_deliver vX8_75 rfl (by decide) (by decide) (hs_40 _) rfl (Nat.le_of_ble_eq_true rfl) (m_deliver g τ_2 a (pa_c τ_2 u a) (by omega) (by rw [e41]; exact nb) (by exact cb)) (fun v_ τ_ h_ => ?_)
      obtain ⟨rfl, h_5⟩ := h_
      generalize τ_ = τ_4 at h_5 ⊢
      show zw_W g mX8_sawThrough k 125 [(0, .ref (g.2.2.1 26)), (4, zv_i a)] [] τ_4
      refine zr_iinc (L' := [(4, zv_i (a + 1)), (0, .ref (g.2.2.1 26))]) (pc := 125) C dX8_sawThrough_125 1 rfl (by decide) rfl ?_
      refine zr_goto (pc := 128) C 80 dX8_sawThrough_128 (by decide) ?_
      refine zr_sub [1, 0] rfl ?_
      exact ih τ_4 (a + 1) (by omega) (by omega) (zf_p f2 h_5 (by simp)) (fun y y1 y2 => by
        by_cases z : y = a
        · subst z
          refine ⟨?_, ?_⟩
          · rw [h_5, zs_put_ne (by omega), e_3, zs_put_self, e47]
          · rw [h_5, zs_put_self, e41, ec]
        · have q := hA y y1 (by omega)
          refine ⟨?_, ?_⟩
          · rw [h_5, zs_put_ne (by omega), e_3, zs_put_off z]
            exact q.1
          · rw [h_5, zs_put_off z, e_3, zs_put_ne (by omega)]
            exact q.2) (fun y y1 => by
        rw [h_5, zs_put_off (by omega), e_3, zs_put_ne (by omega)]
        exact hB y (by omega))

set_option maxRecDepth 20000 in
set_option maxHeartbeats 4000000 in
theorem m_sawThrough (g : zg_G) (σ : zs_S) (p u : Nat) (hp : zs_p p) (hu : zs_p u) (hpu : u ≠ p) (tp gr : Int) (htp : 0 ≤ tp ∧ tp ≤ 900) (hgr : 1 ≤ gr ∧ gr ≤ 3) (h6 : σ 26 6 = u) (h7 : σ 26 7 = p) (hI : sw_I σ) (hJ : ch_J σ) : zm_Met g mX8_sawThrough σ [.ref (g.2.2.1 26), zv_i tp, zv_i gr] (fun v τ => ∃ h x l1 l2 u' p', v = some (zv_i x) ∧ sw_O σ τ (10 * tp) gr h x l1 l2 u' p') := by
  refine zm_of (by decide +kernel) (Nat.le_of_ble_eq_true rfl) ?_
  intro k C hr
  show zw_W g mX8_sawThrough k 0 [(0, .ref (g.2.2.1 26)), (1, zv_i tp), (2, zv_i gr)] [] σ
  obtain ⟨s, hs⟩ : ∃ s, s = sw_s σ := ⟨_, rfl⟩
  obtain ⟨pr, hpr⟩ : ∃ pr, pr = sw_p σ gr := ⟨_, rfl⟩
  obtain ⟨rc, hrc⟩ : ∃ rc, rc = sw_r σ (10 * tp) := ⟨_, rfl⟩
  obtain ⟨gp, hgp⟩ : ∃ gp, gp = σ 26 3 := ⟨_, rfl⟩
  have hU : sw_U s pr := fun k y1 y2 => by
    have q := sw_pb hI hgr ⟨y1, y2⟩
    rw [hs, hpr]
    refine ⟨q.2.2.1, fun z => ?_⟩
    have := q.2.1 z
    have := hI.2.1
    unfold sw_s
    omega
  refine zr_bipush (pc := 0) C dX8_sawThrough_0 (by decide) ?_
  refine zr_iload_n (pc := 2) C dX8_sawThrough_2 1 rfl ?_
  refine zr_imul (pc := 3) C dX8_sawThrough_3 ?_
  refine zr_istore_n (L' := [(3, zv_i (10 * tp)), (0, .ref (g.2.2.1 26)), (1, zv_i tp), (2, zv_i gr)]) (pc := 4) C dX8_sawThrough_4 (by decide) rfl ?_
  refine zr_aload_n (pc := 5) C dX8_sawThrough_5 1 rfl ?_
  refine zr_iload_n (pc := 6) C dX8_sawThrough_6 0 rfl ?_
  refine zr_iload_n (pc := 7) C dX8_sawThrough_7 3 rfl ?_
  refine zr_callV (As := [zv_i (10 * tp), zv_i gr]) (rest := []) (b := 26) (pc := 8) C dX8_sawThrough_8 kX8_prepare vX8_49 rfl (by decide) (by decide) (hs_26 _) rfl (Nat.le_of_ble_eq_true rfl) (m_prep g σ (10 * tp) gr (by omega) (by exact hgr) (by exact hI)) (fun v_ τ_ h_ => ?_)
  obtain ⟨rfl, h_2⟩ := h_
  generalize τ_ = τ_1 at h_2 ⊢
  show zw_W g mX8_sawThrough k 11 [(3, zv_i (10 * tp)), (0, .ref (g.2.2.1 26)), (1, zv_i tp), (2, zv_i gr)] [] τ_1
  obtain ⟨f1, hA⟩ := h_2
  have hC : sw_C τ_1 s pr rc gp := by
    refine ⟨⟨by have := hI.2.1; omega, by have := hI.2.1; omega, by rw [f1 26 (by decide), hgp]⟩, fun x y1 y2 => by rw [f1 49 (by decide)]; exact hJ x y1 y2, fun x y1 y2 => ?_⟩
    obtain ⟨a1, a2, a3⟩ := hA x y1 y2
    have q := sw_pb hI hgr ⟨y1, y2⟩
    have w0 := (hI.1 x y1 y2).2.1
    rw [hs, hpr, hrc]
    refine ⟨⟨a1, a2, a3⟩, q.2.2, q.1, fun z => ?_, ro_mb (by omega) w0.1⟩
    have := q.2.1 z
    have := hI.2.1
    unfold sw_s
    omega
  have h71 : τ_1 26 7 = p := (f1 26 (by decide) 7).trans h7
  have h61 : τ_1 26 6 = u := (f1 26 (by decide) 6).trans h6
  refine zr_aload_n (pc := 11) C dX8_sawThrough_11 1 rfl ?_
  refine zr_callV (As := []) (rest := []) (b := 26) (pc := 12) C dX8_sawThrough_12 kX8_tryWithoutCant vX8_53 rfl (by decide) (by decide) (hs_26 _) rfl (Nat.le_of_ble_eq_true rfl) (m_noCant g τ_1 p hp s pr rc gp (by exact h71) (by exact hC)) (fun v_ τ_ h_ => ?_)
  obtain ⟨rfl, h_4⟩ := h_
  generalize τ_ = τ_3 at h_4 ⊢
  show zw_W g mX8_sawThrough k 15 [(3, zv_i (10 * tp)), (0, .ref (g.2.2.1 26)), (1, zv_i tp), (2, zv_i gr)] [] τ_3
  obtain ⟨f2, hJ2, x0, l0, x1, x2, x3⟩ := h_4
  have h72 : τ_3 26 7 = p := (f2 26 (by simp; omega) 7).trans h71
  have h62 : τ_3 26 6 = u := (f2 26 (by simp; omega) 6).trans h61
  refine zr_aload_n (pc := 15) C dX8_sawThrough_15 1 rfl ?_
  refine zr_callV (As := []) (rest := []) (b := 26) (pc := 16) C dX8_sawThrough_16 kX8_keepTrial vX8_56 rfl (by decide) (by decide) (hs_26 _) rfl (Nat.le_of_ble_eq_true rfl) (m_keepTrial g τ_3 p u hp hu (by exact h62) (by exact h72)) (fun v_ τ_ h_ => ?_)
  obtain ⟨rfl, h_6⟩ := h_
  generalize τ_ = τ_5 at h_6 ⊢
  show zw_W g mX8_sawThrough k 19 [(3, zv_i (10 * tp)), (0, .ref (g.2.2.1 26)), (1, zv_i tp), (2, zv_i gr)] [] τ_5
  refine zr_iconst (pc := 19) C dX8_sawThrough_19 ?_
  refine zr_istore (L' := [(4, zv_i 0), (3, zv_i (10 * tp)), (0, .ref (g.2.2.1 26)), (1, zv_i tp), (2, zv_i gr)]) (pc := 20) C dX8_sawThrough_20 (by decide) rfl ?_
  obtain ⟨k1, k2, k3, k4⟩ := h_6
  have hC2 : sw_C τ_5 s pr rc gp := ⟨⟨hC.1.1, hC.1.2.1, by rw [k3, f2 26 (by simp; omega)]; exact hC.1.2.2⟩, fun x y1 y2 => by rw [k4 49 (by simp)]; exact hJ2 x y1 y2, fun x y1 y2 => by rw [k4 46 (by simp), k4 47 (by simp), k4 50 (by simp), f2 46 (by simp; omega), f2 47 (by simp; omega), f2 50 (by simp; omega)]; exact hC.2.2 x y1 y2⟩
  refine zr_sub [2, 3, 4, 1, 0] rfl ?_
  refine l_saw1 C hr s pr rc (sw_w σ) (σ 44) gp (10 * tp) tp gr (by omega) σ hU (fun k y1 y2 => ⟨rfl, (hI.1 k y1 y2).2.1⟩) (fun a y1 y2 => ⟨rfl, hI.2.2.1 a y1 y2⟩) (fun σ1 p' u' ht vl l1 l2 q1 q2 q3 q4 q5 q6 q7 q8 q9 => ?_) 5 τ_5 u p 0 (-1) x0 [] l0 (by omega) ⟨⟨hu, hp, Ne.symm hpu⟩, by omega, by omega⟩ ⟨k1, k2⟩ (fun c c1 c2 j => by rw [k4 c (by simp; omega), f2 c (by simp; omega), f1 c (by simp; omega)]) hC2 (pd_Rx (by rw [show sw_F gp (-1) = -2 * gp from if_pos rfl]; exact x3) (fun c c1 c2 j => k4 c (by simp; omega) j)) (Or.inl ⟨rfl, rfl, x2⟩) (sw_Xn hU x2) (by omega) ⟨fun k hk => by simp at hk, ch_Om x2⟩
  refine zr_iconst (pc := 77) C dX8_sawThrough_77 ?_
  refine zr_istore (L' := [(4, zv_i 0), (0, .ref (g.2.2.1 26))]) (pc := 78) C dX8_sawThrough_78 (by decide) rfl ?_
  refine zr_sub [1, 0] rfl ?_
  refine l_saw2 C hr s pr u' q1.2.1 ht vl (sw_F gp ht) l1 l2 σ1 q2.1 q5 q8 q9 (fun k y1 y2 => (q4.2.2 k y1 y2).1.2.1) (fun k y1 y2 => by rw [q3 41 (by omega) (by omega)]; exact hI.2.2.2.1 k y1 y2) (fun τ z1 z2 => ⟨ht, vl, l1, l2, u', p', rfl, ?_⟩) 7 σ1 0 (by omega) (by omega) (zf_r σ1 _) (fun y y1 y2 => absurd y2 (by omega)) (fun y _ => rfl)
  have o1 := q1.1
  have o2 := q1.2.1
  have o3 := q1.2.2
  rw [hs, hpr, hrc, hgp] at q6 q7
  have q5' : pd_R τ u' (sw_s σ) ht vl l1 l2 (sw_F (σ 26 3) ht) := by rw [← hs, ← hgp]; exact pd_Rx q5 (fun c c1 c2 j => z1 c (by simp; omega) j)
  refine ⟨q6, q7, ⟨o2, o1, o3⟩, ⟨by rw [z1 26 (by simp; omega)]; exact q2.1, by rw [z1 26 (by simp; omega)]; exact q2.2, by rw [z1 26 (by simp; omega), q4.1.2.2, hgp]⟩, q5', fun y y1 y2 => ?_, fun x y1 y2 => by rw [z1 49 (by simp; omega)]; exact q4.2.1 x y1 y2, pd_I q5' q8.2 q8.1 q9.1 q9.2, fun c c1 c2 c3 j => by rw [z1 c (by simp; omega)]; exact q3 c c1 c2 j⟩
  rw [(z2 y y1 y2).1, (z2 y y1 y2).2, hpr, q3 41 (by omega) (by omega)]
  exact ⟨rfl, rfl⟩
end
section
/-- where c holds b, else a (kept from omega's eyes) -/
def zy_i (c a b : Prop) : Prop := (¬ c → a) ∧ (c → b)
theorem zy_n {c a b : Prop} (hc : ¬ c) (h : a) : zy_i c a b := ⟨fun _ => h, fun z => absurd z hc⟩
theorem zy_y {c a b : Prop} (hc : c) (h : b) : zy_i c a b := ⟨fun z => absurd hc z, fun _ => h⟩

set_option maxRecDepth 20000 in
set_option maxHeartbeats 4000000 in
theorem s_diameter (g : zg_G) (σ : zs_S) (a b : Int) (har : zi_r a) (hbr : zi_r b) (n : Int) (hg : (g.2.2.2 : Int) = n) (hS : ks_s σ n) : zm_Met g mX10_diameter σ [.ref (g.2.2.1 0), zv_i a, zv_i b] (fun v τ => v = some (zv_i (zi_b ((0 ≤ a ∧ a ≤ n) ∧ 50 ≤ b ∧ b ≤ 900))) ∧ zy_i ((0 ≤ a ∧ a ≤ n) ∧ 50 ≤ b ∧ b ≤ 900) (σ = τ) (τ = zs_put σ 3 a b)) := by
  refine zm_of (by decide +kernel) (Nat.le_of_ble_eq_true rfl) ?_
  intro k C hr
  show zw_W g mX10_diameter k 0 [(0, .ref (g.2.2.1 0)), (1, zv_i a), (2, zv_i b)] [] σ
  obtain ⟨hn1, hn2, hlast, hd, hgd⟩ := id hS
  refine zr_iload_n (pc := 0) C dX10_diameter_0 1 rfl ?_
  refine zr_iconst (pc := 1) C dX10_diameter_1 ?_
  refine zr_aload_n (pc := 2) C dX10_diameter_2 0 rfl ?_
  refine zr_get (v := .ref (g.2.2.1 2)) (pc := 3) C 1 (some (some 2)) dX10_diameter_3 fX10_26 (by decide) (hs_0 _) rfl rfl ?_
  refine zr_get (v := zv_i (σ 2 0)) (pc := 6) C 0 none dX10_diameter_6 fX10_49 (by decide) (hs_2 _) rfl rfl ?_
  refine zr_callS (As := [zv_i a, zv_i 0, zv_i (σ 2 0)]) (rest := []) (pc := 9) C dX10_diameter_9 kX10_within sX10_11 rfl (by decide) rfl (Nat.le_of_ble_eq_true rfl) (m_within g σ a 0 (σ 2 0) (by omega) (by omega) (by omega)) (fun v_ τ_ h_ => ?_)
  obtain ⟨rfl, rfl⟩ := h_
  show zw_W g mX10_diameter k 12 [(0, .ref (g.2.2.1 0)), (1, zv_i a), (2, zv_i b)] [zv_i (zi_b (0 ≤ a ∧ a ≤ (σ 2 0)))] σ
  refine zr_if_eq_b (pc := 12) C 27 dX10_diameter_12 (by decide) (fun h_1 => ?_) (fun h_1 => ?_)
  · refine zr_iconst (pc := 27) C dX10_diameter_27 ?_
    exact zr_zret (pc := 28) C hr dX10_diameter_28 rfl (by decide) (⟨zq_0 (by omega), zy_n (by omega) rfl⟩)
  · refine zr_iload_n (pc := 15) C dX10_diameter_15 2 rfl ?_
    refine zr_bipush (pc := 16) C dX10_diameter_16 (by decide) ?_
    refine zr_sipush (pc := 18) C dX10_diameter_18 (by decide) ?_
    refine zr_callS (As := [zv_i b, zv_i 50, zv_i 900]) (rest := []) (pc := 21) C dX10_diameter_21 kX10_within sX10_11 rfl (by decide) rfl (Nat.le_of_ble_eq_true rfl) (m_within g σ b 50 900 (by omega) (by omega) (by omega)) (fun v_ τ_ h_ => ?_)
    obtain ⟨rfl, rfl⟩ := h_
    show zw_W g mX10_diameter k 24 [(0, .ref (g.2.2.1 0)), (1, zv_i a), (2, zv_i b)] [zv_i (zi_b (50 ≤ b ∧ b ≤ 900))] σ
    refine zr_if_ne_b (pc := 24) C 29 dX10_diameter_24 (by decide) (fun h_2 => ?_) (fun h_2 => ?_)
    · refine zr_aload_n (pc := 29) C dX10_diameter_29 0 rfl ?_
      refine zr_get (v := .ref (g.2.2.1 2)) (pc := 30) C 1 (some (some 2)) dX10_diameter_30 fX10_26 (by decide) (hs_0 _) rfl rfl ?_
      refine zr_get (v := .ref (g.2.2.1 3)) (pc := 33) C 1 (some (some 3)) dX10_diameter_33 fX10_55 (by decide) (hs_2 _) rfl rfl ?_
      refine zr_iload_n (pc := 36) C dX10_diameter_36 1 rfl ?_
      refine zr_iload_n (pc := 37) C dX10_diameter_37 2 rfl ?_
      refine zr_iastore (pc := 38) C dX10_diameter_38 (by decide) (hs_3 _) (by omega) (by omega) (fun τ_3 e_4 => ?_)
      refine zr_iconst (pc := 39) C dX10_diameter_39 ?_
      exact zr_zret (pc := 40) C hr dX10_diameter_40 rfl (by decide) (⟨zq_1 (by omega), zy_y (by omega) (e_4)⟩)
    · refine zr_iconst (pc := 27) C dX10_diameter_27 ?_
      exact zr_zret (pc := 28) C hr dX10_diameter_28 rfl (by decide) (⟨zq_0 (by omega), zy_n (by omega) rfl⟩)

set_option maxRecDepth 20000 in
set_option maxHeartbeats 4000000 in
theorem s_defect (g : zg_G) (σ : zs_S) (a b c : Int) (har : zi_r a) (hbr : zi_r b) (hcr : zi_r c) (n : Int) (hg : (g.2.2.2 : Int) = n) (hS : ks_s σ n) (h20 : 0 ≤ σ 2 3 ∧ σ 2 3 ≤ 20) : zm_Met g mX10_defect σ [.ref (g.2.2.1 0), zv_i a, zv_i b, zv_i c] (fun v τ => v = some (zv_i (zi_b (((0 ≤ b ∧ b ≤ n) ∧ (0 ≤ a ∧ a ≤ b) ∧ (2 ≤ c ∧ c ≤ 3)) ∧ σ 2 3 < 20))) ∧ zy_i (((0 ≤ b ∧ b ≤ n) ∧ (0 ≤ a ∧ a ≤ b) ∧ (2 ≤ c ∧ c ≤ 3)) ∧ σ 2 3 < 20) (σ = τ) (τ 2 3 = σ 2 3 + 1 ∧ τ 2 0 = σ 2 0 ∧ (∀ p, τ 4 p = if a ≤ p ∧ p ≤ b then max (σ 4 p) c else σ 4 p) ∧ zf_x σ τ [2, 4])) := by
  refine zm_of (by decide +kernel) (Nat.le_of_ble_eq_true rfl) ?_
  intro k C hr
  show zw_W g mX10_defect k 0 [(0, .ref (g.2.2.1 0)), (1, zv_i a), (2, zv_i b), (3, zv_i c)] [] σ
  obtain ⟨hn1, hn2, hlast, hd, hgd⟩ := id hS
  refine zr_iload_n (pc := 0) C dX10_defect_0 2 rfl ?_
  refine zr_iconst (pc := 1) C dX10_defect_1 ?_
  refine zr_aload_n (pc := 2) C dX10_defect_2 0 rfl ?_
  refine zr_get (v := .ref (g.2.2.1 2)) (pc := 3) C 1 (some (some 2)) dX10_defect_3 fX10_26 (by decide) (hs_0 _) rfl rfl ?_
  refine zr_get (v := zv_i (σ 2 0)) (pc := 6) C 0 none dX10_defect_6 fX10_49 (by decide) (hs_2 _) rfl rfl ?_
  refine zr_callS (As := [zv_i b, zv_i 0, zv_i (σ 2 0)]) (rest := []) (pc := 9) C dX10_defect_9 kX10_within sX10_11 rfl (by decide) rfl (Nat.le_of_ble_eq_true rfl) (m_within g σ b 0 (σ 2 0) (by omega) (by omega) (by omega)) (fun v_ τ_ h_ => ?_)
  obtain ⟨rfl, rfl⟩ := h_
  show zw_W g mX10_defect k 12 [(0, .ref (g.2.2.1 0)), (1, zv_i a), (2, zv_i b), (3, zv_i c)] [zv_i (zi_b (0 ≤ b ∧ b ≤ (σ 2 0)))] σ
  refine zr_if_eq_b (pc := 12) C 33 dX10_defect_12 (by decide) (fun h_1 => ?_) (fun h_1 => ?_)
  · refine zr_iconst (pc := 33) C dX10_defect_33 ?_
    exact zr_zret (pc := 34) C hr dX10_defect_34 rfl (by decide) (⟨zq_0 (by omega), zy_n (by omega) rfl⟩)
  · refine zr_iload_n (pc := 15) C dX10_defect_15 1 rfl ?_
    refine zr_iconst (pc := 16) C dX10_defect_16 ?_
    refine zr_iload_n (pc := 17) C dX10_defect_17 2 rfl ?_
    refine zr_callS (As := [zv_i a, zv_i 0, zv_i b]) (rest := []) (pc := 18) C dX10_defect_18 kX10_within sX10_11 rfl (by decide) rfl (Nat.le_of_ble_eq_true rfl) (m_within g σ a 0 b (by omega) (by omega) (by omega)) (fun v_ τ_ h_ => ?_)
    obtain ⟨rfl, rfl⟩ := h_
    show zw_W g mX10_defect k 21 [(0, .ref (g.2.2.1 0)), (1, zv_i a), (2, zv_i b), (3, zv_i c)] [zv_i (zi_b (0 ≤ a ∧ a ≤ b))] σ
    refine zr_if_eq_b (pc := 21) C 33 dX10_defect_21 (by decide) (fun h_2 => ?_) (fun h_2 => ?_)
    · refine zr_iconst (pc := 33) C dX10_defect_33 ?_
      exact zr_zret (pc := 34) C hr dX10_defect_34 rfl (by decide) (⟨zq_0 (by omega), zy_n (by omega) rfl⟩)
    · refine zr_iload_n (pc := 24) C dX10_defect_24 3 rfl ?_
      refine zr_iconst (pc := 25) C dX10_defect_25 ?_
      refine zr_iconst (pc := 26) C dX10_defect_26 ?_
      refine zr_callS (As := [zv_i c, zv_i 2, zv_i 3]) (rest := []) (pc := 27) C dX10_defect_27 kX10_within sX10_11 rfl (by decide) rfl (Nat.le_of_ble_eq_true rfl) (m_within g σ c 2 3 (by omega) (by omega) (by omega)) (fun v_ τ_ h_ => ?_)
      obtain ⟨rfl, rfl⟩ := h_
      show zw_W g mX10_defect k 30 [(0, .ref (g.2.2.1 0)), (1, zv_i a), (2, zv_i b), (3, zv_i c)] [zv_i (zi_b (2 ≤ c ∧ c ≤ 3))] σ
      refine zr_if_ne_b (pc := 30) C 35 dX10_defect_30 (by decide) (fun h_3 => ?_) (fun h_3 => ?_)
      · refine zr_aload_n (pc := 35) C dX10_defect_35 0 rfl ?_
        refine zr_get (v := .ref (g.2.2.1 2)) (pc := 36) C 1 (some (some 2)) dX10_defect_36 fX10_26 (by decide) (hs_0 _) rfl rfl ?_
        refine zr_iload_n (pc := 39) C dX10_defect_39 1 rfl ?_
        refine zr_iload_n (pc := 40) C dX10_defect_40 2 rfl ?_
        refine zr_iload_n (pc := 41) C dX10_defect_41 3 rfl ?_
        refine zr_callV (As := [zv_i a, zv_i b, zv_i c]) (rest := []) (b := 2) (pc := 42) C dX10_defect_42 kX9_spoil vX10_59 rfl (by decide) (by decide) (hs_2 _) rfl (Nat.le_of_ble_eq_true rfl) (m_spoil g σ n hg a b c hS (by omega) (by omega) h20) (fun v_ τ_ h_ => ?_)
        obtain ⟨rfl, h_5⟩ := h_
        generalize τ_ = τ_4 at h_5 ⊢
        show zw_W g mX10_defect k 45 [(0, .ref (g.2.2.1 0)), (1, zv_i a), (2, zv_i b), (3, zv_i c)] [zv_i (zi_b (σ 2 3 < 20))] τ_4
        exact zr_zret (pc := 45) C hr dX10_defect_45 rfl (zi_b01 _) (by
                  obtain ⟨y1, y2⟩ := h_5
                  refine ⟨zq_b (by omega), ?_⟩
                  by_cases z : σ 2 3 < 20
                  · exact zy_y (by omega) (y2 z)
                  · exact zy_n (by omega) (y1 (by omega)))
      · refine zr_iconst (pc := 33) C dX10_defect_33 ?_
        exact zr_zret (pc := 34) C hr dX10_defect_34 rfl (by decide) (⟨zq_0 (by omega), zy_n (by omega) rfl⟩)

set_option maxRecDepth 20000 in
set_option maxHeartbeats 4000000 in
theorem s_logKind (g : zg_G) (σ : zs_S) (a b c : Int) (har : zi_r a) (hbr : zi_r b) (hcr : zi_r c)  : zm_Met g mX10_logKind σ [.ref (g.2.2.1 0), zv_i a, zv_i b, zv_i c] (fun v τ => v = some (zv_i (zi_b ((0 ≤ a ∧ a ≤ 5) ∧ (1 ≤ b ∧ b ≤ 60) ∧ (0 ≤ c ∧ c ≤ 900)))) ∧ zy_i ((0 ≤ a ∧ a ≤ 5) ∧ (1 ≤ b ∧ b ≤ 60) ∧ (0 ≤ c ∧ c ≤ 900)) (σ = τ) (τ (8 + 2 * a.toNat) 0 = b ∧ τ (8 + 2 * a.toNat) 1 = c ∧ (∀ i : Int, 0 ≤ i → i < 57 → τ (9 + 2 * a.toNat) i = 0) ∧ zf_x σ τ [8 + 2 * a.toNat, 9 + 2 * a.toNat])) := by
  refine zm_of (by decide +kernel) (Nat.le_of_ble_eq_true rfl) ?_
  intro k C hr
  show zw_W g mX10_logKind k 0 [(0, .ref (g.2.2.1 0)), (1, zv_i a), (2, zv_i b), (3, zv_i c)] [] σ
  refine zr_iload_n (pc := 0) C dX10_logKind_0 1 rfl ?_
  refine zr_iconst (pc := 1) C dX10_logKind_1 ?_
  refine zr_iconst (pc := 2) C dX10_logKind_2 ?_
  refine zr_callS (As := [zv_i a, zv_i 0, zv_i 5]) (rest := []) (pc := 3) C dX10_logKind_3 kX10_within sX10_11 rfl (by decide) rfl (Nat.le_of_ble_eq_true rfl) (m_within g σ a 0 5 (by omega) (by omega) (by omega)) (fun v_ τ_ h_ => ?_)
  obtain ⟨rfl, rfl⟩ := h_
  show zw_W g mX10_logKind k 6 [(0, .ref (g.2.2.1 0)), (1, zv_i a), (2, zv_i b), (3, zv_i c)] [zv_i (zi_b (0 ≤ a ∧ a ≤ 5))] σ
  refine zr_if_eq_b (pc := 6) C 30 dX10_logKind_6 (by decide) (fun h_1 => ?_) (fun h_1 => ?_)
  · refine zr_iconst (pc := 30) C dX10_logKind_30 ?_
    exact zr_zret (pc := 31) C hr dX10_logKind_31 rfl (by decide) (⟨zq_0 (by omega), zy_n (by omega) rfl⟩)
  · refine zr_iload_n (pc := 9) C dX10_logKind_9 2 rfl ?_
    refine zr_iconst (pc := 10) C dX10_logKind_10 ?_
    refine zr_bipush (pc := 11) C dX10_logKind_11 (by decide) ?_
    refine zr_callS (As := [zv_i b, zv_i 1, zv_i 60]) (rest := []) (pc := 13) C dX10_logKind_13 kX10_within sX10_11 rfl (by decide) rfl (Nat.le_of_ble_eq_true rfl) (m_within g σ b 1 60 (by omega) (by omega) (by omega)) (fun v_ τ_ h_ => ?_)
    obtain ⟨rfl, rfl⟩ := h_
    show zw_W g mX10_logKind k 16 [(0, .ref (g.2.2.1 0)), (1, zv_i a), (2, zv_i b), (3, zv_i c)] [zv_i (zi_b (1 ≤ b ∧ b ≤ 60))] σ
    refine zr_if_eq_b (pc := 16) C 30 dX10_logKind_16 (by decide) (fun h_2 => ?_) (fun h_2 => ?_)
    · refine zr_iconst (pc := 30) C dX10_logKind_30 ?_
      exact zr_zret (pc := 31) C hr dX10_logKind_31 rfl (by decide) (⟨zq_0 (by omega), zy_n (by omega) rfl⟩)
    · refine zr_iload_n (pc := 19) C dX10_logKind_19 3 rfl ?_
      refine zr_iconst (pc := 20) C dX10_logKind_20 ?_
      refine zr_sipush (pc := 21) C dX10_logKind_21 (by decide) ?_
      refine zr_callS (As := [zv_i c, zv_i 0, zv_i 900]) (rest := []) (pc := 24) C dX10_logKind_24 kX10_within sX10_11 rfl (by decide) rfl (Nat.le_of_ble_eq_true rfl) (m_within g σ c 0 900 (by omega) (by omega) (by omega)) (fun v_ τ_ h_ => ?_)
      obtain ⟨rfl, rfl⟩ := h_
      show zw_W g mX10_logKind k 27 [(0, .ref (g.2.2.1 0)), (1, zv_i a), (2, zv_i b), (3, zv_i c)] [zv_i (zi_b (0 ≤ c ∧ c ≤ 900))] σ
      refine zr_if_ne_b (pc := 27) C 32 dX10_logKind_27 (by decide) (fun h_3 => ?_) (fun h_3 => ?_)
      · refine zr_aload_n (pc := 32) C dX10_logKind_32 0 rfl ?_
        refine zr_get (v := .ref (g.2.2.1 7)) (pc := 33) C 2 (some (some 7)) dX10_logKind_33 fX10_31 (by decide) (hs_0 _) rfl rfl ?_
        refine zr_iload_n (pc := 36) C dX10_logKind_36 1 rfl ?_
        refine zr_aaload (pc := 37) C dX10_logKind_37 (by decide) (hs_7 _) (by decide) (by omega) (by decide) ?_
        show zw_W g mX10_logKind k 38 [(0, .ref (g.2.2.1 0)), (1, zv_i a), (2, zv_i b), (3, zv_i c)] [.ref (g.2.2.1 (8 + 2 * a.toNat))] σ
        refine zr_iload_n (pc := 38) C dX10_logKind_38 2 rfl ?_
        refine zr_iload_n (pc := 39) C dX10_logKind_39 3 rfl ?_
        refine zr_callV (As := [zv_i b, zv_i c]) (rest := []) (b := 8 + 2 * a.toNat) (pc := 40) C dX10_logKind_40 kX5_become vX10_62 rfl (by decide) (hn_kind (by omega)) (hs_kind (by omega)) rfl (Nat.le_of_ble_eq_true rfl) (m_becomeK g σ a b c (by omega)) (fun v_ τ_ h_ => ?_)
        obtain ⟨rfl, h_5⟩ := h_
        generalize τ_ = τ_4 at h_5 ⊢
        show zw_W g mX10_logKind k 43 [(0, .ref (g.2.2.1 0)), (1, zv_i a), (2, zv_i b), (3, zv_i c)] [] τ_4
        refine zr_iconst (pc := 43) C dX10_logKind_43 ?_
        exact zr_zret (pc := 44) C hr dX10_logKind_44 rfl (by decide) (⟨zq_1 (by omega), zy_y (by omega) (h_5)⟩)
      · refine zr_iconst (pc := 30) C dX10_logKind_30 ?_
        exact zr_zret (pc := 31) C hr dX10_logKind_31 rfl (by decide) (⟨zq_0 (by omega), zy_n (by omega) rfl⟩)

set_option maxRecDepth 20000 in
set_option maxHeartbeats 4000000 in
theorem s_priceOf (g : zg_G) (σ : zs_S) (a b c d : Int) (har : zi_r a) (hbr : zi_r b) (hcr : zi_r c) (hdr : zi_r d) (hK : ks_k σ) : zm_Met g mX10_priceOf σ [.ref (g.2.2.1 0), zv_i a, zv_i b, zv_i c, zv_i d] (fun v τ => v = some (zv_i (zi_b (((0 ≤ a ∧ a ≤ 5) ∧ 0 < σ (8 + 2 * a.toNat) 0 ∧ (0 ≤ b ∧ b ≤ 18)) ∧ (1 ≤ c ∧ c ≤ 3) ∧ (0 ≤ d ∧ d ≤ 1000000)))) ∧ zy_i (((0 ≤ a ∧ a ≤ 5) ∧ 0 < σ (8 + 2 * a.toNat) 0 ∧ (0 ≤ b ∧ b ≤ 18)) ∧ (1 ≤ c ∧ c ≤ 3) ∧ (0 ≤ d ∧ d ≤ 1000000)) (σ = τ) (τ = zs_put σ (9 + 2 * a.toNat) (b * 3 + c - 1) d)) := by
  refine zm_of (by decide +kernel) (Nat.le_of_ble_eq_true rfl) ?_
  intro k C hr
  show zw_W g mX10_priceOf k 0 [(0, .ref (g.2.2.1 0)), (1, zv_i a), (2, zv_i b), (3, zv_i c), (4, zv_i d)] [] σ
  refine zr_iload_n (pc := 0) C dX10_priceOf_0 1 rfl ?_
  refine zr_iconst (pc := 1) C dX10_priceOf_1 ?_
  refine zr_iconst (pc := 2) C dX10_priceOf_2 ?_
  refine zr_callS (As := [zv_i a, zv_i 0, zv_i 5]) (rest := []) (pc := 3) C dX10_priceOf_3 kX10_within sX10_11 rfl (by decide) rfl (Nat.le_of_ble_eq_true rfl) (m_within g σ a 0 5 (by omega) (by omega) (by omega)) (fun v_ τ_ h_ => ?_)
  obtain ⟨rfl, rfl⟩ := h_
  show zw_W g mX10_priceOf k 6 [(0, .ref (g.2.2.1 0)), (1, zv_i a), (2, zv_i b), (3, zv_i c), (4, zv_i d)] [zv_i (zi_b (0 ≤ a ∧ a ≤ 5))] σ
  refine zr_if_eq_b (pc := 6) C 31 dX10_priceOf_6 (by decide) (fun h_1 => ?_) (fun h_1 => ?_)
  · refine zr_iconst (pc := 31) C dX10_priceOf_31 ?_
    exact zr_zret (pc := 32) C hr dX10_priceOf_32 rfl (by decide) (⟨zq_0 (by omega), zy_n (by omega) rfl⟩)
  · have kb := (hK a (by omega) (by omega)).1
    refine zr_aload_n (pc := 9) C dX10_priceOf_9 0 rfl ?_
    refine zr_get (v := .ref (g.2.2.1 7)) (pc := 10) C 2 (some (some 7)) dX10_priceOf_10 fX10_31 (by decide) (hs_0 _) rfl rfl ?_
    refine zr_iload_n (pc := 13) C dX10_priceOf_13 1 rfl ?_
    refine zr_aaload (pc := 14) C dX10_priceOf_14 (by decide) (hs_7 _) (by decide) (by omega) (by decide) ?_
    show zw_W g mX10_priceOf k 15 [(0, .ref (g.2.2.1 0)), (1, zv_i a), (2, zv_i b), (3, zv_i c), (4, zv_i d)] [.ref (g.2.2.1 (8 + 2 * a.toNat))] σ
    refine zr_callV (As := []) (rest := []) (b := 8 + 2 * a.toNat) (pc := 15) C dX10_priceOf_15 kX5_isTold vX10_68 rfl (by decide) (hn_kind (by omega)) (hs_kind (by omega)) rfl (Nat.le_of_ble_eq_true rfl) (m_toldK g σ a (by omega) (by omega)) (fun v_ τ_ h_ => ?_)
    obtain ⟨rfl, rfl⟩ := h_
    show zw_W g mX10_priceOf k 18 [(0, .ref (g.2.2.1 0)), (1, zv_i a), (2, zv_i b), (3, zv_i c), (4, zv_i d)] [zv_i (zi_b (0 < σ (8 + 2 * a.toNat) 0))] σ
    refine zr_if_eq_b (pc := 18) C 31 dX10_priceOf_18 (by decide) (fun h_2 => ?_) (fun h_2 => ?_)
    · refine zr_iconst (pc := 31) C dX10_priceOf_31 ?_
      exact zr_zret (pc := 32) C hr dX10_priceOf_32 rfl (by decide) (⟨zq_0 (by omega), zy_n (by omega) rfl⟩)
    · refine zr_iload_n (pc := 21) C dX10_priceOf_21 2 rfl ?_
      refine zr_iconst (pc := 22) C dX10_priceOf_22 ?_
      refine zr_bipush (pc := 23) C dX10_priceOf_23 (by decide) ?_
      refine zr_callS (As := [zv_i b, zv_i 0, zv_i 18]) (rest := []) (pc := 25) C dX10_priceOf_25 kX10_within sX10_11 rfl (by decide) rfl (Nat.le_of_ble_eq_true rfl) (m_within g σ b 0 18 (by omega) (by omega) (by omega)) (fun v_ τ_ h_ => ?_)
      obtain ⟨rfl, rfl⟩ := h_
      show zw_W g mX10_priceOf k 28 [(0, .ref (g.2.2.1 0)), (1, zv_i a), (2, zv_i b), (3, zv_i c), (4, zv_i d)] [zv_i (zi_b (0 ≤ b ∧ b ≤ 18))] σ
      refine zr_if_ne_b (pc := 28) C 33 dX10_priceOf_28 (by decide) (fun h_3 => ?_) (fun h_3 => ?_)
      · refine zr_iload_n (pc := 33) C dX10_priceOf_33 3 rfl ?_
        refine zr_iconst (pc := 34) C dX10_priceOf_34 ?_
        refine zr_iconst (pc := 35) C dX10_priceOf_35 ?_
        refine zr_callS (As := [zv_i c, zv_i 1, zv_i 3]) (rest := []) (pc := 36) C dX10_priceOf_36 kX10_within sX10_11 rfl (by decide) rfl (Nat.le_of_ble_eq_true rfl) (m_within g σ c 1 3 (by omega) (by omega) (by omega)) (fun v_ τ_ h_ => ?_)
        obtain ⟨rfl, rfl⟩ := h_
        show zw_W g mX10_priceOf k 39 [(0, .ref (g.2.2.1 0)), (1, zv_i a), (2, zv_i b), (3, zv_i c), (4, zv_i d)] [zv_i (zi_b (1 ≤ c ∧ c ≤ 3))] σ
        refine zr_if_eq_b (pc := 39) C 53 dX10_priceOf_39 (by decide) (fun h_4 => ?_) (fun h_4 => ?_)
        · refine zr_iconst (pc := 53) C dX10_priceOf_53 ?_
          exact zr_zret (pc := 54) C hr dX10_priceOf_54 rfl (by decide) (⟨zq_0 (by omega), zy_n (by omega) rfl⟩)
        · refine zr_iload (pc := 42) C dX10_priceOf_42 4 rfl ?_
          refine zr_iconst (pc := 44) C dX10_priceOf_44 ?_
          refine zr_ldc (v := 1000000) (pc := 45) C 1000000 dX10_priceOf_45 (zt_mem 362 (by decide +kernel) rfl) (by decide) ?_
          refine zr_callS (As := [zv_i d, zv_i 0, zv_i 1000000]) (rest := []) (pc := 47) C dX10_priceOf_47 kX10_within sX10_11 rfl (by decide) rfl (Nat.le_of_ble_eq_true rfl) (m_within g σ d 0 1000000 (by omega) (by omega) (by omega)) (fun v_ τ_ h_ => ?_)
          obtain ⟨rfl, rfl⟩ := h_
          show zw_W g mX10_priceOf k 50 [(0, .ref (g.2.2.1 0)), (1, zv_i a), (2, zv_i b), (3, zv_i c), (4, zv_i d)] [zv_i (zi_b (0 ≤ d ∧ d ≤ 1000000))] σ
          refine zr_if_ne_b (pc := 50) C 55 dX10_priceOf_50 (by decide) (fun h_5 => ?_) (fun h_5 => ?_)
          · refine zr_aload_n (pc := 55) C dX10_priceOf_55 0 rfl ?_
            refine zr_get (v := .ref (g.2.2.1 7)) (pc := 56) C 2 (some (some 7)) dX10_priceOf_56 fX10_31 (by decide) (hs_0 _) rfl rfl ?_
            refine zr_iload_n (pc := 59) C dX10_priceOf_59 1 rfl ?_
            refine zr_aaload (pc := 60) C dX10_priceOf_60 (by decide) (hs_7 _) (by decide) (by omega) (by decide) ?_
            show zw_W g mX10_priceOf k 61 [(0, .ref (g.2.2.1 0)), (1, zv_i a), (2, zv_i b), (3, zv_i c), (4, zv_i d)] [.ref (g.2.2.1 (8 + 2 * a.toNat))] σ
            refine zr_get (v := .ref (g.2.2.1 (9 + 2 * a.toNat))) (pc := 61) C 2 (some (some (9 + 2 * a.toNat))) dX10_priceOf_61 fX10_73 (hn_kind (by omega)) (hs_kind (by omega)) rfl rfl ?_
            refine zr_iload_n (pc := 64) C dX10_priceOf_64 2 rfl ?_
            refine zr_iload_n (pc := 65) C dX10_priceOf_65 3 rfl ?_
            refine zr_callS (As := [zv_i b, zv_i c]) (rest := [.ref (g.2.2.1 (9 + 2 * a.toNat))]) (pc := 66) C dX10_priceOf_66 kX5_slot sX10_76 rfl (by decide) rfl (Nat.le_of_ble_eq_true rfl) (m_slot g σ b c ) (fun v_ τ_ h_ => ?_)
            obtain ⟨rfl, rfl⟩ := h_
            show zw_W g mX10_priceOf k 69 [(0, .ref (g.2.2.1 0)), (1, zv_i a), (2, zv_i b), (3, zv_i c), (4, zv_i d)] [zv_i (b * 3 + c - 1), .ref (g.2.2.1 (9 + 2 * a.toNat))] σ
            refine zr_iload (pc := 69) C dX10_priceOf_69 4 rfl ?_
            refine zr_iastore (pc := 71) C dX10_priceOf_71 (hn_kindP (by omega)) (hs_kindP (by omega)) (by omega) (by decide) (fun τ_6 e_7 => ?_)
            refine zr_iconst (pc := 72) C dX10_priceOf_72 ?_
            exact zr_zret (pc := 73) C hr dX10_priceOf_73 rfl (by decide) (⟨zq_1 (by omega), zy_y (by omega) (e_7)⟩)
          · refine zr_iconst (pc := 53) C dX10_priceOf_53 ?_
            exact zr_zret (pc := 54) C hr dX10_priceOf_54 rfl (by decide) (⟨zq_0 (by omega), zy_n (by omega) rfl⟩)
      · refine zr_iconst (pc := 31) C dX10_priceOf_31 ?_
        exact zr_zret (pc := 32) C hr dX10_priceOf_32 rfl (by decide) (⟨zq_0 (by omega), zy_n (by omega) rfl⟩)

set_option maxRecDepth 20000 in
set_option maxHeartbeats 4000000 in
theorem s_size (g : zg_G) (σ : zs_S) (a b c : Int) (har : zi_r a) (hbr : zi_r b) (hcr : zi_r c)  : zm_Met g mX10_size σ [.ref (g.2.2.1 0), zv_i a, zv_i b, zv_i c] (fun v τ => v = some (zv_i (zi_b (((0 ≤ a ∧ a ≤ 5) ∧ (50 ≤ b ∧ b ≤ 4000)) ∧ (50 ≤ c ∧ c ≤ 4000)))) ∧ zy_i (((0 ≤ a ∧ a ≤ 5) ∧ (50 ≤ b ∧ b ≤ 4000)) ∧ (50 ≤ c ∧ c ≤ 4000)) (σ = τ) (τ (28 + 2 * a.toNat) 0 = b ∧ τ (28 + 2 * a.toNat) 1 = c ∧ (∀ i : Int, 0 ≤ i → i < 3 → τ (29 + 2 * a.toNat) i = 0) ∧ zf_x σ τ [28 + 2 * a.toNat, 29 + 2 * a.toNat])) := by
  refine zm_of (by decide +kernel) (Nat.le_of_ble_eq_true rfl) ?_
  intro k C hr
  show zw_W g mX10_size k 0 [(0, .ref (g.2.2.1 0)), (1, zv_i a), (2, zv_i b), (3, zv_i c)] [] σ
  refine zr_iload_n (pc := 0) C dX10_size_0 1 rfl ?_
  refine zr_iconst (pc := 1) C dX10_size_1 ?_
  refine zr_iconst (pc := 2) C dX10_size_2 ?_
  refine zr_callS (As := [zv_i a, zv_i 0, zv_i 5]) (rest := []) (pc := 3) C dX10_size_3 kX10_within sX10_11 rfl (by decide) rfl (Nat.le_of_ble_eq_true rfl) (m_within g σ a 0 5 (by omega) (by omega) (by omega)) (fun v_ τ_ h_ => ?_)
  obtain ⟨rfl, rfl⟩ := h_
  show zw_W g mX10_size k 6 [(0, .ref (g.2.2.1 0)), (1, zv_i a), (2, zv_i b), (3, zv_i c)] [zv_i (zi_b (0 ≤ a ∧ a ≤ 5))] σ
  refine zr_if_eq_b (pc := 6) C 21 dX10_size_6 (by decide) (fun h_1 => ?_) (fun h_1 => ?_)
  · refine zr_iconst (pc := 21) C dX10_size_21 ?_
    exact zr_zret (pc := 22) C hr dX10_size_22 rfl (by decide) (⟨zq_0 (by omega), zy_n (by omega) rfl⟩)
  · refine zr_iload_n (pc := 9) C dX10_size_9 2 rfl ?_
    refine zr_bipush (pc := 10) C dX10_size_10 (by decide) ?_
    refine zr_sipush (pc := 12) C dX10_size_12 (by decide) ?_
    refine zr_callS (As := [zv_i b, zv_i 50, zv_i 4000]) (rest := []) (pc := 15) C dX10_size_15 kX10_within sX10_11 rfl (by decide) rfl (Nat.le_of_ble_eq_true rfl) (m_within g σ b 50 4000 (by omega) (by omega) (by omega)) (fun v_ τ_ h_ => ?_)
    obtain ⟨rfl, rfl⟩ := h_
    show zw_W g mX10_size k 18 [(0, .ref (g.2.2.1 0)), (1, zv_i a), (2, zv_i b), (3, zv_i c)] [zv_i (zi_b (50 ≤ b ∧ b ≤ 4000))] σ
    refine zr_if_ne_b (pc := 18) C 23 dX10_size_18 (by decide) (fun h_2 => ?_) (fun h_2 => ?_)
    · refine zr_iload_n (pc := 23) C dX10_size_23 3 rfl ?_
      refine zr_bipush (pc := 24) C dX10_size_24 (by decide) ?_
      refine zr_sipush (pc := 26) C dX10_size_26 (by decide) ?_
      refine zr_callS (As := [zv_i c, zv_i 50, zv_i 4000]) (rest := []) (pc := 29) C dX10_size_29 kX10_within sX10_11 rfl (by decide) rfl (Nat.le_of_ble_eq_true rfl) (m_within g σ c 50 4000 (by omega) (by omega) (by omega)) (fun v_ τ_ h_ => ?_)
      obtain ⟨rfl, rfl⟩ := h_
      show zw_W g mX10_size k 32 [(0, .ref (g.2.2.1 0)), (1, zv_i a), (2, zv_i b), (3, zv_i c)] [zv_i (zi_b (50 ≤ c ∧ c ≤ 4000))] σ
      refine zr_if_ne_b (pc := 32) C 37 dX10_size_32 (by decide) (fun h_3 => ?_) (fun h_3 => ?_)
      · refine zr_aload_n (pc := 37) C dX10_size_37 0 rfl ?_
        refine zr_get (v := .ref (g.2.2.1 27)) (pc := 38) C 4 (some (some 27)) dX10_size_38 fX10_43 (by decide) (hs_0 _) rfl rfl ?_
        refine zr_iload_n (pc := 41) C dX10_size_41 1 rfl ?_
        refine zr_aaload (pc := 42) C dX10_size_42 (by decide) (hs_27 _) (by decide) (by omega) (by decide) ?_
        show zw_W g mX10_size k 43 [(0, .ref (g.2.2.1 0)), (1, zv_i a), (2, zv_i b), (3, zv_i c)] [.ref (g.2.2.1 (28 + 2 * a.toNat))] σ
        refine zr_iload_n (pc := 43) C dX10_size_43 2 rfl ?_
        refine zr_iload_n (pc := 44) C dX10_size_44 3 rfl ?_
        refine zr_callV (As := [zv_i b, zv_i c]) (rest := []) (b := 28 + 2 * a.toNat) (pc := 45) C dX10_size_45 kX0_become vX10_103 rfl (by decide) (hn_size (by omega)) (hs_size (by omega)) rfl (Nat.le_of_ble_eq_true rfl) (m_becomeS g σ a b c (by omega)) (fun v_ τ_ h_ => ?_)
        obtain ⟨rfl, h_5⟩ := h_
        generalize τ_ = τ_4 at h_5 ⊢
        show zw_W g mX10_size k 48 [(0, .ref (g.2.2.1 0)), (1, zv_i a), (2, zv_i b), (3, zv_i c)] [] τ_4
        refine zr_iconst (pc := 48) C dX10_size_48 ?_
        exact zr_zret (pc := 49) C hr dX10_size_49 rfl (by decide) (⟨zq_1 (by omega), zy_y (by omega) (h_5)⟩)
      · refine zr_iconst (pc := 35) C dX10_size_35 ?_
        exact zr_zret (pc := 36) C hr dX10_size_36 rfl (by decide) (⟨zq_0 (by omega), zy_n (by omega) rfl⟩)
    · refine zr_iconst (pc := 21) C dX10_size_21 ?_
      exact zr_zret (pc := 22) C hr dX10_size_22 rfl (by decide) (⟨zq_0 (by omega), zy_n (by omega) rfl⟩)

set_option maxRecDepth 20000 in
set_option maxHeartbeats 4000000 in
theorem s_told (g : zg_G) (σ : zs_S) (a : Int) (har : zi_r a) (hI : sw_I σ) : zm_Met g mX10_isToldSize σ [.ref (g.2.2.1 0), zv_i a] (fun v τ => v = some (zv_i (zi_b ((0 ≤ a ∧ a ≤ 5) ∧ 0 < σ (28 + 2 * a.toNat) 0))) ∧ σ = τ) := by
  refine zm_of (by decide +kernel) (Nat.le_of_ble_eq_true rfl) ?_
  intro k C hr
  show zw_W g mX10_isToldSize k 0 [(0, .ref (g.2.2.1 0)), (1, zv_i a)] [] σ
  refine zr_iload_n (pc := 0) C dX10_isToldSize_0 1 rfl ?_
  refine zr_iconst (pc := 1) C dX10_isToldSize_1 ?_
  refine zr_iconst (pc := 2) C dX10_isToldSize_2 ?_
  refine zr_callS (As := [zv_i a, zv_i 0, zv_i 5]) (rest := []) (pc := 3) C dX10_isToldSize_3 kX10_within sX10_11 rfl (by decide) rfl (Nat.le_of_ble_eq_true rfl) (m_within g σ a 0 5 (by omega) (by omega) (by omega)) (fun v_ τ_ h_ => ?_)
  obtain ⟨rfl, rfl⟩ := h_
  show zw_W g mX10_isToldSize k 6 [(0, .ref (g.2.2.1 0)), (1, zv_i a)] [zv_i (zi_b (0 ≤ a ∧ a ≤ 5))] σ
  refine zr_if_eq_b (pc := 6) C 25 dX10_isToldSize_6 (by decide) (fun h_1 => ?_) (fun h_1 => ?_)
  · refine zr_iconst (pc := 25) C dX10_isToldSize_25 ?_
    exact zr_zret (pc := 26) C hr dX10_isToldSize_26 rfl (by decide) (⟨zq_0 (by omega), rfl⟩)
  · have kb := (hI.1 a (by omega) (by omega)).1
    refine zr_aload_n (pc := 9) C dX10_isToldSize_9 0 rfl ?_
    refine zr_get (v := .ref (g.2.2.1 27)) (pc := 10) C 4 (some (some 27)) dX10_isToldSize_10 fX10_43 (by decide) (hs_0 _) rfl rfl ?_
    refine zr_iload_n (pc := 13) C dX10_isToldSize_13 1 rfl ?_
    refine zr_aaload (pc := 14) C dX10_isToldSize_14 (by decide) (hs_27 _) (by decide) (by omega) (by decide) ?_
    show zw_W g mX10_isToldSize k 15 [(0, .ref (g.2.2.1 0)), (1, zv_i a)] [.ref (g.2.2.1 (28 + 2 * a.toNat))] σ
    refine zr_callV (As := []) (rest := []) (b := 28 + 2 * a.toNat) (pc := 15) C dX10_isToldSize_15 kX0_isTold vX10_153 rfl (by decide) (hn_size (by omega)) (hs_size (by omega)) rfl (Nat.le_of_ble_eq_true rfl) (m_toldS g σ a (by omega) (by omega)) (fun v_ τ_ h_ => ?_)
    obtain ⟨rfl, rfl⟩ := h_
    show zw_W g mX10_isToldSize k 18 [(0, .ref (g.2.2.1 0)), (1, zv_i a)] [zv_i (zi_b (0 < σ (28 + 2 * a.toNat) 0))] σ
    refine zr_if_eq_b (pc := 18) C 25 dX10_isToldSize_18 (by decide) (fun h_2 => ?_) (fun h_2 => ?_)
    · refine zr_iconst (pc := 25) C dX10_isToldSize_25 ?_
      exact zr_zret (pc := 26) C hr dX10_isToldSize_26 rfl (by decide) (⟨zq_0 (by omega), rfl⟩)
    · refine zr_iconst (pc := 21) C dX10_isToldSize_21 ?_
      refine zr_goto (pc := 22) C 26 dX10_isToldSize_22 (by decide) ?_
      exact zr_zret (pc := 26) C hr dX10_isToldSize_26 rfl (by decide) (⟨zq_1 (by omega), rfl⟩)

set_option maxRecDepth 20000 in
set_option maxHeartbeats 4000000 in
theorem s_boardPrice (g : zg_G) (σ : zs_S) (a b c : Int) (har : zi_r a) (hbr : zi_r b) (hcr : zi_r c) (hI : sw_I σ) : zm_Met g mX10_boardPrice σ [.ref (g.2.2.1 0), zv_i a, zv_i b, zv_i c] (fun v τ => v = some (zv_i (zi_b (((0 ≤ a ∧ a ≤ 5) ∧ 0 < σ (28 + 2 * a.toNat) 0) ∧ (1 ≤ b ∧ b ≤ 3) ∧ (0 ≤ c ∧ c ≤ 1000000)))) ∧ zy_i (((0 ≤ a ∧ a ≤ 5) ∧ 0 < σ (28 + 2 * a.toNat) 0) ∧ (1 ≤ b ∧ b ≤ 3) ∧ (0 ≤ c ∧ c ≤ 1000000)) (σ = τ) (τ = zs_put σ (29 + 2 * a.toNat) (b - 1) c)) := by
  refine zm_of (by decide +kernel) (Nat.le_of_ble_eq_true rfl) ?_
  intro k C hr
  show zw_W g mX10_boardPrice k 0 [(0, .ref (g.2.2.1 0)), (1, zv_i a), (2, zv_i b), (3, zv_i c)] [] σ
  refine zr_aload_n (pc := 0) C dX10_boardPrice_0 0 rfl ?_
  refine zr_iload_n (pc := 1) C dX10_boardPrice_1 1 rfl ?_
  refine zr_callV (As := [zv_i a]) (rest := []) (b := 0) (pc := 2) C dX10_boardPrice_2 kX10_isToldSize vX10_106 rfl (by decide) (by decide) (hs_0 _) rfl (Nat.le_of_ble_eq_true rfl) (s_told g σ a (by omega) hI) (fun v_ τ_ h_ => ?_)
  obtain ⟨rfl, rfl⟩ := h_
  show zw_W g mX10_boardPrice k 5 [(0, .ref (g.2.2.1 0)), (1, zv_i a), (2, zv_i b), (3, zv_i c)] [zv_i (zi_b ((0 ≤ a ∧ a ≤ 5) ∧ 0 < σ (28 + 2 * a.toNat) 0))] σ
  refine zr_if_eq_b (pc := 5) C 27 dX10_boardPrice_5 (by decide) (fun h_1 => ?_) (fun h_1 => ?_)
  · refine zr_iconst (pc := 27) C dX10_boardPrice_27 ?_
    exact zr_zret (pc := 28) C hr dX10_boardPrice_28 rfl (by decide) (⟨zq_0 (by omega), zy_n (by omega) rfl⟩)
  · refine zr_iload_n (pc := 8) C dX10_boardPrice_8 2 rfl ?_
    refine zr_iconst (pc := 9) C dX10_boardPrice_9 ?_
    refine zr_iconst (pc := 10) C dX10_boardPrice_10 ?_
    refine zr_callS (As := [zv_i b, zv_i 1, zv_i 3]) (rest := []) (pc := 11) C dX10_boardPrice_11 kX10_within sX10_11 rfl (by decide) rfl (Nat.le_of_ble_eq_true rfl) (m_within g σ b 1 3 (by omega) (by omega) (by omega)) (fun v_ τ_ h_ => ?_)
    obtain ⟨rfl, rfl⟩ := h_
    show zw_W g mX10_boardPrice k 14 [(0, .ref (g.2.2.1 0)), (1, zv_i a), (2, zv_i b), (3, zv_i c)] [zv_i (zi_b (1 ≤ b ∧ b ≤ 3))] σ
    refine zr_if_eq_b (pc := 14) C 27 dX10_boardPrice_14 (by decide) (fun h_2 => ?_) (fun h_2 => ?_)
    · refine zr_iconst (pc := 27) C dX10_boardPrice_27 ?_
      exact zr_zret (pc := 28) C hr dX10_boardPrice_28 rfl (by decide) (⟨zq_0 (by omega), zy_n (by omega) rfl⟩)
    · refine zr_iload_n (pc := 17) C dX10_boardPrice_17 3 rfl ?_
      refine zr_iconst (pc := 18) C dX10_boardPrice_18 ?_
      refine zr_ldc (v := 1000000) (pc := 19) C 1000000 dX10_boardPrice_19 (zt_mem 362 (by decide +kernel) rfl) (by decide) ?_
      refine zr_callS (As := [zv_i c, zv_i 0, zv_i 1000000]) (rest := []) (pc := 21) C dX10_boardPrice_21 kX10_within sX10_11 rfl (by decide) rfl (Nat.le_of_ble_eq_true rfl) (m_within g σ c 0 1000000 (by omega) (by omega) (by omega)) (fun v_ τ_ h_ => ?_)
      obtain ⟨rfl, rfl⟩ := h_
      show zw_W g mX10_boardPrice k 24 [(0, .ref (g.2.2.1 0)), (1, zv_i a), (2, zv_i b), (3, zv_i c)] [zv_i (zi_b (0 ≤ c ∧ c ≤ 1000000))] σ
      refine zr_if_ne_b (pc := 24) C 29 dX10_boardPrice_24 (by decide) (fun h_3 => ?_) (fun h_3 => ?_)
      · refine zr_aload_n (pc := 29) C dX10_boardPrice_29 0 rfl ?_
        refine zr_get (v := .ref (g.2.2.1 27)) (pc := 30) C 4 (some (some 27)) dX10_boardPrice_30 fX10_43 (by decide) (hs_0 _) rfl rfl ?_
        refine zr_iload_n (pc := 33) C dX10_boardPrice_33 1 rfl ?_
        refine zr_aaload (pc := 34) C dX10_boardPrice_34 (by decide) (hs_27 _) (by decide) (by omega) (by decide) ?_
        show zw_W g mX10_boardPrice k 35 [(0, .ref (g.2.2.1 0)), (1, zv_i a), (2, zv_i b), (3, zv_i c)] [.ref (g.2.2.1 (28 + 2 * a.toNat))] σ
        refine zr_get (v := .ref (g.2.2.1 (29 + 2 * a.toNat))) (pc := 35) C 2 (some (some (29 + 2 * a.toNat))) dX10_boardPrice_35 fX10_110 (hn_size (by omega)) (hs_size (by omega)) rfl rfl ?_
        refine zr_iload_n (pc := 38) C dX10_boardPrice_38 2 rfl ?_
        refine zr_iconst (pc := 39) C dX10_boardPrice_39 ?_
        refine zr_isub (pc := 40) C dX10_boardPrice_40 ?_
        refine zr_iload_n (pc := 41) C dX10_boardPrice_41 3 rfl ?_
        refine zr_iastore (pc := 42) C dX10_boardPrice_42 (hn_sizeP (by omega)) (hs_sizeP (by omega)) (by omega) (by decide) (fun τ_4 e_5 => ?_)
        refine zr_iconst (pc := 43) C dX10_boardPrice_43 ?_
        exact zr_zret (pc := 44) C hr dX10_boardPrice_44 rfl (by decide) (⟨zq_1 (by omega), zy_y (by omega) (e_5)⟩)
      · refine zr_iconst (pc := 27) C dX10_boardPrice_27 ?_
        exact zr_zret (pc := 28) C hr dX10_boardPrice_28 rfl (by decide) (⟨zq_0 (by omega), zy_n (by omega) rfl⟩)

set_option maxRecDepth 20000 in
set_option maxHeartbeats 4000000 in
theorem s_height (g : zg_G) (σ : zs_S) (a b : Int) (har : zi_r a) (hbr : zi_r b)  : zm_Met g mX10_height σ [.ref (g.2.2.1 0), zv_i a, zv_i b] (fun v τ => v = some (zv_i (zi_b ((0 ≤ a ∧ a ≤ 3) ∧ (300 ≤ b ∧ b ≤ 5000)))) ∧ zy_i ((0 ≤ a ∧ a ≤ 3) ∧ (300 ≤ b ∧ b ≤ 5000)) (σ = τ) (τ = zs_put σ 44 a b)) := by
  refine zm_of (by decide +kernel) (Nat.le_of_ble_eq_true rfl) ?_
  intro k C hr
  show zw_W g mX10_height k 0 [(0, .ref (g.2.2.1 0)), (1, zv_i a), (2, zv_i b)] [] σ
  refine zr_iload_n (pc := 0) C dX10_height_0 1 rfl ?_
  refine zr_iconst (pc := 1) C dX10_height_1 ?_
  refine zr_iconst (pc := 2) C dX10_height_2 ?_
  refine zr_callS (As := [zv_i a, zv_i 0, zv_i 3]) (rest := []) (pc := 3) C dX10_height_3 kX10_within sX10_11 rfl (by decide) rfl (Nat.le_of_ble_eq_true rfl) (m_within g σ a 0 3 (by omega) (by omega) (by omega)) (fun v_ τ_ h_ => ?_)
  obtain ⟨rfl, rfl⟩ := h_
  show zw_W g mX10_height k 6 [(0, .ref (g.2.2.1 0)), (1, zv_i a), (2, zv_i b)] [zv_i (zi_b (0 ≤ a ∧ a ≤ 3))] σ
  refine zr_if_eq_b (pc := 6) C 22 dX10_height_6 (by decide) (fun h_1 => ?_) (fun h_1 => ?_)
  · refine zr_iconst (pc := 22) C dX10_height_22 ?_
    exact zr_zret (pc := 23) C hr dX10_height_23 rfl (by decide) (⟨zq_0 (by omega), zy_n (by omega) rfl⟩)
  · refine zr_iload_n (pc := 9) C dX10_height_9 2 rfl ?_
    refine zr_sipush (pc := 10) C dX10_height_10 (by decide) ?_
    refine zr_sipush (pc := 13) C dX10_height_13 (by decide) ?_
    refine zr_callS (As := [zv_i b, zv_i 300, zv_i 5000]) (rest := []) (pc := 16) C dX10_height_16 kX10_within sX10_11 rfl (by decide) rfl (Nat.le_of_ble_eq_true rfl) (m_within g σ b 300 5000 (by omega) (by omega) (by omega)) (fun v_ τ_ h_ => ?_)
    obtain ⟨rfl, rfl⟩ := h_
    show zw_W g mX10_height k 19 [(0, .ref (g.2.2.1 0)), (1, zv_i a), (2, zv_i b)] [zv_i (zi_b (300 ≤ b ∧ b ≤ 5000))] σ
    refine zr_if_ne_b (pc := 19) C 24 dX10_height_19 (by decide) (fun h_2 => ?_) (fun h_2 => ?_)
    · refine zr_aload_n (pc := 24) C dX10_height_24 0 rfl ?_
      refine zr_get (v := .ref (g.2.2.1 26)) (pc := 25) C 3 (some (some 26)) dX10_height_25 fX10_35 (by decide) (hs_0 _) rfl rfl ?_
      refine zr_get (v := .ref (g.2.2.1 44)) (pc := 28) C 2 (some (some 44)) dX10_height_28 fX10_111 (by decide) (hs_26 _) rfl rfl ?_
      refine zr_iload_n (pc := 31) C dX10_height_31 1 rfl ?_
      refine zr_iload_n (pc := 32) C dX10_height_32 2 rfl ?_
      refine zr_iastore (pc := 33) C dX10_height_33 (by decide) (hs_44 _) (by omega) (by decide) (fun τ_3 e_4 => ?_)
      refine zr_iconst (pc := 34) C dX10_height_34 ?_
      exact zr_zret (pc := 35) C hr dX10_height_35 rfl (by decide) (⟨zq_1 (by omega), zy_y (by omega) (e_4)⟩)
    · refine zr_iconst (pc := 22) C dX10_height_22 ?_
      exact zr_zret (pc := 23) C hr dX10_height_23 rfl (by decide) (⟨zq_0 (by omega), zy_n (by omega) rfl⟩)

set_option maxRecDepth 20000 in
set_option maxHeartbeats 4000000 in
theorem s_kerf (g : zg_G) (σ : zs_S) (a : Int) (har : zi_r a)  : zm_Met g mX10_kerf σ [.ref (g.2.2.1 0), zv_i a] (fun v τ => v = some (zv_i (zi_b (0 ≤ a ∧ a ≤ 100))) ∧ zy_i (0 ≤ a ∧ a ≤ 100) (σ = τ) (τ = zs_put σ 26 3 a)) := by
  refine zm_of (by decide +kernel) (Nat.le_of_ble_eq_true rfl) ?_
  intro k C hr
  show zw_W g mX10_kerf k 0 [(0, .ref (g.2.2.1 0)), (1, zv_i a)] [] σ
  refine zr_iload_n (pc := 0) C dX10_kerf_0 1 rfl ?_
  refine zr_iconst (pc := 1) C dX10_kerf_1 ?_
  refine zr_bipush (pc := 2) C dX10_kerf_2 (by decide) ?_
  refine zr_callS (As := [zv_i a, zv_i 0, zv_i 100]) (rest := []) (pc := 4) C dX10_kerf_4 kX10_within sX10_11 rfl (by decide) rfl (Nat.le_of_ble_eq_true rfl) (m_within g σ a 0 100 (by omega) (by omega) (by omega)) (fun v_ τ_ h_ => ?_)
  obtain ⟨rfl, rfl⟩ := h_
  show zw_W g mX10_kerf k 7 [(0, .ref (g.2.2.1 0)), (1, zv_i a)] [zv_i (zi_b (0 ≤ a ∧ a ≤ 100))] σ
  refine zr_if_ne_b (pc := 7) C 12 dX10_kerf_7 (by decide) (fun h_1 => ?_) (fun h_1 => ?_)
  · refine zr_aload_n (pc := 12) C dX10_kerf_12 0 rfl ?_
    refine zr_get (v := .ref (g.2.2.1 26)) (pc := 13) C 3 (some (some 26)) dX10_kerf_13 fX10_35 (by decide) (hs_0 _) rfl rfl ?_
    refine zr_iload_n (pc := 16) C dX10_kerf_16 1 rfl ?_
    refine zr_put (pc := 17) C 3 3 rfl dX10_kerf_17 pX10_114 (by decide) (hs_26 _) rfl (fun τ_2 e_3 => ?_)
    refine zr_iconst (pc := 20) C dX10_kerf_20 ?_
    exact zr_zret (pc := 21) C hr dX10_kerf_21 rfl (by decide) (⟨zq_1 (by omega), zy_y (by omega) (e_3)⟩)
  · refine zr_iconst (pc := 10) C dX10_kerf_10 ?_
    exact zr_zret (pc := 11) C hr dX10_kerf_11 rfl (by decide) (⟨zq_0 (by omega), zy_n (by omega) rfl⟩)

set_option maxRecDepth 20000 in
set_option maxHeartbeats 4000000 in
theorem s_need (g : zg_G) (σ : zs_S) (a b : Int) (har : zi_r a) (hbr : zi_r b)  : zm_Met g mX10_need σ [.ref (g.2.2.1 0), zv_i a, zv_i b] (fun v τ => v = some (zv_i (zi_b ((0 ≤ a ∧ a ≤ 5) ∧ (0 ≤ b ∧ b ≤ 1000)))) ∧ zy_i ((0 ≤ a ∧ a ≤ 5) ∧ (0 ≤ b ∧ b ≤ 1000)) (σ = τ) (τ = zs_put σ 41 a b)) := by
  refine zm_of (by decide +kernel) (Nat.le_of_ble_eq_true rfl) ?_
  intro k C hr
  show zw_W g mX10_need k 0 [(0, .ref (g.2.2.1 0)), (1, zv_i a), (2, zv_i b)] [] σ
  refine zr_iload_n (pc := 0) C dX10_need_0 1 rfl ?_
  refine zr_iconst (pc := 1) C dX10_need_1 ?_
  refine zr_iconst (pc := 2) C dX10_need_2 ?_
  refine zr_callS (As := [zv_i a, zv_i 0, zv_i 5]) (rest := []) (pc := 3) C dX10_need_3 kX10_within sX10_11 rfl (by decide) rfl (Nat.le_of_ble_eq_true rfl) (m_within g σ a 0 5 (by omega) (by omega) (by omega)) (fun v_ τ_ h_ => ?_)
  obtain ⟨rfl, rfl⟩ := h_
  show zw_W g mX10_need k 6 [(0, .ref (g.2.2.1 0)), (1, zv_i a), (2, zv_i b)] [zv_i (zi_b (0 ≤ a ∧ a ≤ 5))] σ
  refine zr_if_eq_b (pc := 6) C 20 dX10_need_6 (by decide) (fun h_1 => ?_) (fun h_1 => ?_)
  · refine zr_iconst (pc := 20) C dX10_need_20 ?_
    exact zr_zret (pc := 21) C hr dX10_need_21 rfl (by decide) (⟨zq_0 (by omega), zy_n (by omega) rfl⟩)
  · refine zr_iload_n (pc := 9) C dX10_need_9 2 rfl ?_
    refine zr_iconst (pc := 10) C dX10_need_10 ?_
    refine zr_sipush (pc := 11) C dX10_need_11 (by decide) ?_
    refine zr_callS (As := [zv_i b, zv_i 0, zv_i 1000]) (rest := []) (pc := 14) C dX10_need_14 kX10_within sX10_11 rfl (by decide) rfl (Nat.le_of_ble_eq_true rfl) (m_within g σ b 0 1000 (by omega) (by omega) (by omega)) (fun v_ τ_ h_ => ?_)
    obtain ⟨rfl, rfl⟩ := h_
    show zw_W g mX10_need k 17 [(0, .ref (g.2.2.1 0)), (1, zv_i a), (2, zv_i b)] [zv_i (zi_b (0 ≤ b ∧ b ≤ 1000))] σ
    refine zr_if_ne_b (pc := 17) C 22 dX10_need_17 (by decide) (fun h_2 => ?_) (fun h_2 => ?_)
    · refine zr_aload_n (pc := 22) C dX10_need_22 0 rfl ?_
      refine zr_get (v := .ref (g.2.2.1 40)) (pc := 23) C 5 (some (some 40)) dX10_need_23 fX10_48 (by decide) (hs_0 _) rfl rfl ?_
      refine zr_get (v := .ref (g.2.2.1 41)) (pc := 26) C 0 (some (some 41)) dX10_need_26 fX10_117 (by decide) (hs_40 _) rfl rfl ?_
      refine zr_iload_n (pc := 29) C dX10_need_29 1 rfl ?_
      refine zr_iload_n (pc := 30) C dX10_need_30 2 rfl ?_
      refine zr_iastore (pc := 31) C dX10_need_31 (by decide) (hs_41 _) (by omega) (by decide) (fun τ_3 e_4 => ?_)
      refine zr_iconst (pc := 32) C dX10_need_32 ?_
      exact zr_zret (pc := 33) C hr dX10_need_33 rfl (by decide) (⟨zq_1 (by omega), zy_y (by omega) (e_4)⟩)
    · refine zr_iconst (pc := 20) C dX10_need_20 ?_
      exact zr_zret (pc := 21) C hr dX10_need_21 rfl (by decide) (⟨zq_0 (by omega), zy_n (by omega) rfl⟩)

set_option maxRecDepth 20000 in
set_option maxHeartbeats 4000000 in
theorem s_ladder (g : zg_G) (σ : zs_S) (a b c : Int) (har : zi_r a) (hbr : zi_r b) (hcr : zi_r c)  : zm_Met g mX10_ladder σ [.ref (g.2.2.1 0), zv_i a, zv_i b, zv_i c] (fun v τ => v = some (zv_i (zi_b ((0 ≤ a ∧ a ≤ 3) ∧ (0 ≤ b ∧ b ≤ 100000) ∧ (0 ≤ c ∧ c ≤ 100000)))) ∧ zy_i ((0 ≤ a ∧ a ≤ 3) ∧ (0 ≤ b ∧ b ≤ 100000) ∧ (0 ≤ c ∧ c ≤ 100000)) (σ = τ) (τ = zs_put (zs_put σ 42 a b) 43 a c)) := by
  refine zm_of (by decide +kernel) (Nat.le_of_ble_eq_true rfl) ?_
  intro k C hr
  show zw_W g mX10_ladder k 0 [(0, .ref (g.2.2.1 0)), (1, zv_i a), (2, zv_i b), (3, zv_i c)] [] σ
  refine zr_iload_n (pc := 0) C dX10_ladder_0 1 rfl ?_
  refine zr_iconst (pc := 1) C dX10_ladder_1 ?_
  refine zr_iconst (pc := 2) C dX10_ladder_2 ?_
  refine zr_callS (As := [zv_i a, zv_i 0, zv_i 3]) (rest := []) (pc := 3) C dX10_ladder_3 kX10_within sX10_11 rfl (by decide) rfl (Nat.le_of_ble_eq_true rfl) (m_within g σ a 0 3 (by omega) (by omega) (by omega)) (fun v_ τ_ h_ => ?_)
  obtain ⟨rfl, rfl⟩ := h_
  show zw_W g mX10_ladder k 6 [(0, .ref (g.2.2.1 0)), (1, zv_i a), (2, zv_i b), (3, zv_i c)] [zv_i (zi_b (0 ≤ a ∧ a ≤ 3))] σ
  refine zr_if_eq_b (pc := 6) C 29 dX10_ladder_6 (by decide) (fun h_1 => ?_) (fun h_1 => ?_)
  · refine zr_iconst (pc := 29) C dX10_ladder_29 ?_
    exact zr_zret (pc := 30) C hr dX10_ladder_30 rfl (by decide) (⟨zq_0 (by omega), zy_n (by omega) rfl⟩)
  · refine zr_iload_n (pc := 9) C dX10_ladder_9 2 rfl ?_
    refine zr_iconst (pc := 10) C dX10_ladder_10 ?_
    refine zr_ldc (v := 100000) (pc := 11) C 100000 dX10_ladder_11 (zt_mem 456 (by decide +kernel) rfl) (by decide) ?_
    refine zr_callS (As := [zv_i b, zv_i 0, zv_i 100000]) (rest := []) (pc := 13) C dX10_ladder_13 kX10_within sX10_11 rfl (by decide) rfl (Nat.le_of_ble_eq_true rfl) (m_within g σ b 0 100000 (by omega) (by omega) (by omega)) (fun v_ τ_ h_ => ?_)
    obtain ⟨rfl, rfl⟩ := h_
    show zw_W g mX10_ladder k 16 [(0, .ref (g.2.2.1 0)), (1, zv_i a), (2, zv_i b), (3, zv_i c)] [zv_i (zi_b (0 ≤ b ∧ b ≤ 100000))] σ
    refine zr_if_eq_b (pc := 16) C 29 dX10_ladder_16 (by decide) (fun h_2 => ?_) (fun h_2 => ?_)
    · refine zr_iconst (pc := 29) C dX10_ladder_29 ?_
      exact zr_zret (pc := 30) C hr dX10_ladder_30 rfl (by decide) (⟨zq_0 (by omega), zy_n (by omega) rfl⟩)
    · refine zr_iload_n (pc := 19) C dX10_ladder_19 3 rfl ?_
      refine zr_iconst (pc := 20) C dX10_ladder_20 ?_
      refine zr_ldc (v := 100000) (pc := 21) C 100000 dX10_ladder_21 (zt_mem 456 (by decide +kernel) rfl) (by decide) ?_
      refine zr_callS (As := [zv_i c, zv_i 0, zv_i 100000]) (rest := []) (pc := 23) C dX10_ladder_23 kX10_within sX10_11 rfl (by decide) rfl (Nat.le_of_ble_eq_true rfl) (m_within g σ c 0 100000 (by omega) (by omega) (by omega)) (fun v_ τ_ h_ => ?_)
      obtain ⟨rfl, rfl⟩ := h_
      show zw_W g mX10_ladder k 26 [(0, .ref (g.2.2.1 0)), (1, zv_i a), (2, zv_i b), (3, zv_i c)] [zv_i (zi_b (0 ≤ c ∧ c ≤ 100000))] σ
      refine zr_if_ne_b (pc := 26) C 31 dX10_ladder_26 (by decide) (fun h_3 => ?_) (fun h_3 => ?_)
      · refine zr_aload_n (pc := 31) C dX10_ladder_31 0 rfl ?_
        refine zr_get (v := .ref (g.2.2.1 40)) (pc := 32) C 5 (some (some 40)) dX10_ladder_32 fX10_48 (by decide) (hs_0 _) rfl rfl ?_
        refine zr_get (v := .ref (g.2.2.1 42)) (pc := 35) C 1 (some (some 42)) dX10_ladder_35 fX10_123 (by decide) (hs_40 _) rfl rfl ?_
        refine zr_iload_n (pc := 38) C dX10_ladder_38 1 rfl ?_
        refine zr_iload_n (pc := 39) C dX10_ladder_39 2 rfl ?_
        refine zr_iastore (pc := 40) C dX10_ladder_40 (by decide) (hs_42 _) (by omega) (by decide) (fun τ_4 e_5 => ?_)
        refine zr_aload_n (pc := 41) C dX10_ladder_41 0 rfl ?_
        refine zr_get (v := .ref (g.2.2.1 40)) (pc := 42) C 5 (some (some 40)) dX10_ladder_42 fX10_48 (by decide) (hs_0 _) rfl rfl ?_
        refine zr_get (v := .ref (g.2.2.1 43)) (pc := 45) C 2 (some (some 43)) dX10_ladder_45 fX10_126 (by decide) (hs_40 _) rfl rfl ?_
        refine zr_iload_n (pc := 48) C dX10_ladder_48 1 rfl ?_
        refine zr_iload_n (pc := 49) C dX10_ladder_49 3 rfl ?_
        refine zr_iastore (pc := 50) C dX10_ladder_50 (by decide) (hs_43 _) (by omega) (by decide) (fun τ_6 e_7 => ?_)
        refine zr_iconst (pc := 51) C dX10_ladder_51 ?_
        exact zr_zret (pc := 52) C hr dX10_ladder_52 rfl (by decide) (⟨zq_1 (by omega), zy_y (by omega) (by rw [e_7, e_5])⟩)
      · refine zr_iconst (pc := 29) C dX10_ladder_29 ?_
        exact zr_zret (pc := 30) C hr dX10_ladder_30 rfl (by decide) (⟨zq_0 (by omega), zy_n (by omega) rfl⟩)

set_option maxRecDepth 20000 in
set_option maxHeartbeats 4000000 in
theorem s_needNow (g : zg_G) (σ : zs_S) (a : Int) (har : zi_r a) : zm_Met g mX10_needNow σ [.ref (g.2.2.1 0), zv_i a] (fun v τ => v = some (zv_i (if 0 ≤ a ∧ a ≤ 5 then σ 41 a else -1)) ∧ σ = τ) := by
  refine zm_of (by decide +kernel) (Nat.le_of_ble_eq_true rfl) ?_
  intro k C hr
  show zw_W g mX10_needNow k 0 [(0, .ref (g.2.2.1 0)), (1, zv_i a)] [] σ
  refine zr_iload_n (pc := 0) C dX10_needNow_0 1 rfl ?_
  refine zr_iconst (pc := 1) C dX10_needNow_1 ?_
  refine zr_iconst (pc := 2) C dX10_needNow_2 ?_
  refine zr_callS (As := [zv_i a, zv_i 0, zv_i 5]) (rest := []) (pc := 3) C dX10_needNow_3 kX10_within sX10_11 rfl (by decide) rfl (Nat.le_of_ble_eq_true rfl) (m_within g σ a 0 5 (by omega) (by omega) (by omega)) (fun v_ τ_ h_ => ?_)
  obtain ⟨rfl, rfl⟩ := h_
  show zw_W g mX10_needNow k 6 [(0, .ref (g.2.2.1 0)), (1, zv_i a)] [zv_i (zi_b (0 ≤ a ∧ a ≤ 5))] σ
  refine zr_if_eq_b (pc := 6) C 21 dX10_needNow_6 (by decide) (fun h_1 => ?_) (fun h_1 => ?_)
  · refine zr_iconst (pc := 21) C dX10_needNow_21 ?_
    exact zr_iret (pc := 22) C hr dX10_needNow_22 rfl (⟨zq_i (by rw [if_neg (by omega)]), rfl⟩)
  · refine zr_aload_n (pc := 9) C dX10_needNow_9 0 rfl ?_
    refine zr_get (v := .ref (g.2.2.1 40)) (pc := 10) C 5 (some (some 40)) dX10_needNow_10 fX10_48 (by decide) (hs_0 _) rfl rfl ?_
    refine zr_get (v := .ref (g.2.2.1 41)) (pc := 13) C 0 (some (some 41)) dX10_needNow_13 fX10_117 (by decide) (hs_40 _) rfl rfl ?_
    refine zr_iload_n (pc := 16) C dX10_needNow_16 1 rfl ?_
    refine zr_iaload (pc := 17) C dX10_needNow_17 (by decide) (hs_41 _) (by omega) (by decide) ?_
    refine zr_goto (pc := 18) C 22 dX10_needNow_18 (by decide) ?_
    exact zr_iret (pc := 22) C hr dX10_needNow_22 rfl (⟨zq_i (by rw [if_pos (by omega)]), rfl⟩)

set_option maxRecDepth 20000 in
set_option maxHeartbeats 4000000 in
theorem s_buck (g : zg_G) (σ : zs_S) (n : Int) (hg : (g.2.2.2 : Int) = n) (q b : Nat) (hq : zs_q q) (hb : zs_q b) (hqb : q ≠ b) (hb4 : σ 1 4 = b) (hs5 : σ 1 5 = q) (hS : ks_s σ n) (hK : ks_k σ) (h20 : σ 20 (n + 1) = 0) : zm_Met g mX10_buck σ [.ref (g.2.2.1 0)] (fun v τ => ∃ r B K l, v = some (zv_i r) ∧ bk_O σ τ n q b B K l r) := by
  refine zm_of (by decide +kernel) (Nat.le_of_ble_eq_true rfl) ?_
  intro k C hr
  show zw_W g mX10_buck k 0 [(0, .ref (g.2.2.1 0))] [] σ
  refine zr_aload_n (pc := 0) C dX10_buck_0 0 rfl ?_
  refine zr_get (v := .ref (g.2.2.1 1)) (pc := 1) C 0 (some (some 1)) dX10_buck_1 fX10_18 (by decide) (hs_0 _) rfl rfl ?_
  refine zr_callV (As := []) (rest := []) (b := 1) (pc := 4) C dX10_buck_4 kX1_cutBest vX10_80 rfl (by decide) (by decide) (hs_1 _) rfl (Nat.le_of_ble_eq_true rfl) (m_cutBest g σ n hg q b hq hb hqb hS hK hb4 hs5 h20) (fun v_ τ_ h_ => ?_)
  obtain ⟨r0, B0, K0, l0, rfl, h_2⟩ := h_
  show zw_W g mX10_buck k 7 [(0, .ref (g.2.2.1 0))] [zv_i r0] τ_
  exact zr_iret (pc := 7) C hr dX10_buck_7 rfl (⟨r0, B0, K0, l0, rfl, h_2⟩)

set_option maxRecDepth 20000 in
set_option maxHeartbeats 4000000 in
theorem s_byHand (g : zg_G) (σ : zs_S) (n : Int) (hg : (g.2.2.2 : Int) = n) (w : Int64) (q b : Nat) (hq : zs_q q) (hb : zs_q b) (hqb : q ≠ b) (hb4 : σ 1 4 = b) (hs5 : σ 1 5 = q) (hS : ks_s σ n) (hK : ks_k σ) : zm_Met g mX10_byHand σ [.ref (g.2.2.1 0), .long w] (fun v τ => (by_f σ n w 8 = none → v = some (zv_i (-1)) ∧ zf_x σ τ [5, 6, q, q + 1]) ∧ (∀ f l, by_f σ n w 8 = some (f, l) → v = some (zv_i (bk_S σ l)) ∧ τ q 0 = l.length ∧ (l.length : Int) ≤ 8 ∧ bk_R σ (τ (q + 1)) l ∧ bk_W σ n (n + 1) l ∧ τ 1 4 = q ∧ τ 1 5 = b ∧ zf_x σ τ [1, 5, 6, q, q + 1])) := by
  refine zm_of (by decide +kernel) (Nat.le_of_ble_eq_true rfl) ?_
  intro k C hr
  show zw_W g mX10_byHand k 0 [(0, .ref (g.2.2.1 0)), (1, .long w)] [] σ
  refine zr_aload_n (pc := 0) C dX10_byHand_0 0 rfl ?_
  refine zr_get (v := .ref (g.2.2.1 1)) (pc := 1) C 0 (some (some 1)) dX10_byHand_1 fX10_18 (by decide) (hs_0 _) rfl rfl ?_
  refine zr_lload_n (pc := 4) C dX10_byHand_4 1 rfl ?_
  refine zr_callV (As := [.long w]) (rest := []) (b := 1) (pc := 5) C dX10_byHand_5 kX1_cutAsTold vX10_84 rfl (by decide) (by decide) (hs_1 _) rfl (Nat.le_of_ble_eq_true rfl) (m_cutAsTold g σ n hg w q b hq hb hqb hS hK hb4 hs5) (fun v_ τ_ h_ => ?_)
  obtain ⟨r0, hr0⟩ : ∃ r, v_ = some (zv_i r) := by
    cases hf : by_f σ n w 8 with
    | none => exact ⟨-1, (h_.1 hf).1⟩
    | some z => exact ⟨bk_S σ z.2, (h_.2 z.1 z.2 hf).1⟩
  subst hr0
  have h_1 := h_
  show zw_W g mX10_byHand k 8 [(0, .ref (g.2.2.1 0)), (1, .long w)] [zv_i r0] τ_
  exact zr_iret (pc := 8) C hr dX10_byHand_8 rfl (h_1)

set_option maxRecDepth 20000 in
set_option maxHeartbeats 4000000 in
theorem s_logs (g : zg_G) (σ : zs_S) (b : Nat) (hb : zs_q b) (hb4 : σ 1 4 = b) : zm_Met g mX10_logs σ [.ref (g.2.2.1 0)] (fun v τ => v = some (zv_i (σ b 0)) ∧ σ = τ) := by
  refine zm_of (by decide +kernel) (Nat.le_of_ble_eq_true rfl) ?_
  intro k C hr
  show zw_W g mX10_logs k 0 [(0, .ref (g.2.2.1 0))] [] σ
  refine zr_aload_n (pc := 0) C dX10_logs_0 0 rfl ?_
  refine zr_get (v := .ref (g.2.2.1 1)) (pc := 1) C 0 (some (some 1)) dX10_logs_1 fX10_18 (by decide) (hs_0 _) rfl rfl ?_
  refine zr_get (v := .ref (g.2.2.1 (σ 1 4).toNat)) (pc := 4) C 4 (some none) dX10_logs_4 fX10_88 (by decide) (hs_1 _) rfl rfl ?_
  rw [hb4]
  show zw_W g mX10_logs k 7 [(0, .ref (g.2.2.1 0))] [.ref (g.2.2.1 (b))] σ
  refine zr_get (v := zv_i (σ b 0)) (pc := 7) C 0 none dX10_logs_7 fX10_92 (hn_cut hb) (hs_cut hb) rfl rfl ?_
  exact zr_iret (pc := 10) C hr dX10_logs_10 rfl (⟨rfl, rfl⟩)

set_option maxRecDepth 20000 in
set_option maxHeartbeats 4000000 in
theorem s_log (g : zg_G) (σ : zs_S) (a c : Int) (har : zi_r a) (hcr : zi_r c) (b : Nat) (hb : zs_q b) (hb4 : σ 1 4 = b) (hc : 0 ≤ σ b 0 ∧ σ b 0 ≤ 40) (ha : (0 ≤ a ∧ a ≤ σ b 0 - 1) ∧ (0 ≤ c ∧ c ≤ 5)) : zm_Met g mX10_log σ [.ref (g.2.2.1 0), zv_i a, zv_i c] (fun v τ => v = some (zv_i (σ (b + 1) (a * 6 + c))) ∧ σ = τ) := by
  refine zm_of (by decide +kernel) (Nat.le_of_ble_eq_true rfl) ?_
  intro k C hr
  show zw_W g mX10_log k 0 [(0, .ref (g.2.2.1 0)), (1, zv_i a), (2, zv_i c)] [] σ
  refine zr_aload_n (pc := 0) C dX10_log_0 0 rfl ?_
  refine zr_get (v := .ref (g.2.2.1 1)) (pc := 1) C 0 (some (some 1)) dX10_log_1 fX10_18 (by decide) (hs_0 _) rfl rfl ?_
  refine zr_get (v := .ref (g.2.2.1 (σ 1 4).toNat)) (pc := 4) C 4 (some none) dX10_log_4 fX10_88 (by decide) (hs_1 _) rfl rfl ?_
  rw [hb4]
  show zw_W g mX10_log k 7 [(0, .ref (g.2.2.1 0)), (1, zv_i a), (2, zv_i c)] [.ref (g.2.2.1 (b))] σ
  refine zr_astore_n (L' := [(3, .ref (g.2.2.1 (b))), (0, .ref (g.2.2.1 0)), (1, zv_i a), (2, zv_i c)]) (pc := 7) C dX10_log_7 (by decide) rfl ?_
  refine zr_iload_n (pc := 8) C dX10_log_8 2 rfl ?_
  refine zr_iconst (pc := 9) C dX10_log_9 ?_
  refine zr_aload_n (pc := 10) C dX10_log_10 0 rfl ?_
  refine zr_get (v := zv_i (σ b 0)) (pc := 11) C 0 none dX10_log_11 fX10_92 (hn_cut hb) (hs_cut hb) rfl rfl ?_
  refine zr_iconst (pc := 14) C dX10_log_14 ?_
  refine zr_isub (pc := 15) C dX10_log_15 ?_
  refine zr_callS (As := [zv_i a, zv_i 0, zv_i ((σ b 0) - 1)]) (rest := []) (pc := 16) C dX10_log_16 kX10_within sX10_11 rfl (by decide) rfl (Nat.le_of_ble_eq_true rfl) (m_within g σ a 0 ((σ b 0) - 1) (by omega) (by omega) (by omega)) (fun v_ τ_ h_ => ?_)
  obtain ⟨rfl, rfl⟩ := h_
  show zw_W g mX10_log k 19 [(3, .ref (g.2.2.1 (b))), (0, .ref (g.2.2.1 0)), (1, zv_i a), (2, zv_i c)] [zv_i (zi_b (0 ≤ a ∧ a ≤ ((σ b 0) - 1)))] σ
  refine zr_if_eq_b (pc := 19) C 31 dX10_log_19 (by decide) (fun h_1 => ?_) (fun h_1 => ?_)
  · exact absurd ha.1 h_1
  · refine zr_iload_n (pc := 22) C dX10_log_22 3 rfl ?_
    refine zr_iconst (pc := 23) C dX10_log_23 ?_
    refine zr_iconst (pc := 24) C dX10_log_24 ?_
    refine zr_callS (As := [zv_i c, zv_i 0, zv_i 5]) (rest := []) (pc := 25) C dX10_log_25 kX10_within sX10_11 rfl (by decide) rfl (Nat.le_of_ble_eq_true rfl) (m_within g σ c 0 5 (by omega) (by omega) (by omega)) (fun v_ τ_ h_ => ?_)
    obtain ⟨rfl, rfl⟩ := h_
    show zw_W g mX10_log k 28 [(3, .ref (g.2.2.1 (b))), (0, .ref (g.2.2.1 0)), (1, zv_i a), (2, zv_i c)] [zv_i (zi_b (0 ≤ c ∧ c ≤ 5))] σ
    refine zr_if_ne_b (pc := 28) C 39 dX10_log_28 (by decide) (fun h_2 => ?_) (fun h_2 => ?_)
    · refine zr_aload_n (pc := 39) C dX10_log_39 0 rfl ?_
      refine zr_iload_n (pc := 40) C dX10_log_40 2 rfl ?_
      refine zr_iload_n (pc := 41) C dX10_log_41 3 rfl ?_
      refine zr_callV (As := [zv_i a, zv_i c]) (rest := []) (b := b) (pc := 42) C dX10_log_42 kX3_fact vX10_100 rfl (by decide) (hn_cut hb) (hs_cut hb) rfl (Nat.le_of_ble_eq_true rfl) (m_fact g σ b hb a c (by omega)) (fun v_ τ_ h_ => ?_)
      obtain ⟨rfl, rfl⟩ := h_
      show zw_W g mX10_log k 45 [(3, .ref (g.2.2.1 (b))), (0, .ref (g.2.2.1 0)), (1, zv_i a), (2, zv_i c)] [zv_i (σ (b + 1) (a * 6 + c))] σ
      exact zr_iret (pc := 45) C hr dX10_log_45 rfl (⟨rfl, rfl⟩)
    · exact absurd ha.2 h_2

set_option maxRecDepth 20000 in
set_option maxHeartbeats 4000000 in
theorem s_saw (g : zg_G) (σ : zs_S) (a : Int) (har : zi_r a) (b : Nat) (hb : zs_q b) (hb4 : σ 1 4 = b) (hc : 0 ≤ σ b 0 ∧ σ b 0 ≤ 40) (ha : 0 ≤ a ∧ a ≤ σ b 0 - 1) (p u : Nat) (hp : zs_p p) (hu : zs_p u) (hpu : u ≠ p) (h6 : σ 26 6 = u) (h7 : σ 26 7 = p) (hI : sw_I σ) (hJ : ch_J σ) (ht : 0 ≤ σ (b + 1) (a * 6 + 2) ∧ σ (b + 1) (a * 6 + 2) ≤ 900) (hgr : 1 ≤ σ (b + 1) (a * 6 + 4) ∧ σ (b + 1) (a * 6 + 4) ≤ 3) : zm_Met g mX10_saw σ [.ref (g.2.2.1 0), zv_i a] (fun v τ => ∃ h x l1 l2 u' p', v = some (zv_i x) ∧ sw_O σ τ (10 * σ (b + 1) (a * 6 + 2)) (σ (b + 1) (a * 6 + 4)) h x l1 l2 u' p') := by
  refine zm_of (by decide +kernel) (Nat.le_of_ble_eq_true rfl) ?_
  intro k C hr
  show zw_W g mX10_saw k 0 [(0, .ref (g.2.2.1 0)), (1, zv_i a)] [] σ
  refine zr_aload_n (pc := 0) C dX10_saw_0 0 rfl ?_
  refine zr_get (v := .ref (g.2.2.1 1)) (pc := 1) C 0 (some (some 1)) dX10_saw_1 fX10_18 (by decide) (hs_0 _) rfl rfl ?_
  refine zr_get (v := .ref (g.2.2.1 (σ 1 4).toNat)) (pc := 4) C 4 (some none) dX10_saw_4 fX10_88 (by decide) (hs_1 _) rfl rfl ?_
  rw [hb4]
  show zw_W g mX10_saw k 7 [(0, .ref (g.2.2.1 0)), (1, zv_i a)] [.ref (g.2.2.1 (b))] σ
  refine zr_astore_n (L' := [(2, .ref (g.2.2.1 (b))), (0, .ref (g.2.2.1 0)), (1, zv_i a)]) (pc := 7) C dX10_saw_7 (by decide) rfl ?_
  refine zr_iload_n (pc := 8) C dX10_saw_8 2 rfl ?_
  refine zr_iconst (pc := 9) C dX10_saw_9 ?_
  refine zr_aload_n (pc := 10) C dX10_saw_10 0 rfl ?_
  refine zr_get (v := zv_i (σ b 0)) (pc := 11) C 0 none dX10_saw_11 fX10_92 (hn_cut hb) (hs_cut hb) rfl rfl ?_
  refine zr_iconst (pc := 14) C dX10_saw_14 ?_
  refine zr_isub (pc := 15) C dX10_saw_15 ?_
  refine zr_callS (As := [zv_i a, zv_i 0, zv_i ((σ b 0) - 1)]) (rest := []) (pc := 16) C dX10_saw_16 kX10_within sX10_11 rfl (by decide) rfl (Nat.le_of_ble_eq_true rfl) (m_within g σ a 0 ((σ b 0) - 1) (by omega) (by omega) (by omega)) (fun v_ τ_ h_ => ?_)
  obtain ⟨rfl, rfl⟩ := h_
  show zw_W g mX10_saw k 19 [(2, .ref (g.2.2.1 (b))), (0, .ref (g.2.2.1 0)), (1, zv_i a)] [zv_i (zi_b (0 ≤ a ∧ a ≤ ((σ b 0) - 1)))] σ
  refine zr_if_ne_b (pc := 19) C 30 dX10_saw_19 (by decide) (fun h_1 => ?_) (fun h_1 => ?_)
  · refine zr_aload_n (pc := 30) C dX10_saw_30 1 rfl ?_
    refine zr_get (v := .ref (g.2.2.1 26)) (pc := 31) C 3 (some (some 26)) dX10_saw_31 fX10_35 (by decide) (hs_0 _) rfl rfl ?_
    refine zr_aload_n (pc := 34) C dX10_saw_34 0 rfl ?_
    refine zr_iload_n (pc := 35) C dX10_saw_35 2 rfl ?_
    refine zr_iconst (pc := 36) C dX10_saw_36 ?_
    refine zr_callV (As := [zv_i a, zv_i 2]) (rest := [.ref (g.2.2.1 26)]) (b := b) (pc := 37) C dX10_saw_37 kX3_fact vX10_100 rfl (by decide) (hn_cut hb) (hs_cut hb) rfl (Nat.le_of_ble_eq_true rfl) (m_fact g σ b hb a 2 (by omega)) (fun v_ τ_ h_ => ?_)
    obtain ⟨rfl, rfl⟩ := h_
    show zw_W g mX10_saw k 40 [(2, .ref (g.2.2.1 (b))), (0, .ref (g.2.2.1 0)), (1, zv_i a)] [zv_i (σ (b + 1) (a * 6 + 2)), .ref (g.2.2.1 26)] σ
    refine zr_aload_n (pc := 40) C dX10_saw_40 0 rfl ?_
    refine zr_iload_n (pc := 41) C dX10_saw_41 2 rfl ?_
    refine zr_iconst (pc := 42) C dX10_saw_42 ?_
    refine zr_callV (As := [zv_i a, zv_i 4]) (rest := [zv_i (σ (b + 1) (a * 6 + 2)), .ref (g.2.2.1 26)]) (b := b) (pc := 43) C dX10_saw_43 kX3_fact vX10_100 rfl (by decide) (hn_cut hb) (hs_cut hb) rfl (Nat.le_of_ble_eq_true rfl) (m_fact g σ b hb a 4 (by omega)) (fun v_ τ_ h_ => ?_)
    obtain ⟨rfl, rfl⟩ := h_
    show zw_W g mX10_saw k 46 [(2, .ref (g.2.2.1 (b))), (0, .ref (g.2.2.1 0)), (1, zv_i a)] [zv_i (σ (b + 1) (a * 6 + 4)), zv_i (σ (b + 1) (a * 6 + 2)), .ref (g.2.2.1 26)] σ
    refine zr_callV (As := [zv_i (σ (b + 1) (a * 6 + 2)), zv_i (σ (b + 1) (a * 6 + 4))]) (rest := []) (b := 26) (pc := 46) C dX10_saw_46 kX8_sawThrough vX10_129 rfl (by decide) (by decide) (hs_26 _) rfl (Nat.le_of_ble_eq_true rfl) (m_sawThrough g σ p u hp hu hpu (σ (b + 1) (a * 6 + 2)) (σ (b + 1) (a * 6 + 4)) (by omega) (by omega) h6 h7 hI hJ) (fun v_ τ_ h_ => ?_)
    obtain ⟨ht0, x0, l1, l2, u1, p1, rfl, h_2⟩ := h_
    show zw_W g mX10_saw k 49 [(2, .ref (g.2.2.1 (b))), (0, .ref (g.2.2.1 0)), (1, zv_i a)] [zv_i x0] τ_
    exact zr_iret (pc := 49) C hr dX10_saw_49 rfl (⟨ht0, x0, l1, l2, u1, p1, rfl, h_2⟩)
  · exact absurd ha h_1

set_option maxRecDepth 20000 in
set_option maxHeartbeats 4000000 in
theorem s_boards (g : zg_G) (σ : zs_S) (u : Nat) (hu : zs_p u) (h6 : σ 26 6 = u) (hI : pa_I σ u) : zm_Met g mX10_boards σ [.ref (g.2.2.1 0)] (fun v τ => v = some (zv_i (pa_n σ u)) ∧ σ = τ) := by
  refine zm_of (by decide +kernel) (Nat.le_of_ble_eq_true rfl) ?_
  intro k C hr
  show zw_W g mX10_boards k 0 [(0, .ref (g.2.2.1 0))] [] σ
  refine zr_aload_n (pc := 0) C dX10_boards_0 0 rfl ?_
  refine zr_get (v := .ref (g.2.2.1 26)) (pc := 1) C 3 (some (some 26)) dX10_boards_1 fX10_35 (by decide) (hs_0 _) rfl rfl ?_
  refine zr_get (v := .ref (g.2.2.1 (σ 26 6).toNat)) (pc := 4) C 6 (some none) dX10_boards_4 fX10_132 (by decide) (hs_26 _) rfl rfl ?_
  rw [h6]
  show zw_W g mX10_boards k 7 [(0, .ref (g.2.2.1 0))] [.ref (g.2.2.1 (u))] σ
  refine zr_callV (As := []) (rest := []) (b := u) (pc := 7) C dX10_boards_7 kX7_count vX10_136 rfl (by decide) (hn_pat hu) (hs_pat hu) rfl (Nat.le_of_ble_eq_true rfl) (m_count g σ u hu (by exact hI)) (fun v_ τ_ h_ => ?_)
  obtain ⟨rfl, rfl⟩ := h_
  show zw_W g mX10_boards k 10 [(0, .ref (g.2.2.1 0))] [zv_i (pa_n σ u)] σ
  exact zr_iret (pc := 10) C hr dX10_boards_10 rfl (⟨rfl, rfl⟩)

set_option maxRecDepth 20000 in
set_option maxHeartbeats 4000000 in
theorem s_board (g : zg_G) (σ : zs_S) (a c : Int) (har : zi_r a) (hcr : zi_r c) (u : Nat) (hu : zs_p u) (h6 : σ 26 6 = u) (hI : pa_I σ u) (hn : 0 ≤ pa_n σ u ∧ pa_n σ u ≤ 360) (ha : (0 ≤ a ∧ a ≤ pa_n σ u - 1) ∧ (0 ≤ c ∧ c ≤ 3)) : zm_Met g mX10_board σ [.ref (g.2.2.1 0), zv_i a, zv_i c] (fun v τ => v = some (zv_i (pa_F σ u a c)) ∧ σ = τ) := by
  refine zm_of (by decide +kernel) (Nat.le_of_ble_eq_true rfl) ?_
  intro k C hr
  show zw_W g mX10_board k 0 [(0, .ref (g.2.2.1 0)), (1, zv_i a), (2, zv_i c)] [] σ
  refine zr_aload_n (pc := 0) C dX10_board_0 0 rfl ?_
  refine zr_get (v := .ref (g.2.2.1 26)) (pc := 1) C 3 (some (some 26)) dX10_board_1 fX10_35 (by decide) (hs_0 _) rfl rfl ?_
  refine zr_get (v := .ref (g.2.2.1 (σ 26 6).toNat)) (pc := 4) C 6 (some none) dX10_board_4 fX10_132 (by decide) (hs_26 _) rfl rfl ?_
  rw [h6]
  show zw_W g mX10_board k 7 [(0, .ref (g.2.2.1 0)), (1, zv_i a), (2, zv_i c)] [.ref (g.2.2.1 (u))] σ
  refine zr_astore_n (L' := [(3, .ref (g.2.2.1 (u))), (0, .ref (g.2.2.1 0)), (1, zv_i a), (2, zv_i c)]) (pc := 7) C dX10_board_7 (by decide) rfl ?_
  refine zr_iload_n (pc := 8) C dX10_board_8 2 rfl ?_
  refine zr_iconst (pc := 9) C dX10_board_9 ?_
  refine zr_aload_n (pc := 10) C dX10_board_10 0 rfl ?_
  refine zr_callV (As := []) (rest := [zv_i 0, zv_i a]) (b := u) (pc := 11) C dX10_board_11 kX7_count vX10_136 rfl (by decide) (hn_pat hu) (hs_pat hu) rfl (Nat.le_of_ble_eq_true rfl) (m_count g σ u hu (by exact hI)) (fun v_ τ_ h_ => ?_)
  obtain ⟨rfl, rfl⟩ := h_
  show zw_W g mX10_board k 14 [(3, .ref (g.2.2.1 (u))), (0, .ref (g.2.2.1 0)), (1, zv_i a), (2, zv_i c)] [zv_i (pa_n σ u), zv_i 0, zv_i a] σ
  refine zr_iconst (pc := 14) C dX10_board_14 ?_
  refine zr_isub (pc := 15) C dX10_board_15 ?_
  refine zr_callS (As := [zv_i a, zv_i 0, zv_i ((pa_n σ u) - 1)]) (rest := []) (pc := 16) C dX10_board_16 kX10_within sX10_11 rfl (by decide) rfl (Nat.le_of_ble_eq_true rfl) (m_within g σ a 0 ((pa_n σ u) - 1) (by omega) (by omega) (by omega)) (fun v_ τ_ h_ => ?_)
  obtain ⟨rfl, rfl⟩ := h_
  show zw_W g mX10_board k 19 [(3, .ref (g.2.2.1 (u))), (0, .ref (g.2.2.1 0)), (1, zv_i a), (2, zv_i c)] [zv_i (zi_b (0 ≤ a ∧ a ≤ ((pa_n σ u) - 1)))] σ
  refine zr_if_eq_b (pc := 19) C 31 dX10_board_19 (by decide) (fun h_1 => ?_) (fun h_1 => ?_)
  · exact absurd ha.1 h_1
  · refine zr_iload_n (pc := 22) C dX10_board_22 3 rfl ?_
    refine zr_iconst (pc := 23) C dX10_board_23 ?_
    refine zr_iconst (pc := 24) C dX10_board_24 ?_
    refine zr_callS (As := [zv_i c, zv_i 0, zv_i 3]) (rest := []) (pc := 25) C dX10_board_25 kX10_within sX10_11 rfl (by decide) rfl (Nat.le_of_ble_eq_true rfl) (m_within g σ c 0 3 (by omega) (by omega) (by omega)) (fun v_ τ_ h_ => ?_)
    obtain ⟨rfl, rfl⟩ := h_
    show zw_W g mX10_board k 28 [(3, .ref (g.2.2.1 (u))), (0, .ref (g.2.2.1 0)), (1, zv_i a), (2, zv_i c)] [zv_i (zi_b (0 ≤ c ∧ c ≤ 3))] σ
    refine zr_if_ne_b (pc := 28) C 39 dX10_board_28 (by decide) (fun h_2 => ?_) (fun h_2 => ?_)
    · refine zr_aload_n (pc := 39) C dX10_board_39 0 rfl ?_
      refine zr_iload_n (pc := 40) C dX10_board_40 2 rfl ?_
      refine zr_iload_n (pc := 41) C dX10_board_41 3 rfl ?_
      refine zr_callV (As := [zv_i a, zv_i c]) (rest := []) (b := u) (pc := 42) C dX10_board_42 kX7_fact vX10_140 rfl (by decide) (hn_pat hu) (hs_pat hu) rfl (Nat.le_of_ble_eq_true rfl) (m_pfact g σ u hu a c (by omega) hI (by omega)) (fun v_ τ_ h_ => ?_)
      obtain ⟨rfl, rfl⟩ := h_
      show zw_W g mX10_board k 45 [(3, .ref (g.2.2.1 (u))), (0, .ref (g.2.2.1 0)), (1, zv_i a), (2, zv_i c)] [zv_i (pa_F σ u a c)] σ
      exact zr_iret (pc := 45) C hr dX10_board_45 rfl (⟨rfl, rfl⟩)
    · exact absurd ha.2 h_2

set_option maxRecDepth 20000 in
set_option maxHeartbeats 4000000 in
theorem s_cant (g : zg_G) (σ : zs_S) (u : Nat) (hu : zs_p u) (h6 : σ 26 6 = u) : zm_Met g mX10_cant σ [.ref (g.2.2.1 0)] (fun v τ => v = some (zv_i (σ u 0)) ∧ σ = τ) := by
  refine zm_of (by decide +kernel) (Nat.le_of_ble_eq_true rfl) ?_
  intro k C hr
  show zw_W g mX10_cant k 0 [(0, .ref (g.2.2.1 0))] [] σ
  refine zr_aload_n (pc := 0) C dX10_cant_0 0 rfl ?_
  refine zr_get (v := .ref (g.2.2.1 26)) (pc := 1) C 3 (some (some 26)) dX10_cant_1 fX10_35 (by decide) (hs_0 _) rfl rfl ?_
  refine zr_get (v := .ref (g.2.2.1 (σ 26 6).toNat)) (pc := 4) C 6 (some none) dX10_cant_4 fX10_132 (by decide) (hs_26 _) rfl rfl ?_
  rw [h6]
  show zw_W g mX10_cant k 7 [(0, .ref (g.2.2.1 0))] [.ref (g.2.2.1 (u))] σ
  refine zr_get (v := zv_i (σ u 0)) (pc := 7) C 0 none dX10_cant_7 fX10_141 (hn_pat hu) (hs_pat hu) rfl rfl ?_
  exact zr_iret (pc := 10) C hr dX10_cant_10 rfl (⟨rfl, rfl⟩)

set_option maxRecDepth 20000 in
set_option maxHeartbeats 4000000 in
theorem s_fits (g : zg_G) (σ : zs_S) (a b c : Int) (har : zi_r a) (hbr : zi_r b) (hcr : zi_r c) (hI : sw_I σ) : zm_Met g mX10_fits σ [.ref (g.2.2.1 0), zv_i a, zv_i b, zv_i c] (fun v τ => v = some (zv_i (zi_b ((((0 ≤ a ∧ a ≤ 5) ∧ 0 < σ (28 + 2 * a.toNat) 0) ∧ (1 ≤ b ∧ b ≤ 200) ∧ (50 ≤ c ∧ c ≤ 900)) ∧ b * σ (28 + 2 * a.toNat) 0 + (b - 1) * σ 26 3 ≤ ro_m (10 * c) (σ (28 + 2 * a.toNat) 1)))) ∧ σ = τ) := by
  refine zm_of (by decide +kernel) (Nat.le_of_ble_eq_true rfl) ?_
  intro k C hr
  show zw_W g mX10_fits k 0 [(0, .ref (g.2.2.1 0)), (1, zv_i a), (2, zv_i b), (3, zv_i c)] [] σ
  refine zr_aload_n (pc := 0) C dX10_fits_0 0 rfl ?_
  refine zr_iload_n (pc := 1) C dX10_fits_1 1 rfl ?_
  refine zr_callV (As := [zv_i a]) (rest := []) (b := 0) (pc := 2) C dX10_fits_2 kX10_isToldSize vX10_106 rfl (by decide) (by decide) (hs_0 _) rfl (Nat.le_of_ble_eq_true rfl) (s_told g σ a (by omega) hI) (fun v_ τ_ h_ => ?_)
  obtain ⟨rfl, rfl⟩ := h_
  show zw_W g mX10_fits k 5 [(0, .ref (g.2.2.1 0)), (1, zv_i a), (2, zv_i b), (3, zv_i c)] [zv_i (zi_b ((0 ≤ a ∧ a ≤ 5) ∧ 0 < σ (28 + 2 * a.toNat) 0))] σ
  refine zr_if_eq_b (pc := 5) C 31 dX10_fits_5 (by decide) (fun h_1 => ?_) (fun h_1 => ?_)
  · refine zr_iconst (pc := 31) C dX10_fits_31 ?_
    exact zr_zret (pc := 32) C hr dX10_fits_32 rfl (by decide) (⟨zq_0 (by omega), rfl⟩)
  · refine zr_iload_n (pc := 8) C dX10_fits_8 2 rfl ?_
    refine zr_iconst (pc := 9) C dX10_fits_9 ?_
    refine zr_sipush (pc := 10) C dX10_fits_10 (by decide) ?_
    refine zr_callS (As := [zv_i b, zv_i 1, zv_i 200]) (rest := []) (pc := 13) C dX10_fits_13 kX10_within sX10_11 rfl (by decide) rfl (Nat.le_of_ble_eq_true rfl) (m_within g σ b 1 200 (by omega) (by omega) (by omega)) (fun v_ τ_ h_ => ?_)
    obtain ⟨rfl, rfl⟩ := h_
    show zw_W g mX10_fits k 16 [(0, .ref (g.2.2.1 0)), (1, zv_i a), (2, zv_i b), (3, zv_i c)] [zv_i (zi_b (1 ≤ b ∧ b ≤ 200))] σ
    refine zr_if_eq_b (pc := 16) C 31 dX10_fits_16 (by decide) (fun h_2 => ?_) (fun h_2 => ?_)
    · refine zr_iconst (pc := 31) C dX10_fits_31 ?_
      exact zr_zret (pc := 32) C hr dX10_fits_32 rfl (by decide) (⟨zq_0 (by omega), rfl⟩)
    · refine zr_iload_n (pc := 19) C dX10_fits_19 3 rfl ?_
      refine zr_bipush (pc := 20) C dX10_fits_20 (by decide) ?_
      refine zr_sipush (pc := 22) C dX10_fits_22 (by decide) ?_
      refine zr_callS (As := [zv_i c, zv_i 50, zv_i 900]) (rest := []) (pc := 25) C dX10_fits_25 kX10_within sX10_11 rfl (by decide) rfl (Nat.le_of_ble_eq_true rfl) (m_within g σ c 50 900 (by omega) (by omega) (by omega)) (fun v_ τ_ h_ => ?_)
      obtain ⟨rfl, rfl⟩ := h_
      show zw_W g mX10_fits k 28 [(0, .ref (g.2.2.1 0)), (1, zv_i a), (2, zv_i b), (3, zv_i c)] [zv_i (zi_b (50 ≤ c ∧ c ≤ 900))] σ
      refine zr_if_ne_b (pc := 28) C 33 dX10_fits_28 (by decide) (fun h_3 => ?_) (fun h_3 => ?_)
      · have kb := hI.1 a (by omega) (by omega)
        have g1 := hI.2.1
        have m1 : 0 ≤ b * σ (28 + 2 * a.toNat) 0 := Int.mul_nonneg (by omega) (by omega)
        have m2 : b * σ (28 + 2 * a.toNat) 0 ≤ 200 * 4000 := Int.mul_le_mul (by omega) (by omega) (by omega) (by decide)
        have m3 : 0 ≤ (b - 1) * σ 26 3 := Int.mul_nonneg (by omega) (by omega)
        have m4 : (b - 1) * σ 26 3 ≤ 199 * 100 := Int.mul_le_mul (by omega) (by omega) (by omega) (by decide)
        have rb := ro_mb (a := 10 * c) (b := σ (28 + 2 * a.toNat) 1) (by omega) (by omega)
        refine zr_aload_n (pc := 33) C dX10_fits_33 0 rfl ?_
        refine zr_get (v := .ref (g.2.2.1 27)) (pc := 34) C 4 (some (some 27)) dX10_fits_34 fX10_43 (by decide) (hs_0 _) rfl rfl ?_
        refine zr_iload_n (pc := 37) C dX10_fits_37 1 rfl ?_
        refine zr_aaload (pc := 38) C dX10_fits_38 (by decide) (hs_27 _) (by decide) (by omega) (by decide) ?_
        show zw_W g mX10_fits k 39 [(0, .ref (g.2.2.1 0)), (1, zv_i a), (2, zv_i b), (3, zv_i c)] [.ref (g.2.2.1 (28 + 2 * a.toNat))] σ
        refine zr_astore (L' := [(4, .ref (g.2.2.1 (28 + 2 * a.toNat))), (0, .ref (g.2.2.1 0)), (1, zv_i a), (2, zv_i b), (3, zv_i c)]) (pc := 39) C dX10_fits_39 (by decide) rfl ?_
        refine zr_iload_n (pc := 41) C dX10_fits_41 3 rfl ?_
        refine zr_aload (pc := 42) C dX10_fits_42 0 rfl ?_
        refine zr_get (v := zv_i (σ (28 + 2 * a.toNat) 0)) (pc := 44) C 0 none dX10_fits_44 fX10_144 (hn_size (by omega)) (hs_size (by omega)) rfl rfl ?_
        refine zr_imul (pc := 47) C dX10_fits_47 ?_
        refine zr_iload_n (pc := 48) C dX10_fits_48 3 rfl ?_
        refine zr_iconst (pc := 49) C dX10_fits_49 ?_
        refine zr_isub (pc := 50) C dX10_fits_50 ?_
        refine zr_aload_n (pc := 51) C dX10_fits_51 1 rfl ?_
        refine zr_get (v := .ref (g.2.2.1 26)) (pc := 52) C 3 (some (some 26)) dX10_fits_52 fX10_35 (by decide) (hs_0 _) rfl rfl ?_
        refine zr_get (v := zv_i (σ 26 3)) (pc := 55) C 3 none dX10_fits_55 fX10_114 (by decide) (hs_26 _) rfl rfl ?_
        refine zr_imul (pc := 58) C dX10_fits_58 ?_
        refine zr_iadd (pc := 59) C dX10_fits_59 ?_
        refine zr_istore (L' := [(5, zv_i ((b * (σ (28 + 2 * a.toNat) 0)) + ((b - 1) * (σ 26 3)))), (4, .ref (g.2.2.1 (28 + 2 * a.toNat))), (0, .ref (g.2.2.1 0)), (1, zv_i a), (2, zv_i b), (3, zv_i c)]) (pc := 60) C dX10_fits_60 (by decide) rfl ?_
        refine zr_iload (pc := 62) C dX10_fits_62 0 rfl ?_
        refine zr_bipush (pc := 64) C dX10_fits_64 (by decide) ?_
        refine zr_iload_n (pc := 66) C dX10_fits_66 5 rfl ?_
        refine zr_imul (pc := 67) C dX10_fits_67 ?_
        refine zr_aload (pc := 68) C dX10_fits_68 1 rfl ?_
        refine zr_get (v := zv_i (σ (28 + 2 * a.toNat) 1)) (pc := 70) C 1 none dX10_fits_70 fX10_147 (hn_size (by omega)) (hs_size (by omega)) rfl rfl ?_
        refine zr_callS (As := [zv_i (10 * c), zv_i (σ (28 + 2 * a.toNat) 1)]) (rest := [zv_i ((b * (σ (28 + 2 * a.toNat) 0)) + ((b - 1) * (σ 26 3)))]) (pc := 73) C dX10_fits_73 kX10_room sX10_150 rfl (by decide) rfl (Nat.le_of_ble_eq_true rfl) (m_room g σ (10 * c) (σ (28 + 2 * a.toNat) 1) (by omega) (by omega)) (fun v_ τ_ h_ => ?_)
        obtain ⟨rfl, rfl⟩ := h_
        show zw_W g mX10_fits k 76 [(5, zv_i ((b * (σ (28 + 2 * a.toNat) 0)) + ((b - 1) * (σ 26 3)))), (4, .ref (g.2.2.1 (28 + 2 * a.toNat))), (0, .ref (g.2.2.1 0)), (1, zv_i a), (2, zv_i b), (3, zv_i c)] [zv_i (ro_m (10 * c) (σ (28 + 2 * a.toNat) 1)), zv_i ((b * (σ (28 + 2 * a.toNat) 0)) + ((b - 1) * (σ 26 3)))] σ
        refine zr_icmp_gt (pc := 76) C 83 dX10_fits_76 (by decide) (by omega) (by omega) (fun h_4 => ?_) (fun h_4 => ?_)
        · refine zr_iconst (pc := 83) C dX10_fits_83 ?_
          exact zr_zret (pc := 84) C hr dX10_fits_84 rfl (by decide) (⟨zq_0 (by omega), rfl⟩)
        · refine zr_iconst (pc := 79) C dX10_fits_79 ?_
          refine zr_goto (pc := 80) C 84 dX10_fits_80 (by decide) ?_
          exact zr_zret (pc := 84) C hr dX10_fits_84 rfl (by decide) (⟨zq_1 (by omega), rfl⟩)
      · refine zr_iconst (pc := 31) C dX10_fits_31 ?_
        exact zr_zret (pc := 32) C hr dX10_fits_32 rfl (by decide) (⟨zq_0 (by omega), rfl⟩)
end

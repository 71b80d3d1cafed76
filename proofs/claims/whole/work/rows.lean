section
-- ===== PART A: goes FIRST, ahead of the names: the tables' words, and 'selects' of the private methods out of them =====
/-- a private method of a class that the tables say can be made, by its rows of tables_1 -/
def lw_okq (q : MethodName × Nat) : Prop := (q.1.cls ≠ "java/lang/invoke/MethodHandle" ∧ q.1.cls ≠ "java/lang/invoke/VarHandle") ∧ Cond.instantiable q.1.cls q.2 ∈ tables_1 ∧ Cond.privateMethod q.1 ∈ tables_1 ∧ Cond.instanceMethod q.1 ∈ tables_1
theorem lw_p0 : lw_okq (⟨"SaltPlant", "letFlow", "()V"⟩, 11) := ⟨⟨by decide +kernel, by decide +kernel⟩, List.mem_of_getElem? (i := 12) (by decide +kernel), List.mem_of_getElem? (i := 255) (by decide +kernel), List.mem_of_getElem? (i := 256) (by decide +kernel)⟩
theorem lw_p1 : lw_okq (⟨"SaltPlant$Flows", "runStage", "(III)V"⟩, 13) := ⟨⟨by decide +kernel, by decide +kernel⟩, List.mem_of_getElem? (i := 52) (by decide +kernel), List.mem_of_getElem? (i := 270) (by decide +kernel), List.mem_of_getElem? (i := 271) (by decide +kernel)⟩
theorem lw_p2 : lw_okq (⟨"SaltPlant$Flows", "runVessel", "(IIJJ)V"⟩, 13) := ⟨⟨by decide +kernel, by decide +kernel⟩, List.mem_of_getElem? (i := 52) (by decide +kernel), List.mem_of_getElem? (i := 277) (by decide +kernel), List.mem_of_getElem? (i := 278) (by decide +kernel)⟩
theorem lw_p3 : lw_okq (⟨"SaltPlant", "powerAt", "(I)J"⟩, 11) := ⟨⟨by decide +kernel, by decide +kernel⟩, List.mem_of_getElem? (i := 12) (by decide +kernel), List.mem_of_getElem? (i := 303) (by decide +kernel), List.mem_of_getElem? (i := 304) (by decide +kernel)⟩
theorem lw_p4 : lw_okq (⟨"SaltPlant", "passDay", "()V"⟩, 11) := ⟨⟨by decide +kernel, by decide +kernel⟩, List.mem_of_getElem? (i := 12) (by decide +kernel), List.mem_of_getElem? (i := 334) (by decide +kernel), List.mem_of_getElem? (i := 335) (by decide +kernel)⟩
theorem lw_p5 : lw_okq (⟨"SaltPlant", "isPair", "(II)Z"⟩, 11) := ⟨⟨by decide +kernel, by decide +kernel⟩, List.mem_of_getElem? (i := 12) (by decide +kernel), List.mem_of_getElem? (i := 361) (by decide +kernel), List.mem_of_getElem? (i := 362) (by decide +kernel)⟩
theorem lw_p6 : lw_okq (⟨"SaltPlant", "sweetWaterIfChanged", "(II)J"⟩, 11) := ⟨⟨by decide +kernel, by decide +kernel⟩, List.mem_of_getElem? (i := 12) (by decide +kernel), List.mem_of_getElem? (i := 369) (by decide +kernel), List.mem_of_getElem? (i := 370) (by decide +kernel)⟩
theorem lw_p7 : lw_okq (⟨"SaltPlant", "suits", "(II)Z"⟩, 11) := ⟨⟨by decide +kernel, by decide +kernel⟩, List.mem_of_getElem? (i := 12) (by decide +kernel), List.mem_of_getElem? (i := 388) (by decide +kernel), List.mem_of_getElem? (i := 389) (by decide +kernel)⟩
theorem lw_p8 : lw_okq (⟨"SaltPlant$Hours", "laterAt", "(I)I"⟩, 4) := ⟨⟨by decide +kernel, by decide +kernel⟩, List.mem_of_getElem? (i := 110) (by decide +kernel), List.mem_of_getElem? (i := 439) (by decide +kernel), List.mem_of_getElem? (i := 440) (by decide +kernel)⟩
theorem lw_p9 : lw_okq (⟨"SaltPlantModel", "pass", "(I)I"⟩, 27) := ⟨⟨by decide +kernel, by decide +kernel⟩, List.mem_of_getElem? (i := 507) (by decide +kernel), List.mem_of_getElem? (i := 618) (by decide +kernel), List.mem_of_getElem? (i := 619) (by decide +kernel)⟩
theorem lw_p10 : lw_okq (⟨"SaltPlantModel", "leak", "(I)I"⟩, 27) := ⟨⟨by decide +kernel, by decide +kernel⟩, List.mem_of_getElem? (i := 507) (by decide +kernel), List.mem_of_getElem? (i := 622) (by decide +kernel), List.mem_of_getElem? (i := 623) (by decide +kernel)⟩
theorem lw_p11 : lw_okq (⟨"SaltPlantModel", "exchange", "(II)V"⟩, 27) := ⟨⟨by decide +kernel, by decide +kernel⟩, List.mem_of_getElem? (i := 507) (by decide +kernel), List.mem_of_getElem? (i := 639) (by decide +kernel), List.mem_of_getElem? (i := 640) (by decide +kernel)⟩
theorem lw_p12 : lw_okq (⟨"SaltPlantModel", "isThere", "(I)Z"⟩, 27) := ⟨⟨by decide +kernel, by decide +kernel⟩, List.mem_of_getElem? (i := 507) (by decide +kernel), List.mem_of_getElem? (i := 647) (by decide +kernel), List.mem_of_getElem? (i := 648) (by decide +kernel)⟩
theorem lw_p13 : lw_okq (⟨"SaltPlantModel", "isStage", "(I)Z"⟩, 27) := ⟨⟨by decide +kernel, by decide +kernel⟩, List.mem_of_getElem? (i := 507) (by decide +kernel), List.mem_of_getElem? (i := 651) (by decide +kernel), List.mem_of_getElem? (i := 652) (by decide +kernel)⟩
theorem lw_p14 : lw_okq (⟨"SaltPlantModel", "flowNow", "()V"⟩, 27) := ⟨⟨by decide +kernel, by decide +kernel⟩, List.mem_of_getElem? (i := 507) (by decide +kernel), List.mem_of_getElem? (i := 656) (by decide +kernel), List.mem_of_getElem? (i := 657) (by decide +kernel)⟩
theorem lw_p15 : lw_okq (⟨"SaltPlantModel", "flowAt", "(I)V"⟩, 27) := ⟨⟨by decide +kernel, by decide +kernel⟩, List.mem_of_getElem? (i := 507) (by decide +kernel), List.mem_of_getElem? (i := 660) (by decide +kernel), List.mem_of_getElem? (i := 661) (by decide +kernel)⟩
def lw_privs_1 : List (MethodName × Nat) := [(⟨"SaltPlant", "letFlow", "()V"⟩, 11), (⟨"SaltPlant$Flows", "runStage", "(III)V"⟩, 13), (⟨"SaltPlant$Flows", "runVessel", "(IIJJ)V"⟩, 13), (⟨"SaltPlant", "powerAt", "(I)J"⟩, 11), (⟨"SaltPlant", "passDay", "()V"⟩, 11), (⟨"SaltPlant", "isPair", "(II)Z"⟩, 11), (⟨"SaltPlant", "sweetWaterIfChanged", "(II)J"⟩, 11), (⟨"SaltPlant", "suits", "(II)Z"⟩, 11), (⟨"SaltPlant$Hours", "laterAt", "(I)I"⟩, 4), (⟨"SaltPlantModel", "pass", "(I)I"⟩, 27), (⟨"SaltPlantModel", "leak", "(I)I"⟩, 27), (⟨"SaltPlantModel", "exchange", "(II)V"⟩, 27), (⟨"SaltPlantModel", "isThere", "(I)Z"⟩, 27), (⟨"SaltPlantModel", "isStage", "(I)Z"⟩, 27), (⟨"SaltPlantModel", "flowNow", "()V"⟩, 27), (⟨"SaltPlantModel", "flowAt", "(I)V"⟩, 27)]
theorem lw_r1 : ∀ q ∈ lw_privs_1, lw_okq q := List.forall_mem_cons.mpr ⟨lw_p0, List.forall_mem_cons.mpr ⟨lw_p1, List.forall_mem_cons.mpr ⟨lw_p2, List.forall_mem_cons.mpr ⟨lw_p3, List.forall_mem_cons.mpr ⟨lw_p4, List.forall_mem_cons.mpr ⟨lw_p5, List.forall_mem_cons.mpr ⟨lw_p6, List.forall_mem_cons.mpr ⟨lw_p7, List.forall_mem_cons.mpr ⟨lw_p8, List.forall_mem_cons.mpr ⟨lw_p9, List.forall_mem_cons.mpr ⟨lw_p10, List.forall_mem_cons.mpr ⟨lw_p11, List.forall_mem_cons.mpr ⟨lw_p12, List.forall_mem_cons.mpr ⟨lw_p13, List.forall_mem_cons.mpr ⟨lw_p14, List.forall_mem_cons.mpr ⟨lw_p15, fun _ h => absurd h List.not_mem_nil⟩⟩⟩⟩⟩⟩⟩⟩⟩⟩⟩⟩⟩⟩⟩⟩
theorem lw_p16 : lw_okq (⟨"SaltPlantModel", "vessel", "(IIJJJ)V"⟩, 27) := ⟨⟨by decide +kernel, by decide +kernel⟩, List.mem_of_getElem? (i := 507) (by decide +kernel), List.mem_of_getElem? (i := 667) (by decide +kernel), List.mem_of_getElem? (i := 668) (by decide +kernel)⟩
theorem lw_p17 : lw_okq (⟨"SaltPlantModel", "skin", "(IJJJ)V"⟩, 27) := ⟨⟨by decide +kernel, by decide +kernel⟩, List.mem_of_getElem? (i := 507) (by decide +kernel), List.mem_of_getElem? (i := 671) (by decide +kernel), List.mem_of_getElem? (i := 672) (by decide +kernel)⟩
theorem lw_p18 : lw_okq (⟨"SaltPlantModel", "powerAt", "(I)J"⟩, 27) := ⟨⟨by decide +kernel, by decide +kernel⟩, List.mem_of_getElem? (i := 507) (by decide +kernel), List.mem_of_getElem? (i := 690) (by decide +kernel), List.mem_of_getElem? (i := 691) (by decide +kernel)⟩
theorem lw_p19 : lw_okq (⟨"SaltPlantModel", "failing", "()I"⟩, 27) := ⟨⟨by decide +kernel, by decide +kernel⟩, List.mem_of_getElem? (i := 507) (by decide +kernel), List.mem_of_getElem? (i := 698) (by decide +kernel), List.mem_of_getElem? (i := 699) (by decide +kernel)⟩
theorem lw_p20 : lw_okq (⟨"SaltPlantModel", "day", "()V"⟩, 27) := ⟨⟨by decide +kernel, by decide +kernel⟩, List.mem_of_getElem? (i := 507) (by decide +kernel), List.mem_of_getElem? (i := 714) (by decide +kernel), List.mem_of_getElem? (i := 715) (by decide +kernel)⟩
theorem lw_p21 : lw_okq (⟨"SaltPlantModel", "isContent", "(I)Z"⟩, 27) := ⟨⟨by decide +kernel, by decide +kernel⟩, List.mem_of_getElem? (i := 507) (by decide +kernel), List.mem_of_getElem? (i := 750) (by decide +kernel), List.mem_of_getElem? (i := 751) (by decide +kernel)⟩
theorem lw_p22 : lw_okq (⟨"SaltPlantModel", "findPlan", "()V"⟩, 27) := ⟨⟨by decide +kernel, by decide +kernel⟩, List.mem_of_getElem? (i := 507) (by decide +kernel), List.mem_of_getElem? (i := 754) (by decide +kernel), List.mem_of_getElem? (i := 755) (by decide +kernel)⟩
theorem lw_p23 : lw_okq (⟨"SaltPlantModel", "costFrom", "(IIZ)I"⟩, 27) := ⟨⟨by decide +kernel, by decide +kernel⟩, List.mem_of_getElem? (i := 507) (by decide +kernel), List.mem_of_getElem? (i := 758) (by decide +kernel), List.mem_of_getElem? (i := 759) (by decide +kernel)⟩
theorem lw_p24 : lw_okq (⟨"SaltPlantModel", "behind", "(IIZ)I"⟩, 27) := ⟨⟨by decide +kernel, by decide +kernel⟩, List.mem_of_getElem? (i := 507) (by decide +kernel), List.mem_of_getElem? (i := 762) (by decide +kernel), List.mem_of_getElem? (i := 763) (by decide +kernel)⟩
theorem lw_p25 : lw_okq (⟨"SaltPlantModel", "go", "(I)I"⟩, 27) := ⟨⟨by decide +kernel, by decide +kernel⟩, List.mem_of_getElem? (i := 507) (by decide +kernel), List.mem_of_getElem? (i := 770) (by decide +kernel), List.mem_of_getElem? (i := 771) (by decide +kernel)⟩
def lw_privs_2 : List (MethodName × Nat) := [(⟨"SaltPlantModel", "vessel", "(IIJJJ)V"⟩, 27), (⟨"SaltPlantModel", "skin", "(IJJJ)V"⟩, 27), (⟨"SaltPlantModel", "powerAt", "(I)J"⟩, 27), (⟨"SaltPlantModel", "failing", "()I"⟩, 27), (⟨"SaltPlantModel", "day", "()V"⟩, 27), (⟨"SaltPlantModel", "isContent", "(I)Z"⟩, 27), (⟨"SaltPlantModel", "findPlan", "()V"⟩, 27), (⟨"SaltPlantModel", "costFrom", "(IIZ)I"⟩, 27), (⟨"SaltPlantModel", "behind", "(IIZ)I"⟩, 27), (⟨"SaltPlantModel", "go", "(I)I"⟩, 27)]
theorem lw_r2 : ∀ q ∈ lw_privs_2, lw_okq q := List.forall_mem_cons.mpr ⟨lw_p16, List.forall_mem_cons.mpr ⟨lw_p17, List.forall_mem_cons.mpr ⟨lw_p18, List.forall_mem_cons.mpr ⟨lw_p19, List.forall_mem_cons.mpr ⟨lw_p20, List.forall_mem_cons.mpr ⟨lw_p21, List.forall_mem_cons.mpr ⟨lw_p22, List.forall_mem_cons.mpr ⟨lw_p23, List.forall_mem_cons.mpr ⟨lw_p24, List.forall_mem_cons.mpr ⟨lw_p25, fun _ h => absurd h List.not_mem_nil⟩⟩⟩⟩⟩⟩⟩⟩⟩⟩
def lw_privs : List (MethodName × Nat) := lw_privs_1 ++ (lw_privs_2)
def lw_tbl : List Cond := k2_sels lw_privs ++ tables_1
theorem lw_privs_ok : ∀ q ∈ lw_privs, lw_okq q := by
  show ∀ q ∈ lw_privs_1 ++ (lw_privs_2), lw_okq q
  exact List.forall_mem_append.mpr ⟨lw_r1, lw_r2⟩
end
section
/-! ===== BEGIN words of one list among another's, by their places ===== -/
theorem goodIn_r {big : List Cond} (ws : List Cond) (ps : List Nat) (hp : ws = ps.filterMap (fun i => big[i]?)) (h : ws.all goodWord = true) : GoodIn big ws := by
  intro w hw
  have h1 := List.all_eq_true.mp h w hw
  rw [hp] at hw
  obtain ⟨i, -, hi⟩ := List.mem_filterMap.mp hw
  have hm : w ∈ big := by first | exact List.mem_of_getElem? hi | exact List.getElem?_mem hi
  exact ⟨hm, good_of_word h1⟩
theorem goodIn_app {big a b : List Cond} (ha : GoodIn big a) (hb : GoodIn big b) : GoodIn big (a ++ b) := fun w h => (List.mem_append.mp h).elim (ha w) (hb w)
theorem goodIn_ca {big a b : List Cond} {c : Cond} (ha : GoodIn big (c :: a)) (hb : GoodIn big b) : GoodIn big (c :: (a ++ b)) := fun w h => (List.mem_cons.mp h).elim (fun e => ha w (List.mem_cons.mpr (Or.inl e))) (fun h => (List.mem_append.mp h).elim (fun h => ha w (List.mem_cons.mpr (Or.inr h))) (hb w))
theorem goodIn_sub {big ws : List Cond} (hm : ∀ w ∈ ws, w ∈ big) (h : ws.all goodWord = true) : GoodIn big ws := fun w hw => ⟨hm w hw, good_of_word (List.all_eq_true.mp h w hw)⟩
/-! ===== END ===== -/

def RX0 : String := "SaltPlant$Flows"
def TX0 : u_T := fun k => match k with
  | 0 => ("SaltPlant$Flows", "pass", "[I", true)
  | 1 => ("SaltPlant$Flows", "leak", "[I", true)
  | 2 => ("SaltPlant$Flows", "water", "[J", true)
  | 3 => ("SaltPlant$Flows", "grains", "[J", true)
  | 4 => ("SaltPlant$Flows", "pressure", "[J", true)
  | 5 => ("SaltPlant$Flows", "through", "[J", true)
  | 6 => ("SaltPlant$Flows", "throughSalt", "[J", true)
  | 7 => ("SaltPlant$Flows", "throughGrains", "[J", true)
  | 8 => ("SaltPlant$Flows", "stayWater", "J", false)
  | 9 => ("SaltPlant$Flows", "stayGrains", "J", false)
  | 10 => ("SaltPlant$Flows", "stayPressure", "J", false)
  | 11 => ("SaltPlant$Flows", "sweetWater", "J", false)
  | _ => ("SaltPlant$Flows", "sweetGrains", "J", false)
def tyX0 : Nat → FieldType := fun k => match k with
  | 0 => .array .int
  | 1 => .array .int
  | 2 => .array .long
  | 3 => .array .long
  | 4 => .array .long
  | 5 => .array .long
  | 6 => .array .long
  | 7 => .array .long
  | 8 => .long
  | 9 => .long
  | 10 => .long
  | 11 => .long
  | _ => .long
abbrev wsX00 : List Cond := u_ws RX0 TX0 13
theorem nmX0 : ∀ a, a < 13 → ∀ b, b < 13 → a ≠ b → (TX0 a).2.1 ≠ (TX0 b).2.1 := by decide +kernel
theorem tyX0_ok : ∀ k, k < 13 → parseFieldDescriptor (TX0 k).2.2.1 = some (tyX0 k) := by decide +kernel
abbrev cX0_init : ByteArray := prog_2_method_1_code
def yX0_init : MethodName := ⟨RX0, "<init>", "()V"⟩
abbrev cX0_saltOf : ByteArray := prog_2_method_2_code
def yX0_saltOf : MethodName := ⟨RX0, "saltOf", "(JJ)J"⟩
abbrev cX0_take : ByteArray := prog_2_method_3_code
def yX0_take : MethodName := ⟨RX0, "take", "(LSaltPlant$Skins;)V"⟩
abbrev cX0_areAlike : ByteArray := prog_2_method_4_code
def yX0_areAlike : MethodName := ⟨RX0, "areAlike", "(II)Z"⟩
abbrev cX0_exchange : ByteArray := prog_2_method_5_code
def yX0_exchange : MethodName := ⟨RX0, "exchange", "(II)V"⟩
abbrev cX0_run : ByteArray := prog_2_method_6_code
def yX0_run : MethodName := ⟨RX0, "run", "(LSaltPlant$Layout;JJJ)V"⟩
abbrev cX0_runStage : ByteArray := prog_2_method_7_code
def yX0_runStage : MethodName := ⟨RX0, "runStage", "(III)V"⟩
abbrev cX0_runVessel : ByteArray := prog_2_method_8_code
def yX0_runVessel : MethodName := ⟨RX0, "runVessel", "(IIJJ)V"⟩
abbrev cX0_firstFailure : ByteArray := prog_2_method_9_code
def yX0_firstFailure : MethodName := ⟨RX0, "firstFailure", "(LSaltPlant$Layout;II)J"⟩
def RX1 : String := "SaltPlant$Hours"
def TX1 : u_T := fun k => match k with
  | 0 => ("SaltPlant$Hours", "prices", "[I", true)
  | 1 => ("SaltPlant$Hours", "needs", "[I", true)
  | 2 => ("SaltPlant$Hours", "now", "[I", true)
  | _ => ("SaltPlant$Hours", "later", "[I", true)
def tyX1 : Nat → FieldType := fun k => match k with
  | 0 => .array .int
  | 1 => .array .int
  | 2 => .array .int
  | _ => .array .int
abbrev wsX10 : List Cond := u_ws RX1 TX1 4
theorem nmX1 : ∀ a, a < 4 → ∀ b, b < 4 → a ≠ b → (TX1 a).2.1 ≠ (TX1 b).2.1 := by decide +kernel
theorem tyX1_ok : ∀ k, k < 4 → parseFieldDescriptor (TX1 k).2.2.1 = some (tyX1 k) := by decide +kernel
abbrev cX1_init : ByteArray := prog_3_method_1_code
def yX1_init : MethodName := ⟨RX1, "<init>", "()V"⟩
abbrev cX1_mostOf : ByteArray := prog_3_method_2_code
def yX1_mostOf : MethodName := ⟨RX1, "mostOf", "(I)I"⟩
abbrev cX1_rowOf : ByteArray := prog_3_method_3_code
def yX1_rowOf : MethodName := ⟨RX1, "rowOf", "(I)[I"⟩
abbrev cX1_isPlan : ByteArray := prog_3_method_4_code
def yX1_isPlan : MethodName := ⟨RX1, "isPlan", "(I)Z"⟩
abbrev cX1_costOf : ByteArray := prog_3_method_5_code
def yX1_costOf : MethodName := ⟨RX1, "costOf", "(I)I"⟩
abbrev cX1_runsAt : ByteArray := prog_3_method_6_code
def yX1_runsAt : MethodName := ⟨RX1, "runsAt", "(II)Z"⟩
abbrev cX1_bitsOf : ByteArray := prog_3_method_7_code
def yX1_bitsOf : MethodName := ⟨RX1, "bitsOf", "(I)I"⟩
abbrev cX1_behind : ByteArray := prog_3_method_8_code
def yX1_behind : MethodName := ⟨RX1, "behind", "(III)I"⟩
abbrev cX1_best : ByteArray := prog_3_method_9_code
def yX1_best : MethodName := ⟨RX1, "best", "(III)I"⟩
abbrev cX1_laterAt : ByteArray := prog_3_method_10_code
def yX1_laterAt : MethodName := ⟨RX1, "laterAt", "(I)I"⟩
def RX2 : String := "SaltPlant$Layout"
def TX2 : u_T := fun k => match k with
  | 0 => ("SaltPlant$Layout", "vessels", "[I", true)
  | _ => ("SaltPlant$Layout", "inVessel", "I", false)
def tyX2 : Nat → FieldType := fun k => match k with
  | 0 => .array .int
  | _ => .int
abbrev wsX20 : List Cond := u_ws RX2 TX2 2
theorem nmX2 : ∀ a, a < 2 → ∀ b, b < 2 → a ≠ b → (TX2 a).2.1 ≠ (TX2 b).2.1 := by decide +kernel
theorem tyX2_ok : ∀ k, k < 2 → parseFieldDescriptor (TX2 k).2.2.1 = some (tyX2 k) := by decide +kernel
abbrev cX2_init : ByteArray := prog_4_method_1_code
def yX2_init : MethodName := ⟨RX2, "<init>", "()V"⟩
abbrev cX2_vesselsIn : ByteArray := prog_4_method_2_code
def yX2_vesselsIn : MethodName := ⟨RX2, "vesselsIn", "(I)I"⟩
abbrev cX2_standing : ByteArray := prog_4_method_3_code
def yX2_standing : MethodName := ⟨RX2, "standing", "()I"⟩
abbrev cX2_holdsSkin : ByteArray := prog_4_method_4_code
def yX2_holdsSkin : MethodName := ⟨RX2, "holdsSkin", "(I)Z"⟩
abbrev cX2_become : ByteArray := prog_4_method_5_code
def yX2_become : MethodName := ⟨RX2, "become", "(I)Z"⟩
abbrev cX2_digits : ByteArray := prog_4_method_6_code
def yX2_digits : MethodName := ⟨RX2, "digits", "()I"⟩
def RX3 : String := "SaltPlant$Sheet"
def TX3 : u_T := fun k => match k with
  | 0 => ("SaltPlant$Sheet", "places", "[S", true)
  | _ => ("SaltPlant$Sheet", "size", "I", false)
def tyX3 : Nat → FieldType := fun k => match k with
  | 0 => .array .short
  | _ => .int
abbrev wsX30 : List Cond := u_ws RX3 TX3 2
theorem nmX3 : ∀ a, a < 2 → ∀ b, b < 2 → a ≠ b → (TX3 a).2.1 ≠ (TX3 b).2.1 := by decide +kernel
theorem tyX3_ok : ∀ k, k < 2 → parseFieldDescriptor (TX3 k).2.2.1 = some (tyX3 k) := by decide +kernel
abbrev cX3_init : ByteArray := prog_5_method_1_code
def yX3_init : MethodName := ⟨RX3, "<init>", "()V"⟩
abbrev cX3_isMissing : ByteArray := prog_5_method_2_code
def yX3_isMissing : MethodName := ⟨RX3, "isMissing", "()Z"⟩
abbrev cX3_begin : ByteArray := prog_5_method_3_code
def yX3_begin : MethodName := ⟨RX3, "begin", "(I)V"⟩
abbrev cX3_has : ByteArray := prog_5_method_4_code
def yX3_has : MethodName := ⟨RX3, "has", "(I)Z"⟩
abbrev cX3_hasRun : ByteArray := prog_5_method_5_code
def yX3_hasRun : MethodName := ⟨RX3, "hasRun", "(II)Z"⟩
def RX4 : String := "SaltPlant$Skins"
def TX4 : u_T := fun k => match k with
  | 0 => ("SaltPlant$Skins", "kinds", "[I", true)
  | _ => ("SaltPlant$Skins", "fouls", "[I", true)
def tyX4 : Nat → FieldType := fun k => match k with
  | 0 => .array .int
  | _ => .array .int
abbrev wsX40 : List Cond := u_ws RX4 TX4 2
theorem nmX4 : ∀ a, a < 2 → ∀ b, b < 2 → a ≠ b → (TX4 a).2.1 ≠ (TX4 b).2.1 := by decide +kernel
theorem tyX4_ok : ∀ k, k < 2 → parseFieldDescriptor (TX4 k).2.2.1 = some (tyX4 k) := by decide +kernel
abbrev cX4_init : ByteArray := prog_6_method_1_code
def yX4_init : MethodName := ⟨RX4, "<init>", "()V"⟩
abbrev cX4_passAt : ByteArray := prog_6_method_2_code
def yX4_passAt : MethodName := ⟨RX4, "passAt", "(I)I"⟩
abbrev cX4_leakAt : ByteArray := prog_6_method_3_code
def yX4_leakAt : MethodName := ⟨RX4, "leakAt", "(I)I"⟩
abbrev cX4_isUnder : ByteArray := prog_6_method_4_code
def yX4_isUnder : MethodName := ⟨RX4, "isUnder", "(II)Z"⟩
abbrev cX4_renew : ByteArray := prog_6_method_5_code
def yX4_renew : MethodName := ⟨RX4, "renew", "(II)I"⟩
abbrev cX4_exchange : ByteArray := prog_6_method_6_code
def yX4_exchange : MethodName := ⟨RX4, "exchange", "(II)V"⟩
abbrev cX4_soil : ByteArray := prog_6_method_7_code
def yX4_soil : MethodName := ⟨RX4, "soil", "(IJ)V"⟩
abbrev cX4_wash : ByteArray := prog_6_method_8_code
def yX4_wash : MethodName := ⟨RX4, "wash", "(I)V"⟩
def RX5 : String := "SaltPlant"
def TX5 : u_T := fun k => match k with
  | 0 => ("SaltPlant", "rules", "[I", true)
  | 1 => ("SaltPlant", "layout", "LSaltPlant$Layout;", true)
  | 2 => ("SaltPlant", "trial", "LSaltPlant$Layout;", true)
  | 3 => ("SaltPlant", "skins", "LSaltPlant$Skins;", true)
  | 4 => ("SaltPlant", "flows", "LSaltPlant$Flows;", true)
  | 5 => ("SaltPlant", "hours", "LSaltPlant$Hours;", true)
  | 6 => ("SaltPlant", "sheets", "[LSaltPlant$Sheet;", true)
  | 7 => ("SaltPlant", "feedWater", "I", false)
  | 8 => ("SaltPlant", "feedSalt", "I", false)
  | 9 => ("SaltPlant", "feedPressure", "I", false)
  | _ => ("SaltPlant", "daysGone", "I", false)
def tyX5 : Nat → FieldType := fun k => match k with
  | 0 => .array .int
  | 1 => .object "SaltPlant$Layout"
  | 2 => .object "SaltPlant$Layout"
  | 3 => .object "SaltPlant$Skins"
  | 4 => .object "SaltPlant$Flows"
  | 5 => .object "SaltPlant$Hours"
  | 6 => .array (.object "SaltPlant$Sheet")
  | 7 => .int
  | 8 => .int
  | 9 => .int
  | _ => .int
abbrev wsX50 : List Cond := u_ws RX5 TX5 11
theorem nmX5 : ∀ a, a < 11 → ∀ b, b < 11 → a ≠ b → (TX5 a).2.1 ≠ (TX5 b).2.1 := by decide +kernel
theorem tyX5_ok : ∀ k, k < 11 → parseFieldDescriptor (TX5 k).2.2.1 = some (tyX5 k) := by decide +kernel
abbrev cX5_init : ByteArray := prog_1_method_1_code
def yX5_init : MethodName := ⟨RX5, "<init>", "()V"⟩
abbrev cX5_stage : ByteArray := prog_1_method_2_code
def yX5_stage : MethodName := ⟨RX5, "stage", "(II)J"⟩
abbrev cX5_length : ByteArray := prog_1_method_3_code
def yX5_length : MethodName := ⟨RX5, "length", "(I)J"⟩
abbrev cX5_fresh : ByteArray := prog_1_method_4_code
def yX5_fresh : MethodName := ⟨RX5, "fresh", "(II)J"⟩
abbrev cX5_told : ByteArray := prog_1_method_5_code
def yX5_told : MethodName := ⟨RX5, "told", "(II)J"⟩
abbrev cX5_isOf : ByteArray := prog_1_method_6_code
def yX5_isOf : MethodName := ⟨RX5, "isOf", "(II)J"⟩
abbrev cX5_feed : ByteArray := prog_1_method_7_code
def yX5_feed : MethodName := ⟨RX5, "feed", "(III)J"⟩
abbrev cX5_change : ByteArray := prog_1_method_8_code
def yX5_change : MethodName := ⟨RX5, "change", "(II)J"⟩
abbrev cX5_flow : ByteArray := prog_1_method_9_code
def yX5_flow : MethodName := ⟨RX5, "flow", "(II)J"⟩
abbrev cX5_sweet : ByteArray := prog_1_method_10_code
def yX5_sweet : MethodName := ⟨RX5, "sweet", "(I)J"⟩
abbrev cX5_brine : ByteArray := prog_1_method_11_code
def yX5_brine : MethodName := ⟨RX5, "brine", "(I)J"⟩
abbrev cX5_power : ByteArray := prog_1_method_12_code
def yX5_power : MethodName := ⟨RX5, "power", "()J"⟩
abbrev cX5_failure : ByteArray := prog_1_method_13_code
def yX5_failure : MethodName := ⟨RX5, "failure", "()J"⟩
abbrev cX5_rule : ByteArray := prog_1_method_14_code
def yX5_rule : MethodName := ⟨RX5, "rule", "(II)J"⟩
abbrev cX5_days : ByteArray := prog_1_method_15_code
def yX5_days : MethodName := ⟨RX5, "days", "(I)J"⟩
abbrev cX5_foul : ByteArray := prog_1_method_16_code
def yX5_foul : MethodName := ⟨RX5, "foul", "(I)J"⟩
abbrev cX5_swap : ByteArray := prog_1_method_17_code
def yX5_swap : MethodName := ⟨RX5, "swap", "()J"⟩
abbrev cX5_array : ByteArray := prog_1_method_18_code
def yX5_array : MethodName := ⟨RX5, "array", "(II)J"⟩
abbrev cX5_hour : ByteArray := prog_1_method_19_code
def yX5_hour : MethodName := ⟨RX5, "hour", "(III)J"⟩
abbrev cX5_lay : ByteArray := prog_1_method_20_code
def yX5_lay : MethodName := ⟨RX5, "lay", "(II)J"⟩
abbrev cX5_plan : ByteArray := prog_1_method_21_code
def yX5_plan : MethodName := ⟨RX5, "plan", "(I)J"⟩
abbrev cX5_runs : ByteArray := prog_1_method_22_code
def yX5_runs : MethodName := ⟨RX5, "runs", "(I)J"⟩
abbrev cX5_tank : ByteArray := prog_1_method_23_code
def yX5_tank : MethodName := ⟨RX5, "tank", "(II)J"⟩
abbrev cX5_joint : ByteArray := prog_1_method_24_code
def yX5_joint : MethodName := ⟨RX5, "joint", "(III)J"⟩
abbrev cX5_sheet : ByteArray := prog_1_method_25_code
def yX5_sheet : MethodName := ⟨RX5, "sheet", "(II)J"⟩
abbrev cX5_mark : ByteArray := prog_1_method_26_code
def yX5_mark : MethodName := ⟨RX5, "mark", "(III)J"⟩
abbrev cX5_copy : ByteArray := prog_1_method_27_code
def yX5_copy : MethodName := ⟨RX5, "copy", "(IIIII)J"⟩
abbrev cX5_count : ByteArray := prog_1_method_28_code
def yX5_count : MethodName := ⟨RX5, "count", "(I)J"⟩
abbrev cX5_outside : ByteArray := prog_1_method_29_code
def yX5_outside : MethodName := ⟨RX5, "outside", "(III)Z"⟩
abbrev cX5_placeOf : ByteArray := prog_1_method_30_code
def yX5_placeOf : MethodName := ⟨RX5, "placeOf", "(I)I"⟩
abbrev cX5_numberOf : ByteArray := prog_1_method_31_code
def yX5_numberOf : MethodName := ⟨RX5, "numberOf", "(I)I"⟩
abbrev cX5_letFlow : ByteArray := prog_1_method_32_code
def yX5_letFlow : MethodName := ⟨RX5, "letFlow", "()V"⟩
abbrev cX5_powerAt : ByteArray := prog_1_method_33_code
def yX5_powerAt : MethodName := ⟨RX5, "powerAt", "(I)J"⟩
abbrev cX5_suits : ByteArray := prog_1_method_34_code
def yX5_suits : MethodName := ⟨RX5, "suits", "(II)Z"⟩
abbrev cX5_passDay : ByteArray := prog_1_method_35_code
def yX5_passDay : MethodName := ⟨RX5, "passDay", "()V"⟩
abbrev cX5_isPair : ByteArray := prog_1_method_36_code
def yX5_isPair : MethodName := ⟨RX5, "isPair", "(II)Z"⟩
abbrev cX5_sweetWaterIfChanged : ByteArray := prog_1_method_37_code
def yX5_sweetWaterIfChanged : MethodName := ⟨RX5, "sweetWaterIfChanged", "(II)J"⟩
def RX6 : String := "SaltPlantModel"
def TX6 : u_T := fun k => match k with
  | 0 => ("SaltPlantModel", "vessels", "[I", true)
  | 1 => ("SaltPlantModel", "longs", "I", false)
  | 2 => ("SaltPlantModel", "kind", "[I", true)
  | 3 => ("SaltPlantModel", "foul", "[I", true)
  | 4 => ("SaltPlantModel", "water", "I", false)
  | 5 => ("SaltPlantModel", "salt", "I", false)
  | 6 => ("SaltPlantModel", "pressure", "I", false)
  | 7 => ("SaltPlantModel", "rules", "[I", true)
  | 8 => ("SaltPlantModel", "days", "I", false)
  | 9 => ("SaltPlantModel", "prices", "[I", true)
  | 10 => ("SaltPlantModel", "needs", "[I", true)
  | 11 => ("SaltPlantModel", "places", "[I", true)
  | 12 => ("SaltPlantModel", "numbers", "[I", true)
  | 13 => ("SaltPlantModel", "getsWater", "[J", true)
  | 14 => ("SaltPlantModel", "getsGrains", "[J", true)
  | 15 => ("SaltPlantModel", "getsPush", "[J", true)
  | 16 => ("SaltPlantModel", "through", "[J", true)
  | 17 => ("SaltPlantModel", "grains", "[J", true)
  | 18 => ("SaltPlantModel", "sweetWater", "J", false)
  | 19 => ("SaltPlantModel", "sweetGrains", "J", false)
  | 20 => ("SaltPlantModel", "leftWater", "J", false)
  | 21 => ("SaltPlantModel", "leftGrains", "J", false)
  | 22 => ("SaltPlantModel", "leftPush", "J", false)
  | 23 => ("SaltPlantModel", "had", "[I", true)
  | 24 => ("SaltPlantModel", "costs", "[I", true)
  | 25 => ("SaltPlantModel", "holds", "[I", true)
  | _ => ("SaltPlantModel", "carried", "[I", true)
def tyX6 : Nat → FieldType := fun k => match k with
  | 0 => .array .int
  | 1 => .int
  | 2 => .array .int
  | 3 => .array .int
  | 4 => .int
  | 5 => .int
  | 6 => .int
  | 7 => .array .int
  | 8 => .int
  | 9 => .array .int
  | 10 => .array .int
  | 11 => .array .int
  | 12 => .array .int
  | 13 => .array .long
  | 14 => .array .long
  | 15 => .array .long
  | 16 => .array .long
  | 17 => .array .long
  | 18 => .long
  | 19 => .long
  | 20 => .long
  | 21 => .long
  | 22 => .long
  | 23 => .array .int
  | 24 => .array .int
  | 25 => .array .int
  | _ => .array .int
abbrev wsX60 : List Cond := u_ws RX6 TX6 27
theorem nmX6 : ∀ a, a < 27 → ∀ b, b < 27 → a ≠ b → (TX6 a).2.1 ≠ (TX6 b).2.1 := by decide +kernel
theorem tyX6_ok : ∀ k, k < 27 → parseFieldDescriptor (TX6 k).2.2.1 = some (tyX6 k) := by decide +kernel
abbrev cX6_init : ByteArray := prog_8_method_1_code
def yX6_init : MethodName := ⟨RX6, "<init>", "()V"⟩
abbrev cX6_isIn : ByteArray := prog_8_method_2_code
def yX6_isIn : MethodName := ⟨RX6, "isIn", "(III)Z"⟩
abbrev cX6_stage : ByteArray := prog_8_method_3_code
def yX6_stage : MethodName := ⟨RX6, "stage", "(II)J"⟩
abbrev cX6_length : ByteArray := prog_8_method_4_code
def yX6_length : MethodName := ⟨RX6, "length", "(I)J"⟩
abbrev cX6_placeOf : ByteArray := prog_8_method_5_code
def yX6_placeOf : MethodName := ⟨RX6, "placeOf", "(I)I"⟩
abbrev cX6_skinAt : ByteArray := prog_8_method_6_code
def yX6_skinAt : MethodName := ⟨RX6, "skinAt", "(I)I"⟩
abbrev cX6_isStage : ByteArray := prog_8_method_7_code
def yX6_isStage : MethodName := ⟨RX6, "isStage", "(I)Z"⟩
abbrev cX6_isThere : ByteArray := prog_8_method_8_code
def yX6_isThere : MethodName := ⟨RX6, "isThere", "(I)Z"⟩
abbrev cX6_fresh : ByteArray := prog_8_method_9_code
def yX6_fresh : MethodName := ⟨RX6, "fresh", "(II)J"⟩
abbrev cX6_pass : ByteArray := prog_8_method_10_code
def yX6_pass : MethodName := ⟨RX6, "pass", "(I)I"⟩
abbrev cX6_leak : ByteArray := prog_8_method_11_code
def yX6_leak : MethodName := ⟨RX6, "leak", "(I)I"⟩
abbrev cX6_told : ByteArray := prog_8_method_12_code
def yX6_told : MethodName := ⟨RX6, "told", "(II)J"⟩
abbrev cX6_isOf : ByteArray := prog_8_method_13_code
def yX6_isOf : MethodName := ⟨RX6, "isOf", "(II)J"⟩
abbrev cX6_feed : ByteArray := prog_8_method_14_code
def yX6_feed : MethodName := ⟨RX6, "feed", "(III)J"⟩
abbrev cX6_exchange : ByteArray := prog_8_method_15_code
def yX6_exchange : MethodName := ⟨RX6, "exchange", "(II)V"⟩
abbrev cX6_change : ByteArray := prog_8_method_16_code
def yX6_change : MethodName := ⟨RX6, "change", "(II)J"⟩
abbrev cX6_saltOf : ByteArray := prog_8_method_17_code
def yX6_saltOf : MethodName := ⟨RX6, "saltOf", "(JJ)J"⟩
abbrev cX6_skin : ByteArray := prog_8_method_18_code
def yX6_skin : MethodName := ⟨RX6, "skin", "(IJJJ)V"⟩
abbrev cX6_vessel : ByteArray := prog_8_method_19_code
def yX6_vessel : MethodName := ⟨RX6, "vessel", "(IIJJJ)V"⟩
abbrev cX6_flowAt : ByteArray := prog_8_method_20_code
def yX6_flowAt : MethodName := ⟨RX6, "flowAt", "(I)V"⟩
abbrev cX6_flowNow : ByteArray := prog_8_method_21_code
def yX6_flowNow : MethodName := ⟨RX6, "flowNow", "()V"⟩
abbrev cX6_flow : ByteArray := prog_8_method_22_code
def yX6_flow : MethodName := ⟨RX6, "flow", "(II)J"⟩
abbrev cX6_sweet : ByteArray := prog_8_method_23_code
def yX6_sweet : MethodName := ⟨RX6, "sweet", "(I)J"⟩
abbrev cX6_brine : ByteArray := prog_8_method_24_code
def yX6_brine : MethodName := ⟨RX6, "brine", "(I)J"⟩
abbrev cX6_powerAt : ByteArray := prog_8_method_25_code
def yX6_powerAt : MethodName := ⟨RX6, "powerAt", "(I)J"⟩
abbrev cX6_power : ByteArray := prog_8_method_26_code
def yX6_power : MethodName := ⟨RX6, "power", "()J"⟩
abbrev cX6_failing : ByteArray := prog_8_method_27_code
def yX6_failing : MethodName := ⟨RX6, "failing", "()I"⟩
abbrev cX6_failure : ByteArray := prog_8_method_28_code
def yX6_failure : MethodName := ⟨RX6, "failure", "()J"⟩
abbrev cX6_rule : ByteArray := prog_8_method_29_code
def yX6_rule : MethodName := ⟨RX6, "rule", "(II)J"⟩
abbrev cX6_day : ByteArray := prog_8_method_30_code
def yX6_day : MethodName := ⟨RX6, "day", "()V"⟩
abbrev cX6_days : ByteArray := prog_8_method_31_code
def yX6_days : MethodName := ⟨RX6, "days", "(I)J"⟩
abbrev cX6_foul : ByteArray := prog_8_method_32_code
def yX6_foul : MethodName := ⟨RX6, "foul", "(I)J"⟩
abbrev cX6_swap : ByteArray := prog_8_method_33_code
def yX6_swap : MethodName := ⟨RX6, "swap", "()J"⟩
abbrev cX6_array : ByteArray := prog_8_method_34_code
def yX6_array : MethodName := ⟨RX6, "array", "(II)J"⟩
abbrev cX6_hour : ByteArray := prog_8_method_35_code
def yX6_hour : MethodName := ⟨RX6, "hour", "(III)J"⟩
abbrev cX6_isSheet : ByteArray := prog_8_method_36_code
def yX6_isSheet : MethodName := ⟨RX6, "isSheet", "(I)Z"⟩
abbrev cX6_lay : ByteArray := prog_8_method_37_code
def yX6_lay : MethodName := ⟨RX6, "lay", "(II)J"⟩
abbrev cX6_behind : ByteArray := prog_8_method_38_code
def yX6_behind : MethodName := ⟨RX6, "behind", "(IIZ)I"⟩
abbrev cX6_costFrom : ByteArray := prog_8_method_39_code
def yX6_costFrom : MethodName := ⟨RX6, "costFrom", "(IIZ)I"⟩
abbrev cX6_findPlan : ByteArray := prog_8_method_40_code
def yX6_findPlan : MethodName := ⟨RX6, "findPlan", "()V"⟩
abbrev cX6_isContent : ByteArray := prog_8_method_41_code
def yX6_isContent : MethodName := ⟨RX6, "isContent", "(I)Z"⟩
abbrev cX6_plan : ByteArray := prog_8_method_42_code
def yX6_plan : MethodName := ⟨RX6, "plan", "(I)J"⟩
abbrev cX6_go : ByteArray := prog_8_method_43_code
def yX6_go : MethodName := ⟨RX6, "go", "(I)I"⟩
abbrev cX6_runs : ByteArray := prog_8_method_44_code
def yX6_runs : MethodName := ⟨RX6, "runs", "(I)J"⟩
abbrev cX6_tank : ByteArray := prog_8_method_45_code
def yX6_tank : MethodName := ⟨RX6, "tank", "(II)J"⟩
abbrev cX6_joint : ByteArray := prog_8_method_46_code
def yX6_joint : MethodName := ⟨RX6, "joint", "(III)J"⟩
abbrev cX6_sheet : ByteArray := prog_8_method_47_code
def yX6_sheet : MethodName := ⟨RX6, "sheet", "(II)J"⟩
abbrev cX6_mark : ByteArray := prog_8_method_48_code
def yX6_mark : MethodName := ⟨RX6, "mark", "(III)J"⟩
abbrev cX6_copy : ByteArray := prog_8_method_49_code
def yX6_copy : MethodName := ⟨RX6, "copy", "(IIIII)J"⟩
abbrev cX6_count : ByteArray := prog_8_method_50_code
def yX6_count : MethodName := ⟨RX6, "count", "(I)J"⟩
def RJ9 : String := "java/lang/Math"
def TJ9 : u_T := fun k => match k with
  | _ => ("", "", "", false)
def tyJ9 : Nat → FieldType := fun k => match k with
  | _ => .int
abbrev wsJ90 : List Cond := u_ws RJ9 TJ9 0
theorem nmJ9 : ∀ a, a < 0 → ∀ b, b < 0 → a ≠ b → (TJ9 a).2.1 ≠ (TJ9 b).2.1 := by decide +kernel
theorem tyJ9_ok : ∀ k, k < 0 → parseFieldDescriptor (TJ9 k).2.2.1 = some (tyJ9 k) := by decide +kernel
abbrev cJ9_max_7cf53 : ByteArray := prog_9_method_65_code
def yJ9_max_7cf53 : MethodName := ⟨RJ9, "max", "(II)I"⟩
abbrev cJ9_max_f86c9 : ByteArray := prog_9_method_66_code
def yJ9_max_f86c9 : MethodName := ⟨RJ9, "max", "(JJ)J"⟩
abbrev cJ9_min_7cf53 : ByteArray := prog_9_method_69_code
def yJ9_min_7cf53 : MethodName := ⟨RJ9, "min", "(II)I"⟩
abbrev cJ9_min_f86c9 : ByteArray := prog_9_method_70_code
def yJ9_min_f86c9 : MethodName := ⟨RJ9, "min", "(JJ)J"⟩
def RJ10 : String := "java/lang/System"
def TJ10 : u_T := fun k => match k with
  | _ => ("", "", "", false)
def tyJ10 : Nat → FieldType := fun k => match k with
  | _ => .int
abbrev wsJ100 : List Cond := u_ws RJ10 TJ10 0
theorem nmJ10 : ∀ a, a < 0 → ∀ b, b < 0 → a ≠ b → (TJ10 a).2.1 ≠ (TJ10 b).2.1 := by decide +kernel
theorem tyJ10_ok : ∀ k, k < 0 → parseFieldDescriptor (TJ10 k).2.2.1 = some (tyJ10 k) := by decide +kernel
def RJ7 : String := "java/util/Arrays"
def TJ7 : u_T := fun k => match k with
  | _ => ("", "", "", false)
def tyJ7 : Nat → FieldType := fun k => match k with
  | _ => .int
abbrev wsJ70 : List Cond := u_ws RJ7 TJ7 0
theorem nmJ7 : ∀ a, a < 0 → ∀ b, b < 0 → a ≠ b → (TJ7 a).2.1 ≠ (TJ7 b).2.1 := by decide +kernel
theorem tyJ7_ok : ∀ k, k < 0 → parseFieldDescriptor (TJ7 k).2.2.1 = some (tyJ7 k) := by decide +kernel
abbrev cJ7_fill_53178 : ByteArray := prog_11_method_103_code
def yJ7_fill_53178 : MethodName := ⟨RJ7, "fill", "([II)V"⟩
abbrev cJ7_fill_fb410 : ByteArray := prog_11_method_105_code
def yJ7_fill_fb410 : MethodName := ⟨RJ7, "fill", "([SS)V"⟩
def RL : String := "SaltPlantLaw"
abbrev cL_law : ByteArray := code
def yL_law : MethodName := ⟨RL, "law", "([I)Z"⟩
abbrev vwCl : List vw_C := [(RX0, TX0, 13), (RX1, TX1, 4), (RX2, TX2, 2), (RX3, TX3, 2), (RX4, TX4, 2), (RX5, TX5, 11), (RX6, TX6, 27)]
end
section
theorem dX0_init_0 : decode cX0_init 0 = .ok (.aload_n 0, 1) := by decide +kernel
theorem dX0_init_1 : decode cX0_init 1 = .ok (.invokespecial 3, 3) := by decide +kernel
theorem dX0_init_4 : decode cX0_init 4 = .ok (.aload_n 0, 1) := by decide +kernel
theorem dX0_init_5 : decode cX0_init 5 = .ok (.bipush 72, 2) := by decide +kernel
theorem dX0_init_7 : decode cX0_init 7 = .ok (.newarray .int, 2) := by decide +kernel
theorem dX0_init_9 : decode cX0_init 9 = .ok (.putfield 9, 3) := by decide +kernel
theorem dX0_init_12 : decode cX0_init 12 = .ok (.aload_n 0, 1) := by decide +kernel
theorem dX0_init_13 : decode cX0_init 13 = .ok (.bipush 72, 2) := by decide +kernel
theorem dX0_init_15 : decode cX0_init 15 = .ok (.newarray .int, 2) := by decide +kernel
theorem dX0_init_17 : decode cX0_init 17 = .ok (.putfield 15, 3) := by decide +kernel
theorem dX0_init_20 : decode cX0_init 20 = .ok (.aload_n 0, 1) := by decide +kernel
theorem dX0_init_21 : decode cX0_init 21 = .ok (.bipush 72, 2) := by decide +kernel
theorem dX0_init_23 : decode cX0_init 23 = .ok (.newarray .long, 2) := by decide +kernel
theorem dX0_init_25 : decode cX0_init 25 = .ok (.putfield 18, 3) := by decide +kernel
theorem dX0_init_28 : decode cX0_init 28 = .ok (.aload_n 0, 1) := by decide +kernel
theorem dX0_init_29 : decode cX0_init 29 = .ok (.bipush 72, 2) := by decide +kernel
theorem dX0_init_31 : decode cX0_init 31 = .ok (.newarray .long, 2) := by decide +kernel
theorem dX0_init_33 : decode cX0_init 33 = .ok (.putfield 22, 3) := by decide +kernel
theorem dX0_init_36 : decode cX0_init 36 = .ok (.aload_n 0, 1) := by decide +kernel
theorem dX0_init_37 : decode cX0_init 37 = .ok (.bipush 72, 2) := by decide +kernel
theorem dX0_init_39 : decode cX0_init 39 = .ok (.newarray .long, 2) := by decide +kernel
theorem dX0_init_41 : decode cX0_init 41 = .ok (.putfield 25, 3) := by decide +kernel
theorem dX0_init_44 : decode cX0_init 44 = .ok (.aload_n 0, 1) := by decide +kernel
theorem dX0_init_45 : decode cX0_init 45 = .ok (.bipush 72, 2) := by decide +kernel
theorem dX0_init_47 : decode cX0_init 47 = .ok (.newarray .long, 2) := by decide +kernel
theorem dX0_init_49 : decode cX0_init 49 = .ok (.putfield 28, 3) := by decide +kernel
theorem dX0_init_52 : decode cX0_init 52 = .ok (.aload_n 0, 1) := by decide +kernel
theorem dX0_init_53 : decode cX0_init 53 = .ok (.bipush 72, 2) := by decide +kernel
theorem dX0_init_55 : decode cX0_init 55 = .ok (.newarray .long, 2) := by decide +kernel
theorem dX0_init_57 : decode cX0_init 57 = .ok (.putfield 31, 3) := by decide +kernel
theorem dX0_init_60 : decode cX0_init 60 = .ok (.aload_n 0, 1) := by decide +kernel
theorem dX0_init_61 : decode cX0_init 61 = .ok (.bipush 72, 2) := by decide +kernel
theorem dX0_init_63 : decode cX0_init 63 = .ok (.newarray .long, 2) := by decide +kernel
theorem dX0_init_65 : decode cX0_init 65 = .ok (.putfield 34, 3) := by decide +kernel
theorem dX0_init_68 : decode cX0_init 68 = .ok (.aload_n 0, 1) := by decide +kernel
theorem dX0_init_69 : decode cX0_init 69 = .ok (.lconst 0, 1) := by decide +kernel
theorem dX0_init_70 : decode cX0_init 70 = .ok (.putfield 37, 3) := by decide +kernel
theorem dX0_init_73 : decode cX0_init 73 = .ok (.aload_n 0, 1) := by decide +kernel
theorem dX0_init_74 : decode cX0_init 74 = .ok (.lconst 0, 1) := by decide +kernel
theorem dX0_init_75 : decode cX0_init 75 = .ok (.putfield 41, 3) := by decide +kernel
theorem dX0_init_78 : decode cX0_init 78 = .ok (.aload_n 0, 1) := by decide +kernel
theorem dX0_init_79 : decode cX0_init 79 = .ok (.lconst 0, 1) := by decide +kernel
theorem dX0_init_80 : decode cX0_init 80 = .ok (.putfield 44, 3) := by decide +kernel
theorem dX0_init_83 : decode cX0_init 83 = .ok (.aload_n 0, 1) := by decide +kernel
theorem dX0_init_84 : decode cX0_init 84 = .ok (.lconst 0, 1) := by decide +kernel
theorem dX0_init_85 : decode cX0_init 85 = .ok (.putfield 47, 3) := by decide +kernel
theorem dX0_init_88 : decode cX0_init 88 = .ok (.aload_n 0, 1) := by decide +kernel
theorem dX0_init_89 : decode cX0_init 89 = .ok (.lconst 0, 1) := by decide +kernel
theorem dX0_init_90 : decode cX0_init 90 = .ok (.putfield 50, 3) := by decide +kernel
theorem dX0_init_93 : decode cX0_init 93 = .ok (.return_, 1) := by decide +kernel
theorem dX0_saltOf_0 : decode cX0_saltOf 0 = .ok (.lload_n 0, 1) := by decide +kernel
theorem dX0_saltOf_1 : decode cX0_saltOf 1 = .ok (.lconst 0, 1) := by decide +kernel
theorem dX0_saltOf_2 : decode cX0_saltOf 2 = .ok (.lcmp, 1) := by decide +kernel
theorem dX0_saltOf_3 : decode cX0_saltOf 3 = .ok (.ifCond .ne 7, 3) := by decide +kernel
theorem dX0_saltOf_6 : decode cX0_saltOf 6 = .ok (.lconst 0, 1) := by decide +kernel
theorem dX0_saltOf_7 : decode cX0_saltOf 7 = .ok (.goto 6, 3) := by decide +kernel
theorem dX0_saltOf_10 : decode cX0_saltOf 10 = .ok (.lload_n 2, 1) := by decide +kernel
theorem dX0_saltOf_11 : decode cX0_saltOf 11 = .ok (.lload_n 0, 1) := by decide +kernel
theorem dX0_saltOf_12 : decode cX0_saltOf 12 = .ok (.ldiv, 1) := by decide +kernel
theorem dX0_saltOf_13 : decode cX0_saltOf 13 = .ok (.lreturn, 1) := by decide +kernel
theorem dX0_take_0 : decode cX0_take 0 = .ok (.iconst 0, 1) := by decide +kernel
theorem dX0_take_1 : decode cX0_take 1 = .ok (.istore_n 2, 1) := by decide +kernel
theorem dX0_take_2 : decode cX0_take 2 = .ok (.iload_n 2, 1) := by decide +kernel
theorem dX0_take_3 : decode cX0_take 3 = .ok (.bipush 72, 2) := by decide +kernel
theorem dX0_take_5 : decode cX0_take 5 = .ok (.if_icmp .ge 31, 3) := by decide +kernel
theorem dX0_take_8 : decode cX0_take 8 = .ok (.aload_n 0, 1) := by decide +kernel
theorem dX0_take_9 : decode cX0_take 9 = .ok (.getfield 9, 3) := by decide +kernel
theorem dX0_take_12 : decode cX0_take 12 = .ok (.iload_n 2, 1) := by decide +kernel
theorem dX0_take_13 : decode cX0_take 13 = .ok (.aload_n 1, 1) := by decide +kernel
theorem dX0_take_14 : decode cX0_take 14 = .ok (.iload_n 2, 1) := by decide +kernel
theorem dX0_take_15 : decode cX0_take 15 = .ok (.invokevirtual 53, 3) := by decide +kernel
theorem dX0_take_18 : decode cX0_take 18 = .ok (.iastore, 1) := by decide +kernel
theorem dX0_take_19 : decode cX0_take 19 = .ok (.aload_n 0, 1) := by decide +kernel
theorem dX0_take_20 : decode cX0_take 20 = .ok (.getfield 15, 3) := by decide +kernel
theorem dX0_take_23 : decode cX0_take 23 = .ok (.iload_n 2, 1) := by decide +kernel
theorem dX0_take_24 : decode cX0_take 24 = .ok (.aload_n 1, 1) := by decide +kernel
theorem dX0_take_25 : decode cX0_take 25 = .ok (.iload_n 2, 1) := by decide +kernel
theorem dX0_take_26 : decode cX0_take 26 = .ok (.invokevirtual 59, 3) := by decide +kernel
theorem dX0_take_29 : decode cX0_take 29 = .ok (.iastore, 1) := by decide +kernel
theorem dX0_take_30 : decode cX0_take 30 = .ok (.iinc 2 1, 3) := by decide +kernel
theorem dX0_take_33 : decode cX0_take 33 = .ok (.goto (-31), 3) := by decide +kernel
theorem dX0_take_36 : decode cX0_take 36 = .ok (.return_, 1) := by decide +kernel
theorem dX0_areAlike_0 : decode cX0_areAlike 0 = .ok (.aload_n 0, 1) := by decide +kernel
theorem dX0_areAlike_1 : decode cX0_areAlike 1 = .ok (.getfield 9, 3) := by decide +kernel
theorem dX0_areAlike_4 : decode cX0_areAlike 4 = .ok (.iload_n 1, 1) := by decide +kernel
theorem dX0_areAlike_5 : decode cX0_areAlike 5 = .ok (.iaload, 1) := by decide +kernel
theorem dX0_areAlike_6 : decode cX0_areAlike 6 = .ok (.aload_n 0, 1) := by decide +kernel
theorem dX0_areAlike_7 : decode cX0_areAlike 7 = .ok (.getfield 9, 3) := by decide +kernel
theorem dX0_areAlike_10 : decode cX0_areAlike 10 = .ok (.iload_n 2, 1) := by decide +kernel
theorem dX0_areAlike_11 : decode cX0_areAlike 11 = .ok (.iaload, 1) := by decide +kernel
theorem dX0_areAlike_12 : decode cX0_areAlike 12 = .ok (.if_icmp .ne 22, 3) := by decide +kernel
theorem dX0_areAlike_15 : decode cX0_areAlike 15 = .ok (.aload_n 0, 1) := by decide +kernel
theorem dX0_areAlike_16 : decode cX0_areAlike 16 = .ok (.getfield 15, 3) := by decide +kernel
theorem dX0_areAlike_19 : decode cX0_areAlike 19 = .ok (.iload_n 1, 1) := by decide +kernel
theorem dX0_areAlike_20 : decode cX0_areAlike 20 = .ok (.iaload, 1) := by decide +kernel
theorem dX0_areAlike_21 : decode cX0_areAlike 21 = .ok (.aload_n 0, 1) := by decide +kernel
theorem dX0_areAlike_22 : decode cX0_areAlike 22 = .ok (.getfield 15, 3) := by decide +kernel
theorem dX0_areAlike_25 : decode cX0_areAlike 25 = .ok (.iload_n 2, 1) := by decide +kernel
theorem dX0_areAlike_26 : decode cX0_areAlike 26 = .ok (.iaload, 1) := by decide +kernel
theorem dX0_areAlike_27 : decode cX0_areAlike 27 = .ok (.if_icmp .ne 7, 3) := by decide +kernel
theorem dX0_areAlike_30 : decode cX0_areAlike 30 = .ok (.iconst 1, 1) := by decide +kernel
theorem dX0_areAlike_31 : decode cX0_areAlike 31 = .ok (.goto 4, 3) := by decide +kernel
theorem dX0_areAlike_34 : decode cX0_areAlike 34 = .ok (.iconst 0, 1) := by decide +kernel
theorem dX0_areAlike_35 : decode cX0_areAlike 35 = .ok (.ireturn, 1) := by decide +kernel
theorem dX0_exchange_0 : decode cX0_exchange 0 = .ok (.aload_n 0, 1) := by decide +kernel
theorem dX0_exchange_1 : decode cX0_exchange 1 = .ok (.getfield 9, 3) := by decide +kernel
theorem dX0_exchange_4 : decode cX0_exchange 4 = .ok (.iload_n 1, 1) := by decide +kernel
theorem dX0_exchange_5 : decode cX0_exchange 5 = .ok (.iaload, 1) := by decide +kernel
theorem dX0_exchange_6 : decode cX0_exchange 6 = .ok (.istore_n 3, 1) := by decide +kernel
theorem dX0_exchange_7 : decode cX0_exchange 7 = .ok (.aload_n 0, 1) := by decide +kernel
theorem dX0_exchange_8 : decode cX0_exchange 8 = .ok (.getfield 15, 3) := by decide +kernel
theorem dX0_exchange_11 : decode cX0_exchange 11 = .ok (.iload_n 1, 1) := by decide +kernel
theorem dX0_exchange_12 : decode cX0_exchange 12 = .ok (.iaload, 1) := by decide +kernel
theorem dX0_exchange_13 : decode cX0_exchange 13 = .ok (.istore 4, 2) := by decide +kernel
theorem dX0_exchange_15 : decode cX0_exchange 15 = .ok (.aload_n 0, 1) := by decide +kernel
theorem dX0_exchange_16 : decode cX0_exchange 16 = .ok (.getfield 9, 3) := by decide +kernel
theorem dX0_exchange_19 : decode cX0_exchange 19 = .ok (.iload_n 1, 1) := by decide +kernel
theorem dX0_exchange_20 : decode cX0_exchange 20 = .ok (.aload_n 0, 1) := by decide +kernel
theorem dX0_exchange_21 : decode cX0_exchange 21 = .ok (.getfield 9, 3) := by decide +kernel
theorem dX0_exchange_24 : decode cX0_exchange 24 = .ok (.iload_n 2, 1) := by decide +kernel
theorem dX0_exchange_25 : decode cX0_exchange 25 = .ok (.iaload, 1) := by decide +kernel
theorem dX0_exchange_26 : decode cX0_exchange 26 = .ok (.iastore, 1) := by decide +kernel
theorem dX0_exchange_27 : decode cX0_exchange 27 = .ok (.aload_n 0, 1) := by decide +kernel
theorem dX0_exchange_28 : decode cX0_exchange 28 = .ok (.getfield 15, 3) := by decide +kernel
theorem dX0_exchange_31 : decode cX0_exchange 31 = .ok (.iload_n 1, 1) := by decide +kernel
theorem dX0_exchange_32 : decode cX0_exchange 32 = .ok (.aload_n 0, 1) := by decide +kernel
theorem dX0_exchange_33 : decode cX0_exchange 33 = .ok (.getfield 15, 3) := by decide +kernel
theorem dX0_exchange_36 : decode cX0_exchange 36 = .ok (.iload_n 2, 1) := by decide +kernel
theorem dX0_exchange_37 : decode cX0_exchange 37 = .ok (.iaload, 1) := by decide +kernel
theorem dX0_exchange_38 : decode cX0_exchange 38 = .ok (.iastore, 1) := by decide +kernel
theorem dX0_exchange_39 : decode cX0_exchange 39 = .ok (.aload_n 0, 1) := by decide +kernel
theorem dX0_exchange_40 : decode cX0_exchange 40 = .ok (.getfield 9, 3) := by decide +kernel
theorem dX0_exchange_43 : decode cX0_exchange 43 = .ok (.iload_n 2, 1) := by decide +kernel
theorem dX0_exchange_44 : decode cX0_exchange 44 = .ok (.iload_n 3, 1) := by decide +kernel
theorem dX0_exchange_45 : decode cX0_exchange 45 = .ok (.iastore, 1) := by decide +kernel
theorem dX0_exchange_46 : decode cX0_exchange 46 = .ok (.aload_n 0, 1) := by decide +kernel
theorem dX0_exchange_47 : decode cX0_exchange 47 = .ok (.getfield 15, 3) := by decide +kernel
theorem dX0_exchange_50 : decode cX0_exchange 50 = .ok (.iload_n 2, 1) := by decide +kernel
theorem dX0_exchange_51 : decode cX0_exchange 51 = .ok (.iload 4, 2) := by decide +kernel
theorem dX0_exchange_53 : decode cX0_exchange 53 = .ok (.iastore, 1) := by decide +kernel
theorem dX0_exchange_54 : decode cX0_exchange 54 = .ok (.return_, 1) := by decide +kernel
theorem dX0_run_0 : decode cX0_run 0 = .ok (.aload_n 0, 1) := by decide +kernel
theorem dX0_run_1 : decode cX0_run 1 = .ok (.lload_n 2, 1) := by decide +kernel
theorem dX0_run_2 : decode cX0_run 2 = .ok (.putfield 37, 3) := by decide +kernel
theorem dX0_run_5 : decode cX0_run 5 = .ok (.aload_n 0, 1) := by decide +kernel
theorem dX0_run_6 : decode cX0_run 6 = .ok (.lload_n 2, 1) := by decide +kernel
theorem dX0_run_7 : decode cX0_run 7 = .ok (.lload 4, 2) := by decide +kernel
theorem dX0_run_9 : decode cX0_run 9 = .ok (.lmul, 1) := by decide +kernel
theorem dX0_run_10 : decode cX0_run 10 = .ok (.putfield 41, 3) := by decide +kernel
theorem dX0_run_13 : decode cX0_run 13 = .ok (.aload_n 0, 1) := by decide +kernel
theorem dX0_run_14 : decode cX0_run 14 = .ok (.lload 6, 2) := by decide +kernel
theorem dX0_run_16 : decode cX0_run 16 = .ok (.putfield 44, 3) := by decide +kernel
theorem dX0_run_19 : decode cX0_run 19 = .ok (.iconst 0, 1) := by decide +kernel
theorem dX0_run_20 : decode cX0_run 20 = .ok (.istore 8, 2) := by decide +kernel
theorem dX0_run_22 : decode cX0_run 22 = .ok (.iload 8, 2) := by decide +kernel
theorem dX0_run_24 : decode cX0_run 24 = .ok (.iconst 3, 1) := by decide +kernel
theorem dX0_run_25 : decode cX0_run 25 = .ok (.if_icmp .ge 25, 3) := by decide +kernel
theorem dX0_run_28 : decode cX0_run 28 = .ok (.aload_n 0, 1) := by decide +kernel
theorem dX0_run_29 : decode cX0_run 29 = .ok (.iload 8, 2) := by decide +kernel
theorem dX0_run_31 : decode cX0_run 31 = .ok (.aload_n 1, 1) := by decide +kernel
theorem dX0_run_32 : decode cX0_run 32 = .ok (.iload 8, 2) := by decide +kernel
theorem dX0_run_34 : decode cX0_run 34 = .ok (.invokevirtual 62, 3) := by decide +kernel
theorem dX0_run_37 : decode cX0_run 37 = .ok (.aload_n 1, 1) := by decide +kernel
theorem dX0_run_38 : decode cX0_run 38 = .ok (.getfield 67, 3) := by decide +kernel
theorem dX0_run_41 : decode cX0_run 41 = .ok (.invokevirtual 71, 3) := by decide +kernel
theorem dX0_run_44 : decode cX0_run 44 = .ok (.iinc 8 1, 3) := by decide +kernel
theorem dX0_run_47 : decode cX0_run 47 = .ok (.goto (-25), 3) := by decide +kernel
theorem dX0_run_50 : decode cX0_run 50 = .ok (.aload_n 0, 1) := by decide +kernel
theorem dX0_run_51 : decode cX0_run 51 = .ok (.lload_n 2, 1) := by decide +kernel
theorem dX0_run_52 : decode cX0_run 52 = .ok (.aload_n 0, 1) := by decide +kernel
theorem dX0_run_53 : decode cX0_run 53 = .ok (.getfield 37, 3) := by decide +kernel
theorem dX0_run_56 : decode cX0_run 56 = .ok (.lsub, 1) := by decide +kernel
theorem dX0_run_57 : decode cX0_run 57 = .ok (.putfield 47, 3) := by decide +kernel
theorem dX0_run_60 : decode cX0_run 60 = .ok (.aload_n 0, 1) := by decide +kernel
theorem dX0_run_61 : decode cX0_run 61 = .ok (.lload_n 2, 1) := by decide +kernel
theorem dX0_run_62 : decode cX0_run 62 = .ok (.lload 4, 2) := by decide +kernel
theorem dX0_run_64 : decode cX0_run 64 = .ok (.lmul, 1) := by decide +kernel
theorem dX0_run_65 : decode cX0_run 65 = .ok (.aload_n 0, 1) := by decide +kernel
theorem dX0_run_66 : decode cX0_run 66 = .ok (.getfield 41, 3) := by decide +kernel
theorem dX0_run_69 : decode cX0_run 69 = .ok (.lsub, 1) := by decide +kernel
theorem dX0_run_70 : decode cX0_run 70 = .ok (.putfield 50, 3) := by decide +kernel
theorem dX0_run_73 : decode cX0_run 73 = .ok (.return_, 1) := by decide +kernel
theorem dX0_runStage_0 : decode cX0_runStage 0 = .ok (.iload_n 2, 1) := by decide +kernel
theorem dX0_runStage_1 : decode cX0_runStage 1 = .ok (.iconst 1, 1) := by decide +kernel
theorem dX0_runStage_2 : decode cX0_runStage 2 = .ok (.if_icmp .ge 4, 3) := by decide +kernel
theorem dX0_runStage_5 : decode cX0_runStage 5 = .ok (.return_, 1) := by decide +kernel
theorem dX0_runStage_6 : decode cX0_runStage 6 = .ok (.aload_n 0, 1) := by decide +kernel
theorem dX0_runStage_7 : decode cX0_runStage 7 = .ok (.getfield 37, 3) := by decide +kernel
theorem dX0_runStage_10 : decode cX0_runStage 10 = .ok (.iload_n 2, 1) := by decide +kernel
theorem dX0_runStage_11 : decode cX0_runStage 11 = .ok (.i2l, 1) := by decide +kernel
theorem dX0_runStage_12 : decode cX0_runStage 12 = .ok (.ldiv, 1) := by decide +kernel
theorem dX0_runStage_13 : decode cX0_runStage 13 = .ok (.lstore 4, 2) := by decide +kernel
theorem dX0_runStage_15 : decode cX0_runStage 15 = .ok (.aload_n 0, 1) := by decide +kernel
theorem dX0_runStage_16 : decode cX0_runStage 16 = .ok (.getfield 37, 3) := by decide +kernel
theorem dX0_runStage_19 : decode cX0_runStage 19 = .ok (.iload_n 2, 1) := by decide +kernel
theorem dX0_runStage_20 : decode cX0_runStage 20 = .ok (.i2l, 1) := by decide +kernel
theorem dX0_runStage_21 : decode cX0_runStage 21 = .ok (.lrem, 1) := by decide +kernel
theorem dX0_runStage_22 : decode cX0_runStage 22 = .ok (.lstore 6, 2) := by decide +kernel
theorem dX0_runStage_24 : decode cX0_runStage 24 = .ok (.aload_n 0, 1) := by decide +kernel
theorem dX0_runStage_25 : decode cX0_runStage 25 = .ok (.getfield 37, 3) := by decide +kernel
theorem dX0_runStage_28 : decode cX0_runStage 28 = .ok (.aload_n 0, 1) := by decide +kernel
theorem dX0_runStage_29 : decode cX0_runStage 29 = .ok (.getfield 41, 3) := by decide +kernel
theorem dX0_runStage_32 : decode cX0_runStage 32 = .ok (.invokestatic 75, 3) := by decide +kernel
theorem dX0_runStage_35 : decode cX0_runStage 35 = .ok (.lstore 8, 2) := by decide +kernel
theorem dX0_runStage_37 : decode cX0_runStage 37 = .ok (.aload_n 0, 1) := by decide +kernel
theorem dX0_runStage_38 : decode cX0_runStage 38 = .ok (.getfield 41, 3) := by decide +kernel
theorem dX0_runStage_41 : decode cX0_runStage 41 = .ok (.aload_n 0, 1) := by decide +kernel
theorem dX0_runStage_42 : decode cX0_runStage 42 = .ok (.getfield 37, 3) := by decide +kernel
theorem dX0_runStage_45 : decode cX0_runStage 45 = .ok (.lload 8, 2) := by decide +kernel
theorem dX0_runStage_47 : decode cX0_runStage 47 = .ok (.lmul, 1) := by decide +kernel
theorem dX0_runStage_48 : decode cX0_runStage 48 = .ok (.lsub, 1) := by decide +kernel
theorem dX0_runStage_49 : decode cX0_runStage 49 = .ok (.lstore 10, 2) := by decide +kernel
theorem dX0_runStage_51 : decode cX0_runStage 51 = .ok (.aload_n 0, 1) := by decide +kernel
theorem dX0_runStage_52 : decode cX0_runStage 52 = .ok (.lconst 0, 1) := by decide +kernel
theorem dX0_runStage_53 : decode cX0_runStage 53 = .ok (.putfield 37, 3) := by decide +kernel
theorem dX0_runStage_56 : decode cX0_runStage 56 = .ok (.aload_n 0, 1) := by decide +kernel
theorem dX0_runStage_57 : decode cX0_runStage 57 = .ok (.lconst 0, 1) := by decide +kernel
theorem dX0_runStage_58 : decode cX0_runStage 58 = .ok (.putfield 41, 3) := by decide +kernel
theorem dX0_runStage_61 : decode cX0_runStage 61 = .ok (.iconst 0, 1) := by decide +kernel
theorem dX0_runStage_62 : decode cX0_runStage 62 = .ok (.istore 12, 2) := by decide +kernel
theorem dX0_runStage_64 : decode cX0_runStage 64 = .ok (.iload 12, 2) := by decide +kernel
theorem dX0_runStage_66 : decode cX0_runStage 66 = .ok (.iload_n 2, 1) := by decide +kernel
theorem dX0_runStage_67 : decode cX0_runStage 67 = .ok (.if_icmp .ge 71, 3) := by decide +kernel
theorem dX0_runStage_70 : decode cX0_runStage 70 = .ok (.iload 12, 2) := by decide +kernel
theorem dX0_runStage_72 : decode cX0_runStage 72 = .ok (.i2l, 1) := by decide +kernel
theorem dX0_runStage_73 : decode cX0_runStage 73 = .ok (.lload 6, 2) := by decide +kernel
theorem dX0_runStage_75 : decode cX0_runStage 75 = .ok (.lcmp, 1) := by decide +kernel
theorem dX0_runStage_76 : decode cX0_runStage 76 = .ok (.ifCond .ge 10, 3) := by decide +kernel
theorem dX0_runStage_79 : decode cX0_runStage 79 = .ok (.lload 4, 2) := by decide +kernel
theorem dX0_runStage_81 : decode cX0_runStage 81 = .ok (.lconst 1, 1) := by decide +kernel
theorem dX0_runStage_82 : decode cX0_runStage 82 = .ok (.ladd, 1) := by decide +kernel
theorem dX0_runStage_83 : decode cX0_runStage 83 = .ok (.goto 5, 3) := by decide +kernel
theorem dX0_runStage_86 : decode cX0_runStage 86 = .ok (.lload 4, 2) := by decide +kernel
theorem dX0_runStage_88 : decode cX0_runStage 88 = .ok (.lstore 13, 2) := by decide +kernel
theorem dX0_runStage_90 : decode cX0_runStage 90 = .ok (.iload 12, 2) := by decide +kernel
theorem dX0_runStage_92 : decode cX0_runStage 92 = .ok (.ifCond .ne 14, 3) := by decide +kernel
theorem dX0_runStage_95 : decode cX0_runStage 95 = .ok (.lload 13, 2) := by decide +kernel
theorem dX0_runStage_97 : decode cX0_runStage 97 = .ok (.lload 8, 2) := by decide +kernel
theorem dX0_runStage_99 : decode cX0_runStage 99 = .ok (.lmul, 1) := by decide +kernel
theorem dX0_runStage_100 : decode cX0_runStage 100 = .ok (.lload 10, 2) := by decide +kernel
theorem dX0_runStage_102 : decode cX0_runStage 102 = .ok (.ladd, 1) := by decide +kernel
theorem dX0_runStage_103 : decode cX0_runStage 103 = .ok (.goto 8, 3) := by decide +kernel
theorem dX0_runStage_106 : decode cX0_runStage 106 = .ok (.lload 13, 2) := by decide +kernel
theorem dX0_runStage_108 : decode cX0_runStage 108 = .ok (.lload 8, 2) := by decide +kernel
theorem dX0_runStage_110 : decode cX0_runStage 110 = .ok (.lmul, 1) := by decide +kernel
theorem dX0_runStage_111 : decode cX0_runStage 111 = .ok (.lstore 15, 2) := by decide +kernel
theorem dX0_runStage_113 : decode cX0_runStage 113 = .ok (.aload_n 0, 1) := by decide +kernel
theorem dX0_runStage_114 : decode cX0_runStage 114 = .ok (.iload_n 1, 1) := by decide +kernel
theorem dX0_runStage_115 : decode cX0_runStage 115 = .ok (.bipush 24, 2) := by decide +kernel
theorem dX0_runStage_117 : decode cX0_runStage 117 = .ok (.imul, 1) := by decide +kernel
theorem dX0_runStage_118 : decode cX0_runStage 118 = .ok (.iload 12, 2) := by decide +kernel
theorem dX0_runStage_120 : decode cX0_runStage 120 = .ok (.bipush 6, 2) := by decide +kernel
theorem dX0_runStage_122 : decode cX0_runStage 122 = .ok (.imul, 1) := by decide +kernel
theorem dX0_runStage_123 : decode cX0_runStage 123 = .ok (.iadd, 1) := by decide +kernel
theorem dX0_runStage_124 : decode cX0_runStage 124 = .ok (.iload_n 3, 1) := by decide +kernel
theorem dX0_runStage_125 : decode cX0_runStage 125 = .ok (.lload 13, 2) := by decide +kernel
theorem dX0_runStage_127 : decode cX0_runStage 127 = .ok (.lload 15, 2) := by decide +kernel
theorem dX0_runStage_129 : decode cX0_runStage 129 = .ok (.invokevirtual 79, 3) := by decide +kernel
theorem dX0_runStage_132 : decode cX0_runStage 132 = .ok (.iinc 12 1, 3) := by decide +kernel
theorem dX0_runStage_135 : decode cX0_runStage 135 = .ok (.goto (-71), 3) := by decide +kernel
theorem dX0_runStage_138 : decode cX0_runStage 138 = .ok (.aload_n 0, 1) := by decide +kernel
theorem dX0_runStage_139 : decode cX0_runStage 139 = .ok (.lconst 0, 1) := by decide +kernel
theorem dX0_runStage_140 : decode cX0_runStage 140 = .ok (.aload_n 0, 1) := by decide +kernel
theorem dX0_runStage_141 : decode cX0_runStage 141 = .ok (.getfield 44, 3) := by decide +kernel
theorem dX0_runStage_144 : decode cX0_runStage 144 = .ok (.iconst 2, 1) := by decide +kernel
theorem dX0_runStage_145 : decode cX0_runStage 145 = .ok (.iload_n 3, 1) := by decide +kernel
theorem dX0_runStage_146 : decode cX0_runStage 146 = .ok (.imul, 1) := by decide +kernel
theorem dX0_runStage_147 : decode cX0_runStage 147 = .ok (.i2l, 1) := by decide +kernel
theorem dX0_runStage_148 : decode cX0_runStage 148 = .ok (.lsub, 1) := by decide +kernel
theorem dX0_runStage_149 : decode cX0_runStage 149 = .ok (.invokestatic 83, 3) := by decide +kernel
theorem dX0_runStage_152 : decode cX0_runStage 152 = .ok (.putfield 44, 3) := by decide +kernel
theorem dX0_runStage_155 : decode cX0_runStage 155 = .ok (.return_, 1) := by decide +kernel
theorem dX0_runVessel_0 : decode cX0_runVessel 0 = .ok (.lload_n 3, 1) := by decide +kernel
theorem dX0_runVessel_1 : decode cX0_runVessel 1 = .ok (.lstore 7, 2) := by decide +kernel
theorem dX0_runVessel_3 : decode cX0_runVessel 3 = .ok (.lload 5, 2) := by decide +kernel
theorem dX0_runVessel_5 : decode cX0_runVessel 5 = .ok (.lstore 9, 2) := by decide +kernel
theorem dX0_runVessel_7 : decode cX0_runVessel 7 = .ok (.aload_n 0, 1) := by decide +kernel
theorem dX0_runVessel_8 : decode cX0_runVessel 8 = .ok (.getfield 44, 3) := by decide +kernel
theorem dX0_runVessel_11 : decode cX0_runVessel 11 = .ok (.lstore 11, 2) := by decide +kernel
theorem dX0_runVessel_13 : decode cX0_runVessel 13 = .ok (.iload_n 1, 1) := by decide +kernel
theorem dX0_runVessel_14 : decode cX0_runVessel 14 = .ok (.istore 13, 2) := by decide +kernel
theorem dX0_runVessel_16 : decode cX0_runVessel 16 = .ok (.iload 13, 2) := by decide +kernel
theorem dX0_runVessel_18 : decode cX0_runVessel 18 = .ok (.iload_n 1, 1) := by decide +kernel
theorem dX0_runVessel_19 : decode cX0_runVessel 19 = .ok (.iload_n 2, 1) := by decide +kernel
theorem dX0_runVessel_20 : decode cX0_runVessel 20 = .ok (.iadd, 1) := by decide +kernel
theorem dX0_runVessel_21 : decode cX0_runVessel 21 = .ok (.if_icmp .ge 174, 3) := by decide +kernel
theorem dX0_runVessel_24 : decode cX0_runVessel 24 = .ok (.iload 13, 2) := by decide +kernel
theorem dX0_runVessel_26 : decode cX0_runVessel 26 = .ok (.bipush 72, 2) := by decide +kernel
theorem dX0_runVessel_28 : decode cX0_runVessel 28 = .ok (.if_icmp .ge 167, 3) := by decide +kernel
theorem dX0_runVessel_31 : decode cX0_runVessel 31 = .ok (.aload_n 0, 1) := by decide +kernel
theorem dX0_runVessel_32 : decode cX0_runVessel 32 = .ok (.getfield 18, 3) := by decide +kernel
theorem dX0_runVessel_35 : decode cX0_runVessel 35 = .ok (.iload 13, 2) := by decide +kernel
theorem dX0_runVessel_37 : decode cX0_runVessel 37 = .ok (.lload 7, 2) := by decide +kernel
theorem dX0_runVessel_39 : decode cX0_runVessel 39 = .ok (.lastore, 1) := by decide +kernel
theorem dX0_runVessel_40 : decode cX0_runVessel 40 = .ok (.aload_n 0, 1) := by decide +kernel
theorem dX0_runVessel_41 : decode cX0_runVessel 41 = .ok (.getfield 22, 3) := by decide +kernel
theorem dX0_runVessel_44 : decode cX0_runVessel 44 = .ok (.iload 13, 2) := by decide +kernel
theorem dX0_runVessel_46 : decode cX0_runVessel 46 = .ok (.lload 9, 2) := by decide +kernel
theorem dX0_runVessel_48 : decode cX0_runVessel 48 = .ok (.lastore, 1) := by decide +kernel
theorem dX0_runVessel_49 : decode cX0_runVessel 49 = .ok (.aload_n 0, 1) := by decide +kernel
theorem dX0_runVessel_50 : decode cX0_runVessel 50 = .ok (.getfield 25, 3) := by decide +kernel
theorem dX0_runVessel_53 : decode cX0_runVessel 53 = .ok (.iload 13, 2) := by decide +kernel
theorem dX0_runVessel_55 : decode cX0_runVessel 55 = .ok (.lload 11, 2) := by decide +kernel
theorem dX0_runVessel_57 : decode cX0_runVessel 57 = .ok (.lastore, 1) := by decide +kernel
theorem dX0_runVessel_58 : decode cX0_runVessel 58 = .ok (.lload 7, 2) := by decide +kernel
theorem dX0_runVessel_60 : decode cX0_runVessel 60 = .ok (.lload 9, 2) := by decide +kernel
theorem dX0_runVessel_62 : decode cX0_runVessel 62 = .ok (.invokestatic 75, 3) := by decide +kernel
theorem dX0_runVessel_65 : decode cX0_runVessel 65 = .ok (.lstore 14, 2) := by decide +kernel
theorem dX0_runVessel_67 : decode cX0_runVessel 67 = .ok (.lconst 0, 1) := by decide +kernel
theorem dX0_runVessel_68 : decode cX0_runVessel 68 = .ok (.lload 11, 2) := by decide +kernel
theorem dX0_runVessel_70 : decode cX0_runVessel 70 = .ok (.lload 14, 2) := by decide +kernel
theorem dX0_runVessel_72 : decode cX0_runVessel 72 = .ok (.ldc2_w 88, 3) := by decide +kernel
theorem dX0_runVessel_75 : decode cX0_runVessel 75 = .ok (.ldiv, 1) := by decide +kernel
theorem dX0_runVessel_76 : decode cX0_runVessel 76 = .ok (.lsub, 1) := by decide +kernel
theorem dX0_runVessel_77 : decode cX0_runVessel 77 = .ok (.invokestatic 83, 3) := by decide +kernel
theorem dX0_runVessel_80 : decode cX0_runVessel 80 = .ok (.lstore 16, 2) := by decide +kernel
theorem dX0_runVessel_82 : decode cX0_runVessel 82 = .ok (.aload_n 0, 1) := by decide +kernel
theorem dX0_runVessel_83 : decode cX0_runVessel 83 = .ok (.getfield 28, 3) := by decide +kernel
theorem dX0_runVessel_86 : decode cX0_runVessel 86 = .ok (.iload 13, 2) := by decide +kernel
theorem dX0_runVessel_88 : decode cX0_runVessel 88 = .ok (.lload 7, 2) := by decide +kernel
theorem dX0_runVessel_90 : decode cX0_runVessel 90 = .ok (.lload 16, 2) := by decide +kernel
theorem dX0_runVessel_92 : decode cX0_runVessel 92 = .ok (.aload_n 0, 1) := by decide +kernel
theorem dX0_runVessel_93 : decode cX0_runVessel 93 = .ok (.getfield 9, 3) := by decide +kernel
theorem dX0_runVessel_96 : decode cX0_runVessel 96 = .ok (.iload 13, 2) := by decide +kernel
theorem dX0_runVessel_98 : decode cX0_runVessel 98 = .ok (.iaload, 1) := by decide +kernel
theorem dX0_runVessel_99 : decode cX0_runVessel 99 = .ok (.i2l, 1) := by decide +kernel
theorem dX0_runVessel_100 : decode cX0_runVessel 100 = .ok (.lmul, 1) := by decide +kernel
theorem dX0_runVessel_101 : decode cX0_runVessel 101 = .ok (.ldc2_w 88, 3) := by decide +kernel
theorem dX0_runVessel_104 : decode cX0_runVessel 104 = .ok (.ldiv, 1) := by decide +kernel
theorem dX0_runVessel_105 : decode cX0_runVessel 105 = .ok (.invokestatic 90, 3) := by decide +kernel
theorem dX0_runVessel_108 : decode cX0_runVessel 108 = .ok (.lastore, 1) := by decide +kernel
theorem dX0_runVessel_109 : decode cX0_runVessel 109 = .ok (.aload_n 0, 1) := by decide +kernel
theorem dX0_runVessel_110 : decode cX0_runVessel 110 = .ok (.getfield 31, 3) := by decide +kernel
theorem dX0_runVessel_113 : decode cX0_runVessel 113 = .ok (.iload 13, 2) := by decide +kernel
theorem dX0_runVessel_115 : decode cX0_runVessel 115 = .ok (.lload 14, 2) := by decide +kernel
theorem dX0_runVessel_117 : decode cX0_runVessel 117 = .ok (.aload_n 0, 1) := by decide +kernel
theorem dX0_runVessel_118 : decode cX0_runVessel 118 = .ok (.getfield 15, 3) := by decide +kernel
theorem dX0_runVessel_121 : decode cX0_runVessel 121 = .ok (.iload 13, 2) := by decide +kernel
theorem dX0_runVessel_123 : decode cX0_runVessel 123 = .ok (.iaload, 1) := by decide +kernel
theorem dX0_runVessel_124 : decode cX0_runVessel 124 = .ok (.i2l, 1) := by decide +kernel
theorem dX0_runVessel_125 : decode cX0_runVessel 125 = .ok (.lmul, 1) := by decide +kernel
theorem dX0_runVessel_126 : decode cX0_runVessel 126 = .ok (.ldc2_w 93, 3) := by decide +kernel
theorem dX0_runVessel_129 : decode cX0_runVessel 129 = .ok (.ldiv, 1) := by decide +kernel
theorem dX0_runVessel_130 : decode cX0_runVessel 130 = .ok (.lastore, 1) := by decide +kernel
theorem dX0_runVessel_131 : decode cX0_runVessel 131 = .ok (.aload_n 0, 1) := by decide +kernel
theorem dX0_runVessel_132 : decode cX0_runVessel 132 = .ok (.getfield 34, 3) := by decide +kernel
theorem dX0_runVessel_135 : decode cX0_runVessel 135 = .ok (.iload 13, 2) := by decide +kernel
theorem dX0_runVessel_137 : decode cX0_runVessel 137 = .ok (.aload_n 0, 1) := by decide +kernel
theorem dX0_runVessel_138 : decode cX0_runVessel 138 = .ok (.getfield 28, 3) := by decide +kernel
theorem dX0_runVessel_141 : decode cX0_runVessel 141 = .ok (.iload 13, 2) := by decide +kernel
theorem dX0_runVessel_143 : decode cX0_runVessel 143 = .ok (.laload, 1) := by decide +kernel
theorem dX0_runVessel_144 : decode cX0_runVessel 144 = .ok (.aload_n 0, 1) := by decide +kernel
theorem dX0_runVessel_145 : decode cX0_runVessel 145 = .ok (.getfield 31, 3) := by decide +kernel
theorem dX0_runVessel_148 : decode cX0_runVessel 148 = .ok (.iload 13, 2) := by decide +kernel
theorem dX0_runVessel_150 : decode cX0_runVessel 150 = .ok (.laload, 1) := by decide +kernel
theorem dX0_runVessel_151 : decode cX0_runVessel 151 = .ok (.lmul, 1) := by decide +kernel
theorem dX0_runVessel_152 : decode cX0_runVessel 152 = .ok (.lastore, 1) := by decide +kernel
theorem dX0_runVessel_153 : decode cX0_runVessel 153 = .ok (.lload 7, 2) := by decide +kernel
theorem dX0_runVessel_155 : decode cX0_runVessel 155 = .ok (.aload_n 0, 1) := by decide +kernel
theorem dX0_runVessel_156 : decode cX0_runVessel 156 = .ok (.getfield 28, 3) := by decide +kernel
theorem dX0_runVessel_159 : decode cX0_runVessel 159 = .ok (.iload 13, 2) := by decide +kernel
theorem dX0_runVessel_161 : decode cX0_runVessel 161 = .ok (.laload, 1) := by decide +kernel
theorem dX0_runVessel_162 : decode cX0_runVessel 162 = .ok (.lsub, 1) := by decide +kernel
theorem dX0_runVessel_163 : decode cX0_runVessel 163 = .ok (.lstore 7, 2) := by decide +kernel
theorem dX0_runVessel_165 : decode cX0_runVessel 165 = .ok (.lload 9, 2) := by decide +kernel
theorem dX0_runVessel_167 : decode cX0_runVessel 167 = .ok (.aload_n 0, 1) := by decide +kernel
theorem dX0_runVessel_168 : decode cX0_runVessel 168 = .ok (.getfield 34, 3) := by decide +kernel
theorem dX0_runVessel_171 : decode cX0_runVessel 171 = .ok (.iload 13, 2) := by decide +kernel
theorem dX0_runVessel_173 : decode cX0_runVessel 173 = .ok (.laload, 1) := by decide +kernel
theorem dX0_runVessel_174 : decode cX0_runVessel 174 = .ok (.lsub, 1) := by decide +kernel
theorem dX0_runVessel_175 : decode cX0_runVessel 175 = .ok (.lstore 9, 2) := by decide +kernel
theorem dX0_runVessel_177 : decode cX0_runVessel 177 = .ok (.lconst 0, 1) := by decide +kernel
theorem dX0_runVessel_178 : decode cX0_runVessel 178 = .ok (.lload 11, 2) := by decide +kernel
theorem dX0_runVessel_180 : decode cX0_runVessel 180 = .ok (.ldc2_w 95, 3) := by decide +kernel
theorem dX0_runVessel_183 : decode cX0_runVessel 183 = .ok (.lsub, 1) := by decide +kernel
theorem dX0_runVessel_184 : decode cX0_runVessel 184 = .ok (.invokestatic 83, 3) := by decide +kernel
theorem dX0_runVessel_187 : decode cX0_runVessel 187 = .ok (.lstore 11, 2) := by decide +kernel
theorem dX0_runVessel_189 : decode cX0_runVessel 189 = .ok (.iinc 13 1, 3) := by decide +kernel
theorem dX0_runVessel_192 : decode cX0_runVessel 192 = .ok (.goto (-176), 3) := by decide +kernel
theorem dX0_runVessel_195 : decode cX0_runVessel 195 = .ok (.aload_n 0, 1) := by decide +kernel
theorem dX0_runVessel_196 : decode cX0_runVessel 196 = .ok (.dup, 1) := by decide +kernel
theorem dX0_runVessel_197 : decode cX0_runVessel 197 = .ok (.getfield 37, 3) := by decide +kernel
theorem dX0_runVessel_200 : decode cX0_runVessel 200 = .ok (.lload 7, 2) := by decide +kernel
theorem dX0_runVessel_202 : decode cX0_runVessel 202 = .ok (.ladd, 1) := by decide +kernel
theorem dX0_runVessel_203 : decode cX0_runVessel 203 = .ok (.putfield 37, 3) := by decide +kernel
theorem dX0_runVessel_206 : decode cX0_runVessel 206 = .ok (.aload_n 0, 1) := by decide +kernel
theorem dX0_runVessel_207 : decode cX0_runVessel 207 = .ok (.dup, 1) := by decide +kernel
theorem dX0_runVessel_208 : decode cX0_runVessel 208 = .ok (.getfield 41, 3) := by decide +kernel
theorem dX0_runVessel_211 : decode cX0_runVessel 211 = .ok (.lload 9, 2) := by decide +kernel
theorem dX0_runVessel_213 : decode cX0_runVessel 213 = .ok (.ladd, 1) := by decide +kernel
theorem dX0_runVessel_214 : decode cX0_runVessel 214 = .ok (.putfield 41, 3) := by decide +kernel
theorem dX0_runVessel_217 : decode cX0_runVessel 217 = .ok (.return_, 1) := by decide +kernel
theorem dX0_firstFailure_0 : decode cX0_firstFailure 0 = .ok (.iconst 0, 1) := by decide +kernel
theorem dX0_firstFailure_1 : decode cX0_firstFailure 1 = .ok (.istore 4, 2) := by decide +kernel
theorem dX0_firstFailure_3 : decode cX0_firstFailure 3 = .ok (.iload 4, 2) := by decide +kernel
theorem dX0_firstFailure_5 : decode cX0_firstFailure 5 = .ok (.bipush 72, 2) := by decide +kernel
theorem dX0_firstFailure_7 : decode cX0_firstFailure 7 = .ok (.if_icmp .ge 80, 3) := by decide +kernel
theorem dX0_firstFailure_10 : decode cX0_firstFailure 10 = .ok (.aload_n 1, 1) := by decide +kernel
theorem dX0_firstFailure_11 : decode cX0_firstFailure 11 = .ok (.iload 4, 2) := by decide +kernel
theorem dX0_firstFailure_13 : decode cX0_firstFailure 13 = .ok (.invokevirtual 97, 3) := by decide +kernel
theorem dX0_firstFailure_16 : decode cX0_firstFailure 16 = .ok (.ifCond .eq 65, 3) := by decide +kernel
theorem dX0_firstFailure_19 : decode cX0_firstFailure 19 = .ok (.aload_n 0, 1) := by decide +kernel
theorem dX0_firstFailure_20 : decode cX0_firstFailure 20 = .ok (.getfield 18, 3) := by decide +kernel
theorem dX0_firstFailure_23 : decode cX0_firstFailure 23 = .ok (.iload 4, 2) := by decide +kernel
theorem dX0_firstFailure_25 : decode cX0_firstFailure 25 = .ok (.laload, 1) := by decide +kernel
theorem dX0_firstFailure_26 : decode cX0_firstFailure 26 = .ok (.aload_n 0, 1) := by decide +kernel
theorem dX0_firstFailure_27 : decode cX0_firstFailure 27 = .ok (.getfield 28, 3) := by decide +kernel
theorem dX0_firstFailure_30 : decode cX0_firstFailure 30 = .ok (.iload 4, 2) := by decide +kernel
theorem dX0_firstFailure_32 : decode cX0_firstFailure 32 = .ok (.laload, 1) := by decide +kernel
theorem dX0_firstFailure_33 : decode cX0_firstFailure 33 = .ok (.lsub, 1) := by decide +kernel
theorem dX0_firstFailure_34 : decode cX0_firstFailure 34 = .ok (.iload_n 2, 1) := by decide +kernel
theorem dX0_firstFailure_35 : decode cX0_firstFailure 35 = .ok (.i2l, 1) := by decide +kernel
theorem dX0_firstFailure_36 : decode cX0_firstFailure 36 = .ok (.lcmp, 1) := by decide +kernel
theorem dX0_firstFailure_37 : decode cX0_firstFailure 37 = .ok (.ifCond .ge 16, 3) := by decide +kernel
theorem dX0_firstFailure_40 : decode cX0_firstFailure 40 = .ok (.ldc2_w 101, 3) := by decide +kernel
theorem dX0_firstFailure_43 : decode cX0_firstFailure 43 = .ok (.iload 4, 2) := by decide +kernel
theorem dX0_firstFailure_45 : decode cX0_firstFailure 45 = .ok (.invokestatic 103, 3) := by decide +kernel
theorem dX0_firstFailure_48 : decode cX0_firstFailure 48 = .ok (.i2l, 1) := by decide +kernel
theorem dX0_firstFailure_49 : decode cX0_firstFailure 49 = .ok (.lmul, 1) := by decide +kernel
theorem dX0_firstFailure_50 : decode cX0_firstFailure 50 = .ok (.lconst 1, 1) := by decide +kernel
theorem dX0_firstFailure_51 : decode cX0_firstFailure 51 = .ok (.ladd, 1) := by decide +kernel
theorem dX0_firstFailure_52 : decode cX0_firstFailure 52 = .ok (.lreturn, 1) := by decide +kernel
theorem dX0_firstFailure_53 : decode cX0_firstFailure 53 = .ok (.aload_n 0, 1) := by decide +kernel
theorem dX0_firstFailure_54 : decode cX0_firstFailure 54 = .ok (.getfield 28, 3) := by decide +kernel
theorem dX0_firstFailure_57 : decode cX0_firstFailure 57 = .ok (.iload 4, 2) := by decide +kernel
theorem dX0_firstFailure_59 : decode cX0_firstFailure 59 = .ok (.laload, 1) := by decide +kernel
theorem dX0_firstFailure_60 : decode cX0_firstFailure 60 = .ok (.iload_n 3, 1) := by decide +kernel
theorem dX0_firstFailure_61 : decode cX0_firstFailure 61 = .ok (.i2l, 1) := by decide +kernel
theorem dX0_firstFailure_62 : decode cX0_firstFailure 62 = .ok (.lcmp, 1) := by decide +kernel
theorem dX0_firstFailure_63 : decode cX0_firstFailure 63 = .ok (.ifCond .le 18, 3) := by decide +kernel
theorem dX0_firstFailure_66 : decode cX0_firstFailure 66 = .ok (.ldc2_w 101, 3) := by decide +kernel
theorem dX0_firstFailure_69 : decode cX0_firstFailure 69 = .ok (.iload 4, 2) := by decide +kernel
theorem dX0_firstFailure_71 : decode cX0_firstFailure 71 = .ok (.invokestatic 103, 3) := by decide +kernel
theorem dX0_firstFailure_74 : decode cX0_firstFailure 74 = .ok (.i2l, 1) := by decide +kernel
theorem dX0_firstFailure_75 : decode cX0_firstFailure 75 = .ok (.lmul, 1) := by decide +kernel
theorem dX0_firstFailure_76 : decode cX0_firstFailure 76 = .ok (.ldc2_w 95, 3) := by decide +kernel
theorem dX0_firstFailure_79 : decode cX0_firstFailure 79 = .ok (.ladd, 1) := by decide +kernel
theorem dX0_firstFailure_80 : decode cX0_firstFailure 80 = .ok (.lreturn, 1) := by decide +kernel
theorem dX0_firstFailure_81 : decode cX0_firstFailure 81 = .ok (.iinc 4 1, 3) := by decide +kernel
theorem dX0_firstFailure_84 : decode cX0_firstFailure 84 = .ok (.goto (-81), 3) := by decide +kernel
theorem dX0_firstFailure_87 : decode cX0_firstFailure 87 = .ok (.ldc2_w 106, 3) := by decide +kernel
theorem dX0_firstFailure_90 : decode cX0_firstFailure 90 = .ok (.lreturn, 1) := by decide +kernel
theorem dX1_init_0 : decode cX1_init 0 = .ok (.aload_n 0, 1) := by decide +kernel
theorem dX1_init_1 : decode cX1_init 1 = .ok (.invokespecial 1, 3) := by decide +kernel
theorem dX1_init_4 : decode cX1_init 4 = .ok (.aload_n 0, 1) := by decide +kernel
theorem dX1_init_5 : decode cX1_init 5 = .ok (.bipush 12, 2) := by decide +kernel
theorem dX1_init_7 : decode cX1_init 7 = .ok (.newarray .int, 2) := by decide +kernel
theorem dX1_init_9 : decode cX1_init 9 = .ok (.putfield 9, 3) := by decide +kernel
theorem dX1_init_12 : decode cX1_init 12 = .ok (.aload_n 0, 1) := by decide +kernel
theorem dX1_init_13 : decode cX1_init 13 = .ok (.bipush 12, 2) := by decide +kernel
theorem dX1_init_15 : decode cX1_init 15 = .ok (.newarray .int, 2) := by decide +kernel
theorem dX1_init_17 : decode cX1_init 17 = .ok (.putfield 13, 3) := by decide +kernel
theorem dX1_init_20 : decode cX1_init 20 = .ok (.aload_n 0, 1) := by decide +kernel
theorem dX1_init_21 : decode cX1_init 21 = .ok (.sipush 201, 3) := by decide +kernel
theorem dX1_init_24 : decode cX1_init 24 = .ok (.newarray .int, 2) := by decide +kernel
theorem dX1_init_26 : decode cX1_init 26 = .ok (.putfield 16, 3) := by decide +kernel
theorem dX1_init_29 : decode cX1_init 29 = .ok (.aload_n 0, 1) := by decide +kernel
theorem dX1_init_30 : decode cX1_init 30 = .ok (.sipush 201, 3) := by decide +kernel
theorem dX1_init_33 : decode cX1_init 33 = .ok (.newarray .int, 2) := by decide +kernel
theorem dX1_init_35 : decode cX1_init 35 = .ok (.putfield 19, 3) := by decide +kernel
theorem dX1_init_38 : decode cX1_init 38 = .ok (.return_, 1) := by decide +kernel
theorem dX1_mostOf_0 : decode cX1_mostOf 0 = .ok (.iload_n 0, 1) := by decide +kernel
theorem dX1_mostOf_1 : decode cX1_mostOf 1 = .ok (.ifCond .ne 8, 3) := by decide +kernel
theorem dX1_mostOf_4 : decode cX1_mostOf 4 = .ok (.bipush 99, 2) := by decide +kernel
theorem dX1_mostOf_6 : decode cX1_mostOf 6 = .ok (.goto 6, 3) := by decide +kernel
theorem dX1_mostOf_9 : decode cX1_mostOf 9 = .ok (.sipush 999, 3) := by decide +kernel
theorem dX1_mostOf_12 : decode cX1_mostOf 12 = .ok (.ireturn, 1) := by decide +kernel
theorem dX1_rowOf_0 : decode cX1_rowOf 0 = .ok (.iload_n 1, 1) := by decide +kernel
theorem dX1_rowOf_1 : decode cX1_rowOf 1 = .ok (.ifCond .ne 10, 3) := by decide +kernel
theorem dX1_rowOf_4 : decode cX1_rowOf 4 = .ok (.aload_n 0, 1) := by decide +kernel
theorem dX1_rowOf_5 : decode cX1_rowOf 5 = .ok (.getfield 9, 3) := by decide +kernel
theorem dX1_rowOf_8 : decode cX1_rowOf 8 = .ok (.goto 7, 3) := by decide +kernel
theorem dX1_rowOf_11 : decode cX1_rowOf 11 = .ok (.aload_n 0, 1) := by decide +kernel
theorem dX1_rowOf_12 : decode cX1_rowOf 12 = .ok (.getfield 13, 3) := by decide +kernel
theorem dX1_rowOf_15 : decode cX1_rowOf 15 = .ok (.areturn, 1) := by decide +kernel
theorem dX1_isPlan_0 : decode cX1_isPlan 0 = .ok (.iload_n 0, 1) := by decide +kernel
theorem dX1_isPlan_1 : decode cX1_isPlan 1 = .ok (.ldc 22, 2) := by decide +kernel
theorem dX1_isPlan_3 : decode cX1_isPlan 3 = .ok (.if_icmp .ge 7, 3) := by decide +kernel
theorem dX1_isPlan_6 : decode cX1_isPlan 6 = .ok (.iconst 1, 1) := by decide +kernel
theorem dX1_isPlan_7 : decode cX1_isPlan 7 = .ok (.goto 4, 3) := by decide +kernel
theorem dX1_isPlan_10 : decode cX1_isPlan 10 = .ok (.iconst 0, 1) := by decide +kernel
theorem dX1_isPlan_11 : decode cX1_isPlan 11 = .ok (.ireturn, 1) := by decide +kernel
theorem dX1_costOf_0 : decode cX1_costOf 0 = .ok (.iload_n 0, 1) := by decide +kernel
theorem dX1_costOf_1 : decode cX1_costOf 1 = .ok (.bipush 12, 2) := by decide +kernel
theorem dX1_costOf_3 : decode cX1_costOf 3 = .ok (.ishr, 1) := by decide +kernel
theorem dX1_costOf_4 : decode cX1_costOf 4 = .ok (.ireturn, 1) := by decide +kernel
theorem dX1_runsAt_0 : decode cX1_runsAt 0 = .ok (.iload_n 0, 1) := by decide +kernel
theorem dX1_runsAt_1 : decode cX1_runsAt 1 = .ok (.bipush 11, 2) := by decide +kernel
theorem dX1_runsAt_3 : decode cX1_runsAt 3 = .ok (.iload_n 1, 1) := by decide +kernel
theorem dX1_runsAt_4 : decode cX1_runsAt 4 = .ok (.isub, 1) := by decide +kernel
theorem dX1_runsAt_5 : decode cX1_runsAt 5 = .ok (.ishr, 1) := by decide +kernel
theorem dX1_runsAt_6 : decode cX1_runsAt 6 = .ok (.iconst 1, 1) := by decide +kernel
theorem dX1_runsAt_7 : decode cX1_runsAt 7 = .ok (.iand, 1) := by decide +kernel
theorem dX1_runsAt_8 : decode cX1_runsAt 8 = .ok (.iconst 1, 1) := by decide +kernel
theorem dX1_runsAt_9 : decode cX1_runsAt 9 = .ok (.if_icmp .ne 7, 3) := by decide +kernel
theorem dX1_runsAt_12 : decode cX1_runsAt 12 = .ok (.iconst 1, 1) := by decide +kernel
theorem dX1_runsAt_13 : decode cX1_runsAt 13 = .ok (.goto 4, 3) := by decide +kernel
theorem dX1_runsAt_16 : decode cX1_runsAt 16 = .ok (.iconst 0, 1) := by decide +kernel
theorem dX1_runsAt_17 : decode cX1_runsAt 17 = .ok (.ireturn, 1) := by decide +kernel
theorem dX1_bitsOf_0 : decode cX1_bitsOf 0 = .ok (.iconst 0, 1) := by decide +kernel
theorem dX1_bitsOf_1 : decode cX1_bitsOf 1 = .ok (.istore_n 1, 1) := by decide +kernel
theorem dX1_bitsOf_2 : decode cX1_bitsOf 2 = .ok (.iconst 0, 1) := by decide +kernel
theorem dX1_bitsOf_3 : decode cX1_bitsOf 3 = .ok (.istore_n 2, 1) := by decide +kernel
theorem dX1_bitsOf_4 : decode cX1_bitsOf 4 = .ok (.iload_n 2, 1) := by decide +kernel
theorem dX1_bitsOf_5 : decode cX1_bitsOf 5 = .ok (.bipush 12, 2) := by decide +kernel
theorem dX1_bitsOf_7 : decode cX1_bitsOf 7 = .ok (.if_icmp .ge 27, 3) := by decide +kernel
theorem dX1_bitsOf_10 : decode cX1_bitsOf 10 = .ok (.iload_n 1, 1) := by decide +kernel
theorem dX1_bitsOf_11 : decode cX1_bitsOf 11 = .ok (.iload_n 0, 1) := by decide +kernel
theorem dX1_bitsOf_12 : decode cX1_bitsOf 12 = .ok (.iload_n 2, 1) := by decide +kernel
theorem dX1_bitsOf_13 : decode cX1_bitsOf 13 = .ok (.invokestatic 23, 3) := by decide +kernel
theorem dX1_bitsOf_16 : decode cX1_bitsOf 16 = .ok (.ifCond .eq 9, 3) := by decide +kernel
theorem dX1_bitsOf_19 : decode cX1_bitsOf 19 = .ok (.iconst 1, 1) := by decide +kernel
theorem dX1_bitsOf_20 : decode cX1_bitsOf 20 = .ok (.iload_n 2, 1) := by decide +kernel
theorem dX1_bitsOf_21 : decode cX1_bitsOf 21 = .ok (.ishl, 1) := by decide +kernel
theorem dX1_bitsOf_22 : decode cX1_bitsOf 22 = .ok (.goto 4, 3) := by decide +kernel
theorem dX1_bitsOf_25 : decode cX1_bitsOf 25 = .ok (.iconst 0, 1) := by decide +kernel
theorem dX1_bitsOf_26 : decode cX1_bitsOf 26 = .ok (.ior, 1) := by decide +kernel
theorem dX1_bitsOf_27 : decode cX1_bitsOf 27 = .ok (.istore_n 1, 1) := by decide +kernel
theorem dX1_bitsOf_28 : decode cX1_bitsOf 28 = .ok (.iinc 2 1, 3) := by decide +kernel
theorem dX1_bitsOf_31 : decode cX1_bitsOf 31 = .ok (.goto (-27), 3) := by decide +kernel
theorem dX1_bitsOf_34 : decode cX1_bitsOf 34 = .ok (.iload_n 1, 1) := by decide +kernel
theorem dX1_bitsOf_35 : decode cX1_bitsOf 35 = .ok (.ireturn, 1) := by decide +kernel
theorem dX1_behind_0 : decode cX1_behind 0 = .ok (.iload_n 3, 1) := by decide +kernel
theorem dX1_behind_1 : decode cX1_behind 1 = .ok (.iload_n 2, 1) := by decide +kernel
theorem dX1_behind_2 : decode cX1_behind 2 = .ok (.aload_n 0, 1) := by decide +kernel
theorem dX1_behind_3 : decode cX1_behind 3 = .ok (.getfield 13, 3) := by decide +kernel
theorem dX1_behind_6 : decode cX1_behind 6 = .ok (.iload_n 1, 1) := by decide +kernel
theorem dX1_behind_7 : decode cX1_behind 7 = .ok (.iaload, 1) := by decide +kernel
theorem dX1_behind_8 : decode cX1_behind 8 = .ok (.isub, 1) := by decide +kernel
theorem dX1_behind_9 : decode cX1_behind 9 = .ok (.invokestatic 27, 3) := by decide +kernel
theorem dX1_behind_12 : decode cX1_behind 12 = .ok (.ireturn, 1) := by decide +kernel
theorem dX1_best_0 : decode cX1_best 0 = .ok (.aload_n 0, 1) := by decide +kernel
theorem dX1_best_1 : decode cX1_best 1 = .ok (.getfield 19, 3) := by decide +kernel
theorem dX1_best_4 : decode cX1_best 4 = .ok (.iconst 0, 1) := by decide +kernel
theorem dX1_best_5 : decode cX1_best 5 = .ok (.invokestatic 33, 3) := by decide +kernel
theorem dX1_best_8 : decode cX1_best 8 = .ok (.bipush 11, 2) := by decide +kernel
theorem dX1_best_10 : decode cX1_best 10 = .ok (.istore 4, 2) := by decide +kernel
theorem dX1_best_12 : decode cX1_best 12 = .ok (.iload 4, 2) := by decide +kernel
theorem dX1_best_14 : decode cX1_best 14 = .ok (.ifCond .lt 122, 3) := by decide +kernel
theorem dX1_best_17 : decode cX1_best 17 = .ok (.aload_n 0, 1) := by decide +kernel
theorem dX1_best_18 : decode cX1_best 18 = .ok (.getfield 9, 3) := by decide +kernel
theorem dX1_best_21 : decode cX1_best 21 = .ok (.iload 4, 2) := by decide +kernel
theorem dX1_best_23 : decode cX1_best 23 = .ok (.iaload, 1) := by decide +kernel
theorem dX1_best_24 : decode cX1_best 24 = .ok (.bipush 12, 2) := by decide +kernel
theorem dX1_best_26 : decode cX1_best 26 = .ok (.ishl, 1) := by decide +kernel
theorem dX1_best_27 : decode cX1_best 27 = .ok (.iconst 1, 1) := by decide +kernel
theorem dX1_best_28 : decode cX1_best 28 = .ok (.bipush 11, 2) := by decide +kernel
theorem dX1_best_30 : decode cX1_best 30 = .ok (.iload 4, 2) := by decide +kernel
theorem dX1_best_32 : decode cX1_best 32 = .ok (.isub, 1) := by decide +kernel
theorem dX1_best_33 : decode cX1_best 33 = .ok (.ishl, 1) := by decide +kernel
theorem dX1_best_34 : decode cX1_best 34 = .ok (.iadd, 1) := by decide +kernel
theorem dX1_best_35 : decode cX1_best 35 = .ok (.istore 5, 2) := by decide +kernel
theorem dX1_best_37 : decode cX1_best 37 = .ok (.iconst 0, 1) := by decide +kernel
theorem dX1_best_38 : decode cX1_best 38 = .ok (.istore 6, 2) := by decide +kernel
theorem dX1_best_40 : decode cX1_best 40 = .ok (.iload 6, 2) := by decide +kernel
theorem dX1_best_42 : decode cX1_best 42 = .ok (.iload_n 2, 1) := by decide +kernel
theorem dX1_best_43 : decode cX1_best 43 = .ok (.if_icmp .gt 71, 3) := by decide +kernel
theorem dX1_best_46 : decode cX1_best 46 = .ok (.iload 6, 2) := by decide +kernel
theorem dX1_best_48 : decode cX1_best 48 = .ok (.sipush 200, 3) := by decide +kernel
theorem dX1_best_51 : decode cX1_best 51 = .ok (.if_icmp .gt 63, 3) := by decide +kernel
theorem dX1_best_54 : decode cX1_best 54 = .ok (.aload_n 0, 1) := by decide +kernel
theorem dX1_best_55 : decode cX1_best 55 = .ok (.aload_n 0, 1) := by decide +kernel
theorem dX1_best_56 : decode cX1_best 56 = .ok (.iload 4, 2) := by decide +kernel
theorem dX1_best_58 : decode cX1_best 58 = .ok (.iload 6, 2) := by decide +kernel
theorem dX1_best_60 : decode cX1_best 60 = .ok (.iload_n 2, 1) := by decide +kernel
theorem dX1_best_61 : decode cX1_best 61 = .ok (.invokevirtual 39, 3) := by decide +kernel
theorem dX1_best_64 : decode cX1_best 64 = .ok (.invokevirtual 43, 3) := by decide +kernel
theorem dX1_best_67 : decode cX1_best 67 = .ok (.istore 7, 2) := by decide +kernel
theorem dX1_best_69 : decode cX1_best 69 = .ok (.aload_n 0, 1) := by decide +kernel
theorem dX1_best_70 : decode cX1_best 70 = .ok (.aload_n 0, 1) := by decide +kernel
theorem dX1_best_71 : decode cX1_best 71 = .ok (.iload 4, 2) := by decide +kernel
theorem dX1_best_73 : decode cX1_best 73 = .ok (.iload 6, 2) := by decide +kernel
theorem dX1_best_75 : decode cX1_best 75 = .ok (.iload_n 3, 1) := by decide +kernel
theorem dX1_best_76 : decode cX1_best 76 = .ok (.iadd, 1) := by decide +kernel
theorem dX1_best_77 : decode cX1_best 77 = .ok (.iload_n 2, 1) := by decide +kernel
theorem dX1_best_78 : decode cX1_best 78 = .ok (.invokevirtual 39, 3) := by decide +kernel
theorem dX1_best_81 : decode cX1_best 81 = .ok (.invokevirtual 43, 3) := by decide +kernel
theorem dX1_best_84 : decode cX1_best 84 = .ok (.iload 5, 2) := by decide +kernel
theorem dX1_best_86 : decode cX1_best 86 = .ok (.iadd, 1) := by decide +kernel
theorem dX1_best_87 : decode cX1_best 87 = .ok (.istore 8, 2) := by decide +kernel
theorem dX1_best_89 : decode cX1_best 89 = .ok (.aload_n 0, 1) := by decide +kernel
theorem dX1_best_90 : decode cX1_best 90 = .ok (.getfield 16, 3) := by decide +kernel
theorem dX1_best_93 : decode cX1_best 93 = .ok (.iload 6, 2) := by decide +kernel
theorem dX1_best_95 : decode cX1_best 95 = .ok (.ldc 22, 2) := by decide +kernel
theorem dX1_best_97 : decode cX1_best 97 = .ok (.iload 7, 2) := by decide +kernel
theorem dX1_best_99 : decode cX1_best 99 = .ok (.iload 8, 2) := by decide +kernel
theorem dX1_best_101 : decode cX1_best 101 = .ok (.invokestatic 27, 3) := by decide +kernel
theorem dX1_best_104 : decode cX1_best 104 = .ok (.invokestatic 27, 3) := by decide +kernel
theorem dX1_best_107 : decode cX1_best 107 = .ok (.iastore, 1) := by decide +kernel
theorem dX1_best_108 : decode cX1_best 108 = .ok (.iinc 6 1, 3) := by decide +kernel
theorem dX1_best_111 : decode cX1_best 111 = .ok (.goto (-71), 3) := by decide +kernel
theorem dX1_best_114 : decode cX1_best 114 = .ok (.aload_n 0, 1) := by decide +kernel
theorem dX1_best_115 : decode cX1_best 115 = .ok (.getfield 16, 3) := by decide +kernel
theorem dX1_best_118 : decode cX1_best 118 = .ok (.iconst 0, 1) := by decide +kernel
theorem dX1_best_119 : decode cX1_best 119 = .ok (.aload_n 0, 1) := by decide +kernel
theorem dX1_best_120 : decode cX1_best 120 = .ok (.getfield 19, 3) := by decide +kernel
theorem dX1_best_123 : decode cX1_best 123 = .ok (.iconst 0, 1) := by decide +kernel
theorem dX1_best_124 : decode cX1_best 124 = .ok (.sipush 201, 3) := by decide +kernel
theorem dX1_best_127 : decode cX1_best 127 = .ok (.invokestatic 47, 3) := by decide +kernel
theorem dX1_best_130 : decode cX1_best 130 = .ok (.iinc 4 (-1), 3) := by decide +kernel
theorem dX1_best_133 : decode cX1_best 133 = .ok (.goto (-121), 3) := by decide +kernel
theorem dX1_best_136 : decode cX1_best 136 = .ok (.aload_n 0, 1) := by decide +kernel
theorem dX1_best_137 : decode cX1_best 137 = .ok (.iload_n 1, 1) := by decide +kernel
theorem dX1_best_138 : decode cX1_best 138 = .ok (.invokevirtual 43, 3) := by decide +kernel
theorem dX1_best_141 : decode cX1_best 141 = .ok (.ireturn, 1) := by decide +kernel
theorem dX1_laterAt_0 : decode cX1_laterAt 0 = .ok (.iload_n 1, 1) := by decide +kernel
theorem dX1_laterAt_1 : decode cX1_laterAt 1 = .ok (.ifCond .lt 10, 3) := by decide +kernel
theorem dX1_laterAt_4 : decode cX1_laterAt 4 = .ok (.iload_n 1, 1) := by decide +kernel
theorem dX1_laterAt_5 : decode cX1_laterAt 5 = .ok (.sipush 200, 3) := by decide +kernel
theorem dX1_laterAt_8 : decode cX1_laterAt 8 = .ok (.if_icmp .le 8, 3) := by decide +kernel
theorem dX1_laterAt_11 : decode cX1_laterAt 11 = .ok (.ldc 22, 2) := by decide +kernel
theorem dX1_laterAt_13 : decode cX1_laterAt 13 = .ok (.goto 9, 3) := by decide +kernel
theorem dX1_laterAt_16 : decode cX1_laterAt 16 = .ok (.aload_n 0, 1) := by decide +kernel
theorem dX1_laterAt_17 : decode cX1_laterAt 17 = .ok (.getfield 19, 3) := by decide +kernel
theorem dX1_laterAt_20 : decode cX1_laterAt 20 = .ok (.iload_n 1, 1) := by decide +kernel
theorem dX1_laterAt_21 : decode cX1_laterAt 21 = .ok (.iaload, 1) := by decide +kernel
theorem dX1_laterAt_22 : decode cX1_laterAt 22 = .ok (.ireturn, 1) := by decide +kernel
theorem dX2_init_0 : decode cX2_init 0 = .ok (.aload_n 0, 1) := by decide +kernel
theorem dX2_init_1 : decode cX2_init 1 = .ok (.invokespecial 5, 3) := by decide +kernel
theorem dX2_init_4 : decode cX2_init 4 = .ok (.aload_n 0, 1) := by decide +kernel
theorem dX2_init_5 : decode cX2_init 5 = .ok (.iconst 3, 1) := by decide +kernel
theorem dX2_init_6 : decode cX2_init 6 = .ok (.newarray .int, 2) := by decide +kernel
theorem dX2_init_8 : decode cX2_init 8 = .ok (.dup, 1) := by decide +kernel
theorem dX2_init_9 : decode cX2_init 9 = .ok (.iconst 0, 1) := by decide +kernel
theorem dX2_init_10 : decode cX2_init 10 = .ok (.iconst 1, 1) := by decide +kernel
theorem dX2_init_11 : decode cX2_init 11 = .ok (.iastore, 1) := by decide +kernel
theorem dX2_init_12 : decode cX2_init 12 = .ok (.dup, 1) := by decide +kernel
theorem dX2_init_13 : decode cX2_init 13 = .ok (.iconst 1, 1) := by decide +kernel
theorem dX2_init_14 : decode cX2_init 14 = .ok (.iconst 0, 1) := by decide +kernel
theorem dX2_init_15 : decode cX2_init 15 = .ok (.iastore, 1) := by decide +kernel
theorem dX2_init_16 : decode cX2_init 16 = .ok (.dup, 1) := by decide +kernel
theorem dX2_init_17 : decode cX2_init 17 = .ok (.iconst 2, 1) := by decide +kernel
theorem dX2_init_18 : decode cX2_init 18 = .ok (.iconst 0, 1) := by decide +kernel
theorem dX2_init_19 : decode cX2_init 19 = .ok (.iastore, 1) := by decide +kernel
theorem dX2_init_20 : decode cX2_init 20 = .ok (.putfield 11, 3) := by decide +kernel
theorem dX2_init_23 : decode cX2_init 23 = .ok (.aload_n 0, 1) := by decide +kernel
theorem dX2_init_24 : decode cX2_init 24 = .ok (.iconst 3, 1) := by decide +kernel
theorem dX2_init_25 : decode cX2_init 25 = .ok (.putfield 15, 3) := by decide +kernel
theorem dX2_init_28 : decode cX2_init 28 = .ok (.return_, 1) := by decide +kernel
theorem dX2_vesselsIn_0 : decode cX2_vesselsIn 0 = .ok (.iconst 0, 1) := by decide +kernel
theorem dX2_vesselsIn_1 : decode cX2_vesselsIn 1 = .ok (.istore_n 2, 1) := by decide +kernel
theorem dX2_vesselsIn_2 : decode cX2_vesselsIn 2 = .ok (.iload_n 2, 1) := by decide +kernel
theorem dX2_vesselsIn_3 : decode cX2_vesselsIn 3 = .ok (.iload_n 1, 1) := by decide +kernel
theorem dX2_vesselsIn_4 : decode cX2_vesselsIn 4 = .ok (.if_icmp .ge 25, 3) := by decide +kernel
theorem dX2_vesselsIn_7 : decode cX2_vesselsIn 7 = .ok (.iload_n 2, 1) := by decide +kernel
theorem dX2_vesselsIn_8 : decode cX2_vesselsIn 8 = .ok (.iconst 3, 1) := by decide +kernel
theorem dX2_vesselsIn_9 : decode cX2_vesselsIn 9 = .ok (.if_icmp .ge 20, 3) := by decide +kernel
theorem dX2_vesselsIn_12 : decode cX2_vesselsIn 12 = .ok (.aload_n 0, 1) := by decide +kernel
theorem dX2_vesselsIn_13 : decode cX2_vesselsIn 13 = .ok (.getfield 11, 3) := by decide +kernel
theorem dX2_vesselsIn_16 : decode cX2_vesselsIn 16 = .ok (.iload_n 2, 1) := by decide +kernel
theorem dX2_vesselsIn_17 : decode cX2_vesselsIn 17 = .ok (.iaload, 1) := by decide +kernel
theorem dX2_vesselsIn_18 : decode cX2_vesselsIn 18 = .ok (.ifCond .ne 5, 3) := by decide +kernel
theorem dX2_vesselsIn_21 : decode cX2_vesselsIn 21 = .ok (.iconst 0, 1) := by decide +kernel
theorem dX2_vesselsIn_22 : decode cX2_vesselsIn 22 = .ok (.ireturn, 1) := by decide +kernel
theorem dX2_vesselsIn_23 : decode cX2_vesselsIn 23 = .ok (.iinc 2 1, 3) := by decide +kernel
theorem dX2_vesselsIn_26 : decode cX2_vesselsIn 26 = .ok (.goto (-24), 3) := by decide +kernel
theorem dX2_vesselsIn_29 : decode cX2_vesselsIn 29 = .ok (.iload_n 1, 1) := by decide +kernel
theorem dX2_vesselsIn_30 : decode cX2_vesselsIn 30 = .ok (.ifCond .lt 8, 3) := by decide +kernel
theorem dX2_vesselsIn_33 : decode cX2_vesselsIn 33 = .ok (.iload_n 1, 1) := by decide +kernel
theorem dX2_vesselsIn_34 : decode cX2_vesselsIn 34 = .ok (.iconst 3, 1) := by decide +kernel
theorem dX2_vesselsIn_35 : decode cX2_vesselsIn 35 = .ok (.if_icmp .lt 7, 3) := by decide +kernel
theorem dX2_vesselsIn_38 : decode cX2_vesselsIn 38 = .ok (.iconst 0, 1) := by decide +kernel
theorem dX2_vesselsIn_39 : decode cX2_vesselsIn 39 = .ok (.goto 9, 3) := by decide +kernel
theorem dX2_vesselsIn_42 : decode cX2_vesselsIn 42 = .ok (.aload_n 0, 1) := by decide +kernel
theorem dX2_vesselsIn_43 : decode cX2_vesselsIn 43 = .ok (.getfield 11, 3) := by decide +kernel
theorem dX2_vesselsIn_46 : decode cX2_vesselsIn 46 = .ok (.iload_n 1, 1) := by decide +kernel
theorem dX2_vesselsIn_47 : decode cX2_vesselsIn 47 = .ok (.iaload, 1) := by decide +kernel
theorem dX2_vesselsIn_48 : decode cX2_vesselsIn 48 = .ok (.ireturn, 1) := by decide +kernel
theorem dX2_standing_0 : decode cX2_standing 0 = .ok (.iconst 0, 1) := by decide +kernel
theorem dX2_standing_1 : decode cX2_standing 1 = .ok (.istore_n 1, 1) := by decide +kernel
theorem dX2_standing_2 : decode cX2_standing 2 = .ok (.iconst 0, 1) := by decide +kernel
theorem dX2_standing_3 : decode cX2_standing 3 = .ok (.istore_n 2, 1) := by decide +kernel
theorem dX2_standing_4 : decode cX2_standing 4 = .ok (.iload_n 2, 1) := by decide +kernel
theorem dX2_standing_5 : decode cX2_standing 5 = .ok (.iconst 3, 1) := by decide +kernel
theorem dX2_standing_6 : decode cX2_standing 6 = .ok (.if_icmp .ge 17, 3) := by decide +kernel
theorem dX2_standing_9 : decode cX2_standing 9 = .ok (.iload_n 1, 1) := by decide +kernel
theorem dX2_standing_10 : decode cX2_standing 10 = .ok (.aload_n 0, 1) := by decide +kernel
theorem dX2_standing_11 : decode cX2_standing 11 = .ok (.iload_n 2, 1) := by decide +kernel
theorem dX2_standing_12 : decode cX2_standing 12 = .ok (.invokevirtual 19, 3) := by decide +kernel
theorem dX2_standing_15 : decode cX2_standing 15 = .ok (.iadd, 1) := by decide +kernel
theorem dX2_standing_16 : decode cX2_standing 16 = .ok (.istore_n 1, 1) := by decide +kernel
theorem dX2_standing_17 : decode cX2_standing 17 = .ok (.iinc 2 1, 3) := by decide +kernel
theorem dX2_standing_20 : decode cX2_standing 20 = .ok (.goto (-16), 3) := by decide +kernel
theorem dX2_standing_23 : decode cX2_standing 23 = .ok (.iload_n 1, 1) := by decide +kernel
theorem dX2_standing_24 : decode cX2_standing 24 = .ok (.ireturn, 1) := by decide +kernel
theorem dX2_holdsSkin_0 : decode cX2_holdsSkin 0 = .ok (.iload_n 1, 1) := by decide +kernel
theorem dX2_holdsSkin_1 : decode cX2_holdsSkin 1 = .ok (.bipush 6, 2) := by decide +kernel
theorem dX2_holdsSkin_3 : decode cX2_holdsSkin 3 = .ok (.irem, 1) := by decide +kernel
theorem dX2_holdsSkin_4 : decode cX2_holdsSkin 4 = .ok (.aload_n 0, 1) := by decide +kernel
theorem dX2_holdsSkin_5 : decode cX2_holdsSkin 5 = .ok (.getfield 15, 3) := by decide +kernel
theorem dX2_holdsSkin_8 : decode cX2_holdsSkin 8 = .ok (.if_icmp .ge 25, 3) := by decide +kernel
theorem dX2_holdsSkin_11 : decode cX2_holdsSkin 11 = .ok (.iload_n 1, 1) := by decide +kernel
theorem dX2_holdsSkin_12 : decode cX2_holdsSkin 12 = .ok (.bipush 24, 2) := by decide +kernel
theorem dX2_holdsSkin_14 : decode cX2_holdsSkin 14 = .ok (.irem, 1) := by decide +kernel
theorem dX2_holdsSkin_15 : decode cX2_holdsSkin 15 = .ok (.bipush 6, 2) := by decide +kernel
theorem dX2_holdsSkin_17 : decode cX2_holdsSkin 17 = .ok (.idiv, 1) := by decide +kernel
theorem dX2_holdsSkin_18 : decode cX2_holdsSkin 18 = .ok (.aload_n 0, 1) := by decide +kernel
theorem dX2_holdsSkin_19 : decode cX2_holdsSkin 19 = .ok (.iload_n 1, 1) := by decide +kernel
theorem dX2_holdsSkin_20 : decode cX2_holdsSkin 20 = .ok (.bipush 24, 2) := by decide +kernel
theorem dX2_holdsSkin_22 : decode cX2_holdsSkin 22 = .ok (.idiv, 1) := by decide +kernel
theorem dX2_holdsSkin_23 : decode cX2_holdsSkin 23 = .ok (.invokevirtual 19, 3) := by decide +kernel
theorem dX2_holdsSkin_26 : decode cX2_holdsSkin 26 = .ok (.if_icmp .ge 7, 3) := by decide +kernel
theorem dX2_holdsSkin_29 : decode cX2_holdsSkin 29 = .ok (.iconst 1, 1) := by decide +kernel
theorem dX2_holdsSkin_30 : decode cX2_holdsSkin 30 = .ok (.goto 4, 3) := by decide +kernel
theorem dX2_holdsSkin_33 : decode cX2_holdsSkin 33 = .ok (.iconst 0, 1) := by decide +kernel
theorem dX2_holdsSkin_34 : decode cX2_holdsSkin 34 = .ok (.ireturn, 1) := by decide +kernel
theorem dX2_become_0 : decode cX2_become 0 = .ok (.aload_n 0, 1) := by decide +kernel
theorem dX2_become_1 : decode cX2_become 1 = .ok (.getfield 11, 3) := by decide +kernel
theorem dX2_become_4 : decode cX2_become 4 = .ok (.iconst 0, 1) := by decide +kernel
theorem dX2_become_5 : decode cX2_become 5 = .ok (.iconst 1, 1) := by decide +kernel
theorem dX2_become_6 : decode cX2_become 6 = .ok (.iload_n 1, 1) := by decide +kernel
theorem dX2_become_7 : decode cX2_become 7 = .ok (.bipush 25, 2) := by decide +kernel
theorem dX2_become_9 : decode cX2_become 9 = .ok (.idiv, 1) := by decide +kernel
theorem dX2_become_10 : decode cX2_become 10 = .ok (.iadd, 1) := by decide +kernel
theorem dX2_become_11 : decode cX2_become 11 = .ok (.iastore, 1) := by decide +kernel
theorem dX2_become_12 : decode cX2_become 12 = .ok (.aload_n 0, 1) := by decide +kernel
theorem dX2_become_13 : decode cX2_become 13 = .ok (.getfield 11, 3) := by decide +kernel
theorem dX2_become_16 : decode cX2_become 16 = .ok (.iconst 1, 1) := by decide +kernel
theorem dX2_become_17 : decode cX2_become 17 = .ok (.iload_n 1, 1) := by decide +kernel
theorem dX2_become_18 : decode cX2_become 18 = .ok (.iconst 5, 1) := by decide +kernel
theorem dX2_become_19 : decode cX2_become 19 = .ok (.idiv, 1) := by decide +kernel
theorem dX2_become_20 : decode cX2_become 20 = .ok (.iconst 5, 1) := by decide +kernel
theorem dX2_become_21 : decode cX2_become 21 = .ok (.irem, 1) := by decide +kernel
theorem dX2_become_22 : decode cX2_become 22 = .ok (.iastore, 1) := by decide +kernel
theorem dX2_become_23 : decode cX2_become 23 = .ok (.aload_n 0, 1) := by decide +kernel
theorem dX2_become_24 : decode cX2_become 24 = .ok (.getfield 11, 3) := by decide +kernel
theorem dX2_become_27 : decode cX2_become 27 = .ok (.iconst 2, 1) := by decide +kernel
theorem dX2_become_28 : decode cX2_become 28 = .ok (.iload_n 1, 1) := by decide +kernel
theorem dX2_become_29 : decode cX2_become 29 = .ok (.iconst 5, 1) := by decide +kernel
theorem dX2_become_30 : decode cX2_become 30 = .ok (.irem, 1) := by decide +kernel
theorem dX2_become_31 : decode cX2_become 31 = .ok (.iastore, 1) := by decide +kernel
theorem dX2_become_32 : decode cX2_become 32 = .ok (.aload_n 0, 1) := by decide +kernel
theorem dX2_become_33 : decode cX2_become 33 = .ok (.getfield 11, 3) := by decide +kernel
theorem dX2_become_36 : decode cX2_become 36 = .ok (.iconst 1, 1) := by decide +kernel
theorem dX2_become_37 : decode cX2_become 37 = .ok (.iaload, 1) := by decide +kernel
theorem dX2_become_38 : decode cX2_become 38 = .ok (.ifCond .gt 12, 3) := by decide +kernel
theorem dX2_become_41 : decode cX2_become 41 = .ok (.aload_n 0, 1) := by decide +kernel
theorem dX2_become_42 : decode cX2_become 42 = .ok (.getfield 11, 3) := by decide +kernel
theorem dX2_become_45 : decode cX2_become 45 = .ok (.iconst 2, 1) := by decide +kernel
theorem dX2_become_46 : decode cX2_become 46 = .ok (.iaload, 1) := by decide +kernel
theorem dX2_become_47 : decode cX2_become 47 = .ok (.ifCond .ne 7, 3) := by decide +kernel
theorem dX2_become_50 : decode cX2_become 50 = .ok (.iconst 1, 1) := by decide +kernel
theorem dX2_become_51 : decode cX2_become 51 = .ok (.goto 4, 3) := by decide +kernel
theorem dX2_become_54 : decode cX2_become 54 = .ok (.iconst 0, 1) := by decide +kernel
theorem dX2_become_55 : decode cX2_become 55 = .ok (.ireturn, 1) := by decide +kernel
theorem dX2_digits_0 : decode cX2_digits 0 = .ok (.bipush 100, 2) := by decide +kernel
theorem dX2_digits_2 : decode cX2_digits 2 = .ok (.aload_n 0, 1) := by decide +kernel
theorem dX2_digits_3 : decode cX2_digits 3 = .ok (.getfield 11, 3) := by decide +kernel
theorem dX2_digits_6 : decode cX2_digits 6 = .ok (.iconst 0, 1) := by decide +kernel
theorem dX2_digits_7 : decode cX2_digits 7 = .ok (.iaload, 1) := by decide +kernel
theorem dX2_digits_8 : decode cX2_digits 8 = .ok (.imul, 1) := by decide +kernel
theorem dX2_digits_9 : decode cX2_digits 9 = .ok (.bipush 10, 2) := by decide +kernel
theorem dX2_digits_11 : decode cX2_digits 11 = .ok (.aload_n 0, 1) := by decide +kernel
theorem dX2_digits_12 : decode cX2_digits 12 = .ok (.getfield 11, 3) := by decide +kernel
theorem dX2_digits_15 : decode cX2_digits 15 = .ok (.iconst 1, 1) := by decide +kernel
theorem dX2_digits_16 : decode cX2_digits 16 = .ok (.iaload, 1) := by decide +kernel
theorem dX2_digits_17 : decode cX2_digits 17 = .ok (.imul, 1) := by decide +kernel
theorem dX2_digits_18 : decode cX2_digits 18 = .ok (.iadd, 1) := by decide +kernel
theorem dX2_digits_19 : decode cX2_digits 19 = .ok (.aload_n 0, 1) := by decide +kernel
theorem dX2_digits_20 : decode cX2_digits 20 = .ok (.getfield 11, 3) := by decide +kernel
theorem dX2_digits_23 : decode cX2_digits 23 = .ok (.iconst 2, 1) := by decide +kernel
theorem dX2_digits_24 : decode cX2_digits 24 = .ok (.iaload, 1) := by decide +kernel
theorem dX2_digits_25 : decode cX2_digits 25 = .ok (.iadd, 1) := by decide +kernel
theorem dX2_digits_26 : decode cX2_digits 26 = .ok (.ireturn, 1) := by decide +kernel
theorem dX3_init_0 : decode cX3_init 0 = .ok (.aload_n 0, 1) := by decide +kernel
theorem dX3_init_1 : decode cX3_init 1 = .ok (.invokespecial 1, 3) := by decide +kernel
theorem dX3_init_4 : decode cX3_init 4 = .ok (.aload_n 0, 1) := by decide +kernel
theorem dX3_init_5 : decode cX3_init 5 = .ok (.bipush 24, 2) := by decide +kernel
theorem dX3_init_7 : decode cX3_init 7 = .ok (.newarray .short, 2) := by decide +kernel
theorem dX3_init_9 : decode cX3_init 9 = .ok (.putfield 9, 3) := by decide +kernel
theorem dX3_init_12 : decode cX3_init 12 = .ok (.aload_n 0, 1) := by decide +kernel
theorem dX3_init_13 : decode cX3_init 13 = .ok (.iconst (-1), 1) := by decide +kernel
theorem dX3_init_14 : decode cX3_init 14 = .ok (.putfield 13, 3) := by decide +kernel
theorem dX3_init_17 : decode cX3_init 17 = .ok (.return_, 1) := by decide +kernel
theorem dX3_isMissing_0 : decode cX3_isMissing 0 = .ok (.aload_n 0, 1) := by decide +kernel
theorem dX3_isMissing_1 : decode cX3_isMissing 1 = .ok (.getfield 13, 3) := by decide +kernel
theorem dX3_isMissing_4 : decode cX3_isMissing 4 = .ok (.iconst (-1), 1) := by decide +kernel
theorem dX3_isMissing_5 : decode cX3_isMissing 5 = .ok (.if_icmp .ne 7, 3) := by decide +kernel
theorem dX3_isMissing_8 : decode cX3_isMissing 8 = .ok (.iconst 1, 1) := by decide +kernel
theorem dX3_isMissing_9 : decode cX3_isMissing 9 = .ok (.goto 4, 3) := by decide +kernel
theorem dX3_isMissing_12 : decode cX3_isMissing 12 = .ok (.iconst 0, 1) := by decide +kernel
theorem dX3_isMissing_13 : decode cX3_isMissing 13 = .ok (.ireturn, 1) := by decide +kernel
theorem dX3_begin_0 : decode cX3_begin 0 = .ok (.aload_n 0, 1) := by decide +kernel
theorem dX3_begin_1 : decode cX3_begin 1 = .ok (.getfield 9, 3) := by decide +kernel
theorem dX3_begin_4 : decode cX3_begin 4 = .ok (.iconst 0, 1) := by decide +kernel
theorem dX3_begin_5 : decode cX3_begin 5 = .ok (.invokestatic 17, 3) := by decide +kernel
theorem dX3_begin_8 : decode cX3_begin 8 = .ok (.aload_n 0, 1) := by decide +kernel
theorem dX3_begin_9 : decode cX3_begin 9 = .ok (.iload_n 1, 1) := by decide +kernel
theorem dX3_begin_10 : decode cX3_begin 10 = .ok (.putfield 13, 3) := by decide +kernel
theorem dX3_begin_13 : decode cX3_begin 13 = .ok (.return_, 1) := by decide +kernel
theorem dX3_has_0 : decode cX3_has 0 = .ok (.iload_n 1, 1) := by decide +kernel
theorem dX3_has_1 : decode cX3_has 1 = .ok (.ifCond .lt 15, 3) := by decide +kernel
theorem dX3_has_4 : decode cX3_has 4 = .ok (.iload_n 1, 1) := by decide +kernel
theorem dX3_has_5 : decode cX3_has 5 = .ok (.aload_n 0, 1) := by decide +kernel
theorem dX3_has_6 : decode cX3_has 6 = .ok (.getfield 13, 3) := by decide +kernel
theorem dX3_has_9 : decode cX3_has 9 = .ok (.if_icmp .ge 7, 3) := by decide +kernel
theorem dX3_has_12 : decode cX3_has 12 = .ok (.iconst 1, 1) := by decide +kernel
theorem dX3_has_13 : decode cX3_has 13 = .ok (.goto 4, 3) := by decide +kernel
theorem dX3_has_16 : decode cX3_has 16 = .ok (.iconst 0, 1) := by decide +kernel
theorem dX3_has_17 : decode cX3_has 17 = .ok (.ireturn, 1) := by decide +kernel
theorem dX3_hasRun_0 : decode cX3_hasRun 0 = .ok (.iload_n 1, 1) := by decide +kernel
theorem dX3_hasRun_1 : decode cX3_hasRun 1 = .ok (.ifCond .lt 21, 3) := by decide +kernel
theorem dX3_hasRun_4 : decode cX3_hasRun 4 = .ok (.iload_n 2, 1) := by decide +kernel
theorem dX3_hasRun_5 : decode cX3_hasRun 5 = .ok (.ifCond .lt 17, 3) := by decide +kernel
theorem dX3_hasRun_8 : decode cX3_hasRun 8 = .ok (.iload_n 1, 1) := by decide +kernel
theorem dX3_hasRun_9 : decode cX3_hasRun 9 = .ok (.aload_n 0, 1) := by decide +kernel
theorem dX3_hasRun_10 : decode cX3_hasRun 10 = .ok (.getfield 13, 3) := by decide +kernel
theorem dX3_hasRun_13 : decode cX3_hasRun 13 = .ok (.iload_n 2, 1) := by decide +kernel
theorem dX3_hasRun_14 : decode cX3_hasRun 14 = .ok (.isub, 1) := by decide +kernel
theorem dX3_hasRun_15 : decode cX3_hasRun 15 = .ok (.if_icmp .gt 7, 3) := by decide +kernel
theorem dX3_hasRun_18 : decode cX3_hasRun 18 = .ok (.iconst 1, 1) := by decide +kernel
theorem dX3_hasRun_19 : decode cX3_hasRun 19 = .ok (.goto 4, 3) := by decide +kernel
theorem dX3_hasRun_22 : decode cX3_hasRun 22 = .ok (.iconst 0, 1) := by decide +kernel
theorem dX3_hasRun_23 : decode cX3_hasRun 23 = .ok (.ireturn, 1) := by decide +kernel
theorem dX4_init_0 : decode cX4_init 0 = .ok (.aload_n 0, 1) := by decide +kernel
theorem dX4_init_1 : decode cX4_init 1 = .ok (.invokespecial 3, 3) := by decide +kernel
theorem dX4_init_4 : decode cX4_init 4 = .ok (.aload_n 0, 1) := by decide +kernel
theorem dX4_init_5 : decode cX4_init 5 = .ok (.bipush 72, 2) := by decide +kernel
theorem dX4_init_7 : decode cX4_init 7 = .ok (.newarray .int, 2) := by decide +kernel
theorem dX4_init_9 : decode cX4_init 9 = .ok (.putfield 9, 3) := by decide +kernel
theorem dX4_init_12 : decode cX4_init 12 = .ok (.aload_n 0, 1) := by decide +kernel
theorem dX4_init_13 : decode cX4_init 13 = .ok (.bipush 72, 2) := by decide +kernel
theorem dX4_init_15 : decode cX4_init 15 = .ok (.newarray .int, 2) := by decide +kernel
theorem dX4_init_17 : decode cX4_init 17 = .ok (.putfield 15, 3) := by decide +kernel
theorem dX4_init_20 : decode cX4_init 20 = .ok (.return_, 1) := by decide +kernel
theorem dX4_passAt_0 : decode cX4_passAt 0 = .ok (.getstatic 18, 3) := by decide +kernel
theorem dX4_passAt_3 : decode cX4_passAt 3 = .ok (.aload_n 0, 1) := by decide +kernel
theorem dX4_passAt_4 : decode cX4_passAt 4 = .ok (.getfield 9, 3) := by decide +kernel
theorem dX4_passAt_7 : decode cX4_passAt 7 = .ok (.iload_n 1, 1) := by decide +kernel
theorem dX4_passAt_8 : decode cX4_passAt 8 = .ok (.iaload, 1) := by decide +kernel
theorem dX4_passAt_9 : decode cX4_passAt 9 = .ok (.iaload, 1) := by decide +kernel
theorem dX4_passAt_10 : decode cX4_passAt 10 = .ok (.istore_n 2, 1) := by decide +kernel
theorem dX4_passAt_11 : decode cX4_passAt 11 = .ok (.iload_n 2, 1) := by decide +kernel
theorem dX4_passAt_12 : decode cX4_passAt 12 = .ok (.iload_n 2, 1) := by decide +kernel
theorem dX4_passAt_13 : decode cX4_passAt 13 = .ok (.aload_n 0, 1) := by decide +kernel
theorem dX4_passAt_14 : decode cX4_passAt 14 = .ok (.getfield 15, 3) := by decide +kernel
theorem dX4_passAt_17 : decode cX4_passAt 17 = .ok (.iload_n 1, 1) := by decide +kernel
theorem dX4_passAt_18 : decode cX4_passAt 18 = .ok (.iaload, 1) := by decide +kernel
theorem dX4_passAt_19 : decode cX4_passAt 19 = .ok (.imul, 1) := by decide +kernel
theorem dX4_passAt_20 : decode cX4_passAt 20 = .ok (.bipush 100, 2) := by decide +kernel
theorem dX4_passAt_22 : decode cX4_passAt 22 = .ok (.idiv, 1) := by decide +kernel
theorem dX4_passAt_23 : decode cX4_passAt 23 = .ok (.isub, 1) := by decide +kernel
theorem dX4_passAt_24 : decode cX4_passAt 24 = .ok (.ireturn, 1) := by decide +kernel
theorem dX4_leakAt_0 : decode cX4_leakAt 0 = .ok (.getstatic 21, 3) := by decide +kernel
theorem dX4_leakAt_3 : decode cX4_leakAt 3 = .ok (.aload_n 0, 1) := by decide +kernel
theorem dX4_leakAt_4 : decode cX4_leakAt 4 = .ok (.getfield 9, 3) := by decide +kernel
theorem dX4_leakAt_7 : decode cX4_leakAt 7 = .ok (.iload_n 1, 1) := by decide +kernel
theorem dX4_leakAt_8 : decode cX4_leakAt 8 = .ok (.iaload, 1) := by decide +kernel
theorem dX4_leakAt_9 : decode cX4_leakAt 9 = .ok (.iaload, 1) := by decide +kernel
theorem dX4_leakAt_10 : decode cX4_leakAt 10 = .ok (.ireturn, 1) := by decide +kernel
theorem dX4_isUnder_0 : decode cX4_isUnder 0 = .ok (.aload_n 0, 1) := by decide +kernel
theorem dX4_isUnder_1 : decode cX4_isUnder 1 = .ok (.getfield 9, 3) := by decide +kernel
theorem dX4_isUnder_4 : decode cX4_isUnder 4 = .ok (.iload_n 1, 1) := by decide +kernel
theorem dX4_isUnder_5 : decode cX4_isUnder 5 = .ok (.iaload, 1) := by decide +kernel
theorem dX4_isUnder_6 : decode cX4_isUnder 6 = .ok (.istore_n 3, 1) := by decide +kernel
theorem dX4_isUnder_7 : decode cX4_isUnder 7 = .ok (.iload_n 2, 1) := by decide +kernel
theorem dX4_isUnder_8 : decode cX4_isUnder 8 = .ok (.ifCond .eq 17, 3) := by decide +kernel
theorem dX4_isUnder_11 : decode cX4_isUnder 11 = .ok (.iload_n 2, 1) := by decide +kernel
theorem dX4_isUnder_12 : decode cX4_isUnder 12 = .ok (.iload_n 3, 1) := by decide +kernel
theorem dX4_isUnder_13 : decode cX4_isUnder 13 = .ok (.if_icmp .eq 12, 3) := by decide +kernel
theorem dX4_isUnder_16 : decode cX4_isUnder 16 = .ok (.iload_n 2, 1) := by decide +kernel
theorem dX4_isUnder_17 : decode cX4_isUnder 17 = .ok (.getstatic 24, 3) := by decide +kernel
theorem dX4_isUnder_20 : decode cX4_isUnder 20 = .ok (.iload_n 3, 1) := by decide +kernel
theorem dX4_isUnder_21 : decode cX4_isUnder 21 = .ok (.iaload, 1) := by decide +kernel
theorem dX4_isUnder_22 : decode cX4_isUnder 22 = .ok (.if_icmp .ne 7, 3) := by decide +kernel
theorem dX4_isUnder_25 : decode cX4_isUnder 25 = .ok (.iconst 1, 1) := by decide +kernel
theorem dX4_isUnder_26 : decode cX4_isUnder 26 = .ok (.goto 4, 3) := by decide +kernel
theorem dX4_isUnder_29 : decode cX4_isUnder 29 = .ok (.iconst 0, 1) := by decide +kernel
theorem dX4_isUnder_30 : decode cX4_isUnder 30 = .ok (.ireturn, 1) := by decide +kernel
theorem dX4_renew_0 : decode cX4_renew 0 = .ok (.aload_n 0, 1) := by decide +kernel
theorem dX4_renew_1 : decode cX4_renew 1 = .ok (.getfield 15, 3) := by decide +kernel
theorem dX4_renew_4 : decode cX4_renew 4 = .ok (.iload_n 1, 1) := by decide +kernel
theorem dX4_renew_5 : decode cX4_renew 5 = .ok (.iaload, 1) := by decide +kernel
theorem dX4_renew_6 : decode cX4_renew 6 = .ok (.istore_n 3, 1) := by decide +kernel
theorem dX4_renew_7 : decode cX4_renew 7 = .ok (.aload_n 0, 1) := by decide +kernel
theorem dX4_renew_8 : decode cX4_renew 8 = .ok (.getfield 9, 3) := by decide +kernel
theorem dX4_renew_11 : decode cX4_renew 11 = .ok (.iload_n 1, 1) := by decide +kernel
theorem dX4_renew_12 : decode cX4_renew 12 = .ok (.iload_n 2, 1) := by decide +kernel
theorem dX4_renew_13 : decode cX4_renew 13 = .ok (.iastore, 1) := by decide +kernel
theorem dX4_renew_14 : decode cX4_renew 14 = .ok (.aload_n 0, 1) := by decide +kernel
theorem dX4_renew_15 : decode cX4_renew 15 = .ok (.getfield 15, 3) := by decide +kernel
theorem dX4_renew_18 : decode cX4_renew 18 = .ok (.iload_n 1, 1) := by decide +kernel
theorem dX4_renew_19 : decode cX4_renew 19 = .ok (.iconst 0, 1) := by decide +kernel
theorem dX4_renew_20 : decode cX4_renew 20 = .ok (.iastore, 1) := by decide +kernel
theorem dX4_renew_21 : decode cX4_renew 21 = .ok (.iload_n 3, 1) := by decide +kernel
theorem dX4_renew_22 : decode cX4_renew 22 = .ok (.ireturn, 1) := by decide +kernel
theorem dX4_exchange_0 : decode cX4_exchange 0 = .ok (.aload_n 0, 1) := by decide +kernel
theorem dX4_exchange_1 : decode cX4_exchange 1 = .ok (.getfield 9, 3) := by decide +kernel
theorem dX4_exchange_4 : decode cX4_exchange 4 = .ok (.iload_n 1, 1) := by decide +kernel
theorem dX4_exchange_5 : decode cX4_exchange 5 = .ok (.iaload, 1) := by decide +kernel
theorem dX4_exchange_6 : decode cX4_exchange 6 = .ok (.istore_n 3, 1) := by decide +kernel
theorem dX4_exchange_7 : decode cX4_exchange 7 = .ok (.aload_n 0, 1) := by decide +kernel
theorem dX4_exchange_8 : decode cX4_exchange 8 = .ok (.getfield 15, 3) := by decide +kernel
theorem dX4_exchange_11 : decode cX4_exchange 11 = .ok (.iload_n 1, 1) := by decide +kernel
theorem dX4_exchange_12 : decode cX4_exchange 12 = .ok (.iaload, 1) := by decide +kernel
theorem dX4_exchange_13 : decode cX4_exchange 13 = .ok (.istore 4, 2) := by decide +kernel
theorem dX4_exchange_15 : decode cX4_exchange 15 = .ok (.aload_n 0, 1) := by decide +kernel
theorem dX4_exchange_16 : decode cX4_exchange 16 = .ok (.getfield 9, 3) := by decide +kernel
theorem dX4_exchange_19 : decode cX4_exchange 19 = .ok (.iload_n 1, 1) := by decide +kernel
theorem dX4_exchange_20 : decode cX4_exchange 20 = .ok (.aload_n 0, 1) := by decide +kernel
theorem dX4_exchange_21 : decode cX4_exchange 21 = .ok (.getfield 9, 3) := by decide +kernel
theorem dX4_exchange_24 : decode cX4_exchange 24 = .ok (.iload_n 2, 1) := by decide +kernel
theorem dX4_exchange_25 : decode cX4_exchange 25 = .ok (.iaload, 1) := by decide +kernel
theorem dX4_exchange_26 : decode cX4_exchange 26 = .ok (.iastore, 1) := by decide +kernel
theorem dX4_exchange_27 : decode cX4_exchange 27 = .ok (.aload_n 0, 1) := by decide +kernel
theorem dX4_exchange_28 : decode cX4_exchange 28 = .ok (.getfield 15, 3) := by decide +kernel
theorem dX4_exchange_31 : decode cX4_exchange 31 = .ok (.iload_n 1, 1) := by decide +kernel
theorem dX4_exchange_32 : decode cX4_exchange 32 = .ok (.aload_n 0, 1) := by decide +kernel
theorem dX4_exchange_33 : decode cX4_exchange 33 = .ok (.getfield 15, 3) := by decide +kernel
theorem dX4_exchange_36 : decode cX4_exchange 36 = .ok (.iload_n 2, 1) := by decide +kernel
theorem dX4_exchange_37 : decode cX4_exchange 37 = .ok (.iaload, 1) := by decide +kernel
theorem dX4_exchange_38 : decode cX4_exchange 38 = .ok (.iastore, 1) := by decide +kernel
theorem dX4_exchange_39 : decode cX4_exchange 39 = .ok (.aload_n 0, 1) := by decide +kernel
theorem dX4_exchange_40 : decode cX4_exchange 40 = .ok (.getfield 9, 3) := by decide +kernel
theorem dX4_exchange_43 : decode cX4_exchange 43 = .ok (.iload_n 2, 1) := by decide +kernel
theorem dX4_exchange_44 : decode cX4_exchange 44 = .ok (.iload_n 3, 1) := by decide +kernel
theorem dX4_exchange_45 : decode cX4_exchange 45 = .ok (.iastore, 1) := by decide +kernel
theorem dX4_exchange_46 : decode cX4_exchange 46 = .ok (.aload_n 0, 1) := by decide +kernel
theorem dX4_exchange_47 : decode cX4_exchange 47 = .ok (.getfield 15, 3) := by decide +kernel
theorem dX4_exchange_50 : decode cX4_exchange 50 = .ok (.iload_n 2, 1) := by decide +kernel
theorem dX4_exchange_51 : decode cX4_exchange 51 = .ok (.iload 4, 2) := by decide +kernel
theorem dX4_exchange_53 : decode cX4_exchange 53 = .ok (.iastore, 1) := by decide +kernel
theorem dX4_exchange_54 : decode cX4_exchange 54 = .ok (.return_, 1) := by decide +kernel
theorem dX4_soil_0 : decode cX4_soil 0 = .ok (.aload_n 0, 1) := by decide +kernel
theorem dX4_soil_1 : decode cX4_soil 1 = .ok (.getfield 15, 3) := by decide +kernel
theorem dX4_soil_4 : decode cX4_soil 4 = .ok (.iload_n 1, 1) := by decide +kernel
theorem dX4_soil_5 : decode cX4_soil 5 = .ok (.ldc2_w 27, 3) := by decide +kernel
theorem dX4_soil_8 : decode cX4_soil 8 = .ok (.aload_n 0, 1) := by decide +kernel
theorem dX4_soil_9 : decode cX4_soil 9 = .ok (.getfield 15, 3) := by decide +kernel
theorem dX4_soil_12 : decode cX4_soil 12 = .ok (.iload_n 1, 1) := by decide +kernel
theorem dX4_soil_13 : decode cX4_soil 13 = .ok (.iaload, 1) := by decide +kernel
theorem dX4_soil_14 : decode cX4_soil 14 = .ok (.i2l, 1) := by decide +kernel
theorem dX4_soil_15 : decode cX4_soil 15 = .ok (.lload_n 2, 1) := by decide +kernel
theorem dX4_soil_16 : decode cX4_soil 16 = .ok (.ladd, 1) := by decide +kernel
theorem dX4_soil_17 : decode cX4_soil 17 = .ok (.invokestatic 29, 3) := by decide +kernel
theorem dX4_soil_20 : decode cX4_soil 20 = .ok (.l2i, 1) := by decide +kernel
theorem dX4_soil_21 : decode cX4_soil 21 = .ok (.iastore, 1) := by decide +kernel
theorem dX4_soil_22 : decode cX4_soil 22 = .ok (.return_, 1) := by decide +kernel
theorem dX4_wash_0 : decode cX4_wash 0 = .ok (.aload_n 0, 1) := by decide +kernel
theorem dX4_wash_1 : decode cX4_wash 1 = .ok (.getfield 15, 3) := by decide +kernel
theorem dX4_wash_4 : decode cX4_wash 4 = .ok (.iload_n 1, 1) := by decide +kernel
theorem dX4_wash_5 : decode cX4_wash 5 = .ok (.dup2, 1) := by decide +kernel
theorem dX4_wash_6 : decode cX4_wash 6 = .ok (.iaload, 1) := by decide +kernel
theorem dX4_wash_7 : decode cX4_wash 7 = .ok (.iconst 2, 1) := by decide +kernel
theorem dX4_wash_8 : decode cX4_wash 8 = .ok (.idiv, 1) := by decide +kernel
theorem dX4_wash_9 : decode cX4_wash 9 = .ok (.iastore, 1) := by decide +kernel
theorem dX4_wash_10 : decode cX4_wash 10 = .ok (.return_, 1) := by decide +kernel
theorem dJ9_max_7cf53_0 : decode cJ9_max_7cf53 0 = .ok (.iload_n 0, 1) := by decide +kernel
theorem dJ9_max_7cf53_1 : decode cJ9_max_7cf53 1 = .ok (.iload_n 1, 1) := by decide +kernel
theorem dJ9_max_7cf53_2 : decode cJ9_max_7cf53 2 = .ok (.if_icmp .lt 7, 3) := by decide +kernel
theorem dJ9_max_7cf53_5 : decode cJ9_max_7cf53 5 = .ok (.iload_n 0, 1) := by decide +kernel
theorem dJ9_max_7cf53_6 : decode cJ9_max_7cf53 6 = .ok (.goto 4, 3) := by decide +kernel
theorem dJ9_max_7cf53_9 : decode cJ9_max_7cf53 9 = .ok (.iload_n 1, 1) := by decide +kernel
theorem dJ9_max_7cf53_10 : decode cJ9_max_7cf53 10 = .ok (.ireturn, 1) := by decide +kernel
theorem dJ9_max_f86c9_0 : decode cJ9_max_f86c9 0 = .ok (.lload_n 0, 1) := by decide +kernel
theorem dJ9_max_f86c9_1 : decode cJ9_max_f86c9 1 = .ok (.lload_n 2, 1) := by decide +kernel
theorem dJ9_max_f86c9_2 : decode cJ9_max_f86c9 2 = .ok (.lcmp, 1) := by decide +kernel
theorem dJ9_max_f86c9_3 : decode cJ9_max_f86c9 3 = .ok (.ifCond .lt 7, 3) := by decide +kernel
theorem dJ9_max_f86c9_6 : decode cJ9_max_f86c9 6 = .ok (.lload_n 0, 1) := by decide +kernel
theorem dJ9_max_f86c9_7 : decode cJ9_max_f86c9 7 = .ok (.goto 4, 3) := by decide +kernel
theorem dJ9_max_f86c9_10 : decode cJ9_max_f86c9 10 = .ok (.lload_n 2, 1) := by decide +kernel
theorem dJ9_max_f86c9_11 : decode cJ9_max_f86c9 11 = .ok (.lreturn, 1) := by decide +kernel
theorem dJ9_min_7cf53_0 : decode cJ9_min_7cf53 0 = .ok (.iload_n 0, 1) := by decide +kernel
theorem dJ9_min_7cf53_1 : decode cJ9_min_7cf53 1 = .ok (.iload_n 1, 1) := by decide +kernel
theorem dJ9_min_7cf53_2 : decode cJ9_min_7cf53 2 = .ok (.if_icmp .gt 7, 3) := by decide +kernel
theorem dJ9_min_7cf53_5 : decode cJ9_min_7cf53 5 = .ok (.iload_n 0, 1) := by decide +kernel
theorem dJ9_min_7cf53_6 : decode cJ9_min_7cf53 6 = .ok (.goto 4, 3) := by decide +kernel
theorem dJ9_min_7cf53_9 : decode cJ9_min_7cf53 9 = .ok (.iload_n 1, 1) := by decide +kernel
theorem dJ9_min_7cf53_10 : decode cJ9_min_7cf53 10 = .ok (.ireturn, 1) := by decide +kernel
theorem dJ9_min_f86c9_0 : decode cJ9_min_f86c9 0 = .ok (.lload_n 0, 1) := by decide +kernel
theorem dJ9_min_f86c9_1 : decode cJ9_min_f86c9 1 = .ok (.lload_n 2, 1) := by decide +kernel
theorem dJ9_min_f86c9_2 : decode cJ9_min_f86c9 2 = .ok (.lcmp, 1) := by decide +kernel
theorem dJ9_min_f86c9_3 : decode cJ9_min_f86c9 3 = .ok (.ifCond .gt 7, 3) := by decide +kernel
theorem dJ9_min_f86c9_6 : decode cJ9_min_f86c9 6 = .ok (.lload_n 0, 1) := by decide +kernel
theorem dJ9_min_f86c9_7 : decode cJ9_min_f86c9 7 = .ok (.goto 4, 3) := by decide +kernel
theorem dJ9_min_f86c9_10 : decode cJ9_min_f86c9 10 = .ok (.lload_n 2, 1) := by decide +kernel
theorem dJ9_min_f86c9_11 : decode cJ9_min_f86c9 11 = .ok (.lreturn, 1) := by decide +kernel
theorem dJ7_fill_53178_0 : decode cJ7_fill_53178 0 = .ok (.iconst 0, 1) := by decide +kernel
theorem dJ7_fill_53178_1 : decode cJ7_fill_53178 1 = .ok (.istore_n 2, 1) := by decide +kernel
theorem dJ7_fill_53178_2 : decode cJ7_fill_53178 2 = .ok (.aload_n 0, 1) := by decide +kernel
theorem dJ7_fill_53178_3 : decode cJ7_fill_53178 3 = .ok (.arraylength, 1) := by decide +kernel
theorem dJ7_fill_53178_4 : decode cJ7_fill_53178 4 = .ok (.istore_n 3, 1) := by decide +kernel
theorem dJ7_fill_53178_5 : decode cJ7_fill_53178 5 = .ok (.iload_n 2, 1) := by decide +kernel
theorem dJ7_fill_53178_6 : decode cJ7_fill_53178 6 = .ok (.iload_n 3, 1) := by decide +kernel
theorem dJ7_fill_53178_7 : decode cJ7_fill_53178 7 = .ok (.if_icmp .ge 13, 3) := by decide +kernel
theorem dJ7_fill_53178_10 : decode cJ7_fill_53178 10 = .ok (.aload_n 0, 1) := by decide +kernel
theorem dJ7_fill_53178_11 : decode cJ7_fill_53178 11 = .ok (.iload_n 2, 1) := by decide +kernel
theorem dJ7_fill_53178_12 : decode cJ7_fill_53178 12 = .ok (.iload_n 1, 1) := by decide +kernel
theorem dJ7_fill_53178_13 : decode cJ7_fill_53178 13 = .ok (.iastore, 1) := by decide +kernel
theorem dJ7_fill_53178_14 : decode cJ7_fill_53178 14 = .ok (.iinc 2 1, 3) := by decide +kernel
theorem dJ7_fill_53178_17 : decode cJ7_fill_53178 17 = .ok (.goto (-12), 3) := by decide +kernel
theorem dJ7_fill_53178_20 : decode cJ7_fill_53178 20 = .ok (.return_, 1) := by decide +kernel
theorem dJ7_fill_fb410_0 : decode cJ7_fill_fb410 0 = .ok (.iconst 0, 1) := by decide +kernel
theorem dJ7_fill_fb410_1 : decode cJ7_fill_fb410 1 = .ok (.istore_n 2, 1) := by decide +kernel
theorem dJ7_fill_fb410_2 : decode cJ7_fill_fb410 2 = .ok (.aload_n 0, 1) := by decide +kernel
theorem dJ7_fill_fb410_3 : decode cJ7_fill_fb410 3 = .ok (.arraylength, 1) := by decide +kernel
theorem dJ7_fill_fb410_4 : decode cJ7_fill_fb410 4 = .ok (.istore_n 3, 1) := by decide +kernel
theorem dJ7_fill_fb410_5 : decode cJ7_fill_fb410 5 = .ok (.iload_n 2, 1) := by decide +kernel
theorem dJ7_fill_fb410_6 : decode cJ7_fill_fb410 6 = .ok (.iload_n 3, 1) := by decide +kernel
theorem dJ7_fill_fb410_7 : decode cJ7_fill_fb410 7 = .ok (.if_icmp .ge 13, 3) := by decide +kernel
theorem dJ7_fill_fb410_10 : decode cJ7_fill_fb410 10 = .ok (.aload_n 0, 1) := by decide +kernel
theorem dJ7_fill_fb410_11 : decode cJ7_fill_fb410 11 = .ok (.iload_n 2, 1) := by decide +kernel
theorem dJ7_fill_fb410_12 : decode cJ7_fill_fb410 12 = .ok (.iload_n 1, 1) := by decide +kernel
theorem dJ7_fill_fb410_13 : decode cJ7_fill_fb410 13 = .ok (.sastore, 1) := by decide +kernel
theorem dJ7_fill_fb410_14 : decode cJ7_fill_fb410 14 = .ok (.iinc 2 1, 3) := by decide +kernel
theorem dJ7_fill_fb410_17 : decode cJ7_fill_fb410 17 = .ok (.goto (-12), 3) := by decide +kernel
theorem dJ7_fill_fb410_20 : decode cJ7_fill_fb410 20 = .ok (.return_, 1) := by decide +kernel
end
section
theorem dX5_init_0 : decode cX5_init 0 = .ok (.aload_n 0, 1) := by decide +kernel
theorem dX5_init_1 : decode cX5_init 1 = .ok (.invokespecial 3, 3) := by decide +kernel
theorem dX5_init_4 : decode cX5_init 4 = .ok (.aload_n 0, 1) := by decide +kernel
theorem dX5_init_5 : decode cX5_init 5 = .ok (.bipush 7, 2) := by decide +kernel
theorem dX5_init_7 : decode cX5_init 7 = .ok (.newarray .int, 2) := by decide +kernel
theorem dX5_init_9 : decode cX5_init 9 = .ok (.dup, 1) := by decide +kernel
theorem dX5_init_10 : decode cX5_init 10 = .ok (.iconst 0, 1) := by decide +kernel
theorem dX5_init_11 : decode cX5_init 11 = .ok (.iconst 0, 1) := by decide +kernel
theorem dX5_init_12 : decode cX5_init 12 = .ok (.iastore, 1) := by decide +kernel
theorem dX5_init_13 : decode cX5_init 13 = .ok (.dup, 1) := by decide +kernel
theorem dX5_init_14 : decode cX5_init 14 = .ok (.iconst 1, 1) := by decide +kernel
theorem dX5_init_15 : decode cX5_init 15 = .ok (.sipush 9999, 3) := by decide +kernel
theorem dX5_init_18 : decode cX5_init 18 = .ok (.iastore, 1) := by decide +kernel
theorem dX5_init_19 : decode cX5_init 19 = .ok (.dup, 1) := by decide +kernel
theorem dX5_init_20 : decode cX5_init 20 = .ok (.iconst 2, 1) := by decide +kernel
theorem dX5_init_21 : decode cX5_init 21 = .ok (.iconst 0, 1) := by decide +kernel
theorem dX5_init_22 : decode cX5_init 22 = .ok (.iastore, 1) := by decide +kernel
theorem dX5_init_23 : decode cX5_init 23 = .ok (.dup, 1) := by decide +kernel
theorem dX5_init_24 : decode cX5_init 24 = .ok (.iconst 3, 1) := by decide +kernel
theorem dX5_init_25 : decode cX5_init 25 = .ok (.bipush 100, 2) := by decide +kernel
theorem dX5_init_27 : decode cX5_init 27 = .ok (.iastore, 1) := by decide +kernel
theorem dX5_init_28 : decode cX5_init 28 = .ok (.dup, 1) := by decide +kernel
theorem dX5_init_29 : decode cX5_init 29 = .ok (.iconst 4, 1) := by decide +kernel
theorem dX5_init_30 : decode cX5_init 30 = .ok (.iconst 0, 1) := by decide +kernel
theorem dX5_init_31 : decode cX5_init 31 = .ok (.iastore, 1) := by decide +kernel
theorem dX5_init_32 : decode cX5_init 32 = .ok (.dup, 1) := by decide +kernel
theorem dX5_init_33 : decode cX5_init 33 = .ok (.iconst 5, 1) := by decide +kernel
theorem dX5_init_34 : decode cX5_init 34 = .ok (.bipush 100, 2) := by decide +kernel
theorem dX5_init_36 : decode cX5_init 36 = .ok (.iastore, 1) := by decide +kernel
theorem dX5_init_37 : decode cX5_init 37 = .ok (.dup, 1) := by decide +kernel
theorem dX5_init_38 : decode cX5_init 38 = .ok (.bipush 6, 2) := by decide +kernel
theorem dX5_init_40 : decode cX5_init 40 = .ok (.bipush 10, 2) := by decide +kernel
theorem dX5_init_42 : decode cX5_init 42 = .ok (.iastore, 1) := by decide +kernel
theorem dX5_init_43 : decode cX5_init 43 = .ok (.putfield 9, 3) := by decide +kernel
theorem dX5_init_46 : decode cX5_init 46 = .ok (.aload_n 0, 1) := by decide +kernel
theorem dX5_init_47 : decode cX5_init 47 = .ok (.new 13, 3) := by decide +kernel
theorem dX5_init_50 : decode cX5_init 50 = .ok (.dup, 1) := by decide +kernel
theorem dX5_init_51 : decode cX5_init 51 = .ok (.invokespecial 15, 3) := by decide +kernel
theorem dX5_init_54 : decode cX5_init 54 = .ok (.putfield 16, 3) := by decide +kernel
theorem dX5_init_57 : decode cX5_init 57 = .ok (.aload_n 0, 1) := by decide +kernel
theorem dX5_init_58 : decode cX5_init 58 = .ok (.new 13, 3) := by decide +kernel
theorem dX5_init_61 : decode cX5_init 61 = .ok (.dup, 1) := by decide +kernel
theorem dX5_init_62 : decode cX5_init 62 = .ok (.invokespecial 15, 3) := by decide +kernel
theorem dX5_init_65 : decode cX5_init 65 = .ok (.putfield 20, 3) := by decide +kernel
theorem dX5_init_68 : decode cX5_init 68 = .ok (.aload_n 0, 1) := by decide +kernel
theorem dX5_init_69 : decode cX5_init 69 = .ok (.new 23, 3) := by decide +kernel
theorem dX5_init_72 : decode cX5_init 72 = .ok (.dup, 1) := by decide +kernel
theorem dX5_init_73 : decode cX5_init 73 = .ok (.invokespecial 25, 3) := by decide +kernel
theorem dX5_init_76 : decode cX5_init 76 = .ok (.putfield 26, 3) := by decide +kernel
theorem dX5_init_79 : decode cX5_init 79 = .ok (.aload_n 0, 1) := by decide +kernel
theorem dX5_init_80 : decode cX5_init 80 = .ok (.new 30, 3) := by decide +kernel
theorem dX5_init_83 : decode cX5_init 83 = .ok (.dup, 1) := by decide +kernel
theorem dX5_init_84 : decode cX5_init 84 = .ok (.invokespecial 32, 3) := by decide +kernel
theorem dX5_init_87 : decode cX5_init 87 = .ok (.putfield 33, 3) := by decide +kernel
theorem dX5_init_90 : decode cX5_init 90 = .ok (.aload_n 0, 1) := by decide +kernel
theorem dX5_init_91 : decode cX5_init 91 = .ok (.new 37, 3) := by decide +kernel
theorem dX5_init_94 : decode cX5_init 94 = .ok (.dup, 1) := by decide +kernel
theorem dX5_init_95 : decode cX5_init 95 = .ok (.invokespecial 39, 3) := by decide +kernel
theorem dX5_init_98 : decode cX5_init 98 = .ok (.putfield 40, 3) := by decide +kernel
theorem dX5_init_101 : decode cX5_init 101 = .ok (.aload_n 0, 1) := by decide +kernel
theorem dX5_init_102 : decode cX5_init 102 = .ok (.iconst 2, 1) := by decide +kernel
theorem dX5_init_103 : decode cX5_init 103 = .ok (.anewarray 44, 3) := by decide +kernel
theorem dX5_init_106 : decode cX5_init 106 = .ok (.dup, 1) := by decide +kernel
theorem dX5_init_107 : decode cX5_init 107 = .ok (.iconst 0, 1) := by decide +kernel
theorem dX5_init_108 : decode cX5_init 108 = .ok (.new 44, 3) := by decide +kernel
theorem dX5_init_111 : decode cX5_init 111 = .ok (.dup, 1) := by decide +kernel
theorem dX5_init_112 : decode cX5_init 112 = .ok (.invokespecial 46, 3) := by decide +kernel
theorem dX5_init_115 : decode cX5_init 115 = .ok (.aastore, 1) := by decide +kernel
theorem dX5_init_116 : decode cX5_init 116 = .ok (.dup, 1) := by decide +kernel
theorem dX5_init_117 : decode cX5_init 117 = .ok (.iconst 1, 1) := by decide +kernel
theorem dX5_init_118 : decode cX5_init 118 = .ok (.new 44, 3) := by decide +kernel
theorem dX5_init_121 : decode cX5_init 121 = .ok (.dup, 1) := by decide +kernel
theorem dX5_init_122 : decode cX5_init 122 = .ok (.invokespecial 46, 3) := by decide +kernel
theorem dX5_init_125 : decode cX5_init 125 = .ok (.aastore, 1) := by decide +kernel
theorem dX5_init_126 : decode cX5_init 126 = .ok (.putfield 47, 3) := by decide +kernel
theorem dX5_init_129 : decode cX5_init 129 = .ok (.aload_n 0, 1) := by decide +kernel
theorem dX5_init_130 : decode cX5_init 130 = .ok (.sipush 1000, 3) := by decide +kernel
theorem dX5_init_133 : decode cX5_init 133 = .ok (.putfield 51, 3) := by decide +kernel
theorem dX5_init_136 : decode cX5_init 136 = .ok (.aload_n 0, 1) := by decide +kernel
theorem dX5_init_137 : decode cX5_init 137 = .ok (.sipush 3000, 3) := by decide +kernel
theorem dX5_init_140 : decode cX5_init 140 = .ok (.putfield 55, 3) := by decide +kernel
theorem dX5_init_143 : decode cX5_init 143 = .ok (.aload_n 0, 1) := by decide +kernel
theorem dX5_init_144 : decode cX5_init 144 = .ok (.bipush 60, 2) := by decide +kernel
theorem dX5_init_146 : decode cX5_init 146 = .ok (.putfield 58, 3) := by decide +kernel
theorem dX5_init_149 : decode cX5_init 149 = .ok (.aload_n 0, 1) := by decide +kernel
theorem dX5_init_150 : decode cX5_init 150 = .ok (.iconst 0, 1) := by decide +kernel
theorem dX5_init_151 : decode cX5_init 151 = .ok (.putfield 61, 3) := by decide +kernel
theorem dX5_init_154 : decode cX5_init 154 = .ok (.return_, 1) := by decide +kernel
theorem dX5_stage_0 : decode cX5_stage 0 = .ok (.iload_n 1, 1) := by decide +kernel
theorem dX5_stage_1 : decode cX5_stage 1 = .ok (.iconst 0, 1) := by decide +kernel
theorem dX5_stage_2 : decode cX5_stage 2 = .ok (.iconst 2, 1) := by decide +kernel
theorem dX5_stage_3 : decode cX5_stage 3 = .ok (.invokestatic 64, 3) := by decide +kernel
theorem dX5_stage_6 : decode cX5_stage 6 = .ok (.ifCond .ne 20, 3) := by decide +kernel
theorem dX5_stage_9 : decode cX5_stage 9 = .ok (.iload_n 2, 1) := by decide +kernel
theorem dX5_stage_10 : decode cX5_stage 10 = .ok (.iload_n 1, 1) := by decide +kernel
theorem dX5_stage_11 : decode cX5_stage 11 = .ok (.ifCond .ne 7, 3) := by decide +kernel
theorem dX5_stage_14 : decode cX5_stage 14 = .ok (.iconst 1, 1) := by decide +kernel
theorem dX5_stage_15 : decode cX5_stage 15 = .ok (.goto 4, 3) := by decide +kernel
theorem dX5_stage_18 : decode cX5_stage 18 = .ok (.iconst 0, 1) := by decide +kernel
theorem dX5_stage_19 : decode cX5_stage 19 = .ok (.iconst 4, 1) := by decide +kernel
theorem dX5_stage_20 : decode cX5_stage 20 = .ok (.invokestatic 64, 3) := by decide +kernel
theorem dX5_stage_23 : decode cX5_stage 23 = .ok (.ifCond .eq 7, 3) := by decide +kernel
theorem dX5_stage_26 : decode cX5_stage 26 = .ok (.ldc2_w 68, 3) := by decide +kernel
theorem dX5_stage_29 : decode cX5_stage 29 = .ok (.lreturn, 1) := by decide +kernel
theorem dX5_stage_30 : decode cX5_stage 30 = .ok (.aload_n 0, 1) := by decide +kernel
theorem dX5_stage_31 : decode cX5_stage 31 = .ok (.getfield 16, 3) := by decide +kernel
theorem dX5_stage_34 : decode cX5_stage 34 = .ok (.getfield 70, 3) := by decide +kernel
theorem dX5_stage_37 : decode cX5_stage 37 = .ok (.iload_n 1, 1) := by decide +kernel
theorem dX5_stage_38 : decode cX5_stage 38 = .ok (.iaload, 1) := by decide +kernel
theorem dX5_stage_39 : decode cX5_stage 39 = .ok (.istore_n 3, 1) := by decide +kernel
theorem dX5_stage_40 : decode cX5_stage 40 = .ok (.aload_n 0, 1) := by decide +kernel
theorem dX5_stage_41 : decode cX5_stage 41 = .ok (.getfield 16, 3) := by decide +kernel
theorem dX5_stage_44 : decode cX5_stage 44 = .ok (.getfield 70, 3) := by decide +kernel
theorem dX5_stage_47 : decode cX5_stage 47 = .ok (.iload_n 1, 1) := by decide +kernel
theorem dX5_stage_48 : decode cX5_stage 48 = .ok (.iload_n 2, 1) := by decide +kernel
theorem dX5_stage_49 : decode cX5_stage 49 = .ok (.iastore, 1) := by decide +kernel
theorem dX5_stage_50 : decode cX5_stage 50 = .ok (.iload_n 3, 1) := by decide +kernel
theorem dX5_stage_51 : decode cX5_stage 51 = .ok (.i2l, 1) := by decide +kernel
theorem dX5_stage_52 : decode cX5_stage 52 = .ok (.lreturn, 1) := by decide +kernel
theorem dX5_length_0 : decode cX5_length 0 = .ok (.iload_n 1, 1) := by decide +kernel
theorem dX5_length_1 : decode cX5_length 1 = .ok (.iconst 1, 1) := by decide +kernel
theorem dX5_length_2 : decode cX5_length 2 = .ok (.bipush 6, 2) := by decide +kernel
theorem dX5_length_4 : decode cX5_length 4 = .ok (.invokestatic 64, 3) := by decide +kernel
theorem dX5_length_7 : decode cX5_length 7 = .ok (.ifCond .eq 7, 3) := by decide +kernel
theorem dX5_length_10 : decode cX5_length 10 = .ok (.ldc2_w 68, 3) := by decide +kernel
theorem dX5_length_13 : decode cX5_length 13 = .ok (.lreturn, 1) := by decide +kernel
theorem dX5_length_14 : decode cX5_length 14 = .ok (.aload_n 0, 1) := by decide +kernel
theorem dX5_length_15 : decode cX5_length 15 = .ok (.getfield 16, 3) := by decide +kernel
theorem dX5_length_18 : decode cX5_length 18 = .ok (.getfield 73, 3) := by decide +kernel
theorem dX5_length_21 : decode cX5_length 21 = .ok (.istore_n 2, 1) := by decide +kernel
theorem dX5_length_22 : decode cX5_length 22 = .ok (.aload_n 0, 1) := by decide +kernel
theorem dX5_length_23 : decode cX5_length 23 = .ok (.getfield 16, 3) := by decide +kernel
theorem dX5_length_26 : decode cX5_length 26 = .ok (.iload_n 1, 1) := by decide +kernel
theorem dX5_length_27 : decode cX5_length 27 = .ok (.putfield 73, 3) := by decide +kernel
theorem dX5_length_30 : decode cX5_length 30 = .ok (.iload_n 2, 1) := by decide +kernel
theorem dX5_length_31 : decode cX5_length 31 = .ok (.i2l, 1) := by decide +kernel
theorem dX5_length_32 : decode cX5_length 32 = .ok (.lreturn, 1) := by decide +kernel
theorem dX5_fresh_0 : decode cX5_fresh 0 = .ok (.iload_n 1, 1) := by decide +kernel
theorem dX5_fresh_1 : decode cX5_fresh 1 = .ok (.invokestatic 76, 3) := by decide +kernel
theorem dX5_fresh_4 : decode cX5_fresh 4 = .ok (.istore_n 3, 1) := by decide +kernel
theorem dX5_fresh_5 : decode cX5_fresh 5 = .ok (.iload_n 3, 1) := by decide +kernel
theorem dX5_fresh_6 : decode cX5_fresh 6 = .ok (.ifCond .lt 12, 3) := by decide +kernel
theorem dX5_fresh_9 : decode cX5_fresh 9 = .ok (.iload_n 2, 1) := by decide +kernel
theorem dX5_fresh_10 : decode cX5_fresh 10 = .ok (.iconst 0, 1) := by decide +kernel
theorem dX5_fresh_11 : decode cX5_fresh 11 = .ok (.iconst 3, 1) := by decide +kernel
theorem dX5_fresh_12 : decode cX5_fresh 12 = .ok (.invokestatic 64, 3) := by decide +kernel
theorem dX5_fresh_15 : decode cX5_fresh 15 = .ok (.ifCond .eq 7, 3) := by decide +kernel
theorem dX5_fresh_18 : decode cX5_fresh 18 = .ok (.ldc2_w 68, 3) := by decide +kernel
theorem dX5_fresh_21 : decode cX5_fresh 21 = .ok (.lreturn, 1) := by decide +kernel
theorem dX5_fresh_22 : decode cX5_fresh 22 = .ok (.aload_n 0, 1) := by decide +kernel
theorem dX5_fresh_23 : decode cX5_fresh 23 = .ok (.getfield 26, 3) := by decide +kernel
theorem dX5_fresh_26 : decode cX5_fresh 26 = .ok (.iload_n 3, 1) := by decide +kernel
theorem dX5_fresh_27 : decode cX5_fresh 27 = .ok (.iload_n 2, 1) := by decide +kernel
theorem dX5_fresh_28 : decode cX5_fresh 28 = .ok (.invokevirtual 80, 3) := by decide +kernel
theorem dX5_fresh_31 : decode cX5_fresh 31 = .ok (.i2l, 1) := by decide +kernel
theorem dX5_fresh_32 : decode cX5_fresh 32 = .ok (.lreturn, 1) := by decide +kernel
theorem dX5_told_0 : decode cX5_told 0 = .ok (.iload_n 1, 1) := by decide +kernel
theorem dX5_told_1 : decode cX5_told 1 = .ok (.invokestatic 76, 3) := by decide +kernel
theorem dX5_told_4 : decode cX5_told 4 = .ok (.istore_n 3, 1) := by decide +kernel
theorem dX5_told_5 : decode cX5_told 5 = .ok (.iload_n 3, 1) := by decide +kernel
theorem dX5_told_6 : decode cX5_told 6 = .ok (.ifCond .ge 7, 3) := by decide +kernel
theorem dX5_told_9 : decode cX5_told 9 = .ok (.ldc2_w 68, 3) := by decide +kernel
theorem dX5_told_12 : decode cX5_told 12 = .ok (.lreturn, 1) := by decide +kernel
theorem dX5_told_13 : decode cX5_told 13 = .ok (.iload_n 2, 1) := by decide +kernel
theorem dX5_told_14 : decode cX5_told 14 = .ok (.tableswitch 72 0 3 #[30, 41, 52, 62], 30) := by decide +kernel
theorem dX5_told_44 : decode cX5_told 44 = .ok (.aload_n 0, 1) := by decide +kernel
theorem dX5_told_45 : decode cX5_told 45 = .ok (.getfield 26, 3) := by decide +kernel
theorem dX5_told_48 : decode cX5_told 48 = .ok (.getfield 84, 3) := by decide +kernel
theorem dX5_told_51 : decode cX5_told 51 = .ok (.iload_n 3, 1) := by decide +kernel
theorem dX5_told_52 : decode cX5_told 52 = .ok (.iaload, 1) := by decide +kernel
theorem dX5_told_53 : decode cX5_told 53 = .ok (.i2l, 1) := by decide +kernel
theorem dX5_told_54 : decode cX5_told 54 = .ok (.lreturn, 1) := by decide +kernel
theorem dX5_told_55 : decode cX5_told 55 = .ok (.aload_n 0, 1) := by decide +kernel
theorem dX5_told_56 : decode cX5_told 56 = .ok (.getfield 26, 3) := by decide +kernel
theorem dX5_told_59 : decode cX5_told 59 = .ok (.getfield 87, 3) := by decide +kernel
theorem dX5_told_62 : decode cX5_told 62 = .ok (.iload_n 3, 1) := by decide +kernel
theorem dX5_told_63 : decode cX5_told 63 = .ok (.iaload, 1) := by decide +kernel
theorem dX5_told_64 : decode cX5_told 64 = .ok (.i2l, 1) := by decide +kernel
theorem dX5_told_65 : decode cX5_told 65 = .ok (.lreturn, 1) := by decide +kernel
theorem dX5_told_66 : decode cX5_told 66 = .ok (.aload_n 0, 1) := by decide +kernel
theorem dX5_told_67 : decode cX5_told 67 = .ok (.getfield 26, 3) := by decide +kernel
theorem dX5_told_70 : decode cX5_told 70 = .ok (.iload_n 3, 1) := by decide +kernel
theorem dX5_told_71 : decode cX5_told 71 = .ok (.invokevirtual 90, 3) := by decide +kernel
theorem dX5_told_74 : decode cX5_told 74 = .ok (.i2l, 1) := by decide +kernel
theorem dX5_told_75 : decode cX5_told 75 = .ok (.lreturn, 1) := by decide +kernel
theorem dX5_told_76 : decode cX5_told 76 = .ok (.aload_n 0, 1) := by decide +kernel
theorem dX5_told_77 : decode cX5_told 77 = .ok (.getfield 26, 3) := by decide +kernel
theorem dX5_told_80 : decode cX5_told 80 = .ok (.iload_n 3, 1) := by decide +kernel
theorem dX5_told_81 : decode cX5_told 81 = .ok (.invokevirtual 93, 3) := by decide +kernel
theorem dX5_told_84 : decode cX5_told 84 = .ok (.i2l, 1) := by decide +kernel
theorem dX5_told_85 : decode cX5_told 85 = .ok (.lreturn, 1) := by decide +kernel
theorem dX5_told_86 : decode cX5_told 86 = .ok (.ldc2_w 68, 3) := by decide +kernel
theorem dX5_told_89 : decode cX5_told 89 = .ok (.lreturn, 1) := by decide +kernel
theorem dX5_isOf_0 : decode cX5_isOf 0 = .ok (.iload_n 1, 1) := by decide +kernel
theorem dX5_isOf_1 : decode cX5_isOf 1 = .ok (.invokestatic 76, 3) := by decide +kernel
theorem dX5_isOf_4 : decode cX5_isOf 4 = .ok (.istore_n 3, 1) := by decide +kernel
theorem dX5_isOf_5 : decode cX5_isOf 5 = .ok (.iload_n 3, 1) := by decide +kernel
theorem dX5_isOf_6 : decode cX5_isOf 6 = .ok (.ifCond .lt 12, 3) := by decide +kernel
theorem dX5_isOf_9 : decode cX5_isOf 9 = .ok (.iload_n 2, 1) := by decide +kernel
theorem dX5_isOf_10 : decode cX5_isOf 10 = .ok (.iconst 0, 1) := by decide +kernel
theorem dX5_isOf_11 : decode cX5_isOf 11 = .ok (.iconst 3, 1) := by decide +kernel
theorem dX5_isOf_12 : decode cX5_isOf 12 = .ok (.invokestatic 64, 3) := by decide +kernel
theorem dX5_isOf_15 : decode cX5_isOf 15 = .ok (.ifCond .eq 7, 3) := by decide +kernel
theorem dX5_isOf_18 : decode cX5_isOf 18 = .ok (.ldc2_w 68, 3) := by decide +kernel
theorem dX5_isOf_21 : decode cX5_isOf 21 = .ok (.lreturn, 1) := by decide +kernel
theorem dX5_isOf_22 : decode cX5_isOf 22 = .ok (.aload_n 0, 1) := by decide +kernel
theorem dX5_isOf_23 : decode cX5_isOf 23 = .ok (.getfield 26, 3) := by decide +kernel
theorem dX5_isOf_26 : decode cX5_isOf 26 = .ok (.iload_n 3, 1) := by decide +kernel
theorem dX5_isOf_27 : decode cX5_isOf 27 = .ok (.iload_n 2, 1) := by decide +kernel
theorem dX5_isOf_28 : decode cX5_isOf 28 = .ok (.invokevirtual 96, 3) := by decide +kernel
theorem dX5_isOf_31 : decode cX5_isOf 31 = .ok (.ifCond .eq 7, 3) := by decide +kernel
theorem dX5_isOf_34 : decode cX5_isOf 34 = .ok (.lconst 1, 1) := by decide +kernel
theorem dX5_isOf_35 : decode cX5_isOf 35 = .ok (.goto 4, 3) := by decide +kernel
theorem dX5_isOf_38 : decode cX5_isOf 38 = .ok (.lconst 0, 1) := by decide +kernel
theorem dX5_isOf_39 : decode cX5_isOf 39 = .ok (.lreturn, 1) := by decide +kernel
theorem dX5_feed_0 : decode cX5_feed 0 = .ok (.iload_n 1, 1) := by decide +kernel
theorem dX5_feed_1 : decode cX5_feed 1 = .ok (.iconst 0, 1) := by decide +kernel
theorem dX5_feed_2 : decode cX5_feed 2 = .ok (.sipush 20000, 3) := by decide +kernel
theorem dX5_feed_5 : decode cX5_feed 5 = .ok (.invokestatic 64, 3) := by decide +kernel
theorem dX5_feed_8 : decode cX5_feed 8 = .ok (.ifCond .ne 24, 3) := by decide +kernel
theorem dX5_feed_11 : decode cX5_feed 11 = .ok (.iload_n 2, 1) := by decide +kernel
theorem dX5_feed_12 : decode cX5_feed 12 = .ok (.iconst 0, 1) := by decide +kernel
theorem dX5_feed_13 : decode cX5_feed 13 = .ok (.ldc 100, 2) := by decide +kernel
theorem dX5_feed_15 : decode cX5_feed 15 = .ok (.invokestatic 64, 3) := by decide +kernel
theorem dX5_feed_18 : decode cX5_feed 18 = .ok (.ifCond .ne 14, 3) := by decide +kernel
theorem dX5_feed_21 : decode cX5_feed 21 = .ok (.iload_n 3, 1) := by decide +kernel
theorem dX5_feed_22 : decode cX5_feed 22 = .ok (.iconst 0, 1) := by decide +kernel
theorem dX5_feed_23 : decode cX5_feed 23 = .ok (.sipush 900, 3) := by decide +kernel
theorem dX5_feed_26 : decode cX5_feed 26 = .ok (.invokestatic 64, 3) := by decide +kernel
theorem dX5_feed_29 : decode cX5_feed 29 = .ok (.ifCond .eq 7, 3) := by decide +kernel
theorem dX5_feed_32 : decode cX5_feed 32 = .ok (.ldc2_w 68, 3) := by decide +kernel
theorem dX5_feed_35 : decode cX5_feed 35 = .ok (.lreturn, 1) := by decide +kernel
theorem dX5_feed_36 : decode cX5_feed 36 = .ok (.aload_n 0, 1) := by decide +kernel
theorem dX5_feed_37 : decode cX5_feed 37 = .ok (.iload_n 1, 1) := by decide +kernel
theorem dX5_feed_38 : decode cX5_feed 38 = .ok (.putfield 51, 3) := by decide +kernel
theorem dX5_feed_41 : decode cX5_feed 41 = .ok (.aload_n 0, 1) := by decide +kernel
theorem dX5_feed_42 : decode cX5_feed 42 = .ok (.iload_n 2, 1) := by decide +kernel
theorem dX5_feed_43 : decode cX5_feed 43 = .ok (.putfield 55, 3) := by decide +kernel
theorem dX5_feed_46 : decode cX5_feed 46 = .ok (.aload_n 0, 1) := by decide +kernel
theorem dX5_feed_47 : decode cX5_feed 47 = .ok (.iload_n 3, 1) := by decide +kernel
theorem dX5_feed_48 : decode cX5_feed 48 = .ok (.putfield 58, 3) := by decide +kernel
theorem dX5_feed_51 : decode cX5_feed 51 = .ok (.lconst 0, 1) := by decide +kernel
theorem dX5_feed_52 : decode cX5_feed 52 = .ok (.lreturn, 1) := by decide +kernel
theorem dX5_change_0 : decode cX5_change 0 = .ok (.iload_n 1, 1) := by decide +kernel
theorem dX5_change_1 : decode cX5_change 1 = .ok (.invokestatic 76, 3) := by decide +kernel
theorem dX5_change_4 : decode cX5_change 4 = .ok (.istore_n 3, 1) := by decide +kernel
theorem dX5_change_5 : decode cX5_change 5 = .ok (.iload_n 2, 1) := by decide +kernel
theorem dX5_change_6 : decode cX5_change 6 = .ok (.invokestatic 76, 3) := by decide +kernel
theorem dX5_change_9 : decode cX5_change 9 = .ok (.istore 4, 2) := by decide +kernel
theorem dX5_change_11 : decode cX5_change 11 = .ok (.iload_n 3, 1) := by decide +kernel
theorem dX5_change_12 : decode cX5_change 12 = .ok (.ifCond .lt 14, 3) := by decide +kernel
theorem dX5_change_15 : decode cX5_change 15 = .ok (.iload 4, 2) := by decide +kernel
theorem dX5_change_17 : decode cX5_change 17 = .ok (.ifCond .lt 9, 3) := by decide +kernel
theorem dX5_change_20 : decode cX5_change 20 = .ok (.iload_n 3, 1) := by decide +kernel
theorem dX5_change_21 : decode cX5_change 21 = .ok (.iload 4, 2) := by decide +kernel
theorem dX5_change_23 : decode cX5_change 23 = .ok (.if_icmp .ne 7, 3) := by decide +kernel
theorem dX5_change_26 : decode cX5_change 26 = .ok (.ldc2_w 68, 3) := by decide +kernel
theorem dX5_change_29 : decode cX5_change 29 = .ok (.lreturn, 1) := by decide +kernel
theorem dX5_change_30 : decode cX5_change 30 = .ok (.aload_n 0, 1) := by decide +kernel
theorem dX5_change_31 : decode cX5_change 31 = .ok (.getfield 26, 3) := by decide +kernel
theorem dX5_change_34 : decode cX5_change 34 = .ok (.iload_n 3, 1) := by decide +kernel
theorem dX5_change_35 : decode cX5_change 35 = .ok (.iload 4, 2) := by decide +kernel
theorem dX5_change_37 : decode cX5_change 37 = .ok (.invokevirtual 101, 3) := by decide +kernel
theorem dX5_change_40 : decode cX5_change 40 = .ok (.lconst 0, 1) := by decide +kernel
theorem dX5_change_41 : decode cX5_change 41 = .ok (.lreturn, 1) := by decide +kernel
theorem dX5_flow_0 : decode cX5_flow 0 = .ok (.iload_n 1, 1) := by decide +kernel
theorem dX5_flow_1 : decode cX5_flow 1 = .ok (.invokestatic 76, 3) := by decide +kernel
theorem dX5_flow_4 : decode cX5_flow 4 = .ok (.istore_n 3, 1) := by decide +kernel
theorem dX5_flow_5 : decode cX5_flow 5 = .ok (.iload_n 3, 1) := by decide +kernel
theorem dX5_flow_6 : decode cX5_flow 6 = .ok (.ifCond .lt 12, 3) := by decide +kernel
theorem dX5_flow_9 : decode cX5_flow 9 = .ok (.iload_n 2, 1) := by decide +kernel
theorem dX5_flow_10 : decode cX5_flow 10 = .ok (.iconst 0, 1) := by decide +kernel
theorem dX5_flow_11 : decode cX5_flow 11 = .ok (.iconst 4, 1) := by decide +kernel
theorem dX5_flow_12 : decode cX5_flow 12 = .ok (.invokestatic 64, 3) := by decide +kernel
theorem dX5_flow_15 : decode cX5_flow 15 = .ok (.ifCond .eq 7, 3) := by decide +kernel
theorem dX5_flow_18 : decode cX5_flow 18 = .ok (.ldc2_w 68, 3) := by decide +kernel
theorem dX5_flow_21 : decode cX5_flow 21 = .ok (.lreturn, 1) := by decide +kernel
theorem dX5_flow_22 : decode cX5_flow 22 = .ok (.aload_n 0, 1) := by decide +kernel
theorem dX5_flow_23 : decode cX5_flow 23 = .ok (.getfield 16, 3) := by decide +kernel
theorem dX5_flow_26 : decode cX5_flow 26 = .ok (.iload_n 3, 1) := by decide +kernel
theorem dX5_flow_27 : decode cX5_flow 27 = .ok (.invokevirtual 105, 3) := by decide +kernel
theorem dX5_flow_30 : decode cX5_flow 30 = .ok (.ifCond .ne 7, 3) := by decide +kernel
theorem dX5_flow_33 : decode cX5_flow 33 = .ok (.ldc2_w 109, 3) := by decide +kernel
theorem dX5_flow_36 : decode cX5_flow 36 = .ok (.lreturn, 1) := by decide +kernel
theorem dX5_flow_37 : decode cX5_flow 37 = .ok (.aload_n 0, 1) := by decide +kernel
theorem dX5_flow_38 : decode cX5_flow 38 = .ok (.invokevirtual 111, 3) := by decide +kernel
theorem dX5_flow_41 : decode cX5_flow 41 = .ok (.iload_n 2, 1) := by decide +kernel
theorem dX5_flow_42 : decode cX5_flow 42 = .ok (.tableswitch 70 0 3 #[30, 40, 50, 60], 30) := by decide +kernel
theorem dX5_flow_72 : decode cX5_flow 72 = .ok (.aload_n 0, 1) := by decide +kernel
theorem dX5_flow_73 : decode cX5_flow 73 = .ok (.getfield 33, 3) := by decide +kernel
theorem dX5_flow_76 : decode cX5_flow 76 = .ok (.getfield 114, 3) := by decide +kernel
theorem dX5_flow_79 : decode cX5_flow 79 = .ok (.iload_n 3, 1) := by decide +kernel
theorem dX5_flow_80 : decode cX5_flow 80 = .ok (.laload, 1) := by decide +kernel
theorem dX5_flow_81 : decode cX5_flow 81 = .ok (.lreturn, 1) := by decide +kernel
theorem dX5_flow_82 : decode cX5_flow 82 = .ok (.aload_n 0, 1) := by decide +kernel
theorem dX5_flow_83 : decode cX5_flow 83 = .ok (.getfield 33, 3) := by decide +kernel
theorem dX5_flow_86 : decode cX5_flow 86 = .ok (.getfield 118, 3) := by decide +kernel
theorem dX5_flow_89 : decode cX5_flow 89 = .ok (.iload_n 3, 1) := by decide +kernel
theorem dX5_flow_90 : decode cX5_flow 90 = .ok (.laload, 1) := by decide +kernel
theorem dX5_flow_91 : decode cX5_flow 91 = .ok (.lreturn, 1) := by decide +kernel
theorem dX5_flow_92 : decode cX5_flow 92 = .ok (.aload_n 0, 1) := by decide +kernel
theorem dX5_flow_93 : decode cX5_flow 93 = .ok (.getfield 33, 3) := by decide +kernel
theorem dX5_flow_96 : decode cX5_flow 96 = .ok (.getfield 121, 3) := by decide +kernel
theorem dX5_flow_99 : decode cX5_flow 99 = .ok (.iload_n 3, 1) := by decide +kernel
theorem dX5_flow_100 : decode cX5_flow 100 = .ok (.laload, 1) := by decide +kernel
theorem dX5_flow_101 : decode cX5_flow 101 = .ok (.lreturn, 1) := by decide +kernel
theorem dX5_flow_102 : decode cX5_flow 102 = .ok (.aload_n 0, 1) := by decide +kernel
theorem dX5_flow_103 : decode cX5_flow 103 = .ok (.getfield 33, 3) := by decide +kernel
theorem dX5_flow_106 : decode cX5_flow 106 = .ok (.getfield 124, 3) := by decide +kernel
theorem dX5_flow_109 : decode cX5_flow 109 = .ok (.iload_n 3, 1) := by decide +kernel
theorem dX5_flow_110 : decode cX5_flow 110 = .ok (.laload, 1) := by decide +kernel
theorem dX5_flow_111 : decode cX5_flow 111 = .ok (.lreturn, 1) := by decide +kernel
theorem dX5_flow_112 : decode cX5_flow 112 = .ok (.aload_n 0, 1) := by decide +kernel
theorem dX5_flow_113 : decode cX5_flow 113 = .ok (.getfield 33, 3) := by decide +kernel
theorem dX5_flow_116 : decode cX5_flow 116 = .ok (.getfield 127, 3) := by decide +kernel
theorem dX5_flow_119 : decode cX5_flow 119 = .ok (.iload_n 3, 1) := by decide +kernel
theorem dX5_flow_120 : decode cX5_flow 120 = .ok (.laload, 1) := by decide +kernel
theorem dX5_flow_121 : decode cX5_flow 121 = .ok (.lreturn, 1) := by decide +kernel
theorem dX5_sweet_0 : decode cX5_sweet 0 = .ok (.iload_n 1, 1) := by decide +kernel
theorem dX5_sweet_1 : decode cX5_sweet 1 = .ok (.iconst 0, 1) := by decide +kernel
theorem dX5_sweet_2 : decode cX5_sweet 2 = .ok (.iconst 2, 1) := by decide +kernel
theorem dX5_sweet_3 : decode cX5_sweet 3 = .ok (.invokestatic 64, 3) := by decide +kernel
theorem dX5_sweet_6 : decode cX5_sweet 6 = .ok (.ifCond .eq 7, 3) := by decide +kernel
theorem dX5_sweet_9 : decode cX5_sweet 9 = .ok (.ldc2_w 68, 3) := by decide +kernel
theorem dX5_sweet_12 : decode cX5_sweet 12 = .ok (.lreturn, 1) := by decide +kernel
theorem dX5_sweet_13 : decode cX5_sweet 13 = .ok (.aload_n 0, 1) := by decide +kernel
theorem dX5_sweet_14 : decode cX5_sweet 14 = .ok (.invokevirtual 111, 3) := by decide +kernel
theorem dX5_sweet_17 : decode cX5_sweet 17 = .ok (.iload_n 1, 1) := by decide +kernel
theorem dX5_sweet_18 : decode cX5_sweet 18 = .ok (.lookupswitch 42 #[(0, 26), (1, 34)], 26) := by decide +kernel
theorem dX5_sweet_44 : decode cX5_sweet 44 = .ok (.aload_n 0, 1) := by decide +kernel
theorem dX5_sweet_45 : decode cX5_sweet 45 = .ok (.getfield 33, 3) := by decide +kernel
theorem dX5_sweet_48 : decode cX5_sweet 48 = .ok (.getfield 130, 3) := by decide +kernel
theorem dX5_sweet_51 : decode cX5_sweet 51 = .ok (.lreturn, 1) := by decide +kernel
theorem dX5_sweet_52 : decode cX5_sweet 52 = .ok (.aload_n 0, 1) := by decide +kernel
theorem dX5_sweet_53 : decode cX5_sweet 53 = .ok (.getfield 33, 3) := by decide +kernel
theorem dX5_sweet_56 : decode cX5_sweet 56 = .ok (.getfield 134, 3) := by decide +kernel
theorem dX5_sweet_59 : decode cX5_sweet 59 = .ok (.lreturn, 1) := by decide +kernel
theorem dX5_sweet_60 : decode cX5_sweet 60 = .ok (.aload_n 0, 1) := by decide +kernel
theorem dX5_sweet_61 : decode cX5_sweet 61 = .ok (.getfield 33, 3) := by decide +kernel
theorem dX5_sweet_64 : decode cX5_sweet 64 = .ok (.getfield 130, 3) := by decide +kernel
theorem dX5_sweet_67 : decode cX5_sweet 67 = .ok (.aload_n 0, 1) := by decide +kernel
theorem dX5_sweet_68 : decode cX5_sweet 68 = .ok (.getfield 33, 3) := by decide +kernel
theorem dX5_sweet_71 : decode cX5_sweet 71 = .ok (.getfield 134, 3) := by decide +kernel
theorem dX5_sweet_74 : decode cX5_sweet 74 = .ok (.invokestatic 137, 3) := by decide +kernel
theorem dX5_sweet_77 : decode cX5_sweet 77 = .ok (.lreturn, 1) := by decide +kernel
theorem dX5_brine_0 : decode cX5_brine 0 = .ok (.iload_n 1, 1) := by decide +kernel
theorem dX5_brine_1 : decode cX5_brine 1 = .ok (.iconst 0, 1) := by decide +kernel
theorem dX5_brine_2 : decode cX5_brine 2 = .ok (.iconst 2, 1) := by decide +kernel
theorem dX5_brine_3 : decode cX5_brine 3 = .ok (.invokestatic 64, 3) := by decide +kernel
theorem dX5_brine_6 : decode cX5_brine 6 = .ok (.ifCond .eq 7, 3) := by decide +kernel
theorem dX5_brine_9 : decode cX5_brine 9 = .ok (.ldc2_w 68, 3) := by decide +kernel
theorem dX5_brine_12 : decode cX5_brine 12 = .ok (.lreturn, 1) := by decide +kernel
theorem dX5_brine_13 : decode cX5_brine 13 = .ok (.aload_n 0, 1) := by decide +kernel
theorem dX5_brine_14 : decode cX5_brine 14 = .ok (.invokevirtual 111, 3) := by decide +kernel
theorem dX5_brine_17 : decode cX5_brine 17 = .ok (.iload_n 1, 1) := by decide +kernel
theorem dX5_brine_18 : decode cX5_brine 18 = .ok (.lookupswitch 42 #[(0, 26), (1, 34)], 26) := by decide +kernel
theorem dX5_brine_44 : decode cX5_brine 44 = .ok (.aload_n 0, 1) := by decide +kernel
theorem dX5_brine_45 : decode cX5_brine 45 = .ok (.getfield 33, 3) := by decide +kernel
theorem dX5_brine_48 : decode cX5_brine 48 = .ok (.getfield 141, 3) := by decide +kernel
theorem dX5_brine_51 : decode cX5_brine 51 = .ok (.lreturn, 1) := by decide +kernel
theorem dX5_brine_52 : decode cX5_brine 52 = .ok (.aload_n 0, 1) := by decide +kernel
theorem dX5_brine_53 : decode cX5_brine 53 = .ok (.getfield 33, 3) := by decide +kernel
theorem dX5_brine_56 : decode cX5_brine 56 = .ok (.getfield 144, 3) := by decide +kernel
theorem dX5_brine_59 : decode cX5_brine 59 = .ok (.lreturn, 1) := by decide +kernel
theorem dX5_brine_60 : decode cX5_brine 60 = .ok (.aload_n 0, 1) := by decide +kernel
theorem dX5_brine_61 : decode cX5_brine 61 = .ok (.getfield 33, 3) := by decide +kernel
theorem dX5_brine_64 : decode cX5_brine 64 = .ok (.getfield 147, 3) := by decide +kernel
theorem dX5_brine_67 : decode cX5_brine 67 = .ok (.lreturn, 1) := by decide +kernel
theorem dX5_power_0 : decode cX5_power 0 = .ok (.aload_n 0, 1) := by decide +kernel
theorem dX5_power_1 : decode cX5_power 1 = .ok (.invokevirtual 111, 3) := by decide +kernel
theorem dX5_power_4 : decode cX5_power 4 = .ok (.aload_n 0, 1) := by decide +kernel
theorem dX5_power_5 : decode cX5_power 5 = .ok (.aload_n 0, 1) := by decide +kernel
theorem dX5_power_6 : decode cX5_power 6 = .ok (.getfield 58, 3) := by decide +kernel
theorem dX5_power_9 : decode cX5_power 9 = .ok (.invokevirtual 150, 3) := by decide +kernel
theorem dX5_power_12 : decode cX5_power 12 = .ok (.lreturn, 1) := by decide +kernel
theorem dX5_failure_0 : decode cX5_failure 0 = .ok (.aload_n 0, 1) := by decide +kernel
theorem dX5_failure_1 : decode cX5_failure 1 = .ok (.invokevirtual 111, 3) := by decide +kernel
theorem dX5_failure_4 : decode cX5_failure 4 = .ok (.aload_n 0, 1) := by decide +kernel
theorem dX5_failure_5 : decode cX5_failure 5 = .ok (.getfield 33, 3) := by decide +kernel
theorem dX5_failure_8 : decode cX5_failure 8 = .ok (.aload_n 0, 1) := by decide +kernel
theorem dX5_failure_9 : decode cX5_failure 9 = .ok (.getfield 16, 3) := by decide +kernel
theorem dX5_failure_12 : decode cX5_failure 12 = .ok (.aload_n 0, 1) := by decide +kernel
theorem dX5_failure_13 : decode cX5_failure 13 = .ok (.getfield 9, 3) := by decide +kernel
theorem dX5_failure_16 : decode cX5_failure 16 = .ok (.iconst 0, 1) := by decide +kernel
theorem dX5_failure_17 : decode cX5_failure 17 = .ok (.iaload, 1) := by decide +kernel
theorem dX5_failure_18 : decode cX5_failure 18 = .ok (.aload_n 0, 1) := by decide +kernel
theorem dX5_failure_19 : decode cX5_failure 19 = .ok (.getfield 9, 3) := by decide +kernel
theorem dX5_failure_22 : decode cX5_failure 22 = .ok (.iconst 1, 1) := by decide +kernel
theorem dX5_failure_23 : decode cX5_failure 23 = .ok (.iaload, 1) := by decide +kernel
theorem dX5_failure_24 : decode cX5_failure 24 = .ok (.invokevirtual 154, 3) := by decide +kernel
theorem dX5_failure_27 : decode cX5_failure 27 = .ok (.lreturn, 1) := by decide +kernel
theorem dX5_rule_0 : decode cX5_rule 0 = .ok (.iload_n 1, 1) := by decide +kernel
theorem dX5_rule_1 : decode cX5_rule 1 = .ok (.iconst 0, 1) := by decide +kernel
theorem dX5_rule_2 : decode cX5_rule 2 = .ok (.bipush 6, 2) := by decide +kernel
theorem dX5_rule_4 : decode cX5_rule 4 = .ok (.invokestatic 64, 3) := by decide +kernel
theorem dX5_rule_7 : decode cX5_rule 7 = .ok (.ifCond .ne 20, 3) := by decide +kernel
theorem dX5_rule_10 : decode cX5_rule 10 = .ok (.iload_n 2, 1) := by decide +kernel
theorem dX5_rule_11 : decode cX5_rule 11 = .ok (.getstatic 158, 3) := by decide +kernel
theorem dX5_rule_14 : decode cX5_rule 14 = .ok (.iload_n 1, 1) := by decide +kernel
theorem dX5_rule_15 : decode cX5_rule 15 = .ok (.iaload, 1) := by decide +kernel
theorem dX5_rule_16 : decode cX5_rule 16 = .ok (.getstatic 161, 3) := by decide +kernel
theorem dX5_rule_19 : decode cX5_rule 19 = .ok (.iload_n 1, 1) := by decide +kernel
theorem dX5_rule_20 : decode cX5_rule 20 = .ok (.iaload, 1) := by decide +kernel
theorem dX5_rule_21 : decode cX5_rule 21 = .ok (.invokestatic 64, 3) := by decide +kernel
theorem dX5_rule_24 : decode cX5_rule 24 = .ok (.ifCond .eq 7, 3) := by decide +kernel
theorem dX5_rule_27 : decode cX5_rule 27 = .ok (.ldc2_w 68, 3) := by decide +kernel
theorem dX5_rule_30 : decode cX5_rule 30 = .ok (.lreturn, 1) := by decide +kernel
theorem dX5_rule_31 : decode cX5_rule 31 = .ok (.aload_n 0, 1) := by decide +kernel
theorem dX5_rule_32 : decode cX5_rule 32 = .ok (.getfield 9, 3) := by decide +kernel
theorem dX5_rule_35 : decode cX5_rule 35 = .ok (.iload_n 1, 1) := by decide +kernel
theorem dX5_rule_36 : decode cX5_rule 36 = .ok (.iaload, 1) := by decide +kernel
theorem dX5_rule_37 : decode cX5_rule 37 = .ok (.istore_n 3, 1) := by decide +kernel
theorem dX5_rule_38 : decode cX5_rule 38 = .ok (.aload_n 0, 1) := by decide +kernel
theorem dX5_rule_39 : decode cX5_rule 39 = .ok (.getfield 9, 3) := by decide +kernel
theorem dX5_rule_42 : decode cX5_rule 42 = .ok (.iload_n 1, 1) := by decide +kernel
theorem dX5_rule_43 : decode cX5_rule 43 = .ok (.iload_n 2, 1) := by decide +kernel
theorem dX5_rule_44 : decode cX5_rule 44 = .ok (.iastore, 1) := by decide +kernel
theorem dX5_rule_45 : decode cX5_rule 45 = .ok (.iload_n 3, 1) := by decide +kernel
theorem dX5_rule_46 : decode cX5_rule 46 = .ok (.i2l, 1) := by decide +kernel
theorem dX5_rule_47 : decode cX5_rule 47 = .ok (.lreturn, 1) := by decide +kernel
theorem dX5_days_0 : decode cX5_days 0 = .ok (.iload_n 1, 1) := by decide +kernel
theorem dX5_days_1 : decode cX5_days 1 = .ok (.iconst 1, 1) := by decide +kernel
theorem dX5_days_2 : decode cX5_days 2 = .ok (.bipush 60, 2) := by decide +kernel
theorem dX5_days_4 : decode cX5_days 4 = .ok (.invokestatic 64, 3) := by decide +kernel
theorem dX5_days_7 : decode cX5_days 7 = .ok (.ifCond .ne 15, 3) := by decide +kernel
theorem dX5_days_10 : decode cX5_days 10 = .ok (.aload_n 0, 1) := by decide +kernel
theorem dX5_days_11 : decode cX5_days 11 = .ok (.getfield 61, 3) := by decide +kernel
theorem dX5_days_14 : decode cX5_days 14 = .ok (.iload_n 1, 1) := by decide +kernel
theorem dX5_days_15 : decode cX5_days 15 = .ok (.iadd, 1) := by decide +kernel
theorem dX5_days_16 : decode cX5_days 16 = .ok (.sipush 1000, 3) := by decide +kernel
theorem dX5_days_19 : decode cX5_days 19 = .ok (.if_icmp .le 7, 3) := by decide +kernel
theorem dX5_days_22 : decode cX5_days 22 = .ok (.ldc2_w 68, 3) := by decide +kernel
theorem dX5_days_25 : decode cX5_days 25 = .ok (.lreturn, 1) := by decide +kernel
theorem dX5_days_26 : decode cX5_days 26 = .ok (.iconst 0, 1) := by decide +kernel
theorem dX5_days_27 : decode cX5_days 27 = .ok (.istore_n 2, 1) := by decide +kernel
theorem dX5_days_28 : decode cX5_days 28 = .ok (.iload_n 2, 1) := by decide +kernel
theorem dX5_days_29 : decode cX5_days 29 = .ok (.iload_n 1, 1) := by decide +kernel
theorem dX5_days_30 : decode cX5_days 30 = .ok (.if_icmp .ge 13, 3) := by decide +kernel
theorem dX5_days_33 : decode cX5_days 33 = .ok (.aload_n 0, 1) := by decide +kernel
theorem dX5_days_34 : decode cX5_days 34 = .ok (.invokevirtual 164, 3) := by decide +kernel
theorem dX5_days_37 : decode cX5_days 37 = .ok (.iinc 2 1, 3) := by decide +kernel
theorem dX5_days_40 : decode cX5_days 40 = .ok (.goto (-12), 3) := by decide +kernel
theorem dX5_days_43 : decode cX5_days 43 = .ok (.aload_n 0, 1) := by decide +kernel
theorem dX5_days_44 : decode cX5_days 44 = .ok (.getfield 61, 3) := by decide +kernel
theorem dX5_days_47 : decode cX5_days 47 = .ok (.i2l, 1) := by decide +kernel
theorem dX5_days_48 : decode cX5_days 48 = .ok (.lreturn, 1) := by decide +kernel
theorem dX5_foul_0 : decode cX5_foul 0 = .ok (.iload_n 1, 1) := by decide +kernel
theorem dX5_foul_1 : decode cX5_foul 1 = .ok (.iconst 0, 1) := by decide +kernel
theorem dX5_foul_2 : decode cX5_foul 2 = .ok (.iconst 2, 1) := by decide +kernel
theorem dX5_foul_3 : decode cX5_foul 3 = .ok (.invokestatic 64, 3) := by decide +kernel
theorem dX5_foul_6 : decode cX5_foul 6 = .ok (.ifCond .eq 7, 3) := by decide +kernel
theorem dX5_foul_9 : decode cX5_foul 9 = .ok (.ldc2_w 68, 3) := by decide +kernel
theorem dX5_foul_12 : decode cX5_foul 12 = .ok (.lreturn, 1) := by decide +kernel
theorem dX5_foul_13 : decode cX5_foul 13 = .ok (.lconst 0, 1) := by decide +kernel
theorem dX5_foul_14 : decode cX5_foul 14 = .ok (.lstore_n 2, 1) := by decide +kernel
theorem dX5_foul_15 : decode cX5_foul 15 = .ok (.iconst 0, 1) := by decide +kernel
theorem dX5_foul_16 : decode cX5_foul 16 = .ok (.istore 4, 2) := by decide +kernel
theorem dX5_foul_18 : decode cX5_foul 18 = .ok (.iconst 0, 1) := by decide +kernel
theorem dX5_foul_19 : decode cX5_foul 19 = .ok (.istore 5, 2) := by decide +kernel
theorem dX5_foul_21 : decode cX5_foul 21 = .ok (.iload 5, 2) := by decide +kernel
theorem dX5_foul_23 : decode cX5_foul 23 = .ok (.bipush 72, 2) := by decide +kernel
theorem dX5_foul_25 : decode cX5_foul 25 = .ok (.if_icmp .ge 67, 3) := by decide +kernel
theorem dX5_foul_28 : decode cX5_foul 28 = .ok (.aload_n 0, 1) := by decide +kernel
theorem dX5_foul_29 : decode cX5_foul 29 = .ok (.getfield 16, 3) := by decide +kernel
theorem dX5_foul_32 : decode cX5_foul 32 = .ok (.iload 5, 2) := by decide +kernel
theorem dX5_foul_34 : decode cX5_foul 34 = .ok (.invokevirtual 105, 3) := by decide +kernel
theorem dX5_foul_37 : decode cX5_foul 37 = .ok (.ifCond .eq 49, 3) := by decide +kernel
theorem dX5_foul_40 : decode cX5_foul 40 = .ok (.lload_n 2, 1) := by decide +kernel
theorem dX5_foul_41 : decode cX5_foul 41 = .ok (.aload_n 0, 1) := by decide +kernel
theorem dX5_foul_42 : decode cX5_foul 42 = .ok (.getfield 26, 3) := by decide +kernel
theorem dX5_foul_45 : decode cX5_foul 45 = .ok (.getfield 87, 3) := by decide +kernel
theorem dX5_foul_48 : decode cX5_foul 48 = .ok (.iload 5, 2) := by decide +kernel
theorem dX5_foul_50 : decode cX5_foul 50 = .ok (.iaload, 1) := by decide +kernel
theorem dX5_foul_51 : decode cX5_foul 51 = .ok (.i2l, 1) := by decide +kernel
theorem dX5_foul_52 : decode cX5_foul 52 = .ok (.ladd, 1) := by decide +kernel
theorem dX5_foul_53 : decode cX5_foul 53 = .ok (.lstore_n 2, 1) := by decide +kernel
theorem dX5_foul_54 : decode cX5_foul 54 = .ok (.aload_n 0, 1) := by decide +kernel
theorem dX5_foul_55 : decode cX5_foul 55 = .ok (.getfield 26, 3) := by decide +kernel
theorem dX5_foul_58 : decode cX5_foul 58 = .ok (.getfield 87, 3) := by decide +kernel
theorem dX5_foul_61 : decode cX5_foul 61 = .ok (.iload 5, 2) := by decide +kernel
theorem dX5_foul_63 : decode cX5_foul 63 = .ok (.iaload, 1) := by decide +kernel
theorem dX5_foul_64 : decode cX5_foul 64 = .ok (.aload_n 0, 1) := by decide +kernel
theorem dX5_foul_65 : decode cX5_foul 65 = .ok (.getfield 26, 3) := by decide +kernel
theorem dX5_foul_68 : decode cX5_foul 68 = .ok (.getfield 87, 3) := by decide +kernel
theorem dX5_foul_71 : decode cX5_foul 71 = .ok (.iload 4, 2) := by decide +kernel
theorem dX5_foul_73 : decode cX5_foul 73 = .ok (.iaload, 1) := by decide +kernel
theorem dX5_foul_74 : decode cX5_foul 74 = .ok (.if_icmp .le 8, 3) := by decide +kernel
theorem dX5_foul_77 : decode cX5_foul 77 = .ok (.iload 5, 2) := by decide +kernel
theorem dX5_foul_79 : decode cX5_foul 79 = .ok (.goto 5, 3) := by decide +kernel
theorem dX5_foul_82 : decode cX5_foul 82 = .ok (.iload 4, 2) := by decide +kernel
theorem dX5_foul_84 : decode cX5_foul 84 = .ok (.istore 4, 2) := by decide +kernel
theorem dX5_foul_86 : decode cX5_foul 86 = .ok (.iinc 5 1, 3) := by decide +kernel
theorem dX5_foul_89 : decode cX5_foul 89 = .ok (.goto (-68), 3) := by decide +kernel
theorem dX5_foul_92 : decode cX5_foul 92 = .ok (.iload_n 1, 1) := by decide +kernel
theorem dX5_foul_93 : decode cX5_foul 93 = .ok (.ifCond .ne 5, 3) := by decide +kernel
theorem dX5_foul_96 : decode cX5_foul 96 = .ok (.lload_n 2, 1) := by decide +kernel
theorem dX5_foul_97 : decode cX5_foul 97 = .ok (.lreturn, 1) := by decide +kernel
theorem dX5_foul_98 : decode cX5_foul 98 = .ok (.iload_n 1, 1) := by decide +kernel
theorem dX5_foul_99 : decode cX5_foul 99 = .ok (.iconst 1, 1) := by decide +kernel
theorem dX5_foul_100 : decode cX5_foul 100 = .ok (.if_icmp .ne 17, 3) := by decide +kernel
theorem dX5_foul_103 : decode cX5_foul 103 = .ok (.aload_n 0, 1) := by decide +kernel
theorem dX5_foul_104 : decode cX5_foul 104 = .ok (.getfield 26, 3) := by decide +kernel
theorem dX5_foul_107 : decode cX5_foul 107 = .ok (.getfield 87, 3) := by decide +kernel
theorem dX5_foul_110 : decode cX5_foul 110 = .ok (.iload 4, 2) := by decide +kernel
theorem dX5_foul_112 : decode cX5_foul 112 = .ok (.iaload, 1) := by decide +kernel
theorem dX5_foul_113 : decode cX5_foul 113 = .ok (.i2l, 1) := by decide +kernel
theorem dX5_foul_114 : decode cX5_foul 114 = .ok (.goto 9, 3) := by decide +kernel
theorem dX5_foul_117 : decode cX5_foul 117 = .ok (.iload 4, 2) := by decide +kernel
theorem dX5_foul_119 : decode cX5_foul 119 = .ok (.invokestatic 167, 3) := by decide +kernel
theorem dX5_foul_122 : decode cX5_foul 122 = .ok (.i2l, 1) := by decide +kernel
theorem dX5_foul_123 : decode cX5_foul 123 = .ok (.lreturn, 1) := by decide +kernel
theorem dX5_swap_0 : decode cX5_swap 0 = .ok (.aload_n 0, 1) := by decide +kernel
theorem dX5_swap_1 : decode cX5_swap 1 = .ok (.invokevirtual 111, 3) := by decide +kernel
theorem dX5_swap_4 : decode cX5_swap 4 = .ok (.ldc2_w 170, 3) := by decide +kernel
theorem dX5_swap_7 : decode cX5_swap 7 = .ok (.lstore_n 1, 1) := by decide +kernel
theorem dX5_swap_8 : decode cX5_swap 8 = .ok (.aload_n 0, 1) := by decide +kernel
theorem dX5_swap_9 : decode cX5_swap 9 = .ok (.getfield 33, 3) := by decide +kernel
theorem dX5_swap_12 : decode cX5_swap 12 = .ok (.getfield 130, 3) := by decide +kernel
theorem dX5_swap_15 : decode cX5_swap 15 = .ok (.lstore_n 3, 1) := by decide +kernel
theorem dX5_swap_16 : decode cX5_swap 16 = .ok (.iconst 0, 1) := by decide +kernel
theorem dX5_swap_17 : decode cX5_swap 17 = .ok (.istore 5, 2) := by decide +kernel
theorem dX5_swap_19 : decode cX5_swap 19 = .ok (.iload 5, 2) := by decide +kernel
theorem dX5_swap_21 : decode cX5_swap 21 = .ok (.bipush 72, 2) := by decide +kernel
theorem dX5_swap_23 : decode cX5_swap 23 = .ok (.if_icmp .ge 77, 3) := by decide +kernel
theorem dX5_swap_26 : decode cX5_swap 26 = .ok (.iload 5, 2) := by decide +kernel
theorem dX5_swap_28 : decode cX5_swap 28 = .ok (.iconst 1, 1) := by decide +kernel
theorem dX5_swap_29 : decode cX5_swap 29 = .ok (.iadd, 1) := by decide +kernel
theorem dX5_swap_30 : decode cX5_swap 30 = .ok (.istore 6, 2) := by decide +kernel
theorem dX5_swap_32 : decode cX5_swap 32 = .ok (.iload 6, 2) := by decide +kernel
theorem dX5_swap_34 : decode cX5_swap 34 = .ok (.bipush 72, 2) := by decide +kernel
theorem dX5_swap_36 : decode cX5_swap 36 = .ok (.if_icmp .ge 58, 3) := by decide +kernel
theorem dX5_swap_39 : decode cX5_swap 39 = .ok (.aload_n 0, 1) := by decide +kernel
theorem dX5_swap_40 : decode cX5_swap 40 = .ok (.iload 5, 2) := by decide +kernel
theorem dX5_swap_42 : decode cX5_swap 42 = .ok (.iload 6, 2) := by decide +kernel
theorem dX5_swap_44 : decode cX5_swap 44 = .ok (.invokevirtual 172, 3) := by decide +kernel
theorem dX5_swap_47 : decode cX5_swap 47 = .ok (.ifCond .eq 41, 3) := by decide +kernel
theorem dX5_swap_50 : decode cX5_swap 50 = .ok (.aload_n 0, 1) := by decide +kernel
theorem dX5_swap_51 : decode cX5_swap 51 = .ok (.iload 5, 2) := by decide +kernel
theorem dX5_swap_53 : decode cX5_swap 53 = .ok (.iload 6, 2) := by decide +kernel
theorem dX5_swap_55 : decode cX5_swap 55 = .ok (.invokevirtual 175, 3) := by decide +kernel
theorem dX5_swap_58 : decode cX5_swap 58 = .ok (.lstore 7, 2) := by decide +kernel
theorem dX5_swap_60 : decode cX5_swap 60 = .ok (.lload 7, 2) := by decide +kernel
theorem dX5_swap_62 : decode cX5_swap 62 = .ok (.lload_n 3, 1) := by decide +kernel
theorem dX5_swap_63 : decode cX5_swap 63 = .ok (.lcmp, 1) := by decide +kernel
theorem dX5_swap_64 : decode cX5_swap 64 = .ok (.ifCond .le 24, 3) := by decide +kernel
theorem dX5_swap_67 : decode cX5_swap 67 = .ok (.lload 7, 2) := by decide +kernel
theorem dX5_swap_69 : decode cX5_swap 69 = .ok (.lstore_n 3, 1) := by decide +kernel
theorem dX5_swap_70 : decode cX5_swap 70 = .ok (.ldc2_w 179, 3) := by decide +kernel
theorem dX5_swap_73 : decode cX5_swap 73 = .ok (.iload 5, 2) := by decide +kernel
theorem dX5_swap_75 : decode cX5_swap 75 = .ok (.invokestatic 167, 3) := by decide +kernel
theorem dX5_swap_78 : decode cX5_swap 78 = .ok (.i2l, 1) := by decide +kernel
theorem dX5_swap_79 : decode cX5_swap 79 = .ok (.lmul, 1) := by decide +kernel
theorem dX5_swap_80 : decode cX5_swap 80 = .ok (.iload 6, 2) := by decide +kernel
theorem dX5_swap_82 : decode cX5_swap 82 = .ok (.invokestatic 167, 3) := by decide +kernel
theorem dX5_swap_85 : decode cX5_swap 85 = .ok (.i2l, 1) := by decide +kernel
theorem dX5_swap_86 : decode cX5_swap 86 = .ok (.ladd, 1) := by decide +kernel
theorem dX5_swap_87 : decode cX5_swap 87 = .ok (.lstore_n 1, 1) := by decide +kernel
theorem dX5_swap_88 : decode cX5_swap 88 = .ok (.iinc 6 1, 3) := by decide +kernel
theorem dX5_swap_91 : decode cX5_swap 91 = .ok (.goto (-59), 3) := by decide +kernel
theorem dX5_swap_94 : decode cX5_swap 94 = .ok (.iinc 5 1, 3) := by decide +kernel
theorem dX5_swap_97 : decode cX5_swap 97 = .ok (.goto (-78), 3) := by decide +kernel
theorem dX5_swap_100 : decode cX5_swap 100 = .ok (.lload_n 1, 1) := by decide +kernel
theorem dX5_swap_101 : decode cX5_swap 101 = .ok (.lreturn, 1) := by decide +kernel
theorem dX5_array_0 : decode cX5_array 0 = .ok (.iload_n 1, 1) := by decide +kernel
theorem dX5_array_1 : decode cX5_array 1 = .ok (.iconst 0, 1) := by decide +kernel
theorem dX5_array_2 : decode cX5_array 2 = .ok (.ldc 181, 2) := by decide +kernel
theorem dX5_array_4 : decode cX5_array 4 = .ok (.invokestatic 64, 3) := by decide +kernel
theorem dX5_array_7 : decode cX5_array 7 = .ok (.ifCond .ne 13, 3) := by decide +kernel
theorem dX5_array_10 : decode cX5_array 10 = .ok (.iload_n 2, 1) := by decide +kernel
theorem dX5_array_11 : decode cX5_array 11 = .ok (.iconst 0, 1) := by decide +kernel
theorem dX5_array_12 : decode cX5_array 12 = .ok (.ldc 100, 2) := by decide +kernel
theorem dX5_array_14 : decode cX5_array 14 = .ok (.invokestatic 64, 3) := by decide +kernel
theorem dX5_array_17 : decode cX5_array 17 = .ok (.ifCond .eq 7, 3) := by decide +kernel
theorem dX5_array_20 : decode cX5_array 20 = .ok (.ldc2_w 68, 3) := by decide +kernel
theorem dX5_array_23 : decode cX5_array 23 = .ok (.lreturn, 1) := by decide +kernel
theorem dX5_array_24 : decode cX5_array 24 = .ok (.aload_n 0, 1) := by decide +kernel
theorem dX5_array_25 : decode cX5_array 25 = .ok (.getfield 33, 3) := by decide +kernel
theorem dX5_array_28 : decode cX5_array 28 = .ok (.aload_n 0, 1) := by decide +kernel
theorem dX5_array_29 : decode cX5_array 29 = .ok (.getfield 26, 3) := by decide +kernel
theorem dX5_array_32 : decode cX5_array 32 = .ok (.invokevirtual 182, 3) := by decide +kernel
theorem dX5_array_35 : decode cX5_array 35 = .ok (.aload_n 0, 1) := by decide +kernel
theorem dX5_array_36 : decode cX5_array 36 = .ok (.getfield 20, 3) := by decide +kernel
theorem dX5_array_39 : decode cX5_array 39 = .ok (.aload_n 0, 1) := by decide +kernel
theorem dX5_array_40 : decode cX5_array 40 = .ok (.getfield 16, 3) := by decide +kernel
theorem dX5_array_43 : decode cX5_array 43 = .ok (.getfield 73, 3) := by decide +kernel
theorem dX5_array_46 : decode cX5_array 46 = .ok (.putfield 73, 3) := by decide +kernel
theorem dX5_array_49 : decode cX5_array 49 = .ok (.ldc2_w 109, 3) := by decide +kernel
theorem dX5_array_52 : decode cX5_array 52 = .ok (.lstore_n 3, 1) := by decide +kernel
theorem dX5_array_53 : decode cX5_array 53 = .ok (.ldc2_w 188, 3) := by decide +kernel
theorem dX5_array_56 : decode cX5_array 56 = .ok (.lstore 5, 2) := by decide +kernel
theorem dX5_array_58 : decode cX5_array 58 = .ok (.bipush 100, 2) := by decide +kernel
theorem dX5_array_60 : decode cX5_array 60 = .ok (.istore 7, 2) := by decide +kernel
theorem dX5_array_62 : decode cX5_array 62 = .ok (.iload 7, 2) := by decide +kernel
theorem dX5_array_64 : decode cX5_array 64 = .ok (.sipush 900, 3) := by decide +kernel
theorem dX5_array_67 : decode cX5_array 67 = .ok (.if_icmp .gt 110, 3) := by decide +kernel
theorem dX5_array_70 : decode cX5_array 70 = .ok (.iconst 0, 1) := by decide +kernel
theorem dX5_array_71 : decode cX5_array 71 = .ok (.istore 8, 2) := by decide +kernel
theorem dX5_array_73 : decode cX5_array 73 = .ok (.iload 8, 2) := by decide +kernel
theorem dX5_array_75 : decode cX5_array 75 = .ok (.bipush 100, 2) := by decide +kernel
theorem dX5_array_77 : decode cX5_array 77 = .ok (.if_icmp .ge 94, 3) := by decide +kernel
theorem dX5_array_80 : decode cX5_array 80 = .ok (.aload_n 0, 1) := by decide +kernel
theorem dX5_array_81 : decode cX5_array 81 = .ok (.getfield 20, 3) := by decide +kernel
theorem dX5_array_84 : decode cX5_array 84 = .ok (.iload 8, 2) := by decide +kernel
theorem dX5_array_86 : decode cX5_array 86 = .ok (.invokevirtual 190, 3) := by decide +kernel
theorem dX5_array_89 : decode cX5_array 89 = .ok (.ifCond .ne 6, 3) := by decide +kernel
theorem dX5_array_92 : decode cX5_array 92 = .ok (.goto 73, 3) := by decide +kernel
theorem dX5_array_95 : decode cX5_array 95 = .ok (.aload_n 0, 1) := by decide +kernel
theorem dX5_array_96 : decode cX5_array 96 = .ok (.getfield 33, 3) := by decide +kernel
theorem dX5_array_99 : decode cX5_array 99 = .ok (.aload_n 0, 1) := by decide +kernel
theorem dX5_array_100 : decode cX5_array 100 = .ok (.getfield 20, 3) := by decide +kernel
theorem dX5_array_103 : decode cX5_array 103 = .ok (.aload_n 0, 1) := by decide +kernel
theorem dX5_array_104 : decode cX5_array 104 = .ok (.getfield 51, 3) := by decide +kernel
theorem dX5_array_107 : decode cX5_array 107 = .ok (.i2l, 1) := by decide +kernel
theorem dX5_array_108 : decode cX5_array 108 = .ok (.aload_n 0, 1) := by decide +kernel
theorem dX5_array_109 : decode cX5_array 109 = .ok (.getfield 55, 3) := by decide +kernel
theorem dX5_array_112 : decode cX5_array 112 = .ok (.i2l, 1) := by decide +kernel
theorem dX5_array_113 : decode cX5_array 113 = .ok (.iload 7, 2) := by decide +kernel
theorem dX5_array_115 : decode cX5_array 115 = .ok (.i2l, 1) := by decide +kernel
theorem dX5_array_116 : decode cX5_array 116 = .ok (.invokevirtual 193, 3) := by decide +kernel
theorem dX5_array_119 : decode cX5_array 119 = .ok (.aload_n 0, 1) := by decide +kernel
theorem dX5_array_120 : decode cX5_array 120 = .ok (.iload 7, 2) := by decide +kernel
theorem dX5_array_122 : decode cX5_array 122 = .ok (.invokevirtual 150, 3) := by decide +kernel
theorem dX5_array_125 : decode cX5_array 125 = .ok (.lstore 9, 2) := by decide +kernel
theorem dX5_array_127 : decode cX5_array 127 = .ok (.lload 9, 2) := by decide +kernel
theorem dX5_array_129 : decode cX5_array 129 = .ok (.lload 5, 2) := by decide +kernel
theorem dX5_array_131 : decode cX5_array 131 = .ok (.lcmp, 1) := by decide +kernel
theorem dX5_array_132 : decode cX5_array 132 = .ok (.ifCond .ge 33, 3) := by decide +kernel
theorem dX5_array_135 : decode cX5_array 135 = .ok (.aload_n 0, 1) := by decide +kernel
theorem dX5_array_136 : decode cX5_array 136 = .ok (.iload_n 1, 1) := by decide +kernel
theorem dX5_array_137 : decode cX5_array 137 = .ok (.iload_n 2, 1) := by decide +kernel
theorem dX5_array_138 : decode cX5_array 138 = .ok (.invokevirtual 197, 3) := by decide +kernel
theorem dX5_array_141 : decode cX5_array 141 = .ok (.ifCond .eq 24, 3) := by decide +kernel
theorem dX5_array_144 : decode cX5_array 144 = .ok (.lload 9, 2) := by decide +kernel
theorem dX5_array_146 : decode cX5_array 146 = .ok (.lstore 5, 2) := by decide +kernel
theorem dX5_array_148 : decode cX5_array 148 = .ok (.ldc2_w 179, 3) := by decide +kernel
theorem dX5_array_151 : decode cX5_array 151 = .ok (.iload 7, 2) := by decide +kernel
theorem dX5_array_153 : decode cX5_array 153 = .ok (.i2l, 1) := by decide +kernel
theorem dX5_array_154 : decode cX5_array 154 = .ok (.lmul, 1) := by decide +kernel
theorem dX5_array_155 : decode cX5_array 155 = .ok (.aload_n 0, 1) := by decide +kernel
theorem dX5_array_156 : decode cX5_array 156 = .ok (.getfield 20, 3) := by decide +kernel
theorem dX5_array_159 : decode cX5_array 159 = .ok (.invokevirtual 200, 3) := by decide +kernel
theorem dX5_array_162 : decode cX5_array 162 = .ok (.i2l, 1) := by decide +kernel
theorem dX5_array_163 : decode cX5_array 163 = .ok (.ladd, 1) := by decide +kernel
theorem dX5_array_164 : decode cX5_array 164 = .ok (.lstore_n 3, 1) := by decide +kernel
theorem dX5_array_165 : decode cX5_array 165 = .ok (.iinc 8 1, 3) := by decide +kernel
theorem dX5_array_168 : decode cX5_array 168 = .ok (.goto (-95), 3) := by decide +kernel
theorem dX5_array_171 : decode cX5_array 171 = .ok (.iinc 7 100, 3) := by decide +kernel
theorem dX5_array_174 : decode cX5_array 174 = .ok (.goto (-112), 3) := by decide +kernel
theorem dX5_array_177 : decode cX5_array 177 = .ok (.lload_n 3, 1) := by decide +kernel
theorem dX5_array_178 : decode cX5_array 178 = .ok (.lreturn, 1) := by decide +kernel
theorem dX5_hour_0 : decode cX5_hour 0 = .ok (.iload_n 1, 1) := by decide +kernel
theorem dX5_hour_1 : decode cX5_hour 1 = .ok (.iconst 0, 1) := by decide +kernel
theorem dX5_hour_2 : decode cX5_hour 2 = .ok (.bipush 11, 2) := by decide +kernel
theorem dX5_hour_4 : decode cX5_hour 4 = .ok (.invokestatic 64, 3) := by decide +kernel
theorem dX5_hour_7 : decode cX5_hour 7 = .ok (.ifCond .ne 24, 3) := by decide +kernel
theorem dX5_hour_10 : decode cX5_hour 10 = .ok (.iload_n 2, 1) := by decide +kernel
theorem dX5_hour_11 : decode cX5_hour 11 = .ok (.iconst 0, 1) := by decide +kernel
theorem dX5_hour_12 : decode cX5_hour 12 = .ok (.iconst 1, 1) := by decide +kernel
theorem dX5_hour_13 : decode cX5_hour 13 = .ok (.invokestatic 64, 3) := by decide +kernel
theorem dX5_hour_16 : decode cX5_hour 16 = .ok (.ifCond .ne 15, 3) := by decide +kernel
theorem dX5_hour_19 : decode cX5_hour 19 = .ok (.iload_n 3, 1) := by decide +kernel
theorem dX5_hour_20 : decode cX5_hour 20 = .ok (.iconst 0, 1) := by decide +kernel
theorem dX5_hour_21 : decode cX5_hour 21 = .ok (.iload_n 2, 1) := by decide +kernel
theorem dX5_hour_22 : decode cX5_hour 22 = .ok (.invokestatic 204, 3) := by decide +kernel
theorem dX5_hour_25 : decode cX5_hour 25 = .ok (.invokestatic 64, 3) := by decide +kernel
theorem dX5_hour_28 : decode cX5_hour 28 = .ok (.ifCond .eq 7, 3) := by decide +kernel
theorem dX5_hour_31 : decode cX5_hour 31 = .ok (.ldc2_w 68, 3) := by decide +kernel
theorem dX5_hour_34 : decode cX5_hour 34 = .ok (.lreturn, 1) := by decide +kernel
theorem dX5_hour_35 : decode cX5_hour 35 = .ok (.aload_n 0, 1) := by decide +kernel
theorem dX5_hour_36 : decode cX5_hour 36 = .ok (.getfield 40, 3) := by decide +kernel
theorem dX5_hour_39 : decode cX5_hour 39 = .ok (.iload_n 2, 1) := by decide +kernel
theorem dX5_hour_40 : decode cX5_hour 40 = .ok (.invokevirtual 207, 3) := by decide +kernel
theorem dX5_hour_43 : decode cX5_hour 43 = .ok (.astore 4, 2) := by decide +kernel
theorem dX5_hour_45 : decode cX5_hour 45 = .ok (.aload 4, 2) := by decide +kernel
theorem dX5_hour_47 : decode cX5_hour 47 = .ok (.iload_n 1, 1) := by decide +kernel
theorem dX5_hour_48 : decode cX5_hour 48 = .ok (.iaload, 1) := by decide +kernel
theorem dX5_hour_49 : decode cX5_hour 49 = .ok (.istore 5, 2) := by decide +kernel
theorem dX5_hour_51 : decode cX5_hour 51 = .ok (.aload 4, 2) := by decide +kernel
theorem dX5_hour_53 : decode cX5_hour 53 = .ok (.iload_n 1, 1) := by decide +kernel
theorem dX5_hour_54 : decode cX5_hour 54 = .ok (.iload_n 3, 1) := by decide +kernel
theorem dX5_hour_55 : decode cX5_hour 55 = .ok (.iastore, 1) := by decide +kernel
theorem dX5_hour_56 : decode cX5_hour 56 = .ok (.iload 5, 2) := by decide +kernel
theorem dX5_hour_58 : decode cX5_hour 58 = .ok (.i2l, 1) := by decide +kernel
theorem dX5_hour_59 : decode cX5_hour 59 = .ok (.lreturn, 1) := by decide +kernel
theorem dX5_lay_0 : decode cX5_lay 0 = .ok (.iload_n 1, 1) := by decide +kernel
theorem dX5_lay_1 : decode cX5_lay 1 = .ok (.iconst 0, 1) := by decide +kernel
theorem dX5_lay_2 : decode cX5_lay 2 = .ok (.iconst 1, 1) := by decide +kernel
theorem dX5_lay_3 : decode cX5_lay 3 = .ok (.invokestatic 64, 3) := by decide +kernel
theorem dX5_lay_6 : decode cX5_lay 6 = .ok (.ifCond .ne 12, 3) := by decide +kernel
theorem dX5_lay_9 : decode cX5_lay 9 = .ok (.iload_n 2, 1) := by decide +kernel
theorem dX5_lay_10 : decode cX5_lay 10 = .ok (.iconst 0, 1) := by decide +kernel
theorem dX5_lay_11 : decode cX5_lay 11 = .ok (.iconst 1, 1) := by decide +kernel
theorem dX5_lay_12 : decode cX5_lay 12 = .ok (.invokestatic 64, 3) := by decide +kernel
theorem dX5_lay_15 : decode cX5_lay 15 = .ok (.ifCond .eq 7, 3) := by decide +kernel
theorem dX5_lay_18 : decode cX5_lay 18 = .ok (.ldc2_w 68, 3) := by decide +kernel
theorem dX5_lay_21 : decode cX5_lay 21 = .ok (.lreturn, 1) := by decide +kernel
theorem dX5_lay_22 : decode cX5_lay 22 = .ok (.aload_n 0, 1) := by decide +kernel
theorem dX5_lay_23 : decode cX5_lay 23 = .ok (.getfield 47, 3) := by decide +kernel
theorem dX5_lay_26 : decode cX5_lay 26 = .ok (.iload_n 2, 1) := by decide +kernel
theorem dX5_lay_27 : decode cX5_lay 27 = .ok (.aaload, 1) := by decide +kernel
end
section
theorem dX5_lay_28 : decode cX5_lay 28 = .ok (.astore_n 3, 1) := by decide +kernel
theorem dX5_lay_29 : decode cX5_lay 29 = .ok (.aload_n 3, 1) := by decide +kernel
theorem dX5_lay_30 : decode cX5_lay 30 = .ok (.invokevirtual 211, 3) := by decide +kernel
theorem dX5_lay_33 : decode cX5_lay 33 = .ok (.ifCond .eq 7, 3) := by decide +kernel
theorem dX5_lay_36 : decode cX5_lay 36 = .ok (.ldc2_w 215, 3) := by decide +kernel
theorem dX5_lay_39 : decode cX5_lay 39 = .ok (.lreturn, 1) := by decide +kernel
theorem dX5_lay_40 : decode cX5_lay 40 = .ok (.aload_n 0, 1) := by decide +kernel
theorem dX5_lay_41 : decode cX5_lay 41 = .ok (.getfield 40, 3) := by decide +kernel
theorem dX5_lay_44 : decode cX5_lay 44 = .ok (.iload_n 1, 1) := by decide +kernel
theorem dX5_lay_45 : decode cX5_lay 45 = .ok (.invokevirtual 207, 3) := by decide +kernel
theorem dX5_lay_48 : decode cX5_lay 48 = .ok (.astore 4, 2) := by decide +kernel
theorem dX5_lay_50 : decode cX5_lay 50 = .ok (.iload_n 1, 1) := by decide +kernel
theorem dX5_lay_51 : decode cX5_lay 51 = .ok (.invokestatic 204, 3) := by decide +kernel
theorem dX5_lay_54 : decode cX5_lay 54 = .ok (.istore 5, 2) := by decide +kernel
theorem dX5_lay_56 : decode cX5_lay 56 = .ok (.iconst 0, 1) := by decide +kernel
theorem dX5_lay_57 : decode cX5_lay 57 = .ok (.istore 6, 2) := by decide +kernel
theorem dX5_lay_59 : decode cX5_lay 59 = .ok (.iload 6, 2) := by decide +kernel
theorem dX5_lay_61 : decode cX5_lay 61 = .ok (.bipush 12, 2) := by decide +kernel
theorem dX5_lay_63 : decode cX5_lay 63 = .ok (.if_icmp .ge 53, 3) := by decide +kernel
theorem dX5_lay_66 : decode cX5_lay 66 = .ok (.aload_n 3, 1) := by decide +kernel
theorem dX5_lay_67 : decode cX5_lay 67 = .ok (.iload 6, 2) := by decide +kernel
theorem dX5_lay_69 : decode cX5_lay 69 = .ok (.invokevirtual 217, 3) := by decide +kernel
theorem dX5_lay_72 : decode cX5_lay 72 = .ok (.ifCond .eq 13, 3) := by decide +kernel
theorem dX5_lay_75 : decode cX5_lay 75 = .ok (.aload_n 3, 1) := by decide +kernel
theorem dX5_lay_76 : decode cX5_lay 76 = .ok (.getfield 220, 3) := by decide +kernel
theorem dX5_lay_79 : decode cX5_lay 79 = .ok (.iload 6, 2) := by decide +kernel
theorem dX5_lay_81 : decode cX5_lay 81 = .ok (.saload, 1) := by decide +kernel
theorem dX5_lay_82 : decode cX5_lay 82 = .ok (.goto 4, 3) := by decide +kernel
theorem dX5_lay_85 : decode cX5_lay 85 = .ok (.iconst 0, 1) := by decide +kernel
theorem dX5_lay_86 : decode cX5_lay 86 = .ok (.istore 7, 2) := by decide +kernel
theorem dX5_lay_88 : decode cX5_lay 88 = .ok (.aload 4, 2) := by decide +kernel
theorem dX5_lay_90 : decode cX5_lay 90 = .ok (.iload 6, 2) := by decide +kernel
theorem dX5_lay_92 : decode cX5_lay 92 = .ok (.iload 7, 2) := by decide +kernel
theorem dX5_lay_94 : decode cX5_lay 94 = .ok (.iconst 0, 1) := by decide +kernel
theorem dX5_lay_95 : decode cX5_lay 95 = .ok (.iload 5, 2) := by decide +kernel
theorem dX5_lay_97 : decode cX5_lay 97 = .ok (.invokestatic 64, 3) := by decide +kernel
theorem dX5_lay_100 : decode cX5_lay 100 = .ok (.ifCond .eq 7, 3) := by decide +kernel
theorem dX5_lay_103 : decode cX5_lay 103 = .ok (.iconst 0, 1) := by decide +kernel
theorem dX5_lay_104 : decode cX5_lay 104 = .ok (.goto 5, 3) := by decide +kernel
theorem dX5_lay_107 : decode cX5_lay 107 = .ok (.iload 7, 2) := by decide +kernel
theorem dX5_lay_109 : decode cX5_lay 109 = .ok (.iastore, 1) := by decide +kernel
theorem dX5_lay_110 : decode cX5_lay 110 = .ok (.iinc 6 1, 3) := by decide +kernel
theorem dX5_lay_113 : decode cX5_lay 113 = .ok (.goto (-54), 3) := by decide +kernel
theorem dX5_lay_116 : decode cX5_lay 116 = .ok (.aload_n 3, 1) := by decide +kernel
theorem dX5_lay_117 : decode cX5_lay 117 = .ok (.getfield 224, 3) := by decide +kernel
theorem dX5_lay_120 : decode cX5_lay 120 = .ok (.bipush 12, 2) := by decide +kernel
theorem dX5_lay_122 : decode cX5_lay 122 = .ok (.invokestatic 227, 3) := by decide +kernel
theorem dX5_lay_125 : decode cX5_lay 125 = .ok (.i2l, 1) := by decide +kernel
theorem dX5_lay_126 : decode cX5_lay 126 = .ok (.lreturn, 1) := by decide +kernel
theorem dX5_plan_0 : decode cX5_plan 0 = .ok (.iload_n 1, 1) := by decide +kernel
theorem dX5_plan_1 : decode cX5_plan 1 = .ok (.iconst 0, 1) := by decide +kernel
theorem dX5_plan_2 : decode cX5_plan 2 = .ok (.aload_n 0, 1) := by decide +kernel
theorem dX5_plan_3 : decode cX5_plan 3 = .ok (.getfield 9, 3) := by decide +kernel
theorem dX5_plan_6 : decode cX5_plan 6 = .ok (.iconst 5, 1) := by decide +kernel
theorem dX5_plan_7 : decode cX5_plan 7 = .ok (.iaload, 1) := by decide +kernel
theorem dX5_plan_8 : decode cX5_plan 8 = .ok (.invokestatic 64, 3) := by decide +kernel
theorem dX5_plan_11 : decode cX5_plan 11 = .ok (.ifCond .eq 7, 3) := by decide +kernel
theorem dX5_plan_14 : decode cX5_plan 14 = .ok (.ldc2_w 68, 3) := by decide +kernel
theorem dX5_plan_17 : decode cX5_plan 17 = .ok (.lreturn, 1) := by decide +kernel
theorem dX5_plan_18 : decode cX5_plan 18 = .ok (.aload_n 0, 1) := by decide +kernel
theorem dX5_plan_19 : decode cX5_plan 19 = .ok (.getfield 40, 3) := by decide +kernel
theorem dX5_plan_22 : decode cX5_plan 22 = .ok (.iload_n 1, 1) := by decide +kernel
theorem dX5_plan_23 : decode cX5_plan 23 = .ok (.aload_n 0, 1) := by decide +kernel
theorem dX5_plan_24 : decode cX5_plan 24 = .ok (.getfield 9, 3) := by decide +kernel
theorem dX5_plan_27 : decode cX5_plan 27 = .ok (.iconst 5, 1) := by decide +kernel
theorem dX5_plan_28 : decode cX5_plan 28 = .ok (.iaload, 1) := by decide +kernel
theorem dX5_plan_29 : decode cX5_plan 29 = .ok (.aload_n 0, 1) := by decide +kernel
theorem dX5_plan_30 : decode cX5_plan 30 = .ok (.getfield 9, 3) := by decide +kernel
theorem dX5_plan_33 : decode cX5_plan 33 = .ok (.bipush 6, 2) := by decide +kernel
theorem dX5_plan_35 : decode cX5_plan 35 = .ok (.iaload, 1) := by decide +kernel
theorem dX5_plan_36 : decode cX5_plan 36 = .ok (.invokevirtual 232, 3) := by decide +kernel
theorem dX5_plan_39 : decode cX5_plan 39 = .ok (.istore_n 2, 1) := by decide +kernel
theorem dX5_plan_40 : decode cX5_plan 40 = .ok (.iload_n 2, 1) := by decide +kernel
theorem dX5_plan_41 : decode cX5_plan 41 = .ok (.invokestatic 236, 3) := by decide +kernel
theorem dX5_plan_44 : decode cX5_plan 44 = .ok (.ifCond .eq 11, 3) := by decide +kernel
theorem dX5_plan_47 : decode cX5_plan 47 = .ok (.iload_n 2, 1) := by decide +kernel
theorem dX5_plan_48 : decode cX5_plan 48 = .ok (.invokestatic 239, 3) := by decide +kernel
theorem dX5_plan_51 : decode cX5_plan 51 = .ok (.i2l, 1) := by decide +kernel
theorem dX5_plan_52 : decode cX5_plan 52 = .ok (.goto 6, 3) := by decide +kernel
theorem dX5_plan_55 : decode cX5_plan 55 = .ok (.ldc2_w 109, 3) := by decide +kernel
theorem dX5_plan_58 : decode cX5_plan 58 = .ok (.lreturn, 1) := by decide +kernel
theorem dX5_runs_0 : decode cX5_runs 0 = .ok (.iload_n 1, 1) := by decide +kernel
theorem dX5_runs_1 : decode cX5_runs 1 = .ok (.iconst 0, 1) := by decide +kernel
theorem dX5_runs_2 : decode cX5_runs 2 = .ok (.aload_n 0, 1) := by decide +kernel
theorem dX5_runs_3 : decode cX5_runs 3 = .ok (.getfield 9, 3) := by decide +kernel
theorem dX5_runs_6 : decode cX5_runs 6 = .ok (.iconst 5, 1) := by decide +kernel
theorem dX5_runs_7 : decode cX5_runs 7 = .ok (.iaload, 1) := by decide +kernel
theorem dX5_runs_8 : decode cX5_runs 8 = .ok (.invokestatic 64, 3) := by decide +kernel
theorem dX5_runs_11 : decode cX5_runs 11 = .ok (.ifCond .eq 7, 3) := by decide +kernel
theorem dX5_runs_14 : decode cX5_runs 14 = .ok (.ldc2_w 68, 3) := by decide +kernel
theorem dX5_runs_17 : decode cX5_runs 17 = .ok (.lreturn, 1) := by decide +kernel
theorem dX5_runs_18 : decode cX5_runs 18 = .ok (.aload_n 0, 1) := by decide +kernel
theorem dX5_runs_19 : decode cX5_runs 19 = .ok (.getfield 40, 3) := by decide +kernel
theorem dX5_runs_22 : decode cX5_runs 22 = .ok (.iload_n 1, 1) := by decide +kernel
theorem dX5_runs_23 : decode cX5_runs 23 = .ok (.aload_n 0, 1) := by decide +kernel
theorem dX5_runs_24 : decode cX5_runs 24 = .ok (.getfield 9, 3) := by decide +kernel
theorem dX5_runs_27 : decode cX5_runs 27 = .ok (.iconst 5, 1) := by decide +kernel
theorem dX5_runs_28 : decode cX5_runs 28 = .ok (.iaload, 1) := by decide +kernel
theorem dX5_runs_29 : decode cX5_runs 29 = .ok (.aload_n 0, 1) := by decide +kernel
theorem dX5_runs_30 : decode cX5_runs 30 = .ok (.getfield 9, 3) := by decide +kernel
theorem dX5_runs_33 : decode cX5_runs 33 = .ok (.bipush 6, 2) := by decide +kernel
theorem dX5_runs_35 : decode cX5_runs 35 = .ok (.iaload, 1) := by decide +kernel
theorem dX5_runs_36 : decode cX5_runs 36 = .ok (.invokevirtual 232, 3) := by decide +kernel
theorem dX5_runs_39 : decode cX5_runs 39 = .ok (.istore_n 2, 1) := by decide +kernel
theorem dX5_runs_40 : decode cX5_runs 40 = .ok (.iload_n 2, 1) := by decide +kernel
theorem dX5_runs_41 : decode cX5_runs 41 = .ok (.invokestatic 236, 3) := by decide +kernel
theorem dX5_runs_44 : decode cX5_runs 44 = .ok (.ifCond .eq 11, 3) := by decide +kernel
theorem dX5_runs_47 : decode cX5_runs 47 = .ok (.iload_n 2, 1) := by decide +kernel
theorem dX5_runs_48 : decode cX5_runs 48 = .ok (.invokestatic 242, 3) := by decide +kernel
theorem dX5_runs_51 : decode cX5_runs 51 = .ok (.i2l, 1) := by decide +kernel
theorem dX5_runs_52 : decode cX5_runs 52 = .ok (.goto 6, 3) := by decide +kernel
theorem dX5_runs_55 : decode cX5_runs 55 = .ok (.ldc2_w 109, 3) := by decide +kernel
theorem dX5_runs_58 : decode cX5_runs 58 = .ok (.lreturn, 1) := by decide +kernel
theorem dX5_tank_0 : decode cX5_tank 0 = .ok (.iload_n 1, 1) := by decide +kernel
theorem dX5_tank_1 : decode cX5_tank 1 = .ok (.iconst 0, 1) := by decide +kernel
theorem dX5_tank_2 : decode cX5_tank 2 = .ok (.aload_n 0, 1) := by decide +kernel
theorem dX5_tank_3 : decode cX5_tank 3 = .ok (.getfield 9, 3) := by decide +kernel
theorem dX5_tank_6 : decode cX5_tank 6 = .ok (.iconst 5, 1) := by decide +kernel
theorem dX5_tank_7 : decode cX5_tank 7 = .ok (.iaload, 1) := by decide +kernel
theorem dX5_tank_8 : decode cX5_tank 8 = .ok (.invokestatic 64, 3) := by decide +kernel
theorem dX5_tank_11 : decode cX5_tank 11 = .ok (.ifCond .ne 13, 3) := by decide +kernel
theorem dX5_tank_14 : decode cX5_tank 14 = .ok (.iload_n 2, 1) := by decide +kernel
theorem dX5_tank_15 : decode cX5_tank 15 = .ok (.iconst 0, 1) := by decide +kernel
theorem dX5_tank_16 : decode cX5_tank 16 = .ok (.bipush 11, 2) := by decide +kernel
theorem dX5_tank_18 : decode cX5_tank 18 = .ok (.invokestatic 64, 3) := by decide +kernel
theorem dX5_tank_21 : decode cX5_tank 21 = .ok (.ifCond .eq 7, 3) := by decide +kernel
theorem dX5_tank_24 : decode cX5_tank 24 = .ok (.ldc2_w 68, 3) := by decide +kernel
theorem dX5_tank_27 : decode cX5_tank 27 = .ok (.lreturn, 1) := by decide +kernel
theorem dX5_tank_28 : decode cX5_tank 28 = .ok (.aload_n 0, 1) := by decide +kernel
theorem dX5_tank_29 : decode cX5_tank 29 = .ok (.getfield 40, 3) := by decide +kernel
theorem dX5_tank_32 : decode cX5_tank 32 = .ok (.iload_n 1, 1) := by decide +kernel
theorem dX5_tank_33 : decode cX5_tank 33 = .ok (.aload_n 0, 1) := by decide +kernel
theorem dX5_tank_34 : decode cX5_tank 34 = .ok (.getfield 9, 3) := by decide +kernel
theorem dX5_tank_37 : decode cX5_tank 37 = .ok (.iconst 5, 1) := by decide +kernel
theorem dX5_tank_38 : decode cX5_tank 38 = .ok (.iaload, 1) := by decide +kernel
theorem dX5_tank_39 : decode cX5_tank 39 = .ok (.aload_n 0, 1) := by decide +kernel
theorem dX5_tank_40 : decode cX5_tank 40 = .ok (.getfield 9, 3) := by decide +kernel
theorem dX5_tank_43 : decode cX5_tank 43 = .ok (.bipush 6, 2) := by decide +kernel
theorem dX5_tank_45 : decode cX5_tank 45 = .ok (.iaload, 1) := by decide +kernel
theorem dX5_tank_46 : decode cX5_tank 46 = .ok (.invokevirtual 232, 3) := by decide +kernel
theorem dX5_tank_49 : decode cX5_tank 49 = .ok (.istore_n 3, 1) := by decide +kernel
theorem dX5_tank_50 : decode cX5_tank 50 = .ok (.iload_n 3, 1) := by decide +kernel
theorem dX5_tank_51 : decode cX5_tank 51 = .ok (.invokestatic 236, 3) := by decide +kernel
theorem dX5_tank_54 : decode cX5_tank 54 = .ok (.ifCond .ne 7, 3) := by decide +kernel
theorem dX5_tank_57 : decode cX5_tank 57 = .ok (.ldc2_w 109, 3) := by decide +kernel
theorem dX5_tank_60 : decode cX5_tank 60 = .ok (.lreturn, 1) := by decide +kernel
theorem dX5_tank_61 : decode cX5_tank 61 = .ok (.iload_n 1, 1) := by decide +kernel
theorem dX5_tank_62 : decode cX5_tank 62 = .ok (.istore 4, 2) := by decide +kernel
theorem dX5_tank_64 : decode cX5_tank 64 = .ok (.iconst 0, 1) := by decide +kernel
theorem dX5_tank_65 : decode cX5_tank 65 = .ok (.istore 5, 2) := by decide +kernel
theorem dX5_tank_67 : decode cX5_tank 67 = .ok (.iload 5, 2) := by decide +kernel
theorem dX5_tank_69 : decode cX5_tank 69 = .ok (.iload_n 2, 1) := by decide +kernel
theorem dX5_tank_70 : decode cX5_tank 70 = .ok (.if_icmp .gt 49, 3) := by decide +kernel
theorem dX5_tank_73 : decode cX5_tank 73 = .ok (.aload_n 0, 1) := by decide +kernel
theorem dX5_tank_74 : decode cX5_tank 74 = .ok (.getfield 40, 3) := by decide +kernel
theorem dX5_tank_77 : decode cX5_tank 77 = .ok (.iload 5, 2) := by decide +kernel
theorem dX5_tank_79 : decode cX5_tank 79 = .ok (.iload 4, 2) := by decide +kernel
theorem dX5_tank_81 : decode cX5_tank 81 = .ok (.iload_n 3, 1) := by decide +kernel
theorem dX5_tank_82 : decode cX5_tank 82 = .ok (.iload 5, 2) := by decide +kernel
theorem dX5_tank_84 : decode cX5_tank 84 = .ok (.invokestatic 245, 3) := by decide +kernel
theorem dX5_tank_87 : decode cX5_tank 87 = .ok (.ifCond .eq 13, 3) := by decide +kernel
theorem dX5_tank_90 : decode cX5_tank 90 = .ok (.aload_n 0, 1) := by decide +kernel
theorem dX5_tank_91 : decode cX5_tank 91 = .ok (.getfield 9, 3) := by decide +kernel
theorem dX5_tank_94 : decode cX5_tank 94 = .ok (.bipush 6, 2) := by decide +kernel
theorem dX5_tank_96 : decode cX5_tank 96 = .ok (.iaload, 1) := by decide +kernel
theorem dX5_tank_97 : decode cX5_tank 97 = .ok (.goto 4, 3) := by decide +kernel
theorem dX5_tank_100 : decode cX5_tank 100 = .ok (.iconst 0, 1) := by decide +kernel
theorem dX5_tank_101 : decode cX5_tank 101 = .ok (.iadd, 1) := by decide +kernel
theorem dX5_tank_102 : decode cX5_tank 102 = .ok (.aload_n 0, 1) := by decide +kernel
theorem dX5_tank_103 : decode cX5_tank 103 = .ok (.getfield 9, 3) := by decide +kernel
theorem dX5_tank_106 : decode cX5_tank 106 = .ok (.iconst 5, 1) := by decide +kernel
theorem dX5_tank_107 : decode cX5_tank 107 = .ok (.iaload, 1) := by decide +kernel
theorem dX5_tank_108 : decode cX5_tank 108 = .ok (.invokevirtual 248, 3) := by decide +kernel
theorem dX5_tank_111 : decode cX5_tank 111 = .ok (.istore 4, 2) := by decide +kernel
theorem dX5_tank_113 : decode cX5_tank 113 = .ok (.iinc 5 1, 3) := by decide +kernel
theorem dX5_tank_116 : decode cX5_tank 116 = .ok (.goto (-49), 3) := by decide +kernel
theorem dX5_tank_119 : decode cX5_tank 119 = .ok (.iload 4, 2) := by decide +kernel
theorem dX5_tank_121 : decode cX5_tank 121 = .ok (.i2l, 1) := by decide +kernel
theorem dX5_tank_122 : decode cX5_tank 122 = .ok (.lreturn, 1) := by decide +kernel
theorem dX5_joint_0 : decode cX5_joint 0 = .ok (.iload_n 1, 1) := by decide +kernel
theorem dX5_joint_1 : decode cX5_joint 1 = .ok (.iconst 0, 1) := by decide +kernel
theorem dX5_joint_2 : decode cX5_joint 2 = .ok (.bipush 30, 2) := by decide +kernel
theorem dX5_joint_4 : decode cX5_joint 4 = .ok (.invokestatic 64, 3) := by decide +kernel
theorem dX5_joint_7 : decode cX5_joint 7 = .ok (.ifCond .eq 7, 3) := by decide +kernel
theorem dX5_joint_10 : decode cX5_joint 10 = .ok (.iconst (-1), 1) := by decide +kernel
theorem dX5_joint_11 : decode cX5_joint 11 = .ok (.goto 10, 3) := by decide +kernel
theorem dX5_joint_14 : decode cX5_joint 14 = .ok (.bipush 10, 2) := by decide +kernel
theorem dX5_joint_16 : decode cX5_joint 16 = .ok (.iload_n 1, 1) := by decide +kernel
theorem dX5_joint_17 : decode cX5_joint 17 = .ok (.imul, 1) := by decide +kernel
theorem dX5_joint_18 : decode cX5_joint 18 = .ok (.invokestatic 76, 3) := by decide +kernel
theorem dX5_joint_21 : decode cX5_joint 21 = .ok (.istore 4, 2) := by decide +kernel
theorem dX5_joint_23 : decode cX5_joint 23 = .ok (.iload 4, 2) := by decide +kernel
theorem dX5_joint_25 : decode cX5_joint 25 = .ok (.ifCond .lt 23, 3) := by decide +kernel
theorem dX5_joint_28 : decode cX5_joint 28 = .ok (.iload_n 2, 1) := by decide +kernel
theorem dX5_joint_29 : decode cX5_joint 29 = .ok (.iconst 0, 1) := by decide +kernel
theorem dX5_joint_30 : decode cX5_joint 30 = .ok (.iconst 1, 1) := by decide +kernel
theorem dX5_joint_31 : decode cX5_joint 31 = .ok (.invokestatic 64, 3) := by decide +kernel
theorem dX5_joint_34 : decode cX5_joint 34 = .ok (.ifCond .ne 14, 3) := by decide +kernel
theorem dX5_joint_37 : decode cX5_joint 37 = .ok (.iload_n 3, 1) := by decide +kernel
theorem dX5_joint_38 : decode cX5_joint 38 = .ok (.iconst 0, 1) := by decide +kernel
theorem dX5_joint_39 : decode cX5_joint 39 = .ok (.sipush 9999, 3) := by decide +kernel
theorem dX5_joint_42 : decode cX5_joint 42 = .ok (.invokestatic 64, 3) := by decide +kernel
theorem dX5_joint_45 : decode cX5_joint 45 = .ok (.ifCond .eq 7, 3) := by decide +kernel
theorem dX5_joint_48 : decode cX5_joint 48 = .ok (.ldc2_w 68, 3) := by decide +kernel
theorem dX5_joint_51 : decode cX5_joint 51 = .ok (.lreturn, 1) := by decide +kernel
theorem dX5_joint_52 : decode cX5_joint 52 = .ok (.aload_n 0, 1) := by decide +kernel
theorem dX5_joint_53 : decode cX5_joint 53 = .ok (.getfield 16, 3) := by decide +kernel
theorem dX5_joint_56 : decode cX5_joint 56 = .ok (.iload 4, 2) := by decide +kernel
theorem dX5_joint_58 : decode cX5_joint 58 = .ok (.invokevirtual 105, 3) := by decide +kernel
theorem dX5_joint_61 : decode cX5_joint 61 = .ok (.ifCond .ne 7, 3) := by decide +kernel
theorem dX5_joint_64 : decode cX5_joint 64 = .ok (.ldc2_w 109, 3) := by decide +kernel
theorem dX5_joint_67 : decode cX5_joint 67 = .ok (.lreturn, 1) := by decide +kernel
theorem dX5_joint_68 : decode cX5_joint 68 = .ok (.aload_n 0, 1) := by decide +kernel
theorem dX5_joint_69 : decode cX5_joint 69 = .ok (.getfield 47, 3) := by decide +kernel
theorem dX5_joint_72 : decode cX5_joint 72 = .ok (.iload_n 2, 1) := by decide +kernel
theorem dX5_joint_73 : decode cX5_joint 73 = .ok (.aaload, 1) := by decide +kernel
theorem dX5_joint_74 : decode cX5_joint 74 = .ok (.astore 5, 2) := by decide +kernel
theorem dX5_joint_76 : decode cX5_joint 76 = .ok (.aload 5, 2) := by decide +kernel
theorem dX5_joint_78 : decode cX5_joint 78 = .ok (.invokevirtual 211, 3) := by decide +kernel
theorem dX5_joint_81 : decode cX5_joint 81 = .ok (.ifCond .eq 7, 3) := by decide +kernel
theorem dX5_joint_84 : decode cX5_joint 84 = .ok (.ldc2_w 215, 3) := by decide +kernel
theorem dX5_joint_87 : decode cX5_joint 87 = .ok (.lreturn, 1) := by decide +kernel
theorem dX5_joint_88 : decode cX5_joint 88 = .ok (.aload_n 0, 1) := by decide +kernel
theorem dX5_joint_89 : decode cX5_joint 89 = .ok (.invokevirtual 111, 3) := by decide +kernel
theorem dX5_joint_92 : decode cX5_joint 92 = .ok (.iconst 0, 1) := by decide +kernel
theorem dX5_joint_93 : decode cX5_joint 93 = .ok (.istore 6, 2) := by decide +kernel
theorem dX5_joint_95 : decode cX5_joint 95 = .ok (.iload 6, 2) := by decide +kernel
theorem dX5_joint_97 : decode cX5_joint 97 = .ok (.aload_n 0, 1) := by decide +kernel
theorem dX5_joint_98 : decode cX5_joint 98 = .ok (.getfield 16, 3) := by decide +kernel
theorem dX5_joint_101 : decode cX5_joint 101 = .ok (.getfield 73, 3) := by decide +kernel
theorem dX5_joint_104 : decode cX5_joint 104 = .ok (.if_icmp .ge 52, 3) := by decide +kernel
theorem dX5_joint_107 : decode cX5_joint 107 = .ok (.aload 5, 2) := by decide +kernel
theorem dX5_joint_109 : decode cX5_joint 109 = .ok (.iload 6, 2) := by decide +kernel
theorem dX5_joint_111 : decode cX5_joint 111 = .ok (.invokevirtual 217, 3) := by decide +kernel
theorem dX5_joint_114 : decode cX5_joint 114 = .ok (.ifCond .eq 42, 3) := by decide +kernel
theorem dX5_joint_117 : decode cX5_joint 117 = .ok (.aload 5, 2) := by decide +kernel
theorem dX5_joint_119 : decode cX5_joint 119 = .ok (.getfield 220, 3) := by decide +kernel
theorem dX5_joint_122 : decode cX5_joint 122 = .ok (.iload 6, 2) := by decide +kernel
theorem dX5_joint_124 : decode cX5_joint 124 = .ok (.saload, 1) := by decide +kernel
theorem dX5_joint_125 : decode cX5_joint 125 = .ok (.i2l, 1) := by decide +kernel
theorem dX5_joint_126 : decode cX5_joint 126 = .ok (.aload_n 0, 1) := by decide +kernel
theorem dX5_joint_127 : decode cX5_joint 127 = .ok (.getfield 33, 3) := by decide +kernel
theorem dX5_joint_130 : decode cX5_joint 130 = .ok (.getfield 251, 3) := by decide +kernel
theorem dX5_joint_133 : decode cX5_joint 133 = .ok (.iload 4, 2) := by decide +kernel
theorem dX5_joint_135 : decode cX5_joint 135 = .ok (.iload 6, 2) := by decide +kernel
theorem dX5_joint_137 : decode cX5_joint 137 = .ok (.iadd, 1) := by decide +kernel
theorem dX5_joint_138 : decode cX5_joint 138 = .ok (.laload, 1) := by decide +kernel
theorem dX5_joint_139 : decode cX5_joint 139 = .ok (.lsub, 1) := by decide +kernel
theorem dX5_joint_140 : decode cX5_joint 140 = .ok (.iload_n 3, 1) := by decide +kernel
theorem dX5_joint_141 : decode cX5_joint 141 = .ok (.i2l, 1) := by decide +kernel
theorem dX5_joint_142 : decode cX5_joint 142 = .ok (.lcmp, 1) := by decide +kernel
theorem dX5_joint_143 : decode cX5_joint 143 = .ok (.ifCond .le 7, 3) := by decide +kernel
theorem dX5_joint_146 : decode cX5_joint 146 = .ok (.iload 6, 2) := by decide +kernel
theorem dX5_joint_148 : decode cX5_joint 148 = .ok (.i2l, 1) := by decide +kernel
theorem dX5_joint_149 : decode cX5_joint 149 = .ok (.lreturn, 1) := by decide +kernel
theorem dX5_joint_150 : decode cX5_joint 150 = .ok (.iinc 6 1, 3) := by decide +kernel
theorem dX5_joint_153 : decode cX5_joint 153 = .ok (.goto (-58), 3) := by decide +kernel
theorem dX5_joint_156 : decode cX5_joint 156 = .ok (.ldc2_w 170, 3) := by decide +kernel
theorem dX5_joint_159 : decode cX5_joint 159 = .ok (.lreturn, 1) := by decide +kernel
theorem dX5_sheet_0 : decode cX5_sheet 0 = .ok (.iload_n 1, 1) := by decide +kernel
theorem dX5_sheet_1 : decode cX5_sheet 1 = .ok (.iconst 0, 1) := by decide +kernel
theorem dX5_sheet_2 : decode cX5_sheet 2 = .ok (.iconst 1, 1) := by decide +kernel
theorem dX5_sheet_3 : decode cX5_sheet 3 = .ok (.invokestatic 64, 3) := by decide +kernel
theorem dX5_sheet_6 : decode cX5_sheet 6 = .ok (.ifCond .ne 9, 3) := by decide +kernel
theorem dX5_sheet_9 : decode cX5_sheet 9 = .ok (.iload_n 2, 1) := by decide +kernel
theorem dX5_sheet_10 : decode cX5_sheet 10 = .ok (.bipush 24, 2) := by decide +kernel
theorem dX5_sheet_12 : decode cX5_sheet 12 = .ok (.if_icmp .le 7, 3) := by decide +kernel
theorem dX5_sheet_15 : decode cX5_sheet 15 = .ok (.ldc2_w 68, 3) := by decide +kernel
theorem dX5_sheet_18 : decode cX5_sheet 18 = .ok (.lreturn, 1) := by decide +kernel
theorem dX5_sheet_19 : decode cX5_sheet 19 = .ok (.iload_n 2, 1) := by decide +kernel
theorem dX5_sheet_20 : decode cX5_sheet 20 = .ok (.ifCond .ge 7, 3) := by decide +kernel
theorem dX5_sheet_23 : decode cX5_sheet 23 = .ok (.ldc2_w 254, 3) := by decide +kernel
theorem dX5_sheet_26 : decode cX5_sheet 26 = .ok (.lreturn, 1) := by decide +kernel
theorem dX5_sheet_27 : decode cX5_sheet 27 = .ok (.aload_n 0, 1) := by decide +kernel
theorem dX5_sheet_28 : decode cX5_sheet 28 = .ok (.getfield 47, 3) := by decide +kernel
theorem dX5_sheet_31 : decode cX5_sheet 31 = .ok (.iload_n 1, 1) := by decide +kernel
theorem dX5_sheet_32 : decode cX5_sheet 32 = .ok (.aaload, 1) := by decide +kernel
theorem dX5_sheet_33 : decode cX5_sheet 33 = .ok (.iload_n 2, 1) := by decide +kernel
theorem dX5_sheet_34 : decode cX5_sheet 34 = .ok (.invokevirtual 256, 3) := by decide +kernel
theorem dX5_sheet_37 : decode cX5_sheet 37 = .ok (.iload_n 2, 1) := by decide +kernel
theorem dX5_sheet_38 : decode cX5_sheet 38 = .ok (.i2l, 1) := by decide +kernel
theorem dX5_sheet_39 : decode cX5_sheet 39 = .ok (.lreturn, 1) := by decide +kernel
theorem dX5_mark_0 : decode cX5_mark 0 = .ok (.iload_n 1, 1) := by decide +kernel
theorem dX5_mark_1 : decode cX5_mark 1 = .ok (.iconst 0, 1) := by decide +kernel
theorem dX5_mark_2 : decode cX5_mark 2 = .ok (.iconst 1, 1) := by decide +kernel
theorem dX5_mark_3 : decode cX5_mark 3 = .ok (.invokestatic 64, 3) := by decide +kernel
theorem dX5_mark_6 : decode cX5_mark 6 = .ok (.ifCond .eq 7, 3) := by decide +kernel
theorem dX5_mark_9 : decode cX5_mark 9 = .ok (.ldc2_w 68, 3) := by decide +kernel
theorem dX5_mark_12 : decode cX5_mark 12 = .ok (.lreturn, 1) := by decide +kernel
theorem dX5_mark_13 : decode cX5_mark 13 = .ok (.aload_n 0, 1) := by decide +kernel
theorem dX5_mark_14 : decode cX5_mark 14 = .ok (.getfield 47, 3) := by decide +kernel
theorem dX5_mark_17 : decode cX5_mark 17 = .ok (.iload_n 1, 1) := by decide +kernel
theorem dX5_mark_18 : decode cX5_mark 18 = .ok (.aaload, 1) := by decide +kernel
theorem dX5_mark_19 : decode cX5_mark 19 = .ok (.invokevirtual 211, 3) := by decide +kernel
theorem dX5_mark_22 : decode cX5_mark 22 = .ok (.ifCond .eq 7, 3) := by decide +kernel
theorem dX5_mark_25 : decode cX5_mark 25 = .ok (.ldc2_w 215, 3) := by decide +kernel
theorem dX5_mark_28 : decode cX5_mark 28 = .ok (.lreturn, 1) := by decide +kernel
theorem dX5_mark_29 : decode cX5_mark 29 = .ok (.aload_n 0, 1) := by decide +kernel
theorem dX5_mark_30 : decode cX5_mark 30 = .ok (.getfield 47, 3) := by decide +kernel
theorem dX5_mark_33 : decode cX5_mark 33 = .ok (.iload_n 1, 1) := by decide +kernel
theorem dX5_mark_34 : decode cX5_mark 34 = .ok (.aaload, 1) := by decide +kernel
theorem dX5_mark_35 : decode cX5_mark 35 = .ok (.iload_n 2, 1) := by decide +kernel
theorem dX5_mark_36 : decode cX5_mark 36 = .ok (.invokevirtual 217, 3) := by decide +kernel
theorem dX5_mark_39 : decode cX5_mark 39 = .ok (.ifCond .ne 7, 3) := by decide +kernel
theorem dX5_mark_42 : decode cX5_mark 42 = .ok (.ldc2_w 260, 3) := by decide +kernel
theorem dX5_mark_45 : decode cX5_mark 45 = .ok (.lreturn, 1) := by decide +kernel
theorem dX5_mark_46 : decode cX5_mark 46 = .ok (.aload_n 0, 1) := by decide +kernel
theorem dX5_mark_47 : decode cX5_mark 47 = .ok (.getfield 47, 3) := by decide +kernel
theorem dX5_mark_50 : decode cX5_mark 50 = .ok (.iload_n 1, 1) := by decide +kernel
theorem dX5_mark_51 : decode cX5_mark 51 = .ok (.aaload, 1) := by decide +kernel
theorem dX5_mark_52 : decode cX5_mark 52 = .ok (.getfield 220, 3) := by decide +kernel
theorem dX5_mark_55 : decode cX5_mark 55 = .ok (.iload_n 2, 1) := by decide +kernel
theorem dX5_mark_56 : decode cX5_mark 56 = .ok (.saload, 1) := by decide +kernel
theorem dX5_mark_57 : decode cX5_mark 57 = .ok (.istore 4, 2) := by decide +kernel
theorem dX5_mark_59 : decode cX5_mark 59 = .ok (.aload_n 0, 1) := by decide +kernel
theorem dX5_mark_60 : decode cX5_mark 60 = .ok (.getfield 47, 3) := by decide +kernel
theorem dX5_mark_63 : decode cX5_mark 63 = .ok (.iload_n 1, 1) := by decide +kernel
theorem dX5_mark_64 : decode cX5_mark 64 = .ok (.aaload, 1) := by decide +kernel
theorem dX5_mark_65 : decode cX5_mark 65 = .ok (.getfield 220, 3) := by decide +kernel
theorem dX5_mark_68 : decode cX5_mark 68 = .ok (.iload_n 2, 1) := by decide +kernel
theorem dX5_mark_69 : decode cX5_mark 69 = .ok (.iload_n 3, 1) := by decide +kernel
theorem dX5_mark_70 : decode cX5_mark 70 = .ok (.i2s, 1) := by decide +kernel
theorem dX5_mark_71 : decode cX5_mark 71 = .ok (.sastore, 1) := by decide +kernel
theorem dX5_mark_72 : decode cX5_mark 72 = .ok (.iload 4, 2) := by decide +kernel
theorem dX5_mark_74 : decode cX5_mark 74 = .ok (.i2l, 1) := by decide +kernel
theorem dX5_mark_75 : decode cX5_mark 75 = .ok (.lreturn, 1) := by decide +kernel
theorem dX5_copy_0 : decode cX5_copy 0 = .ok (.iload_n 1, 1) := by decide +kernel
theorem dX5_copy_1 : decode cX5_copy 1 = .ok (.iconst 0, 1) := by decide +kernel
theorem dX5_copy_2 : decode cX5_copy 2 = .ok (.iconst 1, 1) := by decide +kernel
theorem dX5_copy_3 : decode cX5_copy 3 = .ok (.invokestatic 64, 3) := by decide +kernel
theorem dX5_copy_6 : decode cX5_copy 6 = .ok (.ifCond .ne 12, 3) := by decide +kernel
theorem dX5_copy_9 : decode cX5_copy 9 = .ok (.iload_n 3, 1) := by decide +kernel
theorem dX5_copy_10 : decode cX5_copy 10 = .ok (.iconst 0, 1) := by decide +kernel
theorem dX5_copy_11 : decode cX5_copy 11 = .ok (.iconst 1, 1) := by decide +kernel
theorem dX5_copy_12 : decode cX5_copy 12 = .ok (.invokestatic 64, 3) := by decide +kernel
theorem dX5_copy_15 : decode cX5_copy 15 = .ok (.ifCond .eq 7, 3) := by decide +kernel
theorem dX5_copy_18 : decode cX5_copy 18 = .ok (.ldc2_w 68, 3) := by decide +kernel
theorem dX5_copy_21 : decode cX5_copy 21 = .ok (.lreturn, 1) := by decide +kernel
theorem dX5_copy_22 : decode cX5_copy 22 = .ok (.aload_n 0, 1) := by decide +kernel
theorem dX5_copy_23 : decode cX5_copy 23 = .ok (.getfield 47, 3) := by decide +kernel
theorem dX5_copy_26 : decode cX5_copy 26 = .ok (.iload_n 1, 1) := by decide +kernel
theorem dX5_copy_27 : decode cX5_copy 27 = .ok (.aaload, 1) := by decide +kernel
theorem dX5_copy_28 : decode cX5_copy 28 = .ok (.invokevirtual 211, 3) := by decide +kernel
theorem dX5_copy_31 : decode cX5_copy 31 = .ok (.ifCond .ne 15, 3) := by decide +kernel
theorem dX5_copy_34 : decode cX5_copy 34 = .ok (.aload_n 0, 1) := by decide +kernel
theorem dX5_copy_35 : decode cX5_copy 35 = .ok (.getfield 47, 3) := by decide +kernel
theorem dX5_copy_38 : decode cX5_copy 38 = .ok (.iload_n 3, 1) := by decide +kernel
theorem dX5_copy_39 : decode cX5_copy 39 = .ok (.aaload, 1) := by decide +kernel
theorem dX5_copy_40 : decode cX5_copy 40 = .ok (.invokevirtual 211, 3) := by decide +kernel
theorem dX5_copy_43 : decode cX5_copy 43 = .ok (.ifCond .eq 7, 3) := by decide +kernel
theorem dX5_copy_46 : decode cX5_copy 46 = .ok (.ldc2_w 215, 3) := by decide +kernel
theorem dX5_copy_49 : decode cX5_copy 49 = .ok (.lreturn, 1) := by decide +kernel
theorem dX5_copy_50 : decode cX5_copy 50 = .ok (.aload_n 0, 1) := by decide +kernel
theorem dX5_copy_51 : decode cX5_copy 51 = .ok (.getfield 47, 3) := by decide +kernel
theorem dX5_copy_54 : decode cX5_copy 54 = .ok (.iload_n 1, 1) := by decide +kernel
theorem dX5_copy_55 : decode cX5_copy 55 = .ok (.aaload, 1) := by decide +kernel
theorem dX5_copy_56 : decode cX5_copy 56 = .ok (.iload_n 2, 1) := by decide +kernel
theorem dX5_copy_57 : decode cX5_copy 57 = .ok (.iload 5, 2) := by decide +kernel
theorem dX5_copy_59 : decode cX5_copy 59 = .ok (.invokevirtual 262, 3) := by decide +kernel
theorem dX5_copy_62 : decode cX5_copy 62 = .ok (.ifCond .eq 19, 3) := by decide +kernel
theorem dX5_copy_65 : decode cX5_copy 65 = .ok (.aload_n 0, 1) := by decide +kernel
theorem dX5_copy_66 : decode cX5_copy 66 = .ok (.getfield 47, 3) := by decide +kernel
theorem dX5_copy_69 : decode cX5_copy 69 = .ok (.iload_n 3, 1) := by decide +kernel
theorem dX5_copy_70 : decode cX5_copy 70 = .ok (.aaload, 1) := by decide +kernel
theorem dX5_copy_71 : decode cX5_copy 71 = .ok (.iload 4, 2) := by decide +kernel
theorem dX5_copy_73 : decode cX5_copy 73 = .ok (.iload 5, 2) := by decide +kernel
theorem dX5_copy_75 : decode cX5_copy 75 = .ok (.invokevirtual 262, 3) := by decide +kernel
theorem dX5_copy_78 : decode cX5_copy 78 = .ok (.ifCond .ne 7, 3) := by decide +kernel
theorem dX5_copy_81 : decode cX5_copy 81 = .ok (.ldc2_w 260, 3) := by decide +kernel
theorem dX5_copy_84 : decode cX5_copy 84 = .ok (.lreturn, 1) := by decide +kernel
theorem dX5_copy_85 : decode cX5_copy 85 = .ok (.aload_n 0, 1) := by decide +kernel
theorem dX5_copy_86 : decode cX5_copy 86 = .ok (.getfield 47, 3) := by decide +kernel
theorem dX5_copy_89 : decode cX5_copy 89 = .ok (.iload_n 1, 1) := by decide +kernel
theorem dX5_copy_90 : decode cX5_copy 90 = .ok (.aaload, 1) := by decide +kernel
theorem dX5_copy_91 : decode cX5_copy 91 = .ok (.getfield 220, 3) := by decide +kernel
theorem dX5_copy_94 : decode cX5_copy 94 = .ok (.iload_n 2, 1) := by decide +kernel
theorem dX5_copy_95 : decode cX5_copy 95 = .ok (.aload_n 0, 1) := by decide +kernel
theorem dX5_copy_96 : decode cX5_copy 96 = .ok (.getfield 47, 3) := by decide +kernel
theorem dX5_copy_99 : decode cX5_copy 99 = .ok (.iload_n 3, 1) := by decide +kernel
theorem dX5_copy_100 : decode cX5_copy 100 = .ok (.aaload, 1) := by decide +kernel
theorem dX5_copy_101 : decode cX5_copy 101 = .ok (.getfield 220, 3) := by decide +kernel
theorem dX5_copy_104 : decode cX5_copy 104 = .ok (.iload 4, 2) := by decide +kernel
theorem dX5_copy_106 : decode cX5_copy 106 = .ok (.iload 5, 2) := by decide +kernel
theorem dX5_copy_108 : decode cX5_copy 108 = .ok (.invokestatic 265, 3) := by decide +kernel
theorem dX5_copy_111 : decode cX5_copy 111 = .ok (.iload 5, 2) := by decide +kernel
theorem dX5_copy_113 : decode cX5_copy 113 = .ok (.i2l, 1) := by decide +kernel
theorem dX5_copy_114 : decode cX5_copy 114 = .ok (.lreturn, 1) := by decide +kernel
theorem dX5_count_0 : decode cX5_count 0 = .ok (.iload_n 1, 1) := by decide +kernel
theorem dX5_count_1 : decode cX5_count 1 = .ok (.tableswitch 101 0 3 #[31, 40, 58, 64], 31) := by decide +kernel
theorem dX5_count_32 : decode cX5_count 32 = .ok (.aload_n 0, 1) := by decide +kernel
theorem dX5_count_33 : decode cX5_count 33 = .ok (.getfield 16, 3) := by decide +kernel
theorem dX5_count_36 : decode cX5_count 36 = .ok (.invokevirtual 271, 3) := by decide +kernel
theorem dX5_count_39 : decode cX5_count 39 = .ok (.i2l, 1) := by decide +kernel
theorem dX5_count_40 : decode cX5_count 40 = .ok (.lreturn, 1) := by decide +kernel
theorem dX5_count_41 : decode cX5_count 41 = .ok (.aload_n 0, 1) := by decide +kernel
theorem dX5_count_42 : decode cX5_count 42 = .ok (.getfield 16, 3) := by decide +kernel
theorem dX5_count_45 : decode cX5_count 45 = .ok (.invokevirtual 271, 3) := by decide +kernel
theorem dX5_count_48 : decode cX5_count 48 = .ok (.i2l, 1) := by decide +kernel
theorem dX5_count_49 : decode cX5_count 49 = .ok (.aload_n 0, 1) := by decide +kernel
theorem dX5_count_50 : decode cX5_count 50 = .ok (.getfield 16, 3) := by decide +kernel
theorem dX5_count_53 : decode cX5_count 53 = .ok (.getfield 73, 3) := by decide +kernel
theorem dX5_count_56 : decode cX5_count 56 = .ok (.i2l, 1) := by decide +kernel
theorem dX5_count_57 : decode cX5_count 57 = .ok (.lmul, 1) := by decide +kernel
theorem dX5_count_58 : decode cX5_count 58 = .ok (.lreturn, 1) := by decide +kernel
theorem dX5_count_59 : decode cX5_count 59 = .ok (.aload_n 0, 1) := by decide +kernel
theorem dX5_count_60 : decode cX5_count 60 = .ok (.getfield 61, 3) := by decide +kernel
theorem dX5_count_63 : decode cX5_count 63 = .ok (.i2l, 1) := by decide +kernel
theorem dX5_count_64 : decode cX5_count 64 = .ok (.lreturn, 1) := by decide +kernel
theorem dX5_count_65 : decode cX5_count 65 = .ok (.aload_n 0, 1) := by decide +kernel
theorem dX5_count_66 : decode cX5_count 66 = .ok (.getfield 47, 3) := by decide +kernel
theorem dX5_count_69 : decode cX5_count 69 = .ok (.iconst 0, 1) := by decide +kernel
theorem dX5_count_70 : decode cX5_count 70 = .ok (.aaload, 1) := by decide +kernel
theorem dX5_count_71 : decode cX5_count 71 = .ok (.invokevirtual 211, 3) := by decide +kernel
theorem dX5_count_74 : decode cX5_count 74 = .ok (.ifCond .eq 7, 3) := by decide +kernel
theorem dX5_count_77 : decode cX5_count 77 = .ok (.iconst 0, 1) := by decide +kernel
theorem dX5_count_78 : decode cX5_count 78 = .ok (.goto 4, 3) := by decide +kernel
theorem dX5_count_81 : decode cX5_count 81 = .ok (.iconst 1, 1) := by decide +kernel
theorem dX5_count_82 : decode cX5_count 82 = .ok (.aload_n 0, 1) := by decide +kernel
theorem dX5_count_83 : decode cX5_count 83 = .ok (.getfield 47, 3) := by decide +kernel
theorem dX5_count_86 : decode cX5_count 86 = .ok (.iconst 1, 1) := by decide +kernel
theorem dX5_count_87 : decode cX5_count 87 = .ok (.aaload, 1) := by decide +kernel
theorem dX5_count_88 : decode cX5_count 88 = .ok (.invokevirtual 211, 3) := by decide +kernel
theorem dX5_count_91 : decode cX5_count 91 = .ok (.ifCond .eq 7, 3) := by decide +kernel
theorem dX5_count_94 : decode cX5_count 94 = .ok (.iconst 0, 1) := by decide +kernel
theorem dX5_count_95 : decode cX5_count 95 = .ok (.goto 4, 3) := by decide +kernel
theorem dX5_count_98 : decode cX5_count 98 = .ok (.iconst 1, 1) := by decide +kernel
theorem dX5_count_99 : decode cX5_count 99 = .ok (.iadd, 1) := by decide +kernel
theorem dX5_count_100 : decode cX5_count 100 = .ok (.i2l, 1) := by decide +kernel
theorem dX5_count_101 : decode cX5_count 101 = .ok (.lreturn, 1) := by decide +kernel
theorem dX5_count_102 : decode cX5_count 102 = .ok (.ldc2_w 68, 3) := by decide +kernel
theorem dX5_count_105 : decode cX5_count 105 = .ok (.lreturn, 1) := by decide +kernel
theorem dX5_outside_0 : decode cX5_outside 0 = .ok (.iload_n 0, 1) := by decide +kernel
theorem dX5_outside_1 : decode cX5_outside 1 = .ok (.iload_n 1, 1) := by decide +kernel
theorem dX5_outside_2 : decode cX5_outside 2 = .ok (.if_icmp .lt 8, 3) := by decide +kernel
theorem dX5_outside_5 : decode cX5_outside 5 = .ok (.iload_n 0, 1) := by decide +kernel
theorem dX5_outside_6 : decode cX5_outside 6 = .ok (.iload_n 2, 1) := by decide +kernel
theorem dX5_outside_7 : decode cX5_outside 7 = .ok (.if_icmp .le 7, 3) := by decide +kernel
theorem dX5_outside_10 : decode cX5_outside 10 = .ok (.iconst 1, 1) := by decide +kernel
theorem dX5_outside_11 : decode cX5_outside 11 = .ok (.goto 4, 3) := by decide +kernel
theorem dX5_outside_14 : decode cX5_outside 14 = .ok (.iconst 0, 1) := by decide +kernel
theorem dX5_outside_15 : decode cX5_outside 15 = .ok (.ireturn, 1) := by decide +kernel
theorem dX5_placeOf_0 : decode cX5_placeOf 0 = .ok (.iload_n 0, 1) := by decide +kernel
theorem dX5_placeOf_1 : decode cX5_placeOf 1 = .ok (.ifCond .ge 5, 3) := by decide +kernel
theorem dX5_placeOf_4 : decode cX5_placeOf 4 = .ok (.iconst (-1), 1) := by decide +kernel
theorem dX5_placeOf_5 : decode cX5_placeOf 5 = .ok (.ireturn, 1) := by decide +kernel
theorem dX5_placeOf_6 : decode cX5_placeOf 6 = .ok (.iload_n 0, 1) := by decide +kernel
theorem dX5_placeOf_7 : decode cX5_placeOf 7 = .ok (.bipush 100, 2) := by decide +kernel
theorem dX5_placeOf_9 : decode cX5_placeOf 9 = .ok (.idiv, 1) := by decide +kernel
theorem dX5_placeOf_10 : decode cX5_placeOf 10 = .ok (.istore_n 1, 1) := by decide +kernel
theorem dX5_placeOf_11 : decode cX5_placeOf 11 = .ok (.iload_n 0, 1) := by decide +kernel
theorem dX5_placeOf_12 : decode cX5_placeOf 12 = .ok (.bipush 10, 2) := by decide +kernel
theorem dX5_placeOf_14 : decode cX5_placeOf 14 = .ok (.idiv, 1) := by decide +kernel
theorem dX5_placeOf_15 : decode cX5_placeOf 15 = .ok (.bipush 10, 2) := by decide +kernel
theorem dX5_placeOf_17 : decode cX5_placeOf 17 = .ok (.irem, 1) := by decide +kernel
theorem dX5_placeOf_18 : decode cX5_placeOf 18 = .ok (.istore_n 2, 1) := by decide +kernel
theorem dX5_placeOf_19 : decode cX5_placeOf 19 = .ok (.iload_n 0, 1) := by decide +kernel
theorem dX5_placeOf_20 : decode cX5_placeOf 20 = .ok (.bipush 10, 2) := by decide +kernel
theorem dX5_placeOf_22 : decode cX5_placeOf 22 = .ok (.irem, 1) := by decide +kernel
theorem dX5_placeOf_23 : decode cX5_placeOf 23 = .ok (.istore_n 3, 1) := by decide +kernel
theorem dX5_placeOf_24 : decode cX5_placeOf 24 = .ok (.iload_n 1, 1) := by decide +kernel
theorem dX5_placeOf_25 : decode cX5_placeOf 25 = .ok (.iconst 3, 1) := by decide +kernel
theorem dX5_placeOf_26 : decode cX5_placeOf 26 = .ok (.if_icmp .ge 14, 3) := by decide +kernel
theorem dX5_placeOf_29 : decode cX5_placeOf 29 = .ok (.iload_n 2, 1) := by decide +kernel
theorem dX5_placeOf_30 : decode cX5_placeOf 30 = .ok (.iconst 4, 1) := by decide +kernel
theorem dX5_placeOf_31 : decode cX5_placeOf 31 = .ok (.if_icmp .ge 9, 3) := by decide +kernel
theorem dX5_placeOf_34 : decode cX5_placeOf 34 = .ok (.iload_n 3, 1) := by decide +kernel
theorem dX5_placeOf_35 : decode cX5_placeOf 35 = .ok (.bipush 6, 2) := by decide +kernel
theorem dX5_placeOf_37 : decode cX5_placeOf 37 = .ok (.if_icmp .lt 5, 3) := by decide +kernel
theorem dX5_placeOf_40 : decode cX5_placeOf 40 = .ok (.iconst (-1), 1) := by decide +kernel
theorem dX5_placeOf_41 : decode cX5_placeOf 41 = .ok (.ireturn, 1) := by decide +kernel
theorem dX5_placeOf_42 : decode cX5_placeOf 42 = .ok (.iload_n 1, 1) := by decide +kernel
theorem dX5_placeOf_43 : decode cX5_placeOf 43 = .ok (.bipush 24, 2) := by decide +kernel
theorem dX5_placeOf_45 : decode cX5_placeOf 45 = .ok (.imul, 1) := by decide +kernel
theorem dX5_placeOf_46 : decode cX5_placeOf 46 = .ok (.iload_n 2, 1) := by decide +kernel
theorem dX5_placeOf_47 : decode cX5_placeOf 47 = .ok (.bipush 6, 2) := by decide +kernel
theorem dX5_placeOf_49 : decode cX5_placeOf 49 = .ok (.imul, 1) := by decide +kernel
theorem dX5_placeOf_50 : decode cX5_placeOf 50 = .ok (.iadd, 1) := by decide +kernel
theorem dX5_placeOf_51 : decode cX5_placeOf 51 = .ok (.iload_n 3, 1) := by decide +kernel
theorem dX5_placeOf_52 : decode cX5_placeOf 52 = .ok (.iadd, 1) := by decide +kernel
theorem dX5_placeOf_53 : decode cX5_placeOf 53 = .ok (.ireturn, 1) := by decide +kernel
theorem dX5_numberOf_0 : decode cX5_numberOf 0 = .ok (.bipush 100, 2) := by decide +kernel
theorem dX5_numberOf_2 : decode cX5_numberOf 2 = .ok (.iload_n 0, 1) := by decide +kernel
theorem dX5_numberOf_3 : decode cX5_numberOf 3 = .ok (.bipush 24, 2) := by decide +kernel
theorem dX5_numberOf_5 : decode cX5_numberOf 5 = .ok (.idiv, 1) := by decide +kernel
theorem dX5_numberOf_6 : decode cX5_numberOf 6 = .ok (.imul, 1) := by decide +kernel
theorem dX5_numberOf_7 : decode cX5_numberOf 7 = .ok (.bipush 10, 2) := by decide +kernel
theorem dX5_numberOf_9 : decode cX5_numberOf 9 = .ok (.iload_n 0, 1) := by decide +kernel
theorem dX5_numberOf_10 : decode cX5_numberOf 10 = .ok (.bipush 24, 2) := by decide +kernel
theorem dX5_numberOf_12 : decode cX5_numberOf 12 = .ok (.irem, 1) := by decide +kernel
theorem dX5_numberOf_13 : decode cX5_numberOf 13 = .ok (.bipush 6, 2) := by decide +kernel
theorem dX5_numberOf_15 : decode cX5_numberOf 15 = .ok (.idiv, 1) := by decide +kernel
theorem dX5_numberOf_16 : decode cX5_numberOf 16 = .ok (.imul, 1) := by decide +kernel
theorem dX5_numberOf_17 : decode cX5_numberOf 17 = .ok (.iadd, 1) := by decide +kernel
theorem dX5_numberOf_18 : decode cX5_numberOf 18 = .ok (.iload_n 0, 1) := by decide +kernel
theorem dX5_numberOf_19 : decode cX5_numberOf 19 = .ok (.bipush 6, 2) := by decide +kernel
theorem dX5_numberOf_21 : decode cX5_numberOf 21 = .ok (.irem, 1) := by decide +kernel
theorem dX5_numberOf_22 : decode cX5_numberOf 22 = .ok (.iadd, 1) := by decide +kernel
theorem dX5_numberOf_23 : decode cX5_numberOf 23 = .ok (.ireturn, 1) := by decide +kernel
theorem dX5_letFlow_0 : decode cX5_letFlow 0 = .ok (.aload_n 0, 1) := by decide +kernel
theorem dX5_letFlow_1 : decode cX5_letFlow 1 = .ok (.getfield 33, 3) := by decide +kernel
theorem dX5_letFlow_4 : decode cX5_letFlow 4 = .ok (.aload_n 0, 1) := by decide +kernel
theorem dX5_letFlow_5 : decode cX5_letFlow 5 = .ok (.getfield 26, 3) := by decide +kernel
theorem dX5_letFlow_8 : decode cX5_letFlow 8 = .ok (.invokevirtual 182, 3) := by decide +kernel
theorem dX5_letFlow_11 : decode cX5_letFlow 11 = .ok (.aload_n 0, 1) := by decide +kernel
theorem dX5_letFlow_12 : decode cX5_letFlow 12 = .ok (.getfield 33, 3) := by decide +kernel
theorem dX5_letFlow_15 : decode cX5_letFlow 15 = .ok (.aload_n 0, 1) := by decide +kernel
theorem dX5_letFlow_16 : decode cX5_letFlow 16 = .ok (.getfield 16, 3) := by decide +kernel
theorem dX5_letFlow_19 : decode cX5_letFlow 19 = .ok (.aload_n 0, 1) := by decide +kernel
theorem dX5_letFlow_20 : decode cX5_letFlow 20 = .ok (.getfield 51, 3) := by decide +kernel
theorem dX5_letFlow_23 : decode cX5_letFlow 23 = .ok (.i2l, 1) := by decide +kernel
theorem dX5_letFlow_24 : decode cX5_letFlow 24 = .ok (.aload_n 0, 1) := by decide +kernel
theorem dX5_letFlow_25 : decode cX5_letFlow 25 = .ok (.getfield 55, 3) := by decide +kernel
theorem dX5_letFlow_28 : decode cX5_letFlow 28 = .ok (.i2l, 1) := by decide +kernel
theorem dX5_letFlow_29 : decode cX5_letFlow 29 = .ok (.aload_n 0, 1) := by decide +kernel
theorem dX5_letFlow_30 : decode cX5_letFlow 30 = .ok (.getfield 58, 3) := by decide +kernel
theorem dX5_letFlow_33 : decode cX5_letFlow 33 = .ok (.i2l, 1) := by decide +kernel
theorem dX5_letFlow_34 : decode cX5_letFlow 34 = .ok (.invokevirtual 193, 3) := by decide +kernel
theorem dX5_letFlow_37 : decode cX5_letFlow 37 = .ok (.return_, 1) := by decide +kernel
theorem dX5_powerAt_0 : decode cX5_powerAt 0 = .ok (.iload_n 1, 1) := by decide +kernel
theorem dX5_powerAt_1 : decode cX5_powerAt 1 = .ok (.i2l, 1) := by decide +kernel
theorem dX5_powerAt_2 : decode cX5_powerAt 2 = .ok (.aload_n 0, 1) := by decide +kernel
theorem dX5_powerAt_3 : decode cX5_powerAt 3 = .ok (.getfield 51, 3) := by decide +kernel
theorem dX5_powerAt_6 : decode cX5_powerAt 6 = .ok (.i2l, 1) := by decide +kernel
theorem dX5_powerAt_7 : decode cX5_powerAt 7 = .ok (.lmul, 1) := by decide +kernel
theorem dX5_powerAt_8 : decode cX5_powerAt 8 = .ok (.ldc2_w 274, 3) := by decide +kernel
theorem dX5_powerAt_11 : decode cX5_powerAt 11 = .ok (.ldiv, 1) := by decide +kernel
theorem dX5_powerAt_12 : decode cX5_powerAt 12 = .ok (.lstore_n 2, 1) := by decide +kernel
theorem dX5_powerAt_13 : decode cX5_powerAt 13 = .ok (.aload_n 0, 1) := by decide +kernel
theorem dX5_powerAt_14 : decode cX5_powerAt 14 = .ok (.getfield 33, 3) := by decide +kernel
theorem dX5_powerAt_17 : decode cX5_powerAt 17 = .ok (.getfield 147, 3) := by decide +kernel
theorem dX5_powerAt_20 : decode cX5_powerAt 20 = .ok (.aload_n 0, 1) := by decide +kernel
theorem dX5_powerAt_21 : decode cX5_powerAt 21 = .ok (.getfield 33, 3) := by decide +kernel
theorem dX5_powerAt_24 : decode cX5_powerAt 24 = .ok (.getfield 141, 3) := by decide +kernel
theorem dX5_powerAt_27 : decode cX5_powerAt 27 = .ok (.lmul, 1) := by decide +kernel
theorem dX5_powerAt_28 : decode cX5_powerAt 28 = .ok (.ldc2_w 274, 3) := by decide +kernel
theorem dX5_powerAt_31 : decode cX5_powerAt 31 = .ok (.ldiv, 1) := by decide +kernel
theorem dX5_powerAt_32 : decode cX5_powerAt 32 = .ok (.lstore 4, 2) := by decide +kernel
theorem dX5_powerAt_34 : decode cX5_powerAt 34 = .ok (.lload_n 2, 1) := by decide +kernel
theorem dX5_powerAt_35 : decode cX5_powerAt 35 = .ok (.aload_n 0, 1) := by decide +kernel
theorem dX5_powerAt_36 : decode cX5_powerAt 36 = .ok (.getfield 9, 3) := by decide +kernel
theorem dX5_powerAt_39 : decode cX5_powerAt 39 = .ok (.iconst 2, 1) := by decide +kernel
theorem dX5_powerAt_40 : decode cX5_powerAt 40 = .ok (.iaload, 1) := by decide +kernel
theorem dX5_powerAt_41 : decode cX5_powerAt 41 = .ok (.i2l, 1) := by decide +kernel
theorem dX5_powerAt_42 : decode cX5_powerAt 42 = .ok (.lload 4, 2) := by decide +kernel
theorem dX5_powerAt_44 : decode cX5_powerAt 44 = .ok (.lmul, 1) := by decide +kernel
theorem dX5_powerAt_45 : decode cX5_powerAt 45 = .ok (.ldc2_w 274, 3) := by decide +kernel
theorem dX5_powerAt_48 : decode cX5_powerAt 48 = .ok (.ldiv, 1) := by decide +kernel
theorem dX5_powerAt_49 : decode cX5_powerAt 49 = .ok (.lsub, 1) := by decide +kernel
theorem dX5_powerAt_50 : decode cX5_powerAt 50 = .ok (.lreturn, 1) := by decide +kernel
theorem dX5_suits_0 : decode cX5_suits 0 = .ok (.aload_n 0, 1) := by decide +kernel
theorem dX5_suits_1 : decode cX5_suits 1 = .ok (.getfield 33, 3) := by decide +kernel
theorem dX5_suits_4 : decode cX5_suits 4 = .ok (.getfield 130, 3) := by decide +kernel
theorem dX5_suits_7 : decode cX5_suits 7 = .ok (.iload_n 1, 1) := by decide +kernel
theorem dX5_suits_8 : decode cX5_suits 8 = .ok (.i2l, 1) := by decide +kernel
theorem dX5_suits_9 : decode cX5_suits 9 = .ok (.lcmp, 1) := by decide +kernel
theorem dX5_suits_10 : decode cX5_suits 10 = .ok (.ifCond .lt 58, 3) := by decide +kernel
theorem dX5_suits_13 : decode cX5_suits 13 = .ok (.aload_n 0, 1) := by decide +kernel
theorem dX5_suits_14 : decode cX5_suits 14 = .ok (.getfield 33, 3) := by decide +kernel
theorem dX5_suits_17 : decode cX5_suits 17 = .ok (.getfield 134, 3) := by decide +kernel
theorem dX5_suits_20 : decode cX5_suits 20 = .ok (.iload_n 2, 1) := by decide +kernel
theorem dX5_suits_21 : decode cX5_suits 21 = .ok (.i2l, 1) := by decide +kernel
theorem dX5_suits_22 : decode cX5_suits 22 = .ok (.aload_n 0, 1) := by decide +kernel
theorem dX5_suits_23 : decode cX5_suits 23 = .ok (.getfield 33, 3) := by decide +kernel
theorem dX5_suits_26 : decode cX5_suits 26 = .ok (.getfield 130, 3) := by decide +kernel
theorem dX5_suits_29 : decode cX5_suits 29 = .ok (.lmul, 1) := by decide +kernel
theorem dX5_suits_30 : decode cX5_suits 30 = .ok (.lcmp, 1) := by decide +kernel
theorem dX5_suits_31 : decode cX5_suits 31 = .ok (.ifCond .gt 37, 3) := by decide +kernel
theorem dX5_suits_34 : decode cX5_suits 34 = .ok (.aload_n 0, 1) := by decide +kernel
theorem dX5_suits_35 : decode cX5_suits 35 = .ok (.getfield 33, 3) := by decide +kernel
theorem dX5_suits_38 : decode cX5_suits 38 = .ok (.aload_n 0, 1) := by decide +kernel
theorem dX5_suits_39 : decode cX5_suits 39 = .ok (.getfield 20, 3) := by decide +kernel
theorem dX5_suits_42 : decode cX5_suits 42 = .ok (.aload_n 0, 1) := by decide +kernel
theorem dX5_suits_43 : decode cX5_suits 43 = .ok (.getfield 9, 3) := by decide +kernel
theorem dX5_suits_46 : decode cX5_suits 46 = .ok (.iconst 0, 1) := by decide +kernel
theorem dX5_suits_47 : decode cX5_suits 47 = .ok (.iaload, 1) := by decide +kernel
theorem dX5_suits_48 : decode cX5_suits 48 = .ok (.aload_n 0, 1) := by decide +kernel
theorem dX5_suits_49 : decode cX5_suits 49 = .ok (.getfield 9, 3) := by decide +kernel
theorem dX5_suits_52 : decode cX5_suits 52 = .ok (.iconst 1, 1) := by decide +kernel
theorem dX5_suits_53 : decode cX5_suits 53 = .ok (.iaload, 1) := by decide +kernel
theorem dX5_suits_54 : decode cX5_suits 54 = .ok (.invokevirtual 154, 3) := by decide +kernel
theorem dX5_suits_57 : decode cX5_suits 57 = .ok (.ldc2_w 170, 3) := by decide +kernel
theorem dX5_suits_60 : decode cX5_suits 60 = .ok (.lcmp, 1) := by decide +kernel
theorem dX5_suits_61 : decode cX5_suits 61 = .ok (.ifCond .ne 7, 3) := by decide +kernel
theorem dX5_suits_64 : decode cX5_suits 64 = .ok (.iconst 1, 1) := by decide +kernel
theorem dX5_suits_65 : decode cX5_suits 65 = .ok (.goto 4, 3) := by decide +kernel
theorem dX5_suits_68 : decode cX5_suits 68 = .ok (.iconst 0, 1) := by decide +kernel
theorem dX5_suits_69 : decode cX5_suits 69 = .ok (.ireturn, 1) := by decide +kernel
theorem dX5_passDay_0 : decode cX5_passDay 0 = .ok (.aload_n 0, 1) := by decide +kernel
theorem dX5_passDay_1 : decode cX5_passDay 1 = .ok (.invokevirtual 111, 3) := by decide +kernel
theorem dX5_passDay_4 : decode cX5_passDay 4 = .ok (.aload_n 0, 1) := by decide +kernel
theorem dX5_passDay_5 : decode cX5_passDay 5 = .ok (.dup, 1) := by decide +kernel
theorem dX5_passDay_6 : decode cX5_passDay 6 = .ok (.getfield 61, 3) := by decide +kernel
theorem dX5_passDay_9 : decode cX5_passDay 9 = .ok (.iconst 1, 1) := by decide +kernel
theorem dX5_passDay_10 : decode cX5_passDay 10 = .ok (.iadd, 1) := by decide +kernel
theorem dX5_passDay_11 : decode cX5_passDay 11 = .ok (.putfield 61, 3) := by decide +kernel
theorem dX5_passDay_14 : decode cX5_passDay 14 = .ok (.iconst 1, 1) := by decide +kernel
theorem dX5_passDay_15 : decode cX5_passDay 15 = .ok (.aload_n 0, 1) := by decide +kernel
theorem dX5_passDay_16 : decode cX5_passDay 16 = .ok (.getfield 9, 3) := by decide +kernel
theorem dX5_passDay_19 : decode cX5_passDay 19 = .ok (.iconst 3, 1) := by decide +kernel
theorem dX5_passDay_20 : decode cX5_passDay 20 = .ok (.iaload, 1) := by decide +kernel
theorem dX5_passDay_21 : decode cX5_passDay 21 = .ok (.invokestatic 276, 3) := by decide +kernel
theorem dX5_passDay_24 : decode cX5_passDay 24 = .ok (.istore_n 1, 1) := by decide +kernel
theorem dX5_passDay_25 : decode cX5_passDay 25 = .ok (.aload_n 0, 1) := by decide +kernel
theorem dX5_passDay_26 : decode cX5_passDay 26 = .ok (.getfield 9, 3) := by decide +kernel
theorem dX5_passDay_29 : decode cX5_passDay 29 = .ok (.iconst 4, 1) := by decide +kernel
theorem dX5_passDay_30 : decode cX5_passDay 30 = .ok (.iaload, 1) := by decide +kernel
theorem dX5_passDay_31 : decode cX5_passDay 31 = .ok (.istore_n 2, 1) := by decide +kernel
theorem dX5_passDay_32 : decode cX5_passDay 32 = .ok (.iload_n 2, 1) := by decide +kernel
theorem dX5_passDay_33 : decode cX5_passDay 33 = .ok (.ifCond .le 16, 3) := by decide +kernel
theorem dX5_passDay_36 : decode cX5_passDay 36 = .ok (.aload_n 0, 1) := by decide +kernel
theorem dX5_passDay_37 : decode cX5_passDay 37 = .ok (.getfield 61, 3) := by decide +kernel
theorem dX5_passDay_40 : decode cX5_passDay 40 = .ok (.iload_n 2, 1) := by decide +kernel
theorem dX5_passDay_41 : decode cX5_passDay 41 = .ok (.irem, 1) := by decide +kernel
theorem dX5_passDay_42 : decode cX5_passDay 42 = .ok (.ifCond .ne 7, 3) := by decide +kernel
theorem dX5_passDay_45 : decode cX5_passDay 45 = .ok (.iconst 1, 1) := by decide +kernel
theorem dX5_passDay_46 : decode cX5_passDay 46 = .ok (.goto 4, 3) := by decide +kernel
theorem dX5_passDay_49 : decode cX5_passDay 49 = .ok (.iconst 0, 1) := by decide +kernel
theorem dX5_passDay_50 : decode cX5_passDay 50 = .ok (.istore_n 3, 1) := by decide +kernel
theorem dX5_passDay_51 : decode cX5_passDay 51 = .ok (.iconst 0, 1) := by decide +kernel
theorem dX5_passDay_52 : decode cX5_passDay 52 = .ok (.istore 4, 2) := by decide +kernel
theorem dX5_passDay_54 : decode cX5_passDay 54 = .ok (.iload 4, 2) := by decide +kernel
theorem dX5_passDay_56 : decode cX5_passDay 56 = .ok (.bipush 72, 2) := by decide +kernel
theorem dX5_passDay_58 : decode cX5_passDay 58 = .ok (.if_icmp .ge 56, 3) := by decide +kernel
theorem dX5_passDay_61 : decode cX5_passDay 61 = .ok (.aload_n 0, 1) := by decide +kernel
theorem dX5_passDay_62 : decode cX5_passDay 62 = .ok (.getfield 16, 3) := by decide +kernel
theorem dX5_passDay_65 : decode cX5_passDay 65 = .ok (.iload 4, 2) := by decide +kernel
theorem dX5_passDay_67 : decode cX5_passDay 67 = .ok (.invokevirtual 105, 3) := by decide +kernel
theorem dX5_passDay_70 : decode cX5_passDay 70 = .ok (.ifCond .eq 38, 3) := by decide +kernel
theorem dX5_passDay_73 : decode cX5_passDay 73 = .ok (.aload_n 0, 1) := by decide +kernel
theorem dX5_passDay_74 : decode cX5_passDay 74 = .ok (.getfield 26, 3) := by decide +kernel
theorem dX5_passDay_77 : decode cX5_passDay 77 = .ok (.iload 4, 2) := by decide +kernel
theorem dX5_passDay_79 : decode cX5_passDay 79 = .ok (.aload_n 0, 1) := by decide +kernel
theorem dX5_passDay_80 : decode cX5_passDay 80 = .ok (.getfield 33, 3) := by decide +kernel
theorem dX5_passDay_83 : decode cX5_passDay 83 = .ok (.getfield 124, 3) := by decide +kernel
theorem dX5_passDay_86 : decode cX5_passDay 86 = .ok (.iload 4, 2) := by decide +kernel
theorem dX5_passDay_88 : decode cX5_passDay 88 = .ok (.laload, 1) := by decide +kernel
theorem dX5_passDay_89 : decode cX5_passDay 89 = .ok (.iload_n 1, 1) := by decide +kernel
theorem dX5_passDay_90 : decode cX5_passDay 90 = .ok (.i2l, 1) := by decide +kernel
theorem dX5_passDay_91 : decode cX5_passDay 91 = .ok (.ldiv, 1) := by decide +kernel
theorem dX5_passDay_92 : decode cX5_passDay 92 = .ok (.invokevirtual 279, 3) := by decide +kernel
theorem dX5_passDay_95 : decode cX5_passDay 95 = .ok (.iload_n 3, 1) := by decide +kernel
theorem dX5_passDay_96 : decode cX5_passDay 96 = .ok (.ifCond .eq 12, 3) := by decide +kernel
theorem dX5_passDay_99 : decode cX5_passDay 99 = .ok (.aload_n 0, 1) := by decide +kernel
theorem dX5_passDay_100 : decode cX5_passDay 100 = .ok (.getfield 26, 3) := by decide +kernel
theorem dX5_passDay_103 : decode cX5_passDay 103 = .ok (.iload 4, 2) := by decide +kernel
theorem dX5_passDay_105 : decode cX5_passDay 105 = .ok (.invokevirtual 283, 3) := by decide +kernel
theorem dX5_passDay_108 : decode cX5_passDay 108 = .ok (.iinc 4 1, 3) := by decide +kernel
theorem dX5_passDay_111 : decode cX5_passDay 111 = .ok (.goto (-57), 3) := by decide +kernel
theorem dX5_passDay_114 : decode cX5_passDay 114 = .ok (.return_, 1) := by decide +kernel
theorem dX5_isPair_0 : decode cX5_isPair 0 = .ok (.aload_n 0, 1) := by decide +kernel
theorem dX5_isPair_1 : decode cX5_isPair 1 = .ok (.getfield 16, 3) := by decide +kernel
theorem dX5_isPair_4 : decode cX5_isPair 4 = .ok (.iload_n 1, 1) := by decide +kernel
theorem dX5_isPair_5 : decode cX5_isPair 5 = .ok (.invokevirtual 105, 3) := by decide +kernel
theorem dX5_isPair_8 : decode cX5_isPair 8 = .ok (.ifCond .eq 30, 3) := by decide +kernel
theorem dX5_isPair_11 : decode cX5_isPair 11 = .ok (.aload_n 0, 1) := by decide +kernel
theorem dX5_isPair_12 : decode cX5_isPair 12 = .ok (.getfield 16, 3) := by decide +kernel
theorem dX5_isPair_15 : decode cX5_isPair 15 = .ok (.iload_n 2, 1) := by decide +kernel
theorem dX5_isPair_16 : decode cX5_isPair 16 = .ok (.invokevirtual 105, 3) := by decide +kernel
theorem dX5_isPair_19 : decode cX5_isPair 19 = .ok (.ifCond .eq 19, 3) := by decide +kernel
theorem dX5_isPair_22 : decode cX5_isPair 22 = .ok (.aload_n 0, 1) := by decide +kernel
theorem dX5_isPair_23 : decode cX5_isPair 23 = .ok (.getfield 33, 3) := by decide +kernel
theorem dX5_isPair_26 : decode cX5_isPair 26 = .ok (.iload_n 1, 1) := by decide +kernel
theorem dX5_isPair_27 : decode cX5_isPair 27 = .ok (.iload_n 2, 1) := by decide +kernel
theorem dX5_isPair_28 : decode cX5_isPair 28 = .ok (.invokevirtual 286, 3) := by decide +kernel
theorem dX5_isPair_31 : decode cX5_isPair 31 = .ok (.ifCond .ne 7, 3) := by decide +kernel
theorem dX5_isPair_34 : decode cX5_isPair 34 = .ok (.iconst 1, 1) := by decide +kernel
theorem dX5_isPair_35 : decode cX5_isPair 35 = .ok (.goto 4, 3) := by decide +kernel
theorem dX5_isPair_38 : decode cX5_isPair 38 = .ok (.iconst 0, 1) := by decide +kernel
theorem dX5_isPair_39 : decode cX5_isPair 39 = .ok (.ireturn, 1) := by decide +kernel
theorem dX5_sweetWaterIfChanged_0 : decode cX5_sweetWaterIfChanged 0 = .ok (.aload_n 0, 1) := by decide +kernel
theorem dX5_sweetWaterIfChanged_1 : decode cX5_sweetWaterIfChanged 1 = .ok (.getfield 33, 3) := by decide +kernel
theorem dX5_sweetWaterIfChanged_4 : decode cX5_sweetWaterIfChanged 4 = .ok (.iload_n 1, 1) := by decide +kernel
theorem dX5_sweetWaterIfChanged_5 : decode cX5_sweetWaterIfChanged 5 = .ok (.iload_n 2, 1) := by decide +kernel
theorem dX5_sweetWaterIfChanged_6 : decode cX5_sweetWaterIfChanged 6 = .ok (.invokevirtual 289, 3) := by decide +kernel
theorem dX5_sweetWaterIfChanged_9 : decode cX5_sweetWaterIfChanged 9 = .ok (.aload_n 0, 1) := by decide +kernel
theorem dX5_sweetWaterIfChanged_10 : decode cX5_sweetWaterIfChanged 10 = .ok (.getfield 33, 3) := by decide +kernel
theorem dX5_sweetWaterIfChanged_13 : decode cX5_sweetWaterIfChanged 13 = .ok (.aload_n 0, 1) := by decide +kernel
theorem dX5_sweetWaterIfChanged_14 : decode cX5_sweetWaterIfChanged 14 = .ok (.getfield 16, 3) := by decide +kernel
theorem dX5_sweetWaterIfChanged_17 : decode cX5_sweetWaterIfChanged 17 = .ok (.aload_n 0, 1) := by decide +kernel
theorem dX5_sweetWaterIfChanged_18 : decode cX5_sweetWaterIfChanged 18 = .ok (.getfield 51, 3) := by decide +kernel
theorem dX5_sweetWaterIfChanged_21 : decode cX5_sweetWaterIfChanged 21 = .ok (.i2l, 1) := by decide +kernel
theorem dX5_sweetWaterIfChanged_22 : decode cX5_sweetWaterIfChanged 22 = .ok (.aload_n 0, 1) := by decide +kernel
theorem dX5_sweetWaterIfChanged_23 : decode cX5_sweetWaterIfChanged 23 = .ok (.getfield 55, 3) := by decide +kernel
theorem dX5_sweetWaterIfChanged_26 : decode cX5_sweetWaterIfChanged 26 = .ok (.i2l, 1) := by decide +kernel
theorem dX5_sweetWaterIfChanged_27 : decode cX5_sweetWaterIfChanged 27 = .ok (.aload_n 0, 1) := by decide +kernel
theorem dX5_sweetWaterIfChanged_28 : decode cX5_sweetWaterIfChanged 28 = .ok (.getfield 58, 3) := by decide +kernel
theorem dX5_sweetWaterIfChanged_31 : decode cX5_sweetWaterIfChanged 31 = .ok (.i2l, 1) := by decide +kernel
theorem dX5_sweetWaterIfChanged_32 : decode cX5_sweetWaterIfChanged 32 = .ok (.invokevirtual 193, 3) := by decide +kernel
theorem dX5_sweetWaterIfChanged_35 : decode cX5_sweetWaterIfChanged 35 = .ok (.aload_n 0, 1) := by decide +kernel
theorem dX5_sweetWaterIfChanged_36 : decode cX5_sweetWaterIfChanged 36 = .ok (.getfield 33, 3) := by decide +kernel
theorem dX5_sweetWaterIfChanged_39 : decode cX5_sweetWaterIfChanged 39 = .ok (.iload_n 1, 1) := by decide +kernel
theorem dX5_sweetWaterIfChanged_40 : decode cX5_sweetWaterIfChanged 40 = .ok (.iload_n 2, 1) := by decide +kernel
theorem dX5_sweetWaterIfChanged_41 : decode cX5_sweetWaterIfChanged 41 = .ok (.invokevirtual 289, 3) := by decide +kernel
theorem dX5_sweetWaterIfChanged_44 : decode cX5_sweetWaterIfChanged 44 = .ok (.aload_n 0, 1) := by decide +kernel
theorem dX5_sweetWaterIfChanged_45 : decode cX5_sweetWaterIfChanged 45 = .ok (.getfield 33, 3) := by decide +kernel
theorem dX5_sweetWaterIfChanged_48 : decode cX5_sweetWaterIfChanged 48 = .ok (.getfield 130, 3) := by decide +kernel
theorem dX5_sweetWaterIfChanged_51 : decode cX5_sweetWaterIfChanged 51 = .ok (.lreturn, 1) := by decide +kernel
end
section
theorem dX6_init_0 : decode cX6_init 0 = .ok (.aload_n 0, 1) := by decide +kernel
theorem dX6_init_1 : decode cX6_init 1 = .ok (.invokespecial 1, 3) := by decide +kernel
theorem dX6_init_4 : decode cX6_init 4 = .ok (.aload_n 0, 1) := by decide +kernel
theorem dX6_init_5 : decode cX6_init 5 = .ok (.iconst 3, 1) := by decide +kernel
theorem dX6_init_6 : decode cX6_init 6 = .ok (.newarray .int, 2) := by decide +kernel
theorem dX6_init_8 : decode cX6_init 8 = .ok (.putfield 7, 3) := by decide +kernel
theorem dX6_init_11 : decode cX6_init 11 = .ok (.aload_n 0, 1) := by decide +kernel
theorem dX6_init_12 : decode cX6_init 12 = .ok (.iconst 3, 1) := by decide +kernel
theorem dX6_init_13 : decode cX6_init 13 = .ok (.putfield 13, 3) := by decide +kernel
theorem dX6_init_16 : decode cX6_init 16 = .ok (.aload_n 0, 1) := by decide +kernel
theorem dX6_init_17 : decode cX6_init 17 = .ok (.bipush 72, 2) := by decide +kernel
theorem dX6_init_19 : decode cX6_init 19 = .ok (.newarray .int, 2) := by decide +kernel
theorem dX6_init_21 : decode cX6_init 21 = .ok (.putfield 17, 3) := by decide +kernel
theorem dX6_init_24 : decode cX6_init 24 = .ok (.aload_n 0, 1) := by decide +kernel
theorem dX6_init_25 : decode cX6_init 25 = .ok (.bipush 72, 2) := by decide +kernel
theorem dX6_init_27 : decode cX6_init 27 = .ok (.newarray .int, 2) := by decide +kernel
theorem dX6_init_29 : decode cX6_init 29 = .ok (.putfield 20, 3) := by decide +kernel
theorem dX6_init_32 : decode cX6_init 32 = .ok (.aload_n 0, 1) := by decide +kernel
theorem dX6_init_33 : decode cX6_init 33 = .ok (.sipush 1000, 3) := by decide +kernel
theorem dX6_init_36 : decode cX6_init 36 = .ok (.putfield 23, 3) := by decide +kernel
theorem dX6_init_39 : decode cX6_init 39 = .ok (.aload_n 0, 1) := by decide +kernel
theorem dX6_init_40 : decode cX6_init 40 = .ok (.sipush 3000, 3) := by decide +kernel
theorem dX6_init_43 : decode cX6_init 43 = .ok (.putfield 26, 3) := by decide +kernel
theorem dX6_init_46 : decode cX6_init 46 = .ok (.aload_n 0, 1) := by decide +kernel
theorem dX6_init_47 : decode cX6_init 47 = .ok (.bipush 60, 2) := by decide +kernel
theorem dX6_init_49 : decode cX6_init 49 = .ok (.putfield 29, 3) := by decide +kernel
theorem dX6_init_52 : decode cX6_init 52 = .ok (.aload_n 0, 1) := by decide +kernel
theorem dX6_init_53 : decode cX6_init 53 = .ok (.bipush 7, 2) := by decide +kernel
theorem dX6_init_55 : decode cX6_init 55 = .ok (.newarray .int, 2) := by decide +kernel
theorem dX6_init_57 : decode cX6_init 57 = .ok (.putfield 32, 3) := by decide +kernel
theorem dX6_init_60 : decode cX6_init 60 = .ok (.aload_n 0, 1) := by decide +kernel
theorem dX6_init_61 : decode cX6_init 61 = .ok (.bipush 12, 2) := by decide +kernel
theorem dX6_init_63 : decode cX6_init 63 = .ok (.newarray .int, 2) := by decide +kernel
theorem dX6_init_65 : decode cX6_init 65 = .ok (.putfield 35, 3) := by decide +kernel
theorem dX6_init_68 : decode cX6_init 68 = .ok (.aload_n 0, 1) := by decide +kernel
theorem dX6_init_69 : decode cX6_init 69 = .ok (.bipush 12, 2) := by decide +kernel
theorem dX6_init_71 : decode cX6_init 71 = .ok (.newarray .int, 2) := by decide +kernel
theorem dX6_init_73 : decode cX6_init 73 = .ok (.putfield 38, 3) := by decide +kernel
theorem dX6_init_76 : decode cX6_init 76 = .ok (.aload_n 0, 1) := by decide +kernel
theorem dX6_init_77 : decode cX6_init 77 = .ok (.iconst 2, 1) := by decide +kernel
theorem dX6_init_78 : decode cX6_init 78 = .ok (.newarray .int, 2) := by decide +kernel
theorem dX6_init_80 : decode cX6_init 80 = .ok (.putfield 41, 3) := by decide +kernel
theorem dX6_init_83 : decode cX6_init 83 = .ok (.aload_n 0, 1) := by decide +kernel
theorem dX6_init_84 : decode cX6_init 84 = .ok (.bipush 48, 2) := by decide +kernel
theorem dX6_init_86 : decode cX6_init 86 = .ok (.newarray .int, 2) := by decide +kernel
theorem dX6_init_88 : decode cX6_init 88 = .ok (.putfield 44, 3) := by decide +kernel
theorem dX6_init_91 : decode cX6_init 91 = .ok (.aload_n 0, 1) := by decide +kernel
theorem dX6_init_92 : decode cX6_init 92 = .ok (.bipush 72, 2) := by decide +kernel
theorem dX6_init_94 : decode cX6_init 94 = .ok (.newarray .long, 2) := by decide +kernel
theorem dX6_init_96 : decode cX6_init 96 = .ok (.putfield 47, 3) := by decide +kernel
theorem dX6_init_99 : decode cX6_init 99 = .ok (.aload_n 0, 1) := by decide +kernel
theorem dX6_init_100 : decode cX6_init 100 = .ok (.bipush 72, 2) := by decide +kernel
theorem dX6_init_102 : decode cX6_init 102 = .ok (.newarray .long, 2) := by decide +kernel
theorem dX6_init_104 : decode cX6_init 104 = .ok (.putfield 51, 3) := by decide +kernel
theorem dX6_init_107 : decode cX6_init 107 = .ok (.aload_n 0, 1) := by decide +kernel
theorem dX6_init_108 : decode cX6_init 108 = .ok (.bipush 72, 2) := by decide +kernel
theorem dX6_init_110 : decode cX6_init 110 = .ok (.newarray .long, 2) := by decide +kernel
theorem dX6_init_112 : decode cX6_init 112 = .ok (.putfield 54, 3) := by decide +kernel
theorem dX6_init_115 : decode cX6_init 115 = .ok (.aload_n 0, 1) := by decide +kernel
theorem dX6_init_116 : decode cX6_init 116 = .ok (.bipush 72, 2) := by decide +kernel
theorem dX6_init_118 : decode cX6_init 118 = .ok (.newarray .long, 2) := by decide +kernel
theorem dX6_init_120 : decode cX6_init 120 = .ok (.putfield 57, 3) := by decide +kernel
theorem dX6_init_123 : decode cX6_init 123 = .ok (.aload_n 0, 1) := by decide +kernel
theorem dX6_init_124 : decode cX6_init 124 = .ok (.bipush 72, 2) := by decide +kernel
theorem dX6_init_126 : decode cX6_init 126 = .ok (.newarray .long, 2) := by decide +kernel
theorem dX6_init_128 : decode cX6_init 128 = .ok (.putfield 60, 3) := by decide +kernel
theorem dX6_init_131 : decode cX6_init 131 = .ok (.aload_n 0, 1) := by decide +kernel
theorem dX6_init_132 : decode cX6_init 132 = .ok (.iconst 3, 1) := by decide +kernel
theorem dX6_init_133 : decode cX6_init 133 = .ok (.newarray .int, 2) := by decide +kernel
theorem dX6_init_135 : decode cX6_init 135 = .ok (.putfield 63, 3) := by decide +kernel
theorem dX6_init_138 : decode cX6_init 138 = .ok (.aload_n 0, 1) := by decide +kernel
theorem dX6_init_139 : decode cX6_init 139 = .ok (.sipush 2613, 3) := by decide +kernel
theorem dX6_init_142 : decode cX6_init 142 = .ok (.newarray .int, 2) := by decide +kernel
theorem dX6_init_144 : decode cX6_init 144 = .ok (.putfield 66, 3) := by decide +kernel
theorem dX6_init_147 : decode cX6_init 147 = .ok (.aload_n 0, 1) := by decide +kernel
theorem dX6_init_148 : decode cX6_init 148 = .ok (.bipush 12, 2) := by decide +kernel
theorem dX6_init_150 : decode cX6_init 150 = .ok (.newarray .int, 2) := by decide +kernel
theorem dX6_init_152 : decode cX6_init 152 = .ok (.putfield 69, 3) := by decide +kernel
theorem dX6_init_155 : decode cX6_init 155 = .ok (.aload_n 0, 1) := by decide +kernel
theorem dX6_init_156 : decode cX6_init 156 = .ok (.bipush 24, 2) := by decide +kernel
theorem dX6_init_158 : decode cX6_init 158 = .ok (.newarray .int, 2) := by decide +kernel
theorem dX6_init_160 : decode cX6_init 160 = .ok (.putfield 72, 3) := by decide +kernel
theorem dX6_init_163 : decode cX6_init 163 = .ok (.aload_n 0, 1) := by decide +kernel
theorem dX6_init_164 : decode cX6_init 164 = .ok (.getfield 7, 3) := by decide +kernel
theorem dX6_init_167 : decode cX6_init 167 = .ok (.iconst 0, 1) := by decide +kernel
theorem dX6_init_168 : decode cX6_init 168 = .ok (.iconst 1, 1) := by decide +kernel
theorem dX6_init_169 : decode cX6_init 169 = .ok (.iastore, 1) := by decide +kernel
theorem dX6_init_170 : decode cX6_init 170 = .ok (.aload_n 0, 1) := by decide +kernel
theorem dX6_init_171 : decode cX6_init 171 = .ok (.getfield 32, 3) := by decide +kernel
theorem dX6_init_174 : decode cX6_init 174 = .ok (.iconst 1, 1) := by decide +kernel
theorem dX6_init_175 : decode cX6_init 175 = .ok (.sipush 9999, 3) := by decide +kernel
theorem dX6_init_178 : decode cX6_init 178 = .ok (.iastore, 1) := by decide +kernel
theorem dX6_init_179 : decode cX6_init 179 = .ok (.aload_n 0, 1) := by decide +kernel
theorem dX6_init_180 : decode cX6_init 180 = .ok (.getfield 32, 3) := by decide +kernel
theorem dX6_init_183 : decode cX6_init 183 = .ok (.iconst 3, 1) := by decide +kernel
theorem dX6_init_184 : decode cX6_init 184 = .ok (.bipush 100, 2) := by decide +kernel
theorem dX6_init_186 : decode cX6_init 186 = .ok (.iastore, 1) := by decide +kernel
theorem dX6_init_187 : decode cX6_init 187 = .ok (.aload_n 0, 1) := by decide +kernel
theorem dX6_init_188 : decode cX6_init 188 = .ok (.getfield 32, 3) := by decide +kernel
theorem dX6_init_191 : decode cX6_init 191 = .ok (.iconst 5, 1) := by decide +kernel
theorem dX6_init_192 : decode cX6_init 192 = .ok (.bipush 100, 2) := by decide +kernel
theorem dX6_init_194 : decode cX6_init 194 = .ok (.iastore, 1) := by decide +kernel
theorem dX6_init_195 : decode cX6_init 195 = .ok (.aload_n 0, 1) := by decide +kernel
theorem dX6_init_196 : decode cX6_init 196 = .ok (.getfield 32, 3) := by decide +kernel
theorem dX6_init_199 : decode cX6_init 199 = .ok (.bipush 6, 2) := by decide +kernel
theorem dX6_init_201 : decode cX6_init 201 = .ok (.bipush 10, 2) := by decide +kernel
theorem dX6_init_203 : decode cX6_init 203 = .ok (.iastore, 1) := by decide +kernel
theorem dX6_init_204 : decode cX6_init 204 = .ok (.aload_n 0, 1) := by decide +kernel
theorem dX6_init_205 : decode cX6_init 205 = .ok (.getfield 41, 3) := by decide +kernel
theorem dX6_init_208 : decode cX6_init 208 = .ok (.iconst 0, 1) := by decide +kernel
theorem dX6_init_209 : decode cX6_init 209 = .ok (.iconst (-1), 1) := by decide +kernel
theorem dX6_init_210 : decode cX6_init 210 = .ok (.iastore, 1) := by decide +kernel
theorem dX6_init_211 : decode cX6_init 211 = .ok (.aload_n 0, 1) := by decide +kernel
theorem dX6_init_212 : decode cX6_init 212 = .ok (.getfield 41, 3) := by decide +kernel
theorem dX6_init_215 : decode cX6_init 215 = .ok (.iconst 1, 1) := by decide +kernel
theorem dX6_init_216 : decode cX6_init 216 = .ok (.iconst (-1), 1) := by decide +kernel
theorem dX6_init_217 : decode cX6_init 217 = .ok (.iastore, 1) := by decide +kernel
theorem dX6_init_218 : decode cX6_init 218 = .ok (.return_, 1) := by decide +kernel
theorem dX6_isIn_0 : decode cX6_isIn 0 = .ok (.iload_n 0, 1) := by decide +kernel
theorem dX6_isIn_1 : decode cX6_isIn 1 = .ok (.iload_n 1, 1) := by decide +kernel
theorem dX6_isIn_2 : decode cX6_isIn 2 = .ok (.if_icmp .lt 12, 3) := by decide +kernel
theorem dX6_isIn_5 : decode cX6_isIn 5 = .ok (.iload_n 0, 1) := by decide +kernel
theorem dX6_isIn_6 : decode cX6_isIn 6 = .ok (.iload_n 2, 1) := by decide +kernel
theorem dX6_isIn_7 : decode cX6_isIn 7 = .ok (.if_icmp .gt 7, 3) := by decide +kernel
theorem dX6_isIn_10 : decode cX6_isIn 10 = .ok (.iconst 1, 1) := by decide +kernel
theorem dX6_isIn_11 : decode cX6_isIn 11 = .ok (.goto 4, 3) := by decide +kernel
theorem dX6_isIn_14 : decode cX6_isIn 14 = .ok (.iconst 0, 1) := by decide +kernel
theorem dX6_isIn_15 : decode cX6_isIn 15 = .ok (.ireturn, 1) := by decide +kernel
theorem dX6_stage_0 : decode cX6_stage 0 = .ok (.iload_n 1, 1) := by decide +kernel
theorem dX6_stage_1 : decode cX6_stage 1 = .ok (.iconst 0, 1) := by decide +kernel
theorem dX6_stage_2 : decode cX6_stage 2 = .ok (.iconst 2, 1) := by decide +kernel
theorem dX6_stage_3 : decode cX6_stage 3 = .ok (.invokestatic 75, 3) := by decide +kernel
theorem dX6_stage_6 : decode cX6_stage 6 = .ok (.ifCond .eq 20, 3) := by decide +kernel
theorem dX6_stage_9 : decode cX6_stage 9 = .ok (.iload_n 2, 1) := by decide +kernel
theorem dX6_stage_10 : decode cX6_stage 10 = .ok (.iload_n 1, 1) := by decide +kernel
theorem dX6_stage_11 : decode cX6_stage 11 = .ok (.ifCond .ne 7, 3) := by decide +kernel
theorem dX6_stage_14 : decode cX6_stage 14 = .ok (.iconst 1, 1) := by decide +kernel
theorem dX6_stage_15 : decode cX6_stage 15 = .ok (.goto 4, 3) := by decide +kernel
theorem dX6_stage_18 : decode cX6_stage 18 = .ok (.iconst 0, 1) := by decide +kernel
theorem dX6_stage_19 : decode cX6_stage 19 = .ok (.iconst 4, 1) := by decide +kernel
theorem dX6_stage_20 : decode cX6_stage 20 = .ok (.invokestatic 75, 3) := by decide +kernel
theorem dX6_stage_23 : decode cX6_stage 23 = .ok (.ifCond .ne 7, 3) := by decide +kernel
theorem dX6_stage_26 : decode cX6_stage 26 = .ok (.ldc2_w 79, 3) := by decide +kernel
theorem dX6_stage_29 : decode cX6_stage 29 = .ok (.lreturn, 1) := by decide +kernel
theorem dX6_stage_30 : decode cX6_stage 30 = .ok (.aload_n 0, 1) := by decide +kernel
theorem dX6_stage_31 : decode cX6_stage 31 = .ok (.getfield 7, 3) := by decide +kernel
theorem dX6_stage_34 : decode cX6_stage 34 = .ok (.iload_n 1, 1) := by decide +kernel
theorem dX6_stage_35 : decode cX6_stage 35 = .ok (.iaload, 1) := by decide +kernel
theorem dX6_stage_36 : decode cX6_stage 36 = .ok (.istore_n 3, 1) := by decide +kernel
theorem dX6_stage_37 : decode cX6_stage 37 = .ok (.aload_n 0, 1) := by decide +kernel
theorem dX6_stage_38 : decode cX6_stage 38 = .ok (.getfield 7, 3) := by decide +kernel
theorem dX6_stage_41 : decode cX6_stage 41 = .ok (.iload_n 1, 1) := by decide +kernel
theorem dX6_stage_42 : decode cX6_stage 42 = .ok (.iload_n 2, 1) := by decide +kernel
theorem dX6_stage_43 : decode cX6_stage 43 = .ok (.iastore, 1) := by decide +kernel
theorem dX6_stage_44 : decode cX6_stage 44 = .ok (.iload_n 3, 1) := by decide +kernel
theorem dX6_stage_45 : decode cX6_stage 45 = .ok (.i2l, 1) := by decide +kernel
theorem dX6_stage_46 : decode cX6_stage 46 = .ok (.lreturn, 1) := by decide +kernel
theorem dX6_length_0 : decode cX6_length 0 = .ok (.iload_n 1, 1) := by decide +kernel
theorem dX6_length_1 : decode cX6_length 1 = .ok (.iconst 1, 1) := by decide +kernel
theorem dX6_length_2 : decode cX6_length 2 = .ok (.bipush 6, 2) := by decide +kernel
theorem dX6_length_4 : decode cX6_length 4 = .ok (.invokestatic 75, 3) := by decide +kernel
theorem dX6_length_7 : decode cX6_length 7 = .ok (.ifCond .ne 7, 3) := by decide +kernel
theorem dX6_length_10 : decode cX6_length 10 = .ok (.ldc2_w 79, 3) := by decide +kernel
theorem dX6_length_13 : decode cX6_length 13 = .ok (.lreturn, 1) := by decide +kernel
theorem dX6_length_14 : decode cX6_length 14 = .ok (.aload_n 0, 1) := by decide +kernel
theorem dX6_length_15 : decode cX6_length 15 = .ok (.getfield 13, 3) := by decide +kernel
theorem dX6_length_18 : decode cX6_length 18 = .ok (.istore_n 2, 1) := by decide +kernel
theorem dX6_length_19 : decode cX6_length 19 = .ok (.aload_n 0, 1) := by decide +kernel
theorem dX6_length_20 : decode cX6_length 20 = .ok (.iload_n 1, 1) := by decide +kernel
theorem dX6_length_21 : decode cX6_length 21 = .ok (.putfield 13, 3) := by decide +kernel
theorem dX6_length_24 : decode cX6_length 24 = .ok (.iload_n 2, 1) := by decide +kernel
theorem dX6_length_25 : decode cX6_length 25 = .ok (.i2l, 1) := by decide +kernel
theorem dX6_length_26 : decode cX6_length 26 = .ok (.lreturn, 1) := by decide +kernel
theorem dX6_placeOf_0 : decode cX6_placeOf 0 = .ok (.iload_n 0, 1) := by decide +kernel
theorem dX6_placeOf_1 : decode cX6_placeOf 1 = .ok (.ifCond .lt 35, 3) := by decide +kernel
theorem dX6_placeOf_4 : decode cX6_placeOf 4 = .ok (.iload_n 0, 1) := by decide +kernel
theorem dX6_placeOf_5 : decode cX6_placeOf 5 = .ok (.bipush 100, 2) := by decide +kernel
theorem dX6_placeOf_7 : decode cX6_placeOf 7 = .ok (.idiv, 1) := by decide +kernel
theorem dX6_placeOf_8 : decode cX6_placeOf 8 = .ok (.iconst 3, 1) := by decide +kernel
theorem dX6_placeOf_9 : decode cX6_placeOf 9 = .ok (.if_icmp .ge 27, 3) := by decide +kernel
theorem dX6_placeOf_12 : decode cX6_placeOf 12 = .ok (.iload_n 0, 1) := by decide +kernel
theorem dX6_placeOf_13 : decode cX6_placeOf 13 = .ok (.bipush 10, 2) := by decide +kernel
theorem dX6_placeOf_15 : decode cX6_placeOf 15 = .ok (.idiv, 1) := by decide +kernel
theorem dX6_placeOf_16 : decode cX6_placeOf 16 = .ok (.bipush 10, 2) := by decide +kernel
theorem dX6_placeOf_18 : decode cX6_placeOf 18 = .ok (.irem, 1) := by decide +kernel
theorem dX6_placeOf_19 : decode cX6_placeOf 19 = .ok (.iconst 4, 1) := by decide +kernel
theorem dX6_placeOf_20 : decode cX6_placeOf 20 = .ok (.if_icmp .ge 16, 3) := by decide +kernel
theorem dX6_placeOf_23 : decode cX6_placeOf 23 = .ok (.iload_n 0, 1) := by decide +kernel
theorem dX6_placeOf_24 : decode cX6_placeOf 24 = .ok (.bipush 10, 2) := by decide +kernel
theorem dX6_placeOf_26 : decode cX6_placeOf 26 = .ok (.irem, 1) := by decide +kernel
theorem dX6_placeOf_27 : decode cX6_placeOf 27 = .ok (.bipush 6, 2) := by decide +kernel
theorem dX6_placeOf_29 : decode cX6_placeOf 29 = .ok (.if_icmp .ge 7, 3) := by decide +kernel
theorem dX6_placeOf_32 : decode cX6_placeOf 32 = .ok (.iconst 1, 1) := by decide +kernel
theorem dX6_placeOf_33 : decode cX6_placeOf 33 = .ok (.goto 4, 3) := by decide +kernel
theorem dX6_placeOf_36 : decode cX6_placeOf 36 = .ok (.iconst 0, 1) := by decide +kernel
theorem dX6_placeOf_37 : decode cX6_placeOf 37 = .ok (.istore_n 1, 1) := by decide +kernel
theorem dX6_placeOf_38 : decode cX6_placeOf 38 = .ok (.iload_n 1, 1) := by decide +kernel
theorem dX6_placeOf_39 : decode cX6_placeOf 39 = .ok (.ifCond .eq 29, 3) := by decide +kernel
theorem dX6_placeOf_42 : decode cX6_placeOf 42 = .ok (.bipush 24, 2) := by decide +kernel
theorem dX6_placeOf_44 : decode cX6_placeOf 44 = .ok (.iload_n 0, 1) := by decide +kernel
theorem dX6_placeOf_45 : decode cX6_placeOf 45 = .ok (.bipush 100, 2) := by decide +kernel
theorem dX6_placeOf_47 : decode cX6_placeOf 47 = .ok (.idiv, 1) := by decide +kernel
theorem dX6_placeOf_48 : decode cX6_placeOf 48 = .ok (.imul, 1) := by decide +kernel
theorem dX6_placeOf_49 : decode cX6_placeOf 49 = .ok (.bipush 6, 2) := by decide +kernel
theorem dX6_placeOf_51 : decode cX6_placeOf 51 = .ok (.iload_n 0, 1) := by decide +kernel
theorem dX6_placeOf_52 : decode cX6_placeOf 52 = .ok (.bipush 10, 2) := by decide +kernel
theorem dX6_placeOf_54 : decode cX6_placeOf 54 = .ok (.idiv, 1) := by decide +kernel
theorem dX6_placeOf_55 : decode cX6_placeOf 55 = .ok (.bipush 10, 2) := by decide +kernel
theorem dX6_placeOf_57 : decode cX6_placeOf 57 = .ok (.irem, 1) := by decide +kernel
theorem dX6_placeOf_58 : decode cX6_placeOf 58 = .ok (.imul, 1) := by decide +kernel
theorem dX6_placeOf_59 : decode cX6_placeOf 59 = .ok (.iadd, 1) := by decide +kernel
theorem dX6_placeOf_60 : decode cX6_placeOf 60 = .ok (.iload_n 0, 1) := by decide +kernel
theorem dX6_placeOf_61 : decode cX6_placeOf 61 = .ok (.bipush 10, 2) := by decide +kernel
theorem dX6_placeOf_63 : decode cX6_placeOf 63 = .ok (.irem, 1) := by decide +kernel
theorem dX6_placeOf_64 : decode cX6_placeOf 64 = .ok (.iadd, 1) := by decide +kernel
theorem dX6_placeOf_65 : decode cX6_placeOf 65 = .ok (.goto 4, 3) := by decide +kernel
theorem dX6_placeOf_68 : decode cX6_placeOf 68 = .ok (.iconst (-1), 1) := by decide +kernel
theorem dX6_placeOf_69 : decode cX6_placeOf 69 = .ok (.ireturn, 1) := by decide +kernel
theorem dX6_skinAt_0 : decode cX6_skinAt 0 = .ok (.bipush 100, 2) := by decide +kernel
theorem dX6_skinAt_2 : decode cX6_skinAt 2 = .ok (.iload_n 0, 1) := by decide +kernel
theorem dX6_skinAt_3 : decode cX6_skinAt 3 = .ok (.bipush 24, 2) := by decide +kernel
theorem dX6_skinAt_5 : decode cX6_skinAt 5 = .ok (.idiv, 1) := by decide +kernel
theorem dX6_skinAt_6 : decode cX6_skinAt 6 = .ok (.imul, 1) := by decide +kernel
theorem dX6_skinAt_7 : decode cX6_skinAt 7 = .ok (.bipush 10, 2) := by decide +kernel
theorem dX6_skinAt_9 : decode cX6_skinAt 9 = .ok (.iload_n 0, 1) := by decide +kernel
theorem dX6_skinAt_10 : decode cX6_skinAt 10 = .ok (.bipush 6, 2) := by decide +kernel
theorem dX6_skinAt_12 : decode cX6_skinAt 12 = .ok (.idiv, 1) := by decide +kernel
theorem dX6_skinAt_13 : decode cX6_skinAt 13 = .ok (.iconst 4, 1) := by decide +kernel
theorem dX6_skinAt_14 : decode cX6_skinAt 14 = .ok (.irem, 1) := by decide +kernel
theorem dX6_skinAt_15 : decode cX6_skinAt 15 = .ok (.imul, 1) := by decide +kernel
theorem dX6_skinAt_16 : decode cX6_skinAt 16 = .ok (.iadd, 1) := by decide +kernel
theorem dX6_skinAt_17 : decode cX6_skinAt 17 = .ok (.iload_n 0, 1) := by decide +kernel
theorem dX6_skinAt_18 : decode cX6_skinAt 18 = .ok (.bipush 6, 2) := by decide +kernel
theorem dX6_skinAt_20 : decode cX6_skinAt 20 = .ok (.irem, 1) := by decide +kernel
theorem dX6_skinAt_21 : decode cX6_skinAt 21 = .ok (.iadd, 1) := by decide +kernel
theorem dX6_skinAt_22 : decode cX6_skinAt 22 = .ok (.ireturn, 1) := by decide +kernel
theorem dX6_isStage_0 : decode cX6_isStage 0 = .ok (.iconst 1, 1) := by decide +kernel
theorem dX6_isStage_1 : decode cX6_isStage 1 = .ok (.istore_n 2, 1) := by decide +kernel
theorem dX6_isStage_2 : decode cX6_isStage 2 = .ok (.iconst 0, 1) := by decide +kernel
theorem dX6_isStage_3 : decode cX6_isStage 3 = .ok (.istore_n 3, 1) := by decide +kernel
theorem dX6_isStage_4 : decode cX6_isStage 4 = .ok (.iload_n 3, 1) := by decide +kernel
theorem dX6_isStage_5 : decode cX6_isStage 5 = .ok (.iload_n 1, 1) := by decide +kernel
theorem dX6_isStage_6 : decode cX6_isStage 6 = .ok (.if_icmp .gt 28, 3) := by decide +kernel
theorem dX6_isStage_9 : decode cX6_isStage 9 = .ok (.iload_n 2, 1) := by decide +kernel
theorem dX6_isStage_10 : decode cX6_isStage 10 = .ok (.ifCond .eq 16, 3) := by decide +kernel
theorem dX6_isStage_13 : decode cX6_isStage 13 = .ok (.aload_n 0, 1) := by decide +kernel
theorem dX6_isStage_14 : decode cX6_isStage 14 = .ok (.getfield 7, 3) := by decide +kernel
theorem dX6_isStage_17 : decode cX6_isStage 17 = .ok (.iload_n 3, 1) := by decide +kernel
theorem dX6_isStage_18 : decode cX6_isStage 18 = .ok (.iaload, 1) := by decide +kernel
theorem dX6_isStage_19 : decode cX6_isStage 19 = .ok (.ifCond .le 7, 3) := by decide +kernel
theorem dX6_isStage_22 : decode cX6_isStage 22 = .ok (.iconst 1, 1) := by decide +kernel
theorem dX6_isStage_23 : decode cX6_isStage 23 = .ok (.goto 4, 3) := by decide +kernel
theorem dX6_isStage_26 : decode cX6_isStage 26 = .ok (.iconst 0, 1) := by decide +kernel
theorem dX6_isStage_27 : decode cX6_isStage 27 = .ok (.istore_n 2, 1) := by decide +kernel
theorem dX6_isStage_28 : decode cX6_isStage 28 = .ok (.iinc 3 1, 3) := by decide +kernel
theorem dX6_isStage_31 : decode cX6_isStage 31 = .ok (.goto (-27), 3) := by decide +kernel
theorem dX6_isStage_34 : decode cX6_isStage 34 = .ok (.iload_n 2, 1) := by decide +kernel
theorem dX6_isStage_35 : decode cX6_isStage 35 = .ok (.ireturn, 1) := by decide +kernel
theorem dX6_isThere_0 : decode cX6_isThere 0 = .ok (.aload_n 0, 1) := by decide +kernel
theorem dX6_isThere_1 : decode cX6_isThere 1 = .ok (.iload_n 1, 1) := by decide +kernel
theorem dX6_isThere_2 : decode cX6_isThere 2 = .ok (.bipush 24, 2) := by decide +kernel
theorem dX6_isThere_4 : decode cX6_isThere 4 = .ok (.idiv, 1) := by decide +kernel
theorem dX6_isThere_5 : decode cX6_isThere 5 = .ok (.invokevirtual 81, 3) := by decide +kernel
theorem dX6_isThere_8 : decode cX6_isThere 8 = .ok (.ifCond .eq 36, 3) := by decide +kernel
theorem dX6_isThere_11 : decode cX6_isThere 11 = .ok (.iload_n 1, 1) := by decide +kernel
theorem dX6_isThere_12 : decode cX6_isThere 12 = .ok (.bipush 6, 2) := by decide +kernel
theorem dX6_isThere_14 : decode cX6_isThere 14 = .ok (.idiv, 1) := by decide +kernel
theorem dX6_isThere_15 : decode cX6_isThere 15 = .ok (.iconst 4, 1) := by decide +kernel
theorem dX6_isThere_16 : decode cX6_isThere 16 = .ok (.irem, 1) := by decide +kernel
theorem dX6_isThere_17 : decode cX6_isThere 17 = .ok (.aload_n 0, 1) := by decide +kernel
theorem dX6_isThere_18 : decode cX6_isThere 18 = .ok (.getfield 7, 3) := by decide +kernel
theorem dX6_isThere_21 : decode cX6_isThere 21 = .ok (.iload_n 1, 1) := by decide +kernel
theorem dX6_isThere_22 : decode cX6_isThere 22 = .ok (.bipush 24, 2) := by decide +kernel
theorem dX6_isThere_24 : decode cX6_isThere 24 = .ok (.idiv, 1) := by decide +kernel
theorem dX6_isThere_25 : decode cX6_isThere 25 = .ok (.iaload, 1) := by decide +kernel
theorem dX6_isThere_26 : decode cX6_isThere 26 = .ok (.if_icmp .ge 18, 3) := by decide +kernel
theorem dX6_isThere_29 : decode cX6_isThere 29 = .ok (.iload_n 1, 1) := by decide +kernel
theorem dX6_isThere_30 : decode cX6_isThere 30 = .ok (.bipush 6, 2) := by decide +kernel
theorem dX6_isThere_32 : decode cX6_isThere 32 = .ok (.irem, 1) := by decide +kernel
theorem dX6_isThere_33 : decode cX6_isThere 33 = .ok (.aload_n 0, 1) := by decide +kernel
theorem dX6_isThere_34 : decode cX6_isThere 34 = .ok (.getfield 13, 3) := by decide +kernel
theorem dX6_isThere_37 : decode cX6_isThere 37 = .ok (.if_icmp .ge 7, 3) := by decide +kernel
theorem dX6_isThere_40 : decode cX6_isThere 40 = .ok (.iconst 1, 1) := by decide +kernel
theorem dX6_isThere_41 : decode cX6_isThere 41 = .ok (.goto 4, 3) := by decide +kernel
theorem dX6_isThere_44 : decode cX6_isThere 44 = .ok (.iconst 0, 1) := by decide +kernel
theorem dX6_isThere_45 : decode cX6_isThere 45 = .ok (.ireturn, 1) := by decide +kernel
theorem dX6_fresh_0 : decode cX6_fresh 0 = .ok (.iload_n 1, 1) := by decide +kernel
theorem dX6_fresh_1 : decode cX6_fresh 1 = .ok (.invokestatic 85, 3) := by decide +kernel
theorem dX6_fresh_4 : decode cX6_fresh 4 = .ok (.istore_n 3, 1) := by decide +kernel
theorem dX6_fresh_5 : decode cX6_fresh 5 = .ok (.iload_n 3, 1) := by decide +kernel
theorem dX6_fresh_6 : decode cX6_fresh 6 = .ok (.ifCond .lt 12, 3) := by decide +kernel
theorem dX6_fresh_9 : decode cX6_fresh 9 = .ok (.iload_n 2, 1) := by decide +kernel
theorem dX6_fresh_10 : decode cX6_fresh 10 = .ok (.iconst 0, 1) := by decide +kernel
theorem dX6_fresh_11 : decode cX6_fresh 11 = .ok (.iconst 3, 1) := by decide +kernel
theorem dX6_fresh_12 : decode cX6_fresh 12 = .ok (.invokestatic 75, 3) := by decide +kernel
theorem dX6_fresh_15 : decode cX6_fresh 15 = .ok (.ifCond .ne 7, 3) := by decide +kernel
theorem dX6_fresh_18 : decode cX6_fresh 18 = .ok (.ldc2_w 79, 3) := by decide +kernel
theorem dX6_fresh_21 : decode cX6_fresh 21 = .ok (.lreturn, 1) := by decide +kernel
theorem dX6_fresh_22 : decode cX6_fresh 22 = .ok (.aload_n 0, 1) := by decide +kernel
theorem dX6_fresh_23 : decode cX6_fresh 23 = .ok (.getfield 20, 3) := by decide +kernel
theorem dX6_fresh_26 : decode cX6_fresh 26 = .ok (.iload_n 3, 1) := by decide +kernel
theorem dX6_fresh_27 : decode cX6_fresh 27 = .ok (.iaload, 1) := by decide +kernel
theorem dX6_fresh_28 : decode cX6_fresh 28 = .ok (.istore 4, 2) := by decide +kernel
theorem dX6_fresh_30 : decode cX6_fresh 30 = .ok (.aload_n 0, 1) := by decide +kernel
theorem dX6_fresh_31 : decode cX6_fresh 31 = .ok (.getfield 20, 3) := by decide +kernel
theorem dX6_fresh_34 : decode cX6_fresh 34 = .ok (.iload_n 3, 1) := by decide +kernel
theorem dX6_fresh_35 : decode cX6_fresh 35 = .ok (.iconst 0, 1) := by decide +kernel
theorem dX6_fresh_36 : decode cX6_fresh 36 = .ok (.iastore, 1) := by decide +kernel
theorem dX6_fresh_37 : decode cX6_fresh 37 = .ok (.aload_n 0, 1) := by decide +kernel
theorem dX6_fresh_38 : decode cX6_fresh 38 = .ok (.getfield 17, 3) := by decide +kernel
theorem dX6_fresh_41 : decode cX6_fresh 41 = .ok (.iload_n 3, 1) := by decide +kernel
theorem dX6_fresh_42 : decode cX6_fresh 42 = .ok (.iload_n 2, 1) := by decide +kernel
theorem dX6_fresh_43 : decode cX6_fresh 43 = .ok (.iastore, 1) := by decide +kernel
theorem dX6_fresh_44 : decode cX6_fresh 44 = .ok (.iload 4, 2) := by decide +kernel
theorem dX6_fresh_46 : decode cX6_fresh 46 = .ok (.i2l, 1) := by decide +kernel
theorem dX6_fresh_47 : decode cX6_fresh 47 = .ok (.lreturn, 1) := by decide +kernel
theorem dX6_pass_0 : decode cX6_pass 0 = .ok (.aload_n 0, 1) := by decide +kernel
theorem dX6_pass_1 : decode cX6_pass 1 = .ok (.getfield 17, 3) := by decide +kernel
theorem dX6_pass_4 : decode cX6_pass 4 = .ok (.iload_n 1, 1) := by decide +kernel
theorem dX6_pass_5 : decode cX6_pass 5 = .ok (.iaload, 1) := by decide +kernel
theorem dX6_pass_6 : decode cX6_pass 6 = .ok (.iconst 1, 1) := by decide +kernel
theorem dX6_pass_7 : decode cX6_pass 7 = .ok (.if_icmp .ne 8, 3) := by decide +kernel
theorem dX6_pass_10 : decode cX6_pass 10 = .ok (.bipush 30, 2) := by decide +kernel
theorem dX6_pass_12 : decode cX6_pass 12 = .ok (.goto 35, 3) := by decide +kernel
theorem dX6_pass_15 : decode cX6_pass 15 = .ok (.aload_n 0, 1) := by decide +kernel
theorem dX6_pass_16 : decode cX6_pass 16 = .ok (.getfield 17, 3) := by decide +kernel
theorem dX6_pass_19 : decode cX6_pass 19 = .ok (.iload_n 1, 1) := by decide +kernel
theorem dX6_pass_20 : decode cX6_pass 20 = .ok (.iaload, 1) := by decide +kernel
theorem dX6_pass_21 : decode cX6_pass 21 = .ok (.iconst 2, 1) := by decide +kernel
theorem dX6_pass_22 : decode cX6_pass 22 = .ok (.if_icmp .ne 8, 3) := by decide +kernel
theorem dX6_pass_25 : decode cX6_pass 25 = .ok (.bipush 60, 2) := by decide +kernel
theorem dX6_pass_27 : decode cX6_pass 27 = .ok (.goto 20, 3) := by decide +kernel
theorem dX6_pass_30 : decode cX6_pass 30 = .ok (.aload_n 0, 1) := by decide +kernel
theorem dX6_pass_31 : decode cX6_pass 31 = .ok (.getfield 17, 3) := by decide +kernel
theorem dX6_pass_34 : decode cX6_pass 34 = .ok (.iload_n 1, 1) := by decide +kernel
theorem dX6_pass_35 : decode cX6_pass 35 = .ok (.iaload, 1) := by decide +kernel
theorem dX6_pass_36 : decode cX6_pass 36 = .ok (.iconst 3, 1) := by decide +kernel
theorem dX6_pass_37 : decode cX6_pass 37 = .ok (.if_icmp .ne 8, 3) := by decide +kernel
theorem dX6_pass_40 : decode cX6_pass 40 = .ok (.bipush 20, 2) := by decide +kernel
theorem dX6_pass_42 : decode cX6_pass 42 = .ok (.goto 5, 3) := by decide +kernel
theorem dX6_pass_45 : decode cX6_pass 45 = .ok (.bipush 40, 2) := by decide +kernel
theorem dX6_pass_47 : decode cX6_pass 47 = .ok (.istore_n 2, 1) := by decide +kernel
theorem dX6_pass_48 : decode cX6_pass 48 = .ok (.iload_n 2, 1) := by decide +kernel
theorem dX6_pass_49 : decode cX6_pass 49 = .ok (.iload_n 2, 1) := by decide +kernel
theorem dX6_pass_50 : decode cX6_pass 50 = .ok (.aload_n 0, 1) := by decide +kernel
theorem dX6_pass_51 : decode cX6_pass 51 = .ok (.getfield 20, 3) := by decide +kernel
theorem dX6_pass_54 : decode cX6_pass 54 = .ok (.iload_n 1, 1) := by decide +kernel
theorem dX6_pass_55 : decode cX6_pass 55 = .ok (.iaload, 1) := by decide +kernel
theorem dX6_pass_56 : decode cX6_pass 56 = .ok (.imul, 1) := by decide +kernel
theorem dX6_pass_57 : decode cX6_pass 57 = .ok (.bipush 100, 2) := by decide +kernel
theorem dX6_pass_59 : decode cX6_pass 59 = .ok (.idiv, 1) := by decide +kernel
theorem dX6_pass_60 : decode cX6_pass 60 = .ok (.isub, 1) := by decide +kernel
theorem dX6_pass_61 : decode cX6_pass 61 = .ok (.ireturn, 1) := by decide +kernel
theorem dX6_leak_0 : decode cX6_leak 0 = .ok (.aload_n 0, 1) := by decide +kernel
theorem dX6_leak_1 : decode cX6_leak 1 = .ok (.getfield 17, 3) := by decide +kernel
theorem dX6_leak_4 : decode cX6_leak 4 = .ok (.iload_n 1, 1) := by decide +kernel
theorem dX6_leak_5 : decode cX6_leak 5 = .ok (.iaload, 1) := by decide +kernel
theorem dX6_leak_6 : decode cX6_leak 6 = .ok (.iconst 1, 1) := by decide +kernel
theorem dX6_leak_7 : decode cX6_leak 7 = .ok (.if_icmp .ne 7, 3) := by decide +kernel
theorem dX6_leak_10 : decode cX6_leak 10 = .ok (.iconst 5, 1) := by decide +kernel
theorem dX6_leak_11 : decode cX6_leak 11 = .ok (.goto 34, 3) := by decide +kernel
theorem dX6_leak_14 : decode cX6_leak 14 = .ok (.aload_n 0, 1) := by decide +kernel
theorem dX6_leak_15 : decode cX6_leak 15 = .ok (.getfield 17, 3) := by decide +kernel
theorem dX6_leak_18 : decode cX6_leak 18 = .ok (.iload_n 1, 1) := by decide +kernel
theorem dX6_leak_19 : decode cX6_leak 19 = .ok (.iaload, 1) := by decide +kernel
theorem dX6_leak_20 : decode cX6_leak 20 = .ok (.iconst 2, 1) := by decide +kernel
theorem dX6_leak_21 : decode cX6_leak 21 = .ok (.if_icmp .ne 8, 3) := by decide +kernel
theorem dX6_leak_24 : decode cX6_leak 24 = .ok (.bipush 25, 2) := by decide +kernel
theorem dX6_leak_26 : decode cX6_leak 26 = .ok (.goto 19, 3) := by decide +kernel
theorem dX6_leak_29 : decode cX6_leak 29 = .ok (.aload_n 0, 1) := by decide +kernel
theorem dX6_leak_30 : decode cX6_leak 30 = .ok (.getfield 17, 3) := by decide +kernel
theorem dX6_leak_33 : decode cX6_leak 33 = .ok (.iload_n 1, 1) := by decide +kernel
theorem dX6_leak_34 : decode cX6_leak 34 = .ok (.iaload, 1) := by decide +kernel
theorem dX6_leak_35 : decode cX6_leak 35 = .ok (.iconst 3, 1) := by decide +kernel
theorem dX6_leak_36 : decode cX6_leak 36 = .ok (.if_icmp .ne 7, 3) := by decide +kernel
theorem dX6_leak_39 : decode cX6_leak 39 = .ok (.iconst 2, 1) := by decide +kernel
theorem dX6_leak_40 : decode cX6_leak 40 = .ok (.goto 5, 3) := by decide +kernel
theorem dX6_leak_43 : decode cX6_leak 43 = .ok (.bipush 10, 2) := by decide +kernel
theorem dX6_leak_45 : decode cX6_leak 45 = .ok (.ireturn, 1) := by decide +kernel
theorem dX6_told_0 : decode cX6_told 0 = .ok (.iload_n 1, 1) := by decide +kernel
theorem dX6_told_1 : decode cX6_told 1 = .ok (.invokestatic 85, 3) := by decide +kernel
theorem dX6_told_4 : decode cX6_told 4 = .ok (.istore_n 3, 1) := by decide +kernel
theorem dX6_told_5 : decode cX6_told 5 = .ok (.iload_n 3, 1) := by decide +kernel
theorem dX6_told_6 : decode cX6_told 6 = .ok (.ifCond .lt 12, 3) := by decide +kernel
theorem dX6_told_9 : decode cX6_told 9 = .ok (.iload_n 2, 1) := by decide +kernel
theorem dX6_told_10 : decode cX6_told 10 = .ok (.iconst 0, 1) := by decide +kernel
theorem dX6_told_11 : decode cX6_told 11 = .ok (.iconst 3, 1) := by decide +kernel
theorem dX6_told_12 : decode cX6_told 12 = .ok (.invokestatic 75, 3) := by decide +kernel
theorem dX6_told_15 : decode cX6_told 15 = .ok (.ifCond .ne 7, 3) := by decide +kernel
theorem dX6_told_18 : decode cX6_told 18 = .ok (.ldc2_w 79, 3) := by decide +kernel
theorem dX6_told_21 : decode cX6_told 21 = .ok (.lreturn, 1) := by decide +kernel
theorem dX6_told_22 : decode cX6_told 22 = .ok (.iload_n 2, 1) := by decide +kernel
theorem dX6_told_23 : decode cX6_told 23 = .ok (.ifCond .ne 13, 3) := by decide +kernel
theorem dX6_told_26 : decode cX6_told 26 = .ok (.aload_n 0, 1) := by decide +kernel
theorem dX6_told_27 : decode cX6_told 27 = .ok (.getfield 17, 3) := by decide +kernel
theorem dX6_told_30 : decode cX6_told 30 = .ok (.iload_n 3, 1) := by decide +kernel
theorem dX6_told_31 : decode cX6_told 31 = .ok (.iaload, 1) := by decide +kernel
theorem dX6_told_32 : decode cX6_told 32 = .ok (.i2l, 1) := by decide +kernel
theorem dX6_told_33 : decode cX6_told 33 = .ok (.goto 38, 3) := by decide +kernel
theorem dX6_told_36 : decode cX6_told 36 = .ok (.iload_n 2, 1) := by decide +kernel
theorem dX6_told_37 : decode cX6_told 37 = .ok (.iconst 1, 1) := by decide +kernel
theorem dX6_told_38 : decode cX6_told 38 = .ok (.if_icmp .ne 13, 3) := by decide +kernel
theorem dX6_told_41 : decode cX6_told 41 = .ok (.aload_n 0, 1) := by decide +kernel
theorem dX6_told_42 : decode cX6_told 42 = .ok (.getfield 20, 3) := by decide +kernel
theorem dX6_told_45 : decode cX6_told 45 = .ok (.iload_n 3, 1) := by decide +kernel
theorem dX6_told_46 : decode cX6_told 46 = .ok (.iaload, 1) := by decide +kernel
theorem dX6_told_47 : decode cX6_told 47 = .ok (.i2l, 1) := by decide +kernel
theorem dX6_told_48 : decode cX6_told 48 = .ok (.goto 23, 3) := by decide +kernel
theorem dX6_told_51 : decode cX6_told 51 = .ok (.iload_n 2, 1) := by decide +kernel
theorem dX6_told_52 : decode cX6_told 52 = .ok (.iconst 2, 1) := by decide +kernel
theorem dX6_told_53 : decode cX6_told 53 = .ok (.if_icmp .ne 12, 3) := by decide +kernel
theorem dX6_told_56 : decode cX6_told 56 = .ok (.aload_n 0, 1) := by decide +kernel
theorem dX6_told_57 : decode cX6_told 57 = .ok (.iload_n 3, 1) := by decide +kernel
theorem dX6_told_58 : decode cX6_told 58 = .ok (.invokevirtual 89, 3) := by decide +kernel
theorem dX6_told_61 : decode cX6_told 61 = .ok (.i2l, 1) := by decide +kernel
theorem dX6_told_62 : decode cX6_told 62 = .ok (.goto 9, 3) := by decide +kernel
theorem dX6_told_65 : decode cX6_told 65 = .ok (.aload_n 0, 1) := by decide +kernel
theorem dX6_told_66 : decode cX6_told 66 = .ok (.iload_n 3, 1) := by decide +kernel
theorem dX6_told_67 : decode cX6_told 67 = .ok (.invokevirtual 92, 3) := by decide +kernel
theorem dX6_told_70 : decode cX6_told 70 = .ok (.i2l, 1) := by decide +kernel
theorem dX6_told_71 : decode cX6_told 71 = .ok (.lreturn, 1) := by decide +kernel
theorem dX6_isOf_0 : decode cX6_isOf 0 = .ok (.iload_n 1, 1) := by decide +kernel
theorem dX6_isOf_1 : decode cX6_isOf 1 = .ok (.invokestatic 85, 3) := by decide +kernel
theorem dX6_isOf_4 : decode cX6_isOf 4 = .ok (.istore_n 3, 1) := by decide +kernel
theorem dX6_isOf_5 : decode cX6_isOf 5 = .ok (.iload_n 3, 1) := by decide +kernel
theorem dX6_isOf_6 : decode cX6_isOf 6 = .ok (.ifCond .lt 12, 3) := by decide +kernel
theorem dX6_isOf_9 : decode cX6_isOf 9 = .ok (.iload_n 2, 1) := by decide +kernel
theorem dX6_isOf_10 : decode cX6_isOf 10 = .ok (.iconst 0, 1) := by decide +kernel
theorem dX6_isOf_11 : decode cX6_isOf 11 = .ok (.iconst 3, 1) := by decide +kernel
theorem dX6_isOf_12 : decode cX6_isOf 12 = .ok (.invokestatic 75, 3) := by decide +kernel
theorem dX6_isOf_15 : decode cX6_isOf 15 = .ok (.ifCond .ne 7, 3) := by decide +kernel
theorem dX6_isOf_18 : decode cX6_isOf 18 = .ok (.ldc2_w 79, 3) := by decide +kernel
theorem dX6_isOf_21 : decode cX6_isOf 21 = .ok (.lreturn, 1) := by decide +kernel
theorem dX6_isOf_22 : decode cX6_isOf 22 = .ok (.iload_n 2, 1) := by decide +kernel
theorem dX6_isOf_23 : decode cX6_isOf 23 = .ok (.ifCond .eq 28, 3) := by decide +kernel
theorem dX6_isOf_26 : decode cX6_isOf 26 = .ok (.aload_n 0, 1) := by decide +kernel
theorem dX6_isOf_27 : decode cX6_isOf 27 = .ok (.getfield 17, 3) := by decide +kernel
theorem dX6_isOf_30 : decode cX6_isOf 30 = .ok (.iload_n 3, 1) := by decide +kernel
theorem dX6_isOf_31 : decode cX6_isOf 31 = .ok (.iaload, 1) := by decide +kernel
theorem dX6_isOf_32 : decode cX6_isOf 32 = .ok (.iload_n 2, 1) := by decide +kernel
theorem dX6_isOf_33 : decode cX6_isOf 33 = .ok (.if_icmp .eq 18, 3) := by decide +kernel
theorem dX6_isOf_36 : decode cX6_isOf 36 = .ok (.iload_n 2, 1) := by decide +kernel
theorem dX6_isOf_37 : decode cX6_isOf 37 = .ok (.iconst 1, 1) := by decide +kernel
theorem dX6_isOf_38 : decode cX6_isOf 38 = .ok (.if_icmp .ne 17, 3) := by decide +kernel
theorem dX6_isOf_41 : decode cX6_isOf 41 = .ok (.aload_n 0, 1) := by decide +kernel
theorem dX6_isOf_42 : decode cX6_isOf 42 = .ok (.getfield 17, 3) := by decide +kernel
theorem dX6_isOf_45 : decode cX6_isOf 45 = .ok (.iload_n 3, 1) := by decide +kernel
theorem dX6_isOf_46 : decode cX6_isOf 46 = .ok (.iaload, 1) := by decide +kernel
theorem dX6_isOf_47 : decode cX6_isOf 47 = .ok (.iconst 3, 1) := by decide +kernel
theorem dX6_isOf_48 : decode cX6_isOf 48 = .ok (.if_icmp .ne 7, 3) := by decide +kernel
theorem dX6_isOf_51 : decode cX6_isOf 51 = .ok (.lconst 1, 1) := by decide +kernel
theorem dX6_isOf_52 : decode cX6_isOf 52 = .ok (.goto 4, 3) := by decide +kernel
theorem dX6_isOf_55 : decode cX6_isOf 55 = .ok (.lconst 0, 1) := by decide +kernel
theorem dX6_isOf_56 : decode cX6_isOf 56 = .ok (.lreturn, 1) := by decide +kernel
theorem dX6_feed_0 : decode cX6_feed 0 = .ok (.iload_n 1, 1) := by decide +kernel
theorem dX6_feed_1 : decode cX6_feed 1 = .ok (.iconst 0, 1) := by decide +kernel
theorem dX6_feed_2 : decode cX6_feed 2 = .ok (.sipush 20000, 3) := by decide +kernel
theorem dX6_feed_5 : decode cX6_feed 5 = .ok (.invokestatic 75, 3) := by decide +kernel
theorem dX6_feed_8 : decode cX6_feed 8 = .ok (.ifCond .eq 24, 3) := by decide +kernel
theorem dX6_feed_11 : decode cX6_feed 11 = .ok (.iload_n 2, 1) := by decide +kernel
theorem dX6_feed_12 : decode cX6_feed 12 = .ok (.iconst 0, 1) := by decide +kernel
theorem dX6_feed_13 : decode cX6_feed 13 = .ok (.ldc 95, 2) := by decide +kernel
theorem dX6_feed_15 : decode cX6_feed 15 = .ok (.invokestatic 75, 3) := by decide +kernel
theorem dX6_feed_18 : decode cX6_feed 18 = .ok (.ifCond .eq 14, 3) := by decide +kernel
theorem dX6_feed_21 : decode cX6_feed 21 = .ok (.iload_n 3, 1) := by decide +kernel
theorem dX6_feed_22 : decode cX6_feed 22 = .ok (.iconst 0, 1) := by decide +kernel
theorem dX6_feed_23 : decode cX6_feed 23 = .ok (.sipush 900, 3) := by decide +kernel
theorem dX6_feed_26 : decode cX6_feed 26 = .ok (.invokestatic 75, 3) := by decide +kernel
theorem dX6_feed_29 : decode cX6_feed 29 = .ok (.ifCond .ne 7, 3) := by decide +kernel
theorem dX6_feed_32 : decode cX6_feed 32 = .ok (.ldc2_w 79, 3) := by decide +kernel
theorem dX6_feed_35 : decode cX6_feed 35 = .ok (.lreturn, 1) := by decide +kernel
theorem dX6_feed_36 : decode cX6_feed 36 = .ok (.aload_n 0, 1) := by decide +kernel
theorem dX6_feed_37 : decode cX6_feed 37 = .ok (.iload_n 1, 1) := by decide +kernel
theorem dX6_feed_38 : decode cX6_feed 38 = .ok (.putfield 23, 3) := by decide +kernel
theorem dX6_feed_41 : decode cX6_feed 41 = .ok (.aload_n 0, 1) := by decide +kernel
theorem dX6_feed_42 : decode cX6_feed 42 = .ok (.iload_n 2, 1) := by decide +kernel
theorem dX6_feed_43 : decode cX6_feed 43 = .ok (.putfield 26, 3) := by decide +kernel
theorem dX6_feed_46 : decode cX6_feed 46 = .ok (.aload_n 0, 1) := by decide +kernel
theorem dX6_feed_47 : decode cX6_feed 47 = .ok (.iload_n 3, 1) := by decide +kernel
theorem dX6_feed_48 : decode cX6_feed 48 = .ok (.putfield 29, 3) := by decide +kernel
theorem dX6_feed_51 : decode cX6_feed 51 = .ok (.lconst 0, 1) := by decide +kernel
theorem dX6_feed_52 : decode cX6_feed 52 = .ok (.lreturn, 1) := by decide +kernel
theorem dX6_exchange_0 : decode cX6_exchange 0 = .ok (.aload_n 0, 1) := by decide +kernel
theorem dX6_exchange_1 : decode cX6_exchange 1 = .ok (.getfield 17, 3) := by decide +kernel
theorem dX6_exchange_4 : decode cX6_exchange 4 = .ok (.iload_n 1, 1) := by decide +kernel
theorem dX6_exchange_5 : decode cX6_exchange 5 = .ok (.iaload, 1) := by decide +kernel
theorem dX6_exchange_6 : decode cX6_exchange 6 = .ok (.istore_n 3, 1) := by decide +kernel
theorem dX6_exchange_7 : decode cX6_exchange 7 = .ok (.aload_n 0, 1) := by decide +kernel
theorem dX6_exchange_8 : decode cX6_exchange 8 = .ok (.getfield 20, 3) := by decide +kernel
theorem dX6_exchange_11 : decode cX6_exchange 11 = .ok (.iload_n 1, 1) := by decide +kernel
theorem dX6_exchange_12 : decode cX6_exchange 12 = .ok (.iaload, 1) := by decide +kernel
theorem dX6_exchange_13 : decode cX6_exchange 13 = .ok (.istore 4, 2) := by decide +kernel
theorem dX6_exchange_15 : decode cX6_exchange 15 = .ok (.aload_n 0, 1) := by decide +kernel
theorem dX6_exchange_16 : decode cX6_exchange 16 = .ok (.getfield 17, 3) := by decide +kernel
theorem dX6_exchange_19 : decode cX6_exchange 19 = .ok (.iload_n 1, 1) := by decide +kernel
theorem dX6_exchange_20 : decode cX6_exchange 20 = .ok (.aload_n 0, 1) := by decide +kernel
theorem dX6_exchange_21 : decode cX6_exchange 21 = .ok (.getfield 17, 3) := by decide +kernel
theorem dX6_exchange_24 : decode cX6_exchange 24 = .ok (.iload_n 2, 1) := by decide +kernel
theorem dX6_exchange_25 : decode cX6_exchange 25 = .ok (.iaload, 1) := by decide +kernel
theorem dX6_exchange_26 : decode cX6_exchange 26 = .ok (.iastore, 1) := by decide +kernel
theorem dX6_exchange_27 : decode cX6_exchange 27 = .ok (.aload_n 0, 1) := by decide +kernel
theorem dX6_exchange_28 : decode cX6_exchange 28 = .ok (.getfield 20, 3) := by decide +kernel
theorem dX6_exchange_31 : decode cX6_exchange 31 = .ok (.iload_n 1, 1) := by decide +kernel
theorem dX6_exchange_32 : decode cX6_exchange 32 = .ok (.aload_n 0, 1) := by decide +kernel
theorem dX6_exchange_33 : decode cX6_exchange 33 = .ok (.getfield 20, 3) := by decide +kernel
theorem dX6_exchange_36 : decode cX6_exchange 36 = .ok (.iload_n 2, 1) := by decide +kernel
theorem dX6_exchange_37 : decode cX6_exchange 37 = .ok (.iaload, 1) := by decide +kernel
theorem dX6_exchange_38 : decode cX6_exchange 38 = .ok (.iastore, 1) := by decide +kernel
theorem dX6_exchange_39 : decode cX6_exchange 39 = .ok (.aload_n 0, 1) := by decide +kernel
theorem dX6_exchange_40 : decode cX6_exchange 40 = .ok (.getfield 17, 3) := by decide +kernel
theorem dX6_exchange_43 : decode cX6_exchange 43 = .ok (.iload_n 2, 1) := by decide +kernel
theorem dX6_exchange_44 : decode cX6_exchange 44 = .ok (.iload_n 3, 1) := by decide +kernel
theorem dX6_exchange_45 : decode cX6_exchange 45 = .ok (.iastore, 1) := by decide +kernel
theorem dX6_exchange_46 : decode cX6_exchange 46 = .ok (.aload_n 0, 1) := by decide +kernel
theorem dX6_exchange_47 : decode cX6_exchange 47 = .ok (.getfield 20, 3) := by decide +kernel
theorem dX6_exchange_50 : decode cX6_exchange 50 = .ok (.iload_n 2, 1) := by decide +kernel
theorem dX6_exchange_51 : decode cX6_exchange 51 = .ok (.iload 4, 2) := by decide +kernel
theorem dX6_exchange_53 : decode cX6_exchange 53 = .ok (.iastore, 1) := by decide +kernel
theorem dX6_exchange_54 : decode cX6_exchange 54 = .ok (.return_, 1) := by decide +kernel
theorem dX6_change_0 : decode cX6_change 0 = .ok (.iload_n 1, 1) := by decide +kernel
theorem dX6_change_1 : decode cX6_change 1 = .ok (.invokestatic 85, 3) := by decide +kernel
theorem dX6_change_4 : decode cX6_change 4 = .ok (.istore_n 3, 1) := by decide +kernel
theorem dX6_change_5 : decode cX6_change 5 = .ok (.iload_n 2, 1) := by decide +kernel
theorem dX6_change_6 : decode cX6_change 6 = .ok (.invokestatic 85, 3) := by decide +kernel
theorem dX6_change_9 : decode cX6_change 9 = .ok (.istore 4, 2) := by decide +kernel
theorem dX6_change_11 : decode cX6_change 11 = .ok (.iload_n 3, 1) := by decide +kernel
theorem dX6_change_12 : decode cX6_change 12 = .ok (.ifCond .lt 14, 3) := by decide +kernel
theorem dX6_change_15 : decode cX6_change 15 = .ok (.iload 4, 2) := by decide +kernel
theorem dX6_change_17 : decode cX6_change 17 = .ok (.ifCond .lt 9, 3) := by decide +kernel
theorem dX6_change_20 : decode cX6_change 20 = .ok (.iload_n 3, 1) := by decide +kernel
theorem dX6_change_21 : decode cX6_change 21 = .ok (.iload 4, 2) := by decide +kernel
theorem dX6_change_23 : decode cX6_change 23 = .ok (.if_icmp .ne 7, 3) := by decide +kernel
theorem dX6_change_26 : decode cX6_change 26 = .ok (.ldc2_w 79, 3) := by decide +kernel
theorem dX6_change_29 : decode cX6_change 29 = .ok (.lreturn, 1) := by decide +kernel
theorem dX6_change_30 : decode cX6_change 30 = .ok (.aload_n 0, 1) := by decide +kernel
theorem dX6_change_31 : decode cX6_change 31 = .ok (.iload_n 3, 1) := by decide +kernel
theorem dX6_change_32 : decode cX6_change 32 = .ok (.iload 4, 2) := by decide +kernel
theorem dX6_change_34 : decode cX6_change 34 = .ok (.invokevirtual 96, 3) := by decide +kernel
theorem dX6_change_37 : decode cX6_change 37 = .ok (.lconst 0, 1) := by decide +kernel
theorem dX6_change_38 : decode cX6_change 38 = .ok (.lreturn, 1) := by decide +kernel
theorem dX6_saltOf_0 : decode cX6_saltOf 0 = .ok (.lload_n 0, 1) := by decide +kernel
theorem dX6_saltOf_1 : decode cX6_saltOf 1 = .ok (.lconst 0, 1) := by decide +kernel
theorem dX6_saltOf_2 : decode cX6_saltOf 2 = .ok (.lcmp, 1) := by decide +kernel
theorem dX6_saltOf_3 : decode cX6_saltOf 3 = .ok (.ifCond .ne 7, 3) := by decide +kernel
theorem dX6_saltOf_6 : decode cX6_saltOf 6 = .ok (.lconst 0, 1) := by decide +kernel
theorem dX6_saltOf_7 : decode cX6_saltOf 7 = .ok (.goto 6, 3) := by decide +kernel
theorem dX6_saltOf_10 : decode cX6_saltOf 10 = .ok (.lload_n 2, 1) := by decide +kernel
theorem dX6_saltOf_11 : decode cX6_saltOf 11 = .ok (.lload_n 0, 1) := by decide +kernel
theorem dX6_saltOf_12 : decode cX6_saltOf 12 = .ok (.ldiv, 1) := by decide +kernel
theorem dX6_saltOf_13 : decode cX6_saltOf 13 = .ok (.lreturn, 1) := by decide +kernel
theorem dX6_skin_0 : decode cX6_skin 0 = .ok (.lload_n 2, 1) := by decide +kernel
theorem dX6_skin_1 : decode cX6_skin 1 = .ok (.lload 4, 2) := by decide +kernel
theorem dX6_skin_3 : decode cX6_skin 3 = .ok (.invokestatic 100, 3) := by decide +kernel
theorem dX6_skin_6 : decode cX6_skin 6 = .ok (.lstore 8, 2) := by decide +kernel
theorem dX6_skin_8 : decode cX6_skin 8 = .ok (.lload 6, 2) := by decide +kernel
theorem dX6_skin_10 : decode cX6_skin 10 = .ok (.lload 8, 2) := by decide +kernel
theorem dX6_skin_12 : decode cX6_skin 12 = .ok (.ldc2_w 104, 3) := by decide +kernel
theorem dX6_skin_15 : decode cX6_skin 15 = .ok (.ldiv, 1) := by decide +kernel
theorem dX6_skin_16 : decode cX6_skin 16 = .ok (.lsub, 1) := by decide +kernel
theorem dX6_skin_17 : decode cX6_skin 17 = .ok (.lstore 10, 2) := by decide +kernel
theorem dX6_skin_19 : decode cX6_skin 19 = .ok (.lload 10, 2) := by decide +kernel
theorem dX6_skin_21 : decode cX6_skin 21 = .ok (.lconst 0, 1) := by decide +kernel
theorem dX6_skin_22 : decode cX6_skin 22 = .ok (.lcmp, 1) := by decide +kernel
theorem dX6_skin_23 : decode cX6_skin 23 = .ok (.ifCond .ge 7, 3) := by decide +kernel
theorem dX6_skin_26 : decode cX6_skin 26 = .ok (.lconst 0, 1) := by decide +kernel
theorem dX6_skin_27 : decode cX6_skin 27 = .ok (.goto 5, 3) := by decide +kernel
theorem dX6_skin_30 : decode cX6_skin 30 = .ok (.lload 10, 2) := by decide +kernel
theorem dX6_skin_32 : decode cX6_skin 32 = .ok (.lstore 10, 2) := by decide +kernel
theorem dX6_skin_34 : decode cX6_skin 34 = .ok (.lload 10, 2) := by decide +kernel
theorem dX6_skin_36 : decode cX6_skin 36 = .ok (.aload_n 0, 1) := by decide +kernel
theorem dX6_skin_37 : decode cX6_skin 37 = .ok (.iload_n 1, 1) := by decide +kernel
theorem dX6_skin_38 : decode cX6_skin 38 = .ok (.invokevirtual 89, 3) := by decide +kernel
theorem dX6_skin_41 : decode cX6_skin 41 = .ok (.i2l, 1) := by decide +kernel
theorem dX6_skin_42 : decode cX6_skin 42 = .ok (.lmul, 1) := by decide +kernel
theorem dX6_skin_43 : decode cX6_skin 43 = .ok (.ldc2_w 104, 3) := by decide +kernel
theorem dX6_skin_46 : decode cX6_skin 46 = .ok (.ldiv, 1) := by decide +kernel
theorem dX6_skin_47 : decode cX6_skin 47 = .ok (.lstore 12, 2) := by decide +kernel
theorem dX6_skin_49 : decode cX6_skin 49 = .ok (.lload 12, 2) := by decide +kernel
theorem dX6_skin_51 : decode cX6_skin 51 = .ok (.lload_n 2, 1) := by decide +kernel
theorem dX6_skin_52 : decode cX6_skin 52 = .ok (.lcmp, 1) := by decide +kernel
theorem dX6_skin_53 : decode cX6_skin 53 = .ok (.ifCond .le 7, 3) := by decide +kernel
theorem dX6_skin_56 : decode cX6_skin 56 = .ok (.lload_n 2, 1) := by decide +kernel
theorem dX6_skin_57 : decode cX6_skin 57 = .ok (.goto 5, 3) := by decide +kernel
theorem dX6_skin_60 : decode cX6_skin 60 = .ok (.lload 12, 2) := by decide +kernel
theorem dX6_skin_62 : decode cX6_skin 62 = .ok (.lstore 12, 2) := by decide +kernel
theorem dX6_skin_64 : decode cX6_skin 64 = .ok (.aload_n 0, 1) := by decide +kernel
theorem dX6_skin_65 : decode cX6_skin 65 = .ok (.getfield 47, 3) := by decide +kernel
theorem dX6_skin_68 : decode cX6_skin 68 = .ok (.iload_n 1, 1) := by decide +kernel
theorem dX6_skin_69 : decode cX6_skin 69 = .ok (.lload_n 2, 1) := by decide +kernel
theorem dX6_skin_70 : decode cX6_skin 70 = .ok (.lastore, 1) := by decide +kernel
theorem dX6_skin_71 : decode cX6_skin 71 = .ok (.aload_n 0, 1) := by decide +kernel
theorem dX6_skin_72 : decode cX6_skin 72 = .ok (.getfield 51, 3) := by decide +kernel
theorem dX6_skin_75 : decode cX6_skin 75 = .ok (.iload_n 1, 1) := by decide +kernel
theorem dX6_skin_76 : decode cX6_skin 76 = .ok (.lload 4, 2) := by decide +kernel
theorem dX6_skin_78 : decode cX6_skin 78 = .ok (.lastore, 1) := by decide +kernel
theorem dX6_skin_79 : decode cX6_skin 79 = .ok (.aload_n 0, 1) := by decide +kernel
theorem dX6_skin_80 : decode cX6_skin 80 = .ok (.getfield 54, 3) := by decide +kernel
theorem dX6_skin_83 : decode cX6_skin 83 = .ok (.iload_n 1, 1) := by decide +kernel
theorem dX6_skin_84 : decode cX6_skin 84 = .ok (.lload 6, 2) := by decide +kernel
theorem dX6_skin_86 : decode cX6_skin 86 = .ok (.lastore, 1) := by decide +kernel
theorem dX6_skin_87 : decode cX6_skin 87 = .ok (.aload_n 0, 1) := by decide +kernel
theorem dX6_skin_88 : decode cX6_skin 88 = .ok (.getfield 57, 3) := by decide +kernel
theorem dX6_skin_91 : decode cX6_skin 91 = .ok (.iload_n 1, 1) := by decide +kernel
theorem dX6_skin_92 : decode cX6_skin 92 = .ok (.lload 12, 2) := by decide +kernel
theorem dX6_skin_94 : decode cX6_skin 94 = .ok (.lastore, 1) := by decide +kernel
theorem dX6_skin_95 : decode cX6_skin 95 = .ok (.aload_n 0, 1) := by decide +kernel
theorem dX6_skin_96 : decode cX6_skin 96 = .ok (.getfield 60, 3) := by decide +kernel
theorem dX6_skin_99 : decode cX6_skin 99 = .ok (.iload_n 1, 1) := by decide +kernel
theorem dX6_skin_100 : decode cX6_skin 100 = .ok (.lload 12, 2) := by decide +kernel
theorem dX6_skin_102 : decode cX6_skin 102 = .ok (.lload 8, 2) := by decide +kernel
theorem dX6_skin_104 : decode cX6_skin 104 = .ok (.aload_n 0, 1) := by decide +kernel
theorem dX6_skin_105 : decode cX6_skin 105 = .ok (.iload_n 1, 1) := by decide +kernel
theorem dX6_skin_106 : decode cX6_skin 106 = .ok (.invokevirtual 92, 3) := by decide +kernel
theorem dX6_skin_109 : decode cX6_skin 109 = .ok (.i2l, 1) := by decide +kernel
theorem dX6_skin_110 : decode cX6_skin 110 = .ok (.lmul, 1) := by decide +kernel
theorem dX6_skin_111 : decode cX6_skin 111 = .ok (.ldc2_w 106, 3) := by decide +kernel
theorem dX6_skin_114 : decode cX6_skin 114 = .ok (.ldiv, 1) := by decide +kernel
theorem dX6_skin_115 : decode cX6_skin 115 = .ok (.lmul, 1) := by decide +kernel
theorem dX6_skin_116 : decode cX6_skin 116 = .ok (.lastore, 1) := by decide +kernel
theorem dX6_skin_117 : decode cX6_skin 117 = .ok (.aload_n 0, 1) := by decide +kernel
theorem dX6_skin_118 : decode cX6_skin 118 = .ok (.dup, 1) := by decide +kernel
theorem dX6_skin_119 : decode cX6_skin 119 = .ok (.getfield 108, 3) := by decide +kernel
theorem dX6_skin_122 : decode cX6_skin 122 = .ok (.lload 12, 2) := by decide +kernel
theorem dX6_skin_124 : decode cX6_skin 124 = .ok (.ladd, 1) := by decide +kernel
theorem dX6_skin_125 : decode cX6_skin 125 = .ok (.putfield 108, 3) := by decide +kernel
theorem dX6_skin_128 : decode cX6_skin 128 = .ok (.aload_n 0, 1) := by decide +kernel
theorem dX6_skin_129 : decode cX6_skin 129 = .ok (.dup, 1) := by decide +kernel
theorem dX6_skin_130 : decode cX6_skin 130 = .ok (.getfield 112, 3) := by decide +kernel
theorem dX6_skin_133 : decode cX6_skin 133 = .ok (.aload_n 0, 1) := by decide +kernel
theorem dX6_skin_134 : decode cX6_skin 134 = .ok (.getfield 60, 3) := by decide +kernel
theorem dX6_skin_137 : decode cX6_skin 137 = .ok (.iload_n 1, 1) := by decide +kernel
theorem dX6_skin_138 : decode cX6_skin 138 = .ok (.laload, 1) := by decide +kernel
theorem dX6_skin_139 : decode cX6_skin 139 = .ok (.ladd, 1) := by decide +kernel
theorem dX6_skin_140 : decode cX6_skin 140 = .ok (.putfield 112, 3) := by decide +kernel
theorem dX6_skin_143 : decode cX6_skin 143 = .ok (.return_, 1) := by decide +kernel
theorem dX6_vessel_0 : decode cX6_vessel 0 = .ok (.lload_n 3, 1) := by decide +kernel
theorem dX6_vessel_1 : decode cX6_vessel 1 = .ok (.lstore 9, 2) := by decide +kernel
theorem dX6_vessel_3 : decode cX6_vessel 3 = .ok (.lload 5, 2) := by decide +kernel
theorem dX6_vessel_5 : decode cX6_vessel 5 = .ok (.lstore 11, 2) := by decide +kernel
theorem dX6_vessel_7 : decode cX6_vessel 7 = .ok (.lload 7, 2) := by decide +kernel
theorem dX6_vessel_9 : decode cX6_vessel 9 = .ok (.lstore 13, 2) := by decide +kernel
theorem dX6_vessel_11 : decode cX6_vessel 11 = .ok (.iconst 0, 1) := by decide +kernel
theorem dX6_vessel_12 : decode cX6_vessel 12 = .ok (.istore 15, 2) := by decide +kernel
theorem dX6_vessel_14 : decode cX6_vessel 14 = .ok (.iload 15, 2) := by decide +kernel
theorem dX6_vessel_16 : decode cX6_vessel 16 = .ok (.aload_n 0, 1) := by decide +kernel
theorem dX6_vessel_17 : decode cX6_vessel 17 = .ok (.getfield 13, 3) := by decide +kernel
theorem dX6_vessel_20 : decode cX6_vessel 20 = .ok (.if_icmp .ge 80, 3) := by decide +kernel
theorem dX6_vessel_23 : decode cX6_vessel 23 = .ok (.bipush 24, 2) := by decide +kernel
theorem dX6_vessel_25 : decode cX6_vessel 25 = .ok (.iload_n 1, 1) := by decide +kernel
theorem dX6_vessel_26 : decode cX6_vessel 26 = .ok (.imul, 1) := by decide +kernel
theorem dX6_vessel_27 : decode cX6_vessel 27 = .ok (.bipush 6, 2) := by decide +kernel
theorem dX6_vessel_29 : decode cX6_vessel 29 = .ok (.iload_n 2, 1) := by decide +kernel
theorem dX6_vessel_30 : decode cX6_vessel 30 = .ok (.imul, 1) := by decide +kernel
theorem dX6_vessel_31 : decode cX6_vessel 31 = .ok (.iadd, 1) := by decide +kernel
theorem dX6_vessel_32 : decode cX6_vessel 32 = .ok (.iload 15, 2) := by decide +kernel
theorem dX6_vessel_34 : decode cX6_vessel 34 = .ok (.iadd, 1) := by decide +kernel
theorem dX6_vessel_35 : decode cX6_vessel 35 = .ok (.istore 16, 2) := by decide +kernel
theorem dX6_vessel_37 : decode cX6_vessel 37 = .ok (.aload_n 0, 1) := by decide +kernel
theorem dX6_vessel_38 : decode cX6_vessel 38 = .ok (.iload 16, 2) := by decide +kernel
theorem dX6_vessel_40 : decode cX6_vessel 40 = .ok (.lload 9, 2) := by decide +kernel
theorem dX6_vessel_42 : decode cX6_vessel 42 = .ok (.lload 11, 2) := by decide +kernel
theorem dX6_vessel_44 : decode cX6_vessel 44 = .ok (.lload 13, 2) := by decide +kernel
theorem dX6_vessel_46 : decode cX6_vessel 46 = .ok (.invokevirtual 115, 3) := by decide +kernel
theorem dX6_vessel_49 : decode cX6_vessel 49 = .ok (.lload 9, 2) := by decide +kernel
theorem dX6_vessel_51 : decode cX6_vessel 51 = .ok (.aload_n 0, 1) := by decide +kernel
theorem dX6_vessel_52 : decode cX6_vessel 52 = .ok (.getfield 57, 3) := by decide +kernel
theorem dX6_vessel_55 : decode cX6_vessel 55 = .ok (.iload 16, 2) := by decide +kernel
theorem dX6_vessel_57 : decode cX6_vessel 57 = .ok (.laload, 1) := by decide +kernel
theorem dX6_vessel_58 : decode cX6_vessel 58 = .ok (.lsub, 1) := by decide +kernel
theorem dX6_vessel_59 : decode cX6_vessel 59 = .ok (.lstore 9, 2) := by decide +kernel
theorem dX6_vessel_61 : decode cX6_vessel 61 = .ok (.lload 11, 2) := by decide +kernel
theorem dX6_vessel_63 : decode cX6_vessel 63 = .ok (.aload_n 0, 1) := by decide +kernel
theorem dX6_vessel_64 : decode cX6_vessel 64 = .ok (.getfield 60, 3) := by decide +kernel
theorem dX6_vessel_67 : decode cX6_vessel 67 = .ok (.iload 16, 2) := by decide +kernel
theorem dX6_vessel_69 : decode cX6_vessel 69 = .ok (.laload, 1) := by decide +kernel
theorem dX6_vessel_70 : decode cX6_vessel 70 = .ok (.lsub, 1) := by decide +kernel
theorem dX6_vessel_71 : decode cX6_vessel 71 = .ok (.lstore 11, 2) := by decide +kernel
theorem dX6_vessel_73 : decode cX6_vessel 73 = .ok (.lload 13, 2) := by decide +kernel
theorem dX6_vessel_75 : decode cX6_vessel 75 = .ok (.ldc2_w 119, 3) := by decide +kernel
theorem dX6_vessel_78 : decode cX6_vessel 78 = .ok (.lcmp, 1) := by decide +kernel
theorem dX6_vessel_79 : decode cX6_vessel 79 = .ok (.ifCond .ge 7, 3) := by decide +kernel
theorem dX6_vessel_82 : decode cX6_vessel 82 = .ok (.lconst 0, 1) := by decide +kernel
theorem dX6_vessel_83 : decode cX6_vessel 83 = .ok (.goto 9, 3) := by decide +kernel
theorem dX6_vessel_86 : decode cX6_vessel 86 = .ok (.lload 13, 2) := by decide +kernel
theorem dX6_vessel_88 : decode cX6_vessel 88 = .ok (.ldc2_w 119, 3) := by decide +kernel
theorem dX6_vessel_91 : decode cX6_vessel 91 = .ok (.lsub, 1) := by decide +kernel
theorem dX6_vessel_92 : decode cX6_vessel 92 = .ok (.lstore 13, 2) := by decide +kernel
theorem dX6_vessel_94 : decode cX6_vessel 94 = .ok (.iinc 15 1, 3) := by decide +kernel
theorem dX6_vessel_97 : decode cX6_vessel 97 = .ok (.goto (-83), 3) := by decide +kernel
theorem dX6_vessel_100 : decode cX6_vessel 100 = .ok (.aload_n 0, 1) := by decide +kernel
theorem dX6_vessel_101 : decode cX6_vessel 101 = .ok (.dup, 1) := by decide +kernel
theorem dX6_vessel_102 : decode cX6_vessel 102 = .ok (.getfield 121, 3) := by decide +kernel
theorem dX6_vessel_105 : decode cX6_vessel 105 = .ok (.lload 9, 2) := by decide +kernel
theorem dX6_vessel_107 : decode cX6_vessel 107 = .ok (.ladd, 1) := by decide +kernel
theorem dX6_vessel_108 : decode cX6_vessel 108 = .ok (.putfield 121, 3) := by decide +kernel
theorem dX6_vessel_111 : decode cX6_vessel 111 = .ok (.aload_n 0, 1) := by decide +kernel
theorem dX6_vessel_112 : decode cX6_vessel 112 = .ok (.dup, 1) := by decide +kernel
theorem dX6_vessel_113 : decode cX6_vessel 113 = .ok (.getfield 124, 3) := by decide +kernel
theorem dX6_vessel_116 : decode cX6_vessel 116 = .ok (.lload 11, 2) := by decide +kernel
theorem dX6_vessel_118 : decode cX6_vessel 118 = .ok (.ladd, 1) := by decide +kernel
theorem dX6_vessel_119 : decode cX6_vessel 119 = .ok (.putfield 124, 3) := by decide +kernel
theorem dX6_vessel_122 : decode cX6_vessel 122 = .ok (.return_, 1) := by decide +kernel
theorem dX6_flowAt_0 : decode cX6_flowAt 0 = .ok (.aload_n 0, 1) := by decide +kernel
theorem dX6_flowAt_1 : decode cX6_flowAt 1 = .ok (.lconst 0, 1) := by decide +kernel
theorem dX6_flowAt_2 : decode cX6_flowAt 2 = .ok (.putfield 108, 3) := by decide +kernel
theorem dX6_flowAt_5 : decode cX6_flowAt 5 = .ok (.aload_n 0, 1) := by decide +kernel
theorem dX6_flowAt_6 : decode cX6_flowAt 6 = .ok (.lconst 0, 1) := by decide +kernel
theorem dX6_flowAt_7 : decode cX6_flowAt 7 = .ok (.putfield 112, 3) := by decide +kernel
theorem dX6_flowAt_10 : decode cX6_flowAt 10 = .ok (.aload_n 0, 1) := by decide +kernel
theorem dX6_flowAt_11 : decode cX6_flowAt 11 = .ok (.aload_n 0, 1) := by decide +kernel
theorem dX6_flowAt_12 : decode cX6_flowAt 12 = .ok (.getfield 23, 3) := by decide +kernel
theorem dX6_flowAt_15 : decode cX6_flowAt 15 = .ok (.i2l, 1) := by decide +kernel
theorem dX6_flowAt_16 : decode cX6_flowAt 16 = .ok (.putfield 121, 3) := by decide +kernel
theorem dX6_flowAt_19 : decode cX6_flowAt 19 = .ok (.aload_n 0, 1) := by decide +kernel
theorem dX6_flowAt_20 : decode cX6_flowAt 20 = .ok (.aload_n 0, 1) := by decide +kernel
theorem dX6_flowAt_21 : decode cX6_flowAt 21 = .ok (.getfield 23, 3) := by decide +kernel
theorem dX6_flowAt_24 : decode cX6_flowAt 24 = .ok (.i2l, 1) := by decide +kernel
theorem dX6_flowAt_25 : decode cX6_flowAt 25 = .ok (.aload_n 0, 1) := by decide +kernel
theorem dX6_flowAt_26 : decode cX6_flowAt 26 = .ok (.getfield 26, 3) := by decide +kernel
theorem dX6_flowAt_29 : decode cX6_flowAt 29 = .ok (.i2l, 1) := by decide +kernel
theorem dX6_flowAt_30 : decode cX6_flowAt 30 = .ok (.lmul, 1) := by decide +kernel
theorem dX6_flowAt_31 : decode cX6_flowAt 31 = .ok (.putfield 124, 3) := by decide +kernel
theorem dX6_flowAt_34 : decode cX6_flowAt 34 = .ok (.aload_n 0, 1) := by decide +kernel
theorem dX6_flowAt_35 : decode cX6_flowAt 35 = .ok (.iload_n 1, 1) := by decide +kernel
theorem dX6_flowAt_36 : decode cX6_flowAt 36 = .ok (.i2l, 1) := by decide +kernel
theorem dX6_flowAt_37 : decode cX6_flowAt 37 = .ok (.putfield 127, 3) := by decide +kernel
theorem dX6_flowAt_40 : decode cX6_flowAt 40 = .ok (.iconst 0, 1) := by decide +kernel
theorem dX6_flowAt_41 : decode cX6_flowAt 41 = .ok (.istore_n 2, 1) := by decide +kernel
theorem dX6_flowAt_42 : decode cX6_flowAt 42 = .ok (.iload_n 2, 1) := by decide +kernel
theorem dX6_flowAt_43 : decode cX6_flowAt 43 = .ok (.iconst 3, 1) := by decide +kernel
theorem dX6_flowAt_44 : decode cX6_flowAt 44 = .ok (.if_icmp .ge 176, 3) := by decide +kernel
theorem dX6_flowAt_47 : decode cX6_flowAt 47 = .ok (.aload_n 0, 1) := by decide +kernel
theorem dX6_flowAt_48 : decode cX6_flowAt 48 = .ok (.iload_n 2, 1) := by decide +kernel
theorem dX6_flowAt_49 : decode cX6_flowAt 49 = .ok (.invokevirtual 81, 3) := by decide +kernel
theorem dX6_flowAt_52 : decode cX6_flowAt 52 = .ok (.ifCond .eq 168, 3) := by decide +kernel
theorem dX6_flowAt_55 : decode cX6_flowAt 55 = .ok (.aload_n 0, 1) := by decide +kernel
theorem dX6_flowAt_56 : decode cX6_flowAt 56 = .ok (.getfield 121, 3) := by decide +kernel
theorem dX6_flowAt_59 : decode cX6_flowAt 59 = .ok (.lstore_n 3, 1) := by decide +kernel
theorem dX6_flowAt_60 : decode cX6_flowAt 60 = .ok (.aload_n 0, 1) := by decide +kernel
theorem dX6_flowAt_61 : decode cX6_flowAt 61 = .ok (.getfield 124, 3) := by decide +kernel
theorem dX6_flowAt_64 : decode cX6_flowAt 64 = .ok (.lstore 5, 2) := by decide +kernel
theorem dX6_flowAt_66 : decode cX6_flowAt 66 = .ok (.aload_n 0, 1) := by decide +kernel
theorem dX6_flowAt_67 : decode cX6_flowAt 67 = .ok (.getfield 7, 3) := by decide +kernel
theorem dX6_flowAt_70 : decode cX6_flowAt 70 = .ok (.iload_n 2, 1) := by decide +kernel
theorem dX6_flowAt_71 : decode cX6_flowAt 71 = .ok (.iaload, 1) := by decide +kernel
theorem dX6_flowAt_72 : decode cX6_flowAt 72 = .ok (.i2l, 1) := by decide +kernel
theorem dX6_flowAt_73 : decode cX6_flowAt 73 = .ok (.lstore 7, 2) := by decide +kernel
theorem dX6_flowAt_75 : decode cX6_flowAt 75 = .ok (.lload_n 3, 1) := by decide +kernel
theorem dX6_flowAt_76 : decode cX6_flowAt 76 = .ok (.lload 5, 2) := by decide +kernel
theorem dX6_flowAt_78 : decode cX6_flowAt 78 = .ok (.invokestatic 100, 3) := by decide +kernel
end
section
theorem dX6_flowAt_81 : decode cX6_flowAt 81 = .ok (.lstore 9, 2) := by decide +kernel
theorem dX6_flowAt_83 : decode cX6_flowAt 83 = .ok (.lload 5, 2) := by decide +kernel
theorem dX6_flowAt_85 : decode cX6_flowAt 85 = .ok (.lload_n 3, 1) := by decide +kernel
theorem dX6_flowAt_86 : decode cX6_flowAt 86 = .ok (.lload 9, 2) := by decide +kernel
theorem dX6_flowAt_88 : decode cX6_flowAt 88 = .ok (.lmul, 1) := by decide +kernel
theorem dX6_flowAt_89 : decode cX6_flowAt 89 = .ok (.lsub, 1) := by decide +kernel
theorem dX6_flowAt_90 : decode cX6_flowAt 90 = .ok (.lstore 11, 2) := by decide +kernel
theorem dX6_flowAt_92 : decode cX6_flowAt 92 = .ok (.aload_n 0, 1) := by decide +kernel
theorem dX6_flowAt_93 : decode cX6_flowAt 93 = .ok (.lconst 0, 1) := by decide +kernel
theorem dX6_flowAt_94 : decode cX6_flowAt 94 = .ok (.putfield 121, 3) := by decide +kernel
theorem dX6_flowAt_97 : decode cX6_flowAt 97 = .ok (.aload_n 0, 1) := by decide +kernel
theorem dX6_flowAt_98 : decode cX6_flowAt 98 = .ok (.lconst 0, 1) := by decide +kernel
theorem dX6_flowAt_99 : decode cX6_flowAt 99 = .ok (.putfield 124, 3) := by decide +kernel
theorem dX6_flowAt_102 : decode cX6_flowAt 102 = .ok (.iconst 0, 1) := by decide +kernel
theorem dX6_flowAt_103 : decode cX6_flowAt 103 = .ok (.istore 13, 2) := by decide +kernel
theorem dX6_flowAt_105 : decode cX6_flowAt 105 = .ok (.iload 13, 2) := by decide +kernel
theorem dX6_flowAt_107 : decode cX6_flowAt 107 = .ok (.aload_n 0, 1) := by decide +kernel
theorem dX6_flowAt_108 : decode cX6_flowAt 108 = .ok (.getfield 7, 3) := by decide +kernel
theorem dX6_flowAt_111 : decode cX6_flowAt 111 = .ok (.iload_n 2, 1) := by decide +kernel
theorem dX6_flowAt_112 : decode cX6_flowAt 112 = .ok (.iaload, 1) := by decide +kernel
theorem dX6_flowAt_113 : decode cX6_flowAt 113 = .ok (.if_icmp .ge 62, 3) := by decide +kernel
theorem dX6_flowAt_116 : decode cX6_flowAt 116 = .ok (.lload_n 3, 1) := by decide +kernel
theorem dX6_flowAt_117 : decode cX6_flowAt 117 = .ok (.lload 7, 2) := by decide +kernel
theorem dX6_flowAt_119 : decode cX6_flowAt 119 = .ok (.ldiv, 1) := by decide +kernel
theorem dX6_flowAt_120 : decode cX6_flowAt 120 = .ok (.iload 13, 2) := by decide +kernel
theorem dX6_flowAt_122 : decode cX6_flowAt 122 = .ok (.i2l, 1) := by decide +kernel
theorem dX6_flowAt_123 : decode cX6_flowAt 123 = .ok (.lload_n 3, 1) := by decide +kernel
theorem dX6_flowAt_124 : decode cX6_flowAt 124 = .ok (.lload 7, 2) := by decide +kernel
theorem dX6_flowAt_126 : decode cX6_flowAt 126 = .ok (.lrem, 1) := by decide +kernel
theorem dX6_flowAt_127 : decode cX6_flowAt 127 = .ok (.lcmp, 1) := by decide +kernel
theorem dX6_flowAt_128 : decode cX6_flowAt 128 = .ok (.ifCond .ge 7, 3) := by decide +kernel
theorem dX6_flowAt_131 : decode cX6_flowAt 131 = .ok (.lconst 1, 1) := by decide +kernel
theorem dX6_flowAt_132 : decode cX6_flowAt 132 = .ok (.goto 4, 3) := by decide +kernel
theorem dX6_flowAt_135 : decode cX6_flowAt 135 = .ok (.lconst 0, 1) := by decide +kernel
theorem dX6_flowAt_136 : decode cX6_flowAt 136 = .ok (.ladd, 1) := by decide +kernel
theorem dX6_flowAt_137 : decode cX6_flowAt 137 = .ok (.lstore 14, 2) := by decide +kernel
theorem dX6_flowAt_139 : decode cX6_flowAt 139 = .ok (.aload_n 0, 1) := by decide +kernel
theorem dX6_flowAt_140 : decode cX6_flowAt 140 = .ok (.iload_n 2, 1) := by decide +kernel
theorem dX6_flowAt_141 : decode cX6_flowAt 141 = .ok (.iload 13, 2) := by decide +kernel
theorem dX6_flowAt_143 : decode cX6_flowAt 143 = .ok (.lload 14, 2) := by decide +kernel
theorem dX6_flowAt_145 : decode cX6_flowAt 145 = .ok (.lload 14, 2) := by decide +kernel
theorem dX6_flowAt_147 : decode cX6_flowAt 147 = .ok (.lload 9, 2) := by decide +kernel
theorem dX6_flowAt_149 : decode cX6_flowAt 149 = .ok (.lmul, 1) := by decide +kernel
theorem dX6_flowAt_150 : decode cX6_flowAt 150 = .ok (.iload 13, 2) := by decide +kernel
theorem dX6_flowAt_152 : decode cX6_flowAt 152 = .ok (.ifCond .ne 8, 3) := by decide +kernel
theorem dX6_flowAt_155 : decode cX6_flowAt 155 = .ok (.lload 11, 2) := by decide +kernel
theorem dX6_flowAt_157 : decode cX6_flowAt 157 = .ok (.goto 4, 3) := by decide +kernel
theorem dX6_flowAt_160 : decode cX6_flowAt 160 = .ok (.lconst 0, 1) := by decide +kernel
theorem dX6_flowAt_161 : decode cX6_flowAt 161 = .ok (.ladd, 1) := by decide +kernel
theorem dX6_flowAt_162 : decode cX6_flowAt 162 = .ok (.aload_n 0, 1) := by decide +kernel
theorem dX6_flowAt_163 : decode cX6_flowAt 163 = .ok (.getfield 127, 3) := by decide +kernel
theorem dX6_flowAt_166 : decode cX6_flowAt 166 = .ok (.invokevirtual 130, 3) := by decide +kernel
theorem dX6_flowAt_169 : decode cX6_flowAt 169 = .ok (.iinc 13 1, 3) := by decide +kernel
theorem dX6_flowAt_172 : decode cX6_flowAt 172 = .ok (.goto (-67), 3) := by decide +kernel
theorem dX6_flowAt_175 : decode cX6_flowAt 175 = .ok (.aload_n 0, 1) := by decide +kernel
theorem dX6_flowAt_176 : decode cX6_flowAt 176 = .ok (.aload_n 0, 1) := by decide +kernel
theorem dX6_flowAt_177 : decode cX6_flowAt 177 = .ok (.getfield 127, 3) := by decide +kernel
theorem dX6_flowAt_180 : decode cX6_flowAt 180 = .ok (.ldc2_w 119, 3) := by decide +kernel
theorem dX6_flowAt_183 : decode cX6_flowAt 183 = .ok (.aload_n 0, 1) := by decide +kernel
theorem dX6_flowAt_184 : decode cX6_flowAt 184 = .ok (.getfield 13, 3) := by decide +kernel
theorem dX6_flowAt_187 : decode cX6_flowAt 187 = .ok (.i2l, 1) := by decide +kernel
theorem dX6_flowAt_188 : decode cX6_flowAt 188 = .ok (.lmul, 1) := by decide +kernel
theorem dX6_flowAt_189 : decode cX6_flowAt 189 = .ok (.lcmp, 1) := by decide +kernel
theorem dX6_flowAt_190 : decode cX6_flowAt 190 = .ok (.ifCond .ge 7, 3) := by decide +kernel
theorem dX6_flowAt_193 : decode cX6_flowAt 193 = .ok (.lconst 0, 1) := by decide +kernel
theorem dX6_flowAt_194 : decode cX6_flowAt 194 = .ok (.goto 17, 3) := by decide +kernel
theorem dX6_flowAt_197 : decode cX6_flowAt 197 = .ok (.aload_n 0, 1) := by decide +kernel
theorem dX6_flowAt_198 : decode cX6_flowAt 198 = .ok (.getfield 127, 3) := by decide +kernel
theorem dX6_flowAt_201 : decode cX6_flowAt 201 = .ok (.ldc2_w 119, 3) := by decide +kernel
theorem dX6_flowAt_204 : decode cX6_flowAt 204 = .ok (.aload_n 0, 1) := by decide +kernel
theorem dX6_flowAt_205 : decode cX6_flowAt 205 = .ok (.getfield 13, 3) := by decide +kernel
theorem dX6_flowAt_208 : decode cX6_flowAt 208 = .ok (.i2l, 1) := by decide +kernel
theorem dX6_flowAt_209 : decode cX6_flowAt 209 = .ok (.lmul, 1) := by decide +kernel
theorem dX6_flowAt_210 : decode cX6_flowAt 210 = .ok (.lsub, 1) := by decide +kernel
theorem dX6_flowAt_211 : decode cX6_flowAt 211 = .ok (.putfield 127, 3) := by decide +kernel
theorem dX6_flowAt_214 : decode cX6_flowAt 214 = .ok (.iinc 2 1, 3) := by decide +kernel
theorem dX6_flowAt_217 : decode cX6_flowAt 217 = .ok (.goto (-175), 3) := by decide +kernel
theorem dX6_flowAt_220 : decode cX6_flowAt 220 = .ok (.return_, 1) := by decide +kernel
theorem dX6_flowNow_0 : decode cX6_flowNow 0 = .ok (.aload_n 0, 1) := by decide +kernel
theorem dX6_flowNow_1 : decode cX6_flowNow 1 = .ok (.aload_n 0, 1) := by decide +kernel
theorem dX6_flowNow_2 : decode cX6_flowNow 2 = .ok (.getfield 29, 3) := by decide +kernel
theorem dX6_flowNow_5 : decode cX6_flowNow 5 = .ok (.invokevirtual 134, 3) := by decide +kernel
theorem dX6_flowNow_8 : decode cX6_flowNow 8 = .ok (.return_, 1) := by decide +kernel
theorem dX6_flow_0 : decode cX6_flow 0 = .ok (.iload_n 1, 1) := by decide +kernel
theorem dX6_flow_1 : decode cX6_flow 1 = .ok (.invokestatic 85, 3) := by decide +kernel
theorem dX6_flow_4 : decode cX6_flow 4 = .ok (.istore_n 3, 1) := by decide +kernel
theorem dX6_flow_5 : decode cX6_flow 5 = .ok (.iload_n 3, 1) := by decide +kernel
theorem dX6_flow_6 : decode cX6_flow 6 = .ok (.ifCond .lt 12, 3) := by decide +kernel
theorem dX6_flow_9 : decode cX6_flow 9 = .ok (.iload_n 2, 1) := by decide +kernel
theorem dX6_flow_10 : decode cX6_flow 10 = .ok (.iconst 0, 1) := by decide +kernel
theorem dX6_flow_11 : decode cX6_flow 11 = .ok (.iconst 4, 1) := by decide +kernel
theorem dX6_flow_12 : decode cX6_flow 12 = .ok (.invokestatic 75, 3) := by decide +kernel
theorem dX6_flow_15 : decode cX6_flow 15 = .ok (.ifCond .ne 7, 3) := by decide +kernel
theorem dX6_flow_18 : decode cX6_flow 18 = .ok (.ldc2_w 79, 3) := by decide +kernel
theorem dX6_flow_21 : decode cX6_flow 21 = .ok (.lreturn, 1) := by decide +kernel
theorem dX6_flow_22 : decode cX6_flow 22 = .ok (.aload_n 0, 1) := by decide +kernel
theorem dX6_flow_23 : decode cX6_flow 23 = .ok (.iload_n 3, 1) := by decide +kernel
theorem dX6_flow_24 : decode cX6_flow 24 = .ok (.invokevirtual 138, 3) := by decide +kernel
theorem dX6_flow_27 : decode cX6_flow 27 = .ok (.ifCond .ne 7, 3) := by decide +kernel
theorem dX6_flow_30 : decode cX6_flow 30 = .ok (.ldc2_w 141, 3) := by decide +kernel
theorem dX6_flow_33 : decode cX6_flow 33 = .ok (.lreturn, 1) := by decide +kernel
theorem dX6_flow_34 : decode cX6_flow 34 = .ok (.aload_n 0, 1) := by decide +kernel
theorem dX6_flow_35 : decode cX6_flow 35 = .ok (.invokevirtual 143, 3) := by decide +kernel
theorem dX6_flow_38 : decode cX6_flow 38 = .ok (.iload_n 2, 1) := by decide +kernel
theorem dX6_flow_39 : decode cX6_flow 39 = .ok (.tableswitch 57 0 3 #[29, 36, 43, 50], 29) := by decide +kernel
theorem dX6_flow_68 : decode cX6_flow 68 = .ok (.aload_n 0, 1) := by decide +kernel
theorem dX6_flow_69 : decode cX6_flow 69 = .ok (.getfield 47, 3) := by decide +kernel
theorem dX6_flow_72 : decode cX6_flow 72 = .ok (.iload_n 3, 1) := by decide +kernel
theorem dX6_flow_73 : decode cX6_flow 73 = .ok (.laload, 1) := by decide +kernel
theorem dX6_flow_74 : decode cX6_flow 74 = .ok (.lreturn, 1) := by decide +kernel
theorem dX6_flow_75 : decode cX6_flow 75 = .ok (.aload_n 0, 1) := by decide +kernel
theorem dX6_flow_76 : decode cX6_flow 76 = .ok (.getfield 51, 3) := by decide +kernel
theorem dX6_flow_79 : decode cX6_flow 79 = .ok (.iload_n 3, 1) := by decide +kernel
theorem dX6_flow_80 : decode cX6_flow 80 = .ok (.laload, 1) := by decide +kernel
theorem dX6_flow_81 : decode cX6_flow 81 = .ok (.lreturn, 1) := by decide +kernel
theorem dX6_flow_82 : decode cX6_flow 82 = .ok (.aload_n 0, 1) := by decide +kernel
theorem dX6_flow_83 : decode cX6_flow 83 = .ok (.getfield 54, 3) := by decide +kernel
theorem dX6_flow_86 : decode cX6_flow 86 = .ok (.iload_n 3, 1) := by decide +kernel
theorem dX6_flow_87 : decode cX6_flow 87 = .ok (.laload, 1) := by decide +kernel
theorem dX6_flow_88 : decode cX6_flow 88 = .ok (.lreturn, 1) := by decide +kernel
theorem dX6_flow_89 : decode cX6_flow 89 = .ok (.aload_n 0, 1) := by decide +kernel
theorem dX6_flow_90 : decode cX6_flow 90 = .ok (.getfield 57, 3) := by decide +kernel
theorem dX6_flow_93 : decode cX6_flow 93 = .ok (.iload_n 3, 1) := by decide +kernel
theorem dX6_flow_94 : decode cX6_flow 94 = .ok (.laload, 1) := by decide +kernel
theorem dX6_flow_95 : decode cX6_flow 95 = .ok (.lreturn, 1) := by decide +kernel
theorem dX6_flow_96 : decode cX6_flow 96 = .ok (.aload_n 0, 1) := by decide +kernel
theorem dX6_flow_97 : decode cX6_flow 97 = .ok (.getfield 60, 3) := by decide +kernel
theorem dX6_flow_100 : decode cX6_flow 100 = .ok (.iload_n 3, 1) := by decide +kernel
theorem dX6_flow_101 : decode cX6_flow 101 = .ok (.laload, 1) := by decide +kernel
theorem dX6_flow_102 : decode cX6_flow 102 = .ok (.lreturn, 1) := by decide +kernel
theorem dX6_sweet_0 : decode cX6_sweet 0 = .ok (.iload_n 1, 1) := by decide +kernel
theorem dX6_sweet_1 : decode cX6_sweet 1 = .ok (.iconst 0, 1) := by decide +kernel
theorem dX6_sweet_2 : decode cX6_sweet 2 = .ok (.iconst 2, 1) := by decide +kernel
theorem dX6_sweet_3 : decode cX6_sweet 3 = .ok (.invokestatic 75, 3) := by decide +kernel
theorem dX6_sweet_6 : decode cX6_sweet 6 = .ok (.ifCond .ne 7, 3) := by decide +kernel
theorem dX6_sweet_9 : decode cX6_sweet 9 = .ok (.ldc2_w 79, 3) := by decide +kernel
theorem dX6_sweet_12 : decode cX6_sweet 12 = .ok (.lreturn, 1) := by decide +kernel
theorem dX6_sweet_13 : decode cX6_sweet 13 = .ok (.aload_n 0, 1) := by decide +kernel
theorem dX6_sweet_14 : decode cX6_sweet 14 = .ok (.invokevirtual 143, 3) := by decide +kernel
theorem dX6_sweet_17 : decode cX6_sweet 17 = .ok (.iload_n 1, 1) := by decide +kernel
theorem dX6_sweet_18 : decode cX6_sweet 18 = .ok (.ifCond .ne 10, 3) := by decide +kernel
theorem dX6_sweet_21 : decode cX6_sweet 21 = .ok (.aload_n 0, 1) := by decide +kernel
theorem dX6_sweet_22 : decode cX6_sweet 22 = .ok (.getfield 108, 3) := by decide +kernel
theorem dX6_sweet_25 : decode cX6_sweet 25 = .ok (.goto 26, 3) := by decide +kernel
theorem dX6_sweet_28 : decode cX6_sweet 28 = .ok (.iload_n 1, 1) := by decide +kernel
theorem dX6_sweet_29 : decode cX6_sweet 29 = .ok (.iconst 1, 1) := by decide +kernel
theorem dX6_sweet_30 : decode cX6_sweet 30 = .ok (.if_icmp .ne 10, 3) := by decide +kernel
theorem dX6_sweet_33 : decode cX6_sweet 33 = .ok (.aload_n 0, 1) := by decide +kernel
theorem dX6_sweet_34 : decode cX6_sweet 34 = .ok (.getfield 112, 3) := by decide +kernel
theorem dX6_sweet_37 : decode cX6_sweet 37 = .ok (.goto 14, 3) := by decide +kernel
theorem dX6_sweet_40 : decode cX6_sweet 40 = .ok (.aload_n 0, 1) := by decide +kernel
theorem dX6_sweet_41 : decode cX6_sweet 41 = .ok (.getfield 108, 3) := by decide +kernel
theorem dX6_sweet_44 : decode cX6_sweet 44 = .ok (.aload_n 0, 1) := by decide +kernel
theorem dX6_sweet_45 : decode cX6_sweet 45 = .ok (.getfield 112, 3) := by decide +kernel
theorem dX6_sweet_48 : decode cX6_sweet 48 = .ok (.invokestatic 100, 3) := by decide +kernel
theorem dX6_sweet_51 : decode cX6_sweet 51 = .ok (.lreturn, 1) := by decide +kernel
theorem dX6_brine_0 : decode cX6_brine 0 = .ok (.iload_n 1, 1) := by decide +kernel
theorem dX6_brine_1 : decode cX6_brine 1 = .ok (.iconst 0, 1) := by decide +kernel
theorem dX6_brine_2 : decode cX6_brine 2 = .ok (.iconst 2, 1) := by decide +kernel
theorem dX6_brine_3 : decode cX6_brine 3 = .ok (.invokestatic 75, 3) := by decide +kernel
theorem dX6_brine_6 : decode cX6_brine 6 = .ok (.ifCond .ne 7, 3) := by decide +kernel
theorem dX6_brine_9 : decode cX6_brine 9 = .ok (.ldc2_w 79, 3) := by decide +kernel
theorem dX6_brine_12 : decode cX6_brine 12 = .ok (.lreturn, 1) := by decide +kernel
theorem dX6_brine_13 : decode cX6_brine 13 = .ok (.aload_n 0, 1) := by decide +kernel
theorem dX6_brine_14 : decode cX6_brine 14 = .ok (.invokevirtual 143, 3) := by decide +kernel
theorem dX6_brine_17 : decode cX6_brine 17 = .ok (.iload_n 1, 1) := by decide +kernel
theorem dX6_brine_18 : decode cX6_brine 18 = .ok (.ifCond .ne 10, 3) := by decide +kernel
theorem dX6_brine_21 : decode cX6_brine 21 = .ok (.aload_n 0, 1) := by decide +kernel
theorem dX6_brine_22 : decode cX6_brine 22 = .ok (.getfield 121, 3) := by decide +kernel
theorem dX6_brine_25 : decode cX6_brine 25 = .ok (.goto 19, 3) := by decide +kernel
theorem dX6_brine_28 : decode cX6_brine 28 = .ok (.iload_n 1, 1) := by decide +kernel
theorem dX6_brine_29 : decode cX6_brine 29 = .ok (.iconst 1, 1) := by decide +kernel
theorem dX6_brine_30 : decode cX6_brine 30 = .ok (.if_icmp .ne 10, 3) := by decide +kernel
theorem dX6_brine_33 : decode cX6_brine 33 = .ok (.aload_n 0, 1) := by decide +kernel
theorem dX6_brine_34 : decode cX6_brine 34 = .ok (.getfield 124, 3) := by decide +kernel
theorem dX6_brine_37 : decode cX6_brine 37 = .ok (.goto 7, 3) := by decide +kernel
theorem dX6_brine_40 : decode cX6_brine 40 = .ok (.aload_n 0, 1) := by decide +kernel
theorem dX6_brine_41 : decode cX6_brine 41 = .ok (.getfield 127, 3) := by decide +kernel
theorem dX6_brine_44 : decode cX6_brine 44 = .ok (.lreturn, 1) := by decide +kernel
theorem dX6_powerAt_0 : decode cX6_powerAt 0 = .ok (.iload_n 1, 1) := by decide +kernel
theorem dX6_powerAt_1 : decode cX6_powerAt 1 = .ok (.i2l, 1) := by decide +kernel
theorem dX6_powerAt_2 : decode cX6_powerAt 2 = .ok (.aload_n 0, 1) := by decide +kernel
theorem dX6_powerAt_3 : decode cX6_powerAt 3 = .ok (.getfield 23, 3) := by decide +kernel
theorem dX6_powerAt_6 : decode cX6_powerAt 6 = .ok (.i2l, 1) := by decide +kernel
theorem dX6_powerAt_7 : decode cX6_powerAt 7 = .ok (.lmul, 1) := by decide +kernel
theorem dX6_powerAt_8 : decode cX6_powerAt 8 = .ok (.ldc2_w 104, 3) := by decide +kernel
theorem dX6_powerAt_11 : decode cX6_powerAt 11 = .ok (.ldiv, 1) := by decide +kernel
theorem dX6_powerAt_12 : decode cX6_powerAt 12 = .ok (.aload_n 0, 1) := by decide +kernel
theorem dX6_powerAt_13 : decode cX6_powerAt 13 = .ok (.getfield 32, 3) := by decide +kernel
theorem dX6_powerAt_16 : decode cX6_powerAt 16 = .ok (.iconst 2, 1) := by decide +kernel
theorem dX6_powerAt_17 : decode cX6_powerAt 17 = .ok (.iaload, 1) := by decide +kernel
theorem dX6_powerAt_18 : decode cX6_powerAt 18 = .ok (.i2l, 1) := by decide +kernel
theorem dX6_powerAt_19 : decode cX6_powerAt 19 = .ok (.aload_n 0, 1) := by decide +kernel
theorem dX6_powerAt_20 : decode cX6_powerAt 20 = .ok (.getfield 127, 3) := by decide +kernel
theorem dX6_powerAt_23 : decode cX6_powerAt 23 = .ok (.aload_n 0, 1) := by decide +kernel
theorem dX6_powerAt_24 : decode cX6_powerAt 24 = .ok (.getfield 121, 3) := by decide +kernel
theorem dX6_powerAt_27 : decode cX6_powerAt 27 = .ok (.lmul, 1) := by decide +kernel
theorem dX6_powerAt_28 : decode cX6_powerAt 28 = .ok (.ldc2_w 104, 3) := by decide +kernel
theorem dX6_powerAt_31 : decode cX6_powerAt 31 = .ok (.ldiv, 1) := by decide +kernel
theorem dX6_powerAt_32 : decode cX6_powerAt 32 = .ok (.lmul, 1) := by decide +kernel
theorem dX6_powerAt_33 : decode cX6_powerAt 33 = .ok (.ldc2_w 104, 3) := by decide +kernel
theorem dX6_powerAt_36 : decode cX6_powerAt 36 = .ok (.ldiv, 1) := by decide +kernel
theorem dX6_powerAt_37 : decode cX6_powerAt 37 = .ok (.lsub, 1) := by decide +kernel
theorem dX6_powerAt_38 : decode cX6_powerAt 38 = .ok (.lreturn, 1) := by decide +kernel
theorem dX6_power_0 : decode cX6_power 0 = .ok (.aload_n 0, 1) := by decide +kernel
theorem dX6_power_1 : decode cX6_power 1 = .ok (.invokevirtual 143, 3) := by decide +kernel
theorem dX6_power_4 : decode cX6_power 4 = .ok (.aload_n 0, 1) := by decide +kernel
theorem dX6_power_5 : decode cX6_power 5 = .ok (.aload_n 0, 1) := by decide +kernel
theorem dX6_power_6 : decode cX6_power 6 = .ok (.getfield 29, 3) := by decide +kernel
theorem dX6_power_9 : decode cX6_power 9 = .ok (.invokevirtual 146, 3) := by decide +kernel
theorem dX6_power_12 : decode cX6_power 12 = .ok (.lreturn, 1) := by decide +kernel
theorem dX6_failing_0 : decode cX6_failing 0 = .ok (.iconst 0, 1) := by decide +kernel
theorem dX6_failing_1 : decode cX6_failing 1 = .ok (.istore_n 1, 1) := by decide +kernel
theorem dX6_failing_2 : decode cX6_failing 2 = .ok (.iload_n 1, 1) := by decide +kernel
theorem dX6_failing_3 : decode cX6_failing 3 = .ok (.bipush 72, 2) := by decide +kernel
theorem dX6_failing_5 : decode cX6_failing 5 = .ok (.if_icmp .ge 78, 3) := by decide +kernel
theorem dX6_failing_8 : decode cX6_failing 8 = .ok (.aload_n 0, 1) := by decide +kernel
theorem dX6_failing_9 : decode cX6_failing 9 = .ok (.iload_n 1, 1) := by decide +kernel
theorem dX6_failing_10 : decode cX6_failing 10 = .ok (.invokevirtual 138, 3) := by decide +kernel
theorem dX6_failing_13 : decode cX6_failing 13 = .ok (.ifCond .eq 64, 3) := by decide +kernel
theorem dX6_failing_16 : decode cX6_failing 16 = .ok (.aload_n 0, 1) := by decide +kernel
theorem dX6_failing_17 : decode cX6_failing 17 = .ok (.getfield 47, 3) := by decide +kernel
theorem dX6_failing_20 : decode cX6_failing 20 = .ok (.iload_n 1, 1) := by decide +kernel
theorem dX6_failing_21 : decode cX6_failing 21 = .ok (.laload, 1) := by decide +kernel
theorem dX6_failing_22 : decode cX6_failing 22 = .ok (.aload_n 0, 1) := by decide +kernel
theorem dX6_failing_23 : decode cX6_failing 23 = .ok (.getfield 57, 3) := by decide +kernel
theorem dX6_failing_26 : decode cX6_failing 26 = .ok (.iload_n 1, 1) := by decide +kernel
theorem dX6_failing_27 : decode cX6_failing 27 = .ok (.laload, 1) := by decide +kernel
theorem dX6_failing_28 : decode cX6_failing 28 = .ok (.lsub, 1) := by decide +kernel
theorem dX6_failing_29 : decode cX6_failing 29 = .ok (.aload_n 0, 1) := by decide +kernel
theorem dX6_failing_30 : decode cX6_failing 30 = .ok (.getfield 32, 3) := by decide +kernel
theorem dX6_failing_33 : decode cX6_failing 33 = .ok (.iconst 0, 1) := by decide +kernel
theorem dX6_failing_34 : decode cX6_failing 34 = .ok (.iaload, 1) := by decide +kernel
theorem dX6_failing_35 : decode cX6_failing 35 = .ok (.i2l, 1) := by decide +kernel
theorem dX6_failing_36 : decode cX6_failing 36 = .ok (.lcmp, 1) := by decide +kernel
theorem dX6_failing_37 : decode cX6_failing 37 = .ok (.ifCond .ge 13, 3) := by decide +kernel
theorem dX6_failing_40 : decode cX6_failing 40 = .ok (.bipush 10, 2) := by decide +kernel
theorem dX6_failing_42 : decode cX6_failing 42 = .ok (.iload_n 1, 1) := by decide +kernel
theorem dX6_failing_43 : decode cX6_failing 43 = .ok (.invokestatic 150, 3) := by decide +kernel
theorem dX6_failing_46 : decode cX6_failing 46 = .ok (.imul, 1) := by decide +kernel
theorem dX6_failing_47 : decode cX6_failing 47 = .ok (.iconst 1, 1) := by decide +kernel
theorem dX6_failing_48 : decode cX6_failing 48 = .ok (.iadd, 1) := by decide +kernel
theorem dX6_failing_49 : decode cX6_failing 49 = .ok (.ireturn, 1) := by decide +kernel
theorem dX6_failing_50 : decode cX6_failing 50 = .ok (.aload_n 0, 1) := by decide +kernel
theorem dX6_failing_51 : decode cX6_failing 51 = .ok (.getfield 57, 3) := by decide +kernel
theorem dX6_failing_54 : decode cX6_failing 54 = .ok (.iload_n 1, 1) := by decide +kernel
theorem dX6_failing_55 : decode cX6_failing 55 = .ok (.laload, 1) := by decide +kernel
theorem dX6_failing_56 : decode cX6_failing 56 = .ok (.aload_n 0, 1) := by decide +kernel
theorem dX6_failing_57 : decode cX6_failing 57 = .ok (.getfield 32, 3) := by decide +kernel
theorem dX6_failing_60 : decode cX6_failing 60 = .ok (.iconst 1, 1) := by decide +kernel
theorem dX6_failing_61 : decode cX6_failing 61 = .ok (.iaload, 1) := by decide +kernel
theorem dX6_failing_62 : decode cX6_failing 62 = .ok (.i2l, 1) := by decide +kernel
theorem dX6_failing_63 : decode cX6_failing 63 = .ok (.lcmp, 1) := by decide +kernel
theorem dX6_failing_64 : decode cX6_failing 64 = .ok (.ifCond .le 13, 3) := by decide +kernel
theorem dX6_failing_67 : decode cX6_failing 67 = .ok (.bipush 10, 2) := by decide +kernel
theorem dX6_failing_69 : decode cX6_failing 69 = .ok (.iload_n 1, 1) := by decide +kernel
theorem dX6_failing_70 : decode cX6_failing 70 = .ok (.invokestatic 150, 3) := by decide +kernel
theorem dX6_failing_73 : decode cX6_failing 73 = .ok (.imul, 1) := by decide +kernel
theorem dX6_failing_74 : decode cX6_failing 74 = .ok (.iconst 2, 1) := by decide +kernel
theorem dX6_failing_75 : decode cX6_failing 75 = .ok (.iadd, 1) := by decide +kernel
theorem dX6_failing_76 : decode cX6_failing 76 = .ok (.ireturn, 1) := by decide +kernel
theorem dX6_failing_77 : decode cX6_failing 77 = .ok (.iinc 1 1, 3) := by decide +kernel
theorem dX6_failing_80 : decode cX6_failing 80 = .ok (.goto (-78), 3) := by decide +kernel
theorem dX6_failing_83 : decode cX6_failing 83 = .ok (.iconst (-1), 1) := by decide +kernel
theorem dX6_failing_84 : decode cX6_failing 84 = .ok (.ireturn, 1) := by decide +kernel
theorem dX6_failure_0 : decode cX6_failure 0 = .ok (.aload_n 0, 1) := by decide +kernel
theorem dX6_failure_1 : decode cX6_failure 1 = .ok (.invokevirtual 143, 3) := by decide +kernel
theorem dX6_failure_4 : decode cX6_failure 4 = .ok (.aload_n 0, 1) := by decide +kernel
theorem dX6_failure_5 : decode cX6_failure 5 = .ok (.invokevirtual 153, 3) := by decide +kernel
theorem dX6_failure_8 : decode cX6_failure 8 = .ok (.istore_n 1, 1) := by decide +kernel
theorem dX6_failure_9 : decode cX6_failure 9 = .ok (.iload_n 1, 1) := by decide +kernel
theorem dX6_failure_10 : decode cX6_failure 10 = .ok (.ifCond .ge 9, 3) := by decide +kernel
theorem dX6_failure_13 : decode cX6_failure 13 = .ok (.ldc2_w 157, 3) := by decide +kernel
theorem dX6_failure_16 : decode cX6_failure 16 = .ok (.goto 5, 3) := by decide +kernel
theorem dX6_failure_19 : decode cX6_failure 19 = .ok (.iload_n 1, 1) := by decide +kernel
theorem dX6_failure_20 : decode cX6_failure 20 = .ok (.i2l, 1) := by decide +kernel
theorem dX6_failure_21 : decode cX6_failure 21 = .ok (.lreturn, 1) := by decide +kernel
theorem dX6_rule_0 : decode cX6_rule 0 = .ok (.iload_n 1, 1) := by decide +kernel
theorem dX6_rule_1 : decode cX6_rule 1 = .ok (.iconst 0, 1) := by decide +kernel
theorem dX6_rule_2 : decode cX6_rule 2 = .ok (.bipush 6, 2) := by decide +kernel
theorem dX6_rule_4 : decode cX6_rule 4 = .ok (.invokestatic 75, 3) := by decide +kernel
theorem dX6_rule_7 : decode cX6_rule 7 = .ok (.istore_n 3, 1) := by decide +kernel
theorem dX6_rule_8 : decode cX6_rule 8 = .ok (.iload_n 3, 1) := by decide +kernel
theorem dX6_rule_9 : decode cX6_rule 9 = .ok (.ifCond .eq 67, 3) := by decide +kernel
theorem dX6_rule_12 : decode cX6_rule 12 = .ok (.iload_n 1, 1) := by decide +kernel
theorem dX6_rule_13 : decode cX6_rule 13 = .ok (.iconst 2, 1) := by decide +kernel
theorem dX6_rule_14 : decode cX6_rule 14 = .ok (.if_icmp .ge 9, 3) := by decide +kernel
theorem dX6_rule_17 : decode cX6_rule 17 = .ok (.sipush 9999, 3) := by decide +kernel
theorem dX6_rule_20 : decode cX6_rule 20 = .ok (.goto 37, 3) := by decide +kernel
theorem dX6_rule_23 : decode cX6_rule 23 = .ok (.iload_n 1, 1) := by decide +kernel
theorem dX6_rule_24 : decode cX6_rule 24 = .ok (.iconst 2, 1) := by decide +kernel
theorem dX6_rule_25 : decode cX6_rule 25 = .ok (.if_icmp .ne 8, 3) := by decide +kernel
theorem dX6_rule_28 : decode cX6_rule 28 = .ok (.bipush 100, 2) := by decide +kernel
theorem dX6_rule_30 : decode cX6_rule 30 = .ok (.goto 27, 3) := by decide +kernel
theorem dX6_rule_33 : decode cX6_rule 33 = .ok (.iload_n 1, 1) := by decide +kernel
theorem dX6_rule_34 : decode cX6_rule 34 = .ok (.iconst 3, 1) := by decide +kernel
theorem dX6_rule_35 : decode cX6_rule 35 = .ok (.if_icmp .ne 9, 3) := by decide +kernel
theorem dX6_rule_38 : decode cX6_rule 38 = .ok (.sipush 1000, 3) := by decide +kernel
theorem dX6_rule_41 : decode cX6_rule 41 = .ok (.goto 16, 3) := by decide +kernel
theorem dX6_rule_44 : decode cX6_rule 44 = .ok (.iload_n 1, 1) := by decide +kernel
theorem dX6_rule_45 : decode cX6_rule 45 = .ok (.iconst 4, 1) := by decide +kernel
theorem dX6_rule_46 : decode cX6_rule 46 = .ok (.if_icmp .ne 8, 3) := by decide +kernel
theorem dX6_rule_49 : decode cX6_rule 49 = .ok (.bipush 30, 2) := by decide +kernel
theorem dX6_rule_51 : decode cX6_rule 51 = .ok (.goto 6, 3) := by decide +kernel
theorem dX6_rule_54 : decode cX6_rule 54 = .ok (.sipush 200, 3) := by decide +kernel
theorem dX6_rule_57 : decode cX6_rule 57 = .ok (.istore 4, 2) := by decide +kernel
theorem dX6_rule_59 : decode cX6_rule 59 = .ok (.iload_n 2, 1) := by decide +kernel
theorem dX6_rule_60 : decode cX6_rule 60 = .ok (.iload_n 1, 1) := by decide +kernel
theorem dX6_rule_61 : decode cX6_rule 61 = .ok (.iconst 3, 1) := by decide +kernel
theorem dX6_rule_62 : decode cX6_rule 62 = .ok (.if_icmp .ne 7, 3) := by decide +kernel
theorem dX6_rule_65 : decode cX6_rule 65 = .ok (.iconst 1, 1) := by decide +kernel
theorem dX6_rule_66 : decode cX6_rule 66 = .ok (.goto 4, 3) := by decide +kernel
theorem dX6_rule_69 : decode cX6_rule 69 = .ok (.iconst 0, 1) := by decide +kernel
theorem dX6_rule_70 : decode cX6_rule 70 = .ok (.iload 4, 2) := by decide +kernel
theorem dX6_rule_72 : decode cX6_rule 72 = .ok (.invokestatic 75, 3) := by decide +kernel
theorem dX6_rule_75 : decode cX6_rule 75 = .ok (.istore_n 3, 1) := by decide +kernel
theorem dX6_rule_76 : decode cX6_rule 76 = .ok (.iload_n 3, 1) := by decide +kernel
theorem dX6_rule_77 : decode cX6_rule 77 = .ok (.ifCond .ne 7, 3) := by decide +kernel
theorem dX6_rule_80 : decode cX6_rule 80 = .ok (.ldc2_w 79, 3) := by decide +kernel
theorem dX6_rule_83 : decode cX6_rule 83 = .ok (.lreturn, 1) := by decide +kernel
theorem dX6_rule_84 : decode cX6_rule 84 = .ok (.aload_n 0, 1) := by decide +kernel
theorem dX6_rule_85 : decode cX6_rule 85 = .ok (.getfield 32, 3) := by decide +kernel
theorem dX6_rule_88 : decode cX6_rule 88 = .ok (.iload_n 1, 1) := by decide +kernel
theorem dX6_rule_89 : decode cX6_rule 89 = .ok (.iaload, 1) := by decide +kernel
theorem dX6_rule_90 : decode cX6_rule 90 = .ok (.istore 4, 2) := by decide +kernel
theorem dX6_rule_92 : decode cX6_rule 92 = .ok (.aload_n 0, 1) := by decide +kernel
theorem dX6_rule_93 : decode cX6_rule 93 = .ok (.getfield 32, 3) := by decide +kernel
theorem dX6_rule_96 : decode cX6_rule 96 = .ok (.iload_n 1, 1) := by decide +kernel
theorem dX6_rule_97 : decode cX6_rule 97 = .ok (.iload_n 2, 1) := by decide +kernel
theorem dX6_rule_98 : decode cX6_rule 98 = .ok (.iastore, 1) := by decide +kernel
theorem dX6_rule_99 : decode cX6_rule 99 = .ok (.iload 4, 2) := by decide +kernel
theorem dX6_rule_101 : decode cX6_rule 101 = .ok (.i2l, 1) := by decide +kernel
theorem dX6_rule_102 : decode cX6_rule 102 = .ok (.lreturn, 1) := by decide +kernel
theorem dX6_day_0 : decode cX6_day 0 = .ok (.aload_n 0, 1) := by decide +kernel
theorem dX6_day_1 : decode cX6_day 1 = .ok (.invokevirtual 143, 3) := by decide +kernel
theorem dX6_day_4 : decode cX6_day 4 = .ok (.aload_n 0, 1) := by decide +kernel
theorem dX6_day_5 : decode cX6_day 5 = .ok (.dup, 1) := by decide +kernel
theorem dX6_day_6 : decode cX6_day 6 = .ok (.getfield 159, 3) := by decide +kernel
theorem dX6_day_9 : decode cX6_day 9 = .ok (.iconst 1, 1) := by decide +kernel
theorem dX6_day_10 : decode cX6_day 10 = .ok (.iadd, 1) := by decide +kernel
theorem dX6_day_11 : decode cX6_day 11 = .ok (.putfield 159, 3) := by decide +kernel
theorem dX6_day_14 : decode cX6_day 14 = .ok (.aload_n 0, 1) := by decide +kernel
theorem dX6_day_15 : decode cX6_day 15 = .ok (.getfield 32, 3) := by decide +kernel
theorem dX6_day_18 : decode cX6_day 18 = .ok (.iconst 4, 1) := by decide +kernel
theorem dX6_day_19 : decode cX6_day 19 = .ok (.iaload, 1) := by decide +kernel
theorem dX6_day_20 : decode cX6_day 20 = .ok (.ifCond .le 21, 3) := by decide +kernel
theorem dX6_day_23 : decode cX6_day 23 = .ok (.aload_n 0, 1) := by decide +kernel
theorem dX6_day_24 : decode cX6_day 24 = .ok (.getfield 159, 3) := by decide +kernel
theorem dX6_day_27 : decode cX6_day 27 = .ok (.aload_n 0, 1) := by decide +kernel
theorem dX6_day_28 : decode cX6_day 28 = .ok (.getfield 32, 3) := by decide +kernel
theorem dX6_day_31 : decode cX6_day 31 = .ok (.iconst 4, 1) := by decide +kernel
theorem dX6_day_32 : decode cX6_day 32 = .ok (.iaload, 1) := by decide +kernel
theorem dX6_day_33 : decode cX6_day 33 = .ok (.irem, 1) := by decide +kernel
theorem dX6_day_34 : decode cX6_day 34 = .ok (.ifCond .ne 7, 3) := by decide +kernel
theorem dX6_day_37 : decode cX6_day 37 = .ok (.iconst 1, 1) := by decide +kernel
theorem dX6_day_38 : decode cX6_day 38 = .ok (.goto 4, 3) := by decide +kernel
theorem dX6_day_41 : decode cX6_day 41 = .ok (.iconst 0, 1) := by decide +kernel
theorem dX6_day_42 : decode cX6_day 42 = .ok (.istore_n 1, 1) := by decide +kernel
theorem dX6_day_43 : decode cX6_day 43 = .ok (.iconst 0, 1) := by decide +kernel
theorem dX6_day_44 : decode cX6_day 44 = .ok (.istore_n 2, 1) := by decide +kernel
theorem dX6_day_45 : decode cX6_day 45 = .ok (.iload_n 2, 1) := by decide +kernel
theorem dX6_day_46 : decode cX6_day 46 = .ok (.bipush 72, 2) := by decide +kernel
theorem dX6_day_48 : decode cX6_day 48 = .ok (.if_icmp .ge 88, 3) := by decide +kernel
theorem dX6_day_51 : decode cX6_day 51 = .ok (.aload_n 0, 1) := by decide +kernel
theorem dX6_day_52 : decode cX6_day 52 = .ok (.iload_n 2, 1) := by decide +kernel
theorem dX6_day_53 : decode cX6_day 53 = .ok (.invokevirtual 138, 3) := by decide +kernel
theorem dX6_day_56 : decode cX6_day 56 = .ok (.ifCond .eq 74, 3) := by decide +kernel
theorem dX6_day_59 : decode cX6_day 59 = .ok (.aload_n 0, 1) := by decide +kernel
theorem dX6_day_60 : decode cX6_day 60 = .ok (.getfield 20, 3) := by decide +kernel
theorem dX6_day_63 : decode cX6_day 63 = .ok (.iload_n 2, 1) := by decide +kernel
theorem dX6_day_64 : decode cX6_day 64 = .ok (.iaload, 1) := by decide +kernel
theorem dX6_day_65 : decode cX6_day 65 = .ok (.i2l, 1) := by decide +kernel
theorem dX6_day_66 : decode cX6_day 66 = .ok (.aload_n 0, 1) := by decide +kernel
theorem dX6_day_67 : decode cX6_day 67 = .ok (.getfield 57, 3) := by decide +kernel
theorem dX6_day_70 : decode cX6_day 70 = .ok (.iload_n 2, 1) := by decide +kernel
theorem dX6_day_71 : decode cX6_day 71 = .ok (.laload, 1) := by decide +kernel
theorem dX6_day_72 : decode cX6_day 72 = .ok (.aload_n 0, 1) := by decide +kernel
theorem dX6_day_73 : decode cX6_day 73 = .ok (.getfield 32, 3) := by decide +kernel
theorem dX6_day_76 : decode cX6_day 76 = .ok (.iconst 3, 1) := by decide +kernel
theorem dX6_day_77 : decode cX6_day 77 = .ok (.iaload, 1) := by decide +kernel
theorem dX6_day_78 : decode cX6_day 78 = .ok (.i2l, 1) := by decide +kernel
theorem dX6_day_79 : decode cX6_day 79 = .ok (.ldiv, 1) := by decide +kernel
theorem dX6_day_80 : decode cX6_day 80 = .ok (.ladd, 1) := by decide +kernel
theorem dX6_day_81 : decode cX6_day 81 = .ok (.lstore_n 3, 1) := by decide +kernel
theorem dX6_day_82 : decode cX6_day 82 = .ok (.aload_n 0, 1) := by decide +kernel
theorem dX6_day_83 : decode cX6_day 83 = .ok (.getfield 20, 3) := by decide +kernel
theorem dX6_day_86 : decode cX6_day 86 = .ok (.iload_n 2, 1) := by decide +kernel
theorem dX6_day_87 : decode cX6_day 87 = .ok (.lload_n 3, 1) := by decide +kernel
theorem dX6_day_88 : decode cX6_day 88 = .ok (.ldc2_w 162, 3) := by decide +kernel
theorem dX6_day_91 : decode cX6_day 91 = .ok (.lcmp, 1) := by decide +kernel
theorem dX6_day_92 : decode cX6_day 92 = .ok (.ifCond .le 8, 3) := by decide +kernel
theorem dX6_day_95 : decode cX6_day 95 = .ok (.bipush 90, 2) := by decide +kernel
theorem dX6_day_97 : decode cX6_day 97 = .ok (.goto 5, 3) := by decide +kernel
theorem dX6_day_100 : decode cX6_day 100 = .ok (.lload_n 3, 1) := by decide +kernel
theorem dX6_day_101 : decode cX6_day 101 = .ok (.l2i, 1) := by decide +kernel
theorem dX6_day_102 : decode cX6_day 102 = .ok (.iastore, 1) := by decide +kernel
theorem dX6_day_103 : decode cX6_day 103 = .ok (.aload_n 0, 1) := by decide +kernel
theorem dX6_day_104 : decode cX6_day 104 = .ok (.getfield 20, 3) := by decide +kernel
theorem dX6_day_107 : decode cX6_day 107 = .ok (.iload_n 2, 1) := by decide +kernel
theorem dX6_day_108 : decode cX6_day 108 = .ok (.iload_n 1, 1) := by decide +kernel
theorem dX6_day_109 : decode cX6_day 109 = .ok (.ifCond .eq 14, 3) := by decide +kernel
theorem dX6_day_112 : decode cX6_day 112 = .ok (.aload_n 0, 1) := by decide +kernel
theorem dX6_day_113 : decode cX6_day 113 = .ok (.getfield 20, 3) := by decide +kernel
theorem dX6_day_116 : decode cX6_day 116 = .ok (.iload_n 2, 1) := by decide +kernel
theorem dX6_day_117 : decode cX6_day 117 = .ok (.iaload, 1) := by decide +kernel
theorem dX6_day_118 : decode cX6_day 118 = .ok (.iconst 2, 1) := by decide +kernel
theorem dX6_day_119 : decode cX6_day 119 = .ok (.idiv, 1) := by decide +kernel
theorem dX6_day_120 : decode cX6_day 120 = .ok (.goto 9, 3) := by decide +kernel
theorem dX6_day_123 : decode cX6_day 123 = .ok (.aload_n 0, 1) := by decide +kernel
theorem dX6_day_124 : decode cX6_day 124 = .ok (.getfield 20, 3) := by decide +kernel
theorem dX6_day_127 : decode cX6_day 127 = .ok (.iload_n 2, 1) := by decide +kernel
theorem dX6_day_128 : decode cX6_day 128 = .ok (.iaload, 1) := by decide +kernel
theorem dX6_day_129 : decode cX6_day 129 = .ok (.iastore, 1) := by decide +kernel
theorem dX6_day_130 : decode cX6_day 130 = .ok (.iinc 2 1, 3) := by decide +kernel
theorem dX6_day_133 : decode cX6_day 133 = .ok (.goto (-88), 3) := by decide +kernel
theorem dX6_day_136 : decode cX6_day 136 = .ok (.return_, 1) := by decide +kernel
theorem dX6_days_0 : decode cX6_days 0 = .ok (.iload_n 1, 1) := by decide +kernel
theorem dX6_days_1 : decode cX6_days 1 = .ok (.iconst 1, 1) := by decide +kernel
theorem dX6_days_2 : decode cX6_days 2 = .ok (.bipush 60, 2) := by decide +kernel
theorem dX6_days_4 : decode cX6_days 4 = .ok (.invokestatic 75, 3) := by decide +kernel
theorem dX6_days_7 : decode cX6_days 7 = .ok (.ifCond .eq 15, 3) := by decide +kernel
theorem dX6_days_10 : decode cX6_days 10 = .ok (.aload_n 0, 1) := by decide +kernel
theorem dX6_days_11 : decode cX6_days 11 = .ok (.getfield 159, 3) := by decide +kernel
theorem dX6_days_14 : decode cX6_days 14 = .ok (.iload_n 1, 1) := by decide +kernel
theorem dX6_days_15 : decode cX6_days 15 = .ok (.iadd, 1) := by decide +kernel
theorem dX6_days_16 : decode cX6_days 16 = .ok (.sipush 1000, 3) := by decide +kernel
theorem dX6_days_19 : decode cX6_days 19 = .ok (.if_icmp .le 7, 3) := by decide +kernel
theorem dX6_days_22 : decode cX6_days 22 = .ok (.ldc2_w 79, 3) := by decide +kernel
theorem dX6_days_25 : decode cX6_days 25 = .ok (.lreturn, 1) := by decide +kernel
theorem dX6_days_26 : decode cX6_days 26 = .ok (.iconst 0, 1) := by decide +kernel
theorem dX6_days_27 : decode cX6_days 27 = .ok (.istore_n 2, 1) := by decide +kernel
theorem dX6_days_28 : decode cX6_days 28 = .ok (.iload_n 2, 1) := by decide +kernel
theorem dX6_days_29 : decode cX6_days 29 = .ok (.iload_n 1, 1) := by decide +kernel
theorem dX6_days_30 : decode cX6_days 30 = .ok (.if_icmp .ge 13, 3) := by decide +kernel
theorem dX6_days_33 : decode cX6_days 33 = .ok (.aload_n 0, 1) := by decide +kernel
theorem dX6_days_34 : decode cX6_days 34 = .ok (.invokevirtual 164, 3) := by decide +kernel
theorem dX6_days_37 : decode cX6_days 37 = .ok (.iinc 2 1, 3) := by decide +kernel
theorem dX6_days_40 : decode cX6_days 40 = .ok (.goto (-12), 3) := by decide +kernel
theorem dX6_days_43 : decode cX6_days 43 = .ok (.aload_n 0, 1) := by decide +kernel
theorem dX6_days_44 : decode cX6_days 44 = .ok (.getfield 159, 3) := by decide +kernel
theorem dX6_days_47 : decode cX6_days 47 = .ok (.i2l, 1) := by decide +kernel
theorem dX6_days_48 : decode cX6_days 48 = .ok (.lreturn, 1) := by decide +kernel
theorem dX6_foul_0 : decode cX6_foul 0 = .ok (.iload_n 1, 1) := by decide +kernel
theorem dX6_foul_1 : decode cX6_foul 1 = .ok (.iconst 0, 1) := by decide +kernel
theorem dX6_foul_2 : decode cX6_foul 2 = .ok (.iconst 2, 1) := by decide +kernel
theorem dX6_foul_3 : decode cX6_foul 3 = .ok (.invokestatic 75, 3) := by decide +kernel
theorem dX6_foul_6 : decode cX6_foul 6 = .ok (.ifCond .ne 7, 3) := by decide +kernel
theorem dX6_foul_9 : decode cX6_foul 9 = .ok (.ldc2_w 79, 3) := by decide +kernel
theorem dX6_foul_12 : decode cX6_foul 12 = .ok (.lreturn, 1) := by decide +kernel
theorem dX6_foul_13 : decode cX6_foul 13 = .ok (.iconst 0, 1) := by decide +kernel
theorem dX6_foul_14 : decode cX6_foul 14 = .ok (.istore_n 2, 1) := by decide +kernel
theorem dX6_foul_15 : decode cX6_foul 15 = .ok (.iconst (-1), 1) := by decide +kernel
theorem dX6_foul_16 : decode cX6_foul 16 = .ok (.istore_n 3, 1) := by decide +kernel
theorem dX6_foul_17 : decode cX6_foul 17 = .ok (.iconst 0, 1) := by decide +kernel
theorem dX6_foul_18 : decode cX6_foul 18 = .ok (.istore 4, 2) := by decide +kernel
theorem dX6_foul_20 : decode cX6_foul 20 = .ok (.iload 4, 2) := by decide +kernel
theorem dX6_foul_22 : decode cX6_foul 22 = .ok (.bipush 72, 2) := by decide +kernel
theorem dX6_foul_24 : decode cX6_foul 24 = .ok (.if_icmp .ge 55, 3) := by decide +kernel
theorem dX6_foul_27 : decode cX6_foul 27 = .ok (.aload_n 0, 1) := by decide +kernel
theorem dX6_foul_28 : decode cX6_foul 28 = .ok (.iload 4, 2) := by decide +kernel
theorem dX6_foul_30 : decode cX6_foul 30 = .ok (.invokevirtual 138, 3) := by decide +kernel
theorem dX6_foul_33 : decode cX6_foul 33 = .ok (.ifCond .eq 40, 3) := by decide +kernel
theorem dX6_foul_36 : decode cX6_foul 36 = .ok (.iload_n 2, 1) := by decide +kernel
theorem dX6_foul_37 : decode cX6_foul 37 = .ok (.aload_n 0, 1) := by decide +kernel
theorem dX6_foul_38 : decode cX6_foul 38 = .ok (.getfield 20, 3) := by decide +kernel
theorem dX6_foul_41 : decode cX6_foul 41 = .ok (.iload 4, 2) := by decide +kernel
theorem dX6_foul_43 : decode cX6_foul 43 = .ok (.iaload, 1) := by decide +kernel
theorem dX6_foul_44 : decode cX6_foul 44 = .ok (.iadd, 1) := by decide +kernel
theorem dX6_foul_45 : decode cX6_foul 45 = .ok (.istore_n 2, 1) := by decide +kernel
theorem dX6_foul_46 : decode cX6_foul 46 = .ok (.iload_n 3, 1) := by decide +kernel
theorem dX6_foul_47 : decode cX6_foul 47 = .ok (.ifCond .lt 19, 3) := by decide +kernel
theorem dX6_foul_50 : decode cX6_foul 50 = .ok (.aload_n 0, 1) := by decide +kernel
theorem dX6_foul_51 : decode cX6_foul 51 = .ok (.getfield 20, 3) := by decide +kernel
theorem dX6_foul_54 : decode cX6_foul 54 = .ok (.iload 4, 2) := by decide +kernel
theorem dX6_foul_56 : decode cX6_foul 56 = .ok (.iaload, 1) := by decide +kernel
theorem dX6_foul_57 : decode cX6_foul 57 = .ok (.aload_n 0, 1) := by decide +kernel
theorem dX6_foul_58 : decode cX6_foul 58 = .ok (.getfield 20, 3) := by decide +kernel
theorem dX6_foul_61 : decode cX6_foul 61 = .ok (.iload_n 3, 1) := by decide +kernel
theorem dX6_foul_62 : decode cX6_foul 62 = .ok (.iaload, 1) := by decide +kernel
theorem dX6_foul_63 : decode cX6_foul 63 = .ok (.if_icmp .le 8, 3) := by decide +kernel
theorem dX6_foul_66 : decode cX6_foul 66 = .ok (.iload 4, 2) := by decide +kernel
theorem dX6_foul_68 : decode cX6_foul 68 = .ok (.goto 4, 3) := by decide +kernel
theorem dX6_foul_71 : decode cX6_foul 71 = .ok (.iload_n 3, 1) := by decide +kernel
theorem dX6_foul_72 : decode cX6_foul 72 = .ok (.istore_n 3, 1) := by decide +kernel
theorem dX6_foul_73 : decode cX6_foul 73 = .ok (.iinc 4 1, 3) := by decide +kernel
theorem dX6_foul_76 : decode cX6_foul 76 = .ok (.goto (-56), 3) := by decide +kernel
theorem dX6_foul_79 : decode cX6_foul 79 = .ok (.iload_n 1, 1) := by decide +kernel
theorem dX6_foul_80 : decode cX6_foul 80 = .ok (.ifCond .ne 8, 3) := by decide +kernel
theorem dX6_foul_83 : decode cX6_foul 83 = .ok (.iload_n 2, 1) := by decide +kernel
theorem dX6_foul_84 : decode cX6_foul 84 = .ok (.i2l, 1) := by decide +kernel
theorem dX6_foul_85 : decode cX6_foul 85 = .ok (.goto 23, 3) := by decide +kernel
theorem dX6_foul_88 : decode cX6_foul 88 = .ok (.iload_n 1, 1) := by decide +kernel
theorem dX6_foul_89 : decode cX6_foul 89 = .ok (.iconst 1, 1) := by decide +kernel
theorem dX6_foul_90 : decode cX6_foul 90 = .ok (.if_icmp .ne 13, 3) := by decide +kernel
theorem dX6_foul_93 : decode cX6_foul 93 = .ok (.aload_n 0, 1) := by decide +kernel
theorem dX6_foul_94 : decode cX6_foul 94 = .ok (.getfield 20, 3) := by decide +kernel
theorem dX6_foul_97 : decode cX6_foul 97 = .ok (.iload_n 3, 1) := by decide +kernel
theorem dX6_foul_98 : decode cX6_foul 98 = .ok (.iaload, 1) := by decide +kernel
theorem dX6_foul_99 : decode cX6_foul 99 = .ok (.i2l, 1) := by decide +kernel
theorem dX6_foul_100 : decode cX6_foul 100 = .ok (.goto 8, 3) := by decide +kernel
theorem dX6_foul_103 : decode cX6_foul 103 = .ok (.iload_n 3, 1) := by decide +kernel
theorem dX6_foul_104 : decode cX6_foul 104 = .ok (.invokestatic 150, 3) := by decide +kernel
theorem dX6_foul_107 : decode cX6_foul 107 = .ok (.i2l, 1) := by decide +kernel
theorem dX6_foul_108 : decode cX6_foul 108 = .ok (.lreturn, 1) := by decide +kernel
theorem dX6_swap_0 : decode cX6_swap 0 = .ok (.aload_n 0, 1) := by decide +kernel
theorem dX6_swap_1 : decode cX6_swap 1 = .ok (.invokevirtual 143, 3) := by decide +kernel
theorem dX6_swap_4 : decode cX6_swap 4 = .ok (.aload_n 0, 1) := by decide +kernel
theorem dX6_swap_5 : decode cX6_swap 5 = .ok (.getfield 108, 3) := by decide +kernel
theorem dX6_swap_8 : decode cX6_swap 8 = .ok (.lstore_n 1, 1) := by decide +kernel
theorem dX6_swap_9 : decode cX6_swap 9 = .ok (.ldc2_w 157, 3) := by decide +kernel
theorem dX6_swap_12 : decode cX6_swap 12 = .ok (.lstore_n 3, 1) := by decide +kernel
theorem dX6_swap_13 : decode cX6_swap 13 = .ok (.iconst 0, 1) := by decide +kernel
theorem dX6_swap_14 : decode cX6_swap 14 = .ok (.istore 5, 2) := by decide +kernel
theorem dX6_swap_16 : decode cX6_swap 16 = .ok (.iload 5, 2) := by decide +kernel
theorem dX6_swap_18 : decode cX6_swap 18 = .ok (.bipush 72, 2) := by decide +kernel
theorem dX6_swap_20 : decode cX6_swap 20 = .ok (.if_icmp .ge 98, 3) := by decide +kernel
theorem dX6_swap_23 : decode cX6_swap 23 = .ok (.iload 5, 2) := by decide +kernel
theorem dX6_swap_25 : decode cX6_swap 25 = .ok (.iconst 1, 1) := by decide +kernel
theorem dX6_swap_26 : decode cX6_swap 26 = .ok (.iadd, 1) := by decide +kernel
theorem dX6_swap_27 : decode cX6_swap 27 = .ok (.istore 6, 2) := by decide +kernel
theorem dX6_swap_29 : decode cX6_swap 29 = .ok (.iload 6, 2) := by decide +kernel
theorem dX6_swap_31 : decode cX6_swap 31 = .ok (.bipush 72, 2) := by decide +kernel
theorem dX6_swap_33 : decode cX6_swap 33 = .ok (.if_icmp .ge 79, 3) := by decide +kernel
theorem dX6_swap_36 : decode cX6_swap 36 = .ok (.aload_n 0, 1) := by decide +kernel
theorem dX6_swap_37 : decode cX6_swap 37 = .ok (.iload 5, 2) := by decide +kernel
theorem dX6_swap_39 : decode cX6_swap 39 = .ok (.invokevirtual 138, 3) := by decide +kernel
theorem dX6_swap_42 : decode cX6_swap 42 = .ok (.ifCond .eq 70, 3) := by decide +kernel
theorem dX6_swap_45 : decode cX6_swap 45 = .ok (.aload_n 0, 1) := by decide +kernel
theorem dX6_swap_46 : decode cX6_swap 46 = .ok (.iload 6, 2) := by decide +kernel
theorem dX6_swap_48 : decode cX6_swap 48 = .ok (.invokevirtual 138, 3) := by decide +kernel
theorem dX6_swap_51 : decode cX6_swap 51 = .ok (.ifCond .eq 55, 3) := by decide +kernel
theorem dX6_swap_54 : decode cX6_swap 54 = .ok (.aload_n 0, 1) := by decide +kernel
theorem dX6_swap_55 : decode cX6_swap 55 = .ok (.iload 5, 2) := by decide +kernel
theorem dX6_swap_57 : decode cX6_swap 57 = .ok (.iload 6, 2) := by decide +kernel
theorem dX6_swap_59 : decode cX6_swap 59 = .ok (.invokevirtual 96, 3) := by decide +kernel
theorem dX6_swap_62 : decode cX6_swap 62 = .ok (.aload_n 0, 1) := by decide +kernel
theorem dX6_swap_63 : decode cX6_swap 63 = .ok (.invokevirtual 143, 3) := by decide +kernel
theorem dX6_swap_66 : decode cX6_swap 66 = .ok (.aload_n 0, 1) := by decide +kernel
theorem dX6_swap_67 : decode cX6_swap 67 = .ok (.iload 5, 2) := by decide +kernel
theorem dX6_swap_69 : decode cX6_swap 69 = .ok (.iload 6, 2) := by decide +kernel
theorem dX6_swap_71 : decode cX6_swap 71 = .ok (.invokevirtual 96, 3) := by decide +kernel
theorem dX6_swap_74 : decode cX6_swap 74 = .ok (.aload_n 0, 1) := by decide +kernel
theorem dX6_swap_75 : decode cX6_swap 75 = .ok (.getfield 108, 3) := by decide +kernel
theorem dX6_swap_78 : decode cX6_swap 78 = .ok (.lload_n 1, 1) := by decide +kernel
theorem dX6_swap_79 : decode cX6_swap 79 = .ok (.lcmp, 1) := by decide +kernel
theorem dX6_swap_80 : decode cX6_swap 80 = .ok (.ifCond .le 26, 3) := by decide +kernel
theorem dX6_swap_83 : decode cX6_swap 83 = .ok (.aload_n 0, 1) := by decide +kernel
theorem dX6_swap_84 : decode cX6_swap 84 = .ok (.getfield 108, 3) := by decide +kernel
theorem dX6_swap_87 : decode cX6_swap 87 = .ok (.lstore_n 1, 1) := by decide +kernel
theorem dX6_swap_88 : decode cX6_swap 88 = .ok (.ldc2_w 106, 3) := by decide +kernel
theorem dX6_swap_91 : decode cX6_swap 91 = .ok (.iload 5, 2) := by decide +kernel
theorem dX6_swap_93 : decode cX6_swap 93 = .ok (.invokestatic 150, 3) := by decide +kernel
theorem dX6_swap_96 : decode cX6_swap 96 = .ok (.i2l, 1) := by decide +kernel
theorem dX6_swap_97 : decode cX6_swap 97 = .ok (.lmul, 1) := by decide +kernel
theorem dX6_swap_98 : decode cX6_swap 98 = .ok (.iload 6, 2) := by decide +kernel
theorem dX6_swap_100 : decode cX6_swap 100 = .ok (.invokestatic 150, 3) := by decide +kernel
theorem dX6_swap_103 : decode cX6_swap 103 = .ok (.i2l, 1) := by decide +kernel
theorem dX6_swap_104 : decode cX6_swap 104 = .ok (.ladd, 1) := by decide +kernel
theorem dX6_swap_105 : decode cX6_swap 105 = .ok (.lstore_n 3, 1) := by decide +kernel
theorem dX6_swap_106 : decode cX6_swap 106 = .ok (.iinc 6 1, 3) := by decide +kernel
theorem dX6_swap_109 : decode cX6_swap 109 = .ok (.goto (-80), 3) := by decide +kernel
theorem dX6_swap_112 : decode cX6_swap 112 = .ok (.iinc 5 1, 3) := by decide +kernel
theorem dX6_swap_115 : decode cX6_swap 115 = .ok (.goto (-99), 3) := by decide +kernel
theorem dX6_swap_118 : decode cX6_swap 118 = .ok (.lload_n 3, 1) := by decide +kernel
theorem dX6_swap_119 : decode cX6_swap 119 = .ok (.lreturn, 1) := by decide +kernel
theorem dX6_array_0 : decode cX6_array 0 = .ok (.iload_n 1, 1) := by decide +kernel
theorem dX6_array_1 : decode cX6_array 1 = .ok (.iconst 0, 1) := by decide +kernel
theorem dX6_array_2 : decode cX6_array 2 = .ok (.ldc 167, 2) := by decide +kernel
theorem dX6_array_4 : decode cX6_array 4 = .ok (.invokestatic 75, 3) := by decide +kernel
theorem dX6_array_7 : decode cX6_array 7 = .ok (.ifCond .eq 13, 3) := by decide +kernel
theorem dX6_array_10 : decode cX6_array 10 = .ok (.iload_n 2, 1) := by decide +kernel
theorem dX6_array_11 : decode cX6_array 11 = .ok (.iconst 0, 1) := by decide +kernel
theorem dX6_array_12 : decode cX6_array 12 = .ok (.ldc 95, 2) := by decide +kernel
theorem dX6_array_14 : decode cX6_array 14 = .ok (.invokestatic 75, 3) := by decide +kernel
theorem dX6_array_17 : decode cX6_array 17 = .ok (.ifCond .ne 7, 3) := by decide +kernel
theorem dX6_array_20 : decode cX6_array 20 = .ok (.ldc2_w 79, 3) := by decide +kernel
theorem dX6_array_23 : decode cX6_array 23 = .ok (.lreturn, 1) := by decide +kernel
theorem dX6_array_24 : decode cX6_array 24 = .ok (.iconst 0, 1) := by decide +kernel
theorem dX6_array_25 : decode cX6_array 25 = .ok (.istore_n 3, 1) := by decide +kernel
theorem dX6_array_26 : decode cX6_array 26 = .ok (.iload_n 3, 1) := by decide +kernel
theorem dX6_array_27 : decode cX6_array 27 = .ok (.iconst 3, 1) := by decide +kernel
theorem dX6_array_28 : decode cX6_array 28 = .ok (.if_icmp .ge 21, 3) := by decide +kernel
theorem dX6_array_31 : decode cX6_array 31 = .ok (.aload_n 0, 1) := by decide +kernel
theorem dX6_array_32 : decode cX6_array 32 = .ok (.getfield 63, 3) := by decide +kernel
theorem dX6_array_35 : decode cX6_array 35 = .ok (.iload_n 3, 1) := by decide +kernel
theorem dX6_array_36 : decode cX6_array 36 = .ok (.aload_n 0, 1) := by decide +kernel
theorem dX6_array_37 : decode cX6_array 37 = .ok (.getfield 7, 3) := by decide +kernel
theorem dX6_array_40 : decode cX6_array 40 = .ok (.iload_n 3, 1) := by decide +kernel
theorem dX6_array_41 : decode cX6_array 41 = .ok (.iaload, 1) := by decide +kernel
theorem dX6_array_42 : decode cX6_array 42 = .ok (.iastore, 1) := by decide +kernel
theorem dX6_array_43 : decode cX6_array 43 = .ok (.iinc 3 1, 3) := by decide +kernel
theorem dX6_array_46 : decode cX6_array 46 = .ok (.goto (-20), 3) := by decide +kernel
theorem dX6_array_49 : decode cX6_array 49 = .ok (.ldc2_w 141, 3) := by decide +kernel
theorem dX6_array_52 : decode cX6_array 52 = .ok (.lstore_n 3, 1) := by decide +kernel
theorem dX6_array_53 : decode cX6_array 53 = .ok (.lconst 0, 1) := by decide +kernel
theorem dX6_array_54 : decode cX6_array 54 = .ok (.lstore 5, 2) := by decide +kernel
theorem dX6_array_56 : decode cX6_array 56 = .ok (.bipush 100, 2) := by decide +kernel
theorem dX6_array_58 : decode cX6_array 58 = .ok (.istore 7, 2) := by decide +kernel
theorem dX6_array_60 : decode cX6_array 60 = .ok (.iload 7, 2) := by decide +kernel
theorem dX6_array_62 : decode cX6_array 62 = .ok (.sipush 900, 3) := by decide +kernel
theorem dX6_array_65 : decode cX6_array 65 = .ok (.if_icmp .gt 199, 3) := by decide +kernel
theorem dX6_array_68 : decode cX6_array 68 = .ok (.iconst 0, 1) := by decide +kernel
theorem dX6_array_69 : decode cX6_array 69 = .ok (.istore 8, 2) := by decide +kernel
theorem dX6_array_71 : decode cX6_array 71 = .ok (.iload 8, 2) := by decide +kernel
theorem dX6_array_73 : decode cX6_array 73 = .ok (.bipush 100, 2) := by decide +kernel
theorem dX6_array_75 : decode cX6_array 75 = .ok (.if_icmp .ge 183, 3) := by decide +kernel
theorem dX6_array_78 : decode cX6_array 78 = .ok (.aload_n 0, 1) := by decide +kernel
theorem dX6_array_79 : decode cX6_array 79 = .ok (.getfield 7, 3) := by decide +kernel
theorem dX6_array_82 : decode cX6_array 82 = .ok (.iconst 0, 1) := by decide +kernel
theorem dX6_array_83 : decode cX6_array 83 = .ok (.iconst 1, 1) := by decide +kernel
theorem dX6_array_84 : decode cX6_array 84 = .ok (.iload 8, 2) := by decide +kernel
theorem dX6_array_86 : decode cX6_array 86 = .ok (.bipush 25, 2) := by decide +kernel
theorem dX6_array_88 : decode cX6_array 88 = .ok (.idiv, 1) := by decide +kernel
theorem dX6_array_89 : decode cX6_array 89 = .ok (.iadd, 1) := by decide +kernel
theorem dX6_array_90 : decode cX6_array 90 = .ok (.iastore, 1) := by decide +kernel
theorem dX6_array_91 : decode cX6_array 91 = .ok (.aload_n 0, 1) := by decide +kernel
theorem dX6_array_92 : decode cX6_array 92 = .ok (.getfield 7, 3) := by decide +kernel
theorem dX6_array_95 : decode cX6_array 95 = .ok (.iconst 1, 1) := by decide +kernel
theorem dX6_array_96 : decode cX6_array 96 = .ok (.iload 8, 2) := by decide +kernel
theorem dX6_array_98 : decode cX6_array 98 = .ok (.iconst 5, 1) := by decide +kernel
theorem dX6_array_99 : decode cX6_array 99 = .ok (.idiv, 1) := by decide +kernel
theorem dX6_array_100 : decode cX6_array 100 = .ok (.iconst 5, 1) := by decide +kernel
theorem dX6_array_101 : decode cX6_array 101 = .ok (.irem, 1) := by decide +kernel
theorem dX6_array_102 : decode cX6_array 102 = .ok (.iastore, 1) := by decide +kernel
theorem dX6_array_103 : decode cX6_array 103 = .ok (.aload_n 0, 1) := by decide +kernel
theorem dX6_array_104 : decode cX6_array 104 = .ok (.getfield 7, 3) := by decide +kernel
theorem dX6_array_107 : decode cX6_array 107 = .ok (.iconst 2, 1) := by decide +kernel
theorem dX6_array_108 : decode cX6_array 108 = .ok (.iload 8, 2) := by decide +kernel
theorem dX6_array_110 : decode cX6_array 110 = .ok (.iconst 5, 1) := by decide +kernel
theorem dX6_array_111 : decode cX6_array 111 = .ok (.irem, 1) := by decide +kernel
theorem dX6_array_112 : decode cX6_array 112 = .ok (.iastore, 1) := by decide +kernel
theorem dX6_array_113 : decode cX6_array 113 = .ok (.aload_n 0, 1) := by decide +kernel
theorem dX6_array_114 : decode cX6_array 114 = .ok (.getfield 7, 3) := by decide +kernel
theorem dX6_array_117 : decode cX6_array 117 = .ok (.iconst 1, 1) := by decide +kernel
theorem dX6_array_118 : decode cX6_array 118 = .ok (.iaload, 1) := by decide +kernel
theorem dX6_array_119 : decode cX6_array 119 = .ok (.ifCond .ne 15, 3) := by decide +kernel
theorem dX6_array_122 : decode cX6_array 122 = .ok (.aload_n 0, 1) := by decide +kernel
theorem dX6_array_123 : decode cX6_array 123 = .ok (.getfield 7, 3) := by decide +kernel
theorem dX6_array_126 : decode cX6_array 126 = .ok (.iconst 2, 1) := by decide +kernel
theorem dX6_array_127 : decode cX6_array 127 = .ok (.iaload, 1) := by decide +kernel
theorem dX6_array_128 : decode cX6_array 128 = .ok (.ifCond .le 6, 3) := by decide +kernel
theorem dX6_array_131 : decode cX6_array 131 = .ok (.goto 121, 3) := by decide +kernel
theorem dX6_array_134 : decode cX6_array 134 = .ok (.aload_n 0, 1) := by decide +kernel
theorem dX6_array_135 : decode cX6_array 135 = .ok (.iload 7, 2) := by decide +kernel
theorem dX6_array_137 : decode cX6_array 137 = .ok (.invokevirtual 134, 3) := by decide +kernel
theorem dX6_array_140 : decode cX6_array 140 = .ok (.aload_n 0, 1) := by decide +kernel
theorem dX6_array_141 : decode cX6_array 141 = .ok (.invokevirtual 153, 3) := by decide +kernel
theorem dX6_array_144 : decode cX6_array 144 = .ok (.ifCond .ge 32, 3) := by decide +kernel
theorem dX6_array_147 : decode cX6_array 147 = .ok (.aload_n 0, 1) := by decide +kernel
theorem dX6_array_148 : decode cX6_array 148 = .ok (.getfield 108, 3) := by decide +kernel
theorem dX6_array_151 : decode cX6_array 151 = .ok (.iload_n 1, 1) := by decide +kernel
theorem dX6_array_152 : decode cX6_array 152 = .ok (.i2l, 1) := by decide +kernel
theorem dX6_array_153 : decode cX6_array 153 = .ok (.lcmp, 1) := by decide +kernel
theorem dX6_array_154 : decode cX6_array 154 = .ok (.ifCond .lt 22, 3) := by decide +kernel
theorem dX6_array_157 : decode cX6_array 157 = .ok (.aload_n 0, 1) := by decide +kernel
theorem dX6_array_158 : decode cX6_array 158 = .ok (.getfield 112, 3) := by decide +kernel
theorem dX6_array_161 : decode cX6_array 161 = .ok (.iload_n 2, 1) := by decide +kernel
theorem dX6_array_162 : decode cX6_array 162 = .ok (.i2l, 1) := by decide +kernel
theorem dX6_array_163 : decode cX6_array 163 = .ok (.aload_n 0, 1) := by decide +kernel
theorem dX6_array_164 : decode cX6_array 164 = .ok (.getfield 108, 3) := by decide +kernel
theorem dX6_array_167 : decode cX6_array 167 = .ok (.lmul, 1) := by decide +kernel
theorem dX6_array_168 : decode cX6_array 168 = .ok (.lcmp, 1) := by decide +kernel
theorem dX6_array_169 : decode cX6_array 169 = .ok (.ifCond .gt 7, 3) := by decide +kernel
theorem dX6_array_172 : decode cX6_array 172 = .ok (.iconst 1, 1) := by decide +kernel
theorem dX6_array_173 : decode cX6_array 173 = .ok (.goto 4, 3) := by decide +kernel
theorem dX6_array_176 : decode cX6_array 176 = .ok (.iconst 0, 1) := by decide +kernel
theorem dX6_array_177 : decode cX6_array 177 = .ok (.istore 9, 2) := by decide +kernel
theorem dX6_array_179 : decode cX6_array 179 = .ok (.iload 9, 2) := by decide +kernel
theorem dX6_array_181 : decode cX6_array 181 = .ok (.ifCond .eq 71, 3) := by decide +kernel
theorem dX6_array_184 : decode cX6_array 184 = .ok (.lload_n 3, 1) := by decide +kernel
theorem dX6_array_185 : decode cX6_array 185 = .ok (.ldc2_w 141, 3) := by decide +kernel
theorem dX6_array_188 : decode cX6_array 188 = .ok (.lcmp, 1) := by decide +kernel
theorem dX6_array_189 : decode cX6_array 189 = .ok (.ifCond .eq 15, 3) := by decide +kernel
theorem dX6_array_192 : decode cX6_array 192 = .ok (.aload_n 0, 1) := by decide +kernel
theorem dX6_array_193 : decode cX6_array 193 = .ok (.iload 7, 2) := by decide +kernel
theorem dX6_array_195 : decode cX6_array 195 = .ok (.invokevirtual 146, 3) := by decide +kernel
theorem dX6_array_198 : decode cX6_array 198 = .ok (.lload 5, 2) := by decide +kernel
theorem dX6_array_200 : decode cX6_array 200 = .ok (.lcmp, 1) := by decide +kernel
theorem dX6_array_201 : decode cX6_array 201 = .ok (.ifCond .ge 51, 3) := by decide +kernel
theorem dX6_array_204 : decode cX6_array 204 = .ok (.aload_n 0, 1) := by decide +kernel
theorem dX6_array_205 : decode cX6_array 205 = .ok (.iload 7, 2) := by decide +kernel
theorem dX6_array_207 : decode cX6_array 207 = .ok (.invokevirtual 146, 3) := by decide +kernel
theorem dX6_array_210 : decode cX6_array 210 = .ok (.lstore 5, 2) := by decide +kernel
theorem dX6_array_212 : decode cX6_array 212 = .ok (.ldc2_w 106, 3) := by decide +kernel
theorem dX6_array_215 : decode cX6_array 215 = .ok (.iload 7, 2) := by decide +kernel
theorem dX6_array_217 : decode cX6_array 217 = .ok (.i2l, 1) := by decide +kernel
theorem dX6_array_218 : decode cX6_array 218 = .ok (.lmul, 1) := by decide +kernel
theorem dX6_array_219 : decode cX6_array 219 = .ok (.ldc2_w 104, 3) := by decide +kernel
theorem dX6_array_222 : decode cX6_array 222 = .ok (.aload_n 0, 1) := by decide +kernel
theorem dX6_array_223 : decode cX6_array 223 = .ok (.getfield 7, 3) := by decide +kernel
theorem dX6_array_226 : decode cX6_array 226 = .ok (.iconst 0, 1) := by decide +kernel
theorem dX6_array_227 : decode cX6_array 227 = .ok (.iaload, 1) := by decide +kernel
theorem dX6_array_228 : decode cX6_array 228 = .ok (.i2l, 1) := by decide +kernel
theorem dX6_array_229 : decode cX6_array 229 = .ok (.lmul, 1) := by decide +kernel
theorem dX6_array_230 : decode cX6_array 230 = .ok (.ladd, 1) := by decide +kernel
theorem dX6_array_231 : decode cX6_array 231 = .ok (.ldc2_w 168, 3) := by decide +kernel
theorem dX6_array_234 : decode cX6_array 234 = .ok (.aload_n 0, 1) := by decide +kernel
theorem dX6_array_235 : decode cX6_array 235 = .ok (.getfield 7, 3) := by decide +kernel
theorem dX6_array_238 : decode cX6_array 238 = .ok (.iconst 1, 1) := by decide +kernel
theorem dX6_array_239 : decode cX6_array 239 = .ok (.iaload, 1) := by decide +kernel
theorem dX6_array_240 : decode cX6_array 240 = .ok (.i2l, 1) := by decide +kernel
theorem dX6_array_241 : decode cX6_array 241 = .ok (.lmul, 1) := by decide +kernel
theorem dX6_array_242 : decode cX6_array 242 = .ok (.ladd, 1) := by decide +kernel
theorem dX6_array_243 : decode cX6_array 243 = .ok (.aload_n 0, 1) := by decide +kernel
theorem dX6_array_244 : decode cX6_array 244 = .ok (.getfield 7, 3) := by decide +kernel
theorem dX6_array_247 : decode cX6_array 247 = .ok (.iconst 2, 1) := by decide +kernel
theorem dX6_array_248 : decode cX6_array 248 = .ok (.iaload, 1) := by decide +kernel
theorem dX6_array_249 : decode cX6_array 249 = .ok (.i2l, 1) := by decide +kernel
theorem dX6_array_250 : decode cX6_array 250 = .ok (.ladd, 1) := by decide +kernel
theorem dX6_array_251 : decode cX6_array 251 = .ok (.lstore_n 3, 1) := by decide +kernel
theorem dX6_array_252 : decode cX6_array 252 = .ok (.iinc 8 1, 3) := by decide +kernel
theorem dX6_array_255 : decode cX6_array 255 = .ok (.goto (-184), 3) := by decide +kernel
theorem dX6_array_258 : decode cX6_array 258 = .ok (.iinc 7 100, 3) := by decide +kernel
theorem dX6_array_261 : decode cX6_array 261 = .ok (.goto (-201), 3) := by decide +kernel
theorem dX6_array_264 : decode cX6_array 264 = .ok (.iconst 0, 1) := by decide +kernel
theorem dX6_array_265 : decode cX6_array 265 = .ok (.istore 7, 2) := by decide +kernel
theorem dX6_array_267 : decode cX6_array 267 = .ok (.iload 7, 2) := by decide +kernel
theorem dX6_array_269 : decode cX6_array 269 = .ok (.iconst 3, 1) := by decide +kernel
theorem dX6_array_270 : decode cX6_array 270 = .ok (.if_icmp .ge 23, 3) := by decide +kernel
theorem dX6_array_273 : decode cX6_array 273 = .ok (.aload_n 0, 1) := by decide +kernel
theorem dX6_array_274 : decode cX6_array 274 = .ok (.getfield 7, 3) := by decide +kernel
theorem dX6_array_277 : decode cX6_array 277 = .ok (.iload 7, 2) := by decide +kernel
theorem dX6_array_279 : decode cX6_array 279 = .ok (.aload_n 0, 1) := by decide +kernel
theorem dX6_array_280 : decode cX6_array 280 = .ok (.getfield 63, 3) := by decide +kernel
theorem dX6_array_283 : decode cX6_array 283 = .ok (.iload 7, 2) := by decide +kernel
theorem dX6_array_285 : decode cX6_array 285 = .ok (.iaload, 1) := by decide +kernel
theorem dX6_array_286 : decode cX6_array 286 = .ok (.iastore, 1) := by decide +kernel
theorem dX6_array_287 : decode cX6_array 287 = .ok (.iinc 7 1, 3) := by decide +kernel
theorem dX6_array_290 : decode cX6_array 290 = .ok (.goto (-23), 3) := by decide +kernel
theorem dX6_array_293 : decode cX6_array 293 = .ok (.lload_n 3, 1) := by decide +kernel
theorem dX6_array_294 : decode cX6_array 294 = .ok (.lreturn, 1) := by decide +kernel
theorem dX6_hour_0 : decode cX6_hour 0 = .ok (.iload_n 1, 1) := by decide +kernel
theorem dX6_hour_1 : decode cX6_hour 1 = .ok (.iconst 0, 1) := by decide +kernel
theorem dX6_hour_2 : decode cX6_hour 2 = .ok (.bipush 11, 2) := by decide +kernel
theorem dX6_hour_4 : decode cX6_hour 4 = .ok (.invokestatic 75, 3) := by decide +kernel
theorem dX6_hour_7 : decode cX6_hour 7 = .ok (.ifCond .eq 32, 3) := by decide +kernel
theorem dX6_hour_10 : decode cX6_hour 10 = .ok (.iload_n 2, 1) := by decide +kernel
theorem dX6_hour_11 : decode cX6_hour 11 = .ok (.iconst 0, 1) := by decide +kernel
theorem dX6_hour_12 : decode cX6_hour 12 = .ok (.iconst 1, 1) := by decide +kernel
theorem dX6_hour_13 : decode cX6_hour 13 = .ok (.invokestatic 75, 3) := by decide +kernel
theorem dX6_hour_16 : decode cX6_hour 16 = .ok (.ifCond .eq 23, 3) := by decide +kernel
theorem dX6_hour_19 : decode cX6_hour 19 = .ok (.iload_n 3, 1) := by decide +kernel
theorem dX6_hour_20 : decode cX6_hour 20 = .ok (.iconst 0, 1) := by decide +kernel
theorem dX6_hour_21 : decode cX6_hour 21 = .ok (.iload_n 2, 1) := by decide +kernel
theorem dX6_hour_22 : decode cX6_hour 22 = .ok (.ifCond .ne 8, 3) := by decide +kernel
theorem dX6_hour_25 : decode cX6_hour 25 = .ok (.bipush 99, 2) := by decide +kernel
theorem dX6_hour_27 : decode cX6_hour 27 = .ok (.goto 6, 3) := by decide +kernel
theorem dX6_hour_30 : decode cX6_hour 30 = .ok (.sipush 999, 3) := by decide +kernel
theorem dX6_hour_33 : decode cX6_hour 33 = .ok (.invokestatic 75, 3) := by decide +kernel
theorem dX6_hour_36 : decode cX6_hour 36 = .ok (.ifCond .ne 7, 3) := by decide +kernel
end
section
theorem dX6_hour_39 : decode cX6_hour 39 = .ok (.ldc2_w 79, 3) := by decide +kernel
theorem dX6_hour_42 : decode cX6_hour 42 = .ok (.lreturn, 1) := by decide +kernel
theorem dX6_hour_43 : decode cX6_hour 43 = .ok (.iload_n 2, 1) := by decide +kernel
theorem dX6_hour_44 : decode cX6_hour 44 = .ok (.ifCond .ne 12, 3) := by decide +kernel
theorem dX6_hour_47 : decode cX6_hour 47 = .ok (.aload_n 0, 1) := by decide +kernel
theorem dX6_hour_48 : decode cX6_hour 48 = .ok (.getfield 35, 3) := by decide +kernel
theorem dX6_hour_51 : decode cX6_hour 51 = .ok (.iload_n 1, 1) := by decide +kernel
theorem dX6_hour_52 : decode cX6_hour 52 = .ok (.iaload, 1) := by decide +kernel
theorem dX6_hour_53 : decode cX6_hour 53 = .ok (.goto 9, 3) := by decide +kernel
theorem dX6_hour_56 : decode cX6_hour 56 = .ok (.aload_n 0, 1) := by decide +kernel
theorem dX6_hour_57 : decode cX6_hour 57 = .ok (.getfield 38, 3) := by decide +kernel
theorem dX6_hour_60 : decode cX6_hour 60 = .ok (.iload_n 1, 1) := by decide +kernel
theorem dX6_hour_61 : decode cX6_hour 61 = .ok (.iaload, 1) := by decide +kernel
theorem dX6_hour_62 : decode cX6_hour 62 = .ok (.istore 4, 2) := by decide +kernel
theorem dX6_hour_64 : decode cX6_hour 64 = .ok (.iload_n 2, 1) := by decide +kernel
theorem dX6_hour_65 : decode cX6_hour 65 = .ok (.ifCond .ne 13, 3) := by decide +kernel
theorem dX6_hour_68 : decode cX6_hour 68 = .ok (.aload_n 0, 1) := by decide +kernel
theorem dX6_hour_69 : decode cX6_hour 69 = .ok (.getfield 35, 3) := by decide +kernel
theorem dX6_hour_72 : decode cX6_hour 72 = .ok (.iload_n 1, 1) := by decide +kernel
theorem dX6_hour_73 : decode cX6_hour 73 = .ok (.iload_n 3, 1) := by decide +kernel
theorem dX6_hour_74 : decode cX6_hour 74 = .ok (.iastore, 1) := by decide +kernel
theorem dX6_hour_75 : decode cX6_hour 75 = .ok (.goto 10, 3) := by decide +kernel
theorem dX6_hour_78 : decode cX6_hour 78 = .ok (.aload_n 0, 1) := by decide +kernel
theorem dX6_hour_79 : decode cX6_hour 79 = .ok (.getfield 38, 3) := by decide +kernel
theorem dX6_hour_82 : decode cX6_hour 82 = .ok (.iload_n 1, 1) := by decide +kernel
theorem dX6_hour_83 : decode cX6_hour 83 = .ok (.iload_n 3, 1) := by decide +kernel
theorem dX6_hour_84 : decode cX6_hour 84 = .ok (.iastore, 1) := by decide +kernel
theorem dX6_hour_85 : decode cX6_hour 85 = .ok (.iload 4, 2) := by decide +kernel
theorem dX6_hour_87 : decode cX6_hour 87 = .ok (.i2l, 1) := by decide +kernel
theorem dX6_hour_88 : decode cX6_hour 88 = .ok (.lreturn, 1) := by decide +kernel
theorem dX6_isSheet_0 : decode cX6_isSheet 0 = .ok (.iload_n 0, 1) := by decide +kernel
theorem dX6_isSheet_1 : decode cX6_isSheet 1 = .ok (.iconst 0, 1) := by decide +kernel
theorem dX6_isSheet_2 : decode cX6_isSheet 2 = .ok (.iconst 1, 1) := by decide +kernel
theorem dX6_isSheet_3 : decode cX6_isSheet 3 = .ok (.invokestatic 75, 3) := by decide +kernel
theorem dX6_isSheet_6 : decode cX6_isSheet 6 = .ok (.ireturn, 1) := by decide +kernel
theorem dX6_lay_0 : decode cX6_lay 0 = .ok (.iload_n 1, 1) := by decide +kernel
theorem dX6_lay_1 : decode cX6_lay 1 = .ok (.iconst 0, 1) := by decide +kernel
theorem dX6_lay_2 : decode cX6_lay 2 = .ok (.iconst 1, 1) := by decide +kernel
theorem dX6_lay_3 : decode cX6_lay 3 = .ok (.invokestatic 75, 3) := by decide +kernel
theorem dX6_lay_6 : decode cX6_lay 6 = .ok (.ifCond .eq 10, 3) := by decide +kernel
theorem dX6_lay_9 : decode cX6_lay 9 = .ok (.iload_n 2, 1) := by decide +kernel
theorem dX6_lay_10 : decode cX6_lay 10 = .ok (.invokestatic 170, 3) := by decide +kernel
theorem dX6_lay_13 : decode cX6_lay 13 = .ok (.ifCond .ne 7, 3) := by decide +kernel
theorem dX6_lay_16 : decode cX6_lay 16 = .ok (.ldc2_w 79, 3) := by decide +kernel
theorem dX6_lay_19 : decode cX6_lay 19 = .ok (.lreturn, 1) := by decide +kernel
theorem dX6_lay_20 : decode cX6_lay 20 = .ok (.aload_n 0, 1) := by decide +kernel
theorem dX6_lay_21 : decode cX6_lay 21 = .ok (.getfield 41, 3) := by decide +kernel
theorem dX6_lay_24 : decode cX6_lay 24 = .ok (.iload_n 2, 1) := by decide +kernel
theorem dX6_lay_25 : decode cX6_lay 25 = .ok (.iaload, 1) := by decide +kernel
theorem dX6_lay_26 : decode cX6_lay 26 = .ok (.ifCond .ge 7, 3) := by decide +kernel
theorem dX6_lay_29 : decode cX6_lay 29 = .ok (.ldc2_w 173, 3) := by decide +kernel
theorem dX6_lay_32 : decode cX6_lay 32 = .ok (.lreturn, 1) := by decide +kernel
theorem dX6_lay_33 : decode cX6_lay 33 = .ok (.iconst 0, 1) := by decide +kernel
theorem dX6_lay_34 : decode cX6_lay 34 = .ok (.istore_n 3, 1) := by decide +kernel
theorem dX6_lay_35 : decode cX6_lay 35 = .ok (.iload_n 3, 1) := by decide +kernel
theorem dX6_lay_36 : decode cX6_lay 36 = .ok (.bipush 12, 2) := by decide +kernel
theorem dX6_lay_38 : decode cX6_lay 38 = .ok (.if_icmp .ge 88, 3) := by decide +kernel
theorem dX6_lay_41 : decode cX6_lay 41 = .ok (.iload_n 3, 1) := by decide +kernel
theorem dX6_lay_42 : decode cX6_lay 42 = .ok (.aload_n 0, 1) := by decide +kernel
theorem dX6_lay_43 : decode cX6_lay 43 = .ok (.getfield 41, 3) := by decide +kernel
theorem dX6_lay_46 : decode cX6_lay 46 = .ok (.iload_n 2, 1) := by decide +kernel
theorem dX6_lay_47 : decode cX6_lay 47 = .ok (.iaload, 1) := by decide +kernel
theorem dX6_lay_48 : decode cX6_lay 48 = .ok (.if_icmp .ge 17, 3) := by decide +kernel
theorem dX6_lay_51 : decode cX6_lay 51 = .ok (.aload_n 0, 1) := by decide +kernel
theorem dX6_lay_52 : decode cX6_lay 52 = .ok (.getfield 44, 3) := by decide +kernel
theorem dX6_lay_55 : decode cX6_lay 55 = .ok (.bipush 24, 2) := by decide +kernel
theorem dX6_lay_57 : decode cX6_lay 57 = .ok (.iload_n 2, 1) := by decide +kernel
theorem dX6_lay_58 : decode cX6_lay 58 = .ok (.imul, 1) := by decide +kernel
theorem dX6_lay_59 : decode cX6_lay 59 = .ok (.iload_n 3, 1) := by decide +kernel
theorem dX6_lay_60 : decode cX6_lay 60 = .ok (.iadd, 1) := by decide +kernel
theorem dX6_lay_61 : decode cX6_lay 61 = .ok (.iaload, 1) := by decide +kernel
theorem dX6_lay_62 : decode cX6_lay 62 = .ok (.goto 4, 3) := by decide +kernel
theorem dX6_lay_65 : decode cX6_lay 65 = .ok (.iconst 0, 1) := by decide +kernel
theorem dX6_lay_66 : decode cX6_lay 66 = .ok (.istore 4, 2) := by decide +kernel
theorem dX6_lay_68 : decode cX6_lay 68 = .ok (.iload 4, 2) := by decide +kernel
theorem dX6_lay_70 : decode cX6_lay 70 = .ok (.iconst 0, 1) := by decide +kernel
theorem dX6_lay_71 : decode cX6_lay 71 = .ok (.iload_n 1, 1) := by decide +kernel
theorem dX6_lay_72 : decode cX6_lay 72 = .ok (.ifCond .ne 8, 3) := by decide +kernel
theorem dX6_lay_75 : decode cX6_lay 75 = .ok (.bipush 99, 2) := by decide +kernel
theorem dX6_lay_77 : decode cX6_lay 77 = .ok (.goto 6, 3) := by decide +kernel
theorem dX6_lay_80 : decode cX6_lay 80 = .ok (.sipush 999, 3) := by decide +kernel
theorem dX6_lay_83 : decode cX6_lay 83 = .ok (.invokestatic 75, 3) := by decide +kernel
theorem dX6_lay_86 : decode cX6_lay 86 = .ok (.ifCond .eq 8, 3) := by decide +kernel
theorem dX6_lay_89 : decode cX6_lay 89 = .ok (.iload 4, 2) := by decide +kernel
theorem dX6_lay_91 : decode cX6_lay 91 = .ok (.goto 4, 3) := by decide +kernel
theorem dX6_lay_94 : decode cX6_lay 94 = .ok (.iconst 0, 1) := by decide +kernel
theorem dX6_lay_95 : decode cX6_lay 95 = .ok (.istore 4, 2) := by decide +kernel
theorem dX6_lay_97 : decode cX6_lay 97 = .ok (.iload_n 1, 1) := by decide +kernel
theorem dX6_lay_98 : decode cX6_lay 98 = .ok (.ifCond .ne 14, 3) := by decide +kernel
theorem dX6_lay_101 : decode cX6_lay 101 = .ok (.aload_n 0, 1) := by decide +kernel
theorem dX6_lay_102 : decode cX6_lay 102 = .ok (.getfield 35, 3) := by decide +kernel
theorem dX6_lay_105 : decode cX6_lay 105 = .ok (.iload_n 3, 1) := by decide +kernel
theorem dX6_lay_106 : decode cX6_lay 106 = .ok (.iload 4, 2) := by decide +kernel
theorem dX6_lay_108 : decode cX6_lay 108 = .ok (.iastore, 1) := by decide +kernel
theorem dX6_lay_109 : decode cX6_lay 109 = .ok (.goto 11, 3) := by decide +kernel
theorem dX6_lay_112 : decode cX6_lay 112 = .ok (.aload_n 0, 1) := by decide +kernel
theorem dX6_lay_113 : decode cX6_lay 113 = .ok (.getfield 38, 3) := by decide +kernel
theorem dX6_lay_116 : decode cX6_lay 116 = .ok (.iload_n 3, 1) := by decide +kernel
theorem dX6_lay_117 : decode cX6_lay 117 = .ok (.iload 4, 2) := by decide +kernel
theorem dX6_lay_119 : decode cX6_lay 119 = .ok (.iastore, 1) := by decide +kernel
theorem dX6_lay_120 : decode cX6_lay 120 = .ok (.iinc 3 1, 3) := by decide +kernel
theorem dX6_lay_123 : decode cX6_lay 123 = .ok (.goto (-88), 3) := by decide +kernel
theorem dX6_lay_126 : decode cX6_lay 126 = .ok (.aload_n 0, 1) := by decide +kernel
theorem dX6_lay_127 : decode cX6_lay 127 = .ok (.getfield 41, 3) := by decide +kernel
theorem dX6_lay_130 : decode cX6_lay 130 = .ok (.iload_n 2, 1) := by decide +kernel
theorem dX6_lay_131 : decode cX6_lay 131 = .ok (.iaload, 1) := by decide +kernel
theorem dX6_lay_132 : decode cX6_lay 132 = .ok (.bipush 12, 2) := by decide +kernel
theorem dX6_lay_134 : decode cX6_lay 134 = .ok (.if_icmp .ge 13, 3) := by decide +kernel
theorem dX6_lay_137 : decode cX6_lay 137 = .ok (.aload_n 0, 1) := by decide +kernel
theorem dX6_lay_138 : decode cX6_lay 138 = .ok (.getfield 41, 3) := by decide +kernel
theorem dX6_lay_141 : decode cX6_lay 141 = .ok (.iload_n 2, 1) := by decide +kernel
theorem dX6_lay_142 : decode cX6_lay 142 = .ok (.iaload, 1) := by decide +kernel
theorem dX6_lay_143 : decode cX6_lay 143 = .ok (.i2l, 1) := by decide +kernel
theorem dX6_lay_144 : decode cX6_lay 144 = .ok (.goto 6, 3) := by decide +kernel
theorem dX6_lay_147 : decode cX6_lay 147 = .ok (.ldc2_w 175, 3) := by decide +kernel
theorem dX6_lay_150 : decode cX6_lay 150 = .ok (.lreturn, 1) := by decide +kernel
theorem dX6_behind_0 : decode cX6_behind 0 = .ok (.iload_n 2, 1) := by decide +kernel
theorem dX6_behind_1 : decode cX6_behind 1 = .ok (.iload_n 3, 1) := by decide +kernel
theorem dX6_behind_2 : decode cX6_behind 2 = .ok (.ifCond .eq 13, 3) := by decide +kernel
theorem dX6_behind_5 : decode cX6_behind 5 = .ok (.aload_n 0, 1) := by decide +kernel
theorem dX6_behind_6 : decode cX6_behind 6 = .ok (.getfield 32, 3) := by decide +kernel
theorem dX6_behind_9 : decode cX6_behind 9 = .ok (.bipush 6, 2) := by decide +kernel
theorem dX6_behind_11 : decode cX6_behind 11 = .ok (.iaload, 1) := by decide +kernel
theorem dX6_behind_12 : decode cX6_behind 12 = .ok (.goto 4, 3) := by decide +kernel
theorem dX6_behind_15 : decode cX6_behind 15 = .ok (.iconst 0, 1) := by decide +kernel
theorem dX6_behind_16 : decode cX6_behind 16 = .ok (.iadd, 1) := by decide +kernel
theorem dX6_behind_17 : decode cX6_behind 17 = .ok (.aload_n 0, 1) := by decide +kernel
theorem dX6_behind_18 : decode cX6_behind 18 = .ok (.getfield 38, 3) := by decide +kernel
theorem dX6_behind_21 : decode cX6_behind 21 = .ok (.iload_n 1, 1) := by decide +kernel
theorem dX6_behind_22 : decode cX6_behind 22 = .ok (.iaload, 1) := by decide +kernel
theorem dX6_behind_23 : decode cX6_behind 23 = .ok (.isub, 1) := by decide +kernel
theorem dX6_behind_24 : decode cX6_behind 24 = .ok (.istore 4, 2) := by decide +kernel
theorem dX6_behind_26 : decode cX6_behind 26 = .ok (.iload 4, 2) := by decide +kernel
theorem dX6_behind_28 : decode cX6_behind 28 = .ok (.ifCond .ge 7, 3) := by decide +kernel
theorem dX6_behind_31 : decode cX6_behind 31 = .ok (.iconst (-1), 1) := by decide +kernel
theorem dX6_behind_32 : decode cX6_behind 32 = .ok (.goto 25, 3) := by decide +kernel
theorem dX6_behind_35 : decode cX6_behind 35 = .ok (.iload 4, 2) := by decide +kernel
theorem dX6_behind_37 : decode cX6_behind 37 = .ok (.aload_n 0, 1) := by decide +kernel
theorem dX6_behind_38 : decode cX6_behind 38 = .ok (.getfield 32, 3) := by decide +kernel
theorem dX6_behind_41 : decode cX6_behind 41 = .ok (.iconst 5, 1) := by decide +kernel
theorem dX6_behind_42 : decode cX6_behind 42 = .ok (.iaload, 1) := by decide +kernel
theorem dX6_behind_43 : decode cX6_behind 43 = .ok (.if_icmp .le 12, 3) := by decide +kernel
theorem dX6_behind_46 : decode cX6_behind 46 = .ok (.aload_n 0, 1) := by decide +kernel
theorem dX6_behind_47 : decode cX6_behind 47 = .ok (.getfield 32, 3) := by decide +kernel
theorem dX6_behind_50 : decode cX6_behind 50 = .ok (.iconst 5, 1) := by decide +kernel
theorem dX6_behind_51 : decode cX6_behind 51 = .ok (.iaload, 1) := by decide +kernel
theorem dX6_behind_52 : decode cX6_behind 52 = .ok (.goto 5, 3) := by decide +kernel
theorem dX6_behind_55 : decode cX6_behind 55 = .ok (.iload 4, 2) := by decide +kernel
theorem dX6_behind_57 : decode cX6_behind 57 = .ok (.ireturn, 1) := by decide +kernel
theorem dX6_costFrom_0 : decode cX6_costFrom 0 = .ok (.aload_n 0, 1) := by decide +kernel
theorem dX6_costFrom_1 : decode cX6_costFrom 1 = .ok (.iload_n 1, 1) := by decide +kernel
theorem dX6_costFrom_2 : decode cX6_costFrom 2 = .ok (.iload_n 2, 1) := by decide +kernel
theorem dX6_costFrom_3 : decode cX6_costFrom 3 = .ok (.iload_n 3, 1) := by decide +kernel
theorem dX6_costFrom_4 : decode cX6_costFrom 4 = .ok (.invokevirtual 177, 3) := by decide +kernel
theorem dX6_costFrom_7 : decode cX6_costFrom 7 = .ok (.istore 4, 2) := by decide +kernel
theorem dX6_costFrom_9 : decode cX6_costFrom 9 = .ok (.iload 4, 2) := by decide +kernel
theorem dX6_costFrom_11 : decode cX6_costFrom 11 = .ok (.ifCond .lt 21, 3) := by decide +kernel
theorem dX6_costFrom_14 : decode cX6_costFrom 14 = .ok (.aload_n 0, 1) := by decide +kernel
theorem dX6_costFrom_15 : decode cX6_costFrom 15 = .ok (.getfield 66, 3) := by decide +kernel
theorem dX6_costFrom_18 : decode cX6_costFrom 18 = .ok (.sipush 201, 3) := by decide +kernel
theorem dX6_costFrom_21 : decode cX6_costFrom 21 = .ok (.iload_n 1, 1) := by decide +kernel
theorem dX6_costFrom_22 : decode cX6_costFrom 22 = .ok (.iconst 1, 1) := by decide +kernel
theorem dX6_costFrom_23 : decode cX6_costFrom 23 = .ok (.iadd, 1) := by decide +kernel
theorem dX6_costFrom_24 : decode cX6_costFrom 24 = .ok (.imul, 1) := by decide +kernel
theorem dX6_costFrom_25 : decode cX6_costFrom 25 = .ok (.iload 4, 2) := by decide +kernel
theorem dX6_costFrom_27 : decode cX6_costFrom 27 = .ok (.iadd, 1) := by decide +kernel
theorem dX6_costFrom_28 : decode cX6_costFrom 28 = .ok (.iaload, 1) := by decide +kernel
theorem dX6_costFrom_29 : decode cX6_costFrom 29 = .ok (.ifCond .ge 5, 3) := by decide +kernel
theorem dX6_costFrom_32 : decode cX6_costFrom 32 = .ok (.iconst (-1), 1) := by decide +kernel
theorem dX6_costFrom_33 : decode cX6_costFrom 33 = .ok (.ireturn, 1) := by decide +kernel
theorem dX6_costFrom_34 : decode cX6_costFrom 34 = .ok (.aload_n 0, 1) := by decide +kernel
theorem dX6_costFrom_35 : decode cX6_costFrom 35 = .ok (.getfield 66, 3) := by decide +kernel
theorem dX6_costFrom_38 : decode cX6_costFrom 38 = .ok (.sipush 201, 3) := by decide +kernel
theorem dX6_costFrom_41 : decode cX6_costFrom 41 = .ok (.iload_n 1, 1) := by decide +kernel
theorem dX6_costFrom_42 : decode cX6_costFrom 42 = .ok (.iconst 1, 1) := by decide +kernel
theorem dX6_costFrom_43 : decode cX6_costFrom 43 = .ok (.iadd, 1) := by decide +kernel
theorem dX6_costFrom_44 : decode cX6_costFrom 44 = .ok (.imul, 1) := by decide +kernel
theorem dX6_costFrom_45 : decode cX6_costFrom 45 = .ok (.iload 4, 2) := by decide +kernel
theorem dX6_costFrom_47 : decode cX6_costFrom 47 = .ok (.iadd, 1) := by decide +kernel
theorem dX6_costFrom_48 : decode cX6_costFrom 48 = .ok (.iaload, 1) := by decide +kernel
theorem dX6_costFrom_49 : decode cX6_costFrom 49 = .ok (.iload_n 3, 1) := by decide +kernel
theorem dX6_costFrom_50 : decode cX6_costFrom 50 = .ok (.ifCond .eq 12, 3) := by decide +kernel
theorem dX6_costFrom_53 : decode cX6_costFrom 53 = .ok (.aload_n 0, 1) := by decide +kernel
theorem dX6_costFrom_54 : decode cX6_costFrom 54 = .ok (.getfield 35, 3) := by decide +kernel
theorem dX6_costFrom_57 : decode cX6_costFrom 57 = .ok (.iload_n 1, 1) := by decide +kernel
theorem dX6_costFrom_58 : decode cX6_costFrom 58 = .ok (.iaload, 1) := by decide +kernel
theorem dX6_costFrom_59 : decode cX6_costFrom 59 = .ok (.goto 4, 3) := by decide +kernel
theorem dX6_costFrom_62 : decode cX6_costFrom 62 = .ok (.iconst 0, 1) := by decide +kernel
theorem dX6_costFrom_63 : decode cX6_costFrom 63 = .ok (.iadd, 1) := by decide +kernel
theorem dX6_costFrom_64 : decode cX6_costFrom 64 = .ok (.ireturn, 1) := by decide +kernel
theorem dX6_findPlan_0 : decode cX6_findPlan 0 = .ok (.iconst 0, 1) := by decide +kernel
theorem dX6_findPlan_1 : decode cX6_findPlan 1 = .ok (.istore_n 1, 1) := by decide +kernel
theorem dX6_findPlan_2 : decode cX6_findPlan 2 = .ok (.iload_n 1, 1) := by decide +kernel
theorem dX6_findPlan_3 : decode cX6_findPlan 3 = .ok (.sipush 200, 3) := by decide +kernel
theorem dX6_findPlan_6 : decode cX6_findPlan 6 = .ok (.if_icmp .gt 20, 3) := by decide +kernel
theorem dX6_findPlan_9 : decode cX6_findPlan 9 = .ok (.aload_n 0, 1) := by decide +kernel
theorem dX6_findPlan_10 : decode cX6_findPlan 10 = .ok (.getfield 66, 3) := by decide +kernel
theorem dX6_findPlan_13 : decode cX6_findPlan 13 = .ok (.sipush 2412, 3) := by decide +kernel
theorem dX6_findPlan_16 : decode cX6_findPlan 16 = .ok (.iload_n 1, 1) := by decide +kernel
theorem dX6_findPlan_17 : decode cX6_findPlan 17 = .ok (.iadd, 1) := by decide +kernel
theorem dX6_findPlan_18 : decode cX6_findPlan 18 = .ok (.iconst 0, 1) := by decide +kernel
theorem dX6_findPlan_19 : decode cX6_findPlan 19 = .ok (.iastore, 1) := by decide +kernel
theorem dX6_findPlan_20 : decode cX6_findPlan 20 = .ok (.iinc 1 1, 3) := by decide +kernel
theorem dX6_findPlan_23 : decode cX6_findPlan 23 = .ok (.goto (-21), 3) := by decide +kernel
theorem dX6_findPlan_26 : decode cX6_findPlan 26 = .ok (.bipush 11, 2) := by decide +kernel
theorem dX6_findPlan_28 : decode cX6_findPlan 28 = .ok (.istore_n 1, 1) := by decide +kernel
theorem dX6_findPlan_29 : decode cX6_findPlan 29 = .ok (.iload_n 1, 1) := by decide +kernel
theorem dX6_findPlan_30 : decode cX6_findPlan 30 = .ok (.ifCond .lt 77, 3) := by decide +kernel
theorem dX6_findPlan_33 : decode cX6_findPlan 33 = .ok (.iconst 0, 1) := by decide +kernel
theorem dX6_findPlan_34 : decode cX6_findPlan 34 = .ok (.istore_n 2, 1) := by decide +kernel
theorem dX6_findPlan_35 : decode cX6_findPlan 35 = .ok (.iload_n 2, 1) := by decide +kernel
theorem dX6_findPlan_36 : decode cX6_findPlan 36 = .ok (.aload_n 0, 1) := by decide +kernel
theorem dX6_findPlan_37 : decode cX6_findPlan 37 = .ok (.getfield 32, 3) := by decide +kernel
theorem dX6_findPlan_40 : decode cX6_findPlan 40 = .ok (.iconst 5, 1) := by decide +kernel
theorem dX6_findPlan_41 : decode cX6_findPlan 41 = .ok (.iaload, 1) := by decide +kernel
theorem dX6_findPlan_42 : decode cX6_findPlan 42 = .ok (.if_icmp .gt 59, 3) := by decide +kernel
theorem dX6_findPlan_45 : decode cX6_findPlan 45 = .ok (.aload_n 0, 1) := by decide +kernel
theorem dX6_findPlan_46 : decode cX6_findPlan 46 = .ok (.iload_n 1, 1) := by decide +kernel
theorem dX6_findPlan_47 : decode cX6_findPlan 47 = .ok (.iload_n 2, 1) := by decide +kernel
theorem dX6_findPlan_48 : decode cX6_findPlan 48 = .ok (.iconst 0, 1) := by decide +kernel
theorem dX6_findPlan_49 : decode cX6_findPlan 49 = .ok (.invokevirtual 181, 3) := by decide +kernel
theorem dX6_findPlan_52 : decode cX6_findPlan 52 = .ok (.istore_n 3, 1) := by decide +kernel
theorem dX6_findPlan_53 : decode cX6_findPlan 53 = .ok (.aload_n 0, 1) := by decide +kernel
theorem dX6_findPlan_54 : decode cX6_findPlan 54 = .ok (.iload_n 1, 1) := by decide +kernel
theorem dX6_findPlan_55 : decode cX6_findPlan 55 = .ok (.iload_n 2, 1) := by decide +kernel
theorem dX6_findPlan_56 : decode cX6_findPlan 56 = .ok (.iconst 1, 1) := by decide +kernel
theorem dX6_findPlan_57 : decode cX6_findPlan 57 = .ok (.invokevirtual 181, 3) := by decide +kernel
theorem dX6_findPlan_60 : decode cX6_findPlan 60 = .ok (.istore 4, 2) := by decide +kernel
theorem dX6_findPlan_62 : decode cX6_findPlan 62 = .ok (.aload_n 0, 1) := by decide +kernel
theorem dX6_findPlan_63 : decode cX6_findPlan 63 = .ok (.getfield 66, 3) := by decide +kernel
theorem dX6_findPlan_66 : decode cX6_findPlan 66 = .ok (.sipush 201, 3) := by decide +kernel
theorem dX6_findPlan_69 : decode cX6_findPlan 69 = .ok (.iload_n 1, 1) := by decide +kernel
theorem dX6_findPlan_70 : decode cX6_findPlan 70 = .ok (.imul, 1) := by decide +kernel
theorem dX6_findPlan_71 : decode cX6_findPlan 71 = .ok (.iload_n 2, 1) := by decide +kernel
theorem dX6_findPlan_72 : decode cX6_findPlan 72 = .ok (.iadd, 1) := by decide +kernel
theorem dX6_findPlan_73 : decode cX6_findPlan 73 = .ok (.iload_n 3, 1) := by decide +kernel
theorem dX6_findPlan_74 : decode cX6_findPlan 74 = .ok (.ifCond .lt 14, 3) := by decide +kernel
theorem dX6_findPlan_77 : decode cX6_findPlan 77 = .ok (.iload 4, 2) := by decide +kernel
theorem dX6_findPlan_79 : decode cX6_findPlan 79 = .ok (.ifCond .lt 14, 3) := by decide +kernel
theorem dX6_findPlan_82 : decode cX6_findPlan 82 = .ok (.iload 4, 2) := by decide +kernel
theorem dX6_findPlan_84 : decode cX6_findPlan 84 = .ok (.iload_n 3, 1) := by decide +kernel
theorem dX6_findPlan_85 : decode cX6_findPlan 85 = .ok (.if_icmp .ge 8, 3) := by decide +kernel
theorem dX6_findPlan_88 : decode cX6_findPlan 88 = .ok (.iload 4, 2) := by decide +kernel
theorem dX6_findPlan_90 : decode cX6_findPlan 90 = .ok (.goto 4, 3) := by decide +kernel
theorem dX6_findPlan_93 : decode cX6_findPlan 93 = .ok (.iload_n 3, 1) := by decide +kernel
theorem dX6_findPlan_94 : decode cX6_findPlan 94 = .ok (.iastore, 1) := by decide +kernel
theorem dX6_findPlan_95 : decode cX6_findPlan 95 = .ok (.iinc 2 1, 3) := by decide +kernel
theorem dX6_findPlan_98 : decode cX6_findPlan 98 = .ok (.goto (-63), 3) := by decide +kernel
theorem dX6_findPlan_101 : decode cX6_findPlan 101 = .ok (.iinc 1 (-1), 3) := by decide +kernel
theorem dX6_findPlan_104 : decode cX6_findPlan 104 = .ok (.goto (-75), 3) := by decide +kernel
theorem dX6_findPlan_107 : decode cX6_findPlan 107 = .ok (.return_, 1) := by decide +kernel
theorem dX6_isContent_0 : decode cX6_isContent 0 = .ok (.iload_n 1, 1) := by decide +kernel
theorem dX6_isContent_1 : decode cX6_isContent 1 = .ok (.iconst 0, 1) := by decide +kernel
theorem dX6_isContent_2 : decode cX6_isContent 2 = .ok (.aload_n 0, 1) := by decide +kernel
theorem dX6_isContent_3 : decode cX6_isContent 3 = .ok (.getfield 32, 3) := by decide +kernel
theorem dX6_isContent_6 : decode cX6_isContent 6 = .ok (.iconst 5, 1) := by decide +kernel
theorem dX6_isContent_7 : decode cX6_isContent 7 = .ok (.iaload, 1) := by decide +kernel
theorem dX6_isContent_8 : decode cX6_isContent 8 = .ok (.invokestatic 75, 3) := by decide +kernel
theorem dX6_isContent_11 : decode cX6_isContent 11 = .ok (.ireturn, 1) := by decide +kernel
theorem dX6_plan_0 : decode cX6_plan 0 = .ok (.aload_n 0, 1) := by decide +kernel
theorem dX6_plan_1 : decode cX6_plan 1 = .ok (.iload_n 1, 1) := by decide +kernel
theorem dX6_plan_2 : decode cX6_plan 2 = .ok (.invokevirtual 184, 3) := by decide +kernel
theorem dX6_plan_5 : decode cX6_plan 5 = .ok (.ifCond .ne 7, 3) := by decide +kernel
theorem dX6_plan_8 : decode cX6_plan 8 = .ok (.ldc2_w 79, 3) := by decide +kernel
theorem dX6_plan_11 : decode cX6_plan 11 = .ok (.lreturn, 1) := by decide +kernel
theorem dX6_plan_12 : decode cX6_plan 12 = .ok (.aload_n 0, 1) := by decide +kernel
theorem dX6_plan_13 : decode cX6_plan 13 = .ok (.invokevirtual 187, 3) := by decide +kernel
theorem dX6_plan_16 : decode cX6_plan 16 = .ok (.aload_n 0, 1) := by decide +kernel
theorem dX6_plan_17 : decode cX6_plan 17 = .ok (.getfield 66, 3) := by decide +kernel
theorem dX6_plan_20 : decode cX6_plan 20 = .ok (.iload_n 1, 1) := by decide +kernel
theorem dX6_plan_21 : decode cX6_plan 21 = .ok (.iaload, 1) := by decide +kernel
theorem dX6_plan_22 : decode cX6_plan 22 = .ok (.ifCond .ge 9, 3) := by decide +kernel
theorem dX6_plan_25 : decode cX6_plan 25 = .ok (.ldc2_w 141, 3) := by decide +kernel
theorem dX6_plan_28 : decode cX6_plan 28 = .ok (.goto 10, 3) := by decide +kernel
theorem dX6_plan_31 : decode cX6_plan 31 = .ok (.aload_n 0, 1) := by decide +kernel
theorem dX6_plan_32 : decode cX6_plan 32 = .ok (.getfield 66, 3) := by decide +kernel
theorem dX6_plan_35 : decode cX6_plan 35 = .ok (.iload_n 1, 1) := by decide +kernel
theorem dX6_plan_36 : decode cX6_plan 36 = .ok (.iaload, 1) := by decide +kernel
theorem dX6_plan_37 : decode cX6_plan 37 = .ok (.i2l, 1) := by decide +kernel
theorem dX6_plan_38 : decode cX6_plan 38 = .ok (.lreturn, 1) := by decide +kernel
theorem dX6_go_0 : decode cX6_go 0 = .ok (.iconst 0, 1) := by decide +kernel
theorem dX6_go_1 : decode cX6_go 1 = .ok (.istore_n 2, 1) := by decide +kernel
theorem dX6_go_2 : decode cX6_go 2 = .ok (.iload_n 1, 1) := by decide +kernel
theorem dX6_go_3 : decode cX6_go 3 = .ok (.istore_n 3, 1) := by decide +kernel
theorem dX6_go_4 : decode cX6_go 4 = .ok (.iconst 0, 1) := by decide +kernel
theorem dX6_go_5 : decode cX6_go 5 = .ok (.istore 4, 2) := by decide +kernel
theorem dX6_go_7 : decode cX6_go 7 = .ok (.iload 4, 2) := by decide +kernel
theorem dX6_go_9 : decode cX6_go 9 = .ok (.bipush 12, 2) := by decide +kernel
theorem dX6_go_11 : decode cX6_go 11 = .ok (.if_icmp .ge 74, 3) := by decide +kernel
theorem dX6_go_14 : decode cX6_go 14 = .ok (.aload_n 0, 1) := by decide +kernel
theorem dX6_go_15 : decode cX6_go 15 = .ok (.iload 4, 2) := by decide +kernel
theorem dX6_go_17 : decode cX6_go 17 = .ok (.iload_n 3, 1) := by decide +kernel
theorem dX6_go_18 : decode cX6_go 18 = .ok (.iconst 0, 1) := by decide +kernel
theorem dX6_go_19 : decode cX6_go 19 = .ok (.invokevirtual 181, 3) := by decide +kernel
theorem dX6_go_22 : decode cX6_go 22 = .ok (.aload_n 0, 1) := by decide +kernel
theorem dX6_go_23 : decode cX6_go 23 = .ok (.getfield 66, 3) := by decide +kernel
theorem dX6_go_26 : decode cX6_go 26 = .ok (.sipush 201, 3) := by decide +kernel
theorem dX6_go_29 : decode cX6_go 29 = .ok (.iload 4, 2) := by decide +kernel
theorem dX6_go_31 : decode cX6_go 31 = .ok (.imul, 1) := by decide +kernel
theorem dX6_go_32 : decode cX6_go 32 = .ok (.iload_n 3, 1) := by decide +kernel
theorem dX6_go_33 : decode cX6_go 33 = .ok (.iadd, 1) := by decide +kernel
theorem dX6_go_34 : decode cX6_go 34 = .ok (.iaload, 1) := by decide +kernel
theorem dX6_go_35 : decode cX6_go 35 = .ok (.if_icmp .eq 7, 3) := by decide +kernel
theorem dX6_go_38 : decode cX6_go 38 = .ok (.iconst 1, 1) := by decide +kernel
theorem dX6_go_39 : decode cX6_go 39 = .ok (.goto 4, 3) := by decide +kernel
theorem dX6_go_42 : decode cX6_go 42 = .ok (.iconst 0, 1) := by decide +kernel
theorem dX6_go_43 : decode cX6_go 43 = .ok (.istore 5, 2) := by decide +kernel
theorem dX6_go_45 : decode cX6_go 45 = .ok (.iload_n 2, 1) := by decide +kernel
theorem dX6_go_46 : decode cX6_go 46 = .ok (.iload 5, 2) := by decide +kernel
theorem dX6_go_48 : decode cX6_go 48 = .ok (.ifCond .eq 10, 3) := by decide +kernel
theorem dX6_go_51 : decode cX6_go 51 = .ok (.iconst 1, 1) := by decide +kernel
theorem dX6_go_52 : decode cX6_go 52 = .ok (.iload 4, 2) := by decide +kernel
theorem dX6_go_54 : decode cX6_go 54 = .ok (.ishl, 1) := by decide +kernel
theorem dX6_go_55 : decode cX6_go 55 = .ok (.goto 4, 3) := by decide +kernel
theorem dX6_go_58 : decode cX6_go 58 = .ok (.iconst 0, 1) := by decide +kernel
theorem dX6_go_59 : decode cX6_go 59 = .ok (.ior, 1) := by decide +kernel
theorem dX6_go_60 : decode cX6_go 60 = .ok (.istore_n 2, 1) := by decide +kernel
theorem dX6_go_61 : decode cX6_go 61 = .ok (.aload_n 0, 1) := by decide +kernel
theorem dX6_go_62 : decode cX6_go 62 = .ok (.iload 4, 2) := by decide +kernel
theorem dX6_go_64 : decode cX6_go 64 = .ok (.iload_n 3, 1) := by decide +kernel
theorem dX6_go_65 : decode cX6_go 65 = .ok (.iload 5, 2) := by decide +kernel
theorem dX6_go_67 : decode cX6_go 67 = .ok (.invokevirtual 177, 3) := by decide +kernel
theorem dX6_go_70 : decode cX6_go 70 = .ok (.istore_n 3, 1) := by decide +kernel
theorem dX6_go_71 : decode cX6_go 71 = .ok (.aload_n 0, 1) := by decide +kernel
theorem dX6_go_72 : decode cX6_go 72 = .ok (.getfield 69, 3) := by decide +kernel
theorem dX6_go_75 : decode cX6_go 75 = .ok (.iload 4, 2) := by decide +kernel
theorem dX6_go_77 : decode cX6_go 77 = .ok (.iload_n 3, 1) := by decide +kernel
theorem dX6_go_78 : decode cX6_go 78 = .ok (.iastore, 1) := by decide +kernel
theorem dX6_go_79 : decode cX6_go 79 = .ok (.iinc 4 1, 3) := by decide +kernel
theorem dX6_go_82 : decode cX6_go 82 = .ok (.goto (-75), 3) := by decide +kernel
theorem dX6_go_85 : decode cX6_go 85 = .ok (.iload_n 2, 1) := by decide +kernel
theorem dX6_go_86 : decode cX6_go 86 = .ok (.ireturn, 1) := by decide +kernel
theorem dX6_runs_0 : decode cX6_runs 0 = .ok (.aload_n 0, 1) := by decide +kernel
theorem dX6_runs_1 : decode cX6_runs 1 = .ok (.iload_n 1, 1) := by decide +kernel
theorem dX6_runs_2 : decode cX6_runs 2 = .ok (.invokevirtual 184, 3) := by decide +kernel
theorem dX6_runs_5 : decode cX6_runs 5 = .ok (.ifCond .ne 7, 3) := by decide +kernel
theorem dX6_runs_8 : decode cX6_runs 8 = .ok (.ldc2_w 79, 3) := by decide +kernel
theorem dX6_runs_11 : decode cX6_runs 11 = .ok (.lreturn, 1) := by decide +kernel
theorem dX6_runs_12 : decode cX6_runs 12 = .ok (.aload_n 0, 1) := by decide +kernel
theorem dX6_runs_13 : decode cX6_runs 13 = .ok (.invokevirtual 187, 3) := by decide +kernel
theorem dX6_runs_16 : decode cX6_runs 16 = .ok (.aload_n 0, 1) := by decide +kernel
theorem dX6_runs_17 : decode cX6_runs 17 = .ok (.getfield 66, 3) := by decide +kernel
theorem dX6_runs_20 : decode cX6_runs 20 = .ok (.iload_n 1, 1) := by decide +kernel
theorem dX6_runs_21 : decode cX6_runs 21 = .ok (.iaload, 1) := by decide +kernel
theorem dX6_runs_22 : decode cX6_runs 22 = .ok (.ifCond .ge 9, 3) := by decide +kernel
theorem dX6_runs_25 : decode cX6_runs 25 = .ok (.ldc2_w 141, 3) := by decide +kernel
theorem dX6_runs_28 : decode cX6_runs 28 = .ok (.goto 9, 3) := by decide +kernel
theorem dX6_runs_31 : decode cX6_runs 31 = .ok (.aload_n 0, 1) := by decide +kernel
theorem dX6_runs_32 : decode cX6_runs 32 = .ok (.iload_n 1, 1) := by decide +kernel
theorem dX6_runs_33 : decode cX6_runs 33 = .ok (.invokevirtual 190, 3) := by decide +kernel
theorem dX6_runs_36 : decode cX6_runs 36 = .ok (.i2l, 1) := by decide +kernel
theorem dX6_runs_37 : decode cX6_runs 37 = .ok (.lreturn, 1) := by decide +kernel
theorem dX6_tank_0 : decode cX6_tank 0 = .ok (.aload_n 0, 1) := by decide +kernel
theorem dX6_tank_1 : decode cX6_tank 1 = .ok (.iload_n 1, 1) := by decide +kernel
theorem dX6_tank_2 : decode cX6_tank 2 = .ok (.invokevirtual 184, 3) := by decide +kernel
theorem dX6_tank_5 : decode cX6_tank 5 = .ok (.ifCond .eq 13, 3) := by decide +kernel
theorem dX6_tank_8 : decode cX6_tank 8 = .ok (.iload_n 2, 1) := by decide +kernel
theorem dX6_tank_9 : decode cX6_tank 9 = .ok (.iconst 0, 1) := by decide +kernel
theorem dX6_tank_10 : decode cX6_tank 10 = .ok (.bipush 11, 2) := by decide +kernel
theorem dX6_tank_12 : decode cX6_tank 12 = .ok (.invokestatic 75, 3) := by decide +kernel
theorem dX6_tank_15 : decode cX6_tank 15 = .ok (.ifCond .ne 7, 3) := by decide +kernel
theorem dX6_tank_18 : decode cX6_tank 18 = .ok (.ldc2_w 79, 3) := by decide +kernel
theorem dX6_tank_21 : decode cX6_tank 21 = .ok (.lreturn, 1) := by decide +kernel
theorem dX6_tank_22 : decode cX6_tank 22 = .ok (.aload_n 0, 1) := by decide +kernel
theorem dX6_tank_23 : decode cX6_tank 23 = .ok (.invokevirtual 187, 3) := by decide +kernel
theorem dX6_tank_26 : decode cX6_tank 26 = .ok (.aload_n 0, 1) := by decide +kernel
theorem dX6_tank_27 : decode cX6_tank 27 = .ok (.getfield 66, 3) := by decide +kernel
theorem dX6_tank_30 : decode cX6_tank 30 = .ok (.iload_n 1, 1) := by decide +kernel
theorem dX6_tank_31 : decode cX6_tank 31 = .ok (.iaload, 1) := by decide +kernel
theorem dX6_tank_32 : decode cX6_tank 32 = .ok (.ifCond .ge 7, 3) := by decide +kernel
theorem dX6_tank_35 : decode cX6_tank 35 = .ok (.ldc2_w 141, 3) := by decide +kernel
theorem dX6_tank_38 : decode cX6_tank 38 = .ok (.lreturn, 1) := by decide +kernel
theorem dX6_tank_39 : decode cX6_tank 39 = .ok (.aload_n 0, 1) := by decide +kernel
theorem dX6_tank_40 : decode cX6_tank 40 = .ok (.iload_n 1, 1) := by decide +kernel
theorem dX6_tank_41 : decode cX6_tank 41 = .ok (.invokevirtual 190, 3) := by decide +kernel
theorem dX6_tank_44 : decode cX6_tank 44 = .ok (.istore_n 3, 1) := by decide +kernel
theorem dX6_tank_45 : decode cX6_tank 45 = .ok (.aload_n 0, 1) := by decide +kernel
theorem dX6_tank_46 : decode cX6_tank 46 = .ok (.getfield 69, 3) := by decide +kernel
theorem dX6_tank_49 : decode cX6_tank 49 = .ok (.iload_n 2, 1) := by decide +kernel
theorem dX6_tank_50 : decode cX6_tank 50 = .ok (.iaload, 1) := by decide +kernel
theorem dX6_tank_51 : decode cX6_tank 51 = .ok (.i2l, 1) := by decide +kernel
theorem dX6_tank_52 : decode cX6_tank 52 = .ok (.lreturn, 1) := by decide +kernel
theorem dX6_joint_0 : decode cX6_joint 0 = .ok (.iload_n 1, 1) := by decide +kernel
theorem dX6_joint_1 : decode cX6_joint 1 = .ok (.ifCond .lt 23, 3) := by decide +kernel
theorem dX6_joint_4 : decode cX6_joint 4 = .ok (.iload_n 1, 1) := by decide +kernel
theorem dX6_joint_5 : decode cX6_joint 5 = .ok (.bipush 10, 2) := by decide +kernel
theorem dX6_joint_7 : decode cX6_joint 7 = .ok (.idiv, 1) := by decide +kernel
theorem dX6_joint_8 : decode cX6_joint 8 = .ok (.iconst 3, 1) := by decide +kernel
theorem dX6_joint_9 : decode cX6_joint 9 = .ok (.if_icmp .ge 15, 3) := by decide +kernel
theorem dX6_joint_12 : decode cX6_joint 12 = .ok (.iload_n 1, 1) := by decide +kernel
theorem dX6_joint_13 : decode cX6_joint 13 = .ok (.bipush 10, 2) := by decide +kernel
theorem dX6_joint_15 : decode cX6_joint 15 = .ok (.irem, 1) := by decide +kernel
theorem dX6_joint_16 : decode cX6_joint 16 = .ok (.iconst 4, 1) := by decide +kernel
theorem dX6_joint_17 : decode cX6_joint 17 = .ok (.if_icmp .ge 7, 3) := by decide +kernel
theorem dX6_joint_20 : decode cX6_joint 20 = .ok (.iconst 1, 1) := by decide +kernel
theorem dX6_joint_21 : decode cX6_joint 21 = .ok (.goto 4, 3) := by decide +kernel
theorem dX6_joint_24 : decode cX6_joint 24 = .ok (.iconst 0, 1) := by decide +kernel
theorem dX6_joint_25 : decode cX6_joint 25 = .ok (.istore 4, 2) := by decide +kernel
theorem dX6_joint_27 : decode cX6_joint 27 = .ok (.iload 4, 2) := by decide +kernel
theorem dX6_joint_29 : decode cX6_joint 29 = .ok (.ifCond .eq 21, 3) := by decide +kernel
theorem dX6_joint_32 : decode cX6_joint 32 = .ok (.iload_n 2, 1) := by decide +kernel
theorem dX6_joint_33 : decode cX6_joint 33 = .ok (.invokestatic 170, 3) := by decide +kernel
theorem dX6_joint_36 : decode cX6_joint 36 = .ok (.ifCond .eq 14, 3) := by decide +kernel
theorem dX6_joint_39 : decode cX6_joint 39 = .ok (.iload_n 3, 1) := by decide +kernel
theorem dX6_joint_40 : decode cX6_joint 40 = .ok (.iconst 0, 1) := by decide +kernel
theorem dX6_joint_41 : decode cX6_joint 41 = .ok (.sipush 9999, 3) := by decide +kernel
theorem dX6_joint_44 : decode cX6_joint 44 = .ok (.invokestatic 75, 3) := by decide +kernel
theorem dX6_joint_47 : decode cX6_joint 47 = .ok (.ifCond .ne 7, 3) := by decide +kernel
theorem dX6_joint_50 : decode cX6_joint 50 = .ok (.ldc2_w 79, 3) := by decide +kernel
theorem dX6_joint_53 : decode cX6_joint 53 = .ok (.lreturn, 1) := by decide +kernel
theorem dX6_joint_54 : decode cX6_joint 54 = .ok (.bipush 24, 2) := by decide +kernel
theorem dX6_joint_56 : decode cX6_joint 56 = .ok (.iload_n 1, 1) := by decide +kernel
theorem dX6_joint_57 : decode cX6_joint 57 = .ok (.bipush 10, 2) := by decide +kernel
theorem dX6_joint_59 : decode cX6_joint 59 = .ok (.idiv, 1) := by decide +kernel
theorem dX6_joint_60 : decode cX6_joint 60 = .ok (.imul, 1) := by decide +kernel
theorem dX6_joint_61 : decode cX6_joint 61 = .ok (.bipush 6, 2) := by decide +kernel
theorem dX6_joint_63 : decode cX6_joint 63 = .ok (.iload_n 1, 1) := by decide +kernel
theorem dX6_joint_64 : decode cX6_joint 64 = .ok (.bipush 10, 2) := by decide +kernel
theorem dX6_joint_66 : decode cX6_joint 66 = .ok (.irem, 1) := by decide +kernel
theorem dX6_joint_67 : decode cX6_joint 67 = .ok (.imul, 1) := by decide +kernel
theorem dX6_joint_68 : decode cX6_joint 68 = .ok (.iadd, 1) := by decide +kernel
theorem dX6_joint_69 : decode cX6_joint 69 = .ok (.istore 5, 2) := by decide +kernel
theorem dX6_joint_71 : decode cX6_joint 71 = .ok (.aload_n 0, 1) := by decide +kernel
theorem dX6_joint_72 : decode cX6_joint 72 = .ok (.iload 5, 2) := by decide +kernel
theorem dX6_joint_74 : decode cX6_joint 74 = .ok (.invokevirtual 138, 3) := by decide +kernel
theorem dX6_joint_77 : decode cX6_joint 77 = .ok (.ifCond .ne 7, 3) := by decide +kernel
theorem dX6_joint_80 : decode cX6_joint 80 = .ok (.ldc2_w 141, 3) := by decide +kernel
theorem dX6_joint_83 : decode cX6_joint 83 = .ok (.lreturn, 1) := by decide +kernel
theorem dX6_joint_84 : decode cX6_joint 84 = .ok (.aload_n 0, 1) := by decide +kernel
theorem dX6_joint_85 : decode cX6_joint 85 = .ok (.getfield 41, 3) := by decide +kernel
theorem dX6_joint_88 : decode cX6_joint 88 = .ok (.iload_n 2, 1) := by decide +kernel
theorem dX6_joint_89 : decode cX6_joint 89 = .ok (.iaload, 1) := by decide +kernel
theorem dX6_joint_90 : decode cX6_joint 90 = .ok (.ifCond .ge 7, 3) := by decide +kernel
theorem dX6_joint_93 : decode cX6_joint 93 = .ok (.ldc2_w 173, 3) := by decide +kernel
theorem dX6_joint_96 : decode cX6_joint 96 = .ok (.lreturn, 1) := by decide +kernel
theorem dX6_joint_97 : decode cX6_joint 97 = .ok (.aload_n 0, 1) := by decide +kernel
theorem dX6_joint_98 : decode cX6_joint 98 = .ok (.invokevirtual 143, 3) := by decide +kernel
theorem dX6_joint_101 : decode cX6_joint 101 = .ok (.iconst 0, 1) := by decide +kernel
theorem dX6_joint_102 : decode cX6_joint 102 = .ok (.istore 6, 2) := by decide +kernel
theorem dX6_joint_104 : decode cX6_joint 104 = .ok (.iload 6, 2) := by decide +kernel
theorem dX6_joint_106 : decode cX6_joint 106 = .ok (.aload_n 0, 1) := by decide +kernel
theorem dX6_joint_107 : decode cX6_joint 107 = .ok (.getfield 13, 3) := by decide +kernel
theorem dX6_joint_110 : decode cX6_joint 110 = .ok (.if_icmp .ge 86, 3) := by decide +kernel
theorem dX6_joint_113 : decode cX6_joint 113 = .ok (.iload 6, 2) := by decide +kernel
theorem dX6_joint_115 : decode cX6_joint 115 = .ok (.aload_n 0, 1) := by decide +kernel
theorem dX6_joint_116 : decode cX6_joint 116 = .ok (.getfield 41, 3) := by decide +kernel
theorem dX6_joint_119 : decode cX6_joint 119 = .ok (.iload_n 2, 1) := by decide +kernel
theorem dX6_joint_120 : decode cX6_joint 120 = .ok (.iaload, 1) := by decide +kernel
theorem dX6_joint_121 : decode cX6_joint 121 = .ok (.if_icmp .ge 75, 3) := by decide +kernel
theorem dX6_joint_124 : decode cX6_joint 124 = .ok (.aload_n 0, 1) := by decide +kernel
theorem dX6_joint_125 : decode cX6_joint 125 = .ok (.getfield 47, 3) := by decide +kernel
theorem dX6_joint_128 : decode cX6_joint 128 = .ok (.iload 5, 2) := by decide +kernel
theorem dX6_joint_130 : decode cX6_joint 130 = .ok (.iload 6, 2) := by decide +kernel
theorem dX6_joint_132 : decode cX6_joint 132 = .ok (.iadd, 1) := by decide +kernel
theorem dX6_joint_133 : decode cX6_joint 133 = .ok (.laload, 1) := by decide +kernel
theorem dX6_joint_134 : decode cX6_joint 134 = .ok (.aload_n 0, 1) := by decide +kernel
theorem dX6_joint_135 : decode cX6_joint 135 = .ok (.getfield 51, 3) := by decide +kernel
theorem dX6_joint_138 : decode cX6_joint 138 = .ok (.iload 5, 2) := by decide +kernel
theorem dX6_joint_140 : decode cX6_joint 140 = .ok (.iload 6, 2) := by decide +kernel
theorem dX6_joint_142 : decode cX6_joint 142 = .ok (.iadd, 1) := by decide +kernel
theorem dX6_joint_143 : decode cX6_joint 143 = .ok (.laload, 1) := by decide +kernel
theorem dX6_joint_144 : decode cX6_joint 144 = .ok (.invokestatic 100, 3) := by decide +kernel
theorem dX6_joint_147 : decode cX6_joint 147 = .ok (.aload_n 0, 1) := by decide +kernel
theorem dX6_joint_148 : decode cX6_joint 148 = .ok (.iload 5, 2) := by decide +kernel
theorem dX6_joint_150 : decode cX6_joint 150 = .ok (.iload 6, 2) := by decide +kernel
theorem dX6_joint_152 : decode cX6_joint 152 = .ok (.iadd, 1) := by decide +kernel
theorem dX6_joint_153 : decode cX6_joint 153 = .ok (.invokevirtual 92, 3) := by decide +kernel
theorem dX6_joint_156 : decode cX6_joint 156 = .ok (.i2l, 1) := by decide +kernel
theorem dX6_joint_157 : decode cX6_joint 157 = .ok (.lmul, 1) := by decide +kernel
theorem dX6_joint_158 : decode cX6_joint 158 = .ok (.ldc2_w 106, 3) := by decide +kernel
theorem dX6_joint_161 : decode cX6_joint 161 = .ok (.ldiv, 1) := by decide +kernel
theorem dX6_joint_162 : decode cX6_joint 162 = .ok (.lstore 7, 2) := by decide +kernel
theorem dX6_joint_164 : decode cX6_joint 164 = .ok (.aload_n 0, 1) := by decide +kernel
theorem dX6_joint_165 : decode cX6_joint 165 = .ok (.getfield 44, 3) := by decide +kernel
theorem dX6_joint_168 : decode cX6_joint 168 = .ok (.bipush 24, 2) := by decide +kernel
theorem dX6_joint_170 : decode cX6_joint 170 = .ok (.iload_n 2, 1) := by decide +kernel
theorem dX6_joint_171 : decode cX6_joint 171 = .ok (.imul, 1) := by decide +kernel
theorem dX6_joint_172 : decode cX6_joint 172 = .ok (.iload 6, 2) := by decide +kernel
theorem dX6_joint_174 : decode cX6_joint 174 = .ok (.iadd, 1) := by decide +kernel
theorem dX6_joint_175 : decode cX6_joint 175 = .ok (.iaload, 1) := by decide +kernel
theorem dX6_joint_176 : decode cX6_joint 176 = .ok (.i2l, 1) := by decide +kernel
theorem dX6_joint_177 : decode cX6_joint 177 = .ok (.lload 7, 2) := by decide +kernel
theorem dX6_joint_179 : decode cX6_joint 179 = .ok (.lsub, 1) := by decide +kernel
theorem dX6_joint_180 : decode cX6_joint 180 = .ok (.iload_n 3, 1) := by decide +kernel
theorem dX6_joint_181 : decode cX6_joint 181 = .ok (.i2l, 1) := by decide +kernel
theorem dX6_joint_182 : decode cX6_joint 182 = .ok (.lcmp, 1) := by decide +kernel
theorem dX6_joint_183 : decode cX6_joint 183 = .ok (.ifCond .le 7, 3) := by decide +kernel
theorem dX6_joint_186 : decode cX6_joint 186 = .ok (.iload 6, 2) := by decide +kernel
theorem dX6_joint_188 : decode cX6_joint 188 = .ok (.i2l, 1) := by decide +kernel
theorem dX6_joint_189 : decode cX6_joint 189 = .ok (.lreturn, 1) := by decide +kernel
theorem dX6_joint_190 : decode cX6_joint 190 = .ok (.iinc 6 1, 3) := by decide +kernel
theorem dX6_joint_193 : decode cX6_joint 193 = .ok (.goto (-89), 3) := by decide +kernel
theorem dX6_joint_196 : decode cX6_joint 196 = .ok (.ldc2_w 157, 3) := by decide +kernel
theorem dX6_joint_199 : decode cX6_joint 199 = .ok (.lreturn, 1) := by decide +kernel
theorem dX6_sheet_0 : decode cX6_sheet 0 = .ok (.iload_n 1, 1) := by decide +kernel
theorem dX6_sheet_1 : decode cX6_sheet 1 = .ok (.invokestatic 170, 3) := by decide +kernel
theorem dX6_sheet_4 : decode cX6_sheet 4 = .ok (.ifCond .eq 9, 3) := by decide +kernel
theorem dX6_sheet_7 : decode cX6_sheet 7 = .ok (.iload_n 2, 1) := by decide +kernel
theorem dX6_sheet_8 : decode cX6_sheet 8 = .ok (.bipush 24, 2) := by decide +kernel
theorem dX6_sheet_10 : decode cX6_sheet 10 = .ok (.if_icmp .le 7, 3) := by decide +kernel
theorem dX6_sheet_13 : decode cX6_sheet 13 = .ok (.ldc2_w 79, 3) := by decide +kernel
theorem dX6_sheet_16 : decode cX6_sheet 16 = .ok (.lreturn, 1) := by decide +kernel
theorem dX6_sheet_17 : decode cX6_sheet 17 = .ok (.iload_n 2, 1) := by decide +kernel
theorem dX6_sheet_18 : decode cX6_sheet 18 = .ok (.ifCond .ge 7, 3) := by decide +kernel
theorem dX6_sheet_21 : decode cX6_sheet 21 = .ok (.ldc2_w 193, 3) := by decide +kernel
theorem dX6_sheet_24 : decode cX6_sheet 24 = .ok (.lreturn, 1) := by decide +kernel
theorem dX6_sheet_25 : decode cX6_sheet 25 = .ok (.aload_n 0, 1) := by decide +kernel
theorem dX6_sheet_26 : decode cX6_sheet 26 = .ok (.getfield 41, 3) := by decide +kernel
theorem dX6_sheet_29 : decode cX6_sheet 29 = .ok (.iload_n 1, 1) := by decide +kernel
theorem dX6_sheet_30 : decode cX6_sheet 30 = .ok (.iload_n 2, 1) := by decide +kernel
theorem dX6_sheet_31 : decode cX6_sheet 31 = .ok (.iastore, 1) := by decide +kernel
theorem dX6_sheet_32 : decode cX6_sheet 32 = .ok (.iconst 0, 1) := by decide +kernel
theorem dX6_sheet_33 : decode cX6_sheet 33 = .ok (.istore_n 3, 1) := by decide +kernel
theorem dX6_sheet_34 : decode cX6_sheet 34 = .ok (.iload_n 3, 1) := by decide +kernel
theorem dX6_sheet_35 : decode cX6_sheet 35 = .ok (.iload_n 2, 1) := by decide +kernel
theorem dX6_sheet_36 : decode cX6_sheet 36 = .ok (.if_icmp .ge 21, 3) := by decide +kernel
theorem dX6_sheet_39 : decode cX6_sheet 39 = .ok (.aload_n 0, 1) := by decide +kernel
theorem dX6_sheet_40 : decode cX6_sheet 40 = .ok (.getfield 44, 3) := by decide +kernel
theorem dX6_sheet_43 : decode cX6_sheet 43 = .ok (.bipush 24, 2) := by decide +kernel
theorem dX6_sheet_45 : decode cX6_sheet 45 = .ok (.iload_n 1, 1) := by decide +kernel
theorem dX6_sheet_46 : decode cX6_sheet 46 = .ok (.imul, 1) := by decide +kernel
theorem dX6_sheet_47 : decode cX6_sheet 47 = .ok (.iload_n 3, 1) := by decide +kernel
theorem dX6_sheet_48 : decode cX6_sheet 48 = .ok (.iadd, 1) := by decide +kernel
theorem dX6_sheet_49 : decode cX6_sheet 49 = .ok (.iconst 0, 1) := by decide +kernel
theorem dX6_sheet_50 : decode cX6_sheet 50 = .ok (.iastore, 1) := by decide +kernel
theorem dX6_sheet_51 : decode cX6_sheet 51 = .ok (.iinc 3 1, 3) := by decide +kernel
theorem dX6_sheet_54 : decode cX6_sheet 54 = .ok (.goto (-20), 3) := by decide +kernel
theorem dX6_sheet_57 : decode cX6_sheet 57 = .ok (.iload_n 2, 1) := by decide +kernel
theorem dX6_sheet_58 : decode cX6_sheet 58 = .ok (.i2l, 1) := by decide +kernel
theorem dX6_sheet_59 : decode cX6_sheet 59 = .ok (.lreturn, 1) := by decide +kernel
theorem dX6_mark_0 : decode cX6_mark 0 = .ok (.iload_n 1, 1) := by decide +kernel
theorem dX6_mark_1 : decode cX6_mark 1 = .ok (.invokestatic 170, 3) := by decide +kernel
theorem dX6_mark_4 : decode cX6_mark 4 = .ok (.ifCond .ne 7, 3) := by decide +kernel
theorem dX6_mark_7 : decode cX6_mark 7 = .ok (.ldc2_w 79, 3) := by decide +kernel
theorem dX6_mark_10 : decode cX6_mark 10 = .ok (.lreturn, 1) := by decide +kernel
theorem dX6_mark_11 : decode cX6_mark 11 = .ok (.aload_n 0, 1) := by decide +kernel
theorem dX6_mark_12 : decode cX6_mark 12 = .ok (.getfield 41, 3) := by decide +kernel
theorem dX6_mark_15 : decode cX6_mark 15 = .ok (.iload_n 1, 1) := by decide +kernel
theorem dX6_mark_16 : decode cX6_mark 16 = .ok (.iaload, 1) := by decide +kernel
theorem dX6_mark_17 : decode cX6_mark 17 = .ok (.ifCond .ge 7, 3) := by decide +kernel
theorem dX6_mark_20 : decode cX6_mark 20 = .ok (.ldc2_w 173, 3) := by decide +kernel
theorem dX6_mark_23 : decode cX6_mark 23 = .ok (.lreturn, 1) := by decide +kernel
theorem dX6_mark_24 : decode cX6_mark 24 = .ok (.iload_n 2, 1) := by decide +kernel
theorem dX6_mark_25 : decode cX6_mark 25 = .ok (.iconst 0, 1) := by decide +kernel
theorem dX6_mark_26 : decode cX6_mark 26 = .ok (.aload_n 0, 1) := by decide +kernel
theorem dX6_mark_27 : decode cX6_mark 27 = .ok (.getfield 41, 3) := by decide +kernel
theorem dX6_mark_30 : decode cX6_mark 30 = .ok (.iload_n 1, 1) := by decide +kernel
theorem dX6_mark_31 : decode cX6_mark 31 = .ok (.iaload, 1) := by decide +kernel
theorem dX6_mark_32 : decode cX6_mark 32 = .ok (.iconst 1, 1) := by decide +kernel
theorem dX6_mark_33 : decode cX6_mark 33 = .ok (.isub, 1) := by decide +kernel
theorem dX6_mark_34 : decode cX6_mark 34 = .ok (.invokestatic 75, 3) := by decide +kernel
theorem dX6_mark_37 : decode cX6_mark 37 = .ok (.ifCond .ne 7, 3) := by decide +kernel
theorem dX6_mark_40 : decode cX6_mark 40 = .ok (.ldc2_w 195, 3) := by decide +kernel
theorem dX6_mark_43 : decode cX6_mark 43 = .ok (.lreturn, 1) := by decide +kernel
theorem dX6_mark_44 : decode cX6_mark 44 = .ok (.aload_n 0, 1) := by decide +kernel
theorem dX6_mark_45 : decode cX6_mark 45 = .ok (.getfield 44, 3) := by decide +kernel
theorem dX6_mark_48 : decode cX6_mark 48 = .ok (.bipush 24, 2) := by decide +kernel
theorem dX6_mark_50 : decode cX6_mark 50 = .ok (.iload_n 1, 1) := by decide +kernel
theorem dX6_mark_51 : decode cX6_mark 51 = .ok (.imul, 1) := by decide +kernel
theorem dX6_mark_52 : decode cX6_mark 52 = .ok (.iload_n 2, 1) := by decide +kernel
theorem dX6_mark_53 : decode cX6_mark 53 = .ok (.iadd, 1) := by decide +kernel
theorem dX6_mark_54 : decode cX6_mark 54 = .ok (.iaload, 1) := by decide +kernel
theorem dX6_mark_55 : decode cX6_mark 55 = .ok (.istore 4, 2) := by decide +kernel
theorem dX6_mark_57 : decode cX6_mark 57 = .ok (.aload_n 0, 1) := by decide +kernel
theorem dX6_mark_58 : decode cX6_mark 58 = .ok (.getfield 44, 3) := by decide +kernel
theorem dX6_mark_61 : decode cX6_mark 61 = .ok (.bipush 24, 2) := by decide +kernel
theorem dX6_mark_63 : decode cX6_mark 63 = .ok (.iload_n 1, 1) := by decide +kernel
theorem dX6_mark_64 : decode cX6_mark 64 = .ok (.imul, 1) := by decide +kernel
theorem dX6_mark_65 : decode cX6_mark 65 = .ok (.iload_n 2, 1) := by decide +kernel
theorem dX6_mark_66 : decode cX6_mark 66 = .ok (.iadd, 1) := by decide +kernel
theorem dX6_mark_67 : decode cX6_mark 67 = .ok (.iload_n 3, 1) := by decide +kernel
theorem dX6_mark_68 : decode cX6_mark 68 = .ok (.i2s, 1) := by decide +kernel
theorem dX6_mark_69 : decode cX6_mark 69 = .ok (.iastore, 1) := by decide +kernel
theorem dX6_mark_70 : decode cX6_mark 70 = .ok (.iload 4, 2) := by decide +kernel
theorem dX6_mark_72 : decode cX6_mark 72 = .ok (.i2l, 1) := by decide +kernel
theorem dX6_mark_73 : decode cX6_mark 73 = .ok (.lreturn, 1) := by decide +kernel
theorem dX6_copy_0 : decode cX6_copy 0 = .ok (.iload_n 1, 1) := by decide +kernel
theorem dX6_copy_1 : decode cX6_copy 1 = .ok (.invokestatic 170, 3) := by decide +kernel
theorem dX6_copy_4 : decode cX6_copy 4 = .ok (.ifCond .eq 10, 3) := by decide +kernel
theorem dX6_copy_7 : decode cX6_copy 7 = .ok (.iload_n 3, 1) := by decide +kernel
theorem dX6_copy_8 : decode cX6_copy 8 = .ok (.invokestatic 170, 3) := by decide +kernel
theorem dX6_copy_11 : decode cX6_copy 11 = .ok (.ifCond .ne 7, 3) := by decide +kernel
theorem dX6_copy_14 : decode cX6_copy 14 = .ok (.ldc2_w 79, 3) := by decide +kernel
theorem dX6_copy_17 : decode cX6_copy 17 = .ok (.lreturn, 1) := by decide +kernel
theorem dX6_copy_18 : decode cX6_copy 18 = .ok (.aload_n 0, 1) := by decide +kernel
theorem dX6_copy_19 : decode cX6_copy 19 = .ok (.getfield 41, 3) := by decide +kernel
theorem dX6_copy_22 : decode cX6_copy 22 = .ok (.iload_n 1, 1) := by decide +kernel
theorem dX6_copy_23 : decode cX6_copy 23 = .ok (.iaload, 1) := by decide +kernel
theorem dX6_copy_24 : decode cX6_copy 24 = .ok (.ifCond .lt 12, 3) := by decide +kernel
theorem dX6_copy_27 : decode cX6_copy 27 = .ok (.aload_n 0, 1) := by decide +kernel
theorem dX6_copy_28 : decode cX6_copy 28 = .ok (.getfield 41, 3) := by decide +kernel
theorem dX6_copy_31 : decode cX6_copy 31 = .ok (.iload_n 3, 1) := by decide +kernel
theorem dX6_copy_32 : decode cX6_copy 32 = .ok (.iaload, 1) := by decide +kernel
theorem dX6_copy_33 : decode cX6_copy 33 = .ok (.ifCond .ge 7, 3) := by decide +kernel
theorem dX6_copy_36 : decode cX6_copy 36 = .ok (.ldc2_w 173, 3) := by decide +kernel
theorem dX6_copy_39 : decode cX6_copy 39 = .ok (.lreturn, 1) := by decide +kernel
theorem dX6_copy_40 : decode cX6_copy 40 = .ok (.iload_n 2, 1) := by decide +kernel
theorem dX6_copy_41 : decode cX6_copy 41 = .ok (.ifCond .lt 48, 3) := by decide +kernel
theorem dX6_copy_44 : decode cX6_copy 44 = .ok (.iload 4, 2) := by decide +kernel
theorem dX6_copy_46 : decode cX6_copy 46 = .ok (.ifCond .lt 43, 3) := by decide +kernel
theorem dX6_copy_49 : decode cX6_copy 49 = .ok (.iload 5, 2) := by decide +kernel
theorem dX6_copy_51 : decode cX6_copy 51 = .ok (.ifCond .lt 38, 3) := by decide +kernel
theorem dX6_copy_54 : decode cX6_copy 54 = .ok (.iload_n 2, 1) := by decide +kernel
theorem dX6_copy_55 : decode cX6_copy 55 = .ok (.i2l, 1) := by decide +kernel
theorem dX6_copy_56 : decode cX6_copy 56 = .ok (.iload 5, 2) := by decide +kernel
theorem dX6_copy_58 : decode cX6_copy 58 = .ok (.i2l, 1) := by decide +kernel
theorem dX6_copy_59 : decode cX6_copy 59 = .ok (.ladd, 1) := by decide +kernel
theorem dX6_copy_60 : decode cX6_copy 60 = .ok (.aload_n 0, 1) := by decide +kernel
theorem dX6_copy_61 : decode cX6_copy 61 = .ok (.getfield 41, 3) := by decide +kernel
theorem dX6_copy_64 : decode cX6_copy 64 = .ok (.iload_n 1, 1) := by decide +kernel
theorem dX6_copy_65 : decode cX6_copy 65 = .ok (.iaload, 1) := by decide +kernel
theorem dX6_copy_66 : decode cX6_copy 66 = .ok (.i2l, 1) := by decide +kernel
theorem dX6_copy_67 : decode cX6_copy 67 = .ok (.lcmp, 1) := by decide +kernel
theorem dX6_copy_68 : decode cX6_copy 68 = .ok (.ifCond .gt 21, 3) := by decide +kernel
theorem dX6_copy_71 : decode cX6_copy 71 = .ok (.iload 4, 2) := by decide +kernel
theorem dX6_copy_73 : decode cX6_copy 73 = .ok (.i2l, 1) := by decide +kernel
theorem dX6_copy_74 : decode cX6_copy 74 = .ok (.iload 5, 2) := by decide +kernel
theorem dX6_copy_76 : decode cX6_copy 76 = .ok (.i2l, 1) := by decide +kernel
theorem dX6_copy_77 : decode cX6_copy 77 = .ok (.ladd, 1) := by decide +kernel
theorem dX6_copy_78 : decode cX6_copy 78 = .ok (.aload_n 0, 1) := by decide +kernel
theorem dX6_copy_79 : decode cX6_copy 79 = .ok (.getfield 41, 3) := by decide +kernel
theorem dX6_copy_82 : decode cX6_copy 82 = .ok (.iload_n 3, 1) := by decide +kernel
theorem dX6_copy_83 : decode cX6_copy 83 = .ok (.iaload, 1) := by decide +kernel
theorem dX6_copy_84 : decode cX6_copy 84 = .ok (.i2l, 1) := by decide +kernel
theorem dX6_copy_85 : decode cX6_copy 85 = .ok (.lcmp, 1) := by decide +kernel
theorem dX6_copy_86 : decode cX6_copy 86 = .ok (.ifCond .le 7, 3) := by decide +kernel
theorem dX6_copy_89 : decode cX6_copy 89 = .ok (.ldc2_w 195, 3) := by decide +kernel
theorem dX6_copy_92 : decode cX6_copy 92 = .ok (.lreturn, 1) := by decide +kernel
theorem dX6_copy_93 : decode cX6_copy 93 = .ok (.iconst 0, 1) := by decide +kernel
theorem dX6_copy_94 : decode cX6_copy 94 = .ok (.istore 6, 2) := by decide +kernel
theorem dX6_copy_96 : decode cX6_copy 96 = .ok (.iload 6, 2) := by decide +kernel
theorem dX6_copy_98 : decode cX6_copy 98 = .ok (.iload 5, 2) := by decide +kernel
theorem dX6_copy_100 : decode cX6_copy 100 = .ok (.if_icmp .ge 30, 3) := by decide +kernel
theorem dX6_copy_103 : decode cX6_copy 103 = .ok (.aload_n 0, 1) := by decide +kernel
theorem dX6_copy_104 : decode cX6_copy 104 = .ok (.getfield 72, 3) := by decide +kernel
theorem dX6_copy_107 : decode cX6_copy 107 = .ok (.iload 6, 2) := by decide +kernel
theorem dX6_copy_109 : decode cX6_copy 109 = .ok (.aload_n 0, 1) := by decide +kernel
theorem dX6_copy_110 : decode cX6_copy 110 = .ok (.getfield 44, 3) := by decide +kernel
theorem dX6_copy_113 : decode cX6_copy 113 = .ok (.bipush 24, 2) := by decide +kernel
theorem dX6_copy_115 : decode cX6_copy 115 = .ok (.iload_n 1, 1) := by decide +kernel
theorem dX6_copy_116 : decode cX6_copy 116 = .ok (.imul, 1) := by decide +kernel
theorem dX6_copy_117 : decode cX6_copy 117 = .ok (.iload_n 2, 1) := by decide +kernel
theorem dX6_copy_118 : decode cX6_copy 118 = .ok (.iadd, 1) := by decide +kernel
theorem dX6_copy_119 : decode cX6_copy 119 = .ok (.iload 6, 2) := by decide +kernel
theorem dX6_copy_121 : decode cX6_copy 121 = .ok (.iadd, 1) := by decide +kernel
theorem dX6_copy_122 : decode cX6_copy 122 = .ok (.iaload, 1) := by decide +kernel
theorem dX6_copy_123 : decode cX6_copy 123 = .ok (.iastore, 1) := by decide +kernel
theorem dX6_copy_124 : decode cX6_copy 124 = .ok (.iinc 6 1, 3) := by decide +kernel
theorem dX6_copy_127 : decode cX6_copy 127 = .ok (.goto (-31), 3) := by decide +kernel
theorem dX6_copy_130 : decode cX6_copy 130 = .ok (.iconst 0, 1) := by decide +kernel
theorem dX6_copy_131 : decode cX6_copy 131 = .ok (.istore 6, 2) := by decide +kernel
theorem dX6_copy_133 : decode cX6_copy 133 = .ok (.iload 6, 2) := by decide +kernel
theorem dX6_copy_135 : decode cX6_copy 135 = .ok (.iload 5, 2) := by decide +kernel
theorem dX6_copy_137 : decode cX6_copy 137 = .ok (.if_icmp .ge 31, 3) := by decide +kernel
theorem dX6_copy_140 : decode cX6_copy 140 = .ok (.aload_n 0, 1) := by decide +kernel
theorem dX6_copy_141 : decode cX6_copy 141 = .ok (.getfield 44, 3) := by decide +kernel
theorem dX6_copy_144 : decode cX6_copy 144 = .ok (.bipush 24, 2) := by decide +kernel
theorem dX6_copy_146 : decode cX6_copy 146 = .ok (.iload_n 3, 1) := by decide +kernel
theorem dX6_copy_147 : decode cX6_copy 147 = .ok (.imul, 1) := by decide +kernel
theorem dX6_copy_148 : decode cX6_copy 148 = .ok (.iload 4, 2) := by decide +kernel
theorem dX6_copy_150 : decode cX6_copy 150 = .ok (.iadd, 1) := by decide +kernel
theorem dX6_copy_151 : decode cX6_copy 151 = .ok (.iload 6, 2) := by decide +kernel
theorem dX6_copy_153 : decode cX6_copy 153 = .ok (.iadd, 1) := by decide +kernel
theorem dX6_copy_154 : decode cX6_copy 154 = .ok (.aload_n 0, 1) := by decide +kernel
theorem dX6_copy_155 : decode cX6_copy 155 = .ok (.getfield 72, 3) := by decide +kernel
theorem dX6_copy_158 : decode cX6_copy 158 = .ok (.iload 6, 2) := by decide +kernel
theorem dX6_copy_160 : decode cX6_copy 160 = .ok (.iaload, 1) := by decide +kernel
theorem dX6_copy_161 : decode cX6_copy 161 = .ok (.iastore, 1) := by decide +kernel
theorem dX6_copy_162 : decode cX6_copy 162 = .ok (.iinc 6 1, 3) := by decide +kernel
theorem dX6_copy_165 : decode cX6_copy 165 = .ok (.goto (-32), 3) := by decide +kernel
theorem dX6_copy_168 : decode cX6_copy 168 = .ok (.iload 5, 2) := by decide +kernel
theorem dX6_copy_170 : decode cX6_copy 170 = .ok (.i2l, 1) := by decide +kernel
theorem dX6_copy_171 : decode cX6_copy 171 = .ok (.lreturn, 1) := by decide +kernel
theorem dX6_count_0 : decode cX6_count 0 = .ok (.iconst 0, 1) := by decide +kernel
theorem dX6_count_1 : decode cX6_count 1 = .ok (.istore_n 2, 1) := by decide +kernel
theorem dX6_count_2 : decode cX6_count 2 = .ok (.iload_n 1, 1) := by decide +kernel
theorem dX6_count_3 : decode cX6_count 3 = .ok (.tableswitch 111 0 3 #[29, 29, 74, 80], 29) := by decide +kernel
theorem dX6_count_32 : decode cX6_count 32 = .ok (.iconst 0, 1) := by decide +kernel
theorem dX6_count_33 : decode cX6_count 33 = .ok (.istore_n 3, 1) := by decide +kernel
theorem dX6_count_34 : decode cX6_count 34 = .ok (.iload_n 3, 1) := by decide +kernel
theorem dX6_count_35 : decode cX6_count 35 = .ok (.bipush 72, 2) := by decide +kernel
theorem dX6_count_37 : decode cX6_count 37 = .ok (.if_icmp .ge 37, 3) := by decide +kernel
theorem dX6_count_40 : decode cX6_count 40 = .ok (.iload_n 2, 1) := by decide +kernel
theorem dX6_count_41 : decode cX6_count 41 = .ok (.aload_n 0, 1) := by decide +kernel
theorem dX6_count_42 : decode cX6_count 42 = .ok (.iload_n 3, 1) := by decide +kernel
theorem dX6_count_43 : decode cX6_count 43 = .ok (.invokevirtual 138, 3) := by decide +kernel
theorem dX6_count_46 : decode cX6_count 46 = .ok (.ifCond .eq 19, 3) := by decide +kernel
theorem dX6_count_49 : decode cX6_count 49 = .ok (.iload_n 1, 1) := by decide +kernel
theorem dX6_count_50 : decode cX6_count 50 = .ok (.iconst 1, 1) := by decide +kernel
theorem dX6_count_51 : decode cX6_count 51 = .ok (.if_icmp .eq 10, 3) := by decide +kernel
theorem dX6_count_54 : decode cX6_count 54 = .ok (.iload_n 3, 1) := by decide +kernel
theorem dX6_count_55 : decode cX6_count 55 = .ok (.bipush 6, 2) := by decide +kernel
theorem dX6_count_57 : decode cX6_count 57 = .ok (.irem, 1) := by decide +kernel
theorem dX6_count_58 : decode cX6_count 58 = .ok (.ifCond .ne 7, 3) := by decide +kernel
theorem dX6_count_61 : decode cX6_count 61 = .ok (.iconst 1, 1) := by decide +kernel
theorem dX6_count_62 : decode cX6_count 62 = .ok (.goto 4, 3) := by decide +kernel
theorem dX6_count_65 : decode cX6_count 65 = .ok (.iconst 0, 1) := by decide +kernel
theorem dX6_count_66 : decode cX6_count 66 = .ok (.iadd, 1) := by decide +kernel
theorem dX6_count_67 : decode cX6_count 67 = .ok (.istore_n 2, 1) := by decide +kernel
theorem dX6_count_68 : decode cX6_count 68 = .ok (.iinc 3 1, 3) := by decide +kernel
theorem dX6_count_71 : decode cX6_count 71 = .ok (.goto (-37), 3) := by decide +kernel
theorem dX6_count_74 : decode cX6_count 74 = .ok (.iload_n 2, 1) := by decide +kernel
theorem dX6_count_75 : decode cX6_count 75 = .ok (.i2l, 1) := by decide +kernel
theorem dX6_count_76 : decode cX6_count 76 = .ok (.lreturn, 1) := by decide +kernel
theorem dX6_count_77 : decode cX6_count 77 = .ok (.aload_n 0, 1) := by decide +kernel
theorem dX6_count_78 : decode cX6_count 78 = .ok (.getfield 159, 3) := by decide +kernel
theorem dX6_count_81 : decode cX6_count 81 = .ok (.i2l, 1) := by decide +kernel
theorem dX6_count_82 : decode cX6_count 82 = .ok (.lreturn, 1) := by decide +kernel
theorem dX6_count_83 : decode cX6_count 83 = .ok (.aload_n 0, 1) := by decide +kernel
theorem dX6_count_84 : decode cX6_count 84 = .ok (.getfield 41, 3) := by decide +kernel
theorem dX6_count_87 : decode cX6_count 87 = .ok (.iconst 0, 1) := by decide +kernel
theorem dX6_count_88 : decode cX6_count 88 = .ok (.iaload, 1) := by decide +kernel
theorem dX6_count_89 : decode cX6_count 89 = .ok (.ifCond .ge 7, 3) := by decide +kernel
theorem dX6_count_92 : decode cX6_count 92 = .ok (.iconst 0, 1) := by decide +kernel
theorem dX6_count_93 : decode cX6_count 93 = .ok (.goto 4, 3) := by decide +kernel
theorem dX6_count_96 : decode cX6_count 96 = .ok (.iconst 1, 1) := by decide +kernel
theorem dX6_count_97 : decode cX6_count 97 = .ok (.aload_n 0, 1) := by decide +kernel
theorem dX6_count_98 : decode cX6_count 98 = .ok (.getfield 41, 3) := by decide +kernel
theorem dX6_count_101 : decode cX6_count 101 = .ok (.iconst 1, 1) := by decide +kernel
theorem dX6_count_102 : decode cX6_count 102 = .ok (.iaload, 1) := by decide +kernel
theorem dX6_count_103 : decode cX6_count 103 = .ok (.ifCond .ge 7, 3) := by decide +kernel
theorem dX6_count_106 : decode cX6_count 106 = .ok (.iconst 0, 1) := by decide +kernel
theorem dX6_count_107 : decode cX6_count 107 = .ok (.goto 4, 3) := by decide +kernel
theorem dX6_count_110 : decode cX6_count 110 = .ok (.iconst 1, 1) := by decide +kernel
theorem dX6_count_111 : decode cX6_count 111 = .ok (.iadd, 1) := by decide +kernel
theorem dX6_count_112 : decode cX6_count 112 = .ok (.i2l, 1) := by decide +kernel
theorem dX6_count_113 : decode cX6_count 113 = .ok (.lreturn, 1) := by decide +kernel
theorem dX6_count_114 : decode cX6_count 114 = .ok (.ldc2_w 79, 3) := by decide +kernel
theorem dX6_count_117 : decode cX6_count 117 = .ok (.lreturn, 1) := by decide +kernel
end
section
theorem dL_law_0 : decode cL_law 0 = .ok (.new 7, 3) := by decide +kernel
theorem dL_law_3 : decode cL_law 3 = .ok (.dup, 1) := by decide +kernel
theorem dL_law_4 : decode cL_law 4 = .ok (.invokespecial 9, 3) := by decide +kernel
theorem dL_law_7 : decode cL_law 7 = .ok (.astore_n 1, 1) := by decide +kernel
theorem dL_law_8 : decode cL_law 8 = .ok (.new 10, 3) := by decide +kernel
theorem dL_law_11 : decode cL_law 11 = .ok (.dup, 1) := by decide +kernel
theorem dL_law_12 : decode cL_law 12 = .ok (.invokespecial 12, 3) := by decide +kernel
theorem dL_law_15 : decode cL_law 15 = .ok (.astore_n 2, 1) := by decide +kernel
theorem dL_law_16 : decode cL_law 16 = .ok (.iconst 0, 1) := by decide +kernel
theorem dL_law_17 : decode cL_law 17 = .ok (.istore_n 3, 1) := by decide +kernel
theorem dL_law_18 : decode cL_law 18 = .ok (.iload_n 3, 1) := by decide +kernel
theorem dL_law_19 : decode cL_law 19 = .ok (.aload_n 0, 1) := by decide +kernel
theorem dL_law_20 : decode cL_law 20 = .ok (.arraylength, 1) := by decide +kernel
theorem dL_law_21 : decode cL_law 21 = .ok (.bipush 6, 2) := by decide +kernel
theorem dL_law_23 : decode cL_law 23 = .ok (.isub, 1) := by decide +kernel
theorem dL_law_24 : decode cL_law 24 = .ok (.if_icmp .gt 986, 3) := by decide +kernel
theorem dL_law_27 : decode cL_law 27 = .ok (.aload_n 0, 1) := by decide +kernel
theorem dL_law_28 : decode cL_law 28 = .ok (.iload_n 3, 1) := by decide +kernel
theorem dL_law_29 : decode cL_law 29 = .ok (.iaload, 1) := by decide +kernel
theorem dL_law_30 : decode cL_law 30 = .ok (.bipush 31, 2) := by decide +kernel
theorem dL_law_32 : decode cL_law 32 = .ok (.iand, 1) := by decide +kernel
theorem dL_law_33 : decode cL_law 33 = .ok (.tableswitch 971 0 26 #[123, 157, 181, 215, 249, 283, 327, 361, 395, 419, 443, 457, 471, 505, 529, 553, 567, 601, 645, 679, 703, 727, 761, 805, 839, 883, 947], 123) := by decide +kernel
theorem dL_law_156 : decode cL_law 156 = .ok (.aload_n 1, 1) := by decide +kernel
theorem dL_law_157 : decode cL_law 157 = .ok (.aload_n 0, 1) := by decide +kernel
theorem dL_law_158 : decode cL_law 158 = .ok (.iload_n 3, 1) := by decide +kernel
theorem dL_law_159 : decode cL_law 159 = .ok (.iconst 1, 1) := by decide +kernel
theorem dL_law_160 : decode cL_law 160 = .ok (.iadd, 1) := by decide +kernel
theorem dL_law_161 : decode cL_law 161 = .ok (.iaload, 1) := by decide +kernel
theorem dL_law_162 : decode cL_law 162 = .ok (.aload_n 0, 1) := by decide +kernel
theorem dL_law_163 : decode cL_law 163 = .ok (.iload_n 3, 1) := by decide +kernel
theorem dL_law_164 : decode cL_law 164 = .ok (.iconst 2, 1) := by decide +kernel
theorem dL_law_165 : decode cL_law 165 = .ok (.iadd, 1) := by decide +kernel
theorem dL_law_166 : decode cL_law 166 = .ok (.iaload, 1) := by decide +kernel
theorem dL_law_167 : decode cL_law 167 = .ok (.invokevirtual 13, 3) := by decide +kernel
theorem dL_law_170 : decode cL_law 170 = .ok (.aload_n 2, 1) := by decide +kernel
theorem dL_law_171 : decode cL_law 171 = .ok (.aload_n 0, 1) := by decide +kernel
theorem dL_law_172 : decode cL_law 172 = .ok (.iload_n 3, 1) := by decide +kernel
theorem dL_law_173 : decode cL_law 173 = .ok (.iconst 1, 1) := by decide +kernel
theorem dL_law_174 : decode cL_law 174 = .ok (.iadd, 1) := by decide +kernel
theorem dL_law_175 : decode cL_law 175 = .ok (.iaload, 1) := by decide +kernel
theorem dL_law_176 : decode cL_law 176 = .ok (.aload_n 0, 1) := by decide +kernel
theorem dL_law_177 : decode cL_law 177 = .ok (.iload_n 3, 1) := by decide +kernel
theorem dL_law_178 : decode cL_law 178 = .ok (.iconst 2, 1) := by decide +kernel
theorem dL_law_179 : decode cL_law 179 = .ok (.iadd, 1) := by decide +kernel
theorem dL_law_180 : decode cL_law 180 = .ok (.iaload, 1) := by decide +kernel
theorem dL_law_181 : decode cL_law 181 = .ok (.invokevirtual 17, 3) := by decide +kernel
theorem dL_law_184 : decode cL_law 184 = .ok (.lcmp, 1) := by decide +kernel
theorem dL_law_185 : decode cL_law 185 = .ok (.ifCond .eq 819, 3) := by decide +kernel
theorem dL_law_188 : decode cL_law 188 = .ok (.iconst 0, 1) := by decide +kernel
theorem dL_law_189 : decode cL_law 189 = .ok (.ireturn, 1) := by decide +kernel
theorem dL_law_190 : decode cL_law 190 = .ok (.aload_n 1, 1) := by decide +kernel
theorem dL_law_191 : decode cL_law 191 = .ok (.aload_n 0, 1) := by decide +kernel
theorem dL_law_192 : decode cL_law 192 = .ok (.iload_n 3, 1) := by decide +kernel
theorem dL_law_193 : decode cL_law 193 = .ok (.iconst 1, 1) := by decide +kernel
theorem dL_law_194 : decode cL_law 194 = .ok (.iadd, 1) := by decide +kernel
theorem dL_law_195 : decode cL_law 195 = .ok (.iaload, 1) := by decide +kernel
theorem dL_law_196 : decode cL_law 196 = .ok (.invokevirtual 18, 3) := by decide +kernel
theorem dL_law_199 : decode cL_law 199 = .ok (.aload_n 2, 1) := by decide +kernel
theorem dL_law_200 : decode cL_law 200 = .ok (.aload_n 0, 1) := by decide +kernel
theorem dL_law_201 : decode cL_law 201 = .ok (.iload_n 3, 1) := by decide +kernel
theorem dL_law_202 : decode cL_law 202 = .ok (.iconst 1, 1) := by decide +kernel
theorem dL_law_203 : decode cL_law 203 = .ok (.iadd, 1) := by decide +kernel
theorem dL_law_204 : decode cL_law 204 = .ok (.iaload, 1) := by decide +kernel
theorem dL_law_205 : decode cL_law 205 = .ok (.invokevirtual 22, 3) := by decide +kernel
theorem dL_law_208 : decode cL_law 208 = .ok (.lcmp, 1) := by decide +kernel
theorem dL_law_209 : decode cL_law 209 = .ok (.ifCond .eq 795, 3) := by decide +kernel
theorem dL_law_212 : decode cL_law 212 = .ok (.iconst 0, 1) := by decide +kernel
theorem dL_law_213 : decode cL_law 213 = .ok (.ireturn, 1) := by decide +kernel
theorem dL_law_214 : decode cL_law 214 = .ok (.aload_n 1, 1) := by decide +kernel
theorem dL_law_215 : decode cL_law 215 = .ok (.aload_n 0, 1) := by decide +kernel
theorem dL_law_216 : decode cL_law 216 = .ok (.iload_n 3, 1) := by decide +kernel
theorem dL_law_217 : decode cL_law 217 = .ok (.iconst 1, 1) := by decide +kernel
theorem dL_law_218 : decode cL_law 218 = .ok (.iadd, 1) := by decide +kernel
theorem dL_law_219 : decode cL_law 219 = .ok (.iaload, 1) := by decide +kernel
theorem dL_law_220 : decode cL_law 220 = .ok (.aload_n 0, 1) := by decide +kernel
theorem dL_law_221 : decode cL_law 221 = .ok (.iload_n 3, 1) := by decide +kernel
theorem dL_law_222 : decode cL_law 222 = .ok (.iconst 2, 1) := by decide +kernel
theorem dL_law_223 : decode cL_law 223 = .ok (.iadd, 1) := by decide +kernel
theorem dL_law_224 : decode cL_law 224 = .ok (.iaload, 1) := by decide +kernel
theorem dL_law_225 : decode cL_law 225 = .ok (.invokevirtual 23, 3) := by decide +kernel
theorem dL_law_228 : decode cL_law 228 = .ok (.aload_n 2, 1) := by decide +kernel
theorem dL_law_229 : decode cL_law 229 = .ok (.aload_n 0, 1) := by decide +kernel
theorem dL_law_230 : decode cL_law 230 = .ok (.iload_n 3, 1) := by decide +kernel
theorem dL_law_231 : decode cL_law 231 = .ok (.iconst 1, 1) := by decide +kernel
theorem dL_law_232 : decode cL_law 232 = .ok (.iadd, 1) := by decide +kernel
theorem dL_law_233 : decode cL_law 233 = .ok (.iaload, 1) := by decide +kernel
theorem dL_law_234 : decode cL_law 234 = .ok (.aload_n 0, 1) := by decide +kernel
theorem dL_law_235 : decode cL_law 235 = .ok (.iload_n 3, 1) := by decide +kernel
theorem dL_law_236 : decode cL_law 236 = .ok (.iconst 2, 1) := by decide +kernel
theorem dL_law_237 : decode cL_law 237 = .ok (.iadd, 1) := by decide +kernel
theorem dL_law_238 : decode cL_law 238 = .ok (.iaload, 1) := by decide +kernel
theorem dL_law_239 : decode cL_law 239 = .ok (.invokevirtual 26, 3) := by decide +kernel
theorem dL_law_242 : decode cL_law 242 = .ok (.lcmp, 1) := by decide +kernel
theorem dL_law_243 : decode cL_law 243 = .ok (.ifCond .eq 761, 3) := by decide +kernel
theorem dL_law_246 : decode cL_law 246 = .ok (.iconst 0, 1) := by decide +kernel
theorem dL_law_247 : decode cL_law 247 = .ok (.ireturn, 1) := by decide +kernel
theorem dL_law_248 : decode cL_law 248 = .ok (.aload_n 1, 1) := by decide +kernel
theorem dL_law_249 : decode cL_law 249 = .ok (.aload_n 0, 1) := by decide +kernel
theorem dL_law_250 : decode cL_law 250 = .ok (.iload_n 3, 1) := by decide +kernel
theorem dL_law_251 : decode cL_law 251 = .ok (.iconst 1, 1) := by decide +kernel
theorem dL_law_252 : decode cL_law 252 = .ok (.iadd, 1) := by decide +kernel
theorem dL_law_253 : decode cL_law 253 = .ok (.iaload, 1) := by decide +kernel
theorem dL_law_254 : decode cL_law 254 = .ok (.aload_n 0, 1) := by decide +kernel
theorem dL_law_255 : decode cL_law 255 = .ok (.iload_n 3, 1) := by decide +kernel
theorem dL_law_256 : decode cL_law 256 = .ok (.iconst 2, 1) := by decide +kernel
theorem dL_law_257 : decode cL_law 257 = .ok (.iadd, 1) := by decide +kernel
theorem dL_law_258 : decode cL_law 258 = .ok (.iaload, 1) := by decide +kernel
theorem dL_law_259 : decode cL_law 259 = .ok (.invokevirtual 27, 3) := by decide +kernel
theorem dL_law_262 : decode cL_law 262 = .ok (.aload_n 2, 1) := by decide +kernel
theorem dL_law_263 : decode cL_law 263 = .ok (.aload_n 0, 1) := by decide +kernel
theorem dL_law_264 : decode cL_law 264 = .ok (.iload_n 3, 1) := by decide +kernel
theorem dL_law_265 : decode cL_law 265 = .ok (.iconst 1, 1) := by decide +kernel
theorem dL_law_266 : decode cL_law 266 = .ok (.iadd, 1) := by decide +kernel
theorem dL_law_267 : decode cL_law 267 = .ok (.iaload, 1) := by decide +kernel
theorem dL_law_268 : decode cL_law 268 = .ok (.aload_n 0, 1) := by decide +kernel
theorem dL_law_269 : decode cL_law 269 = .ok (.iload_n 3, 1) := by decide +kernel
theorem dL_law_270 : decode cL_law 270 = .ok (.iconst 2, 1) := by decide +kernel
theorem dL_law_271 : decode cL_law 271 = .ok (.iadd, 1) := by decide +kernel
theorem dL_law_272 : decode cL_law 272 = .ok (.iaload, 1) := by decide +kernel
theorem dL_law_273 : decode cL_law 273 = .ok (.invokevirtual 30, 3) := by decide +kernel
theorem dL_law_276 : decode cL_law 276 = .ok (.lcmp, 1) := by decide +kernel
theorem dL_law_277 : decode cL_law 277 = .ok (.ifCond .eq 727, 3) := by decide +kernel
theorem dL_law_280 : decode cL_law 280 = .ok (.iconst 0, 1) := by decide +kernel
theorem dL_law_281 : decode cL_law 281 = .ok (.ireturn, 1) := by decide +kernel
theorem dL_law_282 : decode cL_law 282 = .ok (.aload_n 1, 1) := by decide +kernel
theorem dL_law_283 : decode cL_law 283 = .ok (.aload_n 0, 1) := by decide +kernel
theorem dL_law_284 : decode cL_law 284 = .ok (.iload_n 3, 1) := by decide +kernel
theorem dL_law_285 : decode cL_law 285 = .ok (.iconst 1, 1) := by decide +kernel
theorem dL_law_286 : decode cL_law 286 = .ok (.iadd, 1) := by decide +kernel
theorem dL_law_287 : decode cL_law 287 = .ok (.iaload, 1) := by decide +kernel
theorem dL_law_288 : decode cL_law 288 = .ok (.aload_n 0, 1) := by decide +kernel
theorem dL_law_289 : decode cL_law 289 = .ok (.iload_n 3, 1) := by decide +kernel
theorem dL_law_290 : decode cL_law 290 = .ok (.iconst 2, 1) := by decide +kernel
theorem dL_law_291 : decode cL_law 291 = .ok (.iadd, 1) := by decide +kernel
theorem dL_law_292 : decode cL_law 292 = .ok (.iaload, 1) := by decide +kernel
theorem dL_law_293 : decode cL_law 293 = .ok (.invokevirtual 31, 3) := by decide +kernel
theorem dL_law_296 : decode cL_law 296 = .ok (.aload_n 2, 1) := by decide +kernel
theorem dL_law_297 : decode cL_law 297 = .ok (.aload_n 0, 1) := by decide +kernel
theorem dL_law_298 : decode cL_law 298 = .ok (.iload_n 3, 1) := by decide +kernel
theorem dL_law_299 : decode cL_law 299 = .ok (.iconst 1, 1) := by decide +kernel
theorem dL_law_300 : decode cL_law 300 = .ok (.iadd, 1) := by decide +kernel
theorem dL_law_301 : decode cL_law 301 = .ok (.iaload, 1) := by decide +kernel
theorem dL_law_302 : decode cL_law 302 = .ok (.aload_n 0, 1) := by decide +kernel
theorem dL_law_303 : decode cL_law 303 = .ok (.iload_n 3, 1) := by decide +kernel
theorem dL_law_304 : decode cL_law 304 = .ok (.iconst 2, 1) := by decide +kernel
theorem dL_law_305 : decode cL_law 305 = .ok (.iadd, 1) := by decide +kernel
theorem dL_law_306 : decode cL_law 306 = .ok (.iaload, 1) := by decide +kernel
theorem dL_law_307 : decode cL_law 307 = .ok (.invokevirtual 34, 3) := by decide +kernel
theorem dL_law_310 : decode cL_law 310 = .ok (.lcmp, 1) := by decide +kernel
theorem dL_law_311 : decode cL_law 311 = .ok (.ifCond .eq 693, 3) := by decide +kernel
theorem dL_law_314 : decode cL_law 314 = .ok (.iconst 0, 1) := by decide +kernel
theorem dL_law_315 : decode cL_law 315 = .ok (.ireturn, 1) := by decide +kernel
theorem dL_law_316 : decode cL_law 316 = .ok (.aload_n 1, 1) := by decide +kernel
theorem dL_law_317 : decode cL_law 317 = .ok (.aload_n 0, 1) := by decide +kernel
theorem dL_law_318 : decode cL_law 318 = .ok (.iload_n 3, 1) := by decide +kernel
theorem dL_law_319 : decode cL_law 319 = .ok (.iconst 1, 1) := by decide +kernel
theorem dL_law_320 : decode cL_law 320 = .ok (.iadd, 1) := by decide +kernel
theorem dL_law_321 : decode cL_law 321 = .ok (.iaload, 1) := by decide +kernel
theorem dL_law_322 : decode cL_law 322 = .ok (.aload_n 0, 1) := by decide +kernel
theorem dL_law_323 : decode cL_law 323 = .ok (.iload_n 3, 1) := by decide +kernel
theorem dL_law_324 : decode cL_law 324 = .ok (.iconst 2, 1) := by decide +kernel
theorem dL_law_325 : decode cL_law 325 = .ok (.iadd, 1) := by decide +kernel
theorem dL_law_326 : decode cL_law 326 = .ok (.iaload, 1) := by decide +kernel
theorem dL_law_327 : decode cL_law 327 = .ok (.aload_n 0, 1) := by decide +kernel
theorem dL_law_328 : decode cL_law 328 = .ok (.iload_n 3, 1) := by decide +kernel
theorem dL_law_329 : decode cL_law 329 = .ok (.iconst 3, 1) := by decide +kernel
theorem dL_law_330 : decode cL_law 330 = .ok (.iadd, 1) := by decide +kernel
theorem dL_law_331 : decode cL_law 331 = .ok (.iaload, 1) := by decide +kernel
theorem dL_law_332 : decode cL_law 332 = .ok (.invokevirtual 35, 3) := by decide +kernel
theorem dL_law_335 : decode cL_law 335 = .ok (.aload_n 2, 1) := by decide +kernel
theorem dL_law_336 : decode cL_law 336 = .ok (.aload_n 0, 1) := by decide +kernel
theorem dL_law_337 : decode cL_law 337 = .ok (.iload_n 3, 1) := by decide +kernel
theorem dL_law_338 : decode cL_law 338 = .ok (.iconst 1, 1) := by decide +kernel
theorem dL_law_339 : decode cL_law 339 = .ok (.iadd, 1) := by decide +kernel
theorem dL_law_340 : decode cL_law 340 = .ok (.iaload, 1) := by decide +kernel
theorem dL_law_341 : decode cL_law 341 = .ok (.aload_n 0, 1) := by decide +kernel
theorem dL_law_342 : decode cL_law 342 = .ok (.iload_n 3, 1) := by decide +kernel
theorem dL_law_343 : decode cL_law 343 = .ok (.iconst 2, 1) := by decide +kernel
theorem dL_law_344 : decode cL_law 344 = .ok (.iadd, 1) := by decide +kernel
theorem dL_law_345 : decode cL_law 345 = .ok (.iaload, 1) := by decide +kernel
theorem dL_law_346 : decode cL_law 346 = .ok (.aload_n 0, 1) := by decide +kernel
theorem dL_law_347 : decode cL_law 347 = .ok (.iload_n 3, 1) := by decide +kernel
theorem dL_law_348 : decode cL_law 348 = .ok (.iconst 3, 1) := by decide +kernel
theorem dL_law_349 : decode cL_law 349 = .ok (.iadd, 1) := by decide +kernel
theorem dL_law_350 : decode cL_law 350 = .ok (.iaload, 1) := by decide +kernel
theorem dL_law_351 : decode cL_law 351 = .ok (.invokevirtual 39, 3) := by decide +kernel
theorem dL_law_354 : decode cL_law 354 = .ok (.lcmp, 1) := by decide +kernel
theorem dL_law_355 : decode cL_law 355 = .ok (.ifCond .eq 649, 3) := by decide +kernel
theorem dL_law_358 : decode cL_law 358 = .ok (.iconst 0, 1) := by decide +kernel
theorem dL_law_359 : decode cL_law 359 = .ok (.ireturn, 1) := by decide +kernel
theorem dL_law_360 : decode cL_law 360 = .ok (.aload_n 1, 1) := by decide +kernel
theorem dL_law_361 : decode cL_law 361 = .ok (.aload_n 0, 1) := by decide +kernel
theorem dL_law_362 : decode cL_law 362 = .ok (.iload_n 3, 1) := by decide +kernel
theorem dL_law_363 : decode cL_law 363 = .ok (.iconst 1, 1) := by decide +kernel
theorem dL_law_364 : decode cL_law 364 = .ok (.iadd, 1) := by decide +kernel
theorem dL_law_365 : decode cL_law 365 = .ok (.iaload, 1) := by decide +kernel
theorem dL_law_366 : decode cL_law 366 = .ok (.aload_n 0, 1) := by decide +kernel
theorem dL_law_367 : decode cL_law 367 = .ok (.iload_n 3, 1) := by decide +kernel
theorem dL_law_368 : decode cL_law 368 = .ok (.iconst 2, 1) := by decide +kernel
theorem dL_law_369 : decode cL_law 369 = .ok (.iadd, 1) := by decide +kernel
theorem dL_law_370 : decode cL_law 370 = .ok (.iaload, 1) := by decide +kernel
theorem dL_law_371 : decode cL_law 371 = .ok (.invokevirtual 40, 3) := by decide +kernel
theorem dL_law_374 : decode cL_law 374 = .ok (.aload_n 2, 1) := by decide +kernel
theorem dL_law_375 : decode cL_law 375 = .ok (.aload_n 0, 1) := by decide +kernel
theorem dL_law_376 : decode cL_law 376 = .ok (.iload_n 3, 1) := by decide +kernel
theorem dL_law_377 : decode cL_law 377 = .ok (.iconst 1, 1) := by decide +kernel
theorem dL_law_378 : decode cL_law 378 = .ok (.iadd, 1) := by decide +kernel
theorem dL_law_379 : decode cL_law 379 = .ok (.iaload, 1) := by decide +kernel
theorem dL_law_380 : decode cL_law 380 = .ok (.aload_n 0, 1) := by decide +kernel
theorem dL_law_381 : decode cL_law 381 = .ok (.iload_n 3, 1) := by decide +kernel
theorem dL_law_382 : decode cL_law 382 = .ok (.iconst 2, 1) := by decide +kernel
theorem dL_law_383 : decode cL_law 383 = .ok (.iadd, 1) := by decide +kernel
theorem dL_law_384 : decode cL_law 384 = .ok (.iaload, 1) := by decide +kernel
theorem dL_law_385 : decode cL_law 385 = .ok (.invokevirtual 43, 3) := by decide +kernel
theorem dL_law_388 : decode cL_law 388 = .ok (.lcmp, 1) := by decide +kernel
theorem dL_law_389 : decode cL_law 389 = .ok (.ifCond .eq 615, 3) := by decide +kernel
theorem dL_law_392 : decode cL_law 392 = .ok (.iconst 0, 1) := by decide +kernel
theorem dL_law_393 : decode cL_law 393 = .ok (.ireturn, 1) := by decide +kernel
theorem dL_law_394 : decode cL_law 394 = .ok (.aload_n 1, 1) := by decide +kernel
theorem dL_law_395 : decode cL_law 395 = .ok (.aload_n 0, 1) := by decide +kernel
theorem dL_law_396 : decode cL_law 396 = .ok (.iload_n 3, 1) := by decide +kernel
theorem dL_law_397 : decode cL_law 397 = .ok (.iconst 1, 1) := by decide +kernel
theorem dL_law_398 : decode cL_law 398 = .ok (.iadd, 1) := by decide +kernel
theorem dL_law_399 : decode cL_law 399 = .ok (.iaload, 1) := by decide +kernel
theorem dL_law_400 : decode cL_law 400 = .ok (.aload_n 0, 1) := by decide +kernel
theorem dL_law_401 : decode cL_law 401 = .ok (.iload_n 3, 1) := by decide +kernel
theorem dL_law_402 : decode cL_law 402 = .ok (.iconst 2, 1) := by decide +kernel
theorem dL_law_403 : decode cL_law 403 = .ok (.iadd, 1) := by decide +kernel
theorem dL_law_404 : decode cL_law 404 = .ok (.iaload, 1) := by decide +kernel
theorem dL_law_405 : decode cL_law 405 = .ok (.invokevirtual 44, 3) := by decide +kernel
theorem dL_law_408 : decode cL_law 408 = .ok (.aload_n 2, 1) := by decide +kernel
theorem dL_law_409 : decode cL_law 409 = .ok (.aload_n 0, 1) := by decide +kernel
theorem dL_law_410 : decode cL_law 410 = .ok (.iload_n 3, 1) := by decide +kernel
theorem dL_law_411 : decode cL_law 411 = .ok (.iconst 1, 1) := by decide +kernel
theorem dL_law_412 : decode cL_law 412 = .ok (.iadd, 1) := by decide +kernel
theorem dL_law_413 : decode cL_law 413 = .ok (.iaload, 1) := by decide +kernel
theorem dL_law_414 : decode cL_law 414 = .ok (.aload_n 0, 1) := by decide +kernel
theorem dL_law_415 : decode cL_law 415 = .ok (.iload_n 3, 1) := by decide +kernel
theorem dL_law_416 : decode cL_law 416 = .ok (.iconst 2, 1) := by decide +kernel
theorem dL_law_417 : decode cL_law 417 = .ok (.iadd, 1) := by decide +kernel
theorem dL_law_418 : decode cL_law 418 = .ok (.iaload, 1) := by decide +kernel
theorem dL_law_419 : decode cL_law 419 = .ok (.invokevirtual 47, 3) := by decide +kernel
theorem dL_law_422 : decode cL_law 422 = .ok (.lcmp, 1) := by decide +kernel
theorem dL_law_423 : decode cL_law 423 = .ok (.ifCond .eq 581, 3) := by decide +kernel
theorem dL_law_426 : decode cL_law 426 = .ok (.iconst 0, 1) := by decide +kernel
theorem dL_law_427 : decode cL_law 427 = .ok (.ireturn, 1) := by decide +kernel
theorem dL_law_428 : decode cL_law 428 = .ok (.aload_n 1, 1) := by decide +kernel
theorem dL_law_429 : decode cL_law 429 = .ok (.aload_n 0, 1) := by decide +kernel
theorem dL_law_430 : decode cL_law 430 = .ok (.iload_n 3, 1) := by decide +kernel
theorem dL_law_431 : decode cL_law 431 = .ok (.iconst 1, 1) := by decide +kernel
theorem dL_law_432 : decode cL_law 432 = .ok (.iadd, 1) := by decide +kernel
theorem dL_law_433 : decode cL_law 433 = .ok (.iaload, 1) := by decide +kernel
theorem dL_law_434 : decode cL_law 434 = .ok (.invokevirtual 48, 3) := by decide +kernel
theorem dL_law_437 : decode cL_law 437 = .ok (.aload_n 2, 1) := by decide +kernel
theorem dL_law_438 : decode cL_law 438 = .ok (.aload_n 0, 1) := by decide +kernel
theorem dL_law_439 : decode cL_law 439 = .ok (.iload_n 3, 1) := by decide +kernel
theorem dL_law_440 : decode cL_law 440 = .ok (.iconst 1, 1) := by decide +kernel
theorem dL_law_441 : decode cL_law 441 = .ok (.iadd, 1) := by decide +kernel
theorem dL_law_442 : decode cL_law 442 = .ok (.iaload, 1) := by decide +kernel
theorem dL_law_443 : decode cL_law 443 = .ok (.invokevirtual 51, 3) := by decide +kernel
theorem dL_law_446 : decode cL_law 446 = .ok (.lcmp, 1) := by decide +kernel
theorem dL_law_447 : decode cL_law 447 = .ok (.ifCond .eq 557, 3) := by decide +kernel
theorem dL_law_450 : decode cL_law 450 = .ok (.iconst 0, 1) := by decide +kernel
theorem dL_law_451 : decode cL_law 451 = .ok (.ireturn, 1) := by decide +kernel
theorem dL_law_452 : decode cL_law 452 = .ok (.aload_n 1, 1) := by decide +kernel
theorem dL_law_453 : decode cL_law 453 = .ok (.aload_n 0, 1) := by decide +kernel
theorem dL_law_454 : decode cL_law 454 = .ok (.iload_n 3, 1) := by decide +kernel
theorem dL_law_455 : decode cL_law 455 = .ok (.iconst 1, 1) := by decide +kernel
theorem dL_law_456 : decode cL_law 456 = .ok (.iadd, 1) := by decide +kernel
theorem dL_law_457 : decode cL_law 457 = .ok (.iaload, 1) := by decide +kernel
theorem dL_law_458 : decode cL_law 458 = .ok (.invokevirtual 52, 3) := by decide +kernel
theorem dL_law_461 : decode cL_law 461 = .ok (.aload_n 2, 1) := by decide +kernel
theorem dL_law_462 : decode cL_law 462 = .ok (.aload_n 0, 1) := by decide +kernel
theorem dL_law_463 : decode cL_law 463 = .ok (.iload_n 3, 1) := by decide +kernel
theorem dL_law_464 : decode cL_law 464 = .ok (.iconst 1, 1) := by decide +kernel
theorem dL_law_465 : decode cL_law 465 = .ok (.iadd, 1) := by decide +kernel
theorem dL_law_466 : decode cL_law 466 = .ok (.iaload, 1) := by decide +kernel
theorem dL_law_467 : decode cL_law 467 = .ok (.invokevirtual 55, 3) := by decide +kernel
theorem dL_law_470 : decode cL_law 470 = .ok (.lcmp, 1) := by decide +kernel
theorem dL_law_471 : decode cL_law 471 = .ok (.ifCond .eq 533, 3) := by decide +kernel
theorem dL_law_474 : decode cL_law 474 = .ok (.iconst 0, 1) := by decide +kernel
theorem dL_law_475 : decode cL_law 475 = .ok (.ireturn, 1) := by decide +kernel
theorem dL_law_476 : decode cL_law 476 = .ok (.aload_n 1, 1) := by decide +kernel
theorem dL_law_477 : decode cL_law 477 = .ok (.invokevirtual 56, 3) := by decide +kernel
theorem dL_law_480 : decode cL_law 480 = .ok (.aload_n 2, 1) := by decide +kernel
theorem dL_law_481 : decode cL_law 481 = .ok (.invokevirtual 60, 3) := by decide +kernel
theorem dL_law_484 : decode cL_law 484 = .ok (.lcmp, 1) := by decide +kernel
theorem dL_law_485 : decode cL_law 485 = .ok (.ifCond .eq 519, 3) := by decide +kernel
theorem dL_law_488 : decode cL_law 488 = .ok (.iconst 0, 1) := by decide +kernel
theorem dL_law_489 : decode cL_law 489 = .ok (.ireturn, 1) := by decide +kernel
theorem dL_law_490 : decode cL_law 490 = .ok (.aload_n 1, 1) := by decide +kernel
theorem dL_law_491 : decode cL_law 491 = .ok (.invokevirtual 61, 3) := by decide +kernel
theorem dL_law_494 : decode cL_law 494 = .ok (.aload_n 2, 1) := by decide +kernel
theorem dL_law_495 : decode cL_law 495 = .ok (.invokevirtual 64, 3) := by decide +kernel
theorem dL_law_498 : decode cL_law 498 = .ok (.lcmp, 1) := by decide +kernel
theorem dL_law_499 : decode cL_law 499 = .ok (.ifCond .eq 505, 3) := by decide +kernel
theorem dL_law_502 : decode cL_law 502 = .ok (.iconst 0, 1) := by decide +kernel
theorem dL_law_503 : decode cL_law 503 = .ok (.ireturn, 1) := by decide +kernel
theorem dL_law_504 : decode cL_law 504 = .ok (.aload_n 1, 1) := by decide +kernel
theorem dL_law_505 : decode cL_law 505 = .ok (.aload_n 0, 1) := by decide +kernel
theorem dL_law_506 : decode cL_law 506 = .ok (.iload_n 3, 1) := by decide +kernel
theorem dL_law_507 : decode cL_law 507 = .ok (.iconst 1, 1) := by decide +kernel
theorem dL_law_508 : decode cL_law 508 = .ok (.iadd, 1) := by decide +kernel
theorem dL_law_509 : decode cL_law 509 = .ok (.iaload, 1) := by decide +kernel
theorem dL_law_510 : decode cL_law 510 = .ok (.aload_n 0, 1) := by decide +kernel
theorem dL_law_511 : decode cL_law 511 = .ok (.iload_n 3, 1) := by decide +kernel
theorem dL_law_512 : decode cL_law 512 = .ok (.iconst 2, 1) := by decide +kernel
theorem dL_law_513 : decode cL_law 513 = .ok (.iadd, 1) := by decide +kernel
theorem dL_law_514 : decode cL_law 514 = .ok (.iaload, 1) := by decide +kernel
theorem dL_law_515 : decode cL_law 515 = .ok (.invokevirtual 65, 3) := by decide +kernel
theorem dL_law_518 : decode cL_law 518 = .ok (.aload_n 2, 1) := by decide +kernel
theorem dL_law_519 : decode cL_law 519 = .ok (.aload_n 0, 1) := by decide +kernel
theorem dL_law_520 : decode cL_law 520 = .ok (.iload_n 3, 1) := by decide +kernel
theorem dL_law_521 : decode cL_law 521 = .ok (.iconst 1, 1) := by decide +kernel
theorem dL_law_522 : decode cL_law 522 = .ok (.iadd, 1) := by decide +kernel
theorem dL_law_523 : decode cL_law 523 = .ok (.iaload, 1) := by decide +kernel
theorem dL_law_524 : decode cL_law 524 = .ok (.aload_n 0, 1) := by decide +kernel
theorem dL_law_525 : decode cL_law 525 = .ok (.iload_n 3, 1) := by decide +kernel
theorem dL_law_526 : decode cL_law 526 = .ok (.iconst 2, 1) := by decide +kernel
theorem dL_law_527 : decode cL_law 527 = .ok (.iadd, 1) := by decide +kernel
theorem dL_law_528 : decode cL_law 528 = .ok (.iaload, 1) := by decide +kernel
theorem dL_law_529 : decode cL_law 529 = .ok (.invokevirtual 68, 3) := by decide +kernel
theorem dL_law_532 : decode cL_law 532 = .ok (.lcmp, 1) := by decide +kernel
theorem dL_law_533 : decode cL_law 533 = .ok (.ifCond .eq 471, 3) := by decide +kernel
theorem dL_law_536 : decode cL_law 536 = .ok (.iconst 0, 1) := by decide +kernel
theorem dL_law_537 : decode cL_law 537 = .ok (.ireturn, 1) := by decide +kernel
theorem dL_law_538 : decode cL_law 538 = .ok (.aload_n 1, 1) := by decide +kernel
theorem dL_law_539 : decode cL_law 539 = .ok (.aload_n 0, 1) := by decide +kernel
theorem dL_law_540 : decode cL_law 540 = .ok (.iload_n 3, 1) := by decide +kernel
theorem dL_law_541 : decode cL_law 541 = .ok (.iconst 1, 1) := by decide +kernel
theorem dL_law_542 : decode cL_law 542 = .ok (.iadd, 1) := by decide +kernel
theorem dL_law_543 : decode cL_law 543 = .ok (.iaload, 1) := by decide +kernel
theorem dL_law_544 : decode cL_law 544 = .ok (.invokevirtual 69, 3) := by decide +kernel
theorem dL_law_547 : decode cL_law 547 = .ok (.aload_n 2, 1) := by decide +kernel
theorem dL_law_548 : decode cL_law 548 = .ok (.aload_n 0, 1) := by decide +kernel
theorem dL_law_549 : decode cL_law 549 = .ok (.iload_n 3, 1) := by decide +kernel
theorem dL_law_550 : decode cL_law 550 = .ok (.iconst 1, 1) := by decide +kernel
theorem dL_law_551 : decode cL_law 551 = .ok (.iadd, 1) := by decide +kernel
theorem dL_law_552 : decode cL_law 552 = .ok (.iaload, 1) := by decide +kernel
theorem dL_law_553 : decode cL_law 553 = .ok (.invokevirtual 72, 3) := by decide +kernel
theorem dL_law_556 : decode cL_law 556 = .ok (.lcmp, 1) := by decide +kernel
theorem dL_law_557 : decode cL_law 557 = .ok (.ifCond .eq 447, 3) := by decide +kernel
theorem dL_law_560 : decode cL_law 560 = .ok (.iconst 0, 1) := by decide +kernel
theorem dL_law_561 : decode cL_law 561 = .ok (.ireturn, 1) := by decide +kernel
theorem dL_law_562 : decode cL_law 562 = .ok (.aload_n 1, 1) := by decide +kernel
theorem dL_law_563 : decode cL_law 563 = .ok (.aload_n 0, 1) := by decide +kernel
theorem dL_law_564 : decode cL_law 564 = .ok (.iload_n 3, 1) := by decide +kernel
theorem dL_law_565 : decode cL_law 565 = .ok (.iconst 1, 1) := by decide +kernel
theorem dL_law_566 : decode cL_law 566 = .ok (.iadd, 1) := by decide +kernel
theorem dL_law_567 : decode cL_law 567 = .ok (.iaload, 1) := by decide +kernel
theorem dL_law_568 : decode cL_law 568 = .ok (.invokevirtual 73, 3) := by decide +kernel
theorem dL_law_571 : decode cL_law 571 = .ok (.aload_n 2, 1) := by decide +kernel
theorem dL_law_572 : decode cL_law 572 = .ok (.aload_n 0, 1) := by decide +kernel
theorem dL_law_573 : decode cL_law 573 = .ok (.iload_n 3, 1) := by decide +kernel
theorem dL_law_574 : decode cL_law 574 = .ok (.iconst 1, 1) := by decide +kernel
theorem dL_law_575 : decode cL_law 575 = .ok (.iadd, 1) := by decide +kernel
theorem dL_law_576 : decode cL_law 576 = .ok (.iaload, 1) := by decide +kernel
theorem dL_law_577 : decode cL_law 577 = .ok (.invokevirtual 76, 3) := by decide +kernel
theorem dL_law_580 : decode cL_law 580 = .ok (.lcmp, 1) := by decide +kernel
theorem dL_law_581 : decode cL_law 581 = .ok (.ifCond .eq 423, 3) := by decide +kernel
theorem dL_law_584 : decode cL_law 584 = .ok (.iconst 0, 1) := by decide +kernel
theorem dL_law_585 : decode cL_law 585 = .ok (.ireturn, 1) := by decide +kernel
theorem dL_law_586 : decode cL_law 586 = .ok (.aload_n 1, 1) := by decide +kernel
theorem dL_law_587 : decode cL_law 587 = .ok (.invokevirtual 77, 3) := by decide +kernel
theorem dL_law_590 : decode cL_law 590 = .ok (.aload_n 2, 1) := by decide +kernel
theorem dL_law_591 : decode cL_law 591 = .ok (.invokevirtual 80, 3) := by decide +kernel
theorem dL_law_594 : decode cL_law 594 = .ok (.lcmp, 1) := by decide +kernel
theorem dL_law_595 : decode cL_law 595 = .ok (.ifCond .eq 409, 3) := by decide +kernel
theorem dL_law_598 : decode cL_law 598 = .ok (.iconst 0, 1) := by decide +kernel
theorem dL_law_599 : decode cL_law 599 = .ok (.ireturn, 1) := by decide +kernel
theorem dL_law_600 : decode cL_law 600 = .ok (.aload_n 1, 1) := by decide +kernel
theorem dL_law_601 : decode cL_law 601 = .ok (.aload_n 0, 1) := by decide +kernel
theorem dL_law_602 : decode cL_law 602 = .ok (.iload_n 3, 1) := by decide +kernel
theorem dL_law_603 : decode cL_law 603 = .ok (.iconst 1, 1) := by decide +kernel
theorem dL_law_604 : decode cL_law 604 = .ok (.iadd, 1) := by decide +kernel
theorem dL_law_605 : decode cL_law 605 = .ok (.iaload, 1) := by decide +kernel
theorem dL_law_606 : decode cL_law 606 = .ok (.aload_n 0, 1) := by decide +kernel
theorem dL_law_607 : decode cL_law 607 = .ok (.iload_n 3, 1) := by decide +kernel
theorem dL_law_608 : decode cL_law 608 = .ok (.iconst 2, 1) := by decide +kernel
theorem dL_law_609 : decode cL_law 609 = .ok (.iadd, 1) := by decide +kernel
theorem dL_law_610 : decode cL_law 610 = .ok (.iaload, 1) := by decide +kernel
theorem dL_law_611 : decode cL_law 611 = .ok (.invokevirtual 81, 3) := by decide +kernel
theorem dL_law_614 : decode cL_law 614 = .ok (.aload_n 2, 1) := by decide +kernel
theorem dL_law_615 : decode cL_law 615 = .ok (.aload_n 0, 1) := by decide +kernel
theorem dL_law_616 : decode cL_law 616 = .ok (.iload_n 3, 1) := by decide +kernel
theorem dL_law_617 : decode cL_law 617 = .ok (.iconst 1, 1) := by decide +kernel
theorem dL_law_618 : decode cL_law 618 = .ok (.iadd, 1) := by decide +kernel
theorem dL_law_619 : decode cL_law 619 = .ok (.iaload, 1) := by decide +kernel
theorem dL_law_620 : decode cL_law 620 = .ok (.aload_n 0, 1) := by decide +kernel
theorem dL_law_621 : decode cL_law 621 = .ok (.iload_n 3, 1) := by decide +kernel
theorem dL_law_622 : decode cL_law 622 = .ok (.iconst 2, 1) := by decide +kernel
theorem dL_law_623 : decode cL_law 623 = .ok (.iadd, 1) := by decide +kernel
theorem dL_law_624 : decode cL_law 624 = .ok (.iaload, 1) := by decide +kernel
theorem dL_law_625 : decode cL_law 625 = .ok (.invokevirtual 84, 3) := by decide +kernel
theorem dL_law_628 : decode cL_law 628 = .ok (.lcmp, 1) := by decide +kernel
theorem dL_law_629 : decode cL_law 629 = .ok (.ifCond .eq 375, 3) := by decide +kernel
theorem dL_law_632 : decode cL_law 632 = .ok (.iconst 0, 1) := by decide +kernel
theorem dL_law_633 : decode cL_law 633 = .ok (.ireturn, 1) := by decide +kernel
theorem dL_law_634 : decode cL_law 634 = .ok (.aload_n 1, 1) := by decide +kernel
theorem dL_law_635 : decode cL_law 635 = .ok (.aload_n 0, 1) := by decide +kernel
theorem dL_law_636 : decode cL_law 636 = .ok (.iload_n 3, 1) := by decide +kernel
theorem dL_law_637 : decode cL_law 637 = .ok (.iconst 1, 1) := by decide +kernel
theorem dL_law_638 : decode cL_law 638 = .ok (.iadd, 1) := by decide +kernel
theorem dL_law_639 : decode cL_law 639 = .ok (.iaload, 1) := by decide +kernel
theorem dL_law_640 : decode cL_law 640 = .ok (.aload_n 0, 1) := by decide +kernel
theorem dL_law_641 : decode cL_law 641 = .ok (.iload_n 3, 1) := by decide +kernel
theorem dL_law_642 : decode cL_law 642 = .ok (.iconst 2, 1) := by decide +kernel
theorem dL_law_643 : decode cL_law 643 = .ok (.iadd, 1) := by decide +kernel
theorem dL_law_644 : decode cL_law 644 = .ok (.iaload, 1) := by decide +kernel
theorem dL_law_645 : decode cL_law 645 = .ok (.aload_n 0, 1) := by decide +kernel
theorem dL_law_646 : decode cL_law 646 = .ok (.iload_n 3, 1) := by decide +kernel
theorem dL_law_647 : decode cL_law 647 = .ok (.iconst 3, 1) := by decide +kernel
theorem dL_law_648 : decode cL_law 648 = .ok (.iadd, 1) := by decide +kernel
theorem dL_law_649 : decode cL_law 649 = .ok (.iaload, 1) := by decide +kernel
theorem dL_law_650 : decode cL_law 650 = .ok (.invokevirtual 85, 3) := by decide +kernel
theorem dL_law_653 : decode cL_law 653 = .ok (.aload_n 2, 1) := by decide +kernel
theorem dL_law_654 : decode cL_law 654 = .ok (.aload_n 0, 1) := by decide +kernel
theorem dL_law_655 : decode cL_law 655 = .ok (.iload_n 3, 1) := by decide +kernel
theorem dL_law_656 : decode cL_law 656 = .ok (.iconst 1, 1) := by decide +kernel
theorem dL_law_657 : decode cL_law 657 = .ok (.iadd, 1) := by decide +kernel
theorem dL_law_658 : decode cL_law 658 = .ok (.iaload, 1) := by decide +kernel
theorem dL_law_659 : decode cL_law 659 = .ok (.aload_n 0, 1) := by decide +kernel
theorem dL_law_660 : decode cL_law 660 = .ok (.iload_n 3, 1) := by decide +kernel
theorem dL_law_661 : decode cL_law 661 = .ok (.iconst 2, 1) := by decide +kernel
theorem dL_law_662 : decode cL_law 662 = .ok (.iadd, 1) := by decide +kernel
theorem dL_law_663 : decode cL_law 663 = .ok (.iaload, 1) := by decide +kernel
theorem dL_law_664 : decode cL_law 664 = .ok (.aload_n 0, 1) := by decide +kernel
theorem dL_law_665 : decode cL_law 665 = .ok (.iload_n 3, 1) := by decide +kernel
theorem dL_law_666 : decode cL_law 666 = .ok (.iconst 3, 1) := by decide +kernel
theorem dL_law_667 : decode cL_law 667 = .ok (.iadd, 1) := by decide +kernel
theorem dL_law_668 : decode cL_law 668 = .ok (.iaload, 1) := by decide +kernel
theorem dL_law_669 : decode cL_law 669 = .ok (.invokevirtual 88, 3) := by decide +kernel
theorem dL_law_672 : decode cL_law 672 = .ok (.lcmp, 1) := by decide +kernel
theorem dL_law_673 : decode cL_law 673 = .ok (.ifCond .eq 331, 3) := by decide +kernel
theorem dL_law_676 : decode cL_law 676 = .ok (.iconst 0, 1) := by decide +kernel
theorem dL_law_677 : decode cL_law 677 = .ok (.ireturn, 1) := by decide +kernel
theorem dL_law_678 : decode cL_law 678 = .ok (.aload_n 1, 1) := by decide +kernel
theorem dL_law_679 : decode cL_law 679 = .ok (.aload_n 0, 1) := by decide +kernel
theorem dL_law_680 : decode cL_law 680 = .ok (.iload_n 3, 1) := by decide +kernel
theorem dL_law_681 : decode cL_law 681 = .ok (.iconst 1, 1) := by decide +kernel
theorem dL_law_682 : decode cL_law 682 = .ok (.iadd, 1) := by decide +kernel
theorem dL_law_683 : decode cL_law 683 = .ok (.iaload, 1) := by decide +kernel
theorem dL_law_684 : decode cL_law 684 = .ok (.aload_n 0, 1) := by decide +kernel
theorem dL_law_685 : decode cL_law 685 = .ok (.iload_n 3, 1) := by decide +kernel
theorem dL_law_686 : decode cL_law 686 = .ok (.iconst 2, 1) := by decide +kernel
theorem dL_law_687 : decode cL_law 687 = .ok (.iadd, 1) := by decide +kernel
theorem dL_law_688 : decode cL_law 688 = .ok (.iaload, 1) := by decide +kernel
theorem dL_law_689 : decode cL_law 689 = .ok (.invokevirtual 89, 3) := by decide +kernel
theorem dL_law_692 : decode cL_law 692 = .ok (.aload_n 2, 1) := by decide +kernel
theorem dL_law_693 : decode cL_law 693 = .ok (.aload_n 0, 1) := by decide +kernel
theorem dL_law_694 : decode cL_law 694 = .ok (.iload_n 3, 1) := by decide +kernel
theorem dL_law_695 : decode cL_law 695 = .ok (.iconst 1, 1) := by decide +kernel
theorem dL_law_696 : decode cL_law 696 = .ok (.iadd, 1) := by decide +kernel
theorem dL_law_697 : decode cL_law 697 = .ok (.iaload, 1) := by decide +kernel
theorem dL_law_698 : decode cL_law 698 = .ok (.aload_n 0, 1) := by decide +kernel
theorem dL_law_699 : decode cL_law 699 = .ok (.iload_n 3, 1) := by decide +kernel
theorem dL_law_700 : decode cL_law 700 = .ok (.iconst 2, 1) := by decide +kernel
theorem dL_law_701 : decode cL_law 701 = .ok (.iadd, 1) := by decide +kernel
theorem dL_law_702 : decode cL_law 702 = .ok (.iaload, 1) := by decide +kernel
theorem dL_law_703 : decode cL_law 703 = .ok (.invokevirtual 92, 3) := by decide +kernel
theorem dL_law_706 : decode cL_law 706 = .ok (.lcmp, 1) := by decide +kernel
theorem dL_law_707 : decode cL_law 707 = .ok (.ifCond .eq 297, 3) := by decide +kernel
theorem dL_law_710 : decode cL_law 710 = .ok (.iconst 0, 1) := by decide +kernel
theorem dL_law_711 : decode cL_law 711 = .ok (.ireturn, 1) := by decide +kernel
theorem dL_law_712 : decode cL_law 712 = .ok (.aload_n 1, 1) := by decide +kernel
theorem dL_law_713 : decode cL_law 713 = .ok (.aload_n 0, 1) := by decide +kernel
theorem dL_law_714 : decode cL_law 714 = .ok (.iload_n 3, 1) := by decide +kernel
theorem dL_law_715 : decode cL_law 715 = .ok (.iconst 1, 1) := by decide +kernel
theorem dL_law_716 : decode cL_law 716 = .ok (.iadd, 1) := by decide +kernel
theorem dL_law_717 : decode cL_law 717 = .ok (.iaload, 1) := by decide +kernel
theorem dL_law_718 : decode cL_law 718 = .ok (.invokevirtual 93, 3) := by decide +kernel
theorem dL_law_721 : decode cL_law 721 = .ok (.aload_n 2, 1) := by decide +kernel
theorem dL_law_722 : decode cL_law 722 = .ok (.aload_n 0, 1) := by decide +kernel
theorem dL_law_723 : decode cL_law 723 = .ok (.iload_n 3, 1) := by decide +kernel
theorem dL_law_724 : decode cL_law 724 = .ok (.iconst 1, 1) := by decide +kernel
theorem dL_law_725 : decode cL_law 725 = .ok (.iadd, 1) := by decide +kernel
theorem dL_law_726 : decode cL_law 726 = .ok (.iaload, 1) := by decide +kernel
theorem dL_law_727 : decode cL_law 727 = .ok (.invokevirtual 96, 3) := by decide +kernel
theorem dL_law_730 : decode cL_law 730 = .ok (.lcmp, 1) := by decide +kernel
theorem dL_law_731 : decode cL_law 731 = .ok (.ifCond .eq 273, 3) := by decide +kernel
theorem dL_law_734 : decode cL_law 734 = .ok (.iconst 0, 1) := by decide +kernel
theorem dL_law_735 : decode cL_law 735 = .ok (.ireturn, 1) := by decide +kernel
theorem dL_law_736 : decode cL_law 736 = .ok (.aload_n 1, 1) := by decide +kernel
theorem dL_law_737 : decode cL_law 737 = .ok (.aload_n 0, 1) := by decide +kernel
theorem dL_law_738 : decode cL_law 738 = .ok (.iload_n 3, 1) := by decide +kernel
theorem dL_law_739 : decode cL_law 739 = .ok (.iconst 1, 1) := by decide +kernel
theorem dL_law_740 : decode cL_law 740 = .ok (.iadd, 1) := by decide +kernel
theorem dL_law_741 : decode cL_law 741 = .ok (.iaload, 1) := by decide +kernel
theorem dL_law_742 : decode cL_law 742 = .ok (.invokevirtual 97, 3) := by decide +kernel
theorem dL_law_745 : decode cL_law 745 = .ok (.aload_n 2, 1) := by decide +kernel
theorem dL_law_746 : decode cL_law 746 = .ok (.aload_n 0, 1) := by decide +kernel
theorem dL_law_747 : decode cL_law 747 = .ok (.iload_n 3, 1) := by decide +kernel
theorem dL_law_748 : decode cL_law 748 = .ok (.iconst 1, 1) := by decide +kernel
theorem dL_law_749 : decode cL_law 749 = .ok (.iadd, 1) := by decide +kernel
theorem dL_law_750 : decode cL_law 750 = .ok (.iaload, 1) := by decide +kernel
theorem dL_law_751 : decode cL_law 751 = .ok (.invokevirtual 100, 3) := by decide +kernel
theorem dL_law_754 : decode cL_law 754 = .ok (.lcmp, 1) := by decide +kernel
theorem dL_law_755 : decode cL_law 755 = .ok (.ifCond .eq 249, 3) := by decide +kernel
theorem dL_law_758 : decode cL_law 758 = .ok (.iconst 0, 1) := by decide +kernel
theorem dL_law_759 : decode cL_law 759 = .ok (.ireturn, 1) := by decide +kernel
theorem dL_law_760 : decode cL_law 760 = .ok (.aload_n 1, 1) := by decide +kernel
theorem dL_law_761 : decode cL_law 761 = .ok (.aload_n 0, 1) := by decide +kernel
theorem dL_law_762 : decode cL_law 762 = .ok (.iload_n 3, 1) := by decide +kernel
theorem dL_law_763 : decode cL_law 763 = .ok (.iconst 1, 1) := by decide +kernel
theorem dL_law_764 : decode cL_law 764 = .ok (.iadd, 1) := by decide +kernel
theorem dL_law_765 : decode cL_law 765 = .ok (.iaload, 1) := by decide +kernel
theorem dL_law_766 : decode cL_law 766 = .ok (.aload_n 0, 1) := by decide +kernel
theorem dL_law_767 : decode cL_law 767 = .ok (.iload_n 3, 1) := by decide +kernel
theorem dL_law_768 : decode cL_law 768 = .ok (.iconst 2, 1) := by decide +kernel
theorem dL_law_769 : decode cL_law 769 = .ok (.iadd, 1) := by decide +kernel
theorem dL_law_770 : decode cL_law 770 = .ok (.iaload, 1) := by decide +kernel
theorem dL_law_771 : decode cL_law 771 = .ok (.invokevirtual 101, 3) := by decide +kernel
theorem dL_law_774 : decode cL_law 774 = .ok (.aload_n 2, 1) := by decide +kernel
theorem dL_law_775 : decode cL_law 775 = .ok (.aload_n 0, 1) := by decide +kernel
theorem dL_law_776 : decode cL_law 776 = .ok (.iload_n 3, 1) := by decide +kernel
theorem dL_law_777 : decode cL_law 777 = .ok (.iconst 1, 1) := by decide +kernel
theorem dL_law_778 : decode cL_law 778 = .ok (.iadd, 1) := by decide +kernel
theorem dL_law_779 : decode cL_law 779 = .ok (.iaload, 1) := by decide +kernel
theorem dL_law_780 : decode cL_law 780 = .ok (.aload_n 0, 1) := by decide +kernel
theorem dL_law_781 : decode cL_law 781 = .ok (.iload_n 3, 1) := by decide +kernel
theorem dL_law_782 : decode cL_law 782 = .ok (.iconst 2, 1) := by decide +kernel
theorem dL_law_783 : decode cL_law 783 = .ok (.iadd, 1) := by decide +kernel
theorem dL_law_784 : decode cL_law 784 = .ok (.iaload, 1) := by decide +kernel
theorem dL_law_785 : decode cL_law 785 = .ok (.invokevirtual 104, 3) := by decide +kernel
theorem dL_law_788 : decode cL_law 788 = .ok (.lcmp, 1) := by decide +kernel
theorem dL_law_789 : decode cL_law 789 = .ok (.ifCond .eq 215, 3) := by decide +kernel
theorem dL_law_792 : decode cL_law 792 = .ok (.iconst 0, 1) := by decide +kernel
theorem dL_law_793 : decode cL_law 793 = .ok (.ireturn, 1) := by decide +kernel
theorem dL_law_794 : decode cL_law 794 = .ok (.aload_n 1, 1) := by decide +kernel
theorem dL_law_795 : decode cL_law 795 = .ok (.aload_n 0, 1) := by decide +kernel
theorem dL_law_796 : decode cL_law 796 = .ok (.iload_n 3, 1) := by decide +kernel
theorem dL_law_797 : decode cL_law 797 = .ok (.iconst 1, 1) := by decide +kernel
theorem dL_law_798 : decode cL_law 798 = .ok (.iadd, 1) := by decide +kernel
theorem dL_law_799 : decode cL_law 799 = .ok (.iaload, 1) := by decide +kernel
theorem dL_law_800 : decode cL_law 800 = .ok (.aload_n 0, 1) := by decide +kernel
theorem dL_law_801 : decode cL_law 801 = .ok (.iload_n 3, 1) := by decide +kernel
theorem dL_law_802 : decode cL_law 802 = .ok (.iconst 2, 1) := by decide +kernel
theorem dL_law_803 : decode cL_law 803 = .ok (.iadd, 1) := by decide +kernel
theorem dL_law_804 : decode cL_law 804 = .ok (.iaload, 1) := by decide +kernel
theorem dL_law_805 : decode cL_law 805 = .ok (.aload_n 0, 1) := by decide +kernel
theorem dL_law_806 : decode cL_law 806 = .ok (.iload_n 3, 1) := by decide +kernel
theorem dL_law_807 : decode cL_law 807 = .ok (.iconst 3, 1) := by decide +kernel
theorem dL_law_808 : decode cL_law 808 = .ok (.iadd, 1) := by decide +kernel
theorem dL_law_809 : decode cL_law 809 = .ok (.iaload, 1) := by decide +kernel
theorem dL_law_810 : decode cL_law 810 = .ok (.invokevirtual 105, 3) := by decide +kernel
theorem dL_law_813 : decode cL_law 813 = .ok (.aload_n 2, 1) := by decide +kernel
theorem dL_law_814 : decode cL_law 814 = .ok (.aload_n 0, 1) := by decide +kernel
theorem dL_law_815 : decode cL_law 815 = .ok (.iload_n 3, 1) := by decide +kernel
theorem dL_law_816 : decode cL_law 816 = .ok (.iconst 1, 1) := by decide +kernel
theorem dL_law_817 : decode cL_law 817 = .ok (.iadd, 1) := by decide +kernel
theorem dL_law_818 : decode cL_law 818 = .ok (.iaload, 1) := by decide +kernel
theorem dL_law_819 : decode cL_law 819 = .ok (.aload_n 0, 1) := by decide +kernel
theorem dL_law_820 : decode cL_law 820 = .ok (.iload_n 3, 1) := by decide +kernel
theorem dL_law_821 : decode cL_law 821 = .ok (.iconst 2, 1) := by decide +kernel
theorem dL_law_822 : decode cL_law 822 = .ok (.iadd, 1) := by decide +kernel
theorem dL_law_823 : decode cL_law 823 = .ok (.iaload, 1) := by decide +kernel
theorem dL_law_824 : decode cL_law 824 = .ok (.aload_n 0, 1) := by decide +kernel
theorem dL_law_825 : decode cL_law 825 = .ok (.iload_n 3, 1) := by decide +kernel
theorem dL_law_826 : decode cL_law 826 = .ok (.iconst 3, 1) := by decide +kernel
theorem dL_law_827 : decode cL_law 827 = .ok (.iadd, 1) := by decide +kernel
theorem dL_law_828 : decode cL_law 828 = .ok (.iaload, 1) := by decide +kernel
theorem dL_law_829 : decode cL_law 829 = .ok (.invokevirtual 108, 3) := by decide +kernel
theorem dL_law_832 : decode cL_law 832 = .ok (.lcmp, 1) := by decide +kernel
theorem dL_law_833 : decode cL_law 833 = .ok (.ifCond .eq 171, 3) := by decide +kernel
theorem dL_law_836 : decode cL_law 836 = .ok (.iconst 0, 1) := by decide +kernel
theorem dL_law_837 : decode cL_law 837 = .ok (.ireturn, 1) := by decide +kernel
theorem dL_law_838 : decode cL_law 838 = .ok (.aload_n 1, 1) := by decide +kernel
theorem dL_law_839 : decode cL_law 839 = .ok (.aload_n 0, 1) := by decide +kernel
theorem dL_law_840 : decode cL_law 840 = .ok (.iload_n 3, 1) := by decide +kernel
theorem dL_law_841 : decode cL_law 841 = .ok (.iconst 1, 1) := by decide +kernel
theorem dL_law_842 : decode cL_law 842 = .ok (.iadd, 1) := by decide +kernel
theorem dL_law_843 : decode cL_law 843 = .ok (.iaload, 1) := by decide +kernel
theorem dL_law_844 : decode cL_law 844 = .ok (.aload_n 0, 1) := by decide +kernel
theorem dL_law_845 : decode cL_law 845 = .ok (.iload_n 3, 1) := by decide +kernel
theorem dL_law_846 : decode cL_law 846 = .ok (.iconst 2, 1) := by decide +kernel
theorem dL_law_847 : decode cL_law 847 = .ok (.iadd, 1) := by decide +kernel
theorem dL_law_848 : decode cL_law 848 = .ok (.iaload, 1) := by decide +kernel
theorem dL_law_849 : decode cL_law 849 = .ok (.invokevirtual 109, 3) := by decide +kernel
theorem dL_law_852 : decode cL_law 852 = .ok (.aload_n 2, 1) := by decide +kernel
theorem dL_law_853 : decode cL_law 853 = .ok (.aload_n 0, 1) := by decide +kernel
theorem dL_law_854 : decode cL_law 854 = .ok (.iload_n 3, 1) := by decide +kernel
theorem dL_law_855 : decode cL_law 855 = .ok (.iconst 1, 1) := by decide +kernel
theorem dL_law_856 : decode cL_law 856 = .ok (.iadd, 1) := by decide +kernel
theorem dL_law_857 : decode cL_law 857 = .ok (.iaload, 1) := by decide +kernel
theorem dL_law_858 : decode cL_law 858 = .ok (.aload_n 0, 1) := by decide +kernel
theorem dL_law_859 : decode cL_law 859 = .ok (.iload_n 3, 1) := by decide +kernel
theorem dL_law_860 : decode cL_law 860 = .ok (.iconst 2, 1) := by decide +kernel
theorem dL_law_861 : decode cL_law 861 = .ok (.iadd, 1) := by decide +kernel
theorem dL_law_862 : decode cL_law 862 = .ok (.iaload, 1) := by decide +kernel
theorem dL_law_863 : decode cL_law 863 = .ok (.invokevirtual 112, 3) := by decide +kernel
theorem dL_law_866 : decode cL_law 866 = .ok (.lcmp, 1) := by decide +kernel
theorem dL_law_867 : decode cL_law 867 = .ok (.ifCond .eq 137, 3) := by decide +kernel
theorem dL_law_870 : decode cL_law 870 = .ok (.iconst 0, 1) := by decide +kernel
theorem dL_law_871 : decode cL_law 871 = .ok (.ireturn, 1) := by decide +kernel
theorem dL_law_872 : decode cL_law 872 = .ok (.aload_n 1, 1) := by decide +kernel
theorem dL_law_873 : decode cL_law 873 = .ok (.aload_n 0, 1) := by decide +kernel
theorem dL_law_874 : decode cL_law 874 = .ok (.iload_n 3, 1) := by decide +kernel
theorem dL_law_875 : decode cL_law 875 = .ok (.iconst 1, 1) := by decide +kernel
theorem dL_law_876 : decode cL_law 876 = .ok (.iadd, 1) := by decide +kernel
theorem dL_law_877 : decode cL_law 877 = .ok (.iaload, 1) := by decide +kernel
theorem dL_law_878 : decode cL_law 878 = .ok (.aload_n 0, 1) := by decide +kernel
theorem dL_law_879 : decode cL_law 879 = .ok (.iload_n 3, 1) := by decide +kernel
theorem dL_law_880 : decode cL_law 880 = .ok (.iconst 2, 1) := by decide +kernel
theorem dL_law_881 : decode cL_law 881 = .ok (.iadd, 1) := by decide +kernel
theorem dL_law_882 : decode cL_law 882 = .ok (.iaload, 1) := by decide +kernel
theorem dL_law_883 : decode cL_law 883 = .ok (.aload_n 0, 1) := by decide +kernel
theorem dL_law_884 : decode cL_law 884 = .ok (.iload_n 3, 1) := by decide +kernel
theorem dL_law_885 : decode cL_law 885 = .ok (.iconst 3, 1) := by decide +kernel
theorem dL_law_886 : decode cL_law 886 = .ok (.iadd, 1) := by decide +kernel
theorem dL_law_887 : decode cL_law 887 = .ok (.iaload, 1) := by decide +kernel
theorem dL_law_888 : decode cL_law 888 = .ok (.invokevirtual 113, 3) := by decide +kernel
theorem dL_law_891 : decode cL_law 891 = .ok (.aload_n 2, 1) := by decide +kernel
theorem dL_law_892 : decode cL_law 892 = .ok (.aload_n 0, 1) := by decide +kernel
theorem dL_law_893 : decode cL_law 893 = .ok (.iload_n 3, 1) := by decide +kernel
theorem dL_law_894 : decode cL_law 894 = .ok (.iconst 1, 1) := by decide +kernel
theorem dL_law_895 : decode cL_law 895 = .ok (.iadd, 1) := by decide +kernel
theorem dL_law_896 : decode cL_law 896 = .ok (.iaload, 1) := by decide +kernel
theorem dL_law_897 : decode cL_law 897 = .ok (.aload_n 0, 1) := by decide +kernel
theorem dL_law_898 : decode cL_law 898 = .ok (.iload_n 3, 1) := by decide +kernel
theorem dL_law_899 : decode cL_law 899 = .ok (.iconst 2, 1) := by decide +kernel
theorem dL_law_900 : decode cL_law 900 = .ok (.iadd, 1) := by decide +kernel
theorem dL_law_901 : decode cL_law 901 = .ok (.iaload, 1) := by decide +kernel
theorem dL_law_902 : decode cL_law 902 = .ok (.aload_n 0, 1) := by decide +kernel
theorem dL_law_903 : decode cL_law 903 = .ok (.iload_n 3, 1) := by decide +kernel
theorem dL_law_904 : decode cL_law 904 = .ok (.iconst 3, 1) := by decide +kernel
theorem dL_law_905 : decode cL_law 905 = .ok (.iadd, 1) := by decide +kernel
theorem dL_law_906 : decode cL_law 906 = .ok (.iaload, 1) := by decide +kernel
theorem dL_law_907 : decode cL_law 907 = .ok (.invokevirtual 116, 3) := by decide +kernel
theorem dL_law_910 : decode cL_law 910 = .ok (.lcmp, 1) := by decide +kernel
theorem dL_law_911 : decode cL_law 911 = .ok (.ifCond .eq 93, 3) := by decide +kernel
theorem dL_law_914 : decode cL_law 914 = .ok (.iconst 0, 1) := by decide +kernel
theorem dL_law_915 : decode cL_law 915 = .ok (.ireturn, 1) := by decide +kernel
theorem dL_law_916 : decode cL_law 916 = .ok (.aload_n 1, 1) := by decide +kernel
theorem dL_law_917 : decode cL_law 917 = .ok (.aload_n 0, 1) := by decide +kernel
theorem dL_law_918 : decode cL_law 918 = .ok (.iload_n 3, 1) := by decide +kernel
theorem dL_law_919 : decode cL_law 919 = .ok (.iconst 1, 1) := by decide +kernel
theorem dL_law_920 : decode cL_law 920 = .ok (.iadd, 1) := by decide +kernel
theorem dL_law_921 : decode cL_law 921 = .ok (.iaload, 1) := by decide +kernel
theorem dL_law_922 : decode cL_law 922 = .ok (.aload_n 0, 1) := by decide +kernel
theorem dL_law_923 : decode cL_law 923 = .ok (.iload_n 3, 1) := by decide +kernel
theorem dL_law_924 : decode cL_law 924 = .ok (.iconst 2, 1) := by decide +kernel
theorem dL_law_925 : decode cL_law 925 = .ok (.iadd, 1) := by decide +kernel
theorem dL_law_926 : decode cL_law 926 = .ok (.iaload, 1) := by decide +kernel
theorem dL_law_927 : decode cL_law 927 = .ok (.aload_n 0, 1) := by decide +kernel
theorem dL_law_928 : decode cL_law 928 = .ok (.iload_n 3, 1) := by decide +kernel
theorem dL_law_929 : decode cL_law 929 = .ok (.iconst 3, 1) := by decide +kernel
theorem dL_law_930 : decode cL_law 930 = .ok (.iadd, 1) := by decide +kernel
theorem dL_law_931 : decode cL_law 931 = .ok (.iaload, 1) := by decide +kernel
theorem dL_law_932 : decode cL_law 932 = .ok (.aload_n 0, 1) := by decide +kernel
theorem dL_law_933 : decode cL_law 933 = .ok (.iload_n 3, 1) := by decide +kernel
theorem dL_law_934 : decode cL_law 934 = .ok (.iconst 4, 1) := by decide +kernel
theorem dL_law_935 : decode cL_law 935 = .ok (.iadd, 1) := by decide +kernel
theorem dL_law_936 : decode cL_law 936 = .ok (.iaload, 1) := by decide +kernel
theorem dL_law_937 : decode cL_law 937 = .ok (.aload_n 0, 1) := by decide +kernel
theorem dL_law_938 : decode cL_law 938 = .ok (.iload_n 3, 1) := by decide +kernel
theorem dL_law_939 : decode cL_law 939 = .ok (.iconst 5, 1) := by decide +kernel
theorem dL_law_940 : decode cL_law 940 = .ok (.iadd, 1) := by decide +kernel
theorem dL_law_941 : decode cL_law 941 = .ok (.iaload, 1) := by decide +kernel
theorem dL_law_942 : decode cL_law 942 = .ok (.invokevirtual 117, 3) := by decide +kernel
theorem dL_law_945 : decode cL_law 945 = .ok (.aload_n 2, 1) := by decide +kernel
theorem dL_law_946 : decode cL_law 946 = .ok (.aload_n 0, 1) := by decide +kernel
theorem dL_law_947 : decode cL_law 947 = .ok (.iload_n 3, 1) := by decide +kernel
theorem dL_law_948 : decode cL_law 948 = .ok (.iconst 1, 1) := by decide +kernel
theorem dL_law_949 : decode cL_law 949 = .ok (.iadd, 1) := by decide +kernel
theorem dL_law_950 : decode cL_law 950 = .ok (.iaload, 1) := by decide +kernel
theorem dL_law_951 : decode cL_law 951 = .ok (.aload_n 0, 1) := by decide +kernel
theorem dL_law_952 : decode cL_law 952 = .ok (.iload_n 3, 1) := by decide +kernel
theorem dL_law_953 : decode cL_law 953 = .ok (.iconst 2, 1) := by decide +kernel
theorem dL_law_954 : decode cL_law 954 = .ok (.iadd, 1) := by decide +kernel
theorem dL_law_955 : decode cL_law 955 = .ok (.iaload, 1) := by decide +kernel
theorem dL_law_956 : decode cL_law 956 = .ok (.aload_n 0, 1) := by decide +kernel
theorem dL_law_957 : decode cL_law 957 = .ok (.iload_n 3, 1) := by decide +kernel
theorem dL_law_958 : decode cL_law 958 = .ok (.iconst 3, 1) := by decide +kernel
theorem dL_law_959 : decode cL_law 959 = .ok (.iadd, 1) := by decide +kernel
theorem dL_law_960 : decode cL_law 960 = .ok (.iaload, 1) := by decide +kernel
theorem dL_law_961 : decode cL_law 961 = .ok (.aload_n 0, 1) := by decide +kernel
theorem dL_law_962 : decode cL_law 962 = .ok (.iload_n 3, 1) := by decide +kernel
theorem dL_law_963 : decode cL_law 963 = .ok (.iconst 4, 1) := by decide +kernel
theorem dL_law_964 : decode cL_law 964 = .ok (.iadd, 1) := by decide +kernel
theorem dL_law_965 : decode cL_law 965 = .ok (.iaload, 1) := by decide +kernel
theorem dL_law_966 : decode cL_law 966 = .ok (.aload_n 0, 1) := by decide +kernel
theorem dL_law_967 : decode cL_law 967 = .ok (.iload_n 3, 1) := by decide +kernel
theorem dL_law_968 : decode cL_law 968 = .ok (.iconst 5, 1) := by decide +kernel
theorem dL_law_969 : decode cL_law 969 = .ok (.iadd, 1) := by decide +kernel
theorem dL_law_970 : decode cL_law 970 = .ok (.iaload, 1) := by decide +kernel
theorem dL_law_971 : decode cL_law 971 = .ok (.invokevirtual 121, 3) := by decide +kernel
theorem dL_law_974 : decode cL_law 974 = .ok (.lcmp, 1) := by decide +kernel
theorem dL_law_975 : decode cL_law 975 = .ok (.ifCond .eq 29, 3) := by decide +kernel
theorem dL_law_978 : decode cL_law 978 = .ok (.iconst 0, 1) := by decide +kernel
theorem dL_law_979 : decode cL_law 979 = .ok (.ireturn, 1) := by decide +kernel
theorem dL_law_980 : decode cL_law 980 = .ok (.aload_n 1, 1) := by decide +kernel
theorem dL_law_981 : decode cL_law 981 = .ok (.aload_n 0, 1) := by decide +kernel
theorem dL_law_982 : decode cL_law 982 = .ok (.iload_n 3, 1) := by decide +kernel
theorem dL_law_983 : decode cL_law 983 = .ok (.iconst 1, 1) := by decide +kernel
theorem dL_law_984 : decode cL_law 984 = .ok (.iadd, 1) := by decide +kernel
theorem dL_law_985 : decode cL_law 985 = .ok (.iaload, 1) := by decide +kernel
theorem dL_law_986 : decode cL_law 986 = .ok (.invokevirtual 122, 3) := by decide +kernel
theorem dL_law_989 : decode cL_law 989 = .ok (.aload_n 2, 1) := by decide +kernel
theorem dL_law_990 : decode cL_law 990 = .ok (.aload_n 0, 1) := by decide +kernel
theorem dL_law_991 : decode cL_law 991 = .ok (.iload_n 3, 1) := by decide +kernel
theorem dL_law_992 : decode cL_law 992 = .ok (.iconst 1, 1) := by decide +kernel
theorem dL_law_993 : decode cL_law 993 = .ok (.iadd, 1) := by decide +kernel
theorem dL_law_994 : decode cL_law 994 = .ok (.iaload, 1) := by decide +kernel
theorem dL_law_995 : decode cL_law 995 = .ok (.invokevirtual 125, 3) := by decide +kernel
theorem dL_law_998 : decode cL_law 998 = .ok (.lcmp, 1) := by decide +kernel
theorem dL_law_999 : decode cL_law 999 = .ok (.ifCond .eq 5, 3) := by decide +kernel
theorem dL_law_1002 : decode cL_law 1002 = .ok (.iconst 0, 1) := by decide +kernel
theorem dL_law_1003 : decode cL_law 1003 = .ok (.ireturn, 1) := by decide +kernel
theorem dL_law_1004 : decode cL_law 1004 = .ok (.iinc 3 6, 3) := by decide +kernel
theorem dL_law_1007 : decode cL_law 1007 = .ok (.goto (-989), 3) := by decide +kernel
theorem dL_law_1010 : decode cL_law 1010 = .ok (.iconst 1, 1) := by decide +kernel
theorem dL_law_1011 : decode cL_law 1011 = .ok (.ireturn, 1) := by decide +kernel
end

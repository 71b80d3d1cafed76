section
-- ===== PART A: goes FIRST, ahead of the names: the tables' words, and 'selects' of the private methods out of them =====
/-- a private method of a class that the tables say can be made, by its rows of tables_1 -/
def lw_okq (q : MethodName × Nat) : Prop := (q.1.cls ≠ "java/lang/invoke/MethodHandle" ∧ q.1.cls ≠ "java/lang/invoke/VarHandle") ∧ Cond.instantiable q.1.cls q.2 ∈ tables_1 ∧ Cond.privateMethod q.1 ∈ tables_1 ∧ Cond.instanceMethod q.1 ∈ tables_1
theorem lw_p0 : lw_okq (⟨"SaltPlant", "letFlow", "()V"⟩, 11) := ⟨⟨by decide +kernel, by decide +kernel⟩, List.mem_of_getElem? (i := 12) (by decide +kernel), List.mem_of_getElem? (i := 255) (by decide +kernel), List.mem_of_getElem? (i := 256) (by decide +kernel)⟩
theorem lw_p1 : lw_okq (⟨"SaltPlant$Flows", "runStage", "(III)V"⟩, 13) := ⟨⟨by decide +kernel, by decide +kernel⟩, List.mem_of_getElem? (i := 52) (by decide +kernel), List.mem_of_getElem? (i := 270) (by decide +kernel), List.mem_of_getElem? (i := 271) (by decide +kernel)⟩
theorem lw_p2 : lw_okq (⟨"SaltPlant$Flows", "runVessel", "(IIJJ)V"⟩, 13) := ⟨⟨by decide +kernel, by decide +kernel⟩, List.mem_of_getElem? (i := 52) (by decide +kernel), List.mem_of_getElem? (i := 277) (by decide +kernel), List.mem_of_getElem? (i := 278) (by decide +kernel)⟩
theorem lw_p3 : lw_okq (⟨"SaltPlant", "powerAt", "(I)J"⟩, 11) := ⟨⟨by decide +kernel, by decide +kernel⟩, List.mem_of_getElem? (i := 12) (by decide +kernel), List.mem_of_getElem? (i := 303) (by decide +kernel), List.mem_of_getElem? (i := 304) (by decide +kernel)⟩
theorem lw_p4 : lw_okq (⟨"SaltPlant", "passDay", "()V"⟩, 11) := ⟨⟨by decide +kernel, by decide +kernel⟩, List.mem_of_getElem? (i := 12) (by decide +kernel), List.mem_of_getElem? (i := 334) (by decide +kernel), List.mem_of_getElem? (i := 335) (by decide +kernel)⟩
theorem lw_p5 : lw_okq (⟨"SaltPlant", "isPair", "(II)Z"⟩, 11) := ⟨⟨by decide +kernel, by decide +kernel⟩, List.mem_of_getElem? (i := 12) (by decide +kernel), List.mem_of_getElem? (i := 361) (by decide +kernel), List.mem_of_getElem? (i := 362) (by decide +kernel)⟩
theorem lw_p6 : lw_okq (⟨"SaltPlant", "sweetWaterIfChanged", "(II)J"⟩, 11) := ⟨⟨by decide +kernel, by decide +kernel⟩, List.mem_of_getElem? (i := 12) (by decide +kernel), List.mem_of_getElem? (i := 369) (by decide +kernel), List.mem_of_getElem? (i := 370) (by decide +kernel)⟩
theorem lw_p7 : lw_okq (⟨"SaltPlant", "suits", "(II)Z"⟩, 11) := ⟨⟨by decide +kernel, by decide +kernel⟩, List.mem_of_getElem? (i := 12) (by decide +kernel), List.mem_of_getElem? (i := 388) (by decide +kernel), List.mem_of_getElem? (i := 389) (by decide +kernel)⟩
theorem lw_p8 : lw_okq (⟨"SaltPlant$Hours", "laterAt", "(I)I"⟩, 4) := ⟨⟨by decide +kernel, by decide +kernel⟩, List.mem_of_getElem? (i := 110) (by decide +kernel), List.mem_of_getElem? (i := 439) (by decide +kernel), List.mem_of_getElem? (i := 440) (by decide +kernel)⟩
theorem lw_p9 : lw_okq (⟨"SaltPlantModel", "pass", "(I)I"⟩, 27) := ⟨⟨by decide +kernel, by decide +kernel⟩, List.mem_of_getElem? (i := 507) (by decide +kernel), List.mem_of_getElem? (i := 618) (by decide +kernel), List.mem_of_getElem? (i := 619) (by decide +kernel)⟩
theorem lw_p10 : lw_okq (⟨"SaltPlantModel", "leak", "(I)I"⟩, 27) := ⟨⟨by decide +kernel, by decide +kernel⟩, List.mem_of_getElem? (i := 507) (by decide +kernel), List.mem_of_getElem? (i := 622) (by decide +kernel), List.mem_of_getElem? (i := 623) (by decide +kernel)⟩
theorem lw_p11 : lw_okq (⟨"SaltPlantModel", "exchange", "(II)V"⟩, 27) := ⟨⟨by decide +kernel, by decide +kernel⟩, List.mem_of_getElem? (i := 507) (by decide +kernel), List.mem_of_getElem? (i := 639) (by decide +kernel), List.mem_of_getElem? (i := 640) (by decide +kernel)⟩
theorem lw_p12 : lw_okq (⟨"SaltPlantModel", "isThere", "(I)Z"⟩, 27) := ⟨⟨by decide +kernel, by decide +kernel⟩, List.mem_of_getElem? (i := 507) (by decide +kernel), List.mem_of_getElem? (i := 647) (by decide +kernel), List.mem_of_getElem? (i := 648) (by decide +kernel)⟩
theorem lw_p13 : lw_okq (⟨"SaltPlantModel", "isStage", "(I)Z"⟩, 27) := ⟨⟨by decide +kernel, by decide +kernel⟩, List.mem_of_getElem? (i := 507) (by decide +kernel), List.mem_of_getElem? (i := 651) (by decide +kernel), List.mem_of_getElem? (i := 652) (by decide +kernel)⟩
theorem lw_p14 : lw_okq (⟨"SaltPlantModel", "flowNow", "()V"⟩, 27) := ⟨⟨by decide +kernel, by decide +kernel⟩, List.mem_of_getElem? (i := 507) (by decide +kernel), List.mem_of_getElem? (i := 656) (by decide +kernel), List.mem_of_getElem? (i := 657) (by decide +kernel)⟩
theorem lw_p15 : lw_okq (⟨"SaltPlantModel", "flowAt", "(I)V"⟩, 27) := ⟨⟨by decide +kernel, by decide +kernel⟩, List.mem_of_getElem? (i := 507) (by decide +kernel), List.mem_of_getElem? (i := 660) (by decide +kernel), List.mem_of_getElem? (i := 661) (by decide +kernel)⟩
def lw_privs_1 : List (MethodName × Nat) := [(⟨"SaltPlant", "letFlow", "()V"⟩, 11), (⟨"SaltPlant$Flows", "runStage", "(III)V"⟩, 13), (⟨"SaltPlant$Flows", "runVessel", "(IIJJ)V"⟩, 13), (⟨"SaltPlant", "powerAt", "(I)J"⟩, 11), (⟨"SaltPlant", "passDay", "()V"⟩, 11), (⟨"SaltPlant", "isPair", "(II)Z"⟩, 11), (⟨"SaltPlant", "sweetWaterIfChanged", "(II)J"⟩, 11), (⟨"SaltPlant", "suits", "(II)Z"⟩, 11), (⟨"SaltPlant$Hours", "laterAt", "(I)I"⟩, 4), (⟨"SaltPlantModel", "pass", "(I)I"⟩, 27), (⟨"SaltPlantModel", "leak", "(I)I"⟩, 27), (⟨"SaltPlantModel", "exchange", "(II)V"⟩, 27), (⟨"SaltPlantModel", "isThere", "(I)Z"⟩, 27), (⟨"SaltPlantModel", "isStage", "(I)Z"⟩, 27), (⟨"SaltPlantModel", "flowNow", "()V"⟩, 27), (⟨"SaltPlantModel", "flowAt", "(I)V"⟩, 27)]
theorem lw_r1 : ∀ q ∈ lw_privs_1, lw_okq q := List.forall_mem_cons.mpr ⟨lw_p0, List.forall_mem_cons.mpr ⟨lw_p1, List.forall_mem_cons.mpr ⟨lw_p2, List.forall_mem_cons.mpr ⟨lw_p3, List.forall_mem_cons.mpr ⟨lw_p4, List.forall_mem_cons.mpr ⟨lw_p5, List.forall_mem_cons.mpr ⟨lw_p6, List.forall_mem_cons.mpr ⟨lw_p7, List.forall_mem_cons.mpr ⟨lw_p8, List.forall_mem_cons.mpr ⟨lw_p9, List.forall_mem_cons.mpr ⟨lw_p10, List.forall_mem_cons.mpr ⟨lw_p11, List.forall_mem_cons.mpr ⟨lw_p12, List.forall_mem_cons.mpr ⟨lw_p13, List.forall_mem_cons.mpr ⟨lw_p14, List.forall_mem_cons.mpr ⟨lw_p15, fun _ h => absurd h List.not_mem_nil⟩⟩⟩⟩⟩⟩⟩⟩⟩⟩⟩⟩⟩⟩⟩⟩
theorem lw_p16 : lw_okq (⟨"SaltPlantModel", "vessel", "(IIJJJ)V"⟩, 27) := ⟨⟨by decide +kernel, by decide +kernel⟩, List.mem_of_getElem? (i := 507) (by decide +kernel), List.mem_of_getElem? (i := 667) (by decide +kernel), List.mem_of_getElem? (i := 668) (by decide +kernel)⟩
theorem lw_p17 : lw_okq (⟨"SaltPlantModel", "skin", "(IJJJ)V"⟩, 27) := ⟨⟨by decide +kernel, by decide +kernel⟩, List.mem_of_getElem? (i := 507) (by decide +kernel), List.mem_of_getElem? (i := 671) (by decide +kernel), List.mem_of_getElem? (i := 672) (by decide +kernel)⟩
theorem lw_p18 : lw_okq (⟨"SaltPlantModel", "powerAt", "(I)J"⟩, 27) := ⟨⟨by decide +kernel, by decide +kernel⟩, List.mem_of_getElem? (i := 507) (by decide +kernel), List.mem_of_getElem? (i := 690) (by decide +kernel), List.mem_of_getElem? (i := 691) (by decide +kernel)⟩
theorem lw_p19 : lw_okq (⟨"SaltPlantModel", "failing", "()I"⟩, 27) := ⟨⟨by decide +kernel, by decide +kernel⟩, List.mem_of_getElem? (i := 507) (by decide +kernel), List.mem_of_getElem? (i := 698) (by decide +kernel), List.mem_of_getElem? (i := 699) (by decide +kernel)⟩
theorem lw_p20 : lw_okq (⟨"SaltPlantModel", "day", "()V"⟩, 27) := ⟨⟨by decide +kernel, by decide +kernel⟩, List.mem_of_getElem? (i := 507) (by decide +kernel), List.mem_of_getElem? (i := 714) (by decide +kernel), List.mem_of_getElem? (i := 715) (by decide +kernel)⟩
theorem lw_p21 : lw_okq (⟨"SaltPlantModel", "isContent", "(I)Z"⟩, 27) := ⟨⟨by decide +kernel, by decide +kernel⟩, List.mem_of_getElem? (i := 507) (by decide +kernel), List.mem_of_getElem? (i := 750) (by decide +kernel), List.mem_of_getElem? (i := 751) (by decide +kernel)⟩
theorem lw_p22 : lw_okq (⟨"SaltPlantModel", "findPlan", "()V"⟩, 27) := ⟨⟨by decide +kernel, by decide +kernel⟩, List.mem_of_getElem? (i := 507) (by decide +kernel), List.mem_of_getElem? (i := 754) (by decide +kernel), List.mem_of_getElem? (i := 755) (by decide +kernel)⟩
theorem lw_p23 : lw_okq (⟨"SaltPlantModel", "costFrom", "(IIZ)I"⟩, 27) := ⟨⟨by decide +kernel, by decide +kernel⟩, List.mem_of_getElem? (i := 507) (by decide +kernel), List.mem_of_getElem? (i := 758) (by decide +kernel), List.mem_of_getElem? (i := 759) (by decide +kernel)⟩
theorem lw_p24 : lw_okq (⟨"SaltPlantModel", "behind", "(IIZ)I"⟩, 27) := ⟨⟨by decide +kernel, by decide +kernel⟩, List.mem_of_getElem? (i := 507) (by decide +kernel), List.mem_of_getElem? (i := 762) (by decide +kernel), List.mem_of_getElem? (i := 763) (by decide +kernel)⟩
theorem lw_p25 : lw_okq (⟨"SaltPlantModel", "go", "(I)I"⟩, 27) := ⟨⟨by decide +kernel, by decide +kernel⟩, List.mem_of_getElem? (i := 507) (by decide +kernel), List.mem_of_getElem? (i := 770) (by decide +kernel), List.mem_of_getElem? (i := 771) (by decide +kernel)⟩
def lw_privs_2 : List (MethodName × Nat) := [(⟨"SaltPlantModel", "vessel", "(IIJJJ)V"⟩, 27), (⟨"SaltPlantModel", "skin", "(IJJJ)V"⟩, 27), (⟨"SaltPlantModel", "powerAt", "(I)J"⟩, 27), (⟨"SaltPlantModel", "failing", "()I"⟩, 27), (⟨"SaltPlantModel", "day", "()V"⟩, 27), (⟨"SaltPlantModel", "isContent", "(I)Z"⟩, 27), (⟨"SaltPlantModel", "findPlan", "()V"⟩, 27), (⟨"SaltPlantModel", "costFrom", "(IIZ)I"⟩, 27), (⟨"SaltPlantModel", "behind", "(IIZ)I"⟩, 27), (⟨"SaltPlantModel", "go", "(I)I"⟩, 27)]
theorem lw_r2 : ∀ q ∈ lw_privs_2, lw_okq q := List.forall_mem_cons.mpr ⟨lw_p16, List.forall_mem_cons.mpr ⟨lw_p17, List.forall_mem_cons.mpr ⟨lw_p18, List.forall_mem_cons.mpr ⟨lw_p19, List.forall_mem_cons.mpr ⟨lw_p20, List.forall_mem_cons.mpr ⟨lw_p21, List.forall_mem_cons.mpr ⟨lw_p22, List.forall_mem_cons.mpr ⟨lw_p23, List.forall_mem_cons.mpr ⟨lw_p24, List.forall_mem_cons.mpr ⟨lw_p25, fun _ h => absurd h List.not_mem_nil⟩⟩⟩⟩⟩⟩⟩⟩⟩⟩
def lw_privs : List (MethodName × Nat) := lw_privs_1 ++ (lw_privs_2)
def lw_tbl : List Cond := k2_sels lw_privs ++ tables_1
theorem lw_privs_ok : ∀ q ∈ lw_privs, lw_okq q := by
  show ∀ q ∈ lw_privs_1 ++ (lw_privs_2), lw_okq q
  exact List.forall_mem_append.mpr ⟨lw_r1, lw_r2⟩
end
section
/-! ===== BEGIN words of one list among another's, by their places ===== -/
theorem goodIn_r {big : List Cond} (ws : List Cond) (ps : List Nat) (hp : ws = ps.filterMap (fun i => big[i]?)) (h : ws.all goodWord = true) : GoodIn big ws := by
  intro w hw
  have h1 := List.all_eq_true.mp h w hw
  rw [hp] at hw
  obtain ⟨i, -, hi⟩ := List.mem_filterMap.mp hw
  have hm : w ∈ big := by first | exact List.mem_of_getElem? hi | exact List.getElem?_mem hi
  exact ⟨hm, good_of_word h1⟩
theorem goodIn_app {big a b : List Cond} (ha : GoodIn big a) (hb : GoodIn big b) : GoodIn big (a ++ b) := fun w h => (List.mem_append.mp h).elim (ha w) (hb w)
theorem goodIn_ca {big a b : List Cond} {c : Cond} (ha : GoodIn big (c :: a)) (hb : GoodIn big b) : GoodIn big (c :: (a ++ b)) := fun w h => (List.mem_cons.mp h).elim (fun e => ha w (List.mem_cons.mpr (Or.inl e))) (fun h => (List.mem_append.mp h).elim (fun h => ha w (List.mem_cons.mpr (Or.inr h))) (hb w))
theorem goodIn_sub {big ws : List Cond} (hm : ∀ w ∈ ws, w ∈ big) (h : ws.all goodWord = true) : GoodIn big ws := fun w hw => ⟨hm w hw, good_of_word (List.all_eq_true.mp h w hw)⟩
/-! ===== END ===== -/

def RX0 : String := "SaltPlant$Flows"
def TX0 : u_T := fun k => match k with
  | 0 => ("SaltPlant$Flows", "pass", "[I", true)
  | 1 => ("SaltPlant$Flows", "leak", "[I", true)
  | 2 => ("SaltPlant$Flows", "water", "[J", true)
  | 3 => ("SaltPlant$Flows", "grains", "[J", true)
  | 4 => ("SaltPlant$Flows", "pressure", "[J", true)
  | 5 => ("SaltPlant$Flows", "through", "[J", true)
  | 6 => ("SaltPlant$Flows", "throughSalt", "[J", true)
  | 7 => ("SaltPlant$Flows", "throughGrains", "[J", true)
  | 8 => ("SaltPlant$Flows", "stayWater", "J", false)
  | 9 => ("SaltPlant$Flows", "stayGrains", "J", false)
  | 10 => ("SaltPlant$Flows", "stayPressure", "J", false)
  | 11 => ("SaltPlant$Flows", "sweetWater", "J", false)
  | _ => ("SaltPlant$Flows", "sweetGrains", "J", false)
def tyX0 : Nat → FieldType := fun k => match k with
  | 0 => .array .int
  | 1 => .array .int
  | 2 => .array .long
  | 3 => .array .long
  | 4 => .array .long
  | 5 => .array .long
  | 6 => .array .long
  | 7 => .array .long
  | 8 => .long
  | 9 => .long
  | 10 => .long
  | 11 => .long
  | _ => .long
abbrev wsX00 : List Cond := u_ws RX0 TX0 13
theorem nmX0 : ∀ a, a < 13 → ∀ b, b < 13 → a ≠ b → (TX0 a).2.1 ≠ (TX0 b).2.1 := by decide +kernel
theorem tyX0_ok : ∀ k, k < 13 → parseFieldDescriptor (TX0 k).2.2.1 = some (tyX0 k) := by decide +kernel
abbrev cX0_init : ByteArray := prog_2_method_1_code
def yX0_init : MethodName := ⟨RX0, "<init>", "()V"⟩
abbrev cX0_saltOf : ByteArray := prog_2_method_2_code
def yX0_saltOf : MethodName := ⟨RX0, "saltOf", "(JJ)J"⟩
abbrev cX0_take : ByteArray := prog_2_method_3_code
def yX0_take : MethodName := ⟨RX0, "take", "(LSaltPlant$Skins;)V"⟩
abbrev cX0_areAlike : ByteArray := prog_2_method_4_code
def yX0_areAlike : MethodName := ⟨RX0, "areAlike", "(II)Z"⟩
abbrev cX0_exchange : ByteArray := prog_2_method_5_code
def yX0_exchange : MethodName := ⟨RX0, "exchange", "(II)V"⟩
abbrev cX0_run : ByteArray := prog_2_method_6_code
def yX0_run : MethodName := ⟨RX0, "run", "(LSaltPlant$Layout;JJJ)V"⟩
abbrev cX0_runStage : ByteArray := prog_2_method_7_code
def yX0_runStage : MethodName := ⟨RX0, "runStage", "(III)V"⟩
abbrev cX0_runVessel : ByteArray := prog_2_method_8_code
def yX0_runVessel : MethodName := ⟨RX0, "runVessel", "(IIJJ)V"⟩
abbrev cX0_firstFailure : ByteArray := prog_2_method_9_code
def yX0_firstFailure : MethodName := ⟨RX0, "firstFailure", "(LSaltPlant$Layout;II)J"⟩
def RX1 : String := "SaltPlant$Hours"
def TX1 : u_T := fun k => match k with
  | 0 => ("SaltPlant$Hours", "prices", "[I", true)
  | 1 => ("SaltPlant$Hours", "needs", "[I", true)
  | 2 => ("SaltPlant$Hours", "now", "[I", true)
  | _ => ("SaltPlant$Hours", "later", "[I", true)
def tyX1 : Nat → FieldType := fun k => match k with
  | 0 => .array .int
  | 1 => .array .int
  | 2 => .array .int
  | _ => .array .int
abbrev wsX10 : List Cond := u_ws RX1 TX1 4
theorem nmX1 : ∀ a, a < 4 → ∀ b, b < 4 → a ≠ b → (TX1 a).2.1 ≠ (TX1 b).2.1 := by decide +kernel
theorem tyX1_ok : ∀ k, k < 4 → parseFieldDescriptor (TX1 k).2.2.1 = some (tyX1 k) := by decide +kernel
abbrev cX1_init : ByteArray := prog_3_method_1_code
def yX1_init : MethodName := ⟨RX1, "<init>", "()V"⟩
abbrev cX1_mostOf : ByteArray := prog_3_method_2_code
def yX1_mostOf : MethodName := ⟨RX1, "mostOf", "(I)I"⟩
abbrev cX1_rowOf : ByteArray := prog_3_method_3_code
def yX1_rowOf : MethodName := ⟨RX1, "rowOf", "(I)[I"⟩
abbrev cX1_isPlan : ByteArray := prog_3_method_4_code
def yX1_isPlan : MethodName := ⟨RX1, "isPlan", "(I)Z"⟩
abbrev cX1_costOf : ByteArray := prog_3_method_5_code
def yX1_costOf : MethodName := ⟨RX1, "costOf", "(I)I"⟩
abbrev cX1_runsAt : ByteArray := prog_3_method_6_code
def yX1_runsAt : MethodName := ⟨RX1, "runsAt", "(II)Z"⟩
abbrev cX1_bitsOf : ByteArray := prog_3_method_7_code
def yX1_bitsOf : MethodName := ⟨RX1, "bitsOf", "(I)I"⟩
abbrev cX1_behind : ByteArray := prog_3_method_8_code
def yX1_behind : MethodName := ⟨RX1, "behind", "(III)I"⟩
abbrev cX1_best : ByteArray := prog_3_method_9_code
def yX1_best : MethodName := ⟨RX1, "best", "(III)I"⟩
abbrev cX1_laterAt : ByteArray := prog_3_method_10_code
def yX1_laterAt : MethodName := ⟨RX1, "laterAt", "(I)I"⟩
def RX2 : String := "SaltPlant$Layout"
def TX2 : u_T := fun k => match k with
  | 0 => ("SaltPlant$Layout", "vessels", "[I", true)
  | _ => ("SaltPlant$Layout", "inVessel", "I", false)
def tyX2 : Nat → FieldType := fun k => match k with
  | 0 => .array .int
  | _ => .int
abbrev wsX20 : List Cond := u_ws RX2 TX2 2
theorem nmX2 : ∀ a, a < 2 → ∀ b, b < 2 → a ≠ b → (TX2 a).2.1 ≠ (TX2 b).2.1 := by decide +kernel
theorem tyX2_ok : ∀ k, k < 2 → parseFieldDescriptor (TX2 k).2.2.1 = some (tyX2 k) := by decide +kernel
abbrev cX2_init : ByteArray := prog_4_method_1_code
def yX2_init : MethodName := ⟨RX2, "<init>", "()V"⟩
abbrev cX2_vesselsIn : ByteArray := prog_4_method_2_code
def yX2_vesselsIn : MethodName := ⟨RX2, "vesselsIn", "(I)I"⟩
abbrev cX2_standing : ByteArray := prog_4_method_3_code
def yX2_standing : MethodName := ⟨RX2, "standing", "()I"⟩
abbrev cX2_holdsSkin : ByteArray := prog_4_method_4_code
def yX2_holdsSkin : MethodName := ⟨RX2, "holdsSkin", "(I)Z"⟩
abbrev cX2_become : ByteArray := prog_4_method_5_code
def yX2_become : MethodName := ⟨RX2, "become", "(I)Z"⟩
abbrev cX2_digits : ByteArray := prog_4_method_6_code
def yX2_digits : MethodName := ⟨RX2, "digits", "()I"⟩
def RX3 : String := "SaltPlant$Sheet"
def TX3 : u_T := fun k => match k with
  | 0 => ("SaltPlant$Sheet", "places", "[S", true)
  | _ => ("SaltPlant$Sheet", "size", "I", false)
def tyX3 : Nat → FieldType := fun k => match k with
  | 0 => .array .short
  | _ => .int
abbrev wsX30 : List Cond := u_ws RX3 TX3 2
theorem nmX3 : ∀ a, a < 2 → ∀ b, b < 2 → a ≠ b → (TX3 a).2.1 ≠ (TX3 b).2.1 := by decide +kernel
theorem tyX3_ok : ∀ k, k < 2 → parseFieldDescriptor (TX3 k).2.2.1 = some (tyX3 k) := by decide +kernel
abbrev cX3_init : ByteArray := prog_5_method_1_code
def yX3_init : MethodName := ⟨RX3, "<init>", "()V"⟩
abbrev cX3_isMissing : ByteArray := prog_5_method_2_code
def yX3_isMissing : MethodName := ⟨RX3, "isMissing", "()Z"⟩
abbrev cX3_begin : ByteArray := prog_5_method_3_code
def yX3_begin : MethodName := ⟨RX3, "begin", "(I)V"⟩
abbrev cX3_has : ByteArray := prog_5_method_4_code
def yX3_has : MethodName := ⟨RX3, "has", "(I)Z"⟩
abbrev cX3_hasRun : ByteArray := prog_5_method_5_code
def yX3_hasRun : MethodName := ⟨RX3, "hasRun", "(II)Z"⟩
def RX4 : String := "SaltPlant$Skins"
def TX4 : u_T := fun k => match k with
  | 0 => ("SaltPlant$Skins", "kinds", "[I", true)
  | _ => ("SaltPlant$Skins", "fouls", "[I", true)
def tyX4 : Nat → FieldType := fun k => match k with
  | 0 => .array .int
  | _ => .array .int
abbrev wsX40 : List Cond := u_ws RX4 TX4 2
theorem nmX4 : ∀ a, a < 2 → ∀ b, b < 2 → a ≠ b → (TX4 a).2.1 ≠ (TX4 b).2.1 := by decide +kernel
theorem tyX4_ok : ∀ k, k < 2 → parseFieldDescriptor (TX4 k).2.2.1 = some (tyX4 k) := by decide +kernel
abbrev cX4_init : ByteArray := prog_6_method_1_code
def yX4_init : MethodName := ⟨RX4, "<init>", "()V"⟩
abbrev cX4_passAt : ByteArray := prog_6_method_2_code
def yX4_passAt : MethodName := ⟨RX4, "passAt", "(I)I"⟩
abbrev cX4_leakAt : ByteArray := prog_6_method_3_code
def yX4_leakAt : MethodName := ⟨RX4, "leakAt", "(I)I"⟩
abbrev cX4_isUnder : ByteArray := prog_6_method_4_code
def yX4_isUnder : MethodName := ⟨RX4, "isUnder", "(II)Z"⟩
abbrev cX4_renew : ByteArray := prog_6_method_5_code
def yX4_renew : MethodName := ⟨RX4, "renew", "(II)I"⟩
abbrev cX4_exchange : ByteArray := prog_6_method_6_code
def yX4_exchange : MethodName := ⟨RX4, "exchange", "(II)V"⟩
abbrev cX4_soil : ByteArray := prog_6_method_7_code
def yX4_soil : MethodName := ⟨RX4, "soil", "(IJ)V"⟩
abbrev cX4_wash : ByteArray := prog_6_method_8_code
def yX4_wash : MethodName := ⟨RX4, "wash", "(I)V"⟩
def RX5 : String := "SaltPlant"
def TX5 : u_T := fun k => match k with
  | 0 => ("SaltPlant", "rules", "[I", true)
  | 1 => ("SaltPlant", "layout", "LSaltPlant$Layout;", true)
  | 2 => ("SaltPlant", "trial", "LSaltPlant$Layout;", true)
  | 3 => ("SaltPlant", "skins", "LSaltPlant$Skins;", true)
  | 4 => ("SaltPlant", "flows", "LSaltPlant$Flows;", true)
  | 5 => ("SaltPlant", "hours", "LSaltPlant$Hours;", true)
  | 6 => ("SaltPlant", "sheets", "[LSaltPlant$Sheet;", true)
  | 7 => ("SaltPlant", "feedWater", "I", false)
  | 8 => ("SaltPlant", "feedSalt", "I", false)
  | 9 => ("SaltPlant", "feedPressure", "I", false)
  | _ => ("SaltPlant", "daysGone", "I", false)
def tyX5 : Nat → FieldType := fun k => match k with
  | 0 => .array .int
  | 1 => .object "SaltPlant$Layout"
  | 2 => .object "SaltPlant$Layout"
  | 3 => .object "SaltPlant$Skins"
  | 4 => .object "SaltPlant$Flows"
  | 5 => .object "SaltPlant$Hours"
  | 6 => .array (.object "SaltPlant$Sheet")
  | 7 => .int
  | 8 => .int
  | 9 => .int
  | _ => .int
abbrev wsX50 : List Cond := u_ws RX5 TX5 11
theorem nmX5 : ∀ a, a < 11 → ∀ b, b < 11 → a ≠ b → (TX5 a).2.1 ≠ (TX5 b).2.1 := by decide +kernel
theorem tyX5_ok : ∀ k, k < 11 → parseFieldDescriptor (TX5 k).2.2.1 = some (tyX5 k) := by decide +kernel
abbrev cX5_init : ByteArray := prog_1_method_1_code
def yX5_init : MethodName := ⟨RX5, "<init>", "()V"⟩
abbrev cX5_stage : ByteArray := prog_1_method_2_code
def yX5_stage : MethodName := ⟨RX5, "stage", "(II)J"⟩
abbrev cX5_length : ByteArray := prog_1_method_3_code
def yX5_length : MethodName := ⟨RX5, "length", "(I)J"⟩
abbrev cX5_fresh : ByteArray := prog_1_method_4_code
def yX5_fresh : MethodName := ⟨RX5, "fresh", "(II)J"⟩
abbrev cX5_told : ByteArray := prog_1_method_5_code
def yX5_told : MethodName := ⟨RX5, "told", "(II)J"⟩
abbrev cX5_isOf : ByteArray := prog_1_method_6_code
def yX5_isOf : MethodName := ⟨RX5, "isOf", "(II)J"⟩
abbrev cX5_feed : ByteArray := prog_1_method_7_code
def yX5_feed : MethodName := ⟨RX5, "feed", "(III)J"⟩
abbrev cX5_change : ByteArray := prog_1_method_8_code
def yX5_change : MethodName := ⟨RX5, "change", "(II)J"⟩
abbrev cX5_flow : ByteArray := prog_1_method_9_code
def yX5_flow : MethodName := ⟨RX5, "flow", "(II)J"⟩
abbrev cX5_sweet : ByteArray := prog_1_method_10_code
def yX5_sweet : MethodName := ⟨RX5, "sweet", "(I)J"⟩
abbrev cX5_brine : ByteArray := prog_1_method_11_code
def yX5_brine : MethodName := ⟨RX5, "brine", "(I)J"⟩
abbrev cX5_power : ByteArray := prog_1_method_12_code
def yX5_power : MethodName := ⟨RX5, "power", "()J"⟩
abbrev cX5_failure : ByteArray := prog_1_method_13_code
def yX5_failure : MethodName := ⟨RX5, "failure", "()J"⟩
abbrev cX5_rule : ByteArray := prog_1_method_14_code
def yX5_rule : MethodName := ⟨RX5, "rule", "(II)J"⟩
abbrev cX5_days : ByteArray := prog_1_method_15_code
def yX5_days : MethodName := ⟨RX5, "days", "(I)J"⟩
abbrev cX5_foul : ByteArray := prog_1_method_16_code
def yX5_foul : MethodName := ⟨RX5, "foul", "(I)J"⟩
abbrev cX5_swap : ByteArray := prog_1_method_17_code
def yX5_swap : MethodName := ⟨RX5, "swap", "()J"⟩
abbrev cX5_array : ByteArray := prog_1_method_18_code
def yX5_array : MethodName := ⟨RX5, "array", "(II)J"⟩
abbrev cX5_hour : ByteArray := prog_1_method_19_code
def yX5_hour : MethodName := ⟨RX5, "hour", "(III)J"⟩
abbrev cX5_lay : ByteArray := prog_1_method_20_code
def yX5_lay : MethodName := ⟨RX5, "lay", "(II)J"⟩
abbrev cX5_plan : ByteArray := prog_1_method_21_code
def yX5_plan : MethodName := ⟨RX5, "plan", "(I)J"⟩
abbrev cX5_runs : ByteArray := prog_1_method_22_code
def yX5_runs : MethodName := ⟨RX5, "runs", "(I)J"⟩
abbrev cX5_tank : ByteArray := prog_1_method_23_code
def yX5_tank : MethodName := ⟨RX5, "tank", "(II)J"⟩
abbrev cX5_joint : ByteArray := prog_1_method_24_code
def yX5_joint : MethodName := ⟨RX5, "joint", "(III)J"⟩
abbrev cX5_sheet : ByteArray := prog_1_method_25_code
def yX5_sheet : MethodName := ⟨RX5, "sheet", "(II)J"⟩
abbrev cX5_mark : ByteArray := prog_1_method_26_code
def yX5_mark : MethodName := ⟨RX5, "mark", "(III)J"⟩
abbrev cX5_copy : ByteArray := prog_1_method_27_code
def yX5_copy : MethodName := ⟨RX5, "copy", "(IIIII)J"⟩
abbrev cX5_count : ByteArray := prog_1_method_28_code
def yX5_count : MethodName := ⟨RX5, "count", "(I)J"⟩
abbrev cX5_outside : ByteArray := prog_1_method_29_code
def yX5_outside : MethodName := ⟨RX5, "outside", "(III)Z"⟩
abbrev cX5_placeOf : ByteArray := prog_1_method_30_code
def yX5_placeOf : MethodName := ⟨RX5, "placeOf", "(I)I"⟩
abbrev cX5_numberOf : ByteArray := prog_1_method_31_code
def yX5_numberOf : MethodName := ⟨RX5, "numberOf", "(I)I"⟩
abbrev cX5_letFlow : ByteArray := prog_1_method_32_code
def yX5_letFlow : MethodName := ⟨RX5, "letFlow", "()V"⟩
abbrev cX5_powerAt : ByteArray := prog_1_method_33_code
def yX5_powerAt : MethodName := ⟨RX5, "powerAt", "(I)J"⟩
abbrev cX5_suits : ByteArray := prog_1_method_34_code
def yX5_suits : MethodName := ⟨RX5, "suits", "(II)Z"⟩
abbrev cX5_passDay : ByteArray := prog_1_method_35_code
def yX5_passDay : MethodName := ⟨RX5, "passDay", "()V"⟩
abbrev cX5_isPair : ByteArray := prog_1_method_36_code
def yX5_isPair : MethodName := ⟨RX5, "isPair", "(II)Z"⟩
abbrev cX5_sweetWaterIfChanged : ByteArray := prog_1_method_37_code
def yX5_sweetWaterIfChanged : MethodName := ⟨RX5, "sweetWaterIfChanged", "(II)J"⟩
def RX6 : String := "SaltPlantModel"
def TX6 : u_T := fun k => match k with
  | 0 => ("SaltPlantModel", "vessels", "[I", true)
  | 1 => ("SaltPlantModel", "longs", "I", false)
  | 2 => ("SaltPlantModel", "kind", "[I", true)
  | 3 => ("SaltPlantModel", "foul", "[I", true)
  | 4 => ("SaltPlantModel", "water", "I", false)
  | 5 => ("SaltPlantModel", "salt", "I", false)
  | 6 => ("SaltPlantModel", "pressure", "I", false)
  | 7 => ("SaltPlantModel", "rules", "[I", true)
  | 8 => ("SaltPlantModel", "days", "I", false)
  | 9 => ("SaltPlantModel", "prices", "[I", true)
  | 10 => ("SaltPlantModel", "needs", "[I", true)
  | 11 => ("SaltPlantModel", "places", "[I", true)
  | 12 => ("SaltPlantModel", "numbers", "[I", true)
  | 13 => ("SaltPlantModel", "getsWater", "[J", true)
  | 14 => ("SaltPlantModel", "getsGrains", "[J", true)
  | 15 => ("SaltPlantModel", "getsPush", "[J", true)
  | 16 => ("SaltPlantModel", "through", "[J", true)
  | 17 => ("SaltPlantModel", "grains", "[J", true)
  | 18 => ("SaltPlantModel", "sweetWater", "J", false)
  | 19 => ("SaltPlantModel", "sweetGrains", "J", false)
  | 20 => ("SaltPlantModel", "leftWater", "J", false)
  | 21 => ("SaltPlantModel", "leftGrains", "J", false)
  | 22 => ("SaltPlantModel", "leftPush", "J", false)
  | 23 => ("SaltPlantModel", "had", "[I", true)
  | 24 => ("SaltPlantModel", "costs", "[I", true)
  | 25 => ("SaltPlantModel", "holds", "[I", true)
  | _ => ("SaltPlantModel", "carried", "[I", true)
def tyX6 : Nat → FieldType := fun k => match k with
  | 0 => .array .int
  | 1 => .int
  | 2 => .array .int
  | 3 => .array .int
  | 4 => .int
  | 5 => .int
  | 6 => .int
  | 7 => .array .int
  | 8 => .int
  | 9 => .array .int
  | 10 => .array .int
  | 11 => .array .int
  | 12 => .array .int
  | 13 => .array .long
  | 14 => .array .long
  | 15 => .array .long
  | 16 => .array .long
  | 17 => .array .long
  | 18 => .long
  | 19 => .long
  | 20 => .long
  | 21 => .long
  | 22 => .long
  | 23 => .array .int
  | 24 => .array .int
  | 25 => .array .int
  | _ => .array .int
abbrev wsX60 : List Cond := u_ws RX6 TX6 27
theorem nmX6 : ∀ a, a < 27 → ∀ b, b < 27 → a ≠ b → (TX6 a).2.1 ≠ (TX6 b).2.1 := by decide +kernel
theorem tyX6_ok : ∀ k, k < 27 → parseFieldDescriptor (TX6 k).2.2.1 = some (tyX6 k) := by decide +kernel
abbrev cX6_init : ByteArray := prog_8_method_1_code
def yX6_init : MethodName := ⟨RX6, "<init>", "()V"⟩
abbrev cX6_isIn : ByteArray := prog_8_method_2_code
def yX6_isIn : MethodName := ⟨RX6, "isIn", "(III)Z"⟩
abbrev cX6_stage : ByteArray := prog_8_method_3_code
def yX6_stage : MethodName := ⟨RX6, "stage", "(II)J"⟩
abbrev cX6_length : ByteArray := prog_8_method_4_code
def yX6_length : MethodName := ⟨RX6, "length", "(I)J"⟩
abbrev cX6_placeOf : ByteArray := prog_8_method_5_code
def yX6_placeOf : MethodName := ⟨RX6, "placeOf", "(I)I"⟩
abbrev cX6_skinAt : ByteArray := prog_8_method_6_code
def yX6_skinAt : MethodName := ⟨RX6, "skinAt", "(I)I"⟩
abbrev cX6_isStage : ByteArray := prog_8_method_7_code
def yX6_isStage : MethodName := ⟨RX6, "isStage", "(I)Z"⟩
abbrev cX6_isThere : ByteArray := prog_8_method_8_code
def yX6_isThere : MethodName := ⟨RX6, "isThere", "(I)Z"⟩
abbrev cX6_fresh : ByteArray := prog_8_method_9_code
def yX6_fresh : MethodName := ⟨RX6, "fresh", "(II)J"⟩
abbrev cX6_pass : ByteArray := prog_8_method_10_code
def yX6_pass : MethodName := ⟨RX6, "pass", "(I)I"⟩
abbrev cX6_leak : ByteArray := prog_8_method_11_code
def yX6_leak : MethodName := ⟨RX6, "leak", "(I)I"⟩
abbrev cX6_told : ByteArray := prog_8_method_12_code
def yX6_told : MethodName := ⟨RX6, "told", "(II)J"⟩
abbrev cX6_isOf : ByteArray := prog_8_method_13_code
def yX6_isOf : MethodName := ⟨RX6, "isOf", "(II)J"⟩
abbrev cX6_feed : ByteArray := prog_8_method_14_code
def yX6_feed : MethodName := ⟨RX6, "feed", "(III)J"⟩
abbrev cX6_exchange : ByteArray := prog_8_method_15_code
def yX6_exchange : MethodName := ⟨RX6, "exchange", "(II)V"⟩
abbrev cX6_change : ByteArray := prog_8_method_16_code
def yX6_change : MethodName := ⟨RX6, "change", "(II)J"⟩
abbrev cX6_saltOf : ByteArray := prog_8_method_17_code
def yX6_saltOf : MethodName := ⟨RX6, "saltOf", "(JJ)J"⟩
abbrev cX6_skin : ByteArray := prog_8_method_18_code
def yX6_skin : MethodName := ⟨RX6, "skin", "(IJJJ)V"⟩
abbrev cX6_vessel : ByteArray := prog_8_method_19_code
def yX6_vessel : MethodName := ⟨RX6, "vessel", "(IIJJJ)V"⟩
abbrev cX6_flowAt : ByteArray := prog_8_method_20_code
def yX6_flowAt : MethodName := ⟨RX6, "flowAt", "(I)V"⟩
abbrev cX6_flowNow : ByteArray := prog_8_method_21_code
def yX6_flowNow : MethodName := ⟨RX6, "flowNow", "()V"⟩
abbrev cX6_flow : ByteArray := prog_8_method_22_code
def yX6_flow : MethodName := ⟨RX6, "flow", "(II)J"⟩
abbrev cX6_sweet : ByteArray := prog_8_method_23_code
def yX6_sweet : MethodName := ⟨RX6, "sweet", "(I)J"⟩
abbrev cX6_brine : ByteArray := prog_8_method_24_code
def yX6_brine : MethodName := ⟨RX6, "brine", "(I)J"⟩
abbrev cX6_powerAt : ByteArray := prog_8_method_25_code
def yX6_powerAt : MethodName := ⟨RX6, "powerAt", "(I)J"⟩
abbrev cX6_power : ByteArray := prog_8_method_26_code
def yX6_power : MethodName := ⟨RX6, "power", "()J"⟩
abbrev cX6_failing : ByteArray := prog_8_method_27_code
def yX6_failing : MethodName := ⟨RX6, "failing", "()I"⟩
abbrev cX6_failure : ByteArray := prog_8_method_28_code
def yX6_failure : MethodName := ⟨RX6, "failure", "()J"⟩
abbrev cX6_rule : ByteArray := prog_8_method_29_code
def yX6_rule : MethodName := ⟨RX6, "rule", "(II)J"⟩
abbrev cX6_day : ByteArray := prog_8_method_30_code
def yX6_day : MethodName := ⟨RX6, "day", "()V"⟩
abbrev cX6_days : ByteArray := prog_8_method_31_code
def yX6_days : MethodName := ⟨RX6, "days", "(I)J"⟩
abbrev cX6_foul : ByteArray := prog_8_method_32_code
def yX6_foul : MethodName := ⟨RX6, "foul", "(I)J"⟩
abbrev cX6_swap : ByteArray := prog_8_method_33_code
def yX6_swap : MethodName := ⟨RX6, "swap", "()J"⟩
abbrev cX6_array : ByteArray := prog_8_method_34_code
def yX6_array : MethodName := ⟨RX6, "array", "(II)J"⟩
abbrev cX6_hour : ByteArray := prog_8_method_35_code
def yX6_hour : MethodName := ⟨RX6, "hour", "(III)J"⟩
abbrev cX6_isSheet : ByteArray := prog_8_method_36_code
def yX6_isSheet : MethodName := ⟨RX6, "isSheet", "(I)Z"⟩
abbrev cX6_lay : ByteArray := prog_8_method_37_code
def yX6_lay : MethodName := ⟨RX6, "lay", "(II)J"⟩
abbrev cX6_behind : ByteArray := prog_8_method_38_code
def yX6_behind : MethodName := ⟨RX6, "behind", "(IIZ)I"⟩
abbrev cX6_costFrom : ByteArray := prog_8_method_39_code
def yX6_costFrom : MethodName := ⟨RX6, "costFrom", "(IIZ)I"⟩
abbrev cX6_findPlan : ByteArray := prog_8_method_40_code
def yX6_findPlan : MethodName := ⟨RX6, "findPlan", "()V"⟩
abbrev cX6_isContent : ByteArray := prog_8_method_41_code
def yX6_isContent : MethodName := ⟨RX6, "isContent", "(I)Z"⟩
abbrev cX6_plan : ByteArray := prog_8_method_42_code
def yX6_plan : MethodName := ⟨RX6, "plan", "(I)J"⟩
abbrev cX6_go : ByteArray := prog_8_method_43_code
def yX6_go : MethodName := ⟨RX6, "go", "(I)I"⟩
abbrev cX6_runs : ByteArray := prog_8_method_44_code
def yX6_runs : MethodName := ⟨RX6, "runs", "(I)J"⟩
abbrev cX6_tank : ByteArray := prog_8_method_45_code
def yX6_tank : MethodName := ⟨RX6, "tank", "(II)J"⟩
abbrev cX6_joint : ByteArray := prog_8_method_46_code
def yX6_joint : MethodName := ⟨RX6, "joint", "(III)J"⟩
abbrev cX6_sheet : ByteArray := prog_8_method_47_code
def yX6_sheet : MethodName := ⟨RX6, "sheet", "(II)J"⟩
abbrev cX6_mark : ByteArray := prog_8_method_48_code
def yX6_mark : MethodName := ⟨RX6, "mark", "(III)J"⟩
abbrev cX6_copy : ByteArray := prog_8_method_49_code
def yX6_copy : MethodName := ⟨RX6, "copy", "(IIIII)J"⟩
abbrev cX6_count : ByteArray := prog_8_method_50_code
def yX6_count : MethodName := ⟨RX6, "count", "(I)J"⟩
def RJ9 : String := "java/lang/Math"
def TJ9 : u_T := fun k => match k with
  | _ => ("", "", "", false)
def tyJ9 : Nat → FieldType := fun k => match k with
  | _ => .int
abbrev wsJ90 : List Cond := u_ws RJ9 TJ9 0
theorem nmJ9 : ∀ a, a < 0 → ∀ b, b < 0 → a ≠ b → (TJ9 a).2.1 ≠ (TJ9 b).2.1 := by decide +kernel
theorem tyJ9_ok : ∀ k, k < 0 → parseFieldDescriptor (TJ9 k).2.2.1 = some (tyJ9 k) := by decide +kernel
abbrev cJ9_max_7cf53 : ByteArray := prog_9_method_65_code
def yJ9_max_7cf53 : MethodName := ⟨RJ9, "max", "(II)I"⟩
abbrev cJ9_max_f86c9 : ByteArray := prog_9_method_66_code
def yJ9_max_f86c9 : MethodName := ⟨RJ9, "max", "(JJ)J"⟩
abbrev cJ9_min_7cf53 : ByteArray := prog_9_method_69_code
def yJ9_min_7cf53 : MethodName := ⟨RJ9, "min", "(II)I"⟩
abbrev cJ9_min_f86c9 : ByteArray := prog_9_method_70_code
def yJ9_min_f86c9 : MethodName := ⟨RJ9, "min", "(JJ)J"⟩
def RJ10 : String := "java/lang/System"
def TJ10 : u_T := fun k => match k with
  | _ => ("", "", "", false)
def tyJ10 : Nat → FieldType := fun k => match k with
  | _ => .int
abbrev wsJ100 : List Cond := u_ws RJ10 TJ10 0
theorem nmJ10 : ∀ a, a < 0 → ∀ b, b < 0 → a ≠ b → (TJ10 a).2.1 ≠ (TJ10 b).2.1 := by decide +kernel
theorem tyJ10_ok : ∀ k, k < 0 → parseFieldDescriptor (TJ10 k).2.2.1 = some (tyJ10 k) := by decide +kernel
def RJ7 : String := "java/util/Arrays"
def TJ7 : u_T := fun k => match k with
  | _ => ("", "", "", false)
def tyJ7 : Nat → FieldType := fun k => match k with
  | _ => .int
abbrev wsJ70 : List Cond := u_ws RJ7 TJ7 0
theorem nmJ7 : ∀ a, a < 0 → ∀ b, b < 0 → a ≠ b → (TJ7 a).2.1 ≠ (TJ7 b).2.1 := by decide +kernel
theorem tyJ7_ok : ∀ k, k < 0 → parseFieldDescriptor (TJ7 k).2.2.1 = some (tyJ7 k) := by decide +kernel
abbrev cJ7_fill_53178 : ByteArray := prog_11_method_103_code
def yJ7_fill_53178 : MethodName := ⟨RJ7, "fill", "([II)V"⟩
abbrev cJ7_fill_fb410 : ByteArray := prog_11_method_105_code
def yJ7_fill_fb410 : MethodName := ⟨RJ7, "fill", "([SS)V"⟩
def RL : String := "SaltPlantLaw"
abbrev cL_law : ByteArray := code
def yL_law : MethodName := ⟨RL, "law", "([I)Z"⟩
abbrev vwCl : List vw_C := [(RX0, TX0, 13), (RX1, TX1, 4), (RX2, TX2, 2), (RX3, TX3, 2), (RX4, TX4, 2), (RX5, TX5, 11), (RX6, TX6, 27)]
end
section
theorem dX0_init_0 : decode cX0_init 0 = .ok (.aload_n 0, 1) := by decide +kernel
theorem dX0_init_1 : decode cX0_init 1 = .ok (.invokespecial 3, 3) := by decide +kernel
theorem dX0_init_4 : decode cX0_init 4 = .ok (.aload_n 0, 1) := by decide +kernel
theorem dX0_init_5 : decode cX0_init 5 = .ok (.bipush 72, 2) := by decide +kernel
theorem dX0_init_7 : decode cX0_init 7 = .ok (.newarray .int, 2) := by decide +kernel
theorem dX0_init_9 : decode cX0_init 9 = .ok (.putfield 9, 3) := by decide +kernel
theorem dX0_init_12 : decode cX0_init 12 = .ok (.aload_n 0, 1) := by decide +kernel
theorem dX0_init_13 : decode cX0_init 13 = .ok (.bipush 72, 2) := by decide +kernel
theorem dX0_init_15 : decode cX0_init 15 = .ok (.newarray .int, 2) := by decide +kernel
theorem dX0_init_17 : decode cX0_init 17 = .ok (.putfield 15, 3) := by decide +kernel
theorem dX0_init_20 : decode cX0_init 20 = .ok (.aload_n 0, 1) := by decide +kernel
theorem dX0_init_21 : decode cX0_init 21 = .ok (.bipush 72, 2) := by decide +kernel
theorem dX0_init_23 : decode cX0_init 23 = .ok (.newarray .long, 2) := by decide +kernel
theorem dX0_init_25 : decode cX0_init 25 = .ok (.putfield 18, 3) := by decide +kernel
theorem dX0_init_28 : decode cX0_init 28 = .ok (.aload_n 0, 1) := by decide +kernel
theorem dX0_init_29 : decode cX0_init 29 = .ok (.bipush 72, 2) := by decide +kernel
theorem dX0_init_31 : decode cX0_init 31 = .ok (.newarray .long, 2) := by decide +kernel
theorem dX0_init_33 : decode cX0_init 33 = .ok (.putfield 22, 3) := by decide +kernel
theorem dX0_init_36 : decode cX0_init 36 = .ok (.aload_n 0, 1) := by decide +kernel
theorem dX0_init_37 : decode cX0_init 37 = .ok (.bipush 72, 2) := by decide +kernel
theorem dX0_init_39 : decode cX0_init 39 = .ok (.newarray .long, 2) := by decide +kernel
theorem dX0_init_41 : decode cX0_init 41 = .ok (.putfield 25, 3) := by decide +kernel
theorem dX0_init_44 : decode cX0_init 44 = .ok (.aload_n 0, 1) := by decide +kernel
theorem dX0_init_45 : decode cX0_init 45 = .ok (.bipush 72, 2) := by decide +kernel
theorem dX0_init_47 : decode cX0_init 47 = .ok (.newarray .long, 2) := by decide +kernel
theorem dX0_init_49 : decode cX0_init 49 = .ok (.putfield 28, 3) := by decide +kernel
theorem dX0_init_52 : decode cX0_init 52 = .ok (.aload_n 0, 1) := by decide +kernel
theorem dX0_init_53 : decode cX0_init 53 = .ok (.bipush 72, 2) := by decide +kernel
theorem dX0_init_55 : decode cX0_init 55 = .ok (.newarray .long, 2) := by decide +kernel
theorem dX0_init_57 : decode cX0_init 57 = .ok (.putfield 31, 3) := by decide +kernel
theorem dX0_init_60 : decode cX0_init 60 = .ok (.aload_n 0, 1) := by decide +kernel
theorem dX0_init_61 : decode cX0_init 61 = .ok (.bipush 72, 2) := by decide +kernel
theorem dX0_init_63 : decode cX0_init 63 = .ok (.newarray .long, 2) := by decide +kernel
theorem dX0_init_65 : decode cX0_init 65 = .ok (.putfield 34, 3) := by decide +kernel
theorem dX0_init_68 : decode cX0_init 68 = .ok (.aload_n 0, 1) := by decide +kernel
theorem dX0_init_69 : decode cX0_init 69 = .ok (.lconst 0, 1) := by decide +kernel
theorem dX0_init_70 : decode cX0_init 70 = .ok (.putfield 37, 3) := by decide +kernel
theorem dX0_init_73 : decode cX0_init 73 = .ok (.aload_n 0, 1) := by decide +kernel
theorem dX0_init_74 : decode cX0_init 74 = .ok (.lconst 0, 1) := by decide +kernel
theorem dX0_init_75 : decode cX0_init 75 = .ok (.putfield 41, 3) := by decide +kernel
theorem dX0_init_78 : decode cX0_init 78 = .ok (.aload_n 0, 1) := by decide +kernel
theorem dX0_init_79 : decode cX0_init 79 = .ok (.lconst 0, 1) := by decide +kernel
theorem dX0_init_80 : decode cX0_init 80 = .ok (.putfield 44, 3) := by decide +kernel
theorem dX0_init_83 : decode cX0_init 83 = .ok (.aload_n 0, 1) := by decide +kernel
theorem dX0_init_84 : decode cX0_init 84 = .ok (.lconst 0, 1) := by decide +kernel
theorem dX0_init_85 : decode cX0_init 85 = .ok (.putfield 47, 3) := by decide +kernel
theorem dX0_init_88 : decode cX0_init 88 = .ok (.aload_n 0, 1) := by decide +kernel
theorem dX0_init_89 : decode cX0_init 89 = .ok (.lconst 0, 1) := by decide +kernel
theorem dX0_init_90 : decode cX0_init 90 = .ok (.putfield 50, 3) := by decide +kernel
theorem dX0_init_93 : decode cX0_init 93 = .ok (.return_, 1) := by decide +kernel
theorem dX0_saltOf_0 : decode cX0_saltOf 0 = .ok (.lload_n 0, 1) := by decide +kernel
theorem dX0_saltOf_1 : decode cX0_saltOf 1 = .ok (.lconst 0, 1) := by decide +kernel
theorem dX0_saltOf_2 : decode cX0_saltOf 2 = .ok (.lcmp, 1) := by decide +kernel
theorem dX0_saltOf_3 : decode cX0_saltOf 3 = .ok (.ifCond .ne 7, 3) := by decide +kernel
theorem dX0_saltOf_6 : decode cX0_saltOf 6 = .ok (.lconst 0, 1) := by decide +kernel
theorem dX0_saltOf_7 : decode cX0_saltOf 7 = .ok (.goto 6, 3) := by decide +kernel
theorem dX0_saltOf_10 : decode cX0_saltOf 10 = .ok (.lload_n 2, 1) := by decide +kernel
theorem dX0_saltOf_11 : decode cX0_saltOf 11 = .ok (.lload_n 0, 1) := by decide +kernel
theorem dX0_saltOf_12 : decode cX0_saltOf 12 = .ok (.ldiv, 1) := by decide +kernel
theorem dX0_saltOf_13 : decode cX0_saltOf 13 = .ok (.lreturn, 1) := by decide +kernel
theorem dX0_take_0 : decode cX0_take 0 = .ok (.iconst 0, 1) := by decide +kernel
theorem dX0_take_1 : decode cX0_take 1 = .ok (.istore_n 2, 1) := by decide +kernel
theorem dX0_take_2 : decode cX0_take 2 = .ok (.iload_n 2, 1) := by decide +kernel
theorem dX0_take_3 : decode cX0_take 3 = .ok (.bipush 72, 2) := by decide +kernel
theorem dX0_take_5 : decode cX0_take 5 = .ok (.if_icmp .ge 31, 3) := by decide +kernel
theorem dX0_take_8 : decode cX0_take 8 = .ok (.aload_n 0, 1) := by decide +kernel
theorem dX0_take_9 : decode cX0_take 9 = .ok (.getfield 9, 3) := by decide +kernel
theorem dX0_take_12 : decode cX0_take 12 = .ok (.iload_n 2, 1) := by decide +kernel
theorem dX0_take_13 : decode cX0_take 13 = .ok (.aload_n 1, 1) := by decide +kernel
theorem dX0_take_14 : decode cX0_take 14 = .ok (.iload_n 2, 1) := by decide +kernel
theorem dX0_take_15 : decode cX0_take 15 = .ok (.invokevirtual 53, 3) := by decide +kernel
theorem dX0_take_18 : decode cX0_take 18 = .ok (.iastore, 1) := by decide +kernel
theorem dX0_take_19 : decode cX0_take 19 = .ok (.aload_n 0, 1) := by decide +kernel
theorem dX0_take_20 : decode cX0_take 20 = .ok (.getfield 15, 3) := by decide +kernel
theorem dX0_take_23 : decode cX0_take 23 = .ok (.iload_n 2, 1) := by decide +kernel
theorem dX0_take_24 : decode cX0_take 24 = .ok (.aload_n 1, 1) := by decide +kernel
theorem dX0_take_25 : decode cX0_take 25 = .ok (.iload_n 2, 1) := by decide +kernel
theorem dX0_take_26 : decode cX0_take 26 = .ok (.invokevirtual 59, 3) := by decide +kernel
theorem dX0_take_29 : decode cX0_take 29 = .ok (.iastore, 1) := by decide +kernel
theorem dX0_take_30 : decode cX0_take 30 = .ok (.iinc 2 1, 3) := by decide +kernel
theorem dX0_take_33 : decode cX0_take 33 = .ok (.goto (-31), 3) := by decide +kernel
theorem dX0_take_36 : decode cX0_take 36 = .ok (.return_, 1) := by decide +kernel
theorem dX0_areAlike_0 : decode cX0_areAlike 0 = .ok (.aload_n 0, 1) := by decide +kernel
theorem dX0_areAlike_1 : decode cX0_areAlike 1 = .ok (.getfield 9, 3) := by decide +kernel
theorem dX0_areAlike_4 : decode cX0_areAlike 4 = .ok (.iload_n 1, 1) := by decide +kernel
theorem dX0_areAlike_5 : decode cX0_areAlike 5 = .ok (.iaload, 1) := by decide +kernel
theorem dX0_areAlike_6 : decode cX0_areAlike 6 = .ok (.aload_n 0, 1) := by decide +kernel
theorem dX0_areAlike_7 : decode cX0_areAlike 7 = .ok (.getfield 9, 3) := by decide +kernel
theorem dX0_areAlike_10 : decode cX0_areAlike 10 = .ok (.iload_n 2, 1) := by decide +kernel
theorem dX0_areAlike_11 : decode cX0_areAlike 11 = .ok (.iaload, 1) := by decide +kernel
theorem dX0_areAlike_12 : decode cX0_areAlike 12 = .ok (.if_icmp .ne 22, 3) := by decide +kernel
theorem dX0_areAlike_15 : decode cX0_areAlike 15 = .ok (.aload_n 0, 1) := by decide +kernel
theorem dX0_areAlike_16 : decode cX0_areAlike 16 = .ok (.getfield 15, 3) := by decide +kernel
theorem dX0_areAlike_19 : decode cX0_areAlike 19 = .ok (.iload_n 1, 1) := by decide +kernel
theorem dX0_areAlike_20 : decode cX0_areAlike 20 = .ok (.iaload, 1) := by decide +kernel
theorem dX0_areAlike_21 : decode cX0_areAlike 21 = .ok (.aload_n 0, 1) := by decide +kernel
theorem dX0_areAlike_22 : decode cX0_areAlike 22 = .ok (.getfield 15, 3) := by decide +kernel
theorem dX0_areAlike_25 : decode cX0_areAlike 25 = .ok (.iload_n 2, 1) := by decide +kernel
theorem dX0_areAlike_26 : decode cX0_areAlike 26 = .ok (.iaload, 1) := by decide +kernel
theorem dX0_areAlike_27 : decode cX0_areAlike 27 = .ok (.if_icmp .ne 7, 3) := by decide +kernel
theorem dX0_areAlike_30 : decode cX0_areAlike 30 = .ok (.iconst 1, 1) := by decide +kernel
theorem dX0_areAlike_31 : decode cX0_areAlike 31 = .ok (.goto 4, 3) := by decide +kernel
theorem dX0_areAlike_34 : decode cX0_areAlike 34 = .ok (.iconst 0, 1) := by decide +kernel
theorem dX0_areAlike_35 : decode cX0_areAlike 35 = .ok (.ireturn, 1) := by decide +kernel
theorem dX0_exchange_0 : decode cX0_exchange 0 = .ok (.aload_n 0, 1) := by decide +kernel
theorem dX0_exchange_1 : decode cX0_exchange 1 = .ok (.getfield 9, 3) := by decide +kernel
theorem dX0_exchange_4 : decode cX0_exchange 4 = .ok (.iload_n 1, 1) := by decide +kernel
theorem dX0_exchange_5 : decode cX0_exchange 5 = .ok (.iaload, 1) := by decide +kernel
theorem dX0_exchange_6 : decode cX0_exchange 6 = .ok (.istore_n 3, 1) := by decide +kernel
theorem dX0_exchange_7 : decode cX0_exchange 7 = .ok (.aload_n 0, 1) := by decide +kernel
theorem dX0_exchange_8 : decode cX0_exchange 8 = .ok (.getfield 15, 3) := by decide +kernel
theorem dX0_exchange_11 : decode cX0_exchange 11 = .ok (.iload_n 1, 1) := by decide +kernel
theorem dX0_exchange_12 : decode cX0_exchange 12 = .ok (.iaload, 1) := by decide +kernel
theorem dX0_exchange_13 : decode cX0_exchange 13 = .ok (.istore 4, 2) := by decide +kernel
theorem dX0_exchange_15 : decode cX0_exchange 15 = .ok (.aload_n 0, 1) := by decide +kernel
theorem dX0_exchange_16 : decode cX0_exchange 16 = .ok (.getfield 9, 3) := by decide +kernel
theorem dX0_exchange_19 : decode cX0_exchange 19 = .ok (.iload_n 1, 1) := by decide +kernel
theorem dX0_exchange_20 : decode cX0_exchange 20 = .ok (.aload_n 0, 1) := by decide +kernel
theorem dX0_exchange_21 : decode cX0_exchange 21 = .ok (.getfield 9, 3) := by decide +kernel
theorem dX0_exchange_24 : decode cX0_exchange 24 = .ok (.iload_n 2, 1) := by decide +kernel
theorem dX0_exchange_25 : decode cX0_exchange 25 = .ok (.iaload, 1) := by decide +kernel
theorem dX0_exchange_26 : decode cX0_exchange 26 = .ok (.iastore, 1) := by decide +kernel
theorem dX0_exchange_27 : decode cX0_exchange 27 = .ok (.aload_n 0, 1) := by decide +kernel
theorem dX0_exchange_28 : decode cX0_exchange 28 = .ok (.getfield 15, 3) := by decide +kernel
theorem dX0_exchange_31 : decode cX0_exchange 31 = .ok (.iload_n 1, 1) := by decide +kernel
theorem dX0_exchange_32 : decode cX0_exchange 32 = .ok (.aload_n 0, 1) := by decide +kernel
theorem dX0_exchange_33 : decode cX0_exchange 33 = .ok (.getfield 15, 3) := by decide +kernel
theorem dX0_exchange_36 : decode cX0_exchange 36 = .ok (.iload_n 2, 1) := by decide +kernel
theorem dX0_exchange_37 : decode cX0_exchange 37 = .ok (.iaload, 1) := by decide +kernel
theorem dX0_exchange_38 : decode cX0_exchange 38 = .ok (.iastore, 1) := by decide +kernel
theorem dX0_exchange_39 : decode cX0_exchange 39 = .ok (.aload_n 0, 1) := by decide +kernel
theorem dX0_exchange_40 : decode cX0_exchange 40 = .ok (.getfield 9, 3) := by decide +kernel
theorem dX0_exchange_43 : decode cX0_exchange 43 = .ok (.iload_n 2, 1) := by decide +kernel
theorem dX0_exchange_44 : decode cX0_exchange 44 = .ok (.iload_n 3, 1) := by decide +kernel
theorem dX0_exchange_45 : decode cX0_exchange 45 = .ok (.iastore, 1) := by decide +kernel
theorem dX0_exchange_46 : decode cX0_exchange 46 = .ok (.aload_n 0, 1) := by decide +kernel
theorem dX0_exchange_47 : decode cX0_exchange 47 = .ok (.getfield 15, 3) := by decide +kernel
theorem dX0_exchange_50 : decode cX0_exchange 50 = .ok (.iload_n 2, 1) := by decide +kernel
theorem dX0_exchange_51 : decode cX0_exchange 51 = .ok (.iload 4, 2) := by decide +kernel
theorem dX0_exchange_53 : decode cX0_exchange 53 = .ok (.iastore, 1) := by decide +kernel
theorem dX0_exchange_54 : decode cX0_exchange 54 = .ok (.return_, 1) := by decide +kernel
theorem dX0_run_0 : decode cX0_run 0 = .ok (.aload_n 0, 1) := by decide +kernel
theorem dX0_run_1 : decode cX0_run 1 = .ok (.lload_n 2, 1) := by decide +kernel
theorem dX0_run_2 : decode cX0_run 2 = .ok (.putfield 37, 3) := by decide +kernel
theorem dX0_run_5 : decode cX0_run 5 = .ok (.aload_n 0, 1) := by decide +kernel
theorem dX0_run_6 : decode cX0_run 6 = .ok (.lload_n 2, 1) := by decide +kernel
theorem dX0_run_7 : decode cX0_run 7 = .ok (.lload 4, 2) := by decide +kernel
theorem dX0_run_9 : decode cX0_run 9 = .ok (.lmul, 1) := by decide +kernel
theorem dX0_run_10 : decode cX0_run 10 = .ok (.putfield 41, 3) := by decide +kernel
theorem dX0_run_13 : decode cX0_run 13 = .ok (.aload_n 0, 1) := by decide +kernel
theorem dX0_run_14 : decode cX0_run 14 = .ok (.lload 6, 2) := by decide +kernel
theorem dX0_run_16 : decode cX0_run 16 = .ok (.putfield 44, 3) := by decide +kernel
theorem dX0_run_19 : decode cX0_run 19 = .ok (.iconst 0, 1) := by decide +kernel
theorem dX0_run_20 : decode cX0_run 20 = .ok (.istore 8, 2) := by decide +kernel
theorem dX0_run_22 : decode cX0_run 22 = .ok (.iload 8, 2) := by decide +kernel
theorem dX0_run_24 : decode cX0_run 24 = .ok (.iconst 3, 1) := by decide +kernel
theorem dX0_run_25 : decode cX0_run 25 = .ok (.if_icmp .ge 25, 3) := by decide +kernel
theorem dX0_run_28 : decode cX0_run 28 = .ok (.aload_n 0, 1) := by decide +kernel
theorem dX0_run_29 : decode cX0_run 29 = .ok (.iload 8, 2) := by decide +kernel
theorem dX0_run_31 : decode cX0_run 31 = .ok (.aload_n 1, 1) := by decide +kernel
theorem dX0_run_32 : decode cX0_run 32 = .ok (.iload 8, 2) := by decide +kernel
theorem dX0_run_34 : decode cX0_run 34 = .ok (.invokevirtual 62, 3) := by decide +kernel
theorem dX0_run_37 : decode cX0_run 37 = .ok (.aload_n 1, 1) := by decide +kernel
theorem dX0_run_38 : decode cX0_run 38 = .ok (.getfield 67, 3) := by decide +kernel
theorem dX0_run_41 : decode cX0_run 41 = .ok (.invokevirtual 71, 3) := by decide +kernel
theorem dX0_run_44 : decode cX0_run 44 = .ok (.iinc 8 1, 3) := by decide +kernel
theorem dX0_run_47 : decode cX0_run 47 = .ok (.goto (-25), 3) := by decide +kernel
theorem dX0_run_50 : decode cX0_run 50 = .ok (.aload_n 0, 1) := by decide +kernel
theorem dX0_run_51 : decode cX0_run 51 = .ok (.lload_n 2, 1) := by decide +kernel
theorem dX0_run_52 : decode cX0_run 52 = .ok (.aload_n 0, 1) := by decide +kernel
theorem dX0_run_53 : decode cX0_run 53 = .ok (.getfield 37, 3) := by decide +kernel
theorem dX0_run_56 : decode cX0_run 56 = .ok (.lsub, 1) := by decide +kernel
theorem dX0_run_57 : decode cX0_run 57 = .ok (.putfield 47, 3) := by decide +kernel
theorem dX0_run_60 : decode cX0_run 60 = .ok (.aload_n 0, 1) := by decide +kernel
theorem dX0_run_61 : decode cX0_run 61 = .ok (.lload_n 2, 1) := by decide +kernel
theorem dX0_run_62 : decode cX0_run 62 = .ok (.lload 4, 2) := by decide +kernel
theorem dX0_run_64 : decode cX0_run 64 = .ok (.lmul, 1) := by decide +kernel
theorem dX0_run_65 : decode cX0_run 65 = .ok (.aload_n 0, 1) := by decide +kernel
theorem dX0_run_66 : decode cX0_run 66 = .ok (.getfield 41, 3) := by decide +kernel
theorem dX0_run_69 : decode cX0_run 69 = .ok (.lsub, 1) := by decide +kernel
theorem dX0_run_70 : decode cX0_run 70 = .ok (.putfield 50, 3) := by decide +kernel
theorem dX0_run_73 : decode cX0_run 73 = .ok (.return_, 1) := by decide +kernel
theorem dX0_runStage_0 : decode cX0_runStage 0 = .ok (.iload_n 2, 1) := by decide +kernel
theorem dX0_runStage_1 : decode cX0_runStage 1 = .ok (.iconst 1, 1) := by decide +kernel
theorem dX0_runStage_2 : decode cX0_runStage 2 = .ok (.if_icmp .ge 4, 3) := by decide +kernel
theorem dX0_runStage_5 : decode cX0_runStage 5 = .ok (.return_, 1) := by decide +kernel
theorem dX0_runStage_6 : decode cX0_runStage 6 = .ok (.aload_n 0, 1) := by decide +kernel
theorem dX0_runStage_7 : decode cX0_runStage 7 = .ok (.getfield 37, 3) := by decide +kernel
theorem dX0_runStage_10 : decode cX0_runStage 10 = .ok (.iload_n 2, 1) := by decide +kernel
theorem dX0_runStage_11 : decode cX0_runStage 11 = .ok (.i2l, 1) := by decide +kernel
theorem dX0_runStage_12 : decode cX0_runStage 12 = .ok (.ldiv, 1) := by decide +kernel
theorem dX0_runStage_13 : decode cX0_runStage 13 = .ok (.lstore 4, 2) := by decide +kernel
theorem dX0_runStage_15 : decode cX0_runStage 15 = .ok (.aload_n 0, 1) := by decide +kernel
theorem dX0_runStage_16 : decode cX0_runStage 16 = .ok (.getfield 37, 3) := by decide +kernel
theorem dX0_runStage_19 : decode cX0_runStage 19 = .ok (.iload_n 2, 1) := by decide +kernel
theorem dX0_runStage_20 : decode cX0_runStage 20 = .ok (.i2l, 1) := by decide +kernel
theorem dX0_runStage_21 : decode cX0_runStage 21 = .ok (.lrem, 1) := by decide +kernel
theorem dX0_runStage_22 : decode cX0_runStage 22 = .ok (.lstore 6, 2) := by decide +kernel
theorem dX0_runStage_24 : decode cX0_runStage 24 = .ok (.aload_n 0, 1) := by decide +kernel
theorem dX0_runStage_25 : decode cX0_runStage 25 = .ok (.getfield 37, 3) := by decide +kernel
theorem dX0_runStage_28 : decode cX0_runStage 28 = .ok (.aload_n 0, 1) := by decide +kernel
theorem dX0_runStage_29 : decode cX0_runStage 29 = .ok (.getfield 41, 3) := by decide +kernel
theorem dX0_runStage_32 : decode cX0_runStage 32 = .ok (.invokestatic 75, 3) := by decide +kernel
theorem dX0_runStage_35 : decode cX0_runStage 35 = .ok (.lstore 8, 2) := by decide +kernel
theorem dX0_runStage_37 : decode cX0_runStage 37 = .ok (.aload_n 0, 1) := by decide +kernel
theorem dX0_runStage_38 : decode cX0_runStage 38 = .ok (.getfield 41, 3) := by decide +kernel
theorem dX0_runStage_41 : decode cX0_runStage 41 = .ok (.aload_n 0, 1) := by decide +kernel
theorem dX0_runStage_42 : decode cX0_runStage 42 = .ok (.getfield 37, 3) := by decide +kernel
theorem dX0_runStage_45 : decode cX0_runStage 45 = .ok (.lload 8, 2) := by decide +kernel
theorem dX0_runStage_47 : decode cX0_runStage 47 = .ok (.lmul, 1) := by decide +kernel
theorem dX0_runStage_48 : decode cX0_runStage 48 = .ok (.lsub, 1) := by decide +kernel
theorem dX0_runStage_49 : decode cX0_runStage 49 = .ok (.lstore 10, 2) := by decide +kernel
theorem dX0_runStage_51 : decode cX0_runStage 51 = .ok (.aload_n 0, 1) := by decide +kernel
theorem dX0_runStage_52 : decode cX0_runStage 52 = .ok (.lconst 0, 1) := by decide +kernel
theorem dX0_runStage_53 : decode cX0_runStage 53 = .ok (.putfield 37, 3) := by decide +kernel
theorem dX0_runStage_56 : decode cX0_runStage 56 = .ok (.aload_n 0, 1) := by decide +kernel
theorem dX0_runStage_57 : decode cX0_runStage 57 = .ok (.lconst 0, 1) := by decide +kernel
theorem dX0_runStage_58 : decode cX0_runStage 58 = .ok (.putfield 41, 3) := by decide +kernel
theorem dX0_runStage_61 : decode cX0_runStage 61 = .ok (.iconst 0, 1) := by decide +kernel
theorem dX0_runStage_62 : decode cX0_runStage 62 = .ok (.istore 12, 2) := by decide +kernel
theorem dX0_runStage_64 : decode cX0_runStage 64 = .ok (.iload 12, 2) := by decide +kernel
theorem dX0_runStage_66 : decode cX0_runStage 66 = .ok (.iload_n 2, 1) := by decide +kernel
theorem dX0_runStage_67 : decode cX0_runStage 67 = .ok (.if_icmp .ge 71, 3) := by decide +kernel
theorem dX0_runStage_70 : decode cX0_runStage 70 = .ok (.iload 12, 2) := by decide +kernel
theorem dX0_runStage_72 : decode cX0_runStage 72 = .ok (.i2l, 1) := by decide +kernel
theorem dX0_runStage_73 : decode cX0_runStage 73 = .ok (.lload 6, 2) := by decide +kernel
theorem dX0_runStage_75 : decode cX0_runStage 75 = .ok (.lcmp, 1) := by decide +kernel
theorem dX0_runStage_76 : decode cX0_runStage 76 = .ok (.ifCond .ge 10, 3) := by decide +kernel
theorem dX0_runStage_79 : decode cX0_runStage 79 = .ok (.lload 4, 2) := by decide +kernel
theorem dX0_runStage_81 : decode cX0_runStage 81 = .ok (.lconst 1, 1) := by decide +kernel
theorem dX0_runStage_82 : decode cX0_runStage 82 = .ok (.ladd, 1) := by decide +kernel
theorem dX0_runStage_83 : decode cX0_runStage 83 = .ok (.goto 5, 3) := by decide +kernel
theorem dX0_runStage_86 : decode cX0_runStage 86 = .ok (.lload 4, 2) := by decide +kernel
theorem dX0_runStage_88 : decode cX0_runStage 88 = .ok (.lstore 13, 2) := by decide +kernel
theorem dX0_runStage_90 : decode cX0_runStage 90 = .ok (.iload 12, 2) := by decide +kernel
theorem dX0_runStage_92 : decode cX0_runStage 92 = .ok (.ifCond .ne 14, 3) := by decide +kernel
theorem dX0_runStage_95 : decode cX0_runStage 95 = .ok (.lload 13, 2) := by decide +kernel
theorem dX0_runStage_97 : decode cX0_runStage 97 = .ok (.lload 8, 2) := by decide +kernel
theorem dX0_runStage_99 : decode cX0_runStage 99 = .ok (.lmul, 1) := by decide +kernel
theorem dX0_runStage_100 : decode cX0_runStage 100 = .ok (.lload 10, 2) := by decide +kernel
theorem dX0_runStage_102 : decode cX0_runStage 102 = .ok (.ladd, 1) := by decide +kernel
theorem dX0_runStage_103 : decode cX0_runStage 103 = .ok (.goto 8, 3) := by decide +kernel
theorem dX0_runStage_106 : decode cX0_runStage 106 = .ok (.lload 13, 2) := by decide +kernel
theorem dX0_runStage_108 : decode cX0_runStage 108 = .ok (.lload 8, 2) := by decide +kernel
theorem dX0_runStage_110 : decode cX0_runStage 110 = .ok (.lmul, 1) := by decide +kernel
theorem dX0_runStage_111 : decode cX0_runStage 111 = .ok (.lstore 15, 2) := by decide +kernel
theorem dX0_runStage_113 : decode cX0_runStage 113 = .ok (.aload_n 0, 1) := by decide +kernel
theorem dX0_runStage_114 : decode cX0_runStage 114 = .ok (.iload_n 1, 1) := by decide +kernel
theorem dX0_runStage_115 : decode cX0_runStage 115 = .ok (.bipush 24, 2) := by decide +kernel
theorem dX0_runStage_117 : decode cX0_runStage 117 = .ok (.imul, 1) := by decide +kernel
theorem dX0_runStage_118 : decode cX0_runStage 118 = .ok (.iload 12, 2) := by decide +kernel
theorem dX0_runStage_120 : decode cX0_runStage 120 = .ok (.bipush 6, 2) := by decide +kernel
theorem dX0_runStage_122 : decode cX0_runStage 122 = .ok (.imul, 1) := by decide +kernel
theorem dX0_runStage_123 : decode cX0_runStage 123 = .ok (.iadd, 1) := by decide +kernel
theorem dX0_runStage_124 : decode cX0_runStage 124 = .ok (.iload_n 3, 1) := by decide +kernel
theorem dX0_runStage_125 : decode cX0_runStage 125 = .ok (.lload 13, 2) := by decide +kernel
theorem dX0_runStage_127 : decode cX0_runStage 127 = .ok (.lload 15, 2) := by decide +kernel
theorem dX0_runStage_129 : decode cX0_runStage 129 = .ok (.invokevirtual 79, 3) := by decide +kernel
theorem dX0_runStage_132 : decode cX0_runStage 132 = .ok (.iinc 12 1, 3) := by decide +kernel
theorem dX0_runStage_135 : decode cX0_runStage 135 = .ok (.goto (-71), 3) := by decide +kernel
theorem dX0_runStage_138 : decode cX0_runStage 138 = .ok (.aload_n 0, 1) := by decide +kernel
theorem dX0_runStage_139 : decode cX0_runStage 139 = .ok (.lconst 0, 1) := by decide +kernel
theorem dX0_runStage_140 : decode cX0_runStage 140 = .ok (.aload_n 0, 1) := by decide +kernel
theorem dX0_runStage_141 : decode cX0_runStage 141 = .ok (.getfield 44, 3) := by decide +kernel
theorem dX0_runStage_144 : decode cX0_runStage 144 = .ok (.iconst 2, 1) := by decide +kernel
theorem dX0_runStage_145 : decode cX0_runStage 145 = .ok (.iload_n 3, 1) := by decide +kernel
theorem dX0_runStage_146 : decode cX0_runStage 146 = .ok (.imul, 1) := by decide +kernel
theorem dX0_runStage_147 : decode cX0_runStage 147 = .ok (.i2l, 1) := by decide +kernel
theorem dX0_runStage_148 : decode cX0_runStage 148 = .ok (.lsub, 1) := by decide +kernel
theorem dX0_runStage_149 : decode cX0_runStage 149 = .ok (.invokestatic 83, 3) := by decide +kernel
theorem dX0_runStage_152 : decode cX0_runStage 152 = .ok (.putfield 44, 3) := by decide +kernel
theorem dX0_runStage_155 : decode cX0_runStage 155 = .ok (.return_, 1) := by decide +kernel
theorem dX0_runVessel_0 : decode cX0_runVessel 0 = .ok (.lload_n 3, 1) := by decide +kernel
theorem dX0_runVessel_1 : decode cX0_runVessel 1 = .ok (.lstore 7, 2) := by decide +kernel
theorem dX0_runVessel_3 : decode cX0_runVessel 3 = .ok (.lload 5, 2) := by decide +kernel
theorem dX0_runVessel_5 : decode cX0_runVessel 5 = .ok (.lstore 9, 2) := by decide +kernel
theorem dX0_runVessel_7 : decode cX0_runVessel 7 = .ok (.aload_n 0, 1) := by decide +kernel
theorem dX0_runVessel_8 : decode cX0_runVessel 8 = .ok (.getfield 44, 3) := by decide +kernel
theorem dX0_runVessel_11 : decode cX0_runVessel 11 = .ok (.lstore 11, 2) := by decide +kernel
theorem dX0_runVessel_13 : decode cX0_runVessel 13 = .ok (.iload_n 1, 1) := by decide +kernel
theorem dX0_runVessel_14 : decode cX0_runVessel 14 = .ok (.istore 13, 2) := by decide +kernel
theorem dX0_runVessel_16 : decode cX0_runVessel 16 = .ok (.iload 13, 2) := by decide +kernel
theorem dX0_runVessel_18 : decode cX0_runVessel 18 = .ok (.iload_n 1, 1) := by decide +kernel
theorem dX0_runVessel_19 : decode cX0_runVessel 19 = .ok (.iload_n 2, 1) := by decide +kernel
theorem dX0_runVessel_20 : decode cX0_runVessel 20 = .ok (.iadd, 1) := by decide +kernel
theorem dX0_runVessel_21 : decode cX0_runVessel 21 = .ok (.if_icmp .ge 174, 3) := by decide +kernel
theorem dX0_runVessel_24 : decode cX0_runVessel 24 = .ok (.iload 13, 2) := by decide +kernel
theorem dX0_runVessel_26 : decode cX0_runVessel 26 = .ok (.bipush 72, 2) := by decide +kernel
theorem dX0_runVessel_28 : decode cX0_runVessel 28 = .ok (.if_icmp .ge 167, 3) := by decide +kernel
theorem dX0_runVessel_31 : decode cX0_runVessel 31 = .ok (.aload_n 0, 1) := by decide +kernel
theorem dX0_runVessel_32 : decode cX0_runVessel 32 = .ok (.getfield 18, 3) := by decide +kernel
theorem dX0_runVessel_35 : decode cX0_runVessel 35 = .ok (.iload 13, 2) := by decide +kernel
theorem dX0_runVessel_37 : decode cX0_runVessel 37 = .ok (.lload 7, 2) := by decide +kernel
theorem dX0_runVessel_39 : decode cX0_runVessel 39 = .ok (.lastore, 1) := by decide +kernel
theorem dX0_runVessel_40 : decode cX0_runVessel 40 = .ok (.aload_n 0, 1) := by decide +kernel
theorem dX0_runVessel_41 : decode cX0_runVessel 41 = .ok (.getfield 22, 3) := by decide +kernel
theorem dX0_runVessel_44 : decode cX0_runVessel 44 = .ok (.iload 13, 2) := by decide +kernel
theorem dX0_runVessel_46 : decode cX0_runVessel 46 = .ok (.lload 9, 2) := by decide +kernel
theorem dX0_runVessel_48 : decode cX0_runVessel 48 = .ok (.lastore, 1) := by decide +kernel
theorem dX0_runVessel_49 : decode cX0_runVessel 49 = .ok (.aload_n 0, 1) := by decide +kernel
theorem dX0_runVessel_50 : decode cX0_runVessel 50 = .ok (.getfield 25, 3) := by decide +kernel
theorem dX0_runVessel_53 : decode cX0_runVessel 53 = .ok (.iload 13, 2) := by decide +kernel
theorem dX0_runVessel_55 : decode cX0_runVessel 55 = .ok (.lload 11, 2) := by decide +kernel
theorem dX0_runVessel_57 : decode cX0_runVessel 57 = .ok (.lastore, 1) := by decide +kernel
theorem dX0_runVessel_58 : decode cX0_runVessel 58 = .ok (.lload 7, 2) := by decide +kernel
theorem dX0_runVessel_60 : decode cX0_runVessel 60 = .ok (.lload 9, 2) := by decide +kernel
theorem dX0_runVessel_62 : decode cX0_runVessel 62 = .ok (.invokestatic 75, 3) := by decide +kernel
theorem dX0_runVessel_65 : decode cX0_runVessel 65 = .ok (.lstore 14, 2) := by decide +kernel
theorem dX0_runVessel_67 : decode cX0_runVessel 67 = .ok (.lconst 0, 1) := by decide +kernel
theorem dX0_runVessel_68 : decode cX0_runVessel 68 = .ok (.lload 11, 2) := by decide +kernel
theorem dX0_runVessel_70 : decode cX0_runVessel 70 = .ok (.lload 14, 2) := by decide +kernel
theorem dX0_runVessel_72 : decode cX0_runVessel 72 = .ok (.ldc2_w 88, 3) := by decide +kernel
theorem dX0_runVessel_75 : decode cX0_runVessel 75 = .ok (.ldiv, 1) := by decide +kernel
theorem dX0_runVessel_76 : decode cX0_runVessel 76 = .ok (.lsub, 1) := by decide +kernel
theorem dX0_runVessel_77 : decode cX0_runVessel 77 = .ok (.invokestatic 83, 3) := by decide +kernel
theorem dX0_runVessel_80 : decode cX0_runVessel 80 = .ok (.lstore 16, 2) := by decide +kernel
theorem dX0_runVessel_82 : decode cX0_runVessel 82 = .ok (.aload_n 0, 1) := by decide +kernel
theorem dX0_runVessel_83 : decode cX0_runVessel 83 = .ok (.getfield 28, 3) := by decide +kernel
theorem dX0_runVessel_86 : decode cX0_runVessel 86 = .ok (.iload 13, 2) := by decide +kernel
theorem dX0_runVessel_88 : decode cX0_runVessel 88 = .ok (.lload 7, 2) := by decide +kernel
theorem dX0_runVessel_90 : decode cX0_runVessel 90 = .ok (.lload 16, 2) := by decide +kernel
theorem dX0_runVessel_92 : decode cX0_runVessel 92 = .ok (.aload_n 0, 1) := by decide +kernel
theorem dX0_runVessel_93 : decode cX0_runVessel 93 = .ok (.getfield 9, 3) := by decide +kernel
theorem dX0_runVessel_96 : decode cX0_runVessel 96 = .ok (.iload 13, 2) := by decide +kernel
theorem dX0_runVessel_98 : decode cX0_runVessel 98 = .ok (.iaload, 1) := by decide +kernel
theorem dX0_runVessel_99 : decode cX0_runVessel 99 = .ok (.i2l, 1) := by decide +kernel
theorem dX0_runVessel_100 : decode cX0_runVessel 100 = .ok (.lmul, 1) := by decide +kernel
theorem dX0_runVessel_101 : decode cX0_runVessel 101 = .ok (.ldc2_w 88, 3) := by decide +kernel
theorem dX0_runVessel_104 : decode cX0_runVessel 104 = .ok (.ldiv, 1) := by decide +kernel
theorem dX0_runVessel_105 : decode cX0_runVessel 105 = .ok (.invokestatic 90, 3) := by decide +kernel
theorem dX0_runVessel_108 : decode cX0_runVessel 108 = .ok (.lastore, 1) := by decide +kernel
theorem dX0_runVessel_109 : decode cX0_runVessel 109 = .ok (.aload_n 0, 1) := by decide +kernel
theorem dX0_runVessel_110 : decode cX0_runVessel 110 = .ok (.getfield 31, 3) := by decide +kernel
theorem dX0_runVessel_113 : decode cX0_runVessel 113 = .ok (.iload 13, 2) := by decide +kernel
theorem dX0_runVessel_115 : decode cX0_runVessel 115 = .ok (.lload 14, 2) := by decide +kernel
theorem dX0_runVessel_117 : decode cX0_runVessel 117 = .ok (.aload_n 0, 1) := by decide +kernel
theorem dX0_runVessel_118 : decode cX0_runVessel 118 = .ok (.getfield 15, 3) := by decide +kernel
theorem dX0_runVessel_121 : decode cX0_runVessel 121 = .ok (.iload 13, 2) := by decide +kernel
theorem dX0_runVessel_123 : decode cX0_runVessel 123 = .ok (.iaload, 1) := by decide +kernel
theorem dX0_runVessel_124 : decode cX0_runVessel 124 = .ok (.i2l, 1) := by decide +kernel
theorem dX0_runVessel_125 : decode cX0_runVessel 125 = .ok (.lmul, 1) := by decide +kernel
theorem dX0_runVessel_126 : decode cX0_runVessel 126 = .ok (.ldc2_w 93, 3) := by decide +kernel
theorem dX0_runVessel_129 : decode cX0_runVessel 129 = .ok (.ldiv, 1) := by decide +kernel
theorem dX0_runVessel_130 : decode cX0_runVessel 130 = .ok (.lastore, 1) := by decide +kernel
theorem dX0_runVessel_131 : decode cX0_runVessel 131 = .ok (.aload_n 0, 1) := by decide +kernel
theorem dX0_runVessel_132 : decode cX0_runVessel 132 = .ok (.getfield 34, 3) := by decide +kernel
theorem dX0_runVessel_135 : decode cX0_runVessel 135 = .ok (.iload 13, 2) := by decide +kernel
theorem dX0_runVessel_137 : decode cX0_runVessel 137 = .ok (.aload_n 0, 1) := by decide +kernel
theorem dX0_runVessel_138 : decode cX0_runVessel 138 = .ok (.getfield 28, 3) := by decide +kernel
theorem dX0_runVessel_141 : decode cX0_runVessel 141 = .ok (.iload 13, 2) := by decide +kernel
theorem dX0_runVessel_143 : decode cX0_runVessel 143 = .ok (.laload, 1) := by decide +kernel
theorem dX0_runVessel_144 : decode cX0_runVessel 144 = .ok (.aload_n 0, 1) := by decide +kernel
theorem dX0_runVessel_145 : decode cX0_runVessel 145 = .ok (.getfield 31, 3) := by decide +kernel
theorem dX0_runVessel_148 : decode cX0_runVessel 148 = .ok (.iload 13, 2) := by decide +kernel
theorem dX0_runVessel_150 : decode cX0_runVessel 150 = .ok (.laload, 1) := by decide +kernel
theorem dX0_runVessel_151 : decode cX0_runVessel 151 = .ok (.lmul, 1) := by decide +kernel
theorem dX0_runVessel_152 : decode cX0_runVessel 152 = .ok (.lastore, 1) := by decide +kernel
theorem dX0_runVessel_153 : decode cX0_runVessel 153 = .ok (.lload 7, 2) := by decide +kernel
theorem dX0_runVessel_155 : decode cX0_runVessel 155 = .ok (.aload_n 0, 1) := by decide +kernel
theorem dX0_runVessel_156 : decode cX0_runVessel 156 = .ok (.getfield 28, 3) := by decide +kernel
theorem dX0_runVessel_159 : decode cX0_runVessel 159 = .ok (.iload 13, 2) := by decide +kernel
theorem dX0_runVessel_161 : decode cX0_runVessel 161 = .ok (.laload, 1) := by decide +kernel
theorem dX0_runVessel_162 : decode cX0_runVessel 162 = .ok (.lsub, 1) := by decide +kernel
theorem dX0_runVessel_163 : decode cX0_runVessel 163 = .ok (.lstore 7, 2) := by decide +kernel
theorem dX0_runVessel_165 : decode cX0_runVessel 165 = .ok (.lload 9, 2) := by decide +kernel
theorem dX0_runVessel_167 : decode cX0_runVessel 167 = .ok (.aload_n 0, 1) := by decide +kernel
theorem dX0_runVessel_168 : decode cX0_runVessel 168 = .ok (.getfield 34, 3) := by decide +kernel
theorem dX0_runVessel_171 : decode cX0_runVessel 171 = .ok (.iload 13, 2) := by decide +kernel
theorem dX0_runVessel_173 : decode cX0_runVessel 173 = .ok (.laload, 1) := by decide +kernel
theorem dX0_runVessel_174 : decode cX0_runVessel 174 = .ok (.lsub, 1) := by decide +kernel
theorem dX0_runVessel_175 : decode cX0_runVessel 175 = .ok (.lstore 9, 2) := by decide +kernel
theorem dX0_runVessel_177 : decode cX0_runVessel 177 = .ok (.lconst 0, 1) := by decide +kernel
theorem dX0_runVessel_178 : decode cX0_runVessel 178 = .ok (.lload 11, 2) := by decide +kernel
theorem dX0_runVessel_180 : decode cX0_runVessel 180 = .ok (.ldc2_w 95, 3) := by decide +kernel
theorem dX0_runVessel_183 : decode cX0_runVessel 183 = .ok (.lsub, 1) := by decide +kernel
theorem dX0_runVessel_184 : decode cX0_runVessel 184 = .ok (.invokestatic 83, 3) := by decide +kernel
theorem dX0_runVessel_187 : decode cX0_runVessel 187 = .ok (.lstore 11, 2) := by decide +kernel
theorem dX0_runVessel_189 : decode cX0_runVessel 189 = .ok (.iinc 13 1, 3) := by decide +kernel
theorem dX0_runVessel_192 : decode cX0_runVessel 192 = .ok (.goto (-176), 3) := by decide +kernel
theorem dX0_runVessel_195 : decode cX0_runVessel 195 = .ok (.aload_n 0, 1) := by decide +kernel
theorem dX0_runVessel_196 : decode cX0_runVessel 196 = .ok (.dup, 1) := by decide +kernel
theorem dX0_runVessel_197 : decode cX0_runVessel 197 = .ok (.getfield 37, 3) := by decide +kernel
theorem dX0_runVessel_200 : decode cX0_runVessel 200 = .ok (.lload 7, 2) := by decide +kernel
theorem dX0_runVessel_202 : decode cX0_runVessel 202 = .ok (.ladd, 1) := by decide +kernel
theorem dX0_runVessel_203 : decode cX0_runVessel 203 = .ok (.putfield 37, 3) := by decide +kernel
theorem dX0_runVessel_206 : decode cX0_runVessel 206 = .ok (.aload_n 0, 1) := by decide +kernel
theorem dX0_runVessel_207 : decode cX0_runVessel 207 = .ok (.dup, 1) := by decide +kernel
theorem dX0_runVessel_208 : decode cX0_runVessel 208 = .ok (.getfield 41, 3) := by decide +kernel
theorem dX0_runVessel_211 : decode cX0_runVessel 211 = .ok (.lload 9, 2) := by decide +kernel
theorem dX0_runVessel_213 : decode cX0_runVessel 213 = .ok (.ladd, 1) := by decide +kernel
theorem dX0_runVessel_214 : decode cX0_runVessel 214 = .ok (.putfield 41, 3) := by decide +kernel
theorem dX0_runVessel_217 : decode cX0_runVessel 217 = .ok (.return_, 1) := by decide +kernel
theorem dX0_firstFailure_0 : decode cX0_firstFailure 0 = .ok (.iconst 0, 1) := by decide +kernel
theorem dX0_firstFailure_1 : decode cX0_firstFailure 1 = .ok (.istore 4, 2) := by decide +kernel
theorem dX0_firstFailure_3 : decode cX0_firstFailure 3 = .ok (.iload 4, 2) := by decide +kernel
theorem dX0_firstFailure_5 : decode cX0_firstFailure 5 = .ok (.bipush 72, 2) := by decide +kernel
theorem dX0_firstFailure_7 : decode cX0_firstFailure 7 = .ok (.if_icmp .ge 80, 3) := by decide +kernel
theorem dX0_firstFailure_10 : decode cX0_firstFailure 10 = .ok (.aload_n 1, 1) := by decide +kernel
theorem dX0_firstFailure_11 : decode cX0_firstFailure 11 = .ok (.iload 4, 2) := by decide +kernel
theorem dX0_firstFailure_13 : decode cX0_firstFailure 13 = .ok (.invokevirtual 97, 3) := by decide +kernel
theorem dX0_firstFailure_16 : decode cX0_firstFailure 16 = .ok (.ifCond .eq 65, 3) := by decide +kernel
theorem dX0_firstFailure_19 : decode cX0_firstFailure 19 = .ok (.aload_n 0, 1) := by decide +kernel
theorem dX0_firstFailure_20 : decode cX0_firstFailure 20 = .ok (.getfield 18, 3) := by decide +kernel
theorem dX0_firstFailure_23 : decode cX0_firstFailure 23 = .ok (.iload 4, 2) := by decide +kernel
theorem dX0_firstFailure_25 : decode cX0_firstFailure 25 = .ok (.laload, 1) := by decide +kernel
theorem dX0_firstFailure_26 : decode cX0_firstFailure 26 = .ok (.aload_n 0, 1) := by decide +kernel
theorem dX0_firstFailure_27 : decode cX0_firstFailure 27 = .ok (.getfield 28, 3) := by decide +kernel
theorem dX0_firstFailure_30 : decode cX0_firstFailure 30 = .ok (.iload 4, 2) := by decide +kernel
theorem dX0_firstFailure_32 : decode cX0_firstFailure 32 = .ok (.laload, 1) := by decide +kernel
theorem dX0_firstFailure_33 : decode cX0_firstFailure 33 = .ok (.lsub, 1) := by decide +kernel
theorem dX0_firstFailure_34 : decode cX0_firstFailure 34 = .ok (.iload_n 2, 1) := by decide +kernel
theorem dX0_firstFailure_35 : decode cX0_firstFailure 35 = .ok (.i2l, 1) := by decide +kernel
theorem dX0_firstFailure_36 : decode cX0_firstFailure 36 = .ok (.lcmp, 1) := by decide +kernel
theorem dX0_firstFailure_37 : decode cX0_firstFailure 37 = .ok (.ifCond .ge 16, 3) := by decide +kernel
theorem dX0_firstFailure_40 : decode cX0_firstFailure 40 = .ok (.ldc2_w 101, 3) := by decide +kernel
theorem dX0_firstFailure_43 : decode cX0_firstFailure 43 = .ok (.iload 4, 2) := by decide +kernel
theorem dX0_firstFailure_45 : decode cX0_firstFailure 45 = .ok (.invokestatic 103, 3) := by decide +kernel
theorem dX0_firstFailure_48 : decode cX0_firstFailure 48 = .ok (.i2l, 1) := by decide +kernel
theorem dX0_firstFailure_49 : decode cX0_firstFailure 49 = .ok (.lmul, 1) := by decide +kernel
theorem dX0_firstFailure_50 : decode cX0_firstFailure 50 = .ok (.lconst 1, 1) := by decide +kernel
theorem dX0_firstFailure_51 : decode cX0_firstFailure 51 = .ok (.ladd, 1) := by decide +kernel
theorem dX0_firstFailure_52 : decode cX0_firstFailure 52 = .ok (.lreturn, 1) := by decide +kernel
theorem dX0_firstFailure_53 : decode cX0_firstFailure 53 = .ok (.aload_n 0, 1) := by decide +kernel
theorem dX0_firstFailure_54 : decode cX0_firstFailure 54 = .ok (.getfield 28, 3) := by decide +kernel
theorem dX0_firstFailure_57 : decode cX0_firstFailure 57 = .ok (.iload 4, 2) := by decide +kernel
theorem dX0_firstFailure_59 : decode cX0_firstFailure 59 = .ok (.laload, 1) := by decide +kernel
theorem dX0_firstFailure_60 : decode cX0_firstFailure 60 = .ok (.iload_n 3, 1) := by decide +kernel
theorem dX0_firstFailure_61 : decode cX0_firstFailure 61 = .ok (.i2l, 1) := by decide +kernel
theorem dX0_firstFailure_62 : decode cX0_firstFailure 62 = .ok (.lcmp, 1) := by decide +kernel
theorem dX0_firstFailure_63 : decode cX0_firstFailure 63 = .ok (.ifCond .le 18, 3) := by decide +kernel
theorem dX0_firstFailure_66 : decode cX0_firstFailure 66 = .ok (.ldc2_w 101, 3) := by decide +kernel
theorem dX0_firstFailure_69 : decode cX0_firstFailure 69 = .ok (.iload 4, 2) := by decide +kernel
theorem dX0_firstFailure_71 : decode cX0_firstFailure 71 = .ok (.invokestatic 103, 3) := by decide +kernel
theorem dX0_firstFailure_74 : decode cX0_firstFailure 74 = .ok (.i2l, 1) := by decide +kernel
theorem dX0_firstFailure_75 : decode cX0_firstFailure 75 = .ok (.lmul, 1) := by decide +kernel
theorem dX0_firstFailure_76 : decode cX0_firstFailure 76 = .ok (.ldc2_w 95, 3) := by decide +kernel
theorem dX0_firstFailure_79 : decode cX0_firstFailure 79 = .ok (.ladd, 1) := by decide +kernel
theorem dX0_firstFailure_80 : decode cX0_firstFailure 80 = .ok (.lreturn, 1) := by decide +kernel
theorem dX0_firstFailure_81 : decode cX0_firstFailure 81 = .ok (.iinc 4 1, 3) := by decide +kernel
theorem dX0_firstFailure_84 : decode cX0_firstFailure 84 = .ok (.goto (-81), 3) := by decide +kernel
theorem dX0_firstFailure_87 : decode cX0_firstFailure 87 = .ok (.ldc2_w 106, 3) := by decide +kernel
theorem dX0_firstFailure_90 : decode cX0_firstFailure 90 = .ok (.lreturn, 1) := by decide +kernel
theorem dX1_init_0 : decode cX1_init 0 = .ok (.aload_n 0, 1) := by decide +kernel
theorem dX1_init_1 : decode cX1_init 1 = .ok (.invokespecial 1, 3) := by decide +kernel
theorem dX1_init_4 : decode cX1_init 4 = .ok (.aload_n 0, 1) := by decide +kernel
theorem dX1_init_5 : decode cX1_init 5 = .ok (.bipush 12, 2) := by decide +kernel
theorem dX1_init_7 : decode cX1_init 7 = .ok (.newarray .int, 2) := by decide +kernel
theorem dX1_init_9 : decode cX1_init 9 = .ok (.putfield 9, 3) := by decide +kernel
theorem dX1_init_12 : decode cX1_init 12 = .ok (.aload_n 0, 1) := by decide +kernel
theorem dX1_init_13 : decode cX1_init 13 = .ok (.bipush 12, 2) := by decide +kernel
theorem dX1_init_15 : decode cX1_init 15 = .ok (.newarray .int, 2) := by decide +kernel
theorem dX1_init_17 : decode cX1_init 17 = .ok (.putfield 13, 3) := by decide +kernel
theorem dX1_init_20 : decode cX1_init 20 = .ok (.aload_n 0, 1) := by decide +kernel
theorem dX1_init_21 : decode cX1_init 21 = .ok (.sipush 201, 3) := by decide +kernel
theorem dX1_init_24 : decode cX1_init 24 = .ok (.newarray .int, 2) := by decide +kernel
theorem dX1_init_26 : decode cX1_init 26 = .ok (.putfield 16, 3) := by decide +kernel
theorem dX1_init_29 : decode cX1_init 29 = .ok (.aload_n 0, 1) := by decide +kernel
theorem dX1_init_30 : decode cX1_init 30 = .ok (.sipush 201, 3) := by decide +kernel
theorem dX1_init_33 : decode cX1_init 33 = .ok (.newarray .int, 2) := by decide +kernel
theorem dX1_init_35 : decode cX1_init 35 = .ok (.putfield 19, 3) := by decide +kernel
theorem dX1_init_38 : decode cX1_init 38 = .ok (.return_, 1) := by decide +kernel
theorem dX1_mostOf_0 : decode cX1_mostOf 0 = .ok (.iload_n 0, 1) := by decide +kernel
theorem dX1_mostOf_1 : decode cX1_mostOf 1 = .ok (.ifCond .ne 8, 3) := by decide +kernel
theorem dX1_mostOf_4 : decode cX1_mostOf 4 = .ok (.bipush 99, 2) := by decide +kernel
theorem dX1_mostOf_6 : decode cX1_mostOf 6 = .ok (.goto 6, 3) := by decide +kernel
theorem dX1_mostOf_9 : decode cX1_mostOf 9 = .ok (.sipush 999, 3) := by decide +kernel
theorem dX1_mostOf_12 : decode cX1_mostOf 12 = .ok (.ireturn, 1) := by decide +kernel
theorem dX1_rowOf_0 : decode cX1_rowOf 0 = .ok (.iload_n 1, 1) := by decide +kernel
theorem dX1_rowOf_1 : decode cX1_rowOf 1 = .ok (.ifCond .ne 10, 3) := by decide +kernel
theorem dX1_rowOf_4 : decode cX1_rowOf 4 = .ok (.aload_n 0, 1) := by decide +kernel
theorem dX1_rowOf_5 : decode cX1_rowOf 5 = .ok (.getfield 9, 3) := by decide +kernel
theorem dX1_rowOf_8 : decode cX1_rowOf 8 = .ok (.goto 7, 3) := by decide +kernel
theorem dX1_rowOf_11 : decode cX1_rowOf 11 = .ok (.aload_n 0, 1) := by decide +kernel
theorem dX1_rowOf_12 : decode cX1_rowOf 12 = .ok (.getfield 13, 3) := by decide +kernel
theorem dX1_rowOf_15 : decode cX1_rowOf 15 = .ok (.areturn, 1) := by decide +kernel
theorem dX1_isPlan_0 : decode cX1_isPlan 0 = .ok (.iload_n 0, 1) := by decide +kernel
theorem dX1_isPlan_1 : decode cX1_isPlan 1 = .ok (.ldc 22, 2) := by decide +kernel
theorem dX1_isPlan_3 : decode cX1_isPlan 3 = .ok (.if_icmp .ge 7, 3) := by decide +kernel
theorem dX1_isPlan_6 : decode cX1_isPlan 6 = .ok (.iconst 1, 1) := by decide +kernel
theorem dX1_isPlan_7 : decode cX1_isPlan 7 = .ok (.goto 4, 3) := by decide +kernel
theorem dX1_isPlan_10 : decode cX1_isPlan 10 = .ok (.iconst 0, 1) := by decide +kernel
theorem dX1_isPlan_11 : decode cX1_isPlan 11 = .ok (.ireturn, 1) := by decide +kernel
theorem dX1_costOf_0 : decode cX1_costOf 0 = .ok (.iload_n 0, 1) := by decide +kernel
theorem dX1_costOf_1 : decode cX1_costOf 1 = .ok (.bipush 12, 2) := by decide +kernel
theorem dX1_costOf_3 : decode cX1_costOf 3 = .ok (.ishr, 1) := by decide +kernel
theorem dX1_costOf_4 : decode cX1_costOf 4 = .ok (.ireturn, 1) := by decide +kernel
theorem dX1_runsAt_0 : decode cX1_runsAt 0 = .ok (.iload_n 0, 1) := by decide +kernel
theorem dX1_runsAt_1 : decode cX1_runsAt 1 = .ok (.bipush 11, 2) := by decide +kernel
theorem dX1_runsAt_3 : decode cX1_runsAt 3 = .ok (.iload_n 1, 1) := by decide +kernel
theorem dX1_runsAt_4 : decode cX1_runsAt 4 = .ok (.isub, 1) := by decide +kernel
theorem dX1_runsAt_5 : decode cX1_runsAt 5 = .ok (.ishr, 1) := by decide +kernel
theorem dX1_runsAt_6 : decode cX1_runsAt 6 = .ok (.iconst 1, 1) := by decide +kernel
theorem dX1_runsAt_7 : decode cX1_runsAt 7 = .ok (.iand, 1) := by decide +kernel
theorem dX1_runsAt_8 : decode cX1_runsAt 8 = .ok (.iconst 1, 1) := by decide +kernel
theorem dX1_runsAt_9 : decode cX1_runsAt 9 = .ok (.if_icmp .ne 7, 3) := by decide +kernel
theorem dX1_runsAt_12 : decode cX1_runsAt 12 = .ok (.iconst 1, 1) := by decide +kernel
theorem dX1_runsAt_13 : decode cX1_runsAt 13 = .ok (.goto 4, 3) := by decide +kernel
theorem dX1_runsAt_16 : decode cX1_runsAt 16 = .ok (.iconst 0, 1) := by decide +kernel
theorem dX1_runsAt_17 : decode cX1_runsAt 17 = .ok (.ireturn, 1) := by decide +kernel
theorem dX1_bitsOf_0 : decode cX1_bitsOf 0 = .ok (.iconst 0, 1) := by decide +kernel
theorem dX1_bitsOf_1 : decode cX1_bitsOf 1 = .ok (.istore_n 1, 1) := by decide +kernel
theorem dX1_bitsOf_2 : decode cX1_bitsOf 2 = .ok (.iconst 0, 1) := by decide +kernel
theorem dX1_bitsOf_3 : decode cX1_bitsOf 3 = .ok (.istore_n 2, 1) := by decide +kernel
theorem dX1_bitsOf_4 : decode cX1_bitsOf 4 = .ok (.iload_n 2, 1) := by decide +kernel
theorem dX1_bitsOf_5 : decode cX1_bitsOf 5 = .ok (.bipush 12, 2) := by decide +kernel
theorem dX1_bitsOf_7 : decode cX1_bitsOf 7 = .ok (.if_icmp .ge 27, 3) := by decide +kernel
theorem dX1_bitsOf_10 : decode cX1_bitsOf 10 = .ok (.iload_n 1, 1) := by decide +kernel
theorem dX1_bitsOf_11 : decode cX1_bitsOf 11 = .ok (.iload_n 0, 1) := by decide +kernel
theorem dX1_bitsOf_12 : decode cX1_bitsOf 12 = .ok (.iload_n 2, 1) := by decide +kernel
theorem dX1_bitsOf_13 : decode cX1_bitsOf 13 = .ok (.invokestatic 23, 3) := by decide +kernel
theorem dX1_bitsOf_16 : decode cX1_bitsOf 16 = .ok (.ifCond .eq 9, 3) := by decide +kernel
theorem dX1_bitsOf_19 : decode cX1_bitsOf 19 = .ok (.iconst 1, 1) := by decide +kernel
theorem dX1_bitsOf_20 : decode cX1_bitsOf 20 = .ok (.iload_n 2, 1) := by decide +kernel
theorem dX1_bitsOf_21 : decode cX1_bitsOf 21 = .ok (.ishl, 1) := by decide +kernel
theorem dX1_bitsOf_22 : decode cX1_bitsOf 22 = .ok (.goto 4, 3) := by decide +kernel
theorem dX1_bitsOf_25 : decode cX1_bitsOf 25 = .ok (.iconst 0, 1) := by decide +kernel
theorem dX1_bitsOf_26 : decode cX1_bitsOf 26 = .ok (.ior, 1) := by decide +kernel
theorem dX1_bitsOf_27 : decode cX1_bitsOf 27 = .ok (.istore_n 1, 1) := by decide +kernel
theorem dX1_bitsOf_28 : decode cX1_bitsOf 28 = .ok (.iinc 2 1, 3) := by decide +kernel
theorem dX1_bitsOf_31 : decode cX1_bitsOf 31 = .ok (.goto (-27), 3) := by decide +kernel
theorem dX1_bitsOf_34 : decode cX1_bitsOf 34 = .ok (.iload_n 1, 1) := by decide +kernel
theorem dX1_bitsOf_35 : decode cX1_bitsOf 35 = .ok (.ireturn, 1) := by decide +kernel
theorem dX1_behind_0 : decode cX1_behind 0 = .ok (.iload_n 3, 1) := by decide +kernel
theorem dX1_behind_1 : decode cX1_behind 1 = .ok (.iload_n 2, 1) := by decide +kernel
theorem dX1_behind_2 : decode cX1_behind 2 = .ok (.aload_n 0, 1) := by decide +kernel
theorem dX1_behind_3 : decode cX1_behind 3 = .ok (.getfield 13, 3) := by decide +kernel
theorem dX1_behind_6 : decode cX1_behind 6 = .ok (.iload_n 1, 1) := by decide +kernel
theorem dX1_behind_7 : decode cX1_behind 7 = .ok (.iaload, 1) := by decide +kernel
theorem dX1_behind_8 : decode cX1_behind 8 = .ok (.isub, 1) := by decide +kernel
theorem dX1_behind_9 : decode cX1_behind 9 = .ok (.invokestatic 27, 3) := by decide +kernel
theorem dX1_behind_12 : decode cX1_behind 12 = .ok (.ireturn, 1) := by decide +kernel
theorem dX1_best_0 : decode cX1_best 0 = .ok (.aload_n 0, 1) := by decide +kernel
theorem dX1_best_1 : decode cX1_best 1 = .ok (.getfield 19, 3) := by decide +kernel
theorem dX1_best_4 : decode cX1_best 4 = .ok (.iconst 0, 1) := by decide +kernel
theorem dX1_best_5 : decode cX1_best 5 = .ok (.invokestatic 33, 3) := by decide +kernel
theorem dX1_best_8 : decode cX1_best 8 = .ok (.bipush 11, 2) := by decide +kernel
theorem dX1_best_10 : decode cX1_best 10 = .ok (.istore 4, 2) := by decide +kernel
theorem dX1_best_12 : decode cX1_best 12 = .ok (.iload 4, 2) := by decide +kernel
theorem dX1_best_14 : decode cX1_best 14 = .ok (.ifCond .lt 122, 3) := by decide +kernel
theorem dX1_best_17 : decode cX1_best 17 = .ok (.aload_n 0, 1) := by decide +kernel
theorem dX1_best_18 : decode cX1_best 18 = .ok (.getfield 9, 3) := by decide +kernel
theorem dX1_best_21 : decode cX1_best 21 = .ok (.iload 4, 2) := by decide +kernel
theorem dX1_best_23 : decode cX1_best 23 = .ok (.iaload, 1) := by decide +kernel
theorem dX1_best_24 : decode cX1_best 24 = .ok (.bipush 12, 2) := by decide +kernel
theorem dX1_best_26 : decode cX1_best 26 = .ok (.ishl, 1) := by decide +kernel
theorem dX1_best_27 : decode cX1_best 27 = .ok (.iconst 1, 1) := by decide +kernel
theorem dX1_best_28 : decode cX1_best 28 = .ok (.bipush 11, 2) := by decide +kernel
theorem dX1_best_30 : decode cX1_best 30 = .ok (.iload 4, 2) := by decide +kernel
theorem dX1_best_32 : decode cX1_best 32 = .ok (.isub, 1) := by decide +kernel
theorem dX1_best_33 : decode cX1_best 33 = .ok (.ishl, 1) := by decide +kernel
theorem dX1_best_34 : decode cX1_best 34 = .ok (.iadd, 1) := by decide +kernel
theorem dX1_best_35 : decode cX1_best 35 = .ok (.istore 5, 2) := by decide +kernel
theorem dX1_best_37 : decode cX1_best 37 = .ok (.iconst 0, 1) := by decide +kernel
theorem dX1_best_38 : decode cX1_best 38 = .ok (.istore 6, 2) := by decide +kernel
theorem dX1_best_40 : decode cX1_best 40 = .ok (.iload 6, 2) := by decide +kernel
theorem dX1_best_42 : decode cX1_best 42 = .ok (.iload_n 2, 1) := by decide +kernel
theorem dX1_best_43 : decode cX1_best 43 = .ok (.if_icmp .gt 71, 3) := by decide +kernel
theorem dX1_best_46 : decode cX1_best 46 = .ok (.iload 6, 2) := by decide +kernel
theorem dX1_best_48 : decode cX1_best 48 = .ok (.sipush 200, 3) := by decide +kernel
theorem dX1_best_51 : decode cX1_best 51 = .ok (.if_icmp .gt 63, 3) := by decide +kernel
theorem dX1_best_54 : decode cX1_best 54 = .ok (.aload_n 0, 1) := by decide +kernel
theorem dX1_best_55 : decode cX1_best 55 = .ok (.aload_n 0, 1) := by decide +kernel
theorem dX1_best_56 : decode cX1_best 56 = .ok (.iload 4, 2) := by decide +kernel
theorem dX1_best_58 : decode cX1_best 58 = .ok (.iload 6, 2) := by decide +kernel
theorem dX1_best_60 : decode cX1_best 60 = .ok (.iload_n 2, 1) := by decide +kernel
theorem dX1_best_61 : decode cX1_best 61 = .ok (.invokevirtual 39, 3) := by decide +kernel
theorem dX1_best_64 : decode cX1_best 64 = .ok (.invokevirtual 43, 3) := by decide +kernel
theorem dX1_best_67 : decode cX1_best 67 = .ok (.istore 7, 2) := by decide +kernel
theorem dX1_best_69 : decode cX1_best 69 = .ok (.aload_n 0, 1) := by decide +kernel
theorem dX1_best_70 : decode cX1_best 70 = .ok (.aload_n 0, 1) := by decide +kernel
theorem dX1_best_71 : decode cX1_best 71 = .ok (.iload 4, 2) := by decide +kernel
theorem dX1_best_73 : decode cX1_best 73 = .ok (.iload 6, 2) := by decide +kernel
theorem dX1_best_75 : decode cX1_best 75 = .ok (.iload_n 3, 1) := by decide +kernel
theorem dX1_best_76 : decode cX1_best 76 = .ok (.iadd, 1) := by decide +kernel
theorem dX1_best_77 : decode cX1_best 77 = .ok (.iload_n 2, 1) := by decide +kernel
theorem dX1_best_78 : decode cX1_best 78 = .ok (.invokevirtual 39, 3) := by decide +kernel
theorem dX1_best_81 : decode cX1_best 81 = .ok (.invokevirtual 43, 3) := by decide +kernel
theorem dX1_best_84 : decode cX1_best 84 = .ok (.iload 5, 2) := by decide +kernel
theorem dX1_best_86 : decode cX1_best 86 = .ok (.iadd, 1) := by decide +kernel
theorem dX1_best_87 : decode cX1_best 87 = .ok (.istore 8, 2) := by decide +kernel
theorem dX1_best_89 : decode cX1_best 89 = .ok (.aload_n 0, 1) := by decide +kernel
theorem dX1_best_90 : decode cX1_best 90 = .ok (.getfield 16, 3) := by decide +kernel
theorem dX1_best_93 : decode cX1_best 93 = .ok (.iload 6, 2) := by decide +kernel
theorem dX1_best_95 : decode cX1_best 95 = .ok (.ldc 22, 2) := by decide +kernel
theorem dX1_best_97 : decode cX1_best 97 = .ok (.iload 7, 2) := by decide +kernel
theorem dX1_best_99 : decode cX1_best 99 = .ok (.iload 8, 2) := by decide +kernel
theorem dX1_best_101 : decode cX1_best 101 = .ok (.invokestatic 27, 3) := by decide +kernel
theorem dX1_best_104 : decode cX1_best 104 = .ok (.invokestatic 27, 3) := by decide +kernel
theorem dX1_best_107 : decode cX1_best 107 = .ok (.iastore, 1) := by decide +kernel
theorem dX1_best_108 : decode cX1_best 108 = .ok (.iinc 6 1, 3) := by decide +kernel
theorem dX1_best_111 : decode cX1_best 111 = .ok (.goto (-71), 3) := by decide +kernel
theorem dX1_best_114 : decode cX1_best 114 = .ok (.aload_n 0, 1) := by decide +kernel
theorem dX1_best_115 : decode cX1_best 115 = .ok (.getfield 16, 3) := by decide +kernel
theorem dX1_best_118 : decode cX1_best 118 = .ok (.iconst 0, 1) := by decide +kernel
theorem dX1_best_119 : decode cX1_best 119 = .ok (.aload_n 0, 1) := by decide +kernel
theorem dX1_best_120 : decode cX1_best 120 = .ok (.getfield 19, 3) := by decide +kernel
theorem dX1_best_123 : decode cX1_best 123 = .ok (.iconst 0, 1) := by decide +kernel
theorem dX1_best_124 : decode cX1_best 124 = .ok (.sipush 201, 3) := by decide +kernel
theorem dX1_best_127 : decode cX1_best 127 = .ok (.invokestatic 47, 3) := by decide +kernel
theorem dX1_best_130 : decode cX1_best 130 = .ok (.iinc 4 (-1), 3) := by decide +kernel
theorem dX1_best_133 : decode cX1_best 133 = .ok (.goto (-121), 3) := by decide +kernel
theorem dX1_best_136 : decode cX1_best 136 = .ok (.aload_n 0, 1) := by decide +kernel
theorem dX1_best_137 : decode cX1_best 137 = .ok (.iload_n 1, 1) := by decide +kernel
theorem dX1_best_138 : decode cX1_best 138 = .ok (.invokevirtual 43, 3) := by decide +kernel
theorem dX1_best_141 : decode cX1_best 141 = .ok (.ireturn, 1) := by decide +kernel
theorem dX1_laterAt_0 : decode cX1_laterAt 0 = .ok (.iload_n 1, 1) := by decide +kernel
theorem dX1_laterAt_1 : decode cX1_laterAt 1 = .ok (.ifCond .lt 10, 3) := by decide +kernel
theorem dX1_laterAt_4 : decode cX1_laterAt 4 = .ok (.iload_n 1, 1) := by decide +kernel
theorem dX1_laterAt_5 : decode cX1_laterAt 5 = .ok (.sipush 200, 3) := by decide +kernel
theorem dX1_laterAt_8 : decode cX1_laterAt 8 = .ok (.if_icmp .le 8, 3) := by decide +kernel
theorem dX1_laterAt_11 : decode cX1_laterAt 11 = .ok (.ldc 22, 2) := by decide +kernel
theorem dX1_laterAt_13 : decode cX1_laterAt 13 = .ok (.goto 9, 3) := by decide +kernel
theorem dX1_laterAt_16 : decode cX1_laterAt 16 = .ok (.aload_n 0, 1) := by decide +kernel
theorem dX1_laterAt_17 : decode cX1_laterAt 17 = .ok (.getfield 19, 3) := by decide +kernel
theorem dX1_laterAt_20 : decode cX1_laterAt 20 = .ok (.iload_n 1, 1) := by decide +kernel
theorem dX1_laterAt_21 : decode cX1_laterAt 21 = .ok (.iaload, 1) := by decide +kernel
theorem dX1_laterAt_22 : decode cX1_laterAt 22 = .ok (.ireturn, 1) := by decide +kernel
theorem dX2_init_0 : decode cX2_init 0 = .ok (.aload_n 0, 1) := by decide +kernel
theorem dX2_init_1 : decode cX2_init 1 = .ok (.invokespecial 5, 3) := by decide +kernel
theorem dX2_init_4 : decode cX2_init 4 = .ok (.aload_n 0, 1) := by decide +kernel
theorem dX2_init_5 : decode cX2_init 5 = .ok (.iconst 3, 1) := by decide +kernel
theorem dX2_init_6 : decode cX2_init 6 = .ok (.newarray .int, 2) := by decide +kernel
theorem dX2_init_8 : decode cX2_init 8 = .ok (.dup, 1) := by decide +kernel
theorem dX2_init_9 : decode cX2_init 9 = .ok (.iconst 0, 1) := by decide +kernel
theorem dX2_init_10 : decode cX2_init 10 = .ok (.iconst 1, 1) := by decide +kernel
theorem dX2_init_11 : decode cX2_init 11 = .ok (.iastore, 1) := by decide +kernel
theorem dX2_init_12 : decode cX2_init 12 = .ok (.dup, 1) := by decide +kernel
theorem dX2_init_13 : decode cX2_init 13 = .ok (.iconst 1, 1) := by decide +kernel
theorem dX2_init_14 : decode cX2_init 14 = .ok (.iconst 0, 1) := by decide +kernel
theorem dX2_init_15 : decode cX2_init 15 = .ok (.iastore, 1) := by decide +kernel
theorem dX2_init_16 : decode cX2_init 16 = .ok (.dup, 1) := by decide +kernel
theorem dX2_init_17 : decode cX2_init 17 = .ok (.iconst 2, 1) := by decide +kernel
theorem dX2_init_18 : decode cX2_init 18 = .ok (.iconst 0, 1) := by decide +kernel
theorem dX2_init_19 : decode cX2_init 19 = .ok (.iastore, 1) := by decide +kernel
theorem dX2_init_20 : decode cX2_init 20 = .ok (.putfield 11, 3) := by decide +kernel
theorem dX2_init_23 : decode cX2_init 23 = .ok (.aload_n 0, 1) := by decide +kernel
theorem dX2_init_24 : decode cX2_init 24 = .ok (.iconst 3, 1) := by decide +kernel
theorem dX2_init_25 : decode cX2_init 25 = .ok (.putfield 15, 3) := by decide +kernel
theorem dX2_init_28 : decode cX2_init 28 = .ok (.return_, 1) := by decide +kernel
theorem dX2_vesselsIn_0 : decode cX2_vesselsIn 0 = .ok (.iconst 0, 1) := by decide +kernel
theorem dX2_vesselsIn_1 : decode cX2_vesselsIn 1 = .ok (.istore_n 2, 1) := by decide +kernel
theorem dX2_vesselsIn_2 : decode cX2_vesselsIn 2 = .ok (.iload_n 2, 1) := by decide +kernel
theorem dX2_vesselsIn_3 : decode cX2_vesselsIn 3 = .ok (.iload_n 1, 1) := by decide +kernel
theorem dX2_vesselsIn_4 : decode cX2_vesselsIn 4 = .ok (.if_icmp .ge 25, 3) := by decide +kernel
theorem dX2_vesselsIn_7 : decode cX2_vesselsIn 7 = .ok (.iload_n 2, 1) := by decide +kernel
theorem dX2_vesselsIn_8 : decode cX2_vesselsIn 8 = .ok (.iconst 3, 1) := by decide +kernel
theorem dX2_vesselsIn_9 : decode cX2_vesselsIn 9 = .ok (.if_icmp .ge 20, 3) := by decide +kernel
theorem dX2_vesselsIn_12 : decode cX2_vesselsIn 12 = .ok (.aload_n 0, 1) := by decide +kernel
theorem dX2_vesselsIn_13 : decode cX2_vesselsIn 13 = .ok (.getfield 11, 3) := by decide +kernel
theorem dX2_vesselsIn_16 : decode cX2_vesselsIn 16 = .ok (.iload_n 2, 1) := by decide +kernel
theorem dX2_vesselsIn_17 : decode cX2_vesselsIn 17 = .ok (.iaload, 1) := by decide +kernel
theorem dX2_vesselsIn_18 : decode cX2_vesselsIn 18 = .ok (.ifCond .ne 5, 3) := by decide +kernel
theorem dX2_vesselsIn_21 : decode cX2_vesselsIn 21 = .ok (.iconst 0, 1) := by decide +kernel
theorem dX2_vesselsIn_22 : decode cX2_vesselsIn 22 = .ok (.ireturn, 1) := by decide +kernel
theorem dX2_vesselsIn_23 : decode cX2_vesselsIn 23 = .ok (.iinc 2 1, 3) := by decide +kernel
theorem dX2_vesselsIn_26 : decode cX2_vesselsIn 26 = .ok (.goto (-24), 3) := by decide +kernel
theorem dX2_vesselsIn_29 : decode cX2_vesselsIn 29 = .ok (.iload_n 1, 1) := by decide +kernel
theorem dX2_vesselsIn_30 : decode cX2_vesselsIn 30 = .ok (.ifCond .lt 8, 3) := by decide +kernel
theorem dX2_vesselsIn_33 : decode cX2_vesselsIn 33 = .ok (.iload_n 1, 1) := by decide +kernel
theorem dX2_vesselsIn_34 : decode cX2_vesselsIn 34 = .ok (.iconst 3, 1) := by decide +kernel
theorem dX2_vesselsIn_35 : decode cX2_vesselsIn 35 = .ok (.if_icmp .lt 7, 3) := by decide +kernel
theorem dX2_vesselsIn_38 : decode cX2_vesselsIn 38 = .ok (.iconst 0, 1) := by decide +kernel
theorem dX2_vesselsIn_39 : decode cX2_vesselsIn 39 = .ok (.goto 9, 3) := by decide +kernel
theorem dX2_vesselsIn_42 : decode cX2_vesselsIn 42 = .ok (.aload_n 0, 1) := by decide +kernel
theorem dX2_vesselsIn_43 : decode cX2_vesselsIn 43 = .ok (.getfield 11, 3) := by decide +kernel
theorem dX2_vesselsIn_46 : decode cX2_vesselsIn 46 = .ok (.iload_n 1, 1) := by decide +kernel
theorem dX2_vesselsIn_47 : decode cX2_vesselsIn 47 = .ok (.iaload, 1) := by decide +kernel
theorem dX2_vesselsIn_48 : decode cX2_vesselsIn 48 = .ok (.ireturn, 1) := by decide +kernel
theorem dX2_standing_0 : decode cX2_standing 0 = .ok (.iconst 0, 1) := by decide +kernel
theorem dX2_standing_1 : decode cX2_standing 1 = .ok (.istore_n 1, 1) := by decide +kernel
theorem dX2_standing_2 : decode cX2_standing 2 = .ok (.iconst 0, 1) := by decide +kernel
theorem dX2_standing_3 : decode cX2_standing 3 = .ok (.istore_n 2, 1) := by decide +kernel
theorem dX2_standing_4 : decode cX2_standing 4 = .ok (.iload_n 2, 1) := by decide +kernel
theorem dX2_standing_5 : decode cX2_standing 5 = .ok (.iconst 3, 1) := by decide +kernel
theorem dX2_standing_6 : decode cX2_standing 6 = .ok (.if_icmp .ge 17, 3) := by decide +kernel
theorem dX2_standing_9 : decode cX2_standing 9 = .ok (.iload_n 1, 1) := by decide +kernel
theorem dX2_standing_10 : decode cX2_standing 10 = .ok (.aload_n 0, 1) := by decide +kernel
theorem dX2_standing_11 : decode cX2_standing 11 = .ok (.iload_n 2, 1) := by decide +kernel
theorem dX2_standing_12 : decode cX2_standing 12 = .ok (.invokevirtual 19, 3) := by decide +kernel
theorem dX2_standing_15 : decode cX2_standing 15 = .ok (.iadd, 1) := by decide +kernel
theorem dX2_standing_16 : decode cX2_standing 16 = .ok (.istore_n 1, 1) := by decide +kernel
theorem dX2_standing_17 : decode cX2_standing 17 = .ok (.iinc 2 1, 3) := by decide +kernel
theorem dX2_standing_20 : decode cX2_standing 20 = .ok (.goto (-16), 3) := by decide +kernel
theorem dX2_standing_23 : decode cX2_standing 23 = .ok (.iload_n 1, 1) := by decide +kernel
theorem dX2_standing_24 : decode cX2_standing 24 = .ok (.ireturn, 1) := by decide +kernel
theorem dX2_holdsSkin_0 : decode cX2_holdsSkin 0 = .ok (.iload_n 1, 1) := by decide +kernel
theorem dX2_holdsSkin_1 : decode cX2_holdsSkin 1 = .ok (.bipush 6, 2) := by decide +kernel
theorem dX2_holdsSkin_3 : decode cX2_holdsSkin 3 = .ok (.irem, 1) := by decide +kernel
theorem dX2_holdsSkin_4 : decode cX2_holdsSkin 4 = .ok (.aload_n 0, 1) := by decide +kernel
theorem dX2_holdsSkin_5 : decode cX2_holdsSkin 5 = .ok (.getfield 15, 3) := by decide +kernel
theorem dX2_holdsSkin_8 : decode cX2_holdsSkin 8 = .ok (.if_icmp .ge 25, 3) := by decide +kernel
theorem dX2_holdsSkin_11 : decode cX2_holdsSkin 11 = .ok (.iload_n 1, 1) := by decide +kernel
theorem dX2_holdsSkin_12 : decode cX2_holdsSkin 12 = .ok (.bipush 24, 2) := by decide +kernel
theorem dX2_holdsSkin_14 : decode cX2_holdsSkin 14 = .ok (.irem, 1) := by decide +kernel
theorem dX2_holdsSkin_15 : decode cX2_holdsSkin 15 = .ok (.bipush 6, 2) := by decide +kernel
theorem dX2_holdsSkin_17 : decode cX2_holdsSkin 17 = .ok (.idiv, 1) := by decide +kernel
theorem dX2_holdsSkin_18 : decode cX2_holdsSkin 18 = .ok (.aload_n 0, 1) := by decide +kernel
theorem dX2_holdsSkin_19 : decode cX2_holdsSkin 19 = .ok (.iload_n 1, 1) := by decide +kernel
theorem dX2_holdsSkin_20 : decode cX2_holdsSkin 20 = .ok (.bipush 24, 2) := by decide +kernel
theorem dX2_holdsSkin_22 : decode cX2_holdsSkin 22 = .ok (.idiv, 1) := by decide +kernel
theorem dX2_holdsSkin_23 : decode cX2_holdsSkin 23 = .ok (.invokevirtual 19, 3) := by decide +kernel
theorem dX2_holdsSkin_26 : decode cX2_holdsSkin 26 = .ok (.if_icmp .ge 7, 3) := by decide +kernel
theorem dX2_holdsSkin_29 : decode cX2_holdsSkin 29 = .ok (.iconst 1, 1) := by decide +kernel
theorem dX2_holdsSkin_30 : decode cX2_holdsSkin 30 = .ok (.goto 4, 3) := by decide +kernel
theorem dX2_holdsSkin_33 : decode cX2_holdsSkin 33 = .ok (.iconst 0, 1) := by decide +kernel
theorem dX2_holdsSkin_34 : decode cX2_holdsSkin 34 = .ok (.ireturn, 1) := by decide +kernel
theorem dX2_become_0 : decode cX2_become 0 = .ok (.aload_n 0, 1) := by decide +kernel
theorem dX2_become_1 : decode cX2_become 1 = .ok (.getfield 11, 3) := by decide +kernel
theorem dX2_become_4 : decode cX2_become 4 = .ok (.iconst 0, 1) := by decide +kernel
theorem dX2_become_5 : decode cX2_become 5 = .ok (.iconst 1, 1) := by decide +kernel
theorem dX2_become_6 : decode cX2_become 6 = .ok (.iload_n 1, 1) := by decide +kernel
theorem dX2_become_7 : decode cX2_become 7 = .ok (.bipush 25, 2) := by decide +kernel
theorem dX2_become_9 : decode cX2_become 9 = .ok (.idiv, 1) := by decide +kernel
theorem dX2_become_10 : decode cX2_become 10 = .ok (.iadd, 1) := by decide +kernel
theorem dX2_become_11 : decode cX2_become 11 = .ok (.iastore, 1) := by decide +kernel
theorem dX2_become_12 : decode cX2_become 12 = .ok (.aload_n 0, 1) := by decide +kernel
theorem dX2_become_13 : decode cX2_become 13 = .ok (.getfield 11, 3) := by decide +kernel
theorem dX2_become_16 : decode cX2_become 16 = .ok (.iconst 1, 1) := by decide +kernel
theorem dX2_become_17 : decode cX2_become 17 = .ok (.iload_n 1, 1) := by decide +kernel
theorem dX2_become_18 : decode cX2_become 18 = .ok (.iconst 5, 1) := by decide +kernel
theorem dX2_become_19 : decode cX2_become 19 = .ok (.idiv, 1) := by decide +kernel
theorem dX2_become_20 : decode cX2_become 20 = .ok (.iconst 5, 1) := by decide +kernel
theorem dX2_become_21 : decode cX2_become 21 = .ok (.irem, 1) := by decide +kernel
theorem dX2_become_22 : decode cX2_become 22 = .ok (.iastore, 1) := by decide +kernel
theorem dX2_become_23 : decode cX2_become 23 = .ok (.aload_n 0, 1) := by decide +kernel
theorem dX2_become_24 : decode cX2_become 24 = .ok (.getfield 11, 3) := by decide +kernel
theorem dX2_become_27 : decode cX2_become 27 = .ok (.iconst 2, 1) := by decide +kernel
theorem dX2_become_28 : decode cX2_become 28 = .ok (.iload_n 1, 1) := by decide +kernel
theorem dX2_become_29 : decode cX2_become 29 = .ok (.iconst 5, 1) := by decide +kernel
theorem dX2_become_30 : decode cX2_become 30 = .ok (.irem, 1) := by decide +kernel
theorem dX2_become_31 : decode cX2_become 31 = .ok (.iastore, 1) := by decide +kernel
theorem dX2_become_32 : decode cX2_become 32 = .ok (.aload_n 0, 1) := by decide +kernel
theorem dX2_become_33 : decode cX2_become 33 = .ok (.getfield 11, 3) := by decide +kernel
theorem dX2_become_36 : decode cX2_become 36 = .ok (.iconst 1, 1) := by decide +kernel
theorem dX2_become_37 : decode cX2_become 37 = .ok (.iaload, 1) := by decide +kernel
theorem dX2_become_38 : decode cX2_become 38 = .ok (.ifCond .gt 12, 3) := by decide +kernel
theorem dX2_become_41 : decode cX2_become 41 = .ok (.aload_n 0, 1) := by decide +kernel
theorem dX2_become_42 : decode cX2_become 42 = .ok (.getfield 11, 3) := by decide +kernel
theorem dX2_become_45 : decode cX2_become 45 = .ok (.iconst 2, 1) := by decide +kernel
theorem dX2_become_46 : decode cX2_become 46 = .ok (.iaload, 1) := by decide +kernel
theorem dX2_become_47 : decode cX2_become 47 = .ok (.ifCond .ne 7, 3) := by decide +kernel
theorem dX2_become_50 : decode cX2_become 50 = .ok (.iconst 1, 1) := by decide +kernel
theorem dX2_become_51 : decode cX2_become 51 = .ok (.goto 4, 3) := by decide +kernel
theorem dX2_become_54 : decode cX2_become 54 = .ok (.iconst 0, 1) := by decide +kernel
theorem dX2_become_55 : decode cX2_become 55 = .ok (.ireturn, 1) := by decide +kernel
theorem dX2_digits_0 : decode cX2_digits 0 = .ok (.bipush 100, 2) := by decide +kernel
theorem dX2_digits_2 : decode cX2_digits 2 = .ok (.aload_n 0, 1) := by decide +kernel
theorem dX2_digits_3 : decode cX2_digits 3 = .ok (.getfield 11, 3) := by decide +kernel
theorem dX2_digits_6 : decode cX2_digits 6 = .ok (.iconst 0, 1) := by decide +kernel
theorem dX2_digits_7 : decode cX2_digits 7 = .ok (.iaload, 1) := by decide +kernel
theorem dX2_digits_8 : decode cX2_digits 8 = .ok (.imul, 1) := by decide +kernel
theorem dX2_digits_9 : decode cX2_digits 9 = .ok (.bipush 10, 2) := by decide +kernel
theorem dX2_digits_11 : decode cX2_digits 11 = .ok (.aload_n 0, 1) := by decide +kernel
theorem dX2_digits_12 : decode cX2_digits 12 = .ok (.getfield 11, 3) := by decide +kernel
theorem dX2_digits_15 : decode cX2_digits 15 = .ok (.iconst 1, 1) := by decide +kernel
theorem dX2_digits_16 : decode cX2_digits 16 = .ok (.iaload, 1) := by decide +kernel
theorem dX2_digits_17 : decode cX2_digits 17 = .ok (.imul, 1) := by decide +kernel
theorem dX2_digits_18 : decode cX2_digits 18 = .ok (.iadd, 1) := by decide +kernel
theorem dX2_digits_19 : decode cX2_digits 19 = .ok (.aload_n 0, 1) := by decide +kernel
theorem dX2_digits_20 : decode cX2_digits 20 = .ok (.getfield 11, 3) := by decide +kernel
theorem dX2_digits_23 : decode cX2_digits 23 = .ok (.iconst 2, 1) := by decide +kernel
theorem dX2_digits_24 : decode cX2_digits 24 = .ok (.iaload, 1) := by decide +kernel
theorem dX2_digits_25 : decode cX2_digits 25 = .ok (.iadd, 1) := by decide +kernel
theorem dX2_digits_26 : decode cX2_digits 26 = .ok (.ireturn, 1) := by decide +kernel
theorem dX3_init_0 : decode cX3_init 0 = .ok (.aload_n 0, 1) := by decide +kernel
theorem dX3_init_1 : decode cX3_init 1 = .ok (.invokespecial 1, 3) := by decide +kernel
theorem dX3_init_4 : decode cX3_init 4 = .ok (.aload_n 0, 1) := by decide +kernel
theorem dX3_init_5 : decode cX3_init 5 = .ok (.bipush 24, 2) := by decide +kernel
theorem dX3_init_7 : decode cX3_init 7 = .ok (.newarray .short, 2) := by decide +kernel
theorem dX3_init_9 : decode cX3_init 9 = .ok (.putfield 9, 3) := by decide +kernel
theorem dX3_init_12 : decode cX3_init 12 = .ok (.aload_n 0, 1) := by decide +kernel
theorem dX3_init_13 : decode cX3_init 13 = .ok (.iconst (-1), 1) := by decide +kernel
theorem dX3_init_14 : decode cX3_init 14 = .ok (.putfield 13, 3) := by decide +kernel
theorem dX3_init_17 : decode cX3_init 17 = .ok (.return_, 1) := by decide +kernel
theorem dX3_isMissing_0 : decode cX3_isMissing 0 = .ok (.aload_n 0, 1) := by decide +kernel
theorem dX3_isMissing_1 : decode cX3_isMissing 1 = .ok (.getfield 13, 3) := by decide +kernel
theorem dX3_isMissing_4 : decode cX3_isMissing 4 = .ok (.iconst (-1), 1) := by decide +kernel
theorem dX3_isMissing_5 : decode cX3_isMissing 5 = .ok (.if_icmp .ne 7, 3) := by decide +kernel
theorem dX3_isMissing_8 : decode cX3_isMissing 8 = .ok (.iconst 1, 1) := by decide +kernel
theorem dX3_isMissing_9 : decode cX3_isMissing 9 = .ok (.goto 4, 3) := by decide +kernel
theorem dX3_isMissing_12 : decode cX3_isMissing 12 = .ok (.iconst 0, 1) := by decide +kernel
theorem dX3_isMissing_13 : decode cX3_isMissing 13 = .ok (.ireturn, 1) := by decide +kernel
theorem dX3_begin_0 : decode cX3_begin 0 = .ok (.aload_n 0, 1) := by decide +kernel
theorem dX3_begin_1 : decode cX3_begin 1 = .ok (.getfield 9, 3) := by decide +kernel
theorem dX3_begin_4 : decode cX3_begin 4 = .ok (.iconst 0, 1) := by decide +kernel
theorem dX3_begin_5 : decode cX3_begin 5 = .ok (.invokestatic 17, 3) := by decide +kernel
theorem dX3_begin_8 : decode cX3_begin 8 = .ok (.aload_n 0, 1) := by decide +kernel
theorem dX3_begin_9 : decode cX3_begin 9 = .ok (.iload_n 1, 1) := by decide +kernel
theorem dX3_begin_10 : decode cX3_begin 10 = .ok (.putfield 13, 3) := by decide +kernel
theorem dX3_begin_13 : decode cX3_begin 13 = .ok (.return_, 1) := by decide +kernel
theorem dX3_has_0 : decode cX3_has 0 = .ok (.iload_n 1, 1) := by decide +kernel
theorem dX3_has_1 : decode cX3_has 1 = .ok (.ifCond .lt 15, 3) := by decide +kernel
theorem dX3_has_4 : decode cX3_has 4 = .ok (.iload_n 1, 1) := by decide +kernel
theorem dX3_has_5 : decode cX3_has 5 = .ok (.aload_n 0, 1) := by decide +kernel
theorem dX3_has_6 : decode cX3_has 6 = .ok (.getfield 13, 3) := by decide +kernel
theorem dX3_has_9 : decode cX3_has 9 = .ok (.if_icmp .ge 7, 3) := by decide +kernel
theorem dX3_has_12 : decode cX3_has 12 = .ok (.iconst 1, 1) := by decide +kernel
theorem dX3_has_13 : decode cX3_has 13 = .ok (.goto 4, 3) := by decide +kernel
theorem dX3_has_16 : decode cX3_has 16 = .ok (.iconst 0, 1) := by decide +kernel
theorem dX3_has_17 : decode cX3_has 17 = .ok (.ireturn, 1) := by decide +kernel
theorem dX3_hasRun_0 : decode cX3_hasRun 0 = .ok (.iload_n 1, 1) := by decide +kernel
theorem dX3_hasRun_1 : decode cX3_hasRun 1 = .ok (.ifCond .lt 21, 3) := by decide +kernel
theorem dX3_hasRun_4 : decode cX3_hasRun 4 = .ok (.iload_n 2, 1) := by decide +kernel
theorem dX3_hasRun_5 : decode cX3_hasRun 5 = .ok (.ifCond .lt 17, 3) := by decide +kernel
theorem dX3_hasRun_8 : decode cX3_hasRun 8 = .ok (.iload_n 1, 1) := by decide +kernel
theorem dX3_hasRun_9 : decode cX3_hasRun 9 = .ok (.aload_n 0, 1) := by decide +kernel
theorem dX3_hasRun_10 : decode cX3_hasRun 10 = .ok (.getfield 13, 3) := by decide +kernel
theorem dX3_hasRun_13 : decode cX3_hasRun 13 = .ok (.iload_n 2, 1) := by decide +kernel
theorem dX3_hasRun_14 : decode cX3_hasRun 14 = .ok (.isub, 1) := by decide +kernel
theorem dX3_hasRun_15 : decode cX3_hasRun 15 = .ok (.if_icmp .gt 7, 3) := by decide +kernel
theorem dX3_hasRun_18 : decode cX3_hasRun 18 = .ok (.iconst 1, 1) := by decide +kernel
theorem dX3_hasRun_19 : decode cX3_hasRun 19 = .ok (.goto 4, 3) := by decide +kernel
theorem dX3_hasRun_22 : decode cX3_hasRun 22 = .ok (.iconst 0, 1) := by decide +kernel
theorem dX3_hasRun_23 : decode cX3_hasRun 23 = .ok (.ireturn, 1) := by decide +kernel
theorem dX4_init_0 : decode cX4_init 0 = .ok (.aload_n 0, 1) := by decide +kernel
theorem dX4_init_1 : decode cX4_init 1 = .ok (.invokespecial 3, 3) := by decide +kernel
theorem dX4_init_4 : decode cX4_init 4 = .ok (.aload_n 0, 1) := by decide +kernel
theorem dX4_init_5 : decode cX4_init 5 = .ok (.bipush 72, 2) := by decide +kernel
theorem dX4_init_7 : decode cX4_init 7 = .ok (.newarray .int, 2) := by decide +kernel
theorem dX4_init_9 : decode cX4_init 9 = .ok (.putfield 9, 3) := by decide +kernel
theorem dX4_init_12 : decode cX4_init 12 = .ok (.aload_n 0, 1) := by decide +kernel
theorem dX4_init_13 : decode cX4_init 13 = .ok (.bipush 72, 2) := by decide +kernel
theorem dX4_init_15 : decode cX4_init 15 = .ok (.newarray .int, 2) := by decide +kernel
theorem dX4_init_17 : decode cX4_init 17 = .ok (.putfield 15, 3) := by decide +kernel
theorem dX4_init_20 : decode cX4_init 20 = .ok (.return_, 1) := by decide +kernel
theorem dX4_passAt_0 : decode cX4_passAt 0 = .ok (.getstatic 18, 3) := by decide +kernel
theorem dX4_passAt_3 : decode cX4_passAt 3 = .ok (.aload_n 0, 1) := by decide +kernel
theorem dX4_passAt_4 : decode cX4_passAt 4 = .ok (.getfield 9, 3) := by decide +kernel
theorem dX4_passAt_7 : decode cX4_passAt 7 = .ok (.iload_n 1, 1) := by decide +kernel
theorem dX4_passAt_8 : decode cX4_passAt 8 = .ok (.iaload, 1) := by decide +kernel
theorem dX4_passAt_9 : decode cX4_passAt 9 = .ok (.iaload, 1) := by decide +kernel
theorem dX4_passAt_10 : decode cX4_passAt 10 = .ok (.istore_n 2, 1) := by decide +kernel
theorem dX4_passAt_11 : decode cX4_passAt 11 = .ok (.iload_n 2, 1) := by decide +kernel
theorem dX4_passAt_12 : decode cX4_passAt 12 = .ok (.iload_n 2, 1) := by decide +kernel
theorem dX4_passAt_13 : decode cX4_passAt 13 = .ok (.aload_n 0, 1) := by decide +kernel
theorem dX4_passAt_14 : decode cX4_passAt 14 = .ok (.getfield 15, 3) := by decide +kernel
theorem dX4_passAt_17 : decode cX4_passAt 17 = .ok (.iload_n 1, 1) := by decide +kernel
theorem dX4_passAt_18 : decode cX4_passAt 18 = .ok (.iaload, 1) := by decide +kernel
theorem dX4_passAt_19 : decode cX4_passAt 19 = .ok (.imul, 1) := by decide +kernel
theorem dX4_passAt_20 : decode cX4_passAt 20 = .ok (.bipush 100, 2) := by decide +kernel
theorem dX4_passAt_22 : decode cX4_passAt 22 = .ok (.idiv, 1) := by decide +kernel
theorem dX4_passAt_23 : decode cX4_passAt 23 = .ok (.isub, 1) := by decide +kernel
theorem dX4_passAt_24 : decode cX4_passAt 24 = .ok (.ireturn, 1) := by decide +kernel
theorem dX4_leakAt_0 : decode cX4_leakAt 0 = .ok (.getstatic 21, 3) := by decide +kernel
theorem dX4_leakAt_3 : decode cX4_leakAt 3 = .ok (.aload_n 0, 1) := by decide +kernel
theorem dX4_leakAt_4 : decode cX4_leakAt 4 = .ok (.getfield 9, 3) := by decide +kernel
theorem dX4_leakAt_7 : decode cX4_leakAt 7 = .ok (.iload_n 1, 1) := by decide +kernel
theorem dX4_leakAt_8 : decode cX4_leakAt 8 = .ok (.iaload, 1) := by decide +kernel
theorem dX4_leakAt_9 : decode cX4_leakAt 9 = .ok (.iaload, 1) := by decide +kernel
theorem dX4_leakAt_10 : decode cX4_leakAt 10 = .ok (.ireturn, 1) := by decide +kernel
theorem dX4_isUnder_0 : decode cX4_isUnder 0 = .ok (.aload_n 0, 1) := by decide +kernel
theorem dX4_isUnder_1 : decode cX4_isUnder 1 = .ok (.getfield 9, 3) := by decide +kernel
theorem dX4_isUnder_4 : decode cX4_isUnder 4 = .ok (.iload_n 1, 1) := by decide +kernel
theorem dX4_isUnder_5 : decode cX4_isUnder 5 = .ok (.iaload, 1) := by decide +kernel
theorem dX4_isUnder_6 : decode cX4_isUnder 6 = .ok (.istore_n 3, 1) := by decide +kernel
theorem dX4_isUnder_7 : decode cX4_isUnder 7 = .ok (.iload_n 2, 1) := by decide +kernel
theorem dX4_isUnder_8 : decode cX4_isUnder 8 = .ok (.ifCond .eq 17, 3) := by decide +kernel
theorem dX4_isUnder_11 : decode cX4_isUnder 11 = .ok (.iload_n 2, 1) := by decide +kernel
theorem dX4_isUnder_12 : decode cX4_isUnder 12 = .ok (.iload_n 3, 1) := by decide +kernel
theorem dX4_isUnder_13 : decode cX4_isUnder 13 = .ok (.if_icmp .eq 12, 3) := by decide +kernel
theorem dX4_isUnder_16 : decode cX4_isUnder 16 = .ok (.iload_n 2, 1) := by decide +kernel
theorem dX4_isUnder_17 : decode cX4_isUnder 17 = .ok (.getstatic 24, 3) := by decide +kernel
theorem dX4_isUnder_20 : decode cX4_isUnder 20 = .ok (.iload_n 3, 1) := by decide +kernel
theorem dX4_isUnder_21 : decode cX4_isUnder 21 = .ok (.iaload, 1) := by decide +kernel
theorem dX4_isUnder_22 : decode cX4_isUnder 22 = .ok (.if_icmp .ne 7, 3) := by decide +kernel
theorem dX4_isUnder_25 : decode cX4_isUnder 25 = .ok (.iconst 1, 1) := by decide +kernel
theorem dX4_isUnder_26 : decode cX4_isUnder 26 = .ok (.goto 4, 3) := by decide +kernel
theorem dX4_isUnder_29 : decode cX4_isUnder 29 = .ok (.iconst 0, 1) := by decide +kernel
theorem dX4_isUnder_30 : decode cX4_isUnder 30 = .ok (.ireturn, 1) := by decide +kernel
theorem dX4_renew_0 : decode cX4_renew 0 = .ok (.aload_n 0, 1) := by decide +kernel
theorem dX4_renew_1 : decode cX4_renew 1 = .ok (.getfield 15, 3) := by decide +kernel
theorem dX4_renew_4 : decode cX4_renew 4 = .ok (.iload_n 1, 1) := by decide +kernel
theorem dX4_renew_5 : decode cX4_renew 5 = .ok (.iaload, 1) := by decide +kernel
theorem dX4_renew_6 : decode cX4_renew 6 = .ok (.istore_n 3, 1) := by decide +kernel
theorem dX4_renew_7 : decode cX4_renew 7 = .ok (.aload_n 0, 1) := by decide +kernel
theorem dX4_renew_8 : decode cX4_renew 8 = .ok (.getfield 9, 3) := by decide +kernel
theorem dX4_renew_11 : decode cX4_renew 11 = .ok (.iload_n 1, 1) := by decide +kernel
theorem dX4_renew_12 : decode cX4_renew 12 = .ok (.iload_n 2, 1) := by decide +kernel
theorem dX4_renew_13 : decode cX4_renew 13 = .ok (.iastore, 1) := by decide +kernel
theorem dX4_renew_14 : decode cX4_renew 14 = .ok (.aload_n 0, 1) := by decide +kernel
theorem dX4_renew_15 : decode cX4_renew 15 = .ok (.getfield 15, 3) := by decide +kernel
theorem dX4_renew_18 : decode cX4_renew 18 = .ok (.iload_n 1, 1) := by decide +kernel
theorem dX4_renew_19 : decode cX4_renew 19 = .ok (.iconst 0, 1) := by decide +kernel
theorem dX4_renew_20 : decode cX4_renew 20 = .ok (.iastore, 1) := by decide +kernel
theorem dX4_renew_21 : decode cX4_renew 21 = .ok (.iload_n 3, 1) := by decide +kernel
theorem dX4_renew_22 : decode cX4_renew 22 = .ok (.ireturn, 1) := by decide +kernel
theorem dX4_exchange_0 : decode cX4_exchange 0 = .ok (.aload_n 0, 1) := by decide +kernel
theorem dX4_exchange_1 : decode cX4_exchange 1 = .ok (.getfield 9, 3) := by decide +kernel
theorem dX4_exchange_4 : decode cX4_exchange 4 = .ok (.iload_n 1, 1) := by decide +kernel
theorem dX4_exchange_5 : decode cX4_exchange 5 = .ok (.iaload, 1) := by decide +kernel
theorem dX4_exchange_6 : decode cX4_exchange 6 = .ok (.istore_n 3, 1) := by decide +kernel
theorem dX4_exchange_7 : decode cX4_exchange 7 = .ok (.aload_n 0, 1) := by decide +kernel
theorem dX4_exchange_8 : decode cX4_exchange 8 = .ok (.getfield 15, 3) := by decide +kernel
theorem dX4_exchange_11 : decode cX4_exchange 11 = .ok (.iload_n 1, 1) := by decide +kernel
theorem dX4_exchange_12 : decode cX4_exchange 12 = .ok (.iaload, 1) := by decide +kernel
theorem dX4_exchange_13 : decode cX4_exchange 13 = .ok (.istore 4, 2) := by decide +kernel
theorem dX4_exchange_15 : decode cX4_exchange 15 = .ok (.aload_n 0, 1) := by decide +kernel
theorem dX4_exchange_16 : decode cX4_exchange 16 = .ok (.getfield 9, 3) := by decide +kernel
theorem dX4_exchange_19 : decode cX4_exchange 19 = .ok (.iload_n 1, 1) := by decide +kernel
theorem dX4_exchange_20 : decode cX4_exchange 20 = .ok (.aload_n 0, 1) := by decide +kernel
theorem dX4_exchange_21 : decode cX4_exchange 21 = .ok (.getfield 9, 3) := by decide +kernel
theorem dX4_exchange_24 : decode cX4_exchange 24 = .ok (.iload_n 2, 1) := by decide +kernel
theorem dX4_exchange_25 : decode cX4_exchange 25 = .ok (.iaload, 1) := by decide +kernel
theorem dX4_exchange_26 : decode cX4_exchange 26 = .ok (.iastore, 1) := by decide +kernel
theorem dX4_exchange_27 : decode cX4_exchange 27 = .ok (.aload_n 0, 1) := by decide +kernel
theorem dX4_exchange_28 : decode cX4_exchange 28 = .ok (.getfield 15, 3) := by decide +kernel
theorem dX4_exchange_31 : decode cX4_exchange 31 = .ok (.iload_n 1, 1) := by decide +kernel
theorem dX4_exchange_32 : decode cX4_exchange 32 = .ok (.aload_n 0, 1) := by decide +kernel
theorem dX4_exchange_33 : decode cX4_exchange 33 = .ok (.getfield 15, 3) := by decide +kernel
theorem dX4_exchange_36 : decode cX4_exchange 36 = .ok (.iload_n 2, 1) := by decide +kernel
theorem dX4_exchange_37 : decode cX4_exchange 37 = .ok (.iaload, 1) := by decide +kernel
theorem dX4_exchange_38 : decode cX4_exchange 38 = .ok (.iastore, 1) := by decide +kernel
theorem dX4_exchange_39 : decode cX4_exchange 39 = .ok (.aload_n 0, 1) := by decide +kernel
theorem dX4_exchange_40 : decode cX4_exchange 40 = .ok (.getfield 9, 3) := by decide +kernel
theorem dX4_exchange_43 : decode cX4_exchange 43 = .ok (.iload_n 2, 1) := by decide +kernel
theorem dX4_exchange_44 : decode cX4_exchange 44 = .ok (.iload_n 3, 1) := by decide +kernel
theorem dX4_exchange_45 : decode cX4_exchange 45 = .ok (.iastore, 1) := by decide +kernel
theorem dX4_exchange_46 : decode cX4_exchange 46 = .ok (.aload_n 0, 1) := by decide +kernel
theorem dX4_exchange_47 : decode cX4_exchange 47 = .ok (.getfield 15, 3) := by decide +kernel
theorem dX4_exchange_50 : decode cX4_exchange 50 = .ok (.iload_n 2, 1) := by decide +kernel
theorem dX4_exchange_51 : decode cX4_exchange 51 = .ok (.iload 4, 2) := by decide +kernel
theorem dX4_exchange_53 : decode cX4_exchange 53 = .ok (.iastore, 1) := by decide +kernel
theorem dX4_exchange_54 : decode cX4_exchange 54 = .ok (.return_, 1) := by decide +kernel
theorem dX4_soil_0 : decode cX4_soil 0 = .ok (.aload_n 0, 1) := by decide +kernel
theorem dX4_soil_1 : decode cX4_soil 1 = .ok (.getfield 15, 3) := by decide +kernel
theorem dX4_soil_4 : decode cX4_soil 4 = .ok (.iload_n 1, 1) := by decide +kernel
theorem dX4_soil_5 : decode cX4_soil 5 = .ok (.ldc2_w 27, 3) := by decide +kernel
theorem dX4_soil_8 : decode cX4_soil 8 = .ok (.aload_n 0, 1) := by decide +kernel
theorem dX4_soil_9 : decode cX4_soil 9 = .ok (.getfield 15, 3) := by decide +kernel
theorem dX4_soil_12 : decode cX4_soil 12 = .ok (.iload_n 1, 1) := by decide +kernel
theorem dX4_soil_13 : decode cX4_soil 13 = .ok (.iaload, 1) := by decide +kernel
theorem dX4_soil_14 : decode cX4_soil 14 = .ok (.i2l, 1) := by decide +kernel
theorem dX4_soil_15 : decode cX4_soil 15 = .ok (.lload_n 2, 1) := by decide +kernel
theorem dX4_soil_16 : decode cX4_soil 16 = .ok (.ladd, 1) := by decide +kernel
theorem dX4_soil_17 : decode cX4_soil 17 = .ok (.invokestatic 29, 3) := by decide +kernel
theorem dX4_soil_20 : decode cX4_soil 20 = .ok (.l2i, 1) := by decide +kernel
theorem dX4_soil_21 : decode cX4_soil 21 = .ok (.iastore, 1) := by decide +kernel
theorem dX4_soil_22 : decode cX4_soil 22 = .ok (.return_, 1) := by decide +kernel
theorem dX4_wash_0 : decode cX4_wash 0 = .ok (.aload_n 0, 1) := by decide +kernel
theorem dX4_wash_1 : decode cX4_wash 1 = .ok (.getfield 15, 3) := by decide +kernel
theorem dX4_wash_4 : decode cX4_wash 4 = .ok (.iload_n 1, 1) := by decide +kernel
theorem dX4_wash_5 : decode cX4_wash 5 = .ok (.dup2, 1) := by decide +kernel
theorem dX4_wash_6 : decode cX4_wash 6 = .ok (.iaload, 1) := by decide +kernel
theorem dX4_wash_7 : decode cX4_wash 7 = .ok (.iconst 2, 1) := by decide +kernel
theorem dX4_wash_8 : decode cX4_wash 8 = .ok (.idiv, 1) := by decide +kernel
theorem dX4_wash_9 : decode cX4_wash 9 = .ok (.iastore, 1) := by decide +kernel
theorem dX4_wash_10 : decode cX4_wash 10 = .ok (.return_, 1) := by decide +kernel
theorem dJ9_max_7cf53_0 : decode cJ9_max_7cf53 0 = .ok (.iload_n 0, 1) := by decide +kernel
theorem dJ9_max_7cf53_1 : decode cJ9_max_7cf53 1 = .ok (.iload_n 1, 1) := by decide +kernel
theorem dJ9_max_7cf53_2 : decode cJ9_max_7cf53 2 = .ok (.if_icmp .lt 7, 3) := by decide +kernel
theorem dJ9_max_7cf53_5 : decode cJ9_max_7cf53 5 = .ok (.iload_n 0, 1) := by decide +kernel
theorem dJ9_max_7cf53_6 : decode cJ9_max_7cf53 6 = .ok (.goto 4, 3) := by decide +kernel
theorem dJ9_max_7cf53_9 : decode cJ9_max_7cf53 9 = .ok (.iload_n 1, 1) := by decide +kernel
theorem dJ9_max_7cf53_10 : decode cJ9_max_7cf53 10 = .ok (.ireturn, 1) := by decide +kernel
theorem dJ9_max_f86c9_0 : decode cJ9_max_f86c9 0 = .ok (.lload_n 0, 1) := by decide +kernel
theorem dJ9_max_f86c9_1 : decode cJ9_max_f86c9 1 = .ok (.lload_n 2, 1) := by decide +kernel
theorem dJ9_max_f86c9_2 : decode cJ9_max_f86c9 2 = .ok (.lcmp, 1) := by decide +kernel
theorem dJ9_max_f86c9_3 : decode cJ9_max_f86c9 3 = .ok (.ifCond .lt 7, 3) := by decide +kernel
theorem dJ9_max_f86c9_6 : decode cJ9_max_f86c9 6 = .ok (.lload_n 0, 1) := by decide +kernel
theorem dJ9_max_f86c9_7 : decode cJ9_max_f86c9 7 = .ok (.goto 4, 3) := by decide +kernel
theorem dJ9_max_f86c9_10 : decode cJ9_max_f86c9 10 = .ok (.lload_n 2, 1) := by decide +kernel
theorem dJ9_max_f86c9_11 : decode cJ9_max_f86c9 11 = .ok (.lreturn, 1) := by decide +kernel
theorem dJ9_min_7cf53_0 : decode cJ9_min_7cf53 0 = .ok (.iload_n 0, 1) := by decide +kernel
theorem dJ9_min_7cf53_1 : decode cJ9_min_7cf53 1 = .ok (.iload_n 1, 1) := by decide +kernel
theorem dJ9_min_7cf53_2 : decode cJ9_min_7cf53 2 = .ok (.if_icmp .gt 7, 3) := by decide +kernel
theorem dJ9_min_7cf53_5 : decode cJ9_min_7cf53 5 = .ok (.iload_n 0, 1) := by decide +kernel
theorem dJ9_min_7cf53_6 : decode cJ9_min_7cf53 6 = .ok (.goto 4, 3) := by decide +kernel
theorem dJ9_min_7cf53_9 : decode cJ9_min_7cf53 9 = .ok (.iload_n 1, 1) := by decide +kernel
theorem dJ9_min_7cf53_10 : decode cJ9_min_7cf53 10 = .ok (.ireturn, 1) := by decide +kernel
theorem dJ9_min_f86c9_0 : decode cJ9_min_f86c9 0 = .ok (.lload_n 0, 1) := by decide +kernel
theorem dJ9_min_f86c9_1 : decode cJ9_min_f86c9 1 = .ok (.lload_n 2, 1) := by decide +kernel
theorem dJ9_min_f86c9_2 : decode cJ9_min_f86c9 2 = .ok (.lcmp, 1) := by decide +kernel
theorem dJ9_min_f86c9_3 : decode cJ9_min_f86c9 3 = .ok (.ifCond .gt 7, 3) := by decide +kernel
theorem dJ9_min_f86c9_6 : decode cJ9_min_f86c9 6 = .ok (.lload_n 0, 1) := by decide +kernel
theorem dJ9_min_f86c9_7 : decode cJ9_min_f86c9 7 = .ok (.goto 4, 3) := by decide +kernel
theorem dJ9_min_f86c9_10 : decode cJ9_min_f86c9 10 = .ok (.lload_n 2, 1) := by decide +kernel
theorem dJ9_min_f86c9_11 : decode cJ9_min_f86c9 11 = .ok (.lreturn, 1) := by decide +kernel
theorem dJ7_fill_53178_0 : decode cJ7_fill_53178 0 = .ok (.iconst 0, 1) := by decide +kernel
theorem dJ7_fill_53178_1 : decode cJ7_fill_53178 1 = .ok (.istore_n 2, 1) := by decide +kernel
theorem dJ7_fill_53178_2 : decode cJ7_fill_53178 2 = .ok (.aload_n 0, 1) := by decide +kernel
theorem dJ7_fill_53178_3 : decode cJ7_fill_53178 3 = .ok (.arraylength, 1) := by decide +kernel
theorem dJ7_fill_53178_4 : decode cJ7_fill_53178 4 = .ok (.istore_n 3, 1) := by decide +kernel
theorem dJ7_fill_53178_5 : decode cJ7_fill_53178 5 = .ok (.iload_n 2, 1) := by decide +kernel
theorem dJ7_fill_53178_6 : decode cJ7_fill_53178 6 = .ok (.iload_n 3, 1) := by decide +kernel
theorem dJ7_fill_53178_7 : decode cJ7_fill_53178 7 = .ok (.if_icmp .ge 13, 3) := by decide +kernel
theorem dJ7_fill_53178_10 : decode cJ7_fill_53178 10 = .ok (.aload_n 0, 1) := by decide +kernel
theorem dJ7_fill_53178_11 : decode cJ7_fill_53178 11 = .ok (.iload_n 2, 1) := by decide +kernel
theorem dJ7_fill_53178_12 : decode cJ7_fill_53178 12 = .ok (.iload_n 1, 1) := by decide +kernel
theorem dJ7_fill_53178_13 : decode cJ7_fill_53178 13 = .ok (.iastore, 1) := by decide +kernel
theorem dJ7_fill_53178_14 : decode cJ7_fill_53178 14 = .ok (.iinc 2 1, 3) := by decide +kernel
theorem dJ7_fill_53178_17 : decode cJ7_fill_53178 17 = .ok (.goto (-12), 3) := by decide +kernel
theorem dJ7_fill_53178_20 : decode cJ7_fill_53178 20 = .ok (.return_, 1) := by decide +kernel
theorem dJ7_fill_fb410_0 : decode cJ7_fill_fb410 0 = .ok (.iconst 0, 1) := by decide +kernel
theorem dJ7_fill_fb410_1 : decode cJ7_fill_fb410 1 = .ok (.istore_n 2, 1) := by decide +kernel
theorem dJ7_fill_fb410_2 : decode cJ7_fill_fb410 2 = .ok (.aload_n 0, 1) := by decide +kernel
theorem dJ7_fill_fb410_3 : decode cJ7_fill_fb410 3 = .ok (.arraylength, 1) := by decide +kernel
theorem dJ7_fill_fb410_4 : decode cJ7_fill_fb410 4 = .ok (.istore_n 3, 1) := by decide +kernel
theorem dJ7_fill_fb410_5 : decode cJ7_fill_fb410 5 = .ok (.iload_n 2, 1) := by decide +kernel
theorem dJ7_fill_fb410_6 : decode cJ7_fill_fb410 6 = .ok (.iload_n 3, 1) := by decide +kernel
theorem dJ7_fill_fb410_7 : decode cJ7_fill_fb410 7 = .ok (.if_icmp .ge 13, 3) := by decide +kernel
theorem dJ7_fill_fb410_10 : decode cJ7_fill_fb410 10 = .ok (.aload_n 0, 1) := by decide +kernel
theorem dJ7_fill_fb410_11 : decode cJ7_fill_fb410 11 = .ok (.iload_n 2, 1) := by decide +kernel
theorem dJ7_fill_fb410_12 : decode cJ7_fill_fb410 12 = .ok (.iload_n 1, 1) := by decide +kernel
theorem dJ7_fill_fb410_13 : decode cJ7_fill_fb410 13 = .ok (.sastore, 1) := by decide +kernel
theorem dJ7_fill_fb410_14 : decode cJ7_fill_fb410 14 = .ok (.iinc 2 1, 3) := by decide +kernel
theorem dJ7_fill_fb410_17 : decode cJ7_fill_fb410 17 = .ok (.goto (-12), 3) := by decide +kernel
theorem dJ7_fill_fb410_20 : decode cJ7_fill_fb410 20 = .ok (.return_, 1) := by decide +kernel
end
section
/-! One judgement for all methods of this claim, over one list of words, one ambient world (classes, nest words, static rows), and worlds whose cells lie at addresses 'ad k'. -/
def zT : List Cond := lw_tbl.filter goodWord
def zIsNest : Cond → Bool
  | .fieldLinkNest .. => true
  | .methodLinkNest .. => true
  | _ => false
def zNest : List Cond := lw_tbl.filter zIsNest
theorem zT_in {w : Cond} (h : w ∈ zT) : w ∈ lw_tbl := (List.mem_filter.mp h).1
theorem zT_good {w : Cond} (h : w ∈ zT) : goodWord w = true := (List.mem_filter.mp h).2
theorem zmem (i : Nat) {w : Cond} (h : lw_tbl[i]? = some w) (hg : goodWord w = true) : w ∈ zT := List.mem_filter.mpr ⟨List.mem_of_getElem? h, hg⟩
theorem znmem (i : Nat) {w : Cond} (h : lw_tbl[i]? = some w) (hg : zIsNest w = true) : w ∈ zNest := List.mem_filter.mpr ⟨List.mem_of_getElem? h, hg⟩
theorem zGood {w0 : Cond} (h0 : w0 ∈ zT) : GoodIn zT (w0 :: zT) := by
  intro w hw
  rcases List.mem_cons.mp hw with rfl | hw
  · exact ⟨h0, good_of_word (zT_good h0)⟩
  · exact ⟨hw, good_of_word (zT_good hw)⟩
abbrev zS : Type := MethodName × ByteArray × Nat × Option FieldType × String × Nat × Nat
abbrev zG : Type := va_G × (ClassId × ClassId × ClassId × ClassId) × (Nat → Nat)
abbrev zy (S : zS) : MethodName := S.1
abbrev zcc (S : zS) : ByteArray := S.2.1
abbrev znL (S : zS) : Nat := S.2.2.1
abbrev zret (S : zS) : Option FieldType := S.2.2.2.1
abbrev zown (S : zS) : String := S.2.2.2.2.1
abbrev zfr (S : zS) : Nat := S.2.2.2.2.2.1
abbrev zlo (S : zS) : Nat := S.2.2.2.2.2.2
abbrev zcI (G : zG) : ClassId := G.2.1.1
abbrev zcJ (G : zG) : ClassId := G.2.1.2.1
abbrev zcS (G : zG) : ClassId := G.2.1.2.2.1
abbrev zcO (G : zG) : ClassId := G.2.1.2.2.2
abbrev zty (G : zG) : List (ClassId × FieldType) := [(zcI G, .int), (zcJ G, .long), (zcS G, .short), (zcO G, .object "SaltPlant$Sheet")]
/-- the static rows: class, name, length, contents -/
def zSt : List (String × String × Nat × (Nat → Int32)) := [
  ("SaltPlant$Skins", "PASS_OF_KIND", 4, fun k => ([40, 30, 60, 20] : List Int32).getD k 0),
  ("SaltPlant$Skins", "LEAK_OF_KIND", 4, fun k => ([10, 5, 25, 2] : List Int32).getD k 0),
  ("SaltPlant$Skins", "KIND_ABOVE", 4, fun k => ([0, 0, 0, 1] : List Int32).getD k 0),
  ("SaltPlant", "RULE_LOW", 7, fun k => ([0, 0, 0, 1, 0, 0, 0] : List Int32).getD k 0),
  ("SaltPlant", "RULE_HIGH", 7, fun k => ([9999, 9999, 100, 1000, 30, 200, 200] : List Int32).getD k 0)]
def zStat (G : zG) (A : Nat → Prop) (U : State) (H : Heap) : Prop := ∀ (k : Nat) (q : String × String × Nat × (Nat → Int32)), zSt[k]? = some q → va_Z q.1 q.2.1 "[I" (.ref (G.2.2 k)) A U H ∧ va_T .int (G.2.2 k) q.2.2.1 (fun j => .int (q.2.2.2 j)) A U H ∧ ¬ A (G.2.2 k) ∧ G.2.2 k < H.size
def zAmb (G : zG) (A : Nat → Prop) (U : State) : Prop := va_K G.1 vwCl (zty G) U ∧ (∀ w ∈ zNest, va_Nw w U) ∧ zStat G A U U.heap
theorem zNest.warm {s U : State} (hW : s.WarmedH U.vm) (h : ∀ w ∈ zNest, va_Nw w s) : ∀ w ∈ zNest, va_Nw w U := by
  intro w hw
  have h1 := h w hw
  have h2 := (List.mem_filter.mp hw).2
  cases w <;> first | exact va_Nw.warmF hW h1 | exact va_Nw.warmM hW h1 | (simp [zIsNest] at h2)
theorem zStat.go {G : zG} {A B : Nat → Prop} {s U : State} {H : Heap} {locs : List Loc} (hvm : s.vm.Alike U.vm) (hS : va_S A s.heap H locs) (hAB : ∀ q, B q → A q) (h : zStat G A s s.heap) : zStat G B U H := by
  intro k q hk
  obtain ⟨h1, h2, h3, h4⟩ := h k q hk
  refine ⟨va_Z.moved hvm ((h1.kept (fun a ha hn => hS.2.1 a ha hn)).narrow hAB), va_T.moved hvm ((h2.kept (fun a ha hn => hS.2.1 a ha hn)).narrow hAB), fun hb => h3 (hAB _ hb), Nat.lt_of_lt_of_le h4 hS.1⟩
def zQc (G : zG) (wc : va_W) (post : Option Value → va_W → Prop) : Array Value → State → Outcome → State → Prop := fun _ st oc t => (∃ (r : Option Value) (w1 : va_W), oc = .returned r ∧ post r w1 ∧ w1.map Prod.fst = wc.map Prod.fst ∧ va_P G.1 vwCl w1 t.heap) ∧ va_F (va_A wc st.heap.size) st t
def zPc (G : zG) (As : List Value) (wc : va_W) (sz : Nat) : Array Value → State → Prop := va_Pc As (fun U => U.heap.size = sz ∧ va_P G.1 vwCl wc U.heap ∧ va_D (fun _ => True) wc ∧ zAmb G (va_A wc sz) U)
abbrev zR (S : zS) : Room := { frames := zfr S, cells := 0, slots := 0, locals := zlo S }
abbrev zW (S : zS) : Cond := .code (zy S) (zcc S) (znL S) (zret S)
/-- a method's contract: on the world wc, with the arguments As, it returns, and 'post answer world' -/
def zSem (l : Launch) (G : zG) (S : zS) (As : List Value) (wc : va_W) (post : Option Value → va_W → Prop) : Prop :=
  ∀ sz : Nat, Met l (zy S) (zW S :: zT) (zR S) (zPc G As wc sz) (zQc G wc post) 0 0 (va_A wc sz)
def zCx (p : Program) (s : State) (m : MethodId) (args : Array Value) (meth : Method) (c : Code) (G : zG) (S : zS) (wc : va_W) : Prop :=
  p.tables.exec = Jvm.exec ∧ c.code = zcc S ∧ c.maxLocals = znL S ∧ s.vm.findClass (zown S) = some m.cls ∧ (∀ w ∈ zT, w.before args s = true) ∧ meth.sig.returnType = zret S ∧ meth.locks = false ∧ zAmb G (va_A wc s.heap.size) s
/-- the walk: from pc with locals L, stack st, world ws, the method comes to its end with its 'post' -/
def AW (l : Launch) (G : zG) (S : zS) (wc : va_W) (post : Option Value → va_W → Prop) (pc : Nat) (L : List (Nat × Value)) (st : List Value) (ws : va_W) : Prop :=
  ∀ (p : Program) (e : Env) (s : State) (m : MethodId) (args : Array Value) (below : List Frame) (meth : Method) (c : Code), zCx p s m args meth c G S wc →
  ∀ (H : Heap) (locs : List Loc) (ls : Array Slot), va_P G.1 vwCl ws H → va_D (va_A wc s.heap.size) ws → va_S (va_A wc s.heap.size) s.heap H locs → lv_has ls (znL S) L →
    W p l e (zR S) s m args below meth c H locs 0 0 (MQ below (zQc G wc post) args s 0 0 (va_A wc s.heap.size)) (F0 m pc ls st)
theorem zEnter {l : Launch} {G : zG} {S : zS} {As : List Value} {wc : va_W} {post : Option Value → va_W → Prop} (hy : plainName (zy S).cls = true) (hown : (zy S).cls = zown S) (hAs : (lg_sl As).length ≤ znL S) {L : List (Nat × Value)} (hL : lv_args 0 As = L)
    (h : AW l G S wc post 0 L [] wc) : zSem l G S As wc post := by
  intro sz
  refine Met.ofW (cc := zcc S) (maxL := znL S) (ret := zret S) hy rfl ?_
  intro p e s m args below meth c s₁ B hml hv
  obtain ⟨rfl, hsz, hP, hD, hA⟩ := hv
  have hts := atoms_spec (ws := zW S :: zT) B.pre
  have hown2 : s.vm.findClass (zy S).cls = some m.cls := findClass_of_methodNamed B.named
  subst hsz
  subst hL
  rw [lg_entry_eq]
  exact h p e s m As.toArray below meth c ⟨B.exec, B.bytes, hml, hown ▸ hown2, fun w hw => hts w (List.mem_cons_of_mem _ hw), B.returns, B.notSynchronized, hA⟩ s.heap [] _ hP hD.self va_S.rf (lv_entry As hAs)
def zput : va_W → List Nat → va_W → va_W
  | ws, i :: is, q :: w1 => zput (ws.set i q) is w1
  | ws, _, _ => ws
theorem zput_get : ∀ (is : List Nat) (w1 ws : va_W), is.length = w1.length → ∀ (k : Nat) (q : Nat × va_E), (zput ws is w1)[k]? = some q → (∃ j : Nat, w1[j]? = some q) ∨ (ws[k]? = some q ∧ k ∉ is) := by
  intro is
  induction is with
  | nil => intro w1 ws _ k q h; cases w1 <;> exact Or.inr ⟨h, List.not_mem_nil⟩
  | cons i is ih =>
    intro w1 ws hlen k q h
    cases w1 with
    | nil => cases hlen
    | cons q1 w1 =>
      rcases ih w1 (ws.set i q1) (Nat.succ.inj hlen) k q h with ⟨j, hj⟩ | ⟨h1, h2⟩
      · exact Or.inl ⟨j + 1, hj⟩
      · by_cases hk : i = k
        · subst hk
          rw [List.getElem?_set_self'] at h1
          cases hw : ws[i]? with
          | none => rw [hw] at h1; cases h1
          | some z => rw [hw] at h1; exact Or.inl ⟨0, h1⟩
        · rw [List.getElem?_set_ne hk] at h1
          exact Or.inr ⟨h1, fun hm => (List.mem_cons.mp hm).elim (fun e => hk e.symm) h2⟩
theorem zput_fst : ∀ (is : List Nat) (w1 ws : va_W), (∀ (j i : Nat) (q : Nat × va_E), is[j]? = some i → w1[j]? = some q → ∃ e, ws[i]? = some (q.1, e)) → (zput ws is w1).map Prod.fst = ws.map Prod.fst := by
  intro is
  induction is with
  | nil => intro w1 ws _; cases w1 <;> rfl
  | cons i is ih =>
    intro w1 ws h
    cases w1 with
    | nil => rfl
    | cons q1 w1 =>
      obtain ⟨e0, h0⟩ := h 0 i q1 rfl rfl
      have hs : (ws.set i q1).map Prod.fst = ws.map Prod.fst := by
        rw [List.map_set]
        apply List.ext_getElem?
        intro k
        by_cases hk : i = k
        · subst hk
          rw [List.getElem?_set_self', List.getElem?_map, h0]
          rfl
        · rw [List.getElem?_set_ne hk]
      show (zput (ws.set i q1) is w1).map Prod.fst = _
      rw [ih w1 (ws.set i q1) ?_, hs]
      intro j i2 q hj hq
      obtain ⟨e2, h2⟩ := h (j + 1) i2 q hj hq
      by_cases hk : i = i2
      · subst hk
        rw [h0] at h2
        have h3 : q1.1 = q.1 := congrArg (fun o => (o.getD (0, e0)).1) h2
        refine ⟨q1.2, ?_⟩
        rw [List.getElem?_set_self', h0, ← h3]
        rfl
      · exact ⟨e2, by rw [List.getElem?_set_ne hk]; exact h2⟩
theorem zD_of {A : Nat → Prop} {ws ws' : va_W} (h : va_D A ws) (hf : ws'.map Prod.fst = ws.map Prod.fst) : va_D A ws' := by
  have key : ∀ (k : Nat) (q : Nat × va_E), ws'[k]? = some q → ∃ e, ws[k]? = some (q.1, e) := by
    intro k q hq
    have h1 : (ws'.map Prod.fst)[k]? = some q.1 := by rw [List.getElem?_map, hq]; rfl
    rw [hf, List.getElem?_map] at h1
    cases hw : ws[k]? with
    | none => rw [hw] at h1; cases h1
    | some z =>
      rw [hw] at h1
      obtain ⟨z1, z2⟩ := z
      have : z1 = q.1 := Option.some.inj h1
      exact ⟨z2, by rw [this]⟩
  refine ⟨fun i j p q hi hj hpq => ?_, fun k q hk => ?_⟩
  · obtain ⟨e1, h1⟩ := key i p hi
    obtain ⟨e2, h2⟩ := key j q hj
    exact h.1 i j _ _ h1 h2 hpq
  · obtain ⟨e1, h1⟩ := key k q hk
    exact h.2 k (q.1, e1) h1
section ZC
variable {l : Launch} {G : zG} {S S2 : zS} {wc wc2 : va_W} {post post2 : Option Value → va_W → Prop} {pc : Nat} {L : List (Nat × Value)} {st rest As : List Value} {ws : va_W}
/-- behind any call: the callee's cells come back, all others stay -/
theorem zBehind (isC : List Nat) (hC : isC.map (fun i => ws[i]?) = wc2.map some)
    (kk : ∀ (r : Option Value) (w1 : va_W), post2 r w1 → w1.map Prod.fst = wc2.map Prod.fst → AW l G S wc post (pc + 3) L (r.toList ++ rest) (zput ws isC w1))
    {p : Program} {e : Env} {s : State} {m : MethodId} {args : Array Value} {below : List Frame} {meth : Method} {c : Code} (C : zCx p s m args meth c G S wc)
    {H : Heap} {locs : List Loc} {ls : Array Slot} (hP : va_P G.1 vwCl ws H) (hD : va_D (va_A wc s.heap.size) ws) (hS : va_S (va_A wc s.heap.size) s.heap H locs) (hl : lv_has ls (znL S) L) {a : Array Value}
    (hr : va_Run p l e (zR S) s m args below meth c H locs 0 0 0 0 (F0 m pc ls st) rest (zQc G wc2 post2 a) (va_A wc2 H.size)) :
    W p l e (zR S) s m args below meth c H locs 0 0 (MQ below (zQc G wc post) args s 0 0 (va_A wc s.heap.size)) (F0 m pc ls st) := by
  have hF : ∀ q, va_A wc2 H.size q → va_A wc s.heap.size q := va_free hD hS (fun q h => Or.inr h) isC hC
  intro T hT X
  obtain ⟨v, st₀, t, T', L1, h0, X', hL, e1, e2, ⟨⟨r, w1, hv, hp, hf, hP1⟩, hz, hk⟩, stp⟩ := hr T hT X
  cases hv
  rw [h0] at hz hk
  have hlen : isC.length = w1.length := by
    have h1 := congrArg List.length hC
    have h2 := congrArg List.length hf
    simp only [List.length_map] at h1 h2
    omega
  have hat : ∀ (j i : Nat) (q : Nat × va_E), isC[j]? = some i → w1[j]? = some q → ∃ e, ws[i]? = some (q.1, e) := by
    intro j i q hj hq
    have h1 : (w1.map Prod.fst)[j]? = some q.1 := by rw [List.getElem?_map, hq]; rfl
    rw [hf, List.getElem?_map] at h1
    have h2 : (isC.map (fun i => ws[i]?))[j]? = some (ws[i]?) := by rw [List.getElem?_map, hj]; rfl
    rw [hC, List.getElem?_map] at h2
    cases hw : wc2[j]? with
    | none => rw [hw] at h1; cases h1
    | some z =>
      rw [hw] at h1 h2
      obtain ⟨z1, z2⟩ := z
      have e3 : z1 = q.1 := Option.some.inj h1
      have e4 : some (z1, z2) = ws[i]? := Option.some.inj h2
      exact ⟨z2, by rw [← e4, e3]⟩
  have hP' : va_P G.1 vwCl (zput ws isC w1) T'.heap := by
    intro k q hq
    rcases zput_get isC w1 ws hlen k q hq with ⟨j, hj⟩ | ⟨h1, h2⟩
    · rw [e1]; exact hP1 j q hj
    · have hlt := (hP k q h1).lt
      refine (hP k q h1).kept ?_
      rw [e1]
      refine hk q.1 hlt ?_
      rintro (⟨j, ej, hj⟩ | hge)
      · have h3 : (isC.map (fun i => ws[i]?))[j]? = some (some (q.1, ej)) := by rw [hC, List.getElem?_map, hj]; rfl
        rw [List.getElem?_map] at h3
        cases hi : isC[j]? with
        | none => rw [hi] at h3; cases h3
        | some i =>
          rw [hi] at h3
          have h4 : ws[i]? = some (q.1, ej) := Option.some.inj h3
          have := hD.1 k i q _ h1 h4 rfl
          subst this
          exact h2 (List.mem_of_getElem? hi)
      · omega
  have hS' : va_S (va_A wc s.heap.size) s.heap T'.heap (locs ++ L1) := ⟨Nat.le_trans hS.1 (by rw [e1]; exact hz), fun q h1 h2 => by rw [e1, hk q (Nat.lt_of_lt_of_le h1 hS.1) (fun z => h2 (hF q z))]; exact hS.2.1 q h1 h2, fun q hq => by
      rcases List.mem_append.mp hq with h | h
      · exact hS.2.2 q h
      · exact hF _ (hL q h)⟩
  obtain ⟨t2, a1, b1⟩ := kk v w1 hp hf p e s m args below meth c C T'.heap (locs ++ L1) ls hP' (zD_of hD (zput_fst isC w1 ws hat)) hS' hl T' rfl X'
  exact ⟨t2, stp t2 a1, b1⟩
theorem zBlind {sz : Nat} {As : List Value} : FrameBlind (zPc G As wc2 sz) := fun a U g mk q => by
  obtain ⟨q0, q1, qP, qD, qK, qN, qZ⟩ := q
  refine ⟨q0, q1, qP, qD, va_K.moved (u := U) (U := U.calling g mk a) (Vm.Alike.refl U.vm) qK, fun w hw => va_Nw.same ?_ (u := U) (U := U.calling g mk a) rfl (qN w hw), fun k q hk => ?_⟩
  · have h2 := (List.mem_filter.mp hw).2
    cases w <;> first | rfl | (simp [zIsNest] at h2)
  · obtain ⟨h1, h2, h3, h4⟩ := qZ k q hk
    exact ⟨va_Z.moved (u := U) (U := U.calling g mk a) (Vm.Alike.refl U.vm) h1, va_T.moved (u := U) (U := U.calling g mk a) (Vm.Alike.refl U.vm) h2, h3, h4⟩
theorem zPre (isC : List Nat) (hC : isC.map (fun i => ws[i]?) = wc2.map some) (hnd : va_nd isC = true) {p : Program} {s : State} {m : MethodId} {args : Array Value} {meth : Method} {c : Code} (C : zCx p s m args meth c G S wc)
    {H : Heap} {locs : List Loc} (hP : va_P G.1 vwCl ws H) (hD : va_D (va_A wc s.heap.size) ws) (hS : va_S (va_A wc s.heap.size) s.heap H locs) (As : List Value) : ∀ U : State, U.heap = H → s.WarmedH U.vm → zPc G As wc2 H.size As.toArray U := by
  have hF : ∀ q, va_A wc2 H.size q → va_A wc s.heap.size q := va_free hD hS (fun q h => Or.inr h) isC hC
  have hf : isC.filterMap (fun i => ws[i]?) = wc2 := by
    have h1 : isC.filterMap (fun i => ws[i]?) = (isC.map (fun i => ws[i]?)).filterMap id := by rw [List.filterMap_map]; rfl
    rw [h1, hC, List.filterMap_map]
    exact List.filterMap_some
  intro U hU hW
  refine ⟨rfl, by rw [hU], by rw [hU]; exact hP.sub isC hf, (hD.sub isC hnd hC).weaken (fun _ _ _ _ => trivial), va_K.moved hW.alike C.2.2.2.2.2.2.2.1, zNest.warm hW C.2.2.2.2.2.2.2.2.1, ?_⟩
  rw [hU]
  exact zStat.go hW.alike hS hF C.2.2.2.2.2.2.2.2.2
/-- what a call needs of the tables: all by program -/
def zOkY (S S2 : zS) (n : Nat) : Prop := ((zy S2).cls ≠ "java/lang/invoke/MethodHandle" ∧ (zy S2).cls ≠ "java/lang/invoke/VarHandle" ∧ (parseMethodDescriptor (zy S2).desc).map (fun d => d.parameters.length) = some n) ∧ (zfr S2 + 1 ≤ zfr S ∧ 8 + (znL S2 + 11) + zlo S2 ≤ zlo S)
theorem a_callS {index n : Nat} (hM : zSem l G S2 As wc2 post2) (hcode : zW S2 ∈ zT) (hlink : Cond.methodLink (zown S) index (zy S2) ∈ zT) (hstat : Cond.static (zy S2) ∈ zT) (hini : Cond.initialized (zy S2).cls ∈ zT) (hok : zOkY S S2 n)
    (hdg : decode (zcc S) pc = .ok (.invokestatic index, 3)) (isC : List Nat) (hC : isC.map (fun i => ws[i]?) = wc2.map some) (hnd : va_nd isC = true) (hst : st = As.reverse ++ rest) (hn : As.length = n) (hsum : (rest.map fun v => v.category).sum ≤ 8)
    (kk : ∀ (r : Option Value) (w1 : va_W), post2 r w1 → w1.map Prod.fst = wc2.map Prod.fst → AW l G S wc post (pc + 3) L (r.toList ++ rest) (zput ws isC w1)) : AW l G S wc post pc L st ws := by
  intro p e s m args below meth c C H locs ls hP hD hS hl
  obtain ⟨hx, hb, hml, ho, hts, -⟩ := id C
  exact zBehind isC hC kk C hP hD hS hl (va_runS (As := As) ⟨hx, hb, hml, ho, hts⟩ (hM H.size) ⟨callB_of n hts (zGood hcode) rfl rfl rfl (hts _ hini) (hts _ hlink) hok.1 hok.2, hts _ hstat⟩ ⟨zBlind, zPre isC hC hnd C hP hD hS As⟩ rfl hn hl.1 hst (lv_room hsum) hdg ⟨Nat.le_refl _, Nat.le_refl _⟩)
theorem a_callV {index n b : Nat} (hM : zSem l G S2 (.ref b :: As) wc2 post2) (hcode : zW S2 ∈ zT) (hlink : Cond.methodLink (zown S) index (zy S2) ∈ zT) (hin : Cond.instanceMethod (zy S2) ∈ zT) (hsel : Cond.selects (zy S2).cls (zy S2) (zy S2) ∈ zT) (hini : Cond.initialized (zy S2).cls ∈ zT) (hok : zOkY S S2 n)
    (hdg : decode (zcc S) pc = .ok (.invokevirtual index, 3)) (isC : List Nat) (hC : isC.map (fun i => ws[i]?) = wc2.map some) (hnd : va_nd isC = true) (hst : st = As.reverse ++ .ref b :: rest) (hn : As.length = n) (hsum : (rest.map fun v => v.category).sum ≤ 8) {q0 ci : Nat} {qc : vw_C} {fs : List Value} (hq0 : ws[q0]? = some (b, .inr (ci, fs))) (hci : vwCl[ci]? = some qc) (hcl : qc.1 = (zy S2).cls)
    (kk : ∀ (r : Option Value) (w1 : va_W), post2 r w1 → w1.map Prod.fst = wc2.map Prod.fst → AW l G S wc post (pc + 3) L (r.toList ++ rest) (zput ws isC w1)) : AW l G S wc post pc L st ws := by
  intro p e s m args below meth c C H locs ls hP hD hS hl
  obtain ⟨hx, hb, hml, ho, hts, -⟩ := id C
  exact zBehind isC hC kk C hP hD hS hl (va_runV (As := As) (C := (zy S2).cls) ⟨hx, hb, hml, ho, hts⟩ (hM H.size) ⟨callB_of n hts (zGood hcode) rfl rfl rfl (hts _ hini) (hts _ hlink) hok.1 hok.2, hts _ hin, hts _ hsel⟩ ⟨zBlind, hcl ▸ va_recv C.2.2.2.2.2.2.2.1 hP hci hq0, zPre isC hC hnd C hP hD hS (.ref b :: As)⟩ rfl hn hl.1 hst (lv_room hsum) hdg ⟨Nat.le_refl _, Nat.le_refl _⟩)
theorem zGoodN {s : State} {args : Array Value} {index n : Nat} {host : String} (hts : ∀ w ∈ zT, w.before args s = true) (hcode : zW S2 ∈ zT) (hl : va_Nw (.methodLinkNest (zown S) index (zy S2) host) s) (hini : Cond.initialized (zy S2).cls ∈ zT) (hok : zOkY S S2 n) : va_CN (zR S) s args (zown S) index (zy S2) host (zcc S2) (znL S2) (zret S2) (zW S2 :: zT) (zR S2) 0 0 n :=
  va_cnB n hts (zGood hcode) rfl rfl rfl hl (hts _ hini) hok.1 hok.2
theorem a_callSN {index n : Nat} {host : String} (hM : zSem l G S2 As wc2 post2) (hcode : zW S2 ∈ zT) (hlink : Cond.methodLinkNest (zown S) index (zy S2) host ∈ zNest) (hstat : Cond.static (zy S2) ∈ zT) (hini : Cond.initialized (zy S2).cls ∈ zT) (hok : zOkY S S2 n)
    (hdg : decode (zcc S) pc = .ok (.invokestatic index, 3)) (isC : List Nat) (hC : isC.map (fun i => ws[i]?) = wc2.map some) (hnd : va_nd isC = true) (hst : st = As.reverse ++ rest) (hn : As.length = n) (hsum : (rest.map fun v => v.category).sum ≤ 8)
    (kk : ∀ (r : Option Value) (w1 : va_W), post2 r w1 → w1.map Prod.fst = wc2.map Prod.fst → AW l G S wc post (pc + 3) L (r.toList ++ rest) (zput ws isC w1)) : AW l G S wc post pc L st ws := by
  intro p e s m args below meth c C H locs ls hP hD hS hl
  obtain ⟨hx, hb, hml, ho, hts, -⟩ := id C
  exact zBehind isC hC kk C hP hD hS hl (va_runSN (As := As) ⟨hx, hb, hml, ho, hts⟩ (hM H.size) ⟨zGoodN hts hcode (C.2.2.2.2.2.2.2.2.1 _ hlink) hini hok, hts _ hstat, trivial⟩ ⟨zBlind, zPre isC hC hnd C hP hD hS As⟩ rfl hn hl.1 hst (lv_room hsum) hdg ⟨Nat.le_refl _, Nat.le_refl _⟩)
end ZC
end
section
/-! Rows: an instruction each, over AW. Locals: a list by places, none where nothing is said. -/
def zL : Nat → List (Option Value) → List (Nat × Value)
  | _, [] => []
  | i, none :: L => zL (i + 1) L
  | i, some v :: L => (i, v) :: zL (i + 1) L
theorem zL_mem : ∀ (L : List (Option Value)) (i : Nat) (q : Nat × Value), q ∈ zL i L ↔ ∃ j, q.1 = i + j ∧ L[j]? = some (some q.2) := by
  intro L
  induction L with
  | nil => intro i q; simp [zL]
  | cons a L ih =>
    intro i q
    have key : (∃ j, q.1 = i + j ∧ (a :: L)[j]? = some (some q.2)) ↔ (q.1 = i ∧ a = some q.2) ∨ ∃ j, q.1 = (i + 1) + j ∧ L[j]? = some (some q.2) := by
      constructor
      · rintro ⟨j, h1, h2⟩
        cases j with
        | zero => exact Or.inl ⟨h1, Option.some.inj h2⟩
        | succ j => exact Or.inr ⟨j, by omega, h2⟩
      · rintro (⟨h1, h2⟩ | ⟨j, h1, h2⟩)
        · exact ⟨0, h1, congrArg some h2⟩
        · exact ⟨j + 1, by omega, h2⟩
    rw [key]
    cases a with
    | none =>
      show q ∈ zL (i + 1) L ↔ _
      rw [ih]
      constructor
      · exact Or.inr
      · rintro (⟨-, h⟩ | h)
        · cases h
        · exact h
    | some v =>
      show q ∈ (i, v) :: zL (i + 1) L ↔ _
      rw [List.mem_cons, ih]
      constructor
      · rintro (h | h)
        · exact Or.inl ⟨by rw [h], by rw [h]⟩
        · exact Or.inr h
      · rintro (⟨h1, h2⟩ | h)
        · refine Or.inl ?_
          obtain ⟨q1, q2⟩ := q
          cases h2
          cases h1
          rfl
        · exact Or.inr h
theorem zlk {ls : Array Slot} {nL : Nat} {L : List (Option Value)} (h : lv_has ls nL (zL 0 L)) {i : Nat} {v : Value} (hi : L[i]? = some (some v)) : ls[i]? = some (.val v) :=
  h.2.2 (i, v) ((zL_mem L 0 (i, v)).mpr ⟨i, by simp, hi⟩)
def zprev (L : List (Option Value)) (i : Nat) : Bool := match i with
  | 0 => true
  | j + 1 => match L[j]? with
    | some (some v) => v.category == 1
    | _ => true
theorem zset1 {ls : Array Slot} {nL : Nat} {L : List (Option Value)} {i : Nat} {v : Value} (hp : zprev L i = true)
    (h : lv_has ls nL ((i, v) :: (zL 0 L).filter (fun q => !(q.1 == i) && !(q.1 + 1 == i && q.2.category == 2)))) : lv_has ls nL (zL 0 (L.set i (some v))) := by
  refine ⟨h.1, h.2.1, fun q hq => h.2.2 q ?_⟩
  obtain ⟨j, h1, h2⟩ := (zL_mem _ _ _).mp hq
  have h1 : q.1 = j := by omega
  by_cases hj : i = j
  · subst hj
    rw [List.getElem?_set_self'] at h2
    cases hw : L[i]? with
    | none => rw [hw] at h2; cases h2
    | some z =>
      rw [hw] at h2
      have h3 : v = q.2 := Option.some.inj (Option.some.inj h2)
      refine List.mem_cons.mpr (Or.inl ?_)
      obtain ⟨q1, q2⟩ := q
      cases h3
      cases h1
      rfl
  · rw [List.getElem?_set_ne hj] at h2
    refine List.mem_cons.mpr (Or.inr (List.mem_filter.mpr ⟨(zL_mem _ _ _).mpr ⟨j, by omega, h2⟩, ?_⟩))
    have n1 : ¬ q.1 = i := fun e => hj (e ▸ h1)
    have n2 : ¬ (q.1 + 1 = i ∧ q.2.category = 2) := by
      rintro ⟨e1, e2⟩
      subst e1
      rw [h1] at hp
      simp only [zprev, h2, beq_iff_eq] at hp
      omega
    simp only [Bool.and_eq_true, Bool.not_eq_true', beq_eq_false_iff_ne, ne_eq, n1, not_false_eq_true, Bool.and_eq_false_imp, beq_iff_eq, true_and]
    intro e1 e2
    exact n2 ⟨e1, e2⟩
theorem zset2 {ls : Array Slot} {nL : Nat} {L : List (Option Value)} {i : Nat} {v : Value} (hp : zprev L i = true)
    (h : lv_has ls nL ((i, v) :: (zL 0 L).filter (fun q => !(q.1 == i) && (!(q.1 == i + 1) && !(q.1 + 1 == i && q.2.category == 2))))) : lv_has ls nL (zL 0 ((L.set i (some v)).set (i + 1) none)) := by
  refine ⟨h.1, h.2.1, fun q hq => h.2.2 q ?_⟩
  obtain ⟨j, h1, h2⟩ := (zL_mem _ _ _).mp hq
  have h1 : q.1 = j := by omega
  by_cases hj2 : i + 1 = j
  · subst hj2
    rw [List.getElem?_set_self'] at h2
    cases hw : (L.set i (some v))[i + 1]? with
    | none => rw [hw] at h2; cases h2
    | some z => rw [hw] at h2; cases h2
  · rw [List.getElem?_set_ne hj2] at h2
    by_cases hj : i = j
    · subst hj
      rw [List.getElem?_set_self'] at h2
      cases hw : L[i]? with
      | none => rw [hw] at h2; cases h2
      | some z =>
        rw [hw] at h2
        have h3 : v = q.2 := Option.some.inj (Option.some.inj h2)
        refine List.mem_cons.mpr (Or.inl ?_)
        obtain ⟨q1, q2⟩ := q
        cases h3
        cases h1
        rfl
    · rw [List.getElem?_set_ne hj] at h2
      refine List.mem_cons.mpr (Or.inr (List.mem_filter.mpr ⟨(zL_mem _ _ _).mpr ⟨j, by omega, h2⟩, ?_⟩))
      have n1 : ¬ q.1 = i := fun e => hj (e ▸ h1)
      have n3 : ¬ q.1 = i + 1 := fun e => hj2 (e ▸ h1)
      have n2 : ¬ (q.1 + 1 = i ∧ q.2.category = 2) := by
        rintro ⟨e1, e2⟩
        subst e1
        rw [h1] at hp
        simp only [zprev, h2, beq_iff_eq] at hp
        omega
      simp only [Bool.and_eq_true, Bool.not_eq_true', beq_eq_false_iff_ne, ne_eq, n1, n3, not_false_eq_true, Bool.and_eq_false_imp, beq_iff_eq, true_and]
      intro e1 e2
      exact n2 ⟨e1, e2⟩
theorem zcmp_vals (x y : Int64) : (x < y ∧ lg_cmp x y = -1) ∨ (x = y ∧ lg_cmp x y = 0) ∨ (y < x ∧ lg_cmp x y = 1) := by
  unfold lg_cmp
  by_cases h1 : x > y
  · exact Or.inr (Or.inr ⟨h1, if_pos h1⟩)
  · by_cases h2 : x = y
    · exact Or.inr (Or.inl ⟨h2, by rw [if_neg h1, if_pos h2]⟩)
    · refine Or.inl ⟨?_, by rw [if_neg h1, if_neg h2]⟩
      rw [Int64.lt_iff_toInt_lt]
      have h3 : ¬ x.toInt = y.toInt := fun e => h2 (Int64.toInt_inj.mp e)
      have h4 : ¬ y.toInt < x.toInt := fun q => h1 (Int64.lt_iff_toInt_lt.mpr q)
      omega
theorem zcmp_eq (x y : Int64) : ((lg_cmp x y) = 0) ↔ (x = y) := by
  rcases zcmp_vals x y with ⟨h, e⟩ | ⟨h, e⟩ | ⟨h, e⟩ <;> rw [e] <;> clear e <;> simp only [Int64.lt_iff_toInt_lt, Int64.le_iff_toInt_le, ← Int64.toInt_inj] at h ⊢ <;> constructor <;> intro q <;> first | omega | exact absurd q (by decide) | decide
theorem zcmp_ne (x y : Int64) : (¬ (lg_cmp x y) = 0) ↔ (¬ x = y) := by
  rcases zcmp_vals x y with ⟨h, e⟩ | ⟨h, e⟩ | ⟨h, e⟩ <;> rw [e] <;> clear e <;> simp only [Int64.lt_iff_toInt_lt, Int64.le_iff_toInt_le, ← Int64.toInt_inj] at h ⊢ <;> constructor <;> intro q <;> first | omega | exact absurd q (by decide) | decide
theorem zcmp_lt (x y : Int64) : ((lg_cmp x y) < 0) ↔ (x < y) := by
  rcases zcmp_vals x y with ⟨h, e⟩ | ⟨h, e⟩ | ⟨h, e⟩ <;> rw [e] <;> clear e <;> simp only [Int64.lt_iff_toInt_lt, Int64.le_iff_toInt_le, ← Int64.toInt_inj] at h ⊢ <;> constructor <;> intro q <;> first | omega | exact absurd q (by decide) | decide
theorem zcmp_ge (x y : Int64) : (0 ≤ (lg_cmp x y)) ↔ (y ≤ x) := by
  rcases zcmp_vals x y with ⟨h, e⟩ | ⟨h, e⟩ | ⟨h, e⟩ <;> rw [e] <;> clear e <;> simp only [Int64.lt_iff_toInt_lt, Int64.le_iff_toInt_le, ← Int64.toInt_inj] at h ⊢ <;> constructor <;> intro q <;> first | omega | exact absurd q (by decide) | decide
theorem zcmp_gt (x y : Int64) : (0 < (lg_cmp x y)) ↔ (y < x) := by
  rcases zcmp_vals x y with ⟨h, e⟩ | ⟨h, e⟩ | ⟨h, e⟩ <;> rw [e] <;> clear e <;> simp only [Int64.lt_iff_toInt_lt, Int64.le_iff_toInt_le, ← Int64.toInt_inj] at h ⊢ <;> constructor <;> intro q <;> first | omega | exact absurd q (by decide) | decide
theorem zcmp_le (x y : Int64) : ((lg_cmp x y) ≤ 0) ↔ (x ≤ y) := by
  rcases zcmp_vals x y with ⟨h, e⟩ | ⟨h, e⟩ | ⟨h, e⟩ <;> rw [e] <;> clear e <;> simp only [Int64.lt_iff_toInt_lt, Int64.le_iff_toInt_le, ← Int64.toInt_inj] at h ⊢ <;> constructor <;> intro q <;> first | omega | exact absurd q (by decide) | decide
abbrev AV (l : Launch) (G : zG) (S : zS) (wc : va_W) (post : Option Value → va_W → Prop) (pc : Nat) (L : List (Option Value)) (st : List Value) (ws : va_W) : Prop := AW l G S wc post pc (zL 0 L) st ws
section ZR
variable {l : Launch} {G : zG} {S : zS} {wc : va_W} {post : Option Value → va_W → Prop} {pc : Nat} {L : List (Option Value)} {st rest : List Value} {ws : va_W}

theorem a_iconst {n : Int} {v : Int32} (hd : decode (zcc S) pc = .ok (.iconst n, 1)) (hv : Int32.ofInt n = v) (kk : AV l G S wc post (pc + 1) L (.int v :: st) ws) : AV l G S wc post (pc) L (st) ws := by
  intro p e s m args below meth c C H locs ls hP hD hS hl
  exact lv_iconst C.1 C.2.1 hd hv (kk p e s m args below meth c C H locs ls hP hD hS hl)
theorem a_bipush {n : Int} {v : Int32} (hd : decode (zcc S) pc = .ok (.bipush n, 2)) (hv : (Int8.ofInt n).toInt32 = v) (kk : AV l G S wc post (pc + 2) L (.int v :: st) ws) : AV l G S wc post (pc) L (st) ws := by
  intro p e s m args below meth c C H locs ls hP hD hS hl
  exact lv_bipush C.1 C.2.1 hd hv (kk p e s m args below meth c C H locs ls hP hD hS hl)
theorem a_sipush {n : Int} {v : Int32} (hd : decode (zcc S) pc = .ok (.sipush n, 3)) (hv : (Int16.ofInt n).toInt32 = v) (kk : AV l G S wc post (pc + 3) L (.int v :: st) ws) : AV l G S wc post (pc) L (st) ws := by
  intro p e s m args below meth c C H locs ls hP hD hS hl
  exact lv_sipush C.1 C.2.1 hd hv (kk p e s m args below meth c C H locs ls hP hD hS hl)
theorem a_lconst {n : Fin 2} {v : Int64} (hd : decode (zcc S) pc = .ok (.lconst n, 1)) (hv : Int64.ofNat (n : Nat) = v) (kk : AV l G S wc post (pc + 1) L (.long v :: st) ws) : AV l G S wc post (pc) L (st) ws := by
  intro p e s m args below meth c C H locs ls hP hD hS hl
  exact lv_lconst C.1 C.2.1 hd hv (kk p e s m args below meth c C H locs ls hP hD hS hl)
theorem a_ldc {index : Nat} {v : Int32} (hd : decode (zcc S) pc = .ok (.ldc index, 2)) (hk : Cond.constant (zown S) index v ∈ zT) (kk : AV l G S wc post (pc + 2) L (.int v :: st) ws) : AV l G S wc post (pc) L (st) ws := by
  intro p e s m args below meth c C H locs ls hP hD hS hl
  exact lv_ldc C.1 C.2.1 C.2.2.2.1 (C.2.2.2.2.1 _ hk) hd (kk p e s m args below meth c C H locs ls hP hD hS hl)
theorem a_ldc2 {index : Nat} {v : Int64} (hd : decode (zcc S) pc = .ok (.ldc2_w index, 3)) (hk : Cond.constantLong (zown S) index v ∈ zT) (kk : AV l G S wc post (pc + 3) L (.long v :: st) ws) : AV l G S wc post (pc) L (st) ws := by
  intro p e s m args below meth c C H locs ls hP hD hS hl
  exact lv_ldc2 C.1 C.2.1 C.2.2.2.1 (C.2.2.2.2.1 _ hk) hd (kk p e s m args below meth c C H locs ls hP hD hS hl)
theorem a_iadd {x y : Int32} (hd : decode (zcc S) pc = .ok (.iadd, 1)) (kk : AV l G S wc post (pc + 1) L (.int (x + y) :: st) ws) : AV l G S wc post (pc) L (.int y :: .int x :: st) ws := by
  intro p e s m args below meth c C H locs ls hP hD hS hl
  exact lv_iadd C.1 C.2.1 hd (kk p e s m args below meth c C H locs ls hP hD hS hl)
theorem a_isub {x y : Int32} (hd : decode (zcc S) pc = .ok (.isub, 1)) (kk : AV l G S wc post (pc + 1) L (.int (x - y) :: st) ws) : AV l G S wc post (pc) L (.int y :: .int x :: st) ws := by
  intro p e s m args below meth c C H locs ls hP hD hS hl
  exact lv_isub C.1 C.2.1 hd (kk p e s m args below meth c C H locs ls hP hD hS hl)
theorem a_imul {x y : Int32} (hd : decode (zcc S) pc = .ok (.imul, 1)) (kk : AV l G S wc post (pc + 1) L (.int (x * y) :: st) ws) : AV l G S wc post (pc) L (.int y :: .int x :: st) ws := by
  intro p e s m args below meth c C H locs ls hP hD hS hl
  exact lv_imul C.1 C.2.1 hd (kk p e s m args below meth c C H locs ls hP hD hS hl)
theorem a_iand {x y : Int32} (hd : decode (zcc S) pc = .ok (.iand, 1)) (kk : AV l G S wc post (pc + 1) L (.int (x &&& y) :: st) ws) : AV l G S wc post (pc) L (.int y :: .int x :: st) ws := by
  intro p e s m args below meth c C H locs ls hP hD hS hl
  exact lv_iand C.1 C.2.1 hd (kk p e s m args below meth c C H locs ls hP hD hS hl)
theorem a_ior {x y : Int32} (hd : decode (zcc S) pc = .ok (.ior, 1)) (kk : AV l G S wc post (pc + 1) L (.int (x ||| y) :: st) ws) : AV l G S wc post (pc) L (.int y :: .int x :: st) ws := by
  intro p e s m args below meth c C H locs ls hP hD hS hl
  exact lv_ior C.1 C.2.1 hd (kk p e s m args below meth c C H locs ls hP hD hS hl)
theorem a_ishl {x y : Int32} (hd : decode (zcc S) pc = .ok (.ishl, 1)) (kk : AV l G S wc post (pc + 1) L (.int (x <<< (y &&& 31)) :: st) ws) : AV l G S wc post (pc) L (.int y :: .int x :: st) ws := by
  intro p e s m args below meth c C H locs ls hP hD hS hl
  exact lv_ishl C.1 C.2.1 hd (kk p e s m args below meth c C H locs ls hP hD hS hl)
theorem a_ishr {x y : Int32} (hd : decode (zcc S) pc = .ok (.ishr, 1)) (kk : AV l G S wc post (pc + 1) L (.int (x >>> (y &&& 31)) :: st) ws) : AV l G S wc post (pc) L (.int y :: .int x :: st) ws := by
  intro p e s m args below meth c C H locs ls hP hD hS hl
  exact lv_ishr C.1 C.2.1 hd (kk p e s m args below meth c C H locs ls hP hD hS hl)
theorem a_idiv {x y : Int32} (hd : decode (zcc S) pc = .ok (.idiv, 1)) (hne : ¬ y = 0) (kk : AV l G S wc post (pc + 1) L (.int (x / y) :: st) ws) : AV l G S wc post (pc) L (.int y :: .int x :: st) ws := by
  intro p e s m args below meth c C H locs ls hP hD hS hl
  exact lv_idiv C.1 C.2.1 hd hne (kk p e s m args below meth c C H locs ls hP hD hS hl)
theorem a_irem {x y : Int32} (hd : decode (zcc S) pc = .ok (.irem, 1)) (hne : ¬ y = 0) (kk : AV l G S wc post (pc + 1) L (.int (x - x / y * y) :: st) ws) : AV l G S wc post (pc) L (.int y :: .int x :: st) ws := by
  intro p e s m args below meth c C H locs ls hP hD hS hl
  exact lv_irem C.1 C.2.1 hd hne (kk p e s m args below meth c C H locs ls hP hD hS hl)
theorem a_ladd {x y : Int64} (hd : decode (zcc S) pc = .ok (.ladd, 1)) (kk : AV l G S wc post (pc + 1) L (.long (x + y) :: st) ws) : AV l G S wc post (pc) L (.long y :: .long x :: st) ws := by
  intro p e s m args below meth c C H locs ls hP hD hS hl
  exact lv_ladd C.1 C.2.1 hd (kk p e s m args below meth c C H locs ls hP hD hS hl)
theorem a_lsub {x y : Int64} (hd : decode (zcc S) pc = .ok (.lsub, 1)) (kk : AV l G S wc post (pc + 1) L (.long (x - y) :: st) ws) : AV l G S wc post (pc) L (.long y :: .long x :: st) ws := by
  intro p e s m args below meth c C H locs ls hP hD hS hl
  exact lv_lsub C.1 C.2.1 hd (kk p e s m args below meth c C H locs ls hP hD hS hl)
theorem a_lmul {x y : Int64} (hd : decode (zcc S) pc = .ok (.lmul, 1)) (kk : AV l G S wc post (pc + 1) L (.long (x * y) :: st) ws) : AV l G S wc post (pc) L (.long y :: .long x :: st) ws := by
  intro p e s m args below meth c C H locs ls hP hD hS hl
  exact lv_lmul C.1 C.2.1 hd (kk p e s m args below meth c C H locs ls hP hD hS hl)
theorem a_ldiv {x y : Int64} (hd : decode (zcc S) pc = .ok (.ldiv, 1)) (hne : ¬ y = 0) (kk : AV l G S wc post (pc + 1) L (.long (x / y) :: st) ws) : AV l G S wc post (pc) L (.long y :: .long x :: st) ws := by
  intro p e s m args below meth c C H locs ls hP hD hS hl
  exact lv_ldiv C.1 C.2.1 hd hne (kk p e s m args below meth c C H locs ls hP hD hS hl)
theorem a_lrem {x y : Int64} (hd : decode (zcc S) pc = .ok (.lrem, 1)) (hne : ¬ y = 0) (kk : AV l G S wc post (pc + 1) L (.long (x - x / y * y) :: st) ws) : AV l G S wc post (pc) L (.long y :: .long x :: st) ws := by
  intro p e s m args below meth c C H locs ls hP hD hS hl
  exact lv_lrem C.1 C.2.1 hd hne (kk p e s m args below meth c C H locs ls hP hD hS hl)
theorem a_lcmp {x y : Int64} (hd : decode (zcc S) pc = .ok (.lcmp, 1)) (kk : AV l G S wc post (pc + 1) L (.int (lg_cmp x y) :: st) ws) : AV l G S wc post (pc) L (.long y :: .long x :: st) ws := by
  intro p e s m args below meth c C H locs ls hP hD hS hl
  exact W.lcmp C.1 C.2.1 hd (kk p e s m args below meth c C H locs ls hP hD hS hl)
theorem a_i2l {x : Int32} (hd : decode (zcc S) pc = .ok (.i2l, 1)) (kk : AV l G S wc post (pc + 1) L (.long x.toInt64 :: st) ws) : AV l G S wc post (pc) L (.int x :: st) ws := by
  intro p e s m args below meth c C H locs ls hP hD hS hl
  exact lv_i2l C.1 C.2.1 hd rfl (kk p e s m args below meth c C H locs ls hP hD hS hl)
theorem a_l2i {x : Int64} (hd : decode (zcc S) pc = .ok (.l2i, 1)) (kk : AV l G S wc post (pc + 1) L (.int x.toInt32 :: st) ws) : AV l G S wc post (pc) L (.long x :: st) ws := by
  intro p e s m args below meth c C H locs ls hP hD hS hl
  exact lv_l2i C.1 C.2.1 hd rfl (kk p e s m args below meth c C H locs ls hP hD hS hl)
theorem a_i2s {x : Int32} (hd : decode (zcc S) pc = .ok (.i2s, 1)) (kk : AV l G S wc post (pc + 1) L (.int x.toInt16.toInt32 :: st) ws) : AV l G S wc post (pc) L (.int x :: st) ws := by
  intro p e s m args below meth c C H locs ls hP hD hS hl
  exact lv_i2s C.1 C.2.1 hd rfl (kk p e s m args below meth c C H locs ls hP hD hS hl)
theorem a_dup {v : Value} (hd : decode (zcc S) pc = .ok (.dup, 1)) (hv : v.category = 1) (kk : AV l G S wc post (pc + 1) L (v :: v :: st) ws) : AV l G S wc post (pc) L (v :: st) ws := by
  intro p e s m args below meth c C H locs ls hP hD hS hl
  exact lv_dup C.1 C.2.1 hd hv (kk p e s m args below meth c C H locs ls hP hD hS hl)
theorem a_dup2 {v u : Value} (hd : decode (zcc S) pc = .ok (.dup2, 1)) (hv : v.category = 1) (hu : u.category = 1) (kk : AV l G S wc post (pc + 1) L (v :: u :: v :: u :: st) ws) : AV l G S wc post (pc) L (v :: u :: st) ws := by
  intro p e s m args below meth c C H locs ls hP hD hS hl
  exact lv_dup2_11 C.1 C.2.1 hd hv hu (kk p e s m args below meth c C H locs ls hP hD hS hl)
theorem a_goto {off : Int} {tgt : Nat} (hd : decode (zcc S) pc = .ok (.goto off, 3)) (ht : (pc : Int) + off = (tgt : Int)) (kk : AV l G S wc post (tgt) L (st) ws) : AV l G S wc post (pc) L (st) ws := by
  intro p e s m args below meth c C H locs ls hP hD hS hl
  exact lv_goto C.1 C.2.1 hd ht (kk p e s m args below meth c C H locs ls hP hD hS hl)
theorem a_if_eq {x : Int32} {off : Int} {tgt : Nat} (hd : decode (zcc S) pc = .ok (.ifCond .eq off, 3)) (ht : (pc : Int) + off = (tgt : Int)) (kt : x = 0 → AV l G S wc post (tgt) L (st) ws) (kf : ¬ x = 0 → AV l G S wc post (pc + 3) L (st) ws) : AV l G S wc post (pc) L (.int x :: st) ws := by
  intro p e s m args below meth c C H locs ls hP hD hS hl
  exact lv_if_eq C.1 C.2.1 hd ht (fun h => kt h p e s m args below meth c C H locs ls hP hD hS hl) (fun h => kf h p e s m args below meth c C H locs ls hP hD hS hl)
theorem a_icmp_eq {x y : Int32} {off : Int} {tgt : Nat} (hd : decode (zcc S) pc = .ok (.if_icmp .eq off, 3)) (ht : (pc : Int) + off = (tgt : Int)) (kt : x = y → AV l G S wc post (tgt) L (st) ws) (kf : ¬ x = y → AV l G S wc post (pc + 3) L (st) ws) : AV l G S wc post (pc) L (.int y :: .int x :: st) ws := by
  intro p e s m args below meth c C H locs ls hP hD hS hl
  exact lv_icmp_eq C.1 C.2.1 hd ht (fun h => kt h p e s m args below meth c C H locs ls hP hD hS hl) (fun h => kf h p e s m args below meth c C H locs ls hP hD hS hl)
theorem a_if_ne {x : Int32} {off : Int} {tgt : Nat} (hd : decode (zcc S) pc = .ok (.ifCond .ne off, 3)) (ht : (pc : Int) + off = (tgt : Int)) (kt : ¬ x = 0 → AV l G S wc post (tgt) L (st) ws) (kf : x = 0 → AV l G S wc post (pc + 3) L (st) ws) : AV l G S wc post (pc) L (.int x :: st) ws := by
  intro p e s m args below meth c C H locs ls hP hD hS hl
  exact lv_if_ne C.1 C.2.1 hd ht (fun h => kt h p e s m args below meth c C H locs ls hP hD hS hl) (fun h => kf h p e s m args below meth c C H locs ls hP hD hS hl)
theorem a_icmp_ne {x y : Int32} {off : Int} {tgt : Nat} (hd : decode (zcc S) pc = .ok (.if_icmp .ne off, 3)) (ht : (pc : Int) + off = (tgt : Int)) (kt : ¬ x = y → AV l G S wc post (tgt) L (st) ws) (kf : x = y → AV l G S wc post (pc + 3) L (st) ws) : AV l G S wc post (pc) L (.int y :: .int x :: st) ws := by
  intro p e s m args below meth c C H locs ls hP hD hS hl
  exact lv_icmp_ne C.1 C.2.1 hd ht (fun h => kt h p e s m args below meth c C H locs ls hP hD hS hl) (fun h => kf h p e s m args below meth c C H locs ls hP hD hS hl)
theorem a_if_lt {x : Int32} {off : Int} {tgt : Nat} (hd : decode (zcc S) pc = .ok (.ifCond .lt off, 3)) (ht : (pc : Int) + off = (tgt : Int)) (kt : x < 0 → AV l G S wc post (tgt) L (st) ws) (kf : ¬ x < 0 → AV l G S wc post (pc + 3) L (st) ws) : AV l G S wc post (pc) L (.int x :: st) ws := by
  intro p e s m args below meth c C H locs ls hP hD hS hl
  exact lv_if_lt C.1 C.2.1 hd ht (fun h => kt h p e s m args below meth c C H locs ls hP hD hS hl) (fun h => kf h p e s m args below meth c C H locs ls hP hD hS hl)
theorem a_icmp_lt {x y : Int32} {off : Int} {tgt : Nat} (hd : decode (zcc S) pc = .ok (.if_icmp .lt off, 3)) (ht : (pc : Int) + off = (tgt : Int)) (kt : x < y → AV l G S wc post (tgt) L (st) ws) (kf : ¬ x < y → AV l G S wc post (pc + 3) L (st) ws) : AV l G S wc post (pc) L (.int y :: .int x :: st) ws := by
  intro p e s m args below meth c C H locs ls hP hD hS hl
  exact lv_icmp_lt C.1 C.2.1 hd ht (fun h => kt h p e s m args below meth c C H locs ls hP hD hS hl) (fun h => kf h p e s m args below meth c C H locs ls hP hD hS hl)
theorem a_if_ge {x : Int32} {off : Int} {tgt : Nat} (hd : decode (zcc S) pc = .ok (.ifCond .ge off, 3)) (ht : (pc : Int) + off = (tgt : Int)) (kt : 0 ≤ x → AV l G S wc post (tgt) L (st) ws) (kf : ¬ 0 ≤ x → AV l G S wc post (pc + 3) L (st) ws) : AV l G S wc post (pc) L (.int x :: st) ws := by
  intro p e s m args below meth c C H locs ls hP hD hS hl
  exact lv_if_ge C.1 C.2.1 hd ht (fun h => kt h p e s m args below meth c C H locs ls hP hD hS hl) (fun h => kf h p e s m args below meth c C H locs ls hP hD hS hl)
theorem a_icmp_ge {x y : Int32} {off : Int} {tgt : Nat} (hd : decode (zcc S) pc = .ok (.if_icmp .ge off, 3)) (ht : (pc : Int) + off = (tgt : Int)) (kt : y ≤ x → AV l G S wc post (tgt) L (st) ws) (kf : ¬ y ≤ x → AV l G S wc post (pc + 3) L (st) ws) : AV l G S wc post (pc) L (.int y :: .int x :: st) ws := by
  intro p e s m args below meth c C H locs ls hP hD hS hl
  exact lv_icmp_ge C.1 C.2.1 hd ht (fun h => kt h p e s m args below meth c C H locs ls hP hD hS hl) (fun h => kf h p e s m args below meth c C H locs ls hP hD hS hl)
theorem a_if_gt {x : Int32} {off : Int} {tgt : Nat} (hd : decode (zcc S) pc = .ok (.ifCond .gt off, 3)) (ht : (pc : Int) + off = (tgt : Int)) (kt : 0 < x → AV l G S wc post (tgt) L (st) ws) (kf : ¬ 0 < x → AV l G S wc post (pc + 3) L (st) ws) : AV l G S wc post (pc) L (.int x :: st) ws := by
  intro p e s m args below meth c C H locs ls hP hD hS hl
  exact lv_if_gt C.1 C.2.1 hd ht (fun h => kt h p e s m args below meth c C H locs ls hP hD hS hl) (fun h => kf h p e s m args below meth c C H locs ls hP hD hS hl)
theorem a_icmp_gt {x y : Int32} {off : Int} {tgt : Nat} (hd : decode (zcc S) pc = .ok (.if_icmp .gt off, 3)) (ht : (pc : Int) + off = (tgt : Int)) (kt : y < x → AV l G S wc post (tgt) L (st) ws) (kf : ¬ y < x → AV l G S wc post (pc + 3) L (st) ws) : AV l G S wc post (pc) L (.int y :: .int x :: st) ws := by
  intro p e s m args below meth c C H locs ls hP hD hS hl
  exact lv_icmp_gt C.1 C.2.1 hd ht (fun h => kt h p e s m args below meth c C H locs ls hP hD hS hl) (fun h => kf h p e s m args below meth c C H locs ls hP hD hS hl)
theorem a_if_le {x : Int32} {off : Int} {tgt : Nat} (hd : decode (zcc S) pc = .ok (.ifCond .le off, 3)) (ht : (pc : Int) + off = (tgt : Int)) (kt : x ≤ 0 → AV l G S wc post (tgt) L (st) ws) (kf : ¬ x ≤ 0 → AV l G S wc post (pc + 3) L (st) ws) : AV l G S wc post (pc) L (.int x :: st) ws := by
  intro p e s m args below meth c C H locs ls hP hD hS hl
  exact lv_if_le C.1 C.2.1 hd ht (fun h => kt h p e s m args below meth c C H locs ls hP hD hS hl) (fun h => kf h p e s m args below meth c C H locs ls hP hD hS hl)
theorem a_icmp_le {x y : Int32} {off : Int} {tgt : Nat} (hd : decode (zcc S) pc = .ok (.if_icmp .le off, 3)) (ht : (pc : Int) + off = (tgt : Int)) (kt : x ≤ y → AV l G S wc post (tgt) L (st) ws) (kf : ¬ x ≤ y → AV l G S wc post (pc + 3) L (st) ws) : AV l G S wc post (pc) L (.int y :: .int x :: st) ws := by
  intro p e s m args below meth c C H locs ls hP hD hS hl
  exact lv_icmp_le C.1 C.2.1 hd ht (fun h => kt h p e s m args below meth c C H locs ls hP hD hS hl) (fun h => kf h p e s m args below meth c C H locs ls hP hD hS hl)
theorem a_tableOut {dflt lo hi : Int} {offs : Array Int} {len : Nat} {x : Int32} {tgt : Nat} (hd : decode (zcc S) pc = .ok (.tableswitch dflt lo hi offs, len)) (h : x.toInt < lo ∨ hi < x.toInt) (ht : (pc : Int) + dflt = (tgt : Int)) (kk : AV l G S wc post (tgt) L (st) ws) : AV l G S wc post (pc) L (.int x :: st) ws := by
  intro p e s m args below meth c C H locs ls hP hD hS hl
  exact lv_tableOut C.1 C.2.1 hd h ht (kk p e s m args below meth c C H locs ls hP hD hS hl)
theorem a_tableIn {dflt lo hi : Int} {offs : Array Int} {len : Nat} {x : Int32} {off : Int} {tgt : Nat} (hd : decode (zcc S) pc = .ok (.tableswitch dflt lo hi offs, len)) (h1 : ¬ x.toInt < lo) (h2 : ¬ hi < x.toInt) (ho : offs[(x.toInt - lo).toNat]? = some off) (ht : (pc : Int) + off = (tgt : Int)) (kk : AV l G S wc post (tgt) L (st) ws) : AV l G S wc post (pc) L (.int x :: st) ws := by
  intro p e s m args below meth c C H locs ls hP hD hS hl
  exact lv_tableIn C.1 C.2.1 hd h1 h2 ho ht (kk p e s m args below meth c C H locs ls hP hD hS hl)
theorem a_lookup {dflt : Int} {ps : Array (Int × Int)} {len : Nat} {x : Int32} {off : Int} {tgt : Nat} (hd : decode (zcc S) pc = .ok (.lookupswitch dflt ps, len)) (hp : (ps.toList.zip (ps.toList.drop 1)).all (fun (a, next) => a.1 < next.1) = true) (ho : Op.lookupswitch.offset ps.toList dflt x.toInt = off) (ht : (pc : Int) + off = (tgt : Int)) (kk : AV l G S wc post (tgt) L (st) ws) : AV l G S wc post (pc) L (.int x :: st) ws := by
  intro p e s m args below meth c C H locs ls hP hD hS hl
  exact lv_lookup C.1 C.2.1 hd hp ho ht (kk p e s m args below meth c C H locs ls hP hD hS hl)
theorem g_iload_n {k : Fin 4} {i : Nat} {x : Int32} (hi : L[i]? = some (some (.int x))) (hd : decode (zcc S) pc = .ok (.iload_n k, 1)) (hk : (k : Nat) = i) (kk : AV l G S wc post (pc + 1) L (.int x :: st) ws) : AV l G S wc post (pc) L (st) ws := by
  intro p e s m args below meth c C H locs ls hP hD hS hl
  exact lv_iload_n C.1 C.2.1 hd hk (zlk hl hi) (kk p e s m args below meth c C H locs ls hP hD hS hl)
theorem g_iload {i : Nat} {x : Int32} (hi : L[i]? = some (some (.int x))) (hd : decode (zcc S) pc = .ok (.iload i, 2)) (kk : AV l G S wc post (pc + 2) L (.int x :: st) ws) : AV l G S wc post (pc) L (st) ws := by
  intro p e s m args below meth c C H locs ls hP hD hS hl
  exact lv_iload C.1 C.2.1 hd (zlk hl hi) (kk p e s m args below meth c C H locs ls hP hD hS hl)
theorem g_istore_n {k : Fin 4} {i : Nat} {x : Int32} (hp : zprev L i = true) (hn : i < znL S) (hd : decode (zcc S) pc = .ok (.istore_n k, 1)) (hk : (k : Nat) = i) (kk : AV l G S wc post (pc + 1) (L.set i (some (.int x))) (st) ws) : AV l G S wc post (pc) L (.int x :: st) ws := by
  intro p e s m args below meth c C H locs ls hP hD hS hl
  exact lv_istore_n C.1 C.2.1 hd hk hl hn rfl (fun ls hl => kk p e s m args below meth c C H locs ls hP hD hS (zset1 hp hl))
theorem g_istore {i : Nat} {x : Int32} (hp : zprev L i = true) (hn : i < znL S) (hd : decode (zcc S) pc = .ok (.istore i, 2)) (kk : AV l G S wc post (pc + 2) (L.set i (some (.int x))) (st) ws) : AV l G S wc post (pc) L (.int x :: st) ws := by
  intro p e s m args below meth c C H locs ls hP hD hS hl
  exact lv_istore C.1 C.2.1 hd hl hn rfl (fun ls hl => kk p e s m args below meth c C H locs ls hP hD hS (zset1 hp hl))
theorem g_lload_n {k : Fin 4} {i : Nat} {x : Int64} (hi : L[i]? = some (some (.long x))) (hd : decode (zcc S) pc = .ok (.lload_n k, 1)) (hk : (k : Nat) = i) (kk : AV l G S wc post (pc + 1) L (.long x :: st) ws) : AV l G S wc post (pc) L (st) ws := by
  intro p e s m args below meth c C H locs ls hP hD hS hl
  exact lv_lload_n C.1 C.2.1 hd hk (zlk hl hi) (kk p e s m args below meth c C H locs ls hP hD hS hl)
theorem g_lload {i : Nat} {x : Int64} (hi : L[i]? = some (some (.long x))) (hd : decode (zcc S) pc = .ok (.lload i, 2)) (kk : AV l G S wc post (pc + 2) L (.long x :: st) ws) : AV l G S wc post (pc) L (st) ws := by
  intro p e s m args below meth c C H locs ls hP hD hS hl
  exact lv_lload C.1 C.2.1 hd (zlk hl hi) (kk p e s m args below meth c C H locs ls hP hD hS hl)
theorem g_lstore_n {k : Fin 4} {i : Nat} {x : Int64} (hp : zprev L i = true) (hn : i + 1 < znL S) (hd : decode (zcc S) pc = .ok (.lstore_n k, 1)) (hk : (k : Nat) = i) (kk : AV l G S wc post (pc + 1) ((L.set i (some (.long x))).set (i + 1) none) (st) ws) : AV l G S wc post (pc) L (.long x :: st) ws := by
  intro p e s m args below meth c C H locs ls hP hD hS hl
  exact lv_lstore_n C.1 C.2.1 hd hk hl hn rfl (fun ls hl => kk p e s m args below meth c C H locs ls hP hD hS (zset2 hp hl))
theorem g_lstore {i : Nat} {x : Int64} (hp : zprev L i = true) (hn : i + 1 < znL S) (hd : decode (zcc S) pc = .ok (.lstore i, 2)) (kk : AV l G S wc post (pc + 2) ((L.set i (some (.long x))).set (i + 1) none) (st) ws) : AV l G S wc post (pc) L (.long x :: st) ws := by
  intro p e s m args below meth c C H locs ls hP hD hS hl
  exact lv_lstore C.1 C.2.1 hd hl hn rfl (fun ls hl => kk p e s m args below meth c C H locs ls hP hD hS (zset2 hp hl))
theorem g_aload_n {k : Fin 4} {i : Nat} {x : Nat} (hi : L[i]? = some (some (.ref x))) (hd : decode (zcc S) pc = .ok (.aload_n k, 1)) (hk : (k : Nat) = i) (kk : AV l G S wc post (pc + 1) L (.ref x :: st) ws) : AV l G S wc post (pc) L (st) ws := by
  intro p e s m args below meth c C H locs ls hP hD hS hl
  exact lv_aload_n C.1 C.2.1 hd hk (zlk hl hi) (kk p e s m args below meth c C H locs ls hP hD hS hl)
theorem g_aload {i : Nat} {x : Nat} (hi : L[i]? = some (some (.ref x))) (hd : decode (zcc S) pc = .ok (.aload i, 2)) (kk : AV l G S wc post (pc + 2) L (.ref x :: st) ws) : AV l G S wc post (pc) L (st) ws := by
  intro p e s m args below meth c C H locs ls hP hD hS hl
  exact lv_aload C.1 C.2.1 hd (zlk hl hi) (kk p e s m args below meth c C H locs ls hP hD hS hl)
theorem g_astore_n {k : Fin 4} {i : Nat} {x : Nat} (hp : zprev L i = true) (hn : i < znL S) (hd : decode (zcc S) pc = .ok (.astore_n k, 1)) (hk : (k : Nat) = i) (kk : AV l G S wc post (pc + 1) (L.set i (some (.ref x))) (st) ws) : AV l G S wc post (pc) L (.ref x :: st) ws := by
  intro p e s m args below meth c C H locs ls hP hD hS hl
  exact lv_astore_n C.1 C.2.1 hd hk hl hn rfl (fun ls hl => kk p e s m args below meth c C H locs ls hP hD hS (zset1 hp hl))
theorem g_astore {i : Nat} {x : Nat} (hp : zprev L i = true) (hn : i < znL S) (hd : decode (zcc S) pc = .ok (.astore i, 2)) (kk : AV l G S wc post (pc + 2) (L.set i (some (.ref x))) (st) ws) : AV l G S wc post (pc) L (.ref x :: st) ws := by
  intro p e s m args below meth c C H locs ls hP hD hS hl
  exact lv_astore C.1 C.2.1 hd hl hn rfl (fun ls hl => kk p e s m args below meth c C H locs ls hP hD hS (zset1 hp hl))
theorem g_iinc {i : Nat} {n : Int} {x v : Int32} (hi : L[i]? = some (some (.int x))) (hp : zprev L i = true) (hn : i < znL S) (hd : decode (zcc S) pc = .ok (.iinc i n, 3)) (hv : x + Int32.ofInt n = v) (kk : AV l G S wc post (pc + 3) (L.set i (some (.int v))) (st) ws) : AV l G S wc post (pc) L (st) ws := by
  intro p e s m args below meth c C H locs ls hP hD hS hl
  obtain ⟨k, hk⟩ := List.getElem?_of_mem ((zL_mem L 0 (i, .int x)).mpr ⟨i, by simp, hi⟩)
  exact lv_iinc C.1 C.2.1 hd hl hk hv hn rfl (fun ls hl => kk p e s m args below meth c C H locs ls hP hD hS (zset1 hp hl))
theorem a_getf {index k j ci N : Nat} {ad : Nat → Nat} {CC : String} {TT : u_T} {fs : List Value} {v : Value} (hc : vwCl[ci]? = some (CC, TT, N)) (hin : ∀ w ∈ u_ws CC TT N, w ∈ zT) (hj : j < N) (hd : decode (zcc S) pc = .ok (.getfield index, 3)) (hlink : Cond.fieldLink (zown S) index (TT j).1 (TT j).2.1 (TT j).2.2.1 ∈ zT) (he : ws[k]? = some (ad k, .inr (ci, fs))) (hv : fs[j]? = some v) (kk : AV l G S wc post (pc + 3) L (v :: st) ws) : AV l G S wc post (pc) L (.ref (ad k) :: st) ws := by
  intro p e s m args below meth c C H locs ls hP hD hS hl
  exact va_get C.1 C.2.1 C.2.2.2.2.1 hin C.2.2.2.1 C.2.2.2.2.2.2.2.1 hP k he hc j hj (C.2.2.2.2.1 _ hlink) (fun _ h => h) hv hd (kk p e s m args below meth c C H locs ls hP hD hS hl)
theorem a_getfN {index k j ci N : Nat} {ad : Nat → Nat} {CC host : String} {TT : u_T} {fs : List Value} {v : Value} (hc : vwCl[ci]? = some (CC, TT, N)) (hin : ∀ w ∈ u_ws CC TT N, w ∈ zT) (hj : j < N) (hd : decode (zcc S) pc = .ok (.getfield index, 3)) (hlink : Cond.fieldLinkNest (zown S) index (TT j).1 (TT j).2.1 (TT j).2.2.1 host ∈ zNest) (he : ws[k]? = some (ad k, .inr (ci, fs))) (hv : fs[j]? = some v) (kk : AV l G S wc post (pc + 3) L (v :: st) ws) : AV l G S wc post (pc) L (.ref (ad k) :: st) ws := by
  intro p e s m args below meth c C H locs ls hP hD hS hl
  exact va_getN C.1 C.2.1 C.2.2.2.2.1 hin C.2.2.2.1 C.2.2.2.2.2.2.2.1 hP k he hc j hj (va_Nw.use rfl (C.2.2.2.2.2.2.2.2.1 _ hlink)) (fun _ h => h) hv hd (kk p e s m args below meth c C H locs ls hP hD hS hl)
theorem a_putf {index k j ci N : Nat} {ad : Nat → Nat} {CC : String} {TT : u_T} {ty0 : Nat → FieldType} {fs : List Value} {v : Value} {ty : FieldType} (hc : vwCl[ci]? = some (CC, TT, N)) (hin : ∀ w ∈ u_ws CC TT N, w ∈ zT) (hty : ∀ k, k < N → parseFieldDescriptor (TT k).2.2.1 = some (ty0 k)) (hnm : ∀ a, a < N → ∀ b, b < N → a ≠ b → (TT a).2.1 ≠ (TT b).2.1) (hj : j < N) (hd : decode (zcc S) pc = .ok (.putfield index, 3)) (hlink : Cond.fieldLink (zown S) index (TT j).1 (TT j).2.1 (TT j).2.2.1 ∈ zT) (hfin : (TT j).2.2.2 = false) (he : ws[k]? = some (ad k, .inr (ci, fs))) (hty2 : ty0 j = ty) (hnr : narrow ty v = v) (hfit : fits ty v = true) (hlen : j < fs.length) (kk : AV l G S wc post (pc + 3) L (st) (ws.set k (ad k, .inr (ci, fs.set j v)))) : AV l G S wc post (pc) L (v :: .ref (ad k) :: st) ws := by
  intro p e s m args below meth c C H locs ls hP hD hS hl
  exact va_put C.1 C.2.1 C.2.2.2.2.1 hin ty0 hty hnm C.2.2.2.1 C.2.2.2.2.2.2.2.1 hP hD hS k he hc j hj (C.2.2.2.2.1 _ hlink) (fun _ h => h) hfin (by rw [hty j hj, hty2]) hnr hfit hlen hd (fun H locs hP hD hS => kk p e s m args below meth c C H locs ls hP hD hS hl)
theorem a_putfN {index k j ci N : Nat} {ad : Nat → Nat} {CC host : String} {TT : u_T} {ty0 : Nat → FieldType} {fs : List Value} {v : Value} {ty : FieldType} (hc : vwCl[ci]? = some (CC, TT, N)) (hin : ∀ w ∈ u_ws CC TT N, w ∈ zT) (hty : ∀ k, k < N → parseFieldDescriptor (TT k).2.2.1 = some (ty0 k)) (hnm : ∀ a, a < N → ∀ b, b < N → a ≠ b → (TT a).2.1 ≠ (TT b).2.1) (hj : j < N) (hd : decode (zcc S) pc = .ok (.putfield index, 3)) (hlink : Cond.fieldLinkNest (zown S) index (TT j).1 (TT j).2.1 (TT j).2.2.1 host ∈ zNest) (hfin : (TT j).2.2.2 = false) (he : ws[k]? = some (ad k, .inr (ci, fs))) (hty2 : ty0 j = ty) (hnr : narrow ty v = v) (hfit : fits ty v = true) (hlen : j < fs.length) (kk : AV l G S wc post (pc + 3) L (st) (ws.set k (ad k, .inr (ci, fs.set j v)))) : AV l G S wc post (pc) L (v :: .ref (ad k) :: st) ws := by
  intro p e s m args below meth c C H locs ls hP hD hS hl
  exact va_putN C.1 C.2.1 C.2.2.2.2.1 hin ty0 hty hnm C.2.2.2.1 C.2.2.2.2.2.2.2.1 hP hD hS k he hc j hj (va_Nw.use rfl (C.2.2.2.2.2.2.2.2.1 _ hlink)) (fun _ h => h) hfin (by rw [hty j hj, hty2]) hnr hfit hlen hd (fun H locs hP hD hS => kk p e s m args below meth c C H locs ls hP hD hS hl)
theorem a_gets {index k : Nat} {q : String × String × Nat × (Nat → Int32)} (hd : decode (zcc S) pc = .ok (.getstatic index, 3)) (hq : zSt[k]? = some q) (hlink : Cond.fieldLink (zown S) index q.1 q.2.1 "[I" ∈ zT) (kk : AV l G S wc post (pc + 3) L (.ref (G.2.2 k) :: st) ws) : AV l G S wc post (pc) L (st) ws := by
  intro p e s m args below meth c C H locs ls hP hD hS hl
  obtain ⟨h1, h2, h3, h4⟩ := C.2.2.2.2.2.2.2.2.2 k q hq
  exact va_gets C.1 C.2.1 h1 hS C.2.2.2.1 (C.2.2.2.2.1 _ hlink) (fun _ h => h) hd (kk p e s m args below meth c C H locs ls hP hD hS hl)
theorem a_stald {k : Nat} {q : String × String × Nat × (Nat → Int32)} {i : Int32} (hq : zSt[k]? = some q) (hd : decode (zcc S) pc = .ok (.iaload, 1)) (hi : vp_in i q.2.2.1) (kk : AV l G S wc post (pc + 1) L (.int (q.2.2.2 i.toNatClampNeg) :: st) ws) : AV l G S wc post (pc) L (.int i :: .ref (G.2.2 k) :: st) ws := by
  intro p e s m args below meth c C H locs ls hP hD hS hl
  obtain ⟨h1, h2, h3, h4⟩ := C.2.2.2.2.2.2.2.2.2 k q hq
  exact va_ti C.1 C.2.1 h2 hS hi rfl hd (kk p e s m args below meth c C H locs ls hP hD hS hl)
theorem a_iald {k n : Nat} {ad : Nat → Nat} {f : Nat → Int32} {i : Int32} (hd : decode (zcc S) pc = .ok (.iaload, 1)) (he : ws[k]? = some (ad k, .inl (zcI G, n, .inl f))) (hi : vp_in i n) (kk : AV l G S wc post (pc + 1) L (.int (f i.toNatClampNeg) :: st) ws) : AV l G S wc post (pc) L (.int i :: .ref (ad k) :: st) ws := by
  intro p e s m args below meth c C H locs ls hP hD hS hl
  exact va_iald C.1 C.2.1 C.2.2.2.2.2.2.2.1 hP k 0 he rfl hi hd (kk p e s m args below meth c C H locs ls hP hD hS hl)
theorem a_lald {k n : Nat} {ad : Nat → Nat} {f : Nat → Int64} {i : Int32} (hd : decode (zcc S) pc = .ok (.laload, 1)) (he : ws[k]? = some (ad k, .inl (zcJ G, n, .inr (.inl f)))) (hi : vp_in i n) (kk : AV l G S wc post (pc + 1) L (.long (f i.toNatClampNeg) :: st) ws) : AV l G S wc post (pc) L (.int i :: .ref (ad k) :: st) ws := by
  intro p e s m args below meth c C H locs ls hP hD hS hl
  exact va_lald C.1 C.2.1 C.2.2.2.2.2.2.2.1 hP k 1 he rfl hi hd (kk p e s m args below meth c C H locs ls hP hD hS hl)
theorem a_sald {k n : Nat} {ad : Nat → Nat} {f : Nat → Int32} {i : Int32} (hd : decode (zcc S) pc = .ok (.saload, 1)) (he : ws[k]? = some (ad k, .inl (zcS G, n, .inl f))) (hi : vp_in i n) (kk : AV l G S wc post (pc + 1) L (.int (f i.toNatClampNeg) :: st) ws) : AV l G S wc post (pc) L (.int i :: .ref (ad k) :: st) ws := by
  intro p e s m args below meth c C H locs ls hP hD hS hl
  exact va_sald C.1 C.2.1 C.2.2.2.2.2.2.2.1 hP k 2 he rfl hi hd (kk p e s m args below meth c C H locs ls hP hD hS hl)
theorem a_aald {k n : Nat} {ad : Nat → Nat} {f : Nat → Option Nat} {i : Int32} (hd : decode (zcc S) pc = .ok (.aaload, 1)) (he : ws[k]? = some (ad k, .inl (zcO G, n, .inr (.inr (.inr (.inr f)))))) (hi : vp_in i n) (kk : AV l G S wc post (pc + 1) L (va_rf (f i.toNatClampNeg) :: st) ws) : AV l G S wc post (pc) L (.int i :: .ref (ad k) :: st) ws := by
  intro p e s m args below meth c C H locs ls hP hD hS hl
  exact va_aldq C.1 C.2.1 C.2.2.2.2.2.2.2.1 hP k 3 he rfl hi hd (kk p e s m args below meth c C H locs ls hP hD hS hl)
theorem a_iast {k n : Nat} {ad : Nat → Nat} {f : Nat → Int32} {i x : Int32} (hd : decode (zcc S) pc = .ok (.iastore, 1)) (he : ws[k]? = some (ad k, .inl (zcI G, n, .inl f))) (hi : vp_in i n) (kk : AV l G S wc post (pc + 1) L (st) (ws.set k (ad k, .inl (zcI G, n, .inl (upd f i.toNatClampNeg x))))) : AV l G S wc post (pc) L (.int x :: .int i :: .ref (ad k) :: st) ws := by
  intro p e s m args below meth c C H locs ls hP hD hS hl
  exact va_iast C.1 C.2.1 C.2.2.2.2.2.2.2.1 hP hD hS k 0 he rfl hi hd (fun H locs hP hD hS => kk p e s m args below meth c C H locs ls hP hD hS hl)
theorem a_last {k n : Nat} {ad : Nat → Nat} {f : Nat → Int64} {i : Int32} {x : Int64} (hd : decode (zcc S) pc = .ok (.lastore, 1)) (he : ws[k]? = some (ad k, .inl (zcJ G, n, .inr (.inl f)))) (hi : vp_in i n) (kk : AV l G S wc post (pc + 1) L (st) (ws.set k (ad k, .inl (zcJ G, n, .inr (.inl (vp_updL f i.toNatClampNeg x)))))) : AV l G S wc post (pc) L (.long x :: .int i :: .ref (ad k) :: st) ws := by
  intro p e s m args below meth c C H locs ls hP hD hS hl
  exact va_last C.1 C.2.1 C.2.2.2.2.2.2.2.1 hP hD hS k 1 he rfl hi hd (fun H locs hP hD hS => kk p e s m args below meth c C H locs ls hP hD hS hl)
theorem a_sast {k n : Nat} {ad : Nat → Nat} {f : Nat → Int32} {i x : Int32} (hd : decode (zcc S) pc = .ok (.sastore, 1)) (he : ws[k]? = some (ad k, .inl (zcS G, n, .inl f))) (hi : vp_in i n) (kk : AV l G S wc post (pc + 1) L (st) (ws.set k (ad k, .inl (zcS G, n, .inl (upd f i.toNatClampNeg (vp_nar .short x)))))) : AV l G S wc post (pc) L (.int x :: .int i :: .ref (ad k) :: st) ws := by
  intro p e s m args below meth c C H locs ls hP hD hS hl
  exact va_sast C.1 C.2.1 C.2.2.2.2.2.2.2.1 hP hD hS k 2 he rfl hi hd (fun H locs hP hD hS => kk p e s m args below meth c C H locs ls hP hD hS hl)
theorem a_alenI {k n : Nat} {ad : Nat → Nat} {f : Nat → Int32} {v : Int32} (hd : decode (zcc S) pc = .ok (.arraylength, 1)) (he : ws[k]? = some (ad k, .inl (zcI G, n, .inl f))) (hv : Int32.ofNat n = v) (kk : AV l G S wc post (pc + 1) L (.int v :: st) ws) : AV l G S wc post (pc) L (.ref (ad k) :: st) ws := by
  intro p e s m args below meth c C H locs ls hP hD hS hl
  exact va_alen C.1 C.2.1 C.2.2.2.2.2.2.2.1 hP k 0 he rfl hv hd (kk p e s m args below meth c C H locs ls hP hD hS hl)
theorem a_alenS {k n : Nat} {ad : Nat → Nat} {f : Nat → Int32} {v : Int32} (hd : decode (zcc S) pc = .ok (.arraylength, 1)) (he : ws[k]? = some (ad k, .inl (zcS G, n, .inl f))) (hv : Int32.ofNat n = v) (kk : AV l G S wc post (pc + 1) L (.int v :: st) ws) : AV l G S wc post (pc) L (.ref (ad k) :: st) ws := by
  intro p e s m args below meth c C H locs ls hP hD hS hl
  exact va_alen C.1 C.2.1 C.2.2.2.2.2.2.2.1 hP k 2 he rfl hv hd (kk p e s m args below meth c C H locs ls hP hD hS hl)
theorem a_iret {v : Int32} (hd : decode (zcc S) pc = .ok (.ireturn, 1)) (hr : zret S = some .int) (hf : ws.map Prod.fst = wc.map Prod.fst) (hp : post (some (.int v)) ws) : AV l G S wc post (pc) L ([.int v]) ws := by
  intro p e s m args below meth c C H locs ls hP hD hS hl
  exact W.iret C.1 C.2.1 (C.2.2.2.2.2.1.trans hr) (fun t ht hW => ⟨⟨_, _, rfl, hp, hf, by rw [ht]; exact hP⟩, hS.F ht⟩) hS.2.2 hd C.2.2.2.2.2.2.1
theorem a_zret {v : Int32} (hd : decode (zcc S) pc = .ok (.ireturn, 1)) (hr : zret S = some .boolean) (hv : v = 0 ∨ v = 1) (hf : ws.map Prod.fst = wc.map Prod.fst) (hp : post (some (.int v)) ws) : AV l G S wc post (pc) L ([.int v]) ws := by
  intro p e s m args below meth c C H locs ls hP hD hS hl
  exact W.zret C.1 C.2.1 (C.2.2.2.2.2.1.trans hr) (by rcases hv with rfl | rfl <;> rfl) (fun t ht hW => ⟨⟨_, _, rfl, hp, hf, by rw [ht]; exact hP⟩, hS.F ht⟩) hS.2.2 hd C.2.2.2.2.2.2.1
theorem a_lret {v : Int64} (hd : decode (zcc S) pc = .ok (.lreturn, 1)) (hr : zret S = some .long) (hf : ws.map Prod.fst = wc.map Prod.fst) (hp : post (some (.long v)) ws) : AV l G S wc post (pc) L ([.long v]) ws := by
  intro p e s m args below meth c C H locs ls hP hD hS hl
  exact W.lret C.1 C.2.1 (C.2.2.2.2.2.1.trans hr) (fun t ht hW => ⟨⟨_, _, rfl, hp, hf, by rw [ht]; exact hP⟩, hS.F ht⟩) hS.2.2 hd C.2.2.2.2.2.2.1
theorem a_vret (hd : decode (zcc S) pc = .ok (.return_, 1)) (hr : zret S = none) (hf : ws.map Prod.fst = wc.map Prod.fst) (hp : post none ws) : AV l G S wc post (pc) L ([]) ws := by
  intro p e s m args below meth c C H locs ls hP hD hS hl
  exact W.vret C.1 C.2.1 (C.2.2.2.2.2.1.trans hr) (fun t ht hW => ⟨⟨_, _, rfl, hp, hf, by rw [ht]; exact hP⟩, hS.F ht⟩) hS.2.2 hd C.2.2.2.2.2.2.1
theorem a_aret {a : Nat} {ty : FieldType} (hd : decode (zcc S) pc = .ok (.areturn, 1)) (hr : zret S = some (.array ty)) (hf : ws.map Prod.fst = wc.map Prod.fst) (hp : post (some (.ref a)) ws) : AV l G S wc post (pc) L ([.ref a]) ws := by
  intro p e s m args below meth c C H locs ls hP hD hS hl
  exact W.aret C.1 C.2.1 (C.2.2.2.2.2.1.trans hr) (Or.inr ⟨_, rfl⟩) (Or.inr ⟨_, rfl⟩) (fun t ht hW => ⟨⟨_, _, rfl, hp, hf, by rw [ht]; exact hP⟩, hS.F ht⟩) hS.2.2 hd C.2.2.2.2.2.2.1
theorem a_copy {index : Nat} {k0 k1 n0 n1 t0 : Nat} {ad ad1 : Nat → Nat} {c0 c1 : ClassId} {f g : Nat → Int32} {ty : FieldType} {sp dp n : Int32} (hd : decode (zcc S) pc = .ok (.invokestatic index, 3)) (hlink : Cond.methodLink (zown S) index arraycopyName ∈ zT) (hnat : Cond.native arraycopyName ∈ zT) (hstat : Cond.static arraycopyName ∈ zT) (hini : Cond.initialized "java/lang/System" ∈ zT)
    (he0 : ws[k0]? = some (ad k0, .inl (c0, n0, .inl f))) (he1 : ws[k1]? = some (ad1 k1, .inl (c1, n1, .inl g))) (ht0 : (zty G)[t0]? = some (c0, ty)) (ht1 : (zty G)[t0]? = some (c1, ty)) (hprim : refKind ty = false) (h1 : ¬ sp < 0) (h2 : ¬ dp < 0) (h3 : ¬ n < 0) (h4 : sp.toNatClampNeg + n.toNatClampNeg ≤ n0) (h5 : dp.toNatClampNeg + n.toNatClampNeg ≤ n1) (hfit : ∀ i, i < n.toNatClampNeg → fits ty (.int (f (sp.toNatClampNeg + i))) = true)
    (hfr : 1 ≤ zfr S) (hlo : (st.map fun v => v.category).sum + (nativeFrameWords "java/lang/System" "arraycopy" 5 + 11) ≤ zlo S)
    (kk : AV l G S wc post (pc + 3) L (st) (ws.set k1 (ad1 k1, .inl (c1, n1, .inl (va_cpy f g sp.toNatClampNeg dp.toNatClampNeg n.toNatClampNeg))))) : AV l G S wc post (pc) L (.int n :: .int dp :: .ref (ad1 k1) :: .int sp :: .ref (ad k0) :: st) ws := by
  intro p e s m args below meth c C H locs ls hP hD hS hl
  exact va_copyi C.1 C.2.1 (C.2.2.1.trans hl.1.symm) C.2.2.2.1 (C.2.2.2.2.1 _ hlink) (C.2.2.2.2.1 _ hnat) (C.2.2.2.2.1 _ hstat) (C.2.2.2.2.1 _ hini) C.2.2.2.2.2.2.2.1 hP hD hS k0 k1 t0 t0 he0 he1 ht0 ht1 hprim h1 h2 h3 h4 h5 hfit hfr hlo hd (fun H locs hP hD hS => kk p e s m args below meth c C H locs ls hP hD hS hl)
theorem zEnterV {As : List Value} (hy : plainName (zy S).cls = true) (hown : (zy S).cls = zown S) (hAs : (lg_sl As).length ≤ znL S) (hL : lv_args 0 As = zL 0 L) (h : AV l G S wc post 0 L [] wc) : zSem l G S As wc post := zEnter hy hown hAs hL h
theorem a_to {pc2 : Nat} {L2 : List (Option Value)} {st2 : List Value} {ws2 : va_W} (h : AV l G S wc post pc2 L2 st2 ws2) (h1 : pc2 = pc) (h2 : L2 = L) (h3 : st2 = st) (h4 : ws2 = ws) : AV l G S wc post pc L st ws := by
  subst h1; subst h2; subst h3; subst h4; exact h
/-- locals that are no longer needed are forgotten -/
theorem a_drop (L2 : List (Option Value)) (hs : ∀ (j : Nat) (v : Value), L2[j]? = some (some v) → L[j]? = some (some v)) (h : AV l G S wc post pc L2 st ws) : AV l G S wc post pc L st ws := by
  intro p e s m args below meth c C H locs ls hP hD hS hl
  refine h p e s m args below meth c C H locs ls hP hD hS ⟨hl.1, hl.2.1, fun q hq => hl.2.2 q ?_⟩
  obtain ⟨j, h1, h2⟩ := (zL_mem _ _ _).mp hq
  exact (zL_mem _ _ _).mpr ⟨j, h1, hs j _ h2⟩
theorem a_iload_0 {x : Int32} (hd : decode (zcc S) pc = .ok (.iload_n 0, 1)) (kk : AV l G S wc post (pc + 1) (some (.int x) :: L) (.int x :: st) ws) : AV l G S wc post (pc) (some (.int x) :: L) (st) ws := g_iload_n (i := 0) rfl hd rfl kk
theorem a_istore_0 {c : Option Value} {x : Int32} (hd : decode (zcc S) pc = .ok (.istore_n 0, 1)) (hn : 0 < znL S) (kk : AV l G S wc post (pc + 1) (some (.int x) :: L) (st) ws) : AV l G S wc post (pc) (c :: L) (.int x :: st) ws := g_istore_n (i := 0) rfl hn hd rfl kk
theorem a_lload_0 {x : Int64} (hd : decode (zcc S) pc = .ok (.lload_n 0, 1)) (kk : AV l G S wc post (pc + 1) (some (.long x) :: L) (.long x :: st) ws) : AV l G S wc post (pc) (some (.long x) :: L) (st) ws := g_lload_n (i := 0) rfl hd rfl kk
theorem a_lstore_0 {c d : Option Value} {x : Int64} (hd : decode (zcc S) pc = .ok (.lstore_n 0, 1)) (hn : 0 + 1 < znL S) (kk : AV l G S wc post (pc + 1) (some (.long x) :: none :: L) (st) ws) : AV l G S wc post (pc) (c :: d :: L) (.long x :: st) ws := g_lstore_n (i := 0) rfl hn hd rfl kk
theorem a_aload_0 {x : Nat} (hd : decode (zcc S) pc = .ok (.aload_n 0, 1)) (kk : AV l G S wc post (pc + 1) (some (.ref x) :: L) (.ref x :: st) ws) : AV l G S wc post (pc) (some (.ref x) :: L) (st) ws := g_aload_n (i := 0) rfl hd rfl kk
theorem a_astore_0 {c : Option Value} {x : Nat} (hd : decode (zcc S) pc = .ok (.astore_n 0, 1)) (hn : 0 < znL S) (kk : AV l G S wc post (pc + 1) (some (.ref x) :: L) (st) ws) : AV l G S wc post (pc) (c :: L) (.ref x :: st) ws := g_astore_n (i := 0) rfl hn hd rfl kk
theorem a_iinc_0 {n : Int} {x cst : Int32} (hd : decode (zcc S) pc = .ok (.iinc 0 n, 3)) (hn : 0 < znL S) (hv : Int32.ofInt n = cst) (kk : AV l G S wc post (pc + 3) (some (.int (x + cst)) :: L) (st) ws) : AV l G S wc post (pc) (some (.int x) :: L) (st) ws := g_iinc (i := 0) rfl rfl hn hd (by rw [hv]) kk
theorem a_iload_1 {b0 : Option Value} {x : Int32} (hd : decode (zcc S) pc = .ok (.iload_n 1, 1)) (kk : AV l G S wc post (pc + 1) (b0 :: some (.int x) :: L) (.int x :: st) ws) : AV l G S wc post (pc) (b0 :: some (.int x) :: L) (st) ws := g_iload_n (i := 1) rfl hd rfl kk
theorem a_istore_1 {b0 : Option Value} {c : Option Value} {x : Int32} (hd : decode (zcc S) pc = .ok (.istore_n 1, 1)) (hp : zprev (b0 :: c :: L) 1 = true) (hn : 1 < znL S) (kk : AV l G S wc post (pc + 1) (b0 :: some (.int x) :: L) (st) ws) : AV l G S wc post (pc) (b0 :: c :: L) (.int x :: st) ws := g_istore_n (i := 1) hp hn hd rfl kk
theorem a_lload_1 {b0 : Option Value} {x : Int64} (hd : decode (zcc S) pc = .ok (.lload_n 1, 1)) (kk : AV l G S wc post (pc + 1) (b0 :: some (.long x) :: L) (.long x :: st) ws) : AV l G S wc post (pc) (b0 :: some (.long x) :: L) (st) ws := g_lload_n (i := 1) rfl hd rfl kk
theorem a_lstore_1 {b0 : Option Value} {c d : Option Value} {x : Int64} (hd : decode (zcc S) pc = .ok (.lstore_n 1, 1)) (hp : zprev (b0 :: c :: d :: L) 1 = true) (hn : 1 + 1 < znL S) (kk : AV l G S wc post (pc + 1) (b0 :: some (.long x) :: none :: L) (st) ws) : AV l G S wc post (pc) (b0 :: c :: d :: L) (.long x :: st) ws := g_lstore_n (i := 1) hp hn hd rfl kk
theorem a_aload_1 {b0 : Option Value} {x : Nat} (hd : decode (zcc S) pc = .ok (.aload_n 1, 1)) (kk : AV l G S wc post (pc + 1) (b0 :: some (.ref x) :: L) (.ref x :: st) ws) : AV l G S wc post (pc) (b0 :: some (.ref x) :: L) (st) ws := g_aload_n (i := 1) rfl hd rfl kk
theorem a_astore_1 {b0 : Option Value} {c : Option Value} {x : Nat} (hd : decode (zcc S) pc = .ok (.astore_n 1, 1)) (hp : zprev (b0 :: c :: L) 1 = true) (hn : 1 < znL S) (kk : AV l G S wc post (pc + 1) (b0 :: some (.ref x) :: L) (st) ws) : AV l G S wc post (pc) (b0 :: c :: L) (.ref x :: st) ws := g_astore_n (i := 1) hp hn hd rfl kk
theorem a_iinc_1 {b0 : Option Value} {n : Int} {x cst : Int32} (hd : decode (zcc S) pc = .ok (.iinc 1 n, 3)) (hp : zprev (b0 :: some (.int x) :: L) 1 = true) (hn : 1 < znL S) (hv : Int32.ofInt n = cst) (kk : AV l G S wc post (pc + 3) (b0 :: some (.int (x + cst)) :: L) (st) ws) : AV l G S wc post (pc) (b0 :: some (.int x) :: L) (st) ws := g_iinc (i := 1) rfl hp hn hd (by rw [hv]) kk
theorem a_iload_2 {b0 b1 : Option Value} {x : Int32} (hd : decode (zcc S) pc = .ok (.iload_n 2, 1)) (kk : AV l G S wc post (pc + 1) (b0 :: b1 :: some (.int x) :: L) (.int x :: st) ws) : AV l G S wc post (pc) (b0 :: b1 :: some (.int x) :: L) (st) ws := g_iload_n (i := 2) rfl hd rfl kk
theorem a_istore_2 {b0 b1 : Option Value} {c : Option Value} {x : Int32} (hd : decode (zcc S) pc = .ok (.istore_n 2, 1)) (hp : zprev (b0 :: b1 :: c :: L) 2 = true) (hn : 2 < znL S) (kk : AV l G S wc post (pc + 1) (b0 :: b1 :: some (.int x) :: L) (st) ws) : AV l G S wc post (pc) (b0 :: b1 :: c :: L) (.int x :: st) ws := g_istore_n (i := 2) hp hn hd rfl kk
theorem a_lload_2 {b0 b1 : Option Value} {x : Int64} (hd : decode (zcc S) pc = .ok (.lload_n 2, 1)) (kk : AV l G S wc post (pc + 1) (b0 :: b1 :: some (.long x) :: L) (.long x :: st) ws) : AV l G S wc post (pc) (b0 :: b1 :: some (.long x) :: L) (st) ws := g_lload_n (i := 2) rfl hd rfl kk
theorem a_lstore_2 {b0 b1 : Option Value} {c d : Option Value} {x : Int64} (hd : decode (zcc S) pc = .ok (.lstore_n 2, 1)) (hp : zprev (b0 :: b1 :: c :: d :: L) 2 = true) (hn : 2 + 1 < znL S) (kk : AV l G S wc post (pc + 1) (b0 :: b1 :: some (.long x) :: none :: L) (st) ws) : AV l G S wc post (pc) (b0 :: b1 :: c :: d :: L) (.long x :: st) ws := g_lstore_n (i := 2) hp hn hd rfl kk
theorem a_aload_2 {b0 b1 : Option Value} {x : Nat} (hd : decode (zcc S) pc = .ok (.aload_n 2, 1)) (kk : AV l G S wc post (pc + 1) (b0 :: b1 :: some (.ref x) :: L) (.ref x :: st) ws) : AV l G S wc post (pc) (b0 :: b1 :: some (.ref x) :: L) (st) ws := g_aload_n (i := 2) rfl hd rfl kk
theorem a_astore_2 {b0 b1 : Option Value} {c : Option Value} {x : Nat} (hd : decode (zcc S) pc = .ok (.astore_n 2, 1)) (hp : zprev (b0 :: b1 :: c :: L) 2 = true) (hn : 2 < znL S) (kk : AV l G S wc post (pc + 1) (b0 :: b1 :: some (.ref x) :: L) (st) ws) : AV l G S wc post (pc) (b0 :: b1 :: c :: L) (.ref x :: st) ws := g_astore_n (i := 2) hp hn hd rfl kk
theorem a_iinc_2 {b0 b1 : Option Value} {n : Int} {x cst : Int32} (hd : decode (zcc S) pc = .ok (.iinc 2 n, 3)) (hp : zprev (b0 :: b1 :: some (.int x) :: L) 2 = true) (hn : 2 < znL S) (hv : Int32.ofInt n = cst) (kk : AV l G S wc post (pc + 3) (b0 :: b1 :: some (.int (x + cst)) :: L) (st) ws) : AV l G S wc post (pc) (b0 :: b1 :: some (.int x) :: L) (st) ws := g_iinc (i := 2) rfl hp hn hd (by rw [hv]) kk
theorem a_iload_3 {b0 b1 b2 : Option Value} {x : Int32} (hd : decode (zcc S) pc = .ok (.iload_n 3, 1)) (kk : AV l G S wc post (pc + 1) (b0 :: b1 :: b2 :: some (.int x) :: L) (.int x :: st) ws) : AV l G S wc post (pc) (b0 :: b1 :: b2 :: some (.int x) :: L) (st) ws := g_iload_n (i := 3) rfl hd rfl kk
theorem a_istore_3 {b0 b1 b2 : Option Value} {c : Option Value} {x : Int32} (hd : decode (zcc S) pc = .ok (.istore_n 3, 1)) (hp : zprev (b0 :: b1 :: b2 :: c :: L) 3 = true) (hn : 3 < znL S) (kk : AV l G S wc post (pc + 1) (b0 :: b1 :: b2 :: some (.int x) :: L) (st) ws) : AV l G S wc post (pc) (b0 :: b1 :: b2 :: c :: L) (.int x :: st) ws := g_istore_n (i := 3) hp hn hd rfl kk
theorem a_lload_3 {b0 b1 b2 : Option Value} {x : Int64} (hd : decode (zcc S) pc = .ok (.lload_n 3, 1)) (kk : AV l G S wc post (pc + 1) (b0 :: b1 :: b2 :: some (.long x) :: L) (.long x :: st) ws) : AV l G S wc post (pc) (b0 :: b1 :: b2 :: some (.long x) :: L) (st) ws := g_lload_n (i := 3) rfl hd rfl kk
theorem a_lstore_3 {b0 b1 b2 : Option Value} {c d : Option Value} {x : Int64} (hd : decode (zcc S) pc = .ok (.lstore_n 3, 1)) (hp : zprev (b0 :: b1 :: b2 :: c :: d :: L) 3 = true) (hn : 3 + 1 < znL S) (kk : AV l G S wc post (pc + 1) (b0 :: b1 :: b2 :: some (.long x) :: none :: L) (st) ws) : AV l G S wc post (pc) (b0 :: b1 :: b2 :: c :: d :: L) (.long x :: st) ws := g_lstore_n (i := 3) hp hn hd rfl kk
theorem a_aload_3 {b0 b1 b2 : Option Value} {x : Nat} (hd : decode (zcc S) pc = .ok (.aload_n 3, 1)) (kk : AV l G S wc post (pc + 1) (b0 :: b1 :: b2 :: some (.ref x) :: L) (.ref x :: st) ws) : AV l G S wc post (pc) (b0 :: b1 :: b2 :: some (.ref x) :: L) (st) ws := g_aload_n (i := 3) rfl hd rfl kk
theorem a_astore_3 {b0 b1 b2 : Option Value} {c : Option Value} {x : Nat} (hd : decode (zcc S) pc = .ok (.astore_n 3, 1)) (hp : zprev (b0 :: b1 :: b2 :: c :: L) 3 = true) (hn : 3 < znL S) (kk : AV l G S wc post (pc + 1) (b0 :: b1 :: b2 :: some (.ref x) :: L) (st) ws) : AV l G S wc post (pc) (b0 :: b1 :: b2 :: c :: L) (.ref x :: st) ws := g_astore_n (i := 3) hp hn hd rfl kk
theorem a_iinc_3 {b0 b1 b2 : Option Value} {n : Int} {x cst : Int32} (hd : decode (zcc S) pc = .ok (.iinc 3 n, 3)) (hp : zprev (b0 :: b1 :: b2 :: some (.int x) :: L) 3 = true) (hn : 3 < znL S) (hv : Int32.ofInt n = cst) (kk : AV l G S wc post (pc + 3) (b0 :: b1 :: b2 :: some (.int (x + cst)) :: L) (st) ws) : AV l G S wc post (pc) (b0 :: b1 :: b2 :: some (.int x) :: L) (st) ws := g_iinc (i := 3) rfl hp hn hd (by rw [hv]) kk
theorem a_iload_4 {b0 b1 b2 b3 : Option Value} {x : Int32} (hd : decode (zcc S) pc = .ok (.iload 4, 2)) (kk : AV l G S wc post (pc + 2) (b0 :: b1 :: b2 :: b3 :: some (.int x) :: L) (.int x :: st) ws) : AV l G S wc post (pc) (b0 :: b1 :: b2 :: b3 :: some (.int x) :: L) (st) ws := g_iload (i := 4) rfl hd kk
theorem a_istore_4 {b0 b1 b2 b3 : Option Value} {c : Option Value} {x : Int32} (hd : decode (zcc S) pc = .ok (.istore 4, 2)) (hp : zprev (b0 :: b1 :: b2 :: b3 :: c :: L) 4 = true) (hn : 4 < znL S) (kk : AV l G S wc post (pc + 2) (b0 :: b1 :: b2 :: b3 :: some (.int x) :: L) (st) ws) : AV l G S wc post (pc) (b0 :: b1 :: b2 :: b3 :: c :: L) (.int x :: st) ws := g_istore (i := 4) hp hn hd kk
theorem a_lload_4 {b0 b1 b2 b3 : Option Value} {x : Int64} (hd : decode (zcc S) pc = .ok (.lload 4, 2)) (kk : AV l G S wc post (pc + 2) (b0 :: b1 :: b2 :: b3 :: some (.long x) :: L) (.long x :: st) ws) : AV l G S wc post (pc) (b0 :: b1 :: b2 :: b3 :: some (.long x) :: L) (st) ws := g_lload (i := 4) rfl hd kk
theorem a_lstore_4 {b0 b1 b2 b3 : Option Value} {c d : Option Value} {x : Int64} (hd : decode (zcc S) pc = .ok (.lstore 4, 2)) (hp : zprev (b0 :: b1 :: b2 :: b3 :: c :: d :: L) 4 = true) (hn : 4 + 1 < znL S) (kk : AV l G S wc post (pc + 2) (b0 :: b1 :: b2 :: b3 :: some (.long x) :: none :: L) (st) ws) : AV l G S wc post (pc) (b0 :: b1 :: b2 :: b3 :: c :: d :: L) (.long x :: st) ws := g_lstore (i := 4) hp hn hd kk
theorem a_aload_4 {b0 b1 b2 b3 : Option Value} {x : Nat} (hd : decode (zcc S) pc = .ok (.aload 4, 2)) (kk : AV l G S wc post (pc + 2) (b0 :: b1 :: b2 :: b3 :: some (.ref x) :: L) (.ref x :: st) ws) : AV l G S wc post (pc) (b0 :: b1 :: b2 :: b3 :: some (.ref x) :: L) (st) ws := g_aload (i := 4) rfl hd kk
theorem a_astore_4 {b0 b1 b2 b3 : Option Value} {c : Option Value} {x : Nat} (hd : decode (zcc S) pc = .ok (.astore 4, 2)) (hp : zprev (b0 :: b1 :: b2 :: b3 :: c :: L) 4 = true) (hn : 4 < znL S) (kk : AV l G S wc post (pc + 2) (b0 :: b1 :: b2 :: b3 :: some (.ref x) :: L) (st) ws) : AV l G S wc post (pc) (b0 :: b1 :: b2 :: b3 :: c :: L) (.ref x :: st) ws := g_astore (i := 4) hp hn hd kk
theorem a_iinc_4 {b0 b1 b2 b3 : Option Value} {n : Int} {x cst : Int32} (hd : decode (zcc S) pc = .ok (.iinc 4 n, 3)) (hp : zprev (b0 :: b1 :: b2 :: b3 :: some (.int x) :: L) 4 = true) (hn : 4 < znL S) (hv : Int32.ofInt n = cst) (kk : AV l G S wc post (pc + 3) (b0 :: b1 :: b2 :: b3 :: some (.int (x + cst)) :: L) (st) ws) : AV l G S wc post (pc) (b0 :: b1 :: b2 :: b3 :: some (.int x) :: L) (st) ws := g_iinc (i := 4) rfl hp hn hd (by rw [hv]) kk
theorem a_iload_5 {b0 b1 b2 b3 b4 : Option Value} {x : Int32} (hd : decode (zcc S) pc = .ok (.iload 5, 2)) (kk : AV l G S wc post (pc + 2) (b0 :: b1 :: b2 :: b3 :: b4 :: some (.int x) :: L) (.int x :: st) ws) : AV l G S wc post (pc) (b0 :: b1 :: b2 :: b3 :: b4 :: some (.int x) :: L) (st) ws := g_iload (i := 5) rfl hd kk
theorem a_istore_5 {b0 b1 b2 b3 b4 : Option Value} {c : Option Value} {x : Int32} (hd : decode (zcc S) pc = .ok (.istore 5, 2)) (hp : zprev (b0 :: b1 :: b2 :: b3 :: b4 :: c :: L) 5 = true) (hn : 5 < znL S) (kk : AV l G S wc post (pc + 2) (b0 :: b1 :: b2 :: b3 :: b4 :: some (.int x) :: L) (st) ws) : AV l G S wc post (pc) (b0 :: b1 :: b2 :: b3 :: b4 :: c :: L) (.int x :: st) ws := g_istore (i := 5) hp hn hd kk
theorem a_lload_5 {b0 b1 b2 b3 b4 : Option Value} {x : Int64} (hd : decode (zcc S) pc = .ok (.lload 5, 2)) (kk : AV l G S wc post (pc + 2) (b0 :: b1 :: b2 :: b3 :: b4 :: some (.long x) :: L) (.long x :: st) ws) : AV l G S wc post (pc) (b0 :: b1 :: b2 :: b3 :: b4 :: some (.long x) :: L) (st) ws := g_lload (i := 5) rfl hd kk
theorem a_lstore_5 {b0 b1 b2 b3 b4 : Option Value} {c d : Option Value} {x : Int64} (hd : decode (zcc S) pc = .ok (.lstore 5, 2)) (hp : zprev (b0 :: b1 :: b2 :: b3 :: b4 :: c :: d :: L) 5 = true) (hn : 5 + 1 < znL S) (kk : AV l G S wc post (pc + 2) (b0 :: b1 :: b2 :: b3 :: b4 :: some (.long x) :: none :: L) (st) ws) : AV l G S wc post (pc) (b0 :: b1 :: b2 :: b3 :: b4 :: c :: d :: L) (.long x :: st) ws := g_lstore (i := 5) hp hn hd kk
theorem a_aload_5 {b0 b1 b2 b3 b4 : Option Value} {x : Nat} (hd : decode (zcc S) pc = .ok (.aload 5, 2)) (kk : AV l G S wc post (pc + 2) (b0 :: b1 :: b2 :: b3 :: b4 :: some (.ref x) :: L) (.ref x :: st) ws) : AV l G S wc post (pc) (b0 :: b1 :: b2 :: b3 :: b4 :: some (.ref x) :: L) (st) ws := g_aload (i := 5) rfl hd kk
theorem a_astore_5 {b0 b1 b2 b3 b4 : Option Value} {c : Option Value} {x : Nat} (hd : decode (zcc S) pc = .ok (.astore 5, 2)) (hp : zprev (b0 :: b1 :: b2 :: b3 :: b4 :: c :: L) 5 = true) (hn : 5 < znL S) (kk : AV l G S wc post (pc + 2) (b0 :: b1 :: b2 :: b3 :: b4 :: some (.ref x) :: L) (st) ws) : AV l G S wc post (pc) (b0 :: b1 :: b2 :: b3 :: b4 :: c :: L) (.ref x :: st) ws := g_astore (i := 5) hp hn hd kk
theorem a_iinc_5 {b0 b1 b2 b3 b4 : Option Value} {n : Int} {x cst : Int32} (hd : decode (zcc S) pc = .ok (.iinc 5 n, 3)) (hp : zprev (b0 :: b1 :: b2 :: b3 :: b4 :: some (.int x) :: L) 5 = true) (hn : 5 < znL S) (hv : Int32.ofInt n = cst) (kk : AV l G S wc post (pc + 3) (b0 :: b1 :: b2 :: b3 :: b4 :: some (.int (x + cst)) :: L) (st) ws) : AV l G S wc post (pc) (b0 :: b1 :: b2 :: b3 :: b4 :: some (.int x) :: L) (st) ws := g_iinc (i := 5) rfl hp hn hd (by rw [hv]) kk
theorem a_iload_6 {b0 b1 b2 b3 b4 b5 : Option Value} {x : Int32} (hd : decode (zcc S) pc = .ok (.iload 6, 2)) (kk : AV l G S wc post (pc + 2) (b0 :: b1 :: b2 :: b3 :: b4 :: b5 :: some (.int x) :: L) (.int x :: st) ws) : AV l G S wc post (pc) (b0 :: b1 :: b2 :: b3 :: b4 :: b5 :: some (.int x) :: L) (st) ws := g_iload (i := 6) rfl hd kk
theorem a_istore_6 {b0 b1 b2 b3 b4 b5 : Option Value} {c : Option Value} {x : Int32} (hd : decode (zcc S) pc = .ok (.istore 6, 2)) (hp : zprev (b0 :: b1 :: b2 :: b3 :: b4 :: b5 :: c :: L) 6 = true) (hn : 6 < znL S) (kk : AV l G S wc post (pc + 2) (b0 :: b1 :: b2 :: b3 :: b4 :: b5 :: some (.int x) :: L) (st) ws) : AV l G S wc post (pc) (b0 :: b1 :: b2 :: b3 :: b4 :: b5 :: c :: L) (.int x :: st) ws := g_istore (i := 6) hp hn hd kk
theorem a_lload_6 {b0 b1 b2 b3 b4 b5 : Option Value} {x : Int64} (hd : decode (zcc S) pc = .ok (.lload 6, 2)) (kk : AV l G S wc post (pc + 2) (b0 :: b1 :: b2 :: b3 :: b4 :: b5 :: some (.long x) :: L) (.long x :: st) ws) : AV l G S wc post (pc) (b0 :: b1 :: b2 :: b3 :: b4 :: b5 :: some (.long x) :: L) (st) ws := g_lload (i := 6) rfl hd kk
theorem a_lstore_6 {b0 b1 b2 b3 b4 b5 : Option Value} {c d : Option Value} {x : Int64} (hd : decode (zcc S) pc = .ok (.lstore 6, 2)) (hp : zprev (b0 :: b1 :: b2 :: b3 :: b4 :: b5 :: c :: d :: L) 6 = true) (hn : 6 + 1 < znL S) (kk : AV l G S wc post (pc + 2) (b0 :: b1 :: b2 :: b3 :: b4 :: b5 :: some (.long x) :: none :: L) (st) ws) : AV l G S wc post (pc) (b0 :: b1 :: b2 :: b3 :: b4 :: b5 :: c :: d :: L) (.long x :: st) ws := g_lstore (i := 6) hp hn hd kk
theorem a_aload_6 {b0 b1 b2 b3 b4 b5 : Option Value} {x : Nat} (hd : decode (zcc S) pc = .ok (.aload 6, 2)) (kk : AV l G S wc post (pc + 2) (b0 :: b1 :: b2 :: b3 :: b4 :: b5 :: some (.ref x) :: L) (.ref x :: st) ws) : AV l G S wc post (pc) (b0 :: b1 :: b2 :: b3 :: b4 :: b5 :: some (.ref x) :: L) (st) ws := g_aload (i := 6) rfl hd kk
theorem a_astore_6 {b0 b1 b2 b3 b4 b5 : Option Value} {c : Option Value} {x : Nat} (hd : decode (zcc S) pc = .ok (.astore 6, 2)) (hp : zprev (b0 :: b1 :: b2 :: b3 :: b4 :: b5 :: c :: L) 6 = true) (hn : 6 < znL S) (kk : AV l G S wc post (pc + 2) (b0 :: b1 :: b2 :: b3 :: b4 :: b5 :: some (.ref x) :: L) (st) ws) : AV l G S wc post (pc) (b0 :: b1 :: b2 :: b3 :: b4 :: b5 :: c :: L) (.ref x :: st) ws := g_astore (i := 6) hp hn hd kk
theorem a_iinc_6 {b0 b1 b2 b3 b4 b5 : Option Value} {n : Int} {x cst : Int32} (hd : decode (zcc S) pc = .ok (.iinc 6 n, 3)) (hp : zprev (b0 :: b1 :: b2 :: b3 :: b4 :: b5 :: some (.int x) :: L) 6 = true) (hn : 6 < znL S) (hv : Int32.ofInt n = cst) (kk : AV l G S wc post (pc + 3) (b0 :: b1 :: b2 :: b3 :: b4 :: b5 :: some (.int (x + cst)) :: L) (st) ws) : AV l G S wc post (pc) (b0 :: b1 :: b2 :: b3 :: b4 :: b5 :: some (.int x) :: L) (st) ws := g_iinc (i := 6) rfl hp hn hd (by rw [hv]) kk
theorem a_iload_7 {b0 b1 b2 b3 b4 b5 b6 : Option Value} {x : Int32} (hd : decode (zcc S) pc = .ok (.iload 7, 2)) (kk : AV l G S wc post (pc + 2) (b0 :: b1 :: b2 :: b3 :: b4 :: b5 :: b6 :: some (.int x) :: L) (.int x :: st) ws) : AV l G S wc post (pc) (b0 :: b1 :: b2 :: b3 :: b4 :: b5 :: b6 :: some (.int x) :: L) (st) ws := g_iload (i := 7) rfl hd kk
theorem a_istore_7 {b0 b1 b2 b3 b4 b5 b6 : Option Value} {c : Option Value} {x : Int32} (hd : decode (zcc S) pc = .ok (.istore 7, 2)) (hp : zprev (b0 :: b1 :: b2 :: b3 :: b4 :: b5 :: b6 :: c :: L) 7 = true) (hn : 7 < znL S) (kk : AV l G S wc post (pc + 2) (b0 :: b1 :: b2 :: b3 :: b4 :: b5 :: b6 :: some (.int x) :: L) (st) ws) : AV l G S wc post (pc) (b0 :: b1 :: b2 :: b3 :: b4 :: b5 :: b6 :: c :: L) (.int x :: st) ws := g_istore (i := 7) hp hn hd kk
theorem a_lload_7 {b0 b1 b2 b3 b4 b5 b6 : Option Value} {x : Int64} (hd : decode (zcc S) pc = .ok (.lload 7, 2)) (kk : AV l G S wc post (pc + 2) (b0 :: b1 :: b2 :: b3 :: b4 :: b5 :: b6 :: some (.long x) :: L) (.long x :: st) ws) : AV l G S wc post (pc) (b0 :: b1 :: b2 :: b3 :: b4 :: b5 :: b6 :: some (.long x) :: L) (st) ws := g_lload (i := 7) rfl hd kk
theorem a_lstore_7 {b0 b1 b2 b3 b4 b5 b6 : Option Value} {c d : Option Value} {x : Int64} (hd : decode (zcc S) pc = .ok (.lstore 7, 2)) (hp : zprev (b0 :: b1 :: b2 :: b3 :: b4 :: b5 :: b6 :: c :: d :: L) 7 = true) (hn : 7 + 1 < znL S) (kk : AV l G S wc post (pc + 2) (b0 :: b1 :: b2 :: b3 :: b4 :: b5 :: b6 :: some (.long x) :: none :: L) (st) ws) : AV l G S wc post (pc) (b0 :: b1 :: b2 :: b3 :: b4 :: b5 :: b6 :: c :: d :: L) (.long x :: st) ws := g_lstore (i := 7) hp hn hd kk
theorem a_aload_7 {b0 b1 b2 b3 b4 b5 b6 : Option Value} {x : Nat} (hd : decode (zcc S) pc = .ok (.aload 7, 2)) (kk : AV l G S wc post (pc + 2) (b0 :: b1 :: b2 :: b3 :: b4 :: b5 :: b6 :: some (.ref x) :: L) (.ref x :: st) ws) : AV l G S wc post (pc) (b0 :: b1 :: b2 :: b3 :: b4 :: b5 :: b6 :: some (.ref x) :: L) (st) ws := g_aload (i := 7) rfl hd kk
theorem a_astore_7 {b0 b1 b2 b3 b4 b5 b6 : Option Value} {c : Option Value} {x : Nat} (hd : decode (zcc S) pc = .ok (.astore 7, 2)) (hp : zprev (b0 :: b1 :: b2 :: b3 :: b4 :: b5 :: b6 :: c :: L) 7 = true) (hn : 7 < znL S) (kk : AV l G S wc post (pc + 2) (b0 :: b1 :: b2 :: b3 :: b4 :: b5 :: b6 :: some (.ref x) :: L) (st) ws) : AV l G S wc post (pc) (b0 :: b1 :: b2 :: b3 :: b4 :: b5 :: b6 :: c :: L) (.ref x :: st) ws := g_astore (i := 7) hp hn hd kk
theorem a_iinc_7 {b0 b1 b2 b3 b4 b5 b6 : Option Value} {n : Int} {x cst : Int32} (hd : decode (zcc S) pc = .ok (.iinc 7 n, 3)) (hp : zprev (b0 :: b1 :: b2 :: b3 :: b4 :: b5 :: b6 :: some (.int x) :: L) 7 = true) (hn : 7 < znL S) (hv : Int32.ofInt n = cst) (kk : AV l G S wc post (pc + 3) (b0 :: b1 :: b2 :: b3 :: b4 :: b5 :: b6 :: some (.int (x + cst)) :: L) (st) ws) : AV l G S wc post (pc) (b0 :: b1 :: b2 :: b3 :: b4 :: b5 :: b6 :: some (.int x) :: L) (st) ws := g_iinc (i := 7) rfl hp hn hd (by rw [hv]) kk
theorem a_iload_8 {b0 b1 b2 b3 b4 b5 b6 b7 : Option Value} {x : Int32} (hd : decode (zcc S) pc = .ok (.iload 8, 2)) (kk : AV l G S wc post (pc + 2) (b0 :: b1 :: b2 :: b3 :: b4 :: b5 :: b6 :: b7 :: some (.int x) :: L) (.int x :: st) ws) : AV l G S wc post (pc) (b0 :: b1 :: b2 :: b3 :: b4 :: b5 :: b6 :: b7 :: some (.int x) :: L) (st) ws := g_iload (i := 8) rfl hd kk
theorem a_istore_8 {b0 b1 b2 b3 b4 b5 b6 b7 : Option Value} {c : Option Value} {x : Int32} (hd : decode (zcc S) pc = .ok (.istore 8, 2)) (hp : zprev (b0 :: b1 :: b2 :: b3 :: b4 :: b5 :: b6 :: b7 :: c :: L) 8 = true) (hn : 8 < znL S) (kk : AV l G S wc post (pc + 2) (b0 :: b1 :: b2 :: b3 :: b4 :: b5 :: b6 :: b7 :: some (.int x) :: L) (st) ws) : AV l G S wc post (pc) (b0 :: b1 :: b2 :: b3 :: b4 :: b5 :: b6 :: b7 :: c :: L) (.int x :: st) ws := g_istore (i := 8) hp hn hd kk
theorem a_lload_8 {b0 b1 b2 b3 b4 b5 b6 b7 : Option Value} {x : Int64} (hd : decode (zcc S) pc = .ok (.lload 8, 2)) (kk : AV l G S wc post (pc + 2) (b0 :: b1 :: b2 :: b3 :: b4 :: b5 :: b6 :: b7 :: some (.long x) :: L) (.long x :: st) ws) : AV l G S wc post (pc) (b0 :: b1 :: b2 :: b3 :: b4 :: b5 :: b6 :: b7 :: some (.long x) :: L) (st) ws := g_lload (i := 8) rfl hd kk
theorem a_lstore_8 {b0 b1 b2 b3 b4 b5 b6 b7 : Option Value} {c d : Option Value} {x : Int64} (hd : decode (zcc S) pc = .ok (.lstore 8, 2)) (hp : zprev (b0 :: b1 :: b2 :: b3 :: b4 :: b5 :: b6 :: b7 :: c :: d :: L) 8 = true) (hn : 8 + 1 < znL S) (kk : AV l G S wc post (pc + 2) (b0 :: b1 :: b2 :: b3 :: b4 :: b5 :: b6 :: b7 :: some (.long x) :: none :: L) (st) ws) : AV l G S wc post (pc) (b0 :: b1 :: b2 :: b3 :: b4 :: b5 :: b6 :: b7 :: c :: d :: L) (.long x :: st) ws := g_lstore (i := 8) hp hn hd kk
theorem a_aload_8 {b0 b1 b2 b3 b4 b5 b6 b7 : Option Value} {x : Nat} (hd : decode (zcc S) pc = .ok (.aload 8, 2)) (kk : AV l G S wc post (pc + 2) (b0 :: b1 :: b2 :: b3 :: b4 :: b5 :: b6 :: b7 :: some (.ref x) :: L) (.ref x :: st) ws) : AV l G S wc post (pc) (b0 :: b1 :: b2 :: b3 :: b4 :: b5 :: b6 :: b7 :: some (.ref x) :: L) (st) ws := g_aload (i := 8) rfl hd kk
theorem a_astore_8 {b0 b1 b2 b3 b4 b5 b6 b7 : Option Value} {c : Option Value} {x : Nat} (hd : decode (zcc S) pc = .ok (.astore 8, 2)) (hp : zprev (b0 :: b1 :: b2 :: b3 :: b4 :: b5 :: b6 :: b7 :: c :: L) 8 = true) (hn : 8 < znL S) (kk : AV l G S wc post (pc + 2) (b0 :: b1 :: b2 :: b3 :: b4 :: b5 :: b6 :: b7 :: some (.ref x) :: L) (st) ws) : AV l G S wc post (pc) (b0 :: b1 :: b2 :: b3 :: b4 :: b5 :: b6 :: b7 :: c :: L) (.ref x :: st) ws := g_astore (i := 8) hp hn hd kk
theorem a_iinc_8 {b0 b1 b2 b3 b4 b5 b6 b7 : Option Value} {n : Int} {x cst : Int32} (hd : decode (zcc S) pc = .ok (.iinc 8 n, 3)) (hp : zprev (b0 :: b1 :: b2 :: b3 :: b4 :: b5 :: b6 :: b7 :: some (.int x) :: L) 8 = true) (hn : 8 < znL S) (hv : Int32.ofInt n = cst) (kk : AV l G S wc post (pc + 3) (b0 :: b1 :: b2 :: b3 :: b4 :: b5 :: b6 :: b7 :: some (.int (x + cst)) :: L) (st) ws) : AV l G S wc post (pc) (b0 :: b1 :: b2 :: b3 :: b4 :: b5 :: b6 :: b7 :: some (.int x) :: L) (st) ws := g_iinc (i := 8) rfl hp hn hd (by rw [hv]) kk
theorem a_iload_9 {b0 b1 b2 b3 b4 b5 b6 b7 b8 : Option Value} {x : Int32} (hd : decode (zcc S) pc = .ok (.iload 9, 2)) (kk : AV l G S wc post (pc + 2) (b0 :: b1 :: b2 :: b3 :: b4 :: b5 :: b6 :: b7 :: b8 :: some (.int x) :: L) (.int x :: st) ws) : AV l G S wc post (pc) (b0 :: b1 :: b2 :: b3 :: b4 :: b5 :: b6 :: b7 :: b8 :: some (.int x) :: L) (st) ws := g_iload (i := 9) rfl hd kk
theorem a_istore_9 {b0 b1 b2 b3 b4 b5 b6 b7 b8 : Option Value} {c : Option Value} {x : Int32} (hd : decode (zcc S) pc = .ok (.istore 9, 2)) (hp : zprev (b0 :: b1 :: b2 :: b3 :: b4 :: b5 :: b6 :: b7 :: b8 :: c :: L) 9 = true) (hn : 9 < znL S) (kk : AV l G S wc post (pc + 2) (b0 :: b1 :: b2 :: b3 :: b4 :: b5 :: b6 :: b7 :: b8 :: some (.int x) :: L) (st) ws) : AV l G S wc post (pc) (b0 :: b1 :: b2 :: b3 :: b4 :: b5 :: b6 :: b7 :: b8 :: c :: L) (.int x :: st) ws := g_istore (i := 9) hp hn hd kk
theorem a_lload_9 {b0 b1 b2 b3 b4 b5 b6 b7 b8 : Option Value} {x : Int64} (hd : decode (zcc S) pc = .ok (.lload 9, 2)) (kk : AV l G S wc post (pc + 2) (b0 :: b1 :: b2 :: b3 :: b4 :: b5 :: b6 :: b7 :: b8 :: some (.long x) :: L) (.long x :: st) ws) : AV l G S wc post (pc) (b0 :: b1 :: b2 :: b3 :: b4 :: b5 :: b6 :: b7 :: b8 :: some (.long x) :: L) (st) ws := g_lload (i := 9) rfl hd kk
theorem a_lstore_9 {b0 b1 b2 b3 b4 b5 b6 b7 b8 : Option Value} {c d : Option Value} {x : Int64} (hd : decode (zcc S) pc = .ok (.lstore 9, 2)) (hp : zprev (b0 :: b1 :: b2 :: b3 :: b4 :: b5 :: b6 :: b7 :: b8 :: c :: d :: L) 9 = true) (hn : 9 + 1 < znL S) (kk : AV l G S wc post (pc + 2) (b0 :: b1 :: b2 :: b3 :: b4 :: b5 :: b6 :: b7 :: b8 :: some (.long x) :: none :: L) (st) ws) : AV l G S wc post (pc) (b0 :: b1 :: b2 :: b3 :: b4 :: b5 :: b6 :: b7 :: b8 :: c :: d :: L) (.long x :: st) ws := g_lstore (i := 9) hp hn hd kk
theorem a_aload_9 {b0 b1 b2 b3 b4 b5 b6 b7 b8 : Option Value} {x : Nat} (hd : decode (zcc S) pc = .ok (.aload 9, 2)) (kk : AV l G S wc post (pc + 2) (b0 :: b1 :: b2 :: b3 :: b4 :: b5 :: b6 :: b7 :: b8 :: some (.ref x) :: L) (.ref x :: st) ws) : AV l G S wc post (pc) (b0 :: b1 :: b2 :: b3 :: b4 :: b5 :: b6 :: b7 :: b8 :: some (.ref x) :: L) (st) ws := g_aload (i := 9) rfl hd kk
theorem a_astore_9 {b0 b1 b2 b3 b4 b5 b6 b7 b8 : Option Value} {c : Option Value} {x : Nat} (hd : decode (zcc S) pc = .ok (.astore 9, 2)) (hp : zprev (b0 :: b1 :: b2 :: b3 :: b4 :: b5 :: b6 :: b7 :: b8 :: c :: L) 9 = true) (hn : 9 < znL S) (kk : AV l G S wc post (pc + 2) (b0 :: b1 :: b2 :: b3 :: b4 :: b5 :: b6 :: b7 :: b8 :: some (.ref x) :: L) (st) ws) : AV l G S wc post (pc) (b0 :: b1 :: b2 :: b3 :: b4 :: b5 :: b6 :: b7 :: b8 :: c :: L) (.ref x :: st) ws := g_astore (i := 9) hp hn hd kk
theorem a_iinc_9 {b0 b1 b2 b3 b4 b5 b6 b7 b8 : Option Value} {n : Int} {x cst : Int32} (hd : decode (zcc S) pc = .ok (.iinc 9 n, 3)) (hp : zprev (b0 :: b1 :: b2 :: b3 :: b4 :: b5 :: b6 :: b7 :: b8 :: some (.int x) :: L) 9 = true) (hn : 9 < znL S) (hv : Int32.ofInt n = cst) (kk : AV l G S wc post (pc + 3) (b0 :: b1 :: b2 :: b3 :: b4 :: b5 :: b6 :: b7 :: b8 :: some (.int (x + cst)) :: L) (st) ws) : AV l G S wc post (pc) (b0 :: b1 :: b2 :: b3 :: b4 :: b5 :: b6 :: b7 :: b8 :: some (.int x) :: L) (st) ws := g_iinc (i := 9) rfl hp hn hd (by rw [hv]) kk
theorem a_iload_10 {b0 b1 b2 b3 b4 b5 b6 b7 b8 b9 : Option Value} {x : Int32} (hd : decode (zcc S) pc = .ok (.iload 10, 2)) (kk : AV l G S wc post (pc + 2) (b0 :: b1 :: b2 :: b3 :: b4 :: b5 :: b6 :: b7 :: b8 :: b9 :: some (.int x) :: L) (.int x :: st) ws) : AV l G S wc post (pc) (b0 :: b1 :: b2 :: b3 :: b4 :: b5 :: b6 :: b7 :: b8 :: b9 :: some (.int x) :: L) (st) ws := g_iload (i := 10) rfl hd kk
theorem a_istore_10 {b0 b1 b2 b3 b4 b5 b6 b7 b8 b9 : Option Value} {c : Option Value} {x : Int32} (hd : decode (zcc S) pc = .ok (.istore 10, 2)) (hp : zprev (b0 :: b1 :: b2 :: b3 :: b4 :: b5 :: b6 :: b7 :: b8 :: b9 :: c :: L) 10 = true) (hn : 10 < znL S) (kk : AV l G S wc post (pc + 2) (b0 :: b1 :: b2 :: b3 :: b4 :: b5 :: b6 :: b7 :: b8 :: b9 :: some (.int x) :: L) (st) ws) : AV l G S wc post (pc) (b0 :: b1 :: b2 :: b3 :: b4 :: b5 :: b6 :: b7 :: b8 :: b9 :: c :: L) (.int x :: st) ws := g_istore (i := 10) hp hn hd kk
theorem a_lload_10 {b0 b1 b2 b3 b4 b5 b6 b7 b8 b9 : Option Value} {x : Int64} (hd : decode (zcc S) pc = .ok (.lload 10, 2)) (kk : AV l G S wc post (pc + 2) (b0 :: b1 :: b2 :: b3 :: b4 :: b5 :: b6 :: b7 :: b8 :: b9 :: some (.long x) :: L) (.long x :: st) ws) : AV l G S wc post (pc) (b0 :: b1 :: b2 :: b3 :: b4 :: b5 :: b6 :: b7 :: b8 :: b9 :: some (.long x) :: L) (st) ws := g_lload (i := 10) rfl hd kk
theorem a_lstore_10 {b0 b1 b2 b3 b4 b5 b6 b7 b8 b9 : Option Value} {c d : Option Value} {x : Int64} (hd : decode (zcc S) pc = .ok (.lstore 10, 2)) (hp : zprev (b0 :: b1 :: b2 :: b3 :: b4 :: b5 :: b6 :: b7 :: b8 :: b9 :: c :: d :: L) 10 = true) (hn : 10 + 1 < znL S) (kk : AV l G S wc post (pc + 2) (b0 :: b1 :: b2 :: b3 :: b4 :: b5 :: b6 :: b7 :: b8 :: b9 :: some (.long x) :: none :: L) (st) ws) : AV l G S wc post (pc) (b0 :: b1 :: b2 :: b3 :: b4 :: b5 :: b6 :: b7 :: b8 :: b9 :: c :: d :: L) (.long x :: st) ws := g_lstore (i := 10) hp hn hd kk
theorem a_aload_10 {b0 b1 b2 b3 b4 b5 b6 b7 b8 b9 : Option Value} {x : Nat} (hd : decode (zcc S) pc = .ok (.aload 10, 2)) (kk : AV l G S wc post (pc + 2) (b0 :: b1 :: b2 :: b3 :: b4 :: b5 :: b6 :: b7 :: b8 :: b9 :: some (.ref x) :: L) (.ref x :: st) ws) : AV l G S wc post (pc) (b0 :: b1 :: b2 :: b3 :: b4 :: b5 :: b6 :: b7 :: b8 :: b9 :: some (.ref x) :: L) (st) ws := g_aload (i := 10) rfl hd kk
theorem a_astore_10 {b0 b1 b2 b3 b4 b5 b6 b7 b8 b9 : Option Value} {c : Option Value} {x : Nat} (hd : decode (zcc S) pc = .ok (.astore 10, 2)) (hp : zprev (b0 :: b1 :: b2 :: b3 :: b4 :: b5 :: b6 :: b7 :: b8 :: b9 :: c :: L) 10 = true) (hn : 10 < znL S) (kk : AV l G S wc post (pc + 2) (b0 :: b1 :: b2 :: b3 :: b4 :: b5 :: b6 :: b7 :: b8 :: b9 :: some (.ref x) :: L) (st) ws) : AV l G S wc post (pc) (b0 :: b1 :: b2 :: b3 :: b4 :: b5 :: b6 :: b7 :: b8 :: b9 :: c :: L) (.ref x :: st) ws := g_astore (i := 10) hp hn hd kk
theorem a_iinc_10 {b0 b1 b2 b3 b4 b5 b6 b7 b8 b9 : Option Value} {n : Int} {x cst : Int32} (hd : decode (zcc S) pc = .ok (.iinc 10 n, 3)) (hp : zprev (b0 :: b1 :: b2 :: b3 :: b4 :: b5 :: b6 :: b7 :: b8 :: b9 :: some (.int x) :: L) 10 = true) (hn : 10 < znL S) (hv : Int32.ofInt n = cst) (kk : AV l G S wc post (pc + 3) (b0 :: b1 :: b2 :: b3 :: b4 :: b5 :: b6 :: b7 :: b8 :: b9 :: some (.int (x + cst)) :: L) (st) ws) : AV l G S wc post (pc) (b0 :: b1 :: b2 :: b3 :: b4 :: b5 :: b6 :: b7 :: b8 :: b9 :: some (.int x) :: L) (st) ws := g_iinc (i := 10) rfl hp hn hd (by rw [hv]) kk
theorem a_iload_11 {b0 b1 b2 b3 b4 b5 b6 b7 b8 b9 b10 : Option Value} {x : Int32} (hd : decode (zcc S) pc = .ok (.iload 11, 2)) (kk : AV l G S wc post (pc + 2) (b0 :: b1 :: b2 :: b3 :: b4 :: b5 :: b6 :: b7 :: b8 :: b9 :: b10 :: some (.int x) :: L) (.int x :: st) ws) : AV l G S wc post (pc) (b0 :: b1 :: b2 :: b3 :: b4 :: b5 :: b6 :: b7 :: b8 :: b9 :: b10 :: some (.int x) :: L) (st) ws := g_iload (i := 11) rfl hd kk
theorem a_istore_11 {b0 b1 b2 b3 b4 b5 b6 b7 b8 b9 b10 : Option Value} {c : Option Value} {x : Int32} (hd : decode (zcc S) pc = .ok (.istore 11, 2)) (hp : zprev (b0 :: b1 :: b2 :: b3 :: b4 :: b5 :: b6 :: b7 :: b8 :: b9 :: b10 :: c :: L) 11 = true) (hn : 11 < znL S) (kk : AV l G S wc post (pc + 2) (b0 :: b1 :: b2 :: b3 :: b4 :: b5 :: b6 :: b7 :: b8 :: b9 :: b10 :: some (.int x) :: L) (st) ws) : AV l G S wc post (pc) (b0 :: b1 :: b2 :: b3 :: b4 :: b5 :: b6 :: b7 :: b8 :: b9 :: b10 :: c :: L) (.int x :: st) ws := g_istore (i := 11) hp hn hd kk
theorem a_lload_11 {b0 b1 b2 b3 b4 b5 b6 b7 b8 b9 b10 : Option Value} {x : Int64} (hd : decode (zcc S) pc = .ok (.lload 11, 2)) (kk : AV l G S wc post (pc + 2) (b0 :: b1 :: b2 :: b3 :: b4 :: b5 :: b6 :: b7 :: b8 :: b9 :: b10 :: some (.long x) :: L) (.long x :: st) ws) : AV l G S wc post (pc) (b0 :: b1 :: b2 :: b3 :: b4 :: b5 :: b6 :: b7 :: b8 :: b9 :: b10 :: some (.long x) :: L) (st) ws := g_lload (i := 11) rfl hd kk
theorem a_lstore_11 {b0 b1 b2 b3 b4 b5 b6 b7 b8 b9 b10 : Option Value} {c d : Option Value} {x : Int64} (hd : decode (zcc S) pc = .ok (.lstore 11, 2)) (hp : zprev (b0 :: b1 :: b2 :: b3 :: b4 :: b5 :: b6 :: b7 :: b8 :: b9 :: b10 :: c :: d :: L) 11 = true) (hn : 11 + 1 < znL S) (kk : AV l G S wc post (pc + 2) (b0 :: b1 :: b2 :: b3 :: b4 :: b5 :: b6 :: b7 :: b8 :: b9 :: b10 :: some (.long x) :: none :: L) (st) ws) : AV l G S wc post (pc) (b0 :: b1 :: b2 :: b3 :: b4 :: b5 :: b6 :: b7 :: b8 :: b9 :: b10 :: c :: d :: L) (.long x :: st) ws := g_lstore (i := 11) hp hn hd kk
theorem a_aload_11 {b0 b1 b2 b3 b4 b5 b6 b7 b8 b9 b10 : Option Value} {x : Nat} (hd : decode (zcc S) pc = .ok (.aload 11, 2)) (kk : AV l G S wc post (pc + 2) (b0 :: b1 :: b2 :: b3 :: b4 :: b5 :: b6 :: b7 :: b8 :: b9 :: b10 :: some (.ref x) :: L) (.ref x :: st) ws) : AV l G S wc post (pc) (b0 :: b1 :: b2 :: b3 :: b4 :: b5 :: b6 :: b7 :: b8 :: b9 :: b10 :: some (.ref x) :: L) (st) ws := g_aload (i := 11) rfl hd kk
theorem a_astore_11 {b0 b1 b2 b3 b4 b5 b6 b7 b8 b9 b10 : Option Value} {c : Option Value} {x : Nat} (hd : decode (zcc S) pc = .ok (.astore 11, 2)) (hp : zprev (b0 :: b1 :: b2 :: b3 :: b4 :: b5 :: b6 :: b7 :: b8 :: b9 :: b10 :: c :: L) 11 = true) (hn : 11 < znL S) (kk : AV l G S wc post (pc + 2) (b0 :: b1 :: b2 :: b3 :: b4 :: b5 :: b6 :: b7 :: b8 :: b9 :: b10 :: some (.ref x) :: L) (st) ws) : AV l G S wc post (pc) (b0 :: b1 :: b2 :: b3 :: b4 :: b5 :: b6 :: b7 :: b8 :: b9 :: b10 :: c :: L) (.ref x :: st) ws := g_astore (i := 11) hp hn hd kk
theorem a_iinc_11 {b0 b1 b2 b3 b4 b5 b6 b7 b8 b9 b10 : Option Value} {n : Int} {x cst : Int32} (hd : decode (zcc S) pc = .ok (.iinc 11 n, 3)) (hp : zprev (b0 :: b1 :: b2 :: b3 :: b4 :: b5 :: b6 :: b7 :: b8 :: b9 :: b10 :: some (.int x) :: L) 11 = true) (hn : 11 < znL S) (hv : Int32.ofInt n = cst) (kk : AV l G S wc post (pc + 3) (b0 :: b1 :: b2 :: b3 :: b4 :: b5 :: b6 :: b7 :: b8 :: b9 :: b10 :: some (.int (x + cst)) :: L) (st) ws) : AV l G S wc post (pc) (b0 :: b1 :: b2 :: b3 :: b4 :: b5 :: b6 :: b7 :: b8 :: b9 :: b10 :: some (.int x) :: L) (st) ws := g_iinc (i := 11) rfl hp hn hd (by rw [hv]) kk
theorem a_iload_12 {b0 b1 b2 b3 b4 b5 b6 b7 b8 b9 b10 b11 : Option Value} {x : Int32} (hd : decode (zcc S) pc = .ok (.iload 12, 2)) (kk : AV l G S wc post (pc + 2) (b0 :: b1 :: b2 :: b3 :: b4 :: b5 :: b6 :: b7 :: b8 :: b9 :: b10 :: b11 :: some (.int x) :: L) (.int x :: st) ws) : AV l G S wc post (pc) (b0 :: b1 :: b2 :: b3 :: b4 :: b5 :: b6 :: b7 :: b8 :: b9 :: b10 :: b11 :: some (.int x) :: L) (st) ws := g_iload (i := 12) rfl hd kk
theorem a_istore_12 {b0 b1 b2 b3 b4 b5 b6 b7 b8 b9 b10 b11 : Option Value} {c : Option Value} {x : Int32} (hd : decode (zcc S) pc = .ok (.istore 12, 2)) (hp : zprev (b0 :: b1 :: b2 :: b3 :: b4 :: b5 :: b6 :: b7 :: b8 :: b9 :: b10 :: b11 :: c :: L) 12 = true) (hn : 12 < znL S) (kk : AV l G S wc post (pc + 2) (b0 :: b1 :: b2 :: b3 :: b4 :: b5 :: b6 :: b7 :: b8 :: b9 :: b10 :: b11 :: some (.int x) :: L) (st) ws) : AV l G S wc post (pc) (b0 :: b1 :: b2 :: b3 :: b4 :: b5 :: b6 :: b7 :: b8 :: b9 :: b10 :: b11 :: c :: L) (.int x :: st) ws := g_istore (i := 12) hp hn hd kk
theorem a_lload_12 {b0 b1 b2 b3 b4 b5 b6 b7 b8 b9 b10 b11 : Option Value} {x : Int64} (hd : decode (zcc S) pc = .ok (.lload 12, 2)) (kk : AV l G S wc post (pc + 2) (b0 :: b1 :: b2 :: b3 :: b4 :: b5 :: b6 :: b7 :: b8 :: b9 :: b10 :: b11 :: some (.long x) :: L) (.long x :: st) ws) : AV l G S wc post (pc) (b0 :: b1 :: b2 :: b3 :: b4 :: b5 :: b6 :: b7 :: b8 :: b9 :: b10 :: b11 :: some (.long x) :: L) (st) ws := g_lload (i := 12) rfl hd kk
theorem a_lstore_12 {b0 b1 b2 b3 b4 b5 b6 b7 b8 b9 b10 b11 : Option Value} {c d : Option Value} {x : Int64} (hd : decode (zcc S) pc = .ok (.lstore 12, 2)) (hp : zprev (b0 :: b1 :: b2 :: b3 :: b4 :: b5 :: b6 :: b7 :: b8 :: b9 :: b10 :: b11 :: c :: d :: L) 12 = true) (hn : 12 + 1 < znL S) (kk : AV l G S wc post (pc + 2) (b0 :: b1 :: b2 :: b3 :: b4 :: b5 :: b6 :: b7 :: b8 :: b9 :: b10 :: b11 :: some (.long x) :: none :: L) (st) ws) : AV l G S wc post (pc) (b0 :: b1 :: b2 :: b3 :: b4 :: b5 :: b6 :: b7 :: b8 :: b9 :: b10 :: b11 :: c :: d :: L) (.long x :: st) ws := g_lstore (i := 12) hp hn hd kk
theorem a_aload_12 {b0 b1 b2 b3 b4 b5 b6 b7 b8 b9 b10 b11 : Option Value} {x : Nat} (hd : decode (zcc S) pc = .ok (.aload 12, 2)) (kk : AV l G S wc post (pc + 2) (b0 :: b1 :: b2 :: b3 :: b4 :: b5 :: b6 :: b7 :: b8 :: b9 :: b10 :: b11 :: some (.ref x) :: L) (.ref x :: st) ws) : AV l G S wc post (pc) (b0 :: b1 :: b2 :: b3 :: b4 :: b5 :: b6 :: b7 :: b8 :: b9 :: b10 :: b11 :: some (.ref x) :: L) (st) ws := g_aload (i := 12) rfl hd kk
theorem a_astore_12 {b0 b1 b2 b3 b4 b5 b6 b7 b8 b9 b10 b11 : Option Value} {c : Option Value} {x : Nat} (hd : decode (zcc S) pc = .ok (.astore 12, 2)) (hp : zprev (b0 :: b1 :: b2 :: b3 :: b4 :: b5 :: b6 :: b7 :: b8 :: b9 :: b10 :: b11 :: c :: L) 12 = true) (hn : 12 < znL S) (kk : AV l G S wc post (pc + 2) (b0 :: b1 :: b2 :: b3 :: b4 :: b5 :: b6 :: b7 :: b8 :: b9 :: b10 :: b11 :: some (.ref x) :: L) (st) ws) : AV l G S wc post (pc) (b0 :: b1 :: b2 :: b3 :: b4 :: b5 :: b6 :: b7 :: b8 :: b9 :: b10 :: b11 :: c :: L) (.ref x :: st) ws := g_astore (i := 12) hp hn hd kk
theorem a_iinc_12 {b0 b1 b2 b3 b4 b5 b6 b7 b8 b9 b10 b11 : Option Value} {n : Int} {x cst : Int32} (hd : decode (zcc S) pc = .ok (.iinc 12 n, 3)) (hp : zprev (b0 :: b1 :: b2 :: b3 :: b4 :: b5 :: b6 :: b7 :: b8 :: b9 :: b10 :: b11 :: some (.int x) :: L) 12 = true) (hn : 12 < znL S) (hv : Int32.ofInt n = cst) (kk : AV l G S wc post (pc + 3) (b0 :: b1 :: b2 :: b3 :: b4 :: b5 :: b6 :: b7 :: b8 :: b9 :: b10 :: b11 :: some (.int (x + cst)) :: L) (st) ws) : AV l G S wc post (pc) (b0 :: b1 :: b2 :: b3 :: b4 :: b5 :: b6 :: b7 :: b8 :: b9 :: b10 :: b11 :: some (.int x) :: L) (st) ws := g_iinc (i := 12) rfl hp hn hd (by rw [hv]) kk
theorem a_iload_13 {b0 b1 b2 b3 b4 b5 b6 b7 b8 b9 b10 b11 b12 : Option Value} {x : Int32} (hd : decode (zcc S) pc = .ok (.iload 13, 2)) (kk : AV l G S wc post (pc + 2) (b0 :: b1 :: b2 :: b3 :: b4 :: b5 :: b6 :: b7 :: b8 :: b9 :: b10 :: b11 :: b12 :: some (.int x) :: L) (.int x :: st) ws) : AV l G S wc post (pc) (b0 :: b1 :: b2 :: b3 :: b4 :: b5 :: b6 :: b7 :: b8 :: b9 :: b10 :: b11 :: b12 :: some (.int x) :: L) (st) ws := g_iload (i := 13) rfl hd kk
theorem a_istore_13 {b0 b1 b2 b3 b4 b5 b6 b7 b8 b9 b10 b11 b12 : Option Value} {c : Option Value} {x : Int32} (hd : decode (zcc S) pc = .ok (.istore 13, 2)) (hp : zprev (b0 :: b1 :: b2 :: b3 :: b4 :: b5 :: b6 :: b7 :: b8 :: b9 :: b10 :: b11 :: b12 :: c :: L) 13 = true) (hn : 13 < znL S) (kk : AV l G S wc post (pc + 2) (b0 :: b1 :: b2 :: b3 :: b4 :: b5 :: b6 :: b7 :: b8 :: b9 :: b10 :: b11 :: b12 :: some (.int x) :: L) (st) ws) : AV l G S wc post (pc) (b0 :: b1 :: b2 :: b3 :: b4 :: b5 :: b6 :: b7 :: b8 :: b9 :: b10 :: b11 :: b12 :: c :: L) (.int x :: st) ws := g_istore (i := 13) hp hn hd kk
theorem a_lload_13 {b0 b1 b2 b3 b4 b5 b6 b7 b8 b9 b10 b11 b12 : Option Value} {x : Int64} (hd : decode (zcc S) pc = .ok (.lload 13, 2)) (kk : AV l G S wc post (pc + 2) (b0 :: b1 :: b2 :: b3 :: b4 :: b5 :: b6 :: b7 :: b8 :: b9 :: b10 :: b11 :: b12 :: some (.long x) :: L) (.long x :: st) ws) : AV l G S wc post (pc) (b0 :: b1 :: b2 :: b3 :: b4 :: b5 :: b6 :: b7 :: b8 :: b9 :: b10 :: b11 :: b12 :: some (.long x) :: L) (st) ws := g_lload (i := 13) rfl hd kk
theorem a_lstore_13 {b0 b1 b2 b3 b4 b5 b6 b7 b8 b9 b10 b11 b12 : Option Value} {c d : Option Value} {x : Int64} (hd : decode (zcc S) pc = .ok (.lstore 13, 2)) (hp : zprev (b0 :: b1 :: b2 :: b3 :: b4 :: b5 :: b6 :: b7 :: b8 :: b9 :: b10 :: b11 :: b12 :: c :: d :: L) 13 = true) (hn : 13 + 1 < znL S) (kk : AV l G S wc post (pc + 2) (b0 :: b1 :: b2 :: b3 :: b4 :: b5 :: b6 :: b7 :: b8 :: b9 :: b10 :: b11 :: b12 :: some (.long x) :: none :: L) (st) ws) : AV l G S wc post (pc) (b0 :: b1 :: b2 :: b3 :: b4 :: b5 :: b6 :: b7 :: b8 :: b9 :: b10 :: b11 :: b12 :: c :: d :: L) (.long x :: st) ws := g_lstore (i := 13) hp hn hd kk
theorem a_aload_13 {b0 b1 b2 b3 b4 b5 b6 b7 b8 b9 b10 b11 b12 : Option Value} {x : Nat} (hd : decode (zcc S) pc = .ok (.aload 13, 2)) (kk : AV l G S wc post (pc + 2) (b0 :: b1 :: b2 :: b3 :: b4 :: b5 :: b6 :: b7 :: b8 :: b9 :: b10 :: b11 :: b12 :: some (.ref x) :: L) (.ref x :: st) ws) : AV l G S wc post (pc) (b0 :: b1 :: b2 :: b3 :: b4 :: b5 :: b6 :: b7 :: b8 :: b9 :: b10 :: b11 :: b12 :: some (.ref x) :: L) (st) ws := g_aload (i := 13) rfl hd kk
theorem a_astore_13 {b0 b1 b2 b3 b4 b5 b6 b7 b8 b9 b10 b11 b12 : Option Value} {c : Option Value} {x : Nat} (hd : decode (zcc S) pc = .ok (.astore 13, 2)) (hp : zprev (b0 :: b1 :: b2 :: b3 :: b4 :: b5 :: b6 :: b7 :: b8 :: b9 :: b10 :: b11 :: b12 :: c :: L) 13 = true) (hn : 13 < znL S) (kk : AV l G S wc post (pc + 2) (b0 :: b1 :: b2 :: b3 :: b4 :: b5 :: b6 :: b7 :: b8 :: b9 :: b10 :: b11 :: b12 :: some (.ref x) :: L) (st) ws) : AV l G S wc post (pc) (b0 :: b1 :: b2 :: b3 :: b4 :: b5 :: b6 :: b7 :: b8 :: b9 :: b10 :: b11 :: b12 :: c :: L) (.ref x :: st) ws := g_astore (i := 13) hp hn hd kk
theorem a_iinc_13 {b0 b1 b2 b3 b4 b5 b6 b7 b8 b9 b10 b11 b12 : Option Value} {n : Int} {x cst : Int32} (hd : decode (zcc S) pc = .ok (.iinc 13 n, 3)) (hp : zprev (b0 :: b1 :: b2 :: b3 :: b4 :: b5 :: b6 :: b7 :: b8 :: b9 :: b10 :: b11 :: b12 :: some (.int x) :: L) 13 = true) (hn : 13 < znL S) (hv : Int32.ofInt n = cst) (kk : AV l G S wc post (pc + 3) (b0 :: b1 :: b2 :: b3 :: b4 :: b5 :: b6 :: b7 :: b8 :: b9 :: b10 :: b11 :: b12 :: some (.int (x + cst)) :: L) (st) ws) : AV l G S wc post (pc) (b0 :: b1 :: b2 :: b3 :: b4 :: b5 :: b6 :: b7 :: b8 :: b9 :: b10 :: b11 :: b12 :: some (.int x) :: L) (st) ws := g_iinc (i := 13) rfl hp hn hd (by rw [hv]) kk
theorem a_iload_14 {b0 b1 b2 b3 b4 b5 b6 b7 b8 b9 b10 b11 b12 b13 : Option Value} {x : Int32} (hd : decode (zcc S) pc = .ok (.iload 14, 2)) (kk : AV l G S wc post (pc + 2) (b0 :: b1 :: b2 :: b3 :: b4 :: b5 :: b6 :: b7 :: b8 :: b9 :: b10 :: b11 :: b12 :: b13 :: some (.int x) :: L) (.int x :: st) ws) : AV l G S wc post (pc) (b0 :: b1 :: b2 :: b3 :: b4 :: b5 :: b6 :: b7 :: b8 :: b9 :: b10 :: b11 :: b12 :: b13 :: some (.int x) :: L) (st) ws := g_iload (i := 14) rfl hd kk
theorem a_istore_14 {b0 b1 b2 b3 b4 b5 b6 b7 b8 b9 b10 b11 b12 b13 : Option Value} {c : Option Value} {x : Int32} (hd : decode (zcc S) pc = .ok (.istore 14, 2)) (hp : zprev (b0 :: b1 :: b2 :: b3 :: b4 :: b5 :: b6 :: b7 :: b8 :: b9 :: b10 :: b11 :: b12 :: b13 :: c :: L) 14 = true) (hn : 14 < znL S) (kk : AV l G S wc post (pc + 2) (b0 :: b1 :: b2 :: b3 :: b4 :: b5 :: b6 :: b7 :: b8 :: b9 :: b10 :: b11 :: b12 :: b13 :: some (.int x) :: L) (st) ws) : AV l G S wc post (pc) (b0 :: b1 :: b2 :: b3 :: b4 :: b5 :: b6 :: b7 :: b8 :: b9 :: b10 :: b11 :: b12 :: b13 :: c :: L) (.int x :: st) ws := g_istore (i := 14) hp hn hd kk
theorem a_lload_14 {b0 b1 b2 b3 b4 b5 b6 b7 b8 b9 b10 b11 b12 b13 : Option Value} {x : Int64} (hd : decode (zcc S) pc = .ok (.lload 14, 2)) (kk : AV l G S wc post (pc + 2) (b0 :: b1 :: b2 :: b3 :: b4 :: b5 :: b6 :: b7 :: b8 :: b9 :: b10 :: b11 :: b12 :: b13 :: some (.long x) :: L) (.long x :: st) ws) : AV l G S wc post (pc) (b0 :: b1 :: b2 :: b3 :: b4 :: b5 :: b6 :: b7 :: b8 :: b9 :: b10 :: b11 :: b12 :: b13 :: some (.long x) :: L) (st) ws := g_lload (i := 14) rfl hd kk
theorem a_lstore_14 {b0 b1 b2 b3 b4 b5 b6 b7 b8 b9 b10 b11 b12 b13 : Option Value} {c d : Option Value} {x : Int64} (hd : decode (zcc S) pc = .ok (.lstore 14, 2)) (hp : zprev (b0 :: b1 :: b2 :: b3 :: b4 :: b5 :: b6 :: b7 :: b8 :: b9 :: b10 :: b11 :: b12 :: b13 :: c :: d :: L) 14 = true) (hn : 14 + 1 < znL S) (kk : AV l G S wc post (pc + 2) (b0 :: b1 :: b2 :: b3 :: b4 :: b5 :: b6 :: b7 :: b8 :: b9 :: b10 :: b11 :: b12 :: b13 :: some (.long x) :: none :: L) (st) ws) : AV l G S wc post (pc) (b0 :: b1 :: b2 :: b3 :: b4 :: b5 :: b6 :: b7 :: b8 :: b9 :: b10 :: b11 :: b12 :: b13 :: c :: d :: L) (.long x :: st) ws := g_lstore (i := 14) hp hn hd kk
theorem a_aload_14 {b0 b1 b2 b3 b4 b5 b6 b7 b8 b9 b10 b11 b12 b13 : Option Value} {x : Nat} (hd : decode (zcc S) pc = .ok (.aload 14, 2)) (kk : AV l G S wc post (pc + 2) (b0 :: b1 :: b2 :: b3 :: b4 :: b5 :: b6 :: b7 :: b8 :: b9 :: b10 :: b11 :: b12 :: b13 :: some (.ref x) :: L) (.ref x :: st) ws) : AV l G S wc post (pc) (b0 :: b1 :: b2 :: b3 :: b4 :: b5 :: b6 :: b7 :: b8 :: b9 :: b10 :: b11 :: b12 :: b13 :: some (.ref x) :: L) (st) ws := g_aload (i := 14) rfl hd kk
theorem a_astore_14 {b0 b1 b2 b3 b4 b5 b6 b7 b8 b9 b10 b11 b12 b13 : Option Value} {c : Option Value} {x : Nat} (hd : decode (zcc S) pc = .ok (.astore 14, 2)) (hp : zprev (b0 :: b1 :: b2 :: b3 :: b4 :: b5 :: b6 :: b7 :: b8 :: b9 :: b10 :: b11 :: b12 :: b13 :: c :: L) 14 = true) (hn : 14 < znL S) (kk : AV l G S wc post (pc + 2) (b0 :: b1 :: b2 :: b3 :: b4 :: b5 :: b6 :: b7 :: b8 :: b9 :: b10 :: b11 :: b12 :: b13 :: some (.ref x) :: L) (st) ws) : AV l G S wc post (pc) (b0 :: b1 :: b2 :: b3 :: b4 :: b5 :: b6 :: b7 :: b8 :: b9 :: b10 :: b11 :: b12 :: b13 :: c :: L) (.ref x :: st) ws := g_astore (i := 14) hp hn hd kk
theorem a_iinc_14 {b0 b1 b2 b3 b4 b5 b6 b7 b8 b9 b10 b11 b12 b13 : Option Value} {n : Int} {x cst : Int32} (hd : decode (zcc S) pc = .ok (.iinc 14 n, 3)) (hp : zprev (b0 :: b1 :: b2 :: b3 :: b4 :: b5 :: b6 :: b7 :: b8 :: b9 :: b10 :: b11 :: b12 :: b13 :: some (.int x) :: L) 14 = true) (hn : 14 < znL S) (hv : Int32.ofInt n = cst) (kk : AV l G S wc post (pc + 3) (b0 :: b1 :: b2 :: b3 :: b4 :: b5 :: b6 :: b7 :: b8 :: b9 :: b10 :: b11 :: b12 :: b13 :: some (.int (x + cst)) :: L) (st) ws) : AV l G S wc post (pc) (b0 :: b1 :: b2 :: b3 :: b4 :: b5 :: b6 :: b7 :: b8 :: b9 :: b10 :: b11 :: b12 :: b13 :: some (.int x) :: L) (st) ws := g_iinc (i := 14) rfl hp hn hd (by rw [hv]) kk
theorem a_iload_15 {b0 b1 b2 b3 b4 b5 b6 b7 b8 b9 b10 b11 b12 b13 b14 : Option Value} {x : Int32} (hd : decode (zcc S) pc = .ok (.iload 15, 2)) (kk : AV l G S wc post (pc + 2) (b0 :: b1 :: b2 :: b3 :: b4 :: b5 :: b6 :: b7 :: b8 :: b9 :: b10 :: b11 :: b12 :: b13 :: b14 :: some (.int x) :: L) (.int x :: st) ws) : AV l G S wc post (pc) (b0 :: b1 :: b2 :: b3 :: b4 :: b5 :: b6 :: b7 :: b8 :: b9 :: b10 :: b11 :: b12 :: b13 :: b14 :: some (.int x) :: L) (st) ws := g_iload (i := 15) rfl hd kk
theorem a_istore_15 {b0 b1 b2 b3 b4 b5 b6 b7 b8 b9 b10 b11 b12 b13 b14 : Option Value} {c : Option Value} {x : Int32} (hd : decode (zcc S) pc = .ok (.istore 15, 2)) (hp : zprev (b0 :: b1 :: b2 :: b3 :: b4 :: b5 :: b6 :: b7 :: b8 :: b9 :: b10 :: b11 :: b12 :: b13 :: b14 :: c :: L) 15 = true) (hn : 15 < znL S) (kk : AV l G S wc post (pc + 2) (b0 :: b1 :: b2 :: b3 :: b4 :: b5 :: b6 :: b7 :: b8 :: b9 :: b10 :: b11 :: b12 :: b13 :: b14 :: some (.int x) :: L) (st) ws) : AV l G S wc post (pc) (b0 :: b1 :: b2 :: b3 :: b4 :: b5 :: b6 :: b7 :: b8 :: b9 :: b10 :: b11 :: b12 :: b13 :: b14 :: c :: L) (.int x :: st) ws := g_istore (i := 15) hp hn hd kk
theorem a_lload_15 {b0 b1 b2 b3 b4 b5 b6 b7 b8 b9 b10 b11 b12 b13 b14 : Option Value} {x : Int64} (hd : decode (zcc S) pc = .ok (.lload 15, 2)) (kk : AV l G S wc post (pc + 2) (b0 :: b1 :: b2 :: b3 :: b4 :: b5 :: b6 :: b7 :: b8 :: b9 :: b10 :: b11 :: b12 :: b13 :: b14 :: some (.long x) :: L) (.long x :: st) ws) : AV l G S wc post (pc) (b0 :: b1 :: b2 :: b3 :: b4 :: b5 :: b6 :: b7 :: b8 :: b9 :: b10 :: b11 :: b12 :: b13 :: b14 :: some (.long x) :: L) (st) ws := g_lload (i := 15) rfl hd kk
theorem a_lstore_15 {b0 b1 b2 b3 b4 b5 b6 b7 b8 b9 b10 b11 b12 b13 b14 : Option Value} {c d : Option Value} {x : Int64} (hd : decode (zcc S) pc = .ok (.lstore 15, 2)) (hp : zprev (b0 :: b1 :: b2 :: b3 :: b4 :: b5 :: b6 :: b7 :: b8 :: b9 :: b10 :: b11 :: b12 :: b13 :: b14 :: c :: d :: L) 15 = true) (hn : 15 + 1 < znL S) (kk : AV l G S wc post (pc + 2) (b0 :: b1 :: b2 :: b3 :: b4 :: b5 :: b6 :: b7 :: b8 :: b9 :: b10 :: b11 :: b12 :: b13 :: b14 :: some (.long x) :: none :: L) (st) ws) : AV l G S wc post (pc) (b0 :: b1 :: b2 :: b3 :: b4 :: b5 :: b6 :: b7 :: b8 :: b9 :: b10 :: b11 :: b12 :: b13 :: b14 :: c :: d :: L) (.long x :: st) ws := g_lstore (i := 15) hp hn hd kk
theorem a_aload_15 {b0 b1 b2 b3 b4 b5 b6 b7 b8 b9 b10 b11 b12 b13 b14 : Option Value} {x : Nat} (hd : decode (zcc S) pc = .ok (.aload 15, 2)) (kk : AV l G S wc post (pc + 2) (b0 :: b1 :: b2 :: b3 :: b4 :: b5 :: b6 :: b7 :: b8 :: b9 :: b10 :: b11 :: b12 :: b13 :: b14 :: some (.ref x) :: L) (.ref x :: st) ws) : AV l G S wc post (pc) (b0 :: b1 :: b2 :: b3 :: b4 :: b5 :: b6 :: b7 :: b8 :: b9 :: b10 :: b11 :: b12 :: b13 :: b14 :: some (.ref x) :: L) (st) ws := g_aload (i := 15) rfl hd kk
theorem a_astore_15 {b0 b1 b2 b3 b4 b5 b6 b7 b8 b9 b10 b11 b12 b13 b14 : Option Value} {c : Option Value} {x : Nat} (hd : decode (zcc S) pc = .ok (.astore 15, 2)) (hp : zprev (b0 :: b1 :: b2 :: b3 :: b4 :: b5 :: b6 :: b7 :: b8 :: b9 :: b10 :: b11 :: b12 :: b13 :: b14 :: c :: L) 15 = true) (hn : 15 < znL S) (kk : AV l G S wc post (pc + 2) (b0 :: b1 :: b2 :: b3 :: b4 :: b5 :: b6 :: b7 :: b8 :: b9 :: b10 :: b11 :: b12 :: b13 :: b14 :: some (.ref x) :: L) (st) ws) : AV l G S wc post (pc) (b0 :: b1 :: b2 :: b3 :: b4 :: b5 :: b6 :: b7 :: b8 :: b9 :: b10 :: b11 :: b12 :: b13 :: b14 :: c :: L) (.ref x :: st) ws := g_astore (i := 15) hp hn hd kk
theorem a_iinc_15 {b0 b1 b2 b3 b4 b5 b6 b7 b8 b9 b10 b11 b12 b13 b14 : Option Value} {n : Int} {x cst : Int32} (hd : decode (zcc S) pc = .ok (.iinc 15 n, 3)) (hp : zprev (b0 :: b1 :: b2 :: b3 :: b4 :: b5 :: b6 :: b7 :: b8 :: b9 :: b10 :: b11 :: b12 :: b13 :: b14 :: some (.int x) :: L) 15 = true) (hn : 15 < znL S) (hv : Int32.ofInt n = cst) (kk : AV l G S wc post (pc + 3) (b0 :: b1 :: b2 :: b3 :: b4 :: b5 :: b6 :: b7 :: b8 :: b9 :: b10 :: b11 :: b12 :: b13 :: b14 :: some (.int (x + cst)) :: L) (st) ws) : AV l G S wc post (pc) (b0 :: b1 :: b2 :: b3 :: b4 :: b5 :: b6 :: b7 :: b8 :: b9 :: b10 :: b11 :: b12 :: b13 :: b14 :: some (.int x) :: L) (st) ws := g_iinc (i := 15) rfl hp hn hd (by rw [hv]) kk
theorem a_iload_16 {b0 b1 b2 b3 b4 b5 b6 b7 b8 b9 b10 b11 b12 b13 b14 b15 : Option Value} {x : Int32} (hd : decode (zcc S) pc = .ok (.iload 16, 2)) (kk : AV l G S wc post (pc + 2) (b0 :: b1 :: b2 :: b3 :: b4 :: b5 :: b6 :: b7 :: b8 :: b9 :: b10 :: b11 :: b12 :: b13 :: b14 :: b15 :: some (.int x) :: L) (.int x :: st) ws) : AV l G S wc post (pc) (b0 :: b1 :: b2 :: b3 :: b4 :: b5 :: b6 :: b7 :: b8 :: b9 :: b10 :: b11 :: b12 :: b13 :: b14 :: b15 :: some (.int x) :: L) (st) ws := g_iload (i := 16) rfl hd kk
theorem a_istore_16 {b0 b1 b2 b3 b4 b5 b6 b7 b8 b9 b10 b11 b12 b13 b14 b15 : Option Value} {c : Option Value} {x : Int32} (hd : decode (zcc S) pc = .ok (.istore 16, 2)) (hp : zprev (b0 :: b1 :: b2 :: b3 :: b4 :: b5 :: b6 :: b7 :: b8 :: b9 :: b10 :: b11 :: b12 :: b13 :: b14 :: b15 :: c :: L) 16 = true) (hn : 16 < znL S) (kk : AV l G S wc post (pc + 2) (b0 :: b1 :: b2 :: b3 :: b4 :: b5 :: b6 :: b7 :: b8 :: b9 :: b10 :: b11 :: b12 :: b13 :: b14 :: b15 :: some (.int x) :: L) (st) ws) : AV l G S wc post (pc) (b0 :: b1 :: b2 :: b3 :: b4 :: b5 :: b6 :: b7 :: b8 :: b9 :: b10 :: b11 :: b12 :: b13 :: b14 :: b15 :: c :: L) (.int x :: st) ws := g_istore (i := 16) hp hn hd kk
theorem a_lload_16 {b0 b1 b2 b3 b4 b5 b6 b7 b8 b9 b10 b11 b12 b13 b14 b15 : Option Value} {x : Int64} (hd : decode (zcc S) pc = .ok (.lload 16, 2)) (kk : AV l G S wc post (pc + 2) (b0 :: b1 :: b2 :: b3 :: b4 :: b5 :: b6 :: b7 :: b8 :: b9 :: b10 :: b11 :: b12 :: b13 :: b14 :: b15 :: some (.long x) :: L) (.long x :: st) ws) : AV l G S wc post (pc) (b0 :: b1 :: b2 :: b3 :: b4 :: b5 :: b6 :: b7 :: b8 :: b9 :: b10 :: b11 :: b12 :: b13 :: b14 :: b15 :: some (.long x) :: L) (st) ws := g_lload (i := 16) rfl hd kk
theorem a_lstore_16 {b0 b1 b2 b3 b4 b5 b6 b7 b8 b9 b10 b11 b12 b13 b14 b15 : Option Value} {c d : Option Value} {x : Int64} (hd : decode (zcc S) pc = .ok (.lstore 16, 2)) (hp : zprev (b0 :: b1 :: b2 :: b3 :: b4 :: b5 :: b6 :: b7 :: b8 :: b9 :: b10 :: b11 :: b12 :: b13 :: b14 :: b15 :: c :: d :: L) 16 = true) (hn : 16 + 1 < znL S) (kk : AV l G S wc post (pc + 2) (b0 :: b1 :: b2 :: b3 :: b4 :: b5 :: b6 :: b7 :: b8 :: b9 :: b10 :: b11 :: b12 :: b13 :: b14 :: b15 :: some (.long x) :: none :: L) (st) ws) : AV l G S wc post (pc) (b0 :: b1 :: b2 :: b3 :: b4 :: b5 :: b6 :: b7 :: b8 :: b9 :: b10 :: b11 :: b12 :: b13 :: b14 :: b15 :: c :: d :: L) (.long x :: st) ws := g_lstore (i := 16) hp hn hd kk
theorem a_aload_16 {b0 b1 b2 b3 b4 b5 b6 b7 b8 b9 b10 b11 b12 b13 b14 b15 : Option Value} {x : Nat} (hd : decode (zcc S) pc = .ok (.aload 16, 2)) (kk : AV l G S wc post (pc + 2) (b0 :: b1 :: b2 :: b3 :: b4 :: b5 :: b6 :: b7 :: b8 :: b9 :: b10 :: b11 :: b12 :: b13 :: b14 :: b15 :: some (.ref x) :: L) (.ref x :: st) ws) : AV l G S wc post (pc) (b0 :: b1 :: b2 :: b3 :: b4 :: b5 :: b6 :: b7 :: b8 :: b9 :: b10 :: b11 :: b12 :: b13 :: b14 :: b15 :: some (.ref x) :: L) (st) ws := g_aload (i := 16) rfl hd kk
theorem a_astore_16 {b0 b1 b2 b3 b4 b5 b6 b7 b8 b9 b10 b11 b12 b13 b14 b15 : Option Value} {c : Option Value} {x : Nat} (hd : decode (zcc S) pc = .ok (.astore 16, 2)) (hp : zprev (b0 :: b1 :: b2 :: b3 :: b4 :: b5 :: b6 :: b7 :: b8 :: b9 :: b10 :: b11 :: b12 :: b13 :: b14 :: b15 :: c :: L) 16 = true) (hn : 16 < znL S) (kk : AV l G S wc post (pc + 2) (b0 :: b1 :: b2 :: b3 :: b4 :: b5 :: b6 :: b7 :: b8 :: b9 :: b10 :: b11 :: b12 :: b13 :: b14 :: b15 :: some (.ref x) :: L) (st) ws) : AV l G S wc post (pc) (b0 :: b1 :: b2 :: b3 :: b4 :: b5 :: b6 :: b7 :: b8 :: b9 :: b10 :: b11 :: b12 :: b13 :: b14 :: b15 :: c :: L) (.ref x :: st) ws := g_astore (i := 16) hp hn hd kk
theorem a_iinc_16 {b0 b1 b2 b3 b4 b5 b6 b7 b8 b9 b10 b11 b12 b13 b14 b15 : Option Value} {n : Int} {x cst : Int32} (hd : decode (zcc S) pc = .ok (.iinc 16 n, 3)) (hp : zprev (b0 :: b1 :: b2 :: b3 :: b4 :: b5 :: b6 :: b7 :: b8 :: b9 :: b10 :: b11 :: b12 :: b13 :: b14 :: b15 :: some (.int x) :: L) 16 = true) (hn : 16 < znL S) (hv : Int32.ofInt n = cst) (kk : AV l G S wc post (pc + 3) (b0 :: b1 :: b2 :: b3 :: b4 :: b5 :: b6 :: b7 :: b8 :: b9 :: b10 :: b11 :: b12 :: b13 :: b14 :: b15 :: some (.int (x + cst)) :: L) (st) ws) : AV l G S wc post (pc) (b0 :: b1 :: b2 :: b3 :: b4 :: b5 :: b6 :: b7 :: b8 :: b9 :: b10 :: b11 :: b12 :: b13 :: b14 :: b15 :: some (.int x) :: L) (st) ws := g_iinc (i := 16) rfl hp hn hd (by rw [hv]) kk
theorem a_iload_17 {b0 b1 b2 b3 b4 b5 b6 b7 b8 b9 b10 b11 b12 b13 b14 b15 b16 : Option Value} {x : Int32} (hd : decode (zcc S) pc = .ok (.iload 17, 2)) (kk : AV l G S wc post (pc + 2) (b0 :: b1 :: b2 :: b3 :: b4 :: b5 :: b6 :: b7 :: b8 :: b9 :: b10 :: b11 :: b12 :: b13 :: b14 :: b15 :: b16 :: some (.int x) :: L) (.int x :: st) ws) : AV l G S wc post (pc) (b0 :: b1 :: b2 :: b3 :: b4 :: b5 :: b6 :: b7 :: b8 :: b9 :: b10 :: b11 :: b12 :: b13 :: b14 :: b15 :: b16 :: some (.int x) :: L) (st) ws := g_iload (i := 17) rfl hd kk
theorem a_istore_17 {b0 b1 b2 b3 b4 b5 b6 b7 b8 b9 b10 b11 b12 b13 b14 b15 b16 : Option Value} {c : Option Value} {x : Int32} (hd : decode (zcc S) pc = .ok (.istore 17, 2)) (hp : zprev (b0 :: b1 :: b2 :: b3 :: b4 :: b5 :: b6 :: b7 :: b8 :: b9 :: b10 :: b11 :: b12 :: b13 :: b14 :: b15 :: b16 :: c :: L) 17 = true) (hn : 17 < znL S) (kk : AV l G S wc post (pc + 2) (b0 :: b1 :: b2 :: b3 :: b4 :: b5 :: b6 :: b7 :: b8 :: b9 :: b10 :: b11 :: b12 :: b13 :: b14 :: b15 :: b16 :: some (.int x) :: L) (st) ws) : AV l G S wc post (pc) (b0 :: b1 :: b2 :: b3 :: b4 :: b5 :: b6 :: b7 :: b8 :: b9 :: b10 :: b11 :: b12 :: b13 :: b14 :: b15 :: b16 :: c :: L) (.int x :: st) ws := g_istore (i := 17) hp hn hd kk
theorem a_lload_17 {b0 b1 b2 b3 b4 b5 b6 b7 b8 b9 b10 b11 b12 b13 b14 b15 b16 : Option Value} {x : Int64} (hd : decode (zcc S) pc = .ok (.lload 17, 2)) (kk : AV l G S wc post (pc + 2) (b0 :: b1 :: b2 :: b3 :: b4 :: b5 :: b6 :: b7 :: b8 :: b9 :: b10 :: b11 :: b12 :: b13 :: b14 :: b15 :: b16 :: some (.long x) :: L) (.long x :: st) ws) : AV l G S wc post (pc) (b0 :: b1 :: b2 :: b3 :: b4 :: b5 :: b6 :: b7 :: b8 :: b9 :: b10 :: b11 :: b12 :: b13 :: b14 :: b15 :: b16 :: some (.long x) :: L) (st) ws := g_lload (i := 17) rfl hd kk
theorem a_lstore_17 {b0 b1 b2 b3 b4 b5 b6 b7 b8 b9 b10 b11 b12 b13 b14 b15 b16 : Option Value} {c d : Option Value} {x : Int64} (hd : decode (zcc S) pc = .ok (.lstore 17, 2)) (hp : zprev (b0 :: b1 :: b2 :: b3 :: b4 :: b5 :: b6 :: b7 :: b8 :: b9 :: b10 :: b11 :: b12 :: b13 :: b14 :: b15 :: b16 :: c :: d :: L) 17 = true) (hn : 17 + 1 < znL S) (kk : AV l G S wc post (pc + 2) (b0 :: b1 :: b2 :: b3 :: b4 :: b5 :: b6 :: b7 :: b8 :: b9 :: b10 :: b11 :: b12 :: b13 :: b14 :: b15 :: b16 :: some (.long x) :: none :: L) (st) ws) : AV l G S wc post (pc) (b0 :: b1 :: b2 :: b3 :: b4 :: b5 :: b6 :: b7 :: b8 :: b9 :: b10 :: b11 :: b12 :: b13 :: b14 :: b15 :: b16 :: c :: d :: L) (.long x :: st) ws := g_lstore (i := 17) hp hn hd kk
theorem a_aload_17 {b0 b1 b2 b3 b4 b5 b6 b7 b8 b9 b10 b11 b12 b13 b14 b15 b16 : Option Value} {x : Nat} (hd : decode (zcc S) pc = .ok (.aload 17, 2)) (kk : AV l G S wc post (pc + 2) (b0 :: b1 :: b2 :: b3 :: b4 :: b5 :: b6 :: b7 :: b8 :: b9 :: b10 :: b11 :: b12 :: b13 :: b14 :: b15 :: b16 :: some (.ref x) :: L) (.ref x :: st) ws) : AV l G S wc post (pc) (b0 :: b1 :: b2 :: b3 :: b4 :: b5 :: b6 :: b7 :: b8 :: b9 :: b10 :: b11 :: b12 :: b13 :: b14 :: b15 :: b16 :: some (.ref x) :: L) (st) ws := g_aload (i := 17) rfl hd kk
theorem a_astore_17 {b0 b1 b2 b3 b4 b5 b6 b7 b8 b9 b10 b11 b12 b13 b14 b15 b16 : Option Value} {c : Option Value} {x : Nat} (hd : decode (zcc S) pc = .ok (.astore 17, 2)) (hp : zprev (b0 :: b1 :: b2 :: b3 :: b4 :: b5 :: b6 :: b7 :: b8 :: b9 :: b10 :: b11 :: b12 :: b13 :: b14 :: b15 :: b16 :: c :: L) 17 = true) (hn : 17 < znL S) (kk : AV l G S wc post (pc + 2) (b0 :: b1 :: b2 :: b3 :: b4 :: b5 :: b6 :: b7 :: b8 :: b9 :: b10 :: b11 :: b12 :: b13 :: b14 :: b15 :: b16 :: some (.ref x) :: L) (st) ws) : AV l G S wc post (pc) (b0 :: b1 :: b2 :: b3 :: b4 :: b5 :: b6 :: b7 :: b8 :: b9 :: b10 :: b11 :: b12 :: b13 :: b14 :: b15 :: b16 :: c :: L) (.ref x :: st) ws := g_astore (i := 17) hp hn hd kk
theorem a_iinc_17 {b0 b1 b2 b3 b4 b5 b6 b7 b8 b9 b10 b11 b12 b13 b14 b15 b16 : Option Value} {n : Int} {x cst : Int32} (hd : decode (zcc S) pc = .ok (.iinc 17 n, 3)) (hp : zprev (b0 :: b1 :: b2 :: b3 :: b4 :: b5 :: b6 :: b7 :: b8 :: b9 :: b10 :: b11 :: b12 :: b13 :: b14 :: b15 :: b16 :: some (.int x) :: L) 17 = true) (hn : 17 < znL S) (hv : Int32.ofInt n = cst) (kk : AV l G S wc post (pc + 3) (b0 :: b1 :: b2 :: b3 :: b4 :: b5 :: b6 :: b7 :: b8 :: b9 :: b10 :: b11 :: b12 :: b13 :: b14 :: b15 :: b16 :: some (.int (x + cst)) :: L) (st) ws) : AV l G S wc post (pc) (b0 :: b1 :: b2 :: b3 :: b4 :: b5 :: b6 :: b7 :: b8 :: b9 :: b10 :: b11 :: b12 :: b13 :: b14 :: b15 :: b16 :: some (.int x) :: L) (st) ws := g_iinc (i := 17) rfl hp hn hd (by rw [hv]) kk
theorem a_iload_18 {b0 b1 b2 b3 b4 b5 b6 b7 b8 b9 b10 b11 b12 b13 b14 b15 b16 b17 : Option Value} {x : Int32} (hd : decode (zcc S) pc = .ok (.iload 18, 2)) (kk : AV l G S wc post (pc + 2) (b0 :: b1 :: b2 :: b3 :: b4 :: b5 :: b6 :: b7 :: b8 :: b9 :: b10 :: b11 :: b12 :: b13 :: b14 :: b15 :: b16 :: b17 :: some (.int x) :: L) (.int x :: st) ws) : AV l G S wc post (pc) (b0 :: b1 :: b2 :: b3 :: b4 :: b5 :: b6 :: b7 :: b8 :: b9 :: b10 :: b11 :: b12 :: b13 :: b14 :: b15 :: b16 :: b17 :: some (.int x) :: L) (st) ws := g_iload (i := 18) rfl hd kk
theorem a_istore_18 {b0 b1 b2 b3 b4 b5 b6 b7 b8 b9 b10 b11 b12 b13 b14 b15 b16 b17 : Option Value} {c : Option Value} {x : Int32} (hd : decode (zcc S) pc = .ok (.istore 18, 2)) (hp : zprev (b0 :: b1 :: b2 :: b3 :: b4 :: b5 :: b6 :: b7 :: b8 :: b9 :: b10 :: b11 :: b12 :: b13 :: b14 :: b15 :: b16 :: b17 :: c :: L) 18 = true) (hn : 18 < znL S) (kk : AV l G S wc post (pc + 2) (b0 :: b1 :: b2 :: b3 :: b4 :: b5 :: b6 :: b7 :: b8 :: b9 :: b10 :: b11 :: b12 :: b13 :: b14 :: b15 :: b16 :: b17 :: some (.int x) :: L) (st) ws) : AV l G S wc post (pc) (b0 :: b1 :: b2 :: b3 :: b4 :: b5 :: b6 :: b7 :: b8 :: b9 :: b10 :: b11 :: b12 :: b13 :: b14 :: b15 :: b16 :: b17 :: c :: L) (.int x :: st) ws := g_istore (i := 18) hp hn hd kk
theorem a_lload_18 {b0 b1 b2 b3 b4 b5 b6 b7 b8 b9 b10 b11 b12 b13 b14 b15 b16 b17 : Option Value} {x : Int64} (hd : decode (zcc S) pc = .ok (.lload 18, 2)) (kk : AV l G S wc post (pc + 2) (b0 :: b1 :: b2 :: b3 :: b4 :: b5 :: b6 :: b7 :: b8 :: b9 :: b10 :: b11 :: b12 :: b13 :: b14 :: b15 :: b16 :: b17 :: some (.long x) :: L) (.long x :: st) ws) : AV l G S wc post (pc) (b0 :: b1 :: b2 :: b3 :: b4 :: b5 :: b6 :: b7 :: b8 :: b9 :: b10 :: b11 :: b12 :: b13 :: b14 :: b15 :: b16 :: b17 :: some (.long x) :: L) (st) ws := g_lload (i := 18) rfl hd kk
theorem a_lstore_18 {b0 b1 b2 b3 b4 b5 b6 b7 b8 b9 b10 b11 b12 b13 b14 b15 b16 b17 : Option Value} {c d : Option Value} {x : Int64} (hd : decode (zcc S) pc = .ok (.lstore 18, 2)) (hp : zprev (b0 :: b1 :: b2 :: b3 :: b4 :: b5 :: b6 :: b7 :: b8 :: b9 :: b10 :: b11 :: b12 :: b13 :: b14 :: b15 :: b16 :: b17 :: c :: d :: L) 18 = true) (hn : 18 + 1 < znL S) (kk : AV l G S wc post (pc + 2) (b0 :: b1 :: b2 :: b3 :: b4 :: b5 :: b6 :: b7 :: b8 :: b9 :: b10 :: b11 :: b12 :: b13 :: b14 :: b15 :: b16 :: b17 :: some (.long x) :: none :: L) (st) ws) : AV l G S wc post (pc) (b0 :: b1 :: b2 :: b3 :: b4 :: b5 :: b6 :: b7 :: b8 :: b9 :: b10 :: b11 :: b12 :: b13 :: b14 :: b15 :: b16 :: b17 :: c :: d :: L) (.long x :: st) ws := g_lstore (i := 18) hp hn hd kk
theorem a_aload_18 {b0 b1 b2 b3 b4 b5 b6 b7 b8 b9 b10 b11 b12 b13 b14 b15 b16 b17 : Option Value} {x : Nat} (hd : decode (zcc S) pc = .ok (.aload 18, 2)) (kk : AV l G S wc post (pc + 2) (b0 :: b1 :: b2 :: b3 :: b4 :: b5 :: b6 :: b7 :: b8 :: b9 :: b10 :: b11 :: b12 :: b13 :: b14 :: b15 :: b16 :: b17 :: some (.ref x) :: L) (.ref x :: st) ws) : AV l G S wc post (pc) (b0 :: b1 :: b2 :: b3 :: b4 :: b5 :: b6 :: b7 :: b8 :: b9 :: b10 :: b11 :: b12 :: b13 :: b14 :: b15 :: b16 :: b17 :: some (.ref x) :: L) (st) ws := g_aload (i := 18) rfl hd kk
theorem a_astore_18 {b0 b1 b2 b3 b4 b5 b6 b7 b8 b9 b10 b11 b12 b13 b14 b15 b16 b17 : Option Value} {c : Option Value} {x : Nat} (hd : decode (zcc S) pc = .ok (.astore 18, 2)) (hp : zprev (b0 :: b1 :: b2 :: b3 :: b4 :: b5 :: b6 :: b7 :: b8 :: b9 :: b10 :: b11 :: b12 :: b13 :: b14 :: b15 :: b16 :: b17 :: c :: L) 18 = true) (hn : 18 < znL S) (kk : AV l G S wc post (pc + 2) (b0 :: b1 :: b2 :: b3 :: b4 :: b5 :: b6 :: b7 :: b8 :: b9 :: b10 :: b11 :: b12 :: b13 :: b14 :: b15 :: b16 :: b17 :: some (.ref x) :: L) (st) ws) : AV l G S wc post (pc) (b0 :: b1 :: b2 :: b3 :: b4 :: b5 :: b6 :: b7 :: b8 :: b9 :: b10 :: b11 :: b12 :: b13 :: b14 :: b15 :: b16 :: b17 :: c :: L) (.ref x :: st) ws := g_astore (i := 18) hp hn hd kk
theorem a_iinc_18 {b0 b1 b2 b3 b4 b5 b6 b7 b8 b9 b10 b11 b12 b13 b14 b15 b16 b17 : Option Value} {n : Int} {x cst : Int32} (hd : decode (zcc S) pc = .ok (.iinc 18 n, 3)) (hp : zprev (b0 :: b1 :: b2 :: b3 :: b4 :: b5 :: b6 :: b7 :: b8 :: b9 :: b10 :: b11 :: b12 :: b13 :: b14 :: b15 :: b16 :: b17 :: some (.int x) :: L) 18 = true) (hn : 18 < znL S) (hv : Int32.ofInt n = cst) (kk : AV l G S wc post (pc + 3) (b0 :: b1 :: b2 :: b3 :: b4 :: b5 :: b6 :: b7 :: b8 :: b9 :: b10 :: b11 :: b12 :: b13 :: b14 :: b15 :: b16 :: b17 :: some (.int (x + cst)) :: L) (st) ws) : AV l G S wc post (pc) (b0 :: b1 :: b2 :: b3 :: b4 :: b5 :: b6 :: b7 :: b8 :: b9 :: b10 :: b11 :: b12 :: b13 :: b14 :: b15 :: b16 :: b17 :: some (.int x) :: L) (st) ws := g_iinc (i := 18) rfl hp hn hd (by rw [hv]) kk
theorem a_iload_19 {b0 b1 b2 b3 b4 b5 b6 b7 b8 b9 b10 b11 b12 b13 b14 b15 b16 b17 b18 : Option Value} {x : Int32} (hd : decode (zcc S) pc = .ok (.iload 19, 2)) (kk : AV l G S wc post (pc + 2) (b0 :: b1 :: b2 :: b3 :: b4 :: b5 :: b6 :: b7 :: b8 :: b9 :: b10 :: b11 :: b12 :: b13 :: b14 :: b15 :: b16 :: b17 :: b18 :: some (.int x) :: L) (.int x :: st) ws) : AV l G S wc post (pc) (b0 :: b1 :: b2 :: b3 :: b4 :: b5 :: b6 :: b7 :: b8 :: b9 :: b10 :: b11 :: b12 :: b13 :: b14 :: b15 :: b16 :: b17 :: b18 :: some (.int x) :: L) (st) ws := g_iload (i := 19) rfl hd kk
theorem a_istore_19 {b0 b1 b2 b3 b4 b5 b6 b7 b8 b9 b10 b11 b12 b13 b14 b15 b16 b17 b18 : Option Value} {c : Option Value} {x : Int32} (hd : decode (zcc S) pc = .ok (.istore 19, 2)) (hp : zprev (b0 :: b1 :: b2 :: b3 :: b4 :: b5 :: b6 :: b7 :: b8 :: b9 :: b10 :: b11 :: b12 :: b13 :: b14 :: b15 :: b16 :: b17 :: b18 :: c :: L) 19 = true) (hn : 19 < znL S) (kk : AV l G S wc post (pc + 2) (b0 :: b1 :: b2 :: b3 :: b4 :: b5 :: b6 :: b7 :: b8 :: b9 :: b10 :: b11 :: b12 :: b13 :: b14 :: b15 :: b16 :: b17 :: b18 :: some (.int x) :: L) (st) ws) : AV l G S wc post (pc) (b0 :: b1 :: b2 :: b3 :: b4 :: b5 :: b6 :: b7 :: b8 :: b9 :: b10 :: b11 :: b12 :: b13 :: b14 :: b15 :: b16 :: b17 :: b18 :: c :: L) (.int x :: st) ws := g_istore (i := 19) hp hn hd kk
theorem a_lload_19 {b0 b1 b2 b3 b4 b5 b6 b7 b8 b9 b10 b11 b12 b13 b14 b15 b16 b17 b18 : Option Value} {x : Int64} (hd : decode (zcc S) pc = .ok (.lload 19, 2)) (kk : AV l G S wc post (pc + 2) (b0 :: b1 :: b2 :: b3 :: b4 :: b5 :: b6 :: b7 :: b8 :: b9 :: b10 :: b11 :: b12 :: b13 :: b14 :: b15 :: b16 :: b17 :: b18 :: some (.long x) :: L) (.long x :: st) ws) : AV l G S wc post (pc) (b0 :: b1 :: b2 :: b3 :: b4 :: b5 :: b6 :: b7 :: b8 :: b9 :: b10 :: b11 :: b12 :: b13 :: b14 :: b15 :: b16 :: b17 :: b18 :: some (.long x) :: L) (st) ws := g_lload (i := 19) rfl hd kk
theorem a_lstore_19 {b0 b1 b2 b3 b4 b5 b6 b7 b8 b9 b10 b11 b12 b13 b14 b15 b16 b17 b18 : Option Value} {c d : Option Value} {x : Int64} (hd : decode (zcc S) pc = .ok (.lstore 19, 2)) (hp : zprev (b0 :: b1 :: b2 :: b3 :: b4 :: b5 :: b6 :: b7 :: b8 :: b9 :: b10 :: b11 :: b12 :: b13 :: b14 :: b15 :: b16 :: b17 :: b18 :: c :: d :: L) 19 = true) (hn : 19 + 1 < znL S) (kk : AV l G S wc post (pc + 2) (b0 :: b1 :: b2 :: b3 :: b4 :: b5 :: b6 :: b7 :: b8 :: b9 :: b10 :: b11 :: b12 :: b13 :: b14 :: b15 :: b16 :: b17 :: b18 :: some (.long x) :: none :: L) (st) ws) : AV l G S wc post (pc) (b0 :: b1 :: b2 :: b3 :: b4 :: b5 :: b6 :: b7 :: b8 :: b9 :: b10 :: b11 :: b12 :: b13 :: b14 :: b15 :: b16 :: b17 :: b18 :: c :: d :: L) (.long x :: st) ws := g_lstore (i := 19) hp hn hd kk
theorem a_aload_19 {b0 b1 b2 b3 b4 b5 b6 b7 b8 b9 b10 b11 b12 b13 b14 b15 b16 b17 b18 : Option Value} {x : Nat} (hd : decode (zcc S) pc = .ok (.aload 19, 2)) (kk : AV l G S wc post (pc + 2) (b0 :: b1 :: b2 :: b3 :: b4 :: b5 :: b6 :: b7 :: b8 :: b9 :: b10 :: b11 :: b12 :: b13 :: b14 :: b15 :: b16 :: b17 :: b18 :: some (.ref x) :: L) (.ref x :: st) ws) : AV l G S wc post (pc) (b0 :: b1 :: b2 :: b3 :: b4 :: b5 :: b6 :: b7 :: b8 :: b9 :: b10 :: b11 :: b12 :: b13 :: b14 :: b15 :: b16 :: b17 :: b18 :: some (.ref x) :: L) (st) ws := g_aload (i := 19) rfl hd kk
theorem a_astore_19 {b0 b1 b2 b3 b4 b5 b6 b7 b8 b9 b10 b11 b12 b13 b14 b15 b16 b17 b18 : Option Value} {c : Option Value} {x : Nat} (hd : decode (zcc S) pc = .ok (.astore 19, 2)) (hp : zprev (b0 :: b1 :: b2 :: b3 :: b4 :: b5 :: b6 :: b7 :: b8 :: b9 :: b10 :: b11 :: b12 :: b13 :: b14 :: b15 :: b16 :: b17 :: b18 :: c :: L) 19 = true) (hn : 19 < znL S) (kk : AV l G S wc post (pc + 2) (b0 :: b1 :: b2 :: b3 :: b4 :: b5 :: b6 :: b7 :: b8 :: b9 :: b10 :: b11 :: b12 :: b13 :: b14 :: b15 :: b16 :: b17 :: b18 :: some (.ref x) :: L) (st) ws) : AV l G S wc post (pc) (b0 :: b1 :: b2 :: b3 :: b4 :: b5 :: b6 :: b7 :: b8 :: b9 :: b10 :: b11 :: b12 :: b13 :: b14 :: b15 :: b16 :: b17 :: b18 :: c :: L) (.ref x :: st) ws := g_astore (i := 19) hp hn hd kk
theorem a_iinc_19 {b0 b1 b2 b3 b4 b5 b6 b7 b8 b9 b10 b11 b12 b13 b14 b15 b16 b17 b18 : Option Value} {n : Int} {x cst : Int32} (hd : decode (zcc S) pc = .ok (.iinc 19 n, 3)) (hp : zprev (b0 :: b1 :: b2 :: b3 :: b4 :: b5 :: b6 :: b7 :: b8 :: b9 :: b10 :: b11 :: b12 :: b13 :: b14 :: b15 :: b16 :: b17 :: b18 :: some (.int x) :: L) 19 = true) (hn : 19 < znL S) (hv : Int32.ofInt n = cst) (kk : AV l G S wc post (pc + 3) (b0 :: b1 :: b2 :: b3 :: b4 :: b5 :: b6 :: b7 :: b8 :: b9 :: b10 :: b11 :: b12 :: b13 :: b14 :: b15 :: b16 :: b17 :: b18 :: some (.int (x + cst)) :: L) (st) ws) : AV l G S wc post (pc) (b0 :: b1 :: b2 :: b3 :: b4 :: b5 :: b6 :: b7 :: b8 :: b9 :: b10 :: b11 :: b12 :: b13 :: b14 :: b15 :: b16 :: b17 :: b18 :: some (.int x) :: L) (st) ws := g_iinc (i := 19) rfl hp hn hd (by rw [hv]) kk
theorem a_lif_eq {x y : Int64} {off : Int} {tgt : Nat} (hd : decode (zcc S) pc = .ok (.lcmp, 1)) (hd2 : decode (zcc S) (pc + 1) = .ok (.ifCond .eq off, 3)) (ht : ((pc + 1 : Nat) : Int) + off = (tgt : Int)) (kt : x = y → AV l G S wc post (tgt) L (st) ws) (kf : ¬ (x = y) → AV l G S wc post (pc + 1 + 3) L (st) ws) : AV l G S wc post (pc) L (.long y :: .long x :: st) ws := by
  refine a_lcmp hd (a_if_eq hd2 ht (fun h => kt ?_) (fun h => kf ?_))
  · exact (zcmp_eq x y).mp h
  · exact fun q => h ((zcmp_eq x y).mpr q)
theorem a_lif_ne {x y : Int64} {off : Int} {tgt : Nat} (hd : decode (zcc S) pc = .ok (.lcmp, 1)) (hd2 : decode (zcc S) (pc + 1) = .ok (.ifCond .ne off, 3)) (ht : ((pc + 1 : Nat) : Int) + off = (tgt : Int)) (kt : ¬ x = y → AV l G S wc post (tgt) L (st) ws) (kf : x = y → AV l G S wc post (pc + 1 + 3) L (st) ws) : AV l G S wc post (pc) L (.long y :: .long x :: st) ws := by
  refine a_lcmp hd (a_if_ne hd2 ht (fun h => kt ?_) (fun h => kf ?_))
  · exact (zcmp_ne x y).mp h
  · exact (zcmp_eq x y).mp h
theorem a_lif_lt {x y : Int64} {off : Int} {tgt : Nat} (hd : decode (zcc S) pc = .ok (.lcmp, 1)) (hd2 : decode (zcc S) (pc + 1) = .ok (.ifCond .lt off, 3)) (ht : ((pc + 1 : Nat) : Int) + off = (tgt : Int)) (kt : x < y → AV l G S wc post (tgt) L (st) ws) (kf : ¬ (x < y) → AV l G S wc post (pc + 1 + 3) L (st) ws) : AV l G S wc post (pc) L (.long y :: .long x :: st) ws := by
  refine a_lcmp hd (a_if_lt hd2 ht (fun h => kt ?_) (fun h => kf ?_))
  · exact (zcmp_lt x y).mp h
  · exact fun q => h ((zcmp_lt x y).mpr q)
theorem a_lif_ge {x y : Int64} {off : Int} {tgt : Nat} (hd : decode (zcc S) pc = .ok (.lcmp, 1)) (hd2 : decode (zcc S) (pc + 1) = .ok (.ifCond .ge off, 3)) (ht : ((pc + 1 : Nat) : Int) + off = (tgt : Int)) (kt : y ≤ x → AV l G S wc post (tgt) L (st) ws) (kf : ¬ (y ≤ x) → AV l G S wc post (pc + 1 + 3) L (st) ws) : AV l G S wc post (pc) L (.long y :: .long x :: st) ws := by
  refine a_lcmp hd (a_if_ge hd2 ht (fun h => kt ?_) (fun h => kf ?_))
  · exact (zcmp_ge x y).mp h
  · exact fun q => h ((zcmp_ge x y).mpr q)
theorem a_lif_gt {x y : Int64} {off : Int} {tgt : Nat} (hd : decode (zcc S) pc = .ok (.lcmp, 1)) (hd2 : decode (zcc S) (pc + 1) = .ok (.ifCond .gt off, 3)) (ht : ((pc + 1 : Nat) : Int) + off = (tgt : Int)) (kt : y < x → AV l G S wc post (tgt) L (st) ws) (kf : ¬ (y < x) → AV l G S wc post (pc + 1 + 3) L (st) ws) : AV l G S wc post (pc) L (.long y :: .long x :: st) ws := by
  refine a_lcmp hd (a_if_gt hd2 ht (fun h => kt ?_) (fun h => kf ?_))
  · exact (zcmp_gt x y).mp h
  · exact fun q => h ((zcmp_gt x y).mpr q)
theorem a_lif_le {x y : Int64} {off : Int} {tgt : Nat} (hd : decode (zcc S) pc = .ok (.lcmp, 1)) (hd2 : decode (zcc S) (pc + 1) = .ok (.ifCond .le off, 3)) (ht : ((pc + 1 : Nat) : Int) + off = (tgt : Int)) (kt : x ≤ y → AV l G S wc post (tgt) L (st) ws) (kf : ¬ (x ≤ y) → AV l G S wc post (pc + 1 + 3) L (st) ws) : AV l G S wc post (pc) L (.long y :: .long x :: st) ws := by
  refine a_lcmp hd (a_if_le hd2 ht (fun h => kt ?_) (fun h => kf ?_))
  · exact (zcmp_le x y).mp h
  · exact fun q => h ((zcmp_le x y).mpr q)
end ZR
end

section
-- ===== PART A: goes FIRST, ahead of the names: the tables' words, and 'selects' of the private methods out of them =====
/-- a private method of a class that the tables say can be made, by its rows of tables_1 -/
def lw_okq (q : MethodName × Nat) : Prop := (q.1.cls ≠ "java/lang/invoke/MethodHandle" ∧ q.1.cls ≠ "java/lang/invoke/VarHandle") ∧ Cond.instantiable q.1.cls q.2 ∈ tables_1 ∧ Cond.privateMethod q.1 ∈ tables_1 ∧ Cond.instanceMethod q.1 ∈ tables_1
theorem lw_p0 : lw_okq (⟨"SaltPlant", "letFlow", "()V"⟩, 11) := ⟨⟨by decide +kernel, by decide +kernel⟩, List.mem_of_getElem? (i := 12) (by decide +kernel), List.mem_of_getElem? (i := 255) (by decide +kernel), List.mem_of_getElem? (i := 256) (by decide +kernel)⟩
theorem lw_p1 : lw_okq (⟨"SaltPlant$Flows", "runStage", "(III)V"⟩, 13) := ⟨⟨by decide +kernel, by decide +kernel⟩, List.mem_of_getElem? (i := 52) (by decide +kernel), List.mem_of_getElem? (i := 270) (by decide +kernel), List.mem_of_getElem? (i := 271) (by decide +kernel)⟩
theorem lw_p2 : lw_okq (⟨"SaltPlant$Flows", "runVessel", "(IIJJ)V"⟩, 13) := ⟨⟨by decide +kernel, by decide +kernel⟩, List.mem_of_getElem? (i := 52) (by decide +kernel), List.mem_of_getElem? (i := 277) (by decide +kernel), List.mem_of_getElem? (i := 278) (by decide +kernel)⟩
theorem lw_p3 : lw_okq (⟨"SaltPlant", "powerAt", "(I)J"⟩, 11) := ⟨⟨by decide +kernel, by decide +kernel⟩, List.mem_of_getElem? (i := 12) (by decide +kernel), List.mem_of_getElem? (i := 303) (by decide +kernel), List.mem_of_getElem? (i := 304) (by decide +kernel)⟩
theorem lw_p4 : lw_okq (⟨"SaltPlant", "passDay", "()V"⟩, 11) := ⟨⟨by decide +kernel, by decide +kernel⟩, List.mem_of_getElem? (i := 12) (by decide +kernel), List.mem_of_getElem? (i := 334) (by decide +kernel), List.mem_of_getElem? (i := 335) (by decide +kernel)⟩
theorem lw_p5 : lw_okq (⟨"SaltPlant", "isPair", "(II)Z"⟩, 11) := ⟨⟨by decide +kernel, by decide +kernel⟩, List.mem_of_getElem? (i := 12) (by decide +kernel), List.mem_of_getElem? (i := 361) (by decide +kernel), List.mem_of_getElem? (i := 362) (by decide +kernel)⟩
theorem lw_p6 : lw_okq (⟨"SaltPlant", "sweetWaterIfChanged", "(II)J"⟩, 11) := ⟨⟨by decide +kernel, by decide +kernel⟩, List.mem_of_getElem? (i := 12) (by decide +kernel), List.mem_of_getElem? (i := 369) (by decide +kernel), List.mem_of_getElem? (i := 370) (by decide +kernel)⟩
theorem lw_p7 : lw_okq (⟨"SaltPlant", "suits", "(II)Z"⟩, 11) := ⟨⟨by decide +kernel, by decide +kernel⟩, List.mem_of_getElem? (i := 12) (by decide +kernel), List.mem_of_getElem? (i := 388) (by decide +kernel), List.mem_of_getElem? (i := 389) (by decide +kernel)⟩
theorem lw_p8 : lw_okq (⟨"SaltPlant$Hours", "laterAt", "(I)I"⟩, 4) := ⟨⟨by decide +kernel, by decide +kernel⟩, List.mem_of_getElem? (i := 110) (by decide +kernel), List.mem_of_getElem? (i := 439) (by decide +kernel), List.mem_of_getElem? (i := 440) (by decide +kernel)⟩
theorem lw_p9 : lw_okq (⟨"SaltPlantModel", "pass", "(I)I"⟩, 27) := ⟨⟨by decide +kernel, by decide +kernel⟩, List.mem_of_getElem? (i := 507) (by decide +kernel), List.mem_of_getElem? (i := 618) (by decide +kernel), List.mem_of_getElem? (i := 619) (by decide +kernel)⟩
theorem lw_p10 : lw_okq (⟨"SaltPlantModel", "leak", "(I)I"⟩, 27) := ⟨⟨by decide +kernel, by decide +kernel⟩, List.mem_of_getElem? (i := 507) (by decide +kernel), List.mem_of_getElem? (i := 622) (by decide +kernel), List.mem_of_getElem? (i := 623) (by decide +kernel)⟩
theorem lw_p11 : lw_okq (⟨"SaltPlantModel", "exchange", "(II)V"⟩, 27) := ⟨⟨by decide +kernel, by decide +kernel⟩, List.mem_of_getElem? (i := 507) (by decide +kernel), List.mem_of_getElem? (i := 639) (by decide +kernel), List.mem_of_getElem? (i := 640) (by decide +kernel)⟩
theorem lw_p12 : lw_okq (⟨"SaltPlantModel", "isThere", "(I)Z"⟩, 27) := ⟨⟨by decide +kernel, by decide +kernel⟩, List.mem_of_getElem? (i := 507) (by decide +kernel), List.mem_of_getElem? (i := 647) (by decide +kernel), List.mem_of_getElem? (i := 648) (by decide +kernel)⟩
theorem lw_p13 : lw_okq (⟨"SaltPlantModel", "isStage", "(I)Z"⟩, 27) := ⟨⟨by decide +kernel, by decide +kernel⟩, List.mem_of_getElem? (i := 507) (by decide +kernel), List.mem_of_getElem? (i := 651) (by decide +kernel), List.mem_of_getElem? (i := 652) (by decide +kernel)⟩
theorem lw_p14 : lw_okq (⟨"SaltPlantModel", "flowNow", "()V"⟩, 27) := ⟨⟨by decide +kernel, by decide +kernel⟩, List.mem_of_getElem? (i := 507) (by decide +kernel), List.mem_of_getElem? (i := 656) (by decide +kernel), List.mem_of_getElem? (i := 657) (by decide +kernel)⟩
theorem lw_p15 : lw_okq (⟨"SaltPlantModel", "flowAt", "(I)V"⟩, 27) := ⟨⟨by decide +kernel, by decide +kernel⟩, List.mem_of_getElem? (i := 507) (by decide +kernel), List.mem_of_getElem? (i := 660) (by decide +kernel), List.mem_of_getElem? (i := 661) (by decide +kernel)⟩
def lw_privs_1 : List (MethodName × Nat) := [(⟨"SaltPlant", "letFlow", "()V"⟩, 11), (⟨"SaltPlant$Flows", "runStage", "(III)V"⟩, 13), (⟨"SaltPlant$Flows", "runVessel", "(IIJJ)V"⟩, 13), (⟨"SaltPlant", "powerAt", "(I)J"⟩, 11), (⟨"SaltPlant", "passDay", "()V"⟩, 11), (⟨"SaltPlant", "isPair", "(II)Z"⟩, 11), (⟨"SaltPlant", "sweetWaterIfChanged", "(II)J"⟩, 11), (⟨"SaltPlant", "suits", "(II)Z"⟩, 11), (⟨"SaltPlant$Hours", "laterAt", "(I)I"⟩, 4), (⟨"SaltPlantModel", "pass", "(I)I"⟩, 27), (⟨"SaltPlantModel", "leak", "(I)I"⟩, 27), (⟨"SaltPlantModel", "exchange", "(II)V"⟩, 27), (⟨"SaltPlantModel", "isThere", "(I)Z"⟩, 27), (⟨"SaltPlantModel", "isStage", "(I)Z"⟩, 27), (⟨"SaltPlantModel", "flowNow", "()V"⟩, 27), (⟨"SaltPlantModel", "flowAt", "(I)V"⟩, 27)]
theorem lw_r1 : ∀ q ∈ lw_privs_1, lw_okq q := List.forall_mem_cons.mpr ⟨lw_p0, List.forall_mem_cons.mpr ⟨lw_p1, List.forall_mem_cons.mpr ⟨lw_p2, List.forall_mem_cons.mpr ⟨lw_p3, List.forall_mem_cons.mpr ⟨lw_p4, List.forall_mem_cons.mpr ⟨lw_p5, List.forall_mem_cons.mpr ⟨lw_p6, List.forall_mem_cons.mpr ⟨lw_p7, List.forall_mem_cons.mpr ⟨lw_p8, List.forall_mem_cons.mpr ⟨lw_p9, List.forall_mem_cons.mpr ⟨lw_p10, List.forall_mem_cons.mpr ⟨lw_p11, List.forall_mem_cons.mpr ⟨lw_p12, List.forall_mem_cons.mpr ⟨lw_p13, List.forall_mem_cons.mpr ⟨lw_p14, List.forall_mem_cons.mpr ⟨lw_p15, fun _ h => absurd h List.not_mem_nil⟩⟩⟩⟩⟩⟩⟩⟩⟩⟩⟩⟩⟩⟩⟩⟩
theorem lw_p16 : lw_okq (⟨"SaltPlantModel", "vessel", "(IIJJJ)V"⟩, 27) := ⟨⟨by decide +kernel, by decide +kernel⟩, List.mem_of_getElem? (i := 507) (by decide +kernel), List.mem_of_getElem? (i := 667) (by decide +kernel), List.mem_of_getElem? (i := 668) (by decide +kernel)⟩
theorem lw_p17 : lw_okq (⟨"SaltPlantModel", "skin", "(IJJJ)V"⟩, 27) := ⟨⟨by decide +kernel, by decide +kernel⟩, List.mem_of_getElem? (i := 507) (by decide +kernel), List.mem_of_getElem? (i := 671) (by decide +kernel), List.mem_of_getElem? (i := 672) (by decide +kernel)⟩
theorem lw_p18 : lw_okq (⟨"SaltPlantModel", "powerAt", "(I)J"⟩, 27) := ⟨⟨by decide +kernel, by decide +kernel⟩, List.mem_of_getElem? (i := 507) (by decide +kernel), List.mem_of_getElem? (i := 690) (by decide +kernel), List.mem_of_getElem? (i := 691) (by decide +kernel)⟩
theorem lw_p19 : lw_okq (⟨"SaltPlantModel", "failing", "()I"⟩, 27) := ⟨⟨by decide +kernel, by decide +kernel⟩, List.mem_of_getElem? (i := 507) (by decide +kernel), List.mem_of_getElem? (i := 698) (by decide +kernel), List.mem_of_getElem? (i := 699) (by decide +kernel)⟩
theorem lw_p20 : lw_okq (⟨"SaltPlantModel", "day", "()V"⟩, 27) := ⟨⟨by decide +kernel, by decide +kernel⟩, List.mem_of_getElem? (i := 507) (by decide +kernel), List.mem_of_getElem? (i := 714) (by decide +kernel), List.mem_of_getElem? (i := 715) (by decide +kernel)⟩
theorem lw_p21 : lw_okq (⟨"SaltPlantModel", "isContent", "(I)Z"⟩, 27) := ⟨⟨by decide +kernel, by decide +kernel⟩, List.mem_of_getElem? (i := 507) (by decide +kernel), List.mem_of_getElem? (i := 750) (by decide +kernel), List.mem_of_getElem? (i := 751) (by decide +kernel)⟩
theorem lw_p22 : lw_okq (⟨"SaltPlantModel", "findPlan", "()V"⟩, 27) := ⟨⟨by decide +kernel, by decide +kernel⟩, List.mem_of_getElem? (i := 507) (by decide +kernel), List.mem_of_getElem? (i := 754) (by decide +kernel), List.mem_of_getElem? (i := 755) (by decide +kernel)⟩
theorem lw_p23 : lw_okq (⟨"SaltPlantModel", "costFrom", "(IIZ)I"⟩, 27) := ⟨⟨by decide +kernel, by decide +kernel⟩, List.mem_of_getElem? (i := 507) (by decide +kernel), List.mem_of_getElem? (i := 758) (by decide +kernel), List.mem_of_getElem? (i := 759) (by decide +kernel)⟩
theorem lw_p24 : lw_okq (⟨"SaltPlantModel", "behind", "(IIZ)I"⟩, 27) := ⟨⟨by decide +kernel, by decide +kernel⟩, List.mem_of_getElem? (i := 507) (by decide +kernel), List.mem_of_getElem? (i := 762) (by decide +kernel), List.mem_of_getElem? (i := 763) (by decide +kernel)⟩
theorem lw_p25 : lw_okq (⟨"SaltPlantModel", "go", "(I)I"⟩, 27) := ⟨⟨by decide +kernel, by decide +kernel⟩, List.mem_of_getElem? (i := 507) (by decide +kernel), List.mem_of_getElem? (i := 770) (by decide +kernel), List.mem_of_getElem? (i := 771) (by decide +kernel)⟩
def lw_privs_2 : List (MethodName × Nat) := [(⟨"SaltPlantModel", "vessel", "(IIJJJ)V"⟩, 27), (⟨"SaltPlantModel", "skin", "(IJJJ)V"⟩, 27), (⟨"SaltPlantModel", "powerAt", "(I)J"⟩, 27), (⟨"SaltPlantModel", "failing", "()I"⟩, 27), (⟨"SaltPlantModel", "day", "()V"⟩, 27), (⟨"SaltPlantModel", "isContent", "(I)Z"⟩, 27), (⟨"SaltPlantModel", "findPlan", "()V"⟩, 27), (⟨"SaltPlantModel", "costFrom", "(IIZ)I"⟩, 27), (⟨"SaltPlantModel", "behind", "(IIZ)I"⟩, 27), (⟨"SaltPlantModel", "go", "(I)I"⟩, 27)]
theorem lw_r2 : ∀ q ∈ lw_privs_2, lw_okq q := List.forall_mem_cons.mpr ⟨lw_p16, List.forall_mem_cons.mpr ⟨lw_p17, List.forall_mem_cons.mpr ⟨lw_p18, List.forall_mem_cons.mpr ⟨lw_p19, List.forall_mem_cons.mpr ⟨lw_p20, List.forall_mem_cons.mpr ⟨lw_p21, List.forall_mem_cons.mpr ⟨lw_p22, List.forall_mem_cons.mpr ⟨lw_p23, List.forall_mem_cons.mpr ⟨lw_p24, List.forall_mem_cons.mpr ⟨lw_p25, fun _ h => absurd h List.not_mem_nil⟩⟩⟩⟩⟩⟩⟩⟩⟩⟩
def lw_privs : List (MethodName × Nat) := lw_privs_1 ++ (lw_privs_2)
def lw_tbl : List Cond := k2_sels lw_privs ++ tables_1
theorem lw_privs_ok : ∀ q ∈ lw_privs, lw_okq q := by
  show ∀ q ∈ lw_privs_1 ++ (lw_privs_2), lw_okq q
  exact List.forall_mem_append.mpr ⟨lw_r1, lw_r2⟩
end
section
/-! ===== BEGIN words of one list among another's, by their places ===== -/
theorem goodIn_r {big : List Cond} (ws : List Cond) (ps : List Nat) (hp : ws = ps.filterMap (fun i => big[i]?)) (h : ws.all goodWord = true) : GoodIn big ws := by
  intro w hw
  have h1 := List.all_eq_true.mp h w hw
  rw [hp] at hw
  obtain ⟨i, -, hi⟩ := List.mem_filterMap.mp hw
  have hm : w ∈ big := by first | exact List.mem_of_getElem? hi | exact List.getElem?_mem hi
  exact ⟨hm, good_of_word h1⟩
theorem goodIn_app {big a b : List Cond} (ha : GoodIn big a) (hb : GoodIn big b) : GoodIn big (a ++ b) := fun w h => (List.mem_append.mp h).elim (ha w) (hb w)
theorem goodIn_ca {big a b : List Cond} {c : Cond} (ha : GoodIn big (c :: a)) (hb : GoodIn big b) : GoodIn big (c :: (a ++ b)) := fun w h => (List.mem_cons.mp h).elim (fun e => ha w (List.mem_cons.mpr (Or.inl e))) (fun h => (List.mem_append.mp h).elim (fun h => ha w (List.mem_cons.mpr (Or.inr h))) (hb w))
theorem goodIn_sub {big ws : List Cond} (hm : ∀ w ∈ ws, w ∈ big) (h : ws.all goodWord = true) : GoodIn big ws := fun w hw => ⟨hm w hw, good_of_word (List.all_eq_true.mp h w hw)⟩
/-! ===== END ===== -/

def RX0 : String := "SaltPlant$Flows"
def TX0 : u_T := fun k => match k with
  | 0 => ("SaltPlant$Flows", "pass", "[I", true)
  | 1 => ("SaltPlant$Flows", "leak", "[I", true)
  | 2 => ("SaltPlant$Flows", "water", "[J", true)
  | 3 => ("SaltPlant$Flows", "grains", "[J", true)
  | 4 => ("SaltPlant$Flows", "pressure", "[J", true)
  | 5 => ("SaltPlant$Flows", "through", "[J", true)
  | 6 => ("SaltPlant$Flows", "throughSalt", "[J", true)
  | 7 => ("SaltPlant$Flows", "throughGrains", "[J", true)
  | 8 => ("SaltPlant$Flows", "stayWater", "J", false)
  | 9 => ("SaltPlant$Flows", "stayGrains", "J", false)
  | 10 => ("SaltPlant$Flows", "stayPressure", "J", false)
  | 11 => ("SaltPlant$Flows", "sweetWater", "J", false)
  | _ => ("SaltPlant$Flows", "sweetGrains", "J", false)
def tyX0 : Nat → FieldType := fun k => match k with
  | 0 => .array .int
  | 1 => .array .int
  | 2 => .array .long
  | 3 => .array .long
  | 4 => .array .long
  | 5 => .array .long
  | 6 => .array .long
  | 7 => .array .long
  | 8 => .long
  | 9 => .long
  | 10 => .long
  | 11 => .long
  | _ => .long
abbrev wsX00 : List Cond := u_ws RX0 TX0 13
theorem nmX0 : ∀ a, a < 13 → ∀ b, b < 13 → a ≠ b → (TX0 a).2.1 ≠ (TX0 b).2.1 := by decide +kernel
theorem tyX0_ok : ∀ k, k < 13 → parseFieldDescriptor (TX0 k).2.2.1 = some (tyX0 k) := by decide +kernel
abbrev cX0_init : ByteArray := prog_2_method_1_code
def yX0_init : MethodName := ⟨RX0, "<init>", "()V"⟩
abbrev cX0_saltOf : ByteArray := prog_2_method_2_code
def yX0_saltOf : MethodName := ⟨RX0, "saltOf", "(JJ)J"⟩
abbrev cX0_take : ByteArray := prog_2_method_3_code
def yX0_take : MethodName := ⟨RX0, "take", "(LSaltPlant$Skins;)V"⟩
abbrev cX0_areAlike : ByteArray := prog_2_method_4_code
def yX0_areAlike : MethodName := ⟨RX0, "areAlike", "(II)Z"⟩
abbrev cX0_exchange : ByteArray := prog_2_method_5_code
def yX0_exchange : MethodName := ⟨RX0, "exchange", "(II)V"⟩
abbrev cX0_run : ByteArray := prog_2_method_6_code
def yX0_run : MethodName := ⟨RX0, "run", "(LSaltPlant$Layout;JJJ)V"⟩
abbrev cX0_runStage : ByteArray := prog_2_method_7_code
def yX0_runStage : MethodName := ⟨RX0, "runStage", "(III)V"⟩
abbrev cX0_runVessel : ByteArray := prog_2_method_8_code
def yX0_runVessel : MethodName := ⟨RX0, "runVessel", "(IIJJ)V"⟩
abbrev cX0_firstFailure : ByteArray := prog_2_method_9_code
def yX0_firstFailure : MethodName := ⟨RX0, "firstFailure", "(LSaltPlant$Layout;II)J"⟩
def RX1 : String := "SaltPlant$Hours"
def TX1 : u_T := fun k => match k with
  | 0 => ("SaltPlant$Hours", "prices", "[I", true)
  | 1 => ("SaltPlant$Hours", "needs", "[I", true)
  | 2 => ("SaltPlant$Hours", "now", "[I", true)
  | _ => ("SaltPlant$Hours", "later", "[I", true)
def tyX1 : Nat → FieldType := fun k => match k with
  | 0 => .array .int
  | 1 => .array .int
  | 2 => .array .int
  | _ => .array .int
abbrev wsX10 : List Cond := u_ws RX1 TX1 4
theorem nmX1 : ∀ a, a < 4 → ∀ b, b < 4 → a ≠ b → (TX1 a).2.1 ≠ (TX1 b).2.1 := by decide +kernel
theorem tyX1_ok : ∀ k, k < 4 → parseFieldDescriptor (TX1 k).2.2.1 = some (tyX1 k) := by decide +kernel
abbrev cX1_init : ByteArray := prog_3_method_1_code
def yX1_init : MethodName := ⟨RX1, "<init>", "()V"⟩
abbrev cX1_mostOf : ByteArray := prog_3_method_2_code
def yX1_mostOf : MethodName := ⟨RX1, "mostOf", "(I)I"⟩
abbrev cX1_rowOf : ByteArray := prog_3_method_3_code
def yX1_rowOf : MethodName := ⟨RX1, "rowOf", "(I)[I"⟩
abbrev cX1_isPlan : ByteArray := prog_3_method_4_code
def yX1_isPlan : MethodName := ⟨RX1, "isPlan", "(I)Z"⟩
abbrev cX1_costOf : ByteArray := prog_3_method_5_code
def yX1_costOf : MethodName := ⟨RX1, "costOf", "(I)I"⟩
abbrev cX1_runsAt : ByteArray := prog_3_method_6_code
def yX1_runsAt : MethodName := ⟨RX1, "runsAt", "(II)Z"⟩
abbrev cX1_bitsOf : ByteArray := prog_3_method_7_code
def yX1_bitsOf : MethodName := ⟨RX1, "bitsOf", "(I)I"⟩
abbrev cX1_behind : ByteArray := prog_3_method_8_code
def yX1_behind : MethodName := ⟨RX1, "behind", "(III)I"⟩
abbrev cX1_best : ByteArray := prog_3_method_9_code
def yX1_best : MethodName := ⟨RX1, "best", "(III)I"⟩
abbrev cX1_laterAt : ByteArray := prog_3_method_10_code
def yX1_laterAt : MethodName := ⟨RX1, "laterAt", "(I)I"⟩
def RX2 : String := "SaltPlant$Layout"
def TX2 : u_T := fun k => match k with
  | 0 => ("SaltPlant$Layout", "vessels", "[I", true)
  | _ => ("SaltPlant$Layout", "inVessel", "I", false)
def tyX2 : Nat → FieldType := fun k => match k with
  | 0 => .array .int
  | _ => .int
abbrev wsX20 : List Cond := u_ws RX2 TX2 2
theorem nmX2 : ∀ a, a < 2 → ∀ b, b < 2 → a ≠ b → (TX2 a).2.1 ≠ (TX2 b).2.1 := by decide +kernel
theorem tyX2_ok : ∀ k, k < 2 → parseFieldDescriptor (TX2 k).2.2.1 = some (tyX2 k) := by decide +kernel
abbrev cX2_init : ByteArray := prog_4_method_1_code
def yX2_init : MethodName := ⟨RX2, "<init>", "()V"⟩
abbrev cX2_vesselsIn : ByteArray := prog_4_method_2_code
def yX2_vesselsIn : MethodName := ⟨RX2, "vesselsIn", "(I)I"⟩
abbrev cX2_standing : ByteArray := prog_4_method_3_code
def yX2_standing : MethodName := ⟨RX2, "standing", "()I"⟩
abbrev cX2_holdsSkin : ByteArray := prog_4_method_4_code
def yX2_holdsSkin : MethodName := ⟨RX2, "holdsSkin", "(I)Z"⟩
abbrev cX2_become : ByteArray := prog_4_method_5_code
def yX2_become : MethodName := ⟨RX2, "become", "(I)Z"⟩
abbrev cX2_digits : ByteArray := prog_4_method_6_code
def yX2_digits : MethodName := ⟨RX2, "digits", "()I"⟩
def RX3 : String := "SaltPlant$Sheet"
def TX3 : u_T := fun k => match k with
  | 0 => ("SaltPlant$Sheet", "places", "[S", true)
  | _ => ("SaltPlant$Sheet", "size", "I", false)
def tyX3 : Nat → FieldType := fun k => match k with
  | 0 => .array .short
  | _ => .int
abbrev wsX30 : List Cond := u_ws RX3 TX3 2
theorem nmX3 : ∀ a, a < 2 → ∀ b, b < 2 → a ≠ b → (TX3 a).2.1 ≠ (TX3 b).2.1 := by decide +kernel
theorem tyX3_ok : ∀ k, k < 2 → parseFieldDescriptor (TX3 k).2.2.1 = some (tyX3 k) := by decide +kernel
abbrev cX3_init : ByteArray := prog_5_method_1_code
def yX3_init : MethodName := ⟨RX3, "<init>", "()V"⟩
abbrev cX3_isMissing : ByteArray := prog_5_method_2_code
def yX3_isMissing : MethodName := ⟨RX3, "isMissing", "()Z"⟩
abbrev cX3_begin : ByteArray := prog_5_method_3_code
def yX3_begin : MethodName := ⟨RX3, "begin", "(I)V"⟩
abbrev cX3_has : ByteArray := prog_5_method_4_code
def yX3_has : MethodName := ⟨RX3, "has", "(I)Z"⟩
abbrev cX3_hasRun : ByteArray := prog_5_method_5_code
def yX3_hasRun : MethodName := ⟨RX3, "hasRun", "(II)Z"⟩
def RX4 : String := "SaltPlant$Skins"
def TX4 : u_T := fun k => match k with
  | 0 => ("SaltPlant$Skins", "kinds", "[I", true)
  | _ => ("SaltPlant$Skins", "fouls", "[I", true)
def tyX4 : Nat → FieldType := fun k => match k with
  | 0 => .array .int
  | _ => .array .int
abbrev wsX40 : List Cond := u_ws RX4 TX4 2
theorem nmX4 : ∀ a, a < 2 → ∀ b, b < 2 → a ≠ b → (TX4 a).2.1 ≠ (TX4 b).2.1 := by decide +kernel
theorem tyX4_ok : ∀ k, k < 2 → parseFieldDescriptor (TX4 k).2.2.1 = some (tyX4 k) := by decide +kernel
abbrev cX4_init : ByteArray := prog_6_method_1_code
def yX4_init : MethodName := ⟨RX4, "<init>", "()V"⟩
abbrev cX4_passAt : ByteArray := prog_6_method_2_code
def yX4_passAt : MethodName := ⟨RX4, "passAt", "(I)I"⟩
abbrev cX4_leakAt : ByteArray := prog_6_method_3_code
def yX4_leakAt : MethodName := ⟨RX4, "leakAt", "(I)I"⟩
abbrev cX4_isUnder : ByteArray := prog_6_method_4_code
def yX4_isUnder : MethodName := ⟨RX4, "isUnder", "(II)Z"⟩
abbrev cX4_renew : ByteArray := prog_6_method_5_code
def yX4_renew : MethodName := ⟨RX4, "renew", "(II)I"⟩
abbrev cX4_exchange : ByteArray := prog_6_method_6_code
def yX4_exchange : MethodName := ⟨RX4, "exchange", "(II)V"⟩
abbrev cX4_soil : ByteArray := prog_6_method_7_code
def yX4_soil : MethodName := ⟨RX4, "soil", "(IJ)V"⟩
abbrev cX4_wash : ByteArray := prog_6_method_8_code
def yX4_wash : MethodName := ⟨RX4, "wash", "(I)V"⟩
def RX5 : String := "SaltPlant"
def TX5 : u_T := fun k => match k with
  | 0 => ("SaltPlant", "rules", "[I", true)
  | 1 => ("SaltPlant", "layout", "LSaltPlant$Layout;", true)
  | 2 => ("SaltPlant", "trial", "LSaltPlant$Layout;", true)
  | 3 => ("SaltPlant", "skins", "LSaltPlant$Skins;", true)
  | 4 => ("SaltPlant", "flows", "LSaltPlant$Flows;", true)
  | 5 => ("SaltPlant", "hours", "LSaltPlant$Hours;", true)
  | 6 => ("SaltPlant", "sheets", "[LSaltPlant$Sheet;", true)
  | 7 => ("SaltPlant", "feedWater", "I", false)
  | 8 => ("SaltPlant", "feedSalt", "I", false)
  | 9 => ("SaltPlant", "feedPressure", "I", false)
  | _ => ("SaltPlant", "daysGone", "I", false)
def tyX5 : Nat → FieldType := fun k => match k with
  | 0 => .array .int
  | 1 => .object "SaltPlant$Layout"
  | 2 => .object "SaltPlant$Layout"
  | 3 => .object "SaltPlant$Skins"
  | 4 => .object "SaltPlant$Flows"
  | 5 => .object "SaltPlant$Hours"
  | 6 => .array (.object "SaltPlant$Sheet")
  | 7 => .int
  | 8 => .int
  | 9 => .int
  | _ => .int
abbrev wsX50 : List Cond := u_ws RX5 TX5 11
theorem nmX5 : ∀ a, a < 11 → ∀ b, b < 11 → a ≠ b → (TX5 a).2.1 ≠ (TX5 b).2.1 := by decide +kernel
theorem tyX5_ok : ∀ k, k < 11 → parseFieldDescriptor (TX5 k).2.2.1 = some (tyX5 k) := by decide +kernel
abbrev cX5_init : ByteArray := prog_1_method_1_code
def yX5_init : MethodName := ⟨RX5, "<init>", "()V"⟩
abbrev cX5_stage : ByteArray := prog_1_method_2_code
def yX5_stage : MethodName := ⟨RX5, "stage", "(II)J"⟩
abbrev cX5_length : ByteArray := prog_1_method_3_code
def yX5_length : MethodName := ⟨RX5, "length", "(I)J"⟩
abbrev cX5_fresh : ByteArray := prog_1_method_4_code
def yX5_fresh : MethodName := ⟨RX5, "fresh", "(II)J"⟩
abbrev cX5_told : ByteArray := prog_1_method_5_code
def yX5_told : MethodName := ⟨RX5, "told", "(II)J"⟩
abbrev cX5_isOf : ByteArray := prog_1_method_6_code
def yX5_isOf : MethodName := ⟨RX5, "isOf", "(II)J"⟩
abbrev cX5_feed : ByteArray := prog_1_method_7_code
def yX5_feed : MethodName := ⟨RX5, "feed", "(III)J"⟩
abbrev cX5_change : ByteArray := prog_1_method_8_code
def yX5_change : MethodName := ⟨RX5, "change", "(II)J"⟩
abbrev cX5_flow : ByteArray := prog_1_method_9_code
def yX5_flow : MethodName := ⟨RX5, "flow", "(II)J"⟩
abbrev cX5_sweet : ByteArray := prog_1_method_10_code
def yX5_sweet : MethodName := ⟨RX5, "sweet", "(I)J"⟩
abbrev cX5_brine : ByteArray := prog_1_method_11_code
def yX5_brine : MethodName := ⟨RX5, "brine", "(I)J"⟩
abbrev cX5_power : ByteArray := prog_1_method_12_code
def yX5_power : MethodName := ⟨RX5, "power", "()J"⟩
abbrev cX5_failure : ByteArray := prog_1_method_13_code
def yX5_failure : MethodName := ⟨RX5, "failure", "()J"⟩
abbrev cX5_rule : ByteArray := prog_1_method_14_code
def yX5_rule : MethodName := ⟨RX5, "rule", "(II)J"⟩
abbrev cX5_days : ByteArray := prog_1_method_15_code
def yX5_days : MethodName := ⟨RX5, "days", "(I)J"⟩
abbrev cX5_foul : ByteArray := prog_1_method_16_code
def yX5_foul : MethodName := ⟨RX5, "foul", "(I)J"⟩
abbrev cX5_swap : ByteArray := prog_1_method_17_code
def yX5_swap : MethodName := ⟨RX5, "swap", "()J"⟩
abbrev cX5_array : ByteArray := prog_1_method_18_code
def yX5_array : MethodName := ⟨RX5, "array", "(II)J"⟩
abbrev cX5_hour : ByteArray := prog_1_method_19_code
def yX5_hour : MethodName := ⟨RX5, "hour", "(III)J"⟩
abbrev cX5_lay : ByteArray := prog_1_method_20_code
def yX5_lay : MethodName := ⟨RX5, "lay", "(II)J"⟩
abbrev cX5_plan : ByteArray := prog_1_method_21_code
def yX5_plan : MethodName := ⟨RX5, "plan", "(I)J"⟩
abbrev cX5_runs : ByteArray := prog_1_method_22_code
def yX5_runs : MethodName := ⟨RX5, "runs", "(I)J"⟩
abbrev cX5_tank : ByteArray := prog_1_method_23_code
def yX5_tank : MethodName := ⟨RX5, "tank", "(II)J"⟩
abbrev cX5_joint : ByteArray := prog_1_method_24_code
def yX5_joint : MethodName := ⟨RX5, "joint", "(III)J"⟩
abbrev cX5_sheet : ByteArray := prog_1_method_25_code
def yX5_sheet : MethodName := ⟨RX5, "sheet", "(II)J"⟩
abbrev cX5_mark : ByteArray := prog_1_method_26_code
def yX5_mark : MethodName := ⟨RX5, "mark", "(III)J"⟩
abbrev cX5_copy : ByteArray := prog_1_method_27_code
def yX5_copy : MethodName := ⟨RX5, "copy", "(IIIII)J"⟩
abbrev cX5_count : ByteArray := prog_1_method_28_code
def yX5_count : MethodName := ⟨RX5, "count", "(I)J"⟩
abbrev cX5_outside : ByteArray := prog_1_method_29_code
def yX5_outside : MethodName := ⟨RX5, "outside", "(III)Z"⟩
abbrev cX5_placeOf : ByteArray := prog_1_method_30_code
def yX5_placeOf : MethodName := ⟨RX5, "placeOf", "(I)I"⟩
abbrev cX5_numberOf : ByteArray := prog_1_method_31_code
def yX5_numberOf : MethodName := ⟨RX5, "numberOf", "(I)I"⟩
abbrev cX5_letFlow : ByteArray := prog_1_method_32_code
def yX5_letFlow : MethodName := ⟨RX5, "letFlow", "()V"⟩
abbrev cX5_powerAt : ByteArray := prog_1_method_33_code
def yX5_powerAt : MethodName := ⟨RX5, "powerAt", "(I)J"⟩
abbrev cX5_suits : ByteArray := prog_1_method_34_code
def yX5_suits : MethodName := ⟨RX5, "suits", "(II)Z"⟩
abbrev cX5_passDay : ByteArray := prog_1_method_35_code
def yX5_passDay : MethodName := ⟨RX5, "passDay", "()V"⟩
abbrev cX5_isPair : ByteArray := prog_1_method_36_code
def yX5_isPair : MethodName := ⟨RX5, "isPair", "(II)Z"⟩
abbrev cX5_sweetWaterIfChanged : ByteArray := prog_1_method_37_code
def yX5_sweetWaterIfChanged : MethodName := ⟨RX5, "sweetWaterIfChanged", "(II)J"⟩
def RX6 : String := "SaltPlantModel"
def TX6 : u_T := fun k => match k with
  | 0 => ("SaltPlantModel", "vessels", "[I", true)
  | 1 => ("SaltPlantModel", "longs", "I", false)
  | 2 => ("SaltPlantModel", "kind", "[I", true)
  | 3 => ("SaltPlantModel", "foul", "[I", true)
  | 4 => ("SaltPlantModel", "water", "I", false)
  | 5 => ("SaltPlantModel", "salt", "I", false)
  | 6 => ("SaltPlantModel", "pressure", "I", false)
  | 7 => ("SaltPlantModel", "rules", "[I", true)
  | 8 => ("SaltPlantModel", "days", "I", false)
  | 9 => ("SaltPlantModel", "prices", "[I", true)
  | 10 => ("SaltPlantModel", "needs", "[I", true)
  | 11 => ("SaltPlantModel", "places", "[I", true)
  | 12 => ("SaltPlantModel", "numbers", "[I", true)
  | 13 => ("SaltPlantModel", "getsWater", "[J", true)
  | 14 => ("SaltPlantModel", "getsGrains", "[J", true)
  | 15 => ("SaltPlantModel", "getsPush", "[J", true)
  | 16 => ("SaltPlantModel", "through", "[J", true)
  | 17 => ("SaltPlantModel", "grains", "[J", true)
  | 18 => ("SaltPlantModel", "sweetWater", "J", false)
  | 19 => ("SaltPlantModel", "sweetGrains", "J", false)
  | 20 => ("SaltPlantModel", "leftWater", "J", false)
  | 21 => ("SaltPlantModel", "leftGrains", "J", false)
  | 22 => ("SaltPlantModel", "leftPush", "J", false)
  | 23 => ("SaltPlantModel", "had", "[I", true)
  | 24 => ("SaltPlantModel", "costs", "[I", true)
  | 25 => ("SaltPlantModel", "holds", "[I", true)
  | _ => ("SaltPlantModel", "carried", "[I", true)
def tyX6 : Nat → FieldType := fun k => match k with
  | 0 => .array .int
  | 1 => .int
  | 2 => .array .int
  | 3 => .array .int
  | 4 => .int
  | 5 => .int
  | 6 => .int
  | 7 => .array .int
  | 8 => .int
  | 9 => .array .int
  | 10 => .array .int
  | 11 => .array .int
  | 12 => .array .int
  | 13 => .array .long
  | 14 => .array .long
  | 15 => .array .long
  | 16 => .array .long
  | 17 => .array .long
  | 18 => .long
  | 19 => .long
  | 20 => .long
  | 21 => .long
  | 22 => .long
  | 23 => .array .int
  | 24 => .array .int
  | 25 => .array .int
  | _ => .array .int
abbrev wsX60 : List Cond := u_ws RX6 TX6 27
theorem nmX6 : ∀ a, a < 27 → ∀ b, b < 27 → a ≠ b → (TX6 a).2.1 ≠ (TX6 b).2.1 := by decide +kernel
theorem tyX6_ok : ∀ k, k < 27 → parseFieldDescriptor (TX6 k).2.2.1 = some (tyX6 k) := by decide +kernel
abbrev cX6_init : ByteArray := prog_8_method_1_code
def yX6_init : MethodName := ⟨RX6, "<init>", "()V"⟩
abbrev cX6_isIn : ByteArray := prog_8_method_2_code
def yX6_isIn : MethodName := ⟨RX6, "isIn", "(III)Z"⟩
abbrev cX6_stage : ByteArray := prog_8_method_3_code
def yX6_stage : MethodName := ⟨RX6, "stage", "(II)J"⟩
abbrev cX6_length : ByteArray := prog_8_method_4_code
def yX6_length : MethodName := ⟨RX6, "length", "(I)J"⟩
abbrev cX6_placeOf : ByteArray := prog_8_method_5_code
def yX6_placeOf : MethodName := ⟨RX6, "placeOf", "(I)I"⟩
abbrev cX6_skinAt : ByteArray := prog_8_method_6_code
def yX6_skinAt : MethodName := ⟨RX6, "skinAt", "(I)I"⟩
abbrev cX6_isStage : ByteArray := prog_8_method_7_code
def yX6_isStage : MethodName := ⟨RX6, "isStage", "(I)Z"⟩
abbrev cX6_isThere : ByteArray := prog_8_method_8_code
def yX6_isThere : MethodName := ⟨RX6, "isThere", "(I)Z"⟩
abbrev cX6_fresh : ByteArray := prog_8_method_9_code
def yX6_fresh : MethodName := ⟨RX6, "fresh", "(II)J"⟩
abbrev cX6_pass : ByteArray := prog_8_method_10_code
def yX6_pass : MethodName := ⟨RX6, "pass", "(I)I"⟩
abbrev cX6_leak : ByteArray := prog_8_method_11_code
def yX6_leak : MethodName := ⟨RX6, "leak", "(I)I"⟩
abbrev cX6_told : ByteArray := prog_8_method_12_code
def yX6_told : MethodName := ⟨RX6, "told", "(II)J"⟩
abbrev cX6_isOf : ByteArray := prog_8_method_13_code
def yX6_isOf : MethodName := ⟨RX6, "isOf", "(II)J"⟩
abbrev cX6_feed : ByteArray := prog_8_method_14_code
def yX6_feed : MethodName := ⟨RX6, "feed", "(III)J"⟩
abbrev cX6_exchange : ByteArray := prog_8_method_15_code
def yX6_exchange : MethodName := ⟨RX6, "exchange", "(II)V"⟩
abbrev cX6_change : ByteArray := prog_8_method_16_code
def yX6_change : MethodName := ⟨RX6, "change", "(II)J"⟩
abbrev cX6_saltOf : ByteArray := prog_8_method_17_code
def yX6_saltOf : MethodName := ⟨RX6, "saltOf", "(JJ)J"⟩
abbrev cX6_skin : ByteArray := prog_8_method_18_code
def yX6_skin : MethodName := ⟨RX6, "skin", "(IJJJ)V"⟩
abbrev cX6_vessel : ByteArray := prog_8_method_19_code
def yX6_vessel : MethodName := ⟨RX6, "vessel", "(IIJJJ)V"⟩
abbrev cX6_flowAt : ByteArray := prog_8_method_20_code
def yX6_flowAt : MethodName := ⟨RX6, "flowAt", "(I)V"⟩
abbrev cX6_flowNow : ByteArray := prog_8_method_21_code
def yX6_flowNow : MethodName := ⟨RX6, "flowNow", "()V"⟩
abbrev cX6_flow : ByteArray := prog_8_method_22_code
def yX6_flow : MethodName := ⟨RX6, "flow", "(II)J"⟩
abbrev cX6_sweet : ByteArray := prog_8_method_23_code
def yX6_sweet : MethodName := ⟨RX6, "sweet", "(I)J"⟩
abbrev cX6_brine : ByteArray := prog_8_method_24_code
def yX6_brine : MethodName := ⟨RX6, "brine", "(I)J"⟩
abbrev cX6_powerAt : ByteArray := prog_8_method_25_code
def yX6_powerAt : MethodName := ⟨RX6, "powerAt", "(I)J"⟩
abbrev cX6_power : ByteArray := prog_8_method_26_code
def yX6_power : MethodName := ⟨RX6, "power", "()J"⟩
abbrev cX6_failing : ByteArray := prog_8_method_27_code
def yX6_failing : MethodName := ⟨RX6, "failing", "()I"⟩
abbrev cX6_failure : ByteArray := prog_8_method_28_code
def yX6_failure : MethodName := ⟨RX6, "failure", "()J"⟩
abbrev cX6_rule : ByteArray := prog_8_method_29_code
def yX6_rule : MethodName := ⟨RX6, "rule", "(II)J"⟩
abbrev cX6_day : ByteArray := prog_8_method_30_code
def yX6_day : MethodName := ⟨RX6, "day", "()V"⟩
abbrev cX6_days : ByteArray := prog_8_method_31_code
def yX6_days : MethodName := ⟨RX6, "days", "(I)J"⟩
abbrev cX6_foul : ByteArray := prog_8_method_32_code
def yX6_foul : MethodName := ⟨RX6, "foul", "(I)J"⟩
abbrev cX6_swap : ByteArray := prog_8_method_33_code
def yX6_swap : MethodName := ⟨RX6, "swap", "()J"⟩
abbrev cX6_array : ByteArray := prog_8_method_34_code
def yX6_array : MethodName := ⟨RX6, "array", "(II)J"⟩
abbrev cX6_hour : ByteArray := prog_8_method_35_code
def yX6_hour : MethodName := ⟨RX6, "hour", "(III)J"⟩
abbrev cX6_isSheet : ByteArray := prog_8_method_36_code
def yX6_isSheet : MethodName := ⟨RX6, "isSheet", "(I)Z"⟩
abbrev cX6_lay : ByteArray := prog_8_method_37_code
def yX6_lay : MethodName := ⟨RX6, "lay", "(II)J"⟩
abbrev cX6_behind : ByteArray := prog_8_method_38_code
def yX6_behind : MethodName := ⟨RX6, "behind", "(IIZ)I"⟩
abbrev cX6_costFrom : ByteArray := prog_8_method_39_code
def yX6_costFrom : MethodName := ⟨RX6, "costFrom", "(IIZ)I"⟩
abbrev cX6_findPlan : ByteArray := prog_8_method_40_code
def yX6_findPlan : MethodName := ⟨RX6, "findPlan", "()V"⟩
abbrev cX6_isContent : ByteArray := prog_8_method_41_code
def yX6_isContent : MethodName := ⟨RX6, "isContent", "(I)Z"⟩
abbrev cX6_plan : ByteArray := prog_8_method_42_code
def yX6_plan : MethodName := ⟨RX6, "plan", "(I)J"⟩
abbrev cX6_go : ByteArray := prog_8_method_43_code
def yX6_go : MethodName := ⟨RX6, "go", "(I)I"⟩
abbrev cX6_runs : ByteArray := prog_8_method_44_code
def yX6_runs : MethodName := ⟨RX6, "runs", "(I)J"⟩
abbrev cX6_tank : ByteArray := prog_8_method_45_code
def yX6_tank : MethodName := ⟨RX6, "tank", "(II)J"⟩
abbrev cX6_joint : ByteArray := prog_8_method_46_code
def yX6_joint : MethodName := ⟨RX6, "joint", "(III)J"⟩
abbrev cX6_sheet : ByteArray := prog_8_method_47_code
def yX6_sheet : MethodName := ⟨RX6, "sheet", "(II)J"⟩
abbrev cX6_mark : ByteArray := prog_8_method_48_code
def yX6_mark : MethodName := ⟨RX6, "mark", "(III)J"⟩
abbrev cX6_copy : ByteArray := prog_8_method_49_code
def yX6_copy : MethodName := ⟨RX6, "copy", "(IIIII)J"⟩
abbrev cX6_count : ByteArray := prog_8_method_50_code
def yX6_count : MethodName := ⟨RX6, "count", "(I)J"⟩
def RJ9 : String := "java/lang/Math"
def TJ9 : u_T := fun k => match k with
  | _ => ("", "", "", false)
def tyJ9 : Nat → FieldType := fun k => match k with
  | _ => .int
abbrev wsJ90 : List Cond := u_ws RJ9 TJ9 0
theorem nmJ9 : ∀ a, a < 0 → ∀ b, b < 0 → a ≠ b → (TJ9 a).2.1 ≠ (TJ9 b).2.1 := by decide +kernel
theorem tyJ9_ok : ∀ k, k < 0 → parseFieldDescriptor (TJ9 k).2.2.1 = some (tyJ9 k) := by decide +kernel
abbrev cJ9_max_7cf53 : ByteArray := prog_9_method_65_code
def yJ9_max_7cf53 : MethodName := ⟨RJ9, "max", "(II)I"⟩
abbrev cJ9_max_f86c9 : ByteArray := prog_9_method_66_code
def yJ9_max_f86c9 : MethodName := ⟨RJ9, "max", "(JJ)J"⟩
abbrev cJ9_min_7cf53 : ByteArray := prog_9_method_69_code
def yJ9_min_7cf53 : MethodName := ⟨RJ9, "min", "(II)I"⟩
abbrev cJ9_min_f86c9 : ByteArray := prog_9_method_70_code
def yJ9_min_f86c9 : MethodName := ⟨RJ9, "min", "(JJ)J"⟩
def RJ10 : String := "java/lang/System"
def TJ10 : u_T := fun k => match k with
  | _ => ("", "", "", false)
def tyJ10 : Nat → FieldType := fun k => match k with
  | _ => .int
abbrev wsJ100 : List Cond := u_ws RJ10 TJ10 0
theorem nmJ10 : ∀ a, a < 0 → ∀ b, b < 0 → a ≠ b → (TJ10 a).2.1 ≠ (TJ10 b).2.1 := by decide +kernel
theorem tyJ10_ok : ∀ k, k < 0 → parseFieldDescriptor (TJ10 k).2.2.1 = some (tyJ10 k) := by decide +kernel
def RJ7 : String := "java/util/Arrays"
def TJ7 : u_T := fun k => match k with
  | _ => ("", "", "", false)
def tyJ7 : Nat → FieldType := fun k => match k with
  | _ => .int
abbrev wsJ70 : List Cond := u_ws RJ7 TJ7 0
theorem nmJ7 : ∀ a, a < 0 → ∀ b, b < 0 → a ≠ b → (TJ7 a).2.1 ≠ (TJ7 b).2.1 := by decide +kernel
theorem tyJ7_ok : ∀ k, k < 0 → parseFieldDescriptor (TJ7 k).2.2.1 = some (tyJ7 k) := by decide +kernel
abbrev cJ7_fill_53178 : ByteArray := prog_11_method_103_code
def yJ7_fill_53178 : MethodName := ⟨RJ7, "fill", "([II)V"⟩
abbrev cJ7_fill_fb410 : ByteArray := prog_11_method_105_code
def yJ7_fill_fb410 : MethodName := ⟨RJ7, "fill", "([SS)V"⟩
def RL : String := "SaltPlantLaw"
abbrev cL_law : ByteArray := code
def yL_law : MethodName := ⟨RL, "law", "([I)Z"⟩
abbrev vwCl : List vw_C := [(RX0, TX0, 13), (RX1, TX1, 4), (RX2, TX2, 2), (RX3, TX3, 2), (RX4, TX4, 2), (RX5, TX5, 11), (RX6, TX6, 27)]
end
section
theorem dX0_init_0 : decode cX0_init 0 = .ok (.aload_n 0, 1) := by decide +kernel
theorem dX0_init_1 : decode cX0_init 1 = .ok (.invokespecial 3, 3) := by decide +kernel
theorem dX0_init_4 : decode cX0_init 4 = .ok (.aload_n 0, 1) := by decide +kernel
theorem dX0_init_5 : decode cX0_init 5 = .ok (.bipush 72, 2) := by decide +kernel
theorem dX0_init_7 : decode cX0_init 7 = .ok (.newarray .int, 2) := by decide +kernel
theorem dX0_init_9 : decode cX0_init 9 = .ok (.putfield 9, 3) := by decide +kernel
theorem dX0_init_12 : decode cX0_init 12 = .ok (.aload_n 0, 1) := by decide +kernel
theorem dX0_init_13 : decode cX0_init 13 = .ok (.bipush 72, 2) := by decide +kernel
theorem dX0_init_15 : decode cX0_init 15 = .ok (.newarray .int, 2) := by decide +kernel
theorem dX0_init_17 : decode cX0_init 17 = .ok (.putfield 15, 3) := by decide +kernel
theorem dX0_init_20 : decode cX0_init 20 = .ok (.aload_n 0, 1) := by decide +kernel
theorem dX0_init_21 : decode cX0_init 21 = .ok (.bipush 72, 2) := by decide +kernel
theorem dX0_init_23 : decode cX0_init 23 = .ok (.newarray .long, 2) := by decide +kernel
theorem dX0_init_25 : decode cX0_init 25 = .ok (.putfield 18, 3) := by decide +kernel
theorem dX0_init_28 : decode cX0_init 28 = .ok (.aload_n 0, 1) := by decide +kernel
theorem dX0_init_29 : decode cX0_init 29 = .ok (.bipush 72, 2) := by decide +kernel
theorem dX0_init_31 : decode cX0_init 31 = .ok (.newarray .long, 2) := by decide +kernel
theorem dX0_init_33 : decode cX0_init 33 = .ok (.putfield 22, 3) := by decide +kernel
theorem dX0_init_36 : decode cX0_init 36 = .ok (.aload_n 0, 1) := by decide +kernel
theorem dX0_init_37 : decode cX0_init 37 = .ok (.bipush 72, 2) := by decide +kernel
theorem dX0_init_39 : decode cX0_init 39 = .ok (.newarray .long, 2) := by decide +kernel
theorem dX0_init_41 : decode cX0_init 41 = .ok (.putfield 25, 3) := by decide +kernel
theorem dX0_init_44 : decode cX0_init 44 = .ok (.aload_n 0, 1) := by decide +kernel
theorem dX0_init_45 : decode cX0_init 45 = .ok (.bipush 72, 2) := by decide +kernel
theorem dX0_init_47 : decode cX0_init 47 = .ok (.newarray .long, 2) := by decide +kernel
theorem dX0_init_49 : decode cX0_init 49 = .ok (.putfield 28, 3) := by decide +kernel
theorem dX0_init_52 : decode cX0_init 52 = .ok (.aload_n 0, 1) := by decide +kernel
theorem dX0_init_53 : decode cX0_init 53 = .ok (.bipush 72, 2) := by decide +kernel
theorem dX0_init_55 : decode cX0_init 55 = .ok (.newarray .long, 2) := by decide +kernel
theorem dX0_init_57 : decode cX0_init 57 = .ok (.putfield 31, 3) := by decide +kernel
theorem dX0_init_60 : decode cX0_init 60 = .ok (.aload_n 0, 1) := by decide +kernel
theorem dX0_init_61 : decode cX0_init 61 = .ok (.bipush 72, 2) := by decide +kernel
theorem dX0_init_63 : decode cX0_init 63 = .ok (.newarray .long, 2) := by decide +kernel
theorem dX0_init_65 : decode cX0_init 65 = .ok (.putfield 34, 3) := by decide +kernel
theorem dX0_init_68 : decode cX0_init 68 = .ok (.aload_n 0, 1) := by decide +kernel
theorem dX0_init_69 : decode cX0_init 69 = .ok (.lconst 0, 1) := by decide +kernel
theorem dX0_init_70 : decode cX0_init 70 = .ok (.putfield 37, 3) := by decide +kernel
theorem dX0_init_73 : decode cX0_init 73 = .ok (.aload_n 0, 1) := by decide +kernel
theorem dX0_init_74 : decode cX0_init 74 = .ok (.lconst 0, 1) := by decide +kernel
theorem dX0_init_75 : decode cX0_init 75 = .ok (.putfield 41, 3) := by decide +kernel
theorem dX0_init_78 : decode cX0_init 78 = .ok (.aload_n 0, 1) := by decide +kernel
theorem dX0_init_79 : decode cX0_init 79 = .ok (.lconst 0, 1) := by decide +kernel
theorem dX0_init_80 : decode cX0_init 80 = .ok (.putfield 44, 3) := by decide +kernel
theorem dX0_init_83 : decode cX0_init 83 = .ok (.aload_n 0, 1) := by decide +kernel
theorem dX0_init_84 : decode cX0_init 84 = .ok (.lconst 0, 1) := by decide +kernel
theorem dX0_init_85 : decode cX0_init 85 = .ok (.putfield 47, 3) := by decide +kernel
theorem dX0_init_88 : decode cX0_init 88 = .ok (.aload_n 0, 1) := by decide +kernel
theorem dX0_init_89 : decode cX0_init 89 = .ok (.lconst 0, 1) := by decide +kernel
theorem dX0_init_90 : decode cX0_init 90 = .ok (.putfield 50, 3) := by decide +kernel
theorem dX0_init_93 : decode cX0_init 93 = .ok (.return_, 1) := by decide +kernel
theorem dX0_saltOf_0 : decode cX0_saltOf 0 = .ok (.lload_n 0, 1) := by decide +kernel
theorem dX0_saltOf_1 : decode cX0_saltOf 1 = .ok (.lconst 0, 1) := by decide +kernel
theorem dX0_saltOf_2 : decode cX0_saltOf 2 = .ok (.lcmp, 1) := by decide +kernel
theorem dX0_saltOf_3 : decode cX0_saltOf 3 = .ok (.ifCond .ne 7, 3) := by decide +kernel
theorem dX0_saltOf_6 : decode cX0_saltOf 6 = .ok (.lconst 0, 1) := by decide +kernel
theorem dX0_saltOf_7 : decode cX0_saltOf 7 = .ok (.goto 6, 3) := by decide +kernel
theorem dX0_saltOf_10 : decode cX0_saltOf 10 = .ok (.lload_n 2, 1) := by decide +kernel
theorem dX0_saltOf_11 : decode cX0_saltOf 11 = .ok (.lload_n 0, 1) := by decide +kernel
theorem dX0_saltOf_12 : decode cX0_saltOf 12 = .ok (.ldiv, 1) := by decide +kernel
theorem dX0_saltOf_13 : decode cX0_saltOf 13 = .ok (.lreturn, 1) := by decide +kernel
theorem dX0_take_0 : decode cX0_take 0 = .ok (.iconst 0, 1) := by decide +kernel
theorem dX0_take_1 : decode cX0_take 1 = .ok (.istore_n 2, 1) := by decide +kernel
theorem dX0_take_2 : decode cX0_take 2 = .ok (.iload_n 2, 1) := by decide +kernel
theorem dX0_take_3 : decode cX0_take 3 = .ok (.bipush 72, 2) := by decide +kernel
theorem dX0_take_5 : decode cX0_take 5 = .ok (.if_icmp .ge 31, 3) := by decide +kernel
theorem dX0_take_8 : decode cX0_take 8 = .ok (.aload_n 0, 1) := by decide +kernel
theorem dX0_take_9 : decode cX0_take 9 = .ok (.getfield 9, 3) := by decide +kernel
theorem dX0_take_12 : decode cX0_take 12 = .ok (.iload_n 2, 1) := by decide +kernel
theorem dX0_take_13 : decode cX0_take 13 = .ok (.aload_n 1, 1) := by decide +kernel
theorem dX0_take_14 : decode cX0_take 14 = .ok (.iload_n 2, 1) := by decide +kernel
theorem dX0_take_15 : decode cX0_take 15 = .ok (.invokevirtual 53, 3) := by decide +kernel
theorem dX0_take_18 : decode cX0_take 18 = .ok (.iastore, 1) := by decide +kernel
theorem dX0_take_19 : decode cX0_take 19 = .ok (.aload_n 0, 1) := by decide +kernel
theorem dX0_take_20 : decode cX0_take 20 = .ok (.getfield 15, 3) := by decide +kernel
theorem dX0_take_23 : decode cX0_take 23 = .ok (.iload_n 2, 1) := by decide +kernel
theorem dX0_take_24 : decode cX0_take 24 = .ok (.aload_n 1, 1) := by decide +kernel
theorem dX0_take_25 : decode cX0_take 25 = .ok (.iload_n 2, 1) := by decide +kernel
theorem dX0_take_26 : decode cX0_take 26 = .ok (.invokevirtual 59, 3) := by decide +kernel
theorem dX0_take_29 : decode cX0_take 29 = .ok (.iastore, 1) := by decide +kernel
theorem dX0_take_30 : decode cX0_take 30 = .ok (.iinc 2 1, 3) := by decide +kernel
theorem dX0_take_33 : decode cX0_take 33 = .ok (.goto (-31), 3) := by decide +kernel
theorem dX0_take_36 : decode cX0_take 36 = .ok (.return_, 1) := by decide +kernel
theorem dX0_areAlike_0 : decode cX0_areAlike 0 = .ok (.aload_n 0, 1) := by decide +kernel
theorem dX0_areAlike_1 : decode cX0_areAlike 1 = .ok (.getfield 9, 3) := by decide +kernel
theorem dX0_areAlike_4 : decode cX0_areAlike 4 = .ok (.iload_n 1, 1) := by decide +kernel
theorem dX0_areAlike_5 : decode cX0_areAlike 5 = .ok (.iaload, 1) := by decide +kernel
theorem dX0_areAlike_6 : decode cX0_areAlike 6 = .ok (.aload_n 0, 1) := by decide +kernel
theorem dX0_areAlike_7 : decode cX0_areAlike 7 = .ok (.getfield 9, 3) := by decide +kernel
theorem dX0_areAlike_10 : decode cX0_areAlike 10 = .ok (.iload_n 2, 1) := by decide +kernel
theorem dX0_areAlike_11 : decode cX0_areAlike 11 = .ok (.iaload, 1) := by decide +kernel
theorem dX0_areAlike_12 : decode cX0_areAlike 12 = .ok (.if_icmp .ne 22, 3) := by decide +kernel
theorem dX0_areAlike_15 : decode cX0_areAlike 15 = .ok (.aload_n 0, 1) := by decide +kernel
theorem dX0_areAlike_16 : decode cX0_areAlike 16 = .ok (.getfield 15, 3) := by decide +kernel
theorem dX0_areAlike_19 : decode cX0_areAlike 19 = .ok (.iload_n 1, 1) := by decide +kernel
theorem dX0_areAlike_20 : decode cX0_areAlike 20 = .ok (.iaload, 1) := by decide +kernel
theorem dX0_areAlike_21 : decode cX0_areAlike 21 = .ok (.aload_n 0, 1) := by decide +kernel
theorem dX0_areAlike_22 : decode cX0_areAlike 22 = .ok (.getfield 15, 3) := by decide +kernel
theorem dX0_areAlike_25 : decode cX0_areAlike 25 = .ok (.iload_n 2, 1) := by decide +kernel
theorem dX0_areAlike_26 : decode cX0_areAlike 26 = .ok (.iaload, 1) := by decide +kernel
theorem dX0_areAlike_27 : decode cX0_areAlike 27 = .ok (.if_icmp .ne 7, 3) := by decide +kernel
theorem dX0_areAlike_30 : decode cX0_areAlike 30 = .ok (.iconst 1, 1) := by decide +kernel
theorem dX0_areAlike_31 : decode cX0_areAlike 31 = .ok (.goto 4, 3) := by decide +kernel
theorem dX0_areAlike_34 : decode cX0_areAlike 34 = .ok (.iconst 0, 1) := by decide +kernel
theorem dX0_areAlike_35 : decode cX0_areAlike 35 = .ok (.ireturn, 1) := by decide +kernel
theorem dX0_exchange_0 : decode cX0_exchange 0 = .ok (.aload_n 0, 1) := by decide +kernel
theorem dX0_exchange_1 : decode cX0_exchange 1 = .ok (.getfield 9, 3) := by decide +kernel
theorem dX0_exchange_4 : decode cX0_exchange 4 = .ok (.iload_n 1, 1) := by decide +kernel
theorem dX0_exchange_5 : decode cX0_exchange 5 = .ok (.iaload, 1) := by decide +kernel
theorem dX0_exchange_6 : decode cX0_exchange 6 = .ok (.istore_n 3, 1) := by decide +kernel
theorem dX0_exchange_7 : decode cX0_exchange 7 = .ok (.aload_n 0, 1) := by decide +kernel
theorem dX0_exchange_8 : decode cX0_exchange 8 = .ok (.getfield 15, 3) := by decide +kernel
theorem dX0_exchange_11 : decode cX0_exchange 11 = .ok (.iload_n 1, 1) := by decide +kernel
theorem dX0_exchange_12 : decode cX0_exchange 12 = .ok (.iaload, 1) := by decide +kernel
theorem dX0_exchange_13 : decode cX0_exchange 13 = .ok (.istore 4, 2) := by decide +kernel
theorem dX0_exchange_15 : decode cX0_exchange 15 = .ok (.aload_n 0, 1) := by decide +kernel
theorem dX0_exchange_16 : decode cX0_exchange 16 = .ok (.getfield 9, 3) := by decide +kernel
theorem dX0_exchange_19 : decode cX0_exchange 19 = .ok (.iload_n 1, 1) := by decide +kernel
theorem dX0_exchange_20 : decode cX0_exchange 20 = .ok (.aload_n 0, 1) := by decide +kernel
theorem dX0_exchange_21 : decode cX0_exchange 21 = .ok (.getfield 9, 3) := by decide +kernel
theorem dX0_exchange_24 : decode cX0_exchange 24 = .ok (.iload_n 2, 1) := by decide +kernel
theorem dX0_exchange_25 : decode cX0_exchange 25 = .ok (.iaload, 1) := by decide +kernel
theorem dX0_exchange_26 : decode cX0_exchange 26 = .ok (.iastore, 1) := by decide +kernel
theorem dX0_exchange_27 : decode cX0_exchange 27 = .ok (.aload_n 0, 1) := by decide +kernel
theorem dX0_exchange_28 : decode cX0_exchange 28 = .ok (.getfield 15, 3) := by decide +kernel
theorem dX0_exchange_31 : decode cX0_exchange 31 = .ok (.iload_n 1, 1) := by decide +kernel
theorem dX0_exchange_32 : decode cX0_exchange 32 = .ok (.aload_n 0, 1) := by decide +kernel
theorem dX0_exchange_33 : decode cX0_exchange 33 = .ok (.getfield 15, 3) := by decide +kernel
theorem dX0_exchange_36 : decode cX0_exchange 36 = .ok (.iload_n 2, 1) := by decide +kernel
theorem dX0_exchange_37 : decode cX0_exchange 37 = .ok (.iaload, 1) := by decide +kernel
theorem dX0_exchange_38 : decode cX0_exchange 38 = .ok (.iastore, 1) := by decide +kernel
theorem dX0_exchange_39 : decode cX0_exchange 39 = .ok (.aload_n 0, 1) := by decide +kernel
theorem dX0_exchange_40 : decode cX0_exchange 40 = .ok (.getfield 9, 3) := by decide +kernel
theorem dX0_exchange_43 : decode cX0_exchange 43 = .ok (.iload_n 2, 1) := by decide +kernel
theorem dX0_exchange_44 : decode cX0_exchange 44 = .ok (.iload_n 3, 1) := by decide +kernel
theorem dX0_exchange_45 : decode cX0_exchange 45 = .ok (.iastore, 1) := by decide +kernel
theorem dX0_exchange_46 : decode cX0_exchange 46 = .ok (.aload_n 0, 1) := by decide +kernel
theorem dX0_exchange_47 : decode cX0_exchange 47 = .ok (.getfield 15, 3) := by decide +kernel
theorem dX0_exchange_50 : decode cX0_exchange 50 = .ok (.iload_n 2, 1) := by decide +kernel
theorem dX0_exchange_51 : decode cX0_exchange 51 = .ok (.iload 4, 2) := by decide +kernel
theorem dX0_exchange_53 : decode cX0_exchange 53 = .ok (.iastore, 1) := by decide +kernel
theorem dX0_exchange_54 : decode cX0_exchange 54 = .ok (.return_, 1) := by decide +kernel
theorem dX0_run_0 : decode cX0_run 0 = .ok (.aload_n 0, 1) := by decide +kernel
theorem dX0_run_1 : decode cX0_run 1 = .ok (.lload_n 2, 1) := by decide +kernel
theorem dX0_run_2 : decode cX0_run 2 = .ok (.putfield 37, 3) := by decide +kernel
theorem dX0_run_5 : decode cX0_run 5 = .ok (.aload_n 0, 1) := by decide +kernel
theorem dX0_run_6 : decode cX0_run 6 = .ok (.lload_n 2, 1) := by decide +kernel
theorem dX0_run_7 : decode cX0_run 7 = .ok (.lload 4, 2) := by decide +kernel
theorem dX0_run_9 : decode cX0_run 9 = .ok (.lmul, 1) := by decide +kernel
theorem dX0_run_10 : decode cX0_run 10 = .ok (.putfield 41, 3) := by decide +kernel
theorem dX0_run_13 : decode cX0_run 13 = .ok (.aload_n 0, 1) := by decide +kernel
theorem dX0_run_14 : decode cX0_run 14 = .ok (.lload 6, 2) := by decide +kernel
theorem dX0_run_16 : decode cX0_run 16 = .ok (.putfield 44, 3) := by decide +kernel
theorem dX0_run_19 : decode cX0_run 19 = .ok (.iconst 0, 1) := by decide +kernel
theorem dX0_run_20 : decode cX0_run 20 = .ok (.istore 8, 2) := by decide +kernel
theorem dX0_run_22 : decode cX0_run 22 = .ok (.iload 8, 2) := by decide +kernel
theorem dX0_run_24 : decode cX0_run 24 = .ok (.iconst 3, 1) := by decide +kernel
theorem dX0_run_25 : decode cX0_run 25 = .ok (.if_icmp .ge 25, 3) := by decide +kernel
theorem dX0_run_28 : decode cX0_run 28 = .ok (.aload_n 0, 1) := by decide +kernel
theorem dX0_run_29 : decode cX0_run 29 = .ok (.iload 8, 2) := by decide +kernel
theorem dX0_run_31 : decode cX0_run 31 = .ok (.aload_n 1, 1) := by decide +kernel
theorem dX0_run_32 : decode cX0_run 32 = .ok (.iload 8, 2) := by decide +kernel
theorem dX0_run_34 : decode cX0_run 34 = .ok (.invokevirtual 62, 3) := by decide +kernel
theorem dX0_run_37 : decode cX0_run 37 = .ok (.aload_n 1, 1) := by decide +kernel
theorem dX0_run_38 : decode cX0_run 38 = .ok (.getfield 67, 3) := by decide +kernel
theorem dX0_run_41 : decode cX0_run 41 = .ok (.invokevirtual 71, 3) := by decide +kernel
theorem dX0_run_44 : decode cX0_run 44 = .ok (.iinc 8 1, 3) := by decide +kernel
theorem dX0_run_47 : decode cX0_run 47 = .ok (.goto (-25), 3) := by decide +kernel
theorem dX0_run_50 : decode cX0_run 50 = .ok (.aload_n 0, 1) := by decide +kernel
theorem dX0_run_51 : decode cX0_run 51 = .ok (.lload_n 2, 1) := by decide +kernel
theorem dX0_run_52 : decode cX0_run 52 = .ok (.aload_n 0, 1) := by decide +kernel
theorem dX0_run_53 : decode cX0_run 53 = .ok (.getfield 37, 3) := by decide +kernel
theorem dX0_run_56 : decode cX0_run 56 = .ok (.lsub, 1) := by decide +kernel
theorem dX0_run_57 : decode cX0_run 57 = .ok (.putfield 47, 3) := by decide +kernel
theorem dX0_run_60 : decode cX0_run 60 = .ok (.aload_n 0, 1) := by decide +kernel
theorem dX0_run_61 : decode cX0_run 61 = .ok (.lload_n 2, 1) := by decide +kernel
theorem dX0_run_62 : decode cX0_run 62 = .ok (.lload 4, 2) := by decide +kernel
theorem dX0_run_64 : decode cX0_run 64 = .ok (.lmul, 1) := by decide +kernel
theorem dX0_run_65 : decode cX0_run 65 = .ok (.aload_n 0, 1) := by decide +kernel
theorem dX0_run_66 : decode cX0_run 66 = .ok (.getfield 41, 3) := by decide +kernel
theorem dX0_run_69 : decode cX0_run 69 = .ok (.lsub, 1) := by decide +kernel
theorem dX0_run_70 : decode cX0_run 70 = .ok (.putfield 50, 3) := by decide +kernel
theorem dX0_run_73 : decode cX0_run 73 = .ok (.return_, 1) := by decide +kernel
theorem dX0_runStage_0 : decode cX0_runStage 0 = .ok (.iload_n 2, 1) := by decide +kernel
theorem dX0_runStage_1 : decode cX0_runStage 1 = .ok (.iconst 1, 1) := by decide +kernel
theorem dX0_runStage_2 : decode cX0_runStage 2 = .ok (.if_icmp .ge 4, 3) := by decide +kernel
theorem dX0_runStage_5 : decode cX0_runStage 5 = .ok (.return_, 1) := by decide +kernel
theorem dX0_runStage_6 : decode cX0_runStage 6 = .ok (.aload_n 0, 1) := by decide +kernel
theorem dX0_runStage_7 : decode cX0_runStage 7 = .ok (.getfield 37, 3) := by decide +kernel
theorem dX0_runStage_10 : decode cX0_runStage 10 = .ok (.iload_n 2, 1) := by decide +kernel
theorem dX0_runStage_11 : decode cX0_runStage 11 = .ok (.i2l, 1) := by decide +kernel
theorem dX0_runStage_12 : decode cX0_runStage 12 = .ok (.ldiv, 1) := by decide +kernel
theorem dX0_runStage_13 : decode cX0_runStage 13 = .ok (.lstore 4, 2) := by decide +kernel
theorem dX0_runStage_15 : decode cX0_runStage 15 = .ok (.aload_n 0, 1) := by decide +kernel
theorem dX0_runStage_16 : decode cX0_runStage 16 = .ok (.getfield 37, 3) := by decide +kernel
theorem dX0_runStage_19 : decode cX0_runStage 19 = .ok (.iload_n 2, 1) := by decide +kernel
theorem dX0_runStage_20 : decode cX0_runStage 20 = .ok (.i2l, 1) := by decide +kernel
theorem dX0_runStage_21 : decode cX0_runStage 21 = .ok (.lrem, 1) := by decide +kernel
theorem dX0_runStage_22 : decode cX0_runStage 22 = .ok (.lstore 6, 2) := by decide +kernel
theorem dX0_runStage_24 : decode cX0_runStage 24 = .ok (.aload_n 0, 1) := by decide +kernel
theorem dX0_runStage_25 : decode cX0_runStage 25 = .ok (.getfield 37, 3) := by decide +kernel
theorem dX0_runStage_28 : decode cX0_runStage 28 = .ok (.aload_n 0, 1) := by decide +kernel
theorem dX0_runStage_29 : decode cX0_runStage 29 = .ok (.getfield 41, 3) := by decide +kernel
theorem dX0_runStage_32 : decode cX0_runStage 32 = .ok (.invokestatic 75, 3) := by decide +kernel
theorem dX0_runStage_35 : decode cX0_runStage 35 = .ok (.lstore 8, 2) := by decide +kernel
theorem dX0_runStage_37 : decode cX0_runStage 37 = .ok (.aload_n 0, 1) := by decide +kernel
theorem dX0_runStage_38 : decode cX0_runStage 38 = .ok (.getfield 41, 3) := by decide +kernel
theorem dX0_runStage_41 : decode cX0_runStage 41 = .ok (.aload_n 0, 1) := by decide +kernel
theorem dX0_runStage_42 : decode cX0_runStage 42 = .ok (.getfield 37, 3) := by decide +kernel
theorem dX0_runStage_45 : decode cX0_runStage 45 = .ok (.lload 8, 2) := by decide +kernel
theorem dX0_runStage_47 : decode cX0_runStage 47 = .ok (.lmul, 1) := by decide +kernel
theorem dX0_runStage_48 : decode cX0_runStage 48 = .ok (.lsub, 1) := by decide +kernel
theorem dX0_runStage_49 : decode cX0_runStage 49 = .ok (.lstore 10, 2) := by decide +kernel
theorem dX0_runStage_51 : decode cX0_runStage 51 = .ok (.aload_n 0, 1) := by decide +kernel
theorem dX0_runStage_52 : decode cX0_runStage 52 = .ok (.lconst 0, 1) := by decide +kernel
theorem dX0_runStage_53 : decode cX0_runStage 53 = .ok (.putfield 37, 3) := by decide +kernel
theorem dX0_runStage_56 : decode cX0_runStage 56 = .ok (.aload_n 0, 1) := by decide +kernel
theorem dX0_runStage_57 : decode cX0_runStage 57 = .ok (.lconst 0, 1) := by decide +kernel
theorem dX0_runStage_58 : decode cX0_runStage 58 = .ok (.putfield 41, 3) := by decide +kernel
theorem dX0_runStage_61 : decode cX0_runStage 61 = .ok (.iconst 0, 1) := by decide +kernel
theorem dX0_runStage_62 : decode cX0_runStage 62 = .ok (.istore 12, 2) := by decide +kernel
theorem dX0_runStage_64 : decode cX0_runStage 64 = .ok (.iload 12, 2) := by decide +kernel
theorem dX0_runStage_66 : decode cX0_runStage 66 = .ok (.iload_n 2, 1) := by decide +kernel
theorem dX0_runStage_67 : decode cX0_runStage 67 = .ok (.if_icmp .ge 71, 3) := by decide +kernel
theorem dX0_runStage_70 : decode cX0_runStage 70 = .ok (.iload 12, 2) := by decide +kernel
theorem dX0_runStage_72 : decode cX0_runStage 72 = .ok (.i2l, 1) := by decide +kernel
theorem dX0_runStage_73 : decode cX0_runStage 73 = .ok (.lload 6, 2) := by decide +kernel
theorem dX0_runStage_75 : decode cX0_runStage 75 = .ok (.lcmp, 1) := by decide +kernel
theorem dX0_runStage_76 : decode cX0_runStage 76 = .ok (.ifCond .ge 10, 3) := by decide +kernel
theorem dX0_runStage_79 : decode cX0_runStage 79 = .ok (.lload 4, 2) := by decide +kernel
theorem dX0_runStage_81 : decode cX0_runStage 81 = .ok (.lconst 1, 1) := by decide +kernel
theorem dX0_runStage_82 : decode cX0_runStage 82 = .ok (.ladd, 1) := by decide +kernel
theorem dX0_runStage_83 : decode cX0_runStage 83 = .ok (.goto 5, 3) := by decide +kernel
theorem dX0_runStage_86 : decode cX0_runStage 86 = .ok (.lload 4, 2) := by decide +kernel
theorem dX0_runStage_88 : decode cX0_runStage 88 = .ok (.lstore 13, 2) := by decide +kernel
theorem dX0_runStage_90 : decode cX0_runStage 90 = .ok (.iload 12, 2) := by decide +kernel
theorem dX0_runStage_92 : decode cX0_runStage 92 = .ok (.ifCond .ne 14, 3) := by decide +kernel
theorem dX0_runStage_95 : decode cX0_runStage 95 = .ok (.lload 13, 2) := by decide +kernel
theorem dX0_runStage_97 : decode cX0_runStage 97 = .ok (.lload 8, 2) := by decide +kernel
theorem dX0_runStage_99 : decode cX0_runStage 99 = .ok (.lmul, 1) := by decide +kernel
theorem dX0_runStage_100 : decode cX0_runStage 100 = .ok (.lload 10, 2) := by decide +kernel
theorem dX0_runStage_102 : decode cX0_runStage 102 = .ok (.ladd, 1) := by decide +kernel
theorem dX0_runStage_103 : decode cX0_runStage 103 = .ok (.goto 8, 3) := by decide +kernel
theorem dX0_runStage_106 : decode cX0_runStage 106 = .ok (.lload 13, 2) := by decide +kernel
theorem dX0_runStage_108 : decode cX0_runStage 108 = .ok (.lload 8, 2) := by decide +kernel
theorem dX0_runStage_110 : decode cX0_runStage 110 = .ok (.lmul, 1) := by decide +kernel
theorem dX0_runStage_111 : decode cX0_runStage 111 = .ok (.lstore 15, 2) := by decide +kernel
theorem dX0_runStage_113 : decode cX0_runStage 113 = .ok (.aload_n 0, 1) := by decide +kernel
theorem dX0_runStage_114 : decode cX0_runStage 114 = .ok (.iload_n 1, 1) := by decide +kernel
theorem dX0_runStage_115 : decode cX0_runStage 115 = .ok (.bipush 24, 2) := by decide +kernel
theorem dX0_runStage_117 : decode cX0_runStage 117 = .ok (.imul, 1) := by decide +kernel
theorem dX0_runStage_118 : decode cX0_runStage 118 = .ok (.iload 12, 2) := by decide +kernel
theorem dX0_runStage_120 : decode cX0_runStage 120 = .ok (.bipush 6, 2) := by decide +kernel
theorem dX0_runStage_122 : decode cX0_runStage 122 = .ok (.imul, 1) := by decide +kernel
theorem dX0_runStage_123 : decode cX0_runStage 123 = .ok (.iadd, 1) := by decide +kernel
theorem dX0_runStage_124 : decode cX0_runStage 124 = .ok (.iload_n 3, 1) := by decide +kernel
theorem dX0_runStage_125 : decode cX0_runStage 125 = .ok (.lload 13, 2) := by decide +kernel
theorem dX0_runStage_127 : decode cX0_runStage 127 = .ok (.lload 15, 2) := by decide +kernel
theorem dX0_runStage_129 : decode cX0_runStage 129 = .ok (.invokevirtual 79, 3) := by decide +kernel
theorem dX0_runStage_132 : decode cX0_runStage 132 = .ok (.iinc 12 1, 3) := by decide +kernel
theorem dX0_runStage_135 : decode cX0_runStage 135 = .ok (.goto (-71), 3) := by decide +kernel
theorem dX0_runStage_138 : decode cX0_runStage 138 = .ok (.aload_n 0, 1) := by decide +kernel
theorem dX0_runStage_139 : decode cX0_runStage 139 = .ok (.lconst 0, 1) := by decide +kernel
theorem dX0_runStage_140 : decode cX0_runStage 140 = .ok (.aload_n 0, 1) := by decide +kernel
theorem dX0_runStage_141 : decode cX0_runStage 141 = .ok (.getfield 44, 3) := by decide +kernel
theorem dX0_runStage_144 : decode cX0_runStage 144 = .ok (.iconst 2, 1) := by decide +kernel
theorem dX0_runStage_145 : decode cX0_runStage 145 = .ok (.iload_n 3, 1) := by decide +kernel
theorem dX0_runStage_146 : decode cX0_runStage 146 = .ok (.imul, 1) := by decide +kernel
theorem dX0_runStage_147 : decode cX0_runStage 147 = .ok (.i2l, 1) := by decide +kernel
theorem dX0_runStage_148 : decode cX0_runStage 148 = .ok (.lsub, 1) := by decide +kernel
theorem dX0_runStage_149 : decode cX0_runStage 149 = .ok (.invokestatic 83, 3) := by decide +kernel
theorem dX0_runStage_152 : decode cX0_runStage 152 = .ok (.putfield 44, 3) := by decide +kernel
theorem dX0_runStage_155 : decode cX0_runStage 155 = .ok (.return_, 1) := by decide +kernel
theorem dX0_runVessel_0 : decode cX0_runVessel 0 = .ok (.lload_n 3, 1) := by decide +kernel
theorem dX0_runVessel_1 : decode cX0_runVessel 1 = .ok (.lstore 7, 2) := by decide +kernel
theorem dX0_runVessel_3 : decode cX0_runVessel 3 = .ok (.lload 5, 2) := by decide +kernel
theorem dX0_runVessel_5 : decode cX0_runVessel 5 = .ok (.lstore 9, 2) := by decide +kernel
theorem dX0_runVessel_7 : decode cX0_runVessel 7 = .ok (.aload_n 0, 1) := by decide +kernel
theorem dX0_runVessel_8 : decode cX0_runVessel 8 = .ok (.getfield 44, 3) := by decide +kernel
theorem dX0_runVessel_11 : decode cX0_runVessel 11 = .ok (.lstore 11, 2) := by decide +kernel
theorem dX0_runVessel_13 : decode cX0_runVessel 13 = .ok (.iload_n 1, 1) := by decide +kernel
theorem dX0_runVessel_14 : decode cX0_runVessel 14 = .ok (.istore 13, 2) := by decide +kernel
theorem dX0_runVessel_16 : decode cX0_runVessel 16 = .ok (.iload 13, 2) := by decide +kernel
theorem dX0_runVessel_18 : decode cX0_runVessel 18 = .ok (.iload_n 1, 1) := by decide +kernel
theorem dX0_runVessel_19 : decode cX0_runVessel 19 = .ok (.iload_n 2, 1) := by decide +kernel
theorem dX0_runVessel_20 : decode cX0_runVessel 20 = .ok (.iadd, 1) := by decide +kernel
theorem dX0_runVessel_21 : decode cX0_runVessel 21 = .ok (.if_icmp .ge 174, 3) := by decide +kernel
theorem dX0_runVessel_24 : decode cX0_runVessel 24 = .ok (.iload 13, 2) := by decide +kernel
theorem dX0_runVessel_26 : decode cX0_runVessel 26 = .ok (.bipush 72, 2) := by decide +kernel
theorem dX0_runVessel_28 : decode cX0_runVessel 28 = .ok (.if_icmp .ge 167, 3) := by decide +kernel
theorem dX0_runVessel_31 : decode cX0_runVessel 31 = .ok (.aload_n 0, 1) := by decide +kernel
theorem dX0_runVessel_32 : decode cX0_runVessel 32 = .ok (.getfield 18, 3) := by decide +kernel
theorem dX0_runVessel_35 : decode cX0_runVessel 35 = .ok (.iload 13, 2) := by decide +kernel
theorem dX0_runVessel_37 : decode cX0_runVessel 37 = .ok (.lload 7, 2) := by decide +kernel
theorem dX0_runVessel_39 : decode cX0_runVessel 39 = .ok (.lastore, 1) := by decide +kernel
theorem dX0_runVessel_40 : decode cX0_runVessel 40 = .ok (.aload_n 0, 1) := by decide +kernel
theorem dX0_runVessel_41 : decode cX0_runVessel 41 = .ok (.getfield 22, 3) := by decide +kernel
theorem dX0_runVessel_44 : decode cX0_runVessel 44 = .ok (.iload 13, 2) := by decide +kernel
theorem dX0_runVessel_46 : decode cX0_runVessel 46 = .ok (.lload 9, 2) := by decide +kernel
theorem dX0_runVessel_48 : decode cX0_runVessel 48 = .ok (.lastore, 1) := by decide +kernel
theorem dX0_runVessel_49 : decode cX0_runVessel 49 = .ok (.aload_n 0, 1) := by decide +kernel
theorem dX0_runVessel_50 : decode cX0_runVessel 50 = .ok (.getfield 25, 3) := by decide +kernel
theorem dX0_runVessel_53 : decode cX0_runVessel 53 = .ok (.iload 13, 2) := by decide +kernel
theorem dX0_runVessel_55 : decode cX0_runVessel 55 = .ok (.lload 11, 2) := by decide +kernel
theorem dX0_runVessel_57 : decode cX0_runVessel 57 = .ok (.lastore, 1) := by decide +kernel
theorem dX0_runVessel_58 : decode cX0_runVessel 58 = .ok (.lload 7, 2) := by decide +kernel
theorem dX0_runVessel_60 : decode cX0_runVessel 60 = .ok (.lload 9, 2) := by decide +kernel
theorem dX0_runVessel_62 : decode cX0_runVessel 62 = .ok (.invokestatic 75, 3) := by decide +kernel
theorem dX0_runVessel_65 : decode cX0_runVessel 65 = .ok (.lstore 14, 2) := by decide +kernel
theorem dX0_runVessel_67 : decode cX0_runVessel 67 = .ok (.lconst 0, 1) := by decide +kernel
theorem dX0_runVessel_68 : decode cX0_runVessel 68 = .ok (.lload 11, 2) := by decide +kernel
theorem dX0_runVessel_70 : decode cX0_runVessel 70 = .ok (.lload 14, 2) := by decide +kernel
theorem dX0_runVessel_72 : decode cX0_runVessel 72 = .ok (.ldc2_w 88, 3) := by decide +kernel
theorem dX0_runVessel_75 : decode cX0_runVessel 75 = .ok (.ldiv, 1) := by decide +kernel
theorem dX0_runVessel_76 : decode cX0_runVessel 76 = .ok (.lsub, 1) := by decide +kernel
theorem dX0_runVessel_77 : decode cX0_runVessel 77 = .ok (.invokestatic 83, 3) := by decide +kernel
theorem dX0_runVessel_80 : decode cX0_runVessel 80 = .ok (.lstore 16, 2) := by decide +kernel
theorem dX0_runVessel_82 : decode cX0_runVessel 82 = .ok (.aload_n 0, 1) := by decide +kernel
theorem dX0_runVessel_83 : decode cX0_runVessel 83 = .ok (.getfield 28, 3) := by decide +kernel
theorem dX0_runVessel_86 : decode cX0_runVessel 86 = .ok (.iload 13, 2) := by decide +kernel
theorem dX0_runVessel_88 : decode cX0_runVessel 88 = .ok (.lload 7, 2) := by decide +kernel
theorem dX0_runVessel_90 : decode cX0_runVessel 90 = .ok (.lload 16, 2) := by decide +kernel
theorem dX0_runVessel_92 : decode cX0_runVessel 92 = .ok (.aload_n 0, 1) := by decide +kernel
theorem dX0_runVessel_93 : decode cX0_runVessel 93 = .ok (.getfield 9, 3) := by decide +kernel
theorem dX0_runVessel_96 : decode cX0_runVessel 96 = .ok (.iload 13, 2) := by decide +kernel
theorem dX0_runVessel_98 : decode cX0_runVessel 98 = .ok (.iaload, 1) := by decide +kernel
theorem dX0_runVessel_99 : decode cX0_runVessel 99 = .ok (.i2l, 1) := by decide +kernel
theorem dX0_runVessel_100 : decode cX0_runVessel 100 = .ok (.lmul, 1) := by decide +kernel
theorem dX0_runVessel_101 : decode cX0_runVessel 101 = .ok (.ldc2_w 88, 3) := by decide +kernel
theorem dX0_runVessel_104 : decode cX0_runVessel 104 = .ok (.ldiv, 1) := by decide +kernel
theorem dX0_runVessel_105 : decode cX0_runVessel 105 = .ok (.invokestatic 90, 3) := by decide +kernel
theorem dX0_runVessel_108 : decode cX0_runVessel 108 = .ok (.lastore, 1) := by decide +kernel
theorem dX0_runVessel_109 : decode cX0_runVessel 109 = .ok (.aload_n 0, 1) := by decide +kernel
theorem dX0_runVessel_110 : decode cX0_runVessel 110 = .ok (.getfield 31, 3) := by decide +kernel
theorem dX0_runVessel_113 : decode cX0_runVessel 113 = .ok (.iload 13, 2) := by decide +kernel
theorem dX0_runVessel_115 : decode cX0_runVessel 115 = .ok (.lload 14, 2) := by decide +kernel
theorem dX0_runVessel_117 : decode cX0_runVessel 117 = .ok (.aload_n 0, 1) := by decide +kernel
theorem dX0_runVessel_118 : decode cX0_runVessel 118 = .ok (.getfield 15, 3) := by decide +kernel
theorem dX0_runVessel_121 : decode cX0_runVessel 121 = .ok (.iload 13, 2) := by decide +kernel
theorem dX0_runVessel_123 : decode cX0_runVessel 123 = .ok (.iaload, 1) := by decide +kernel
theorem dX0_runVessel_124 : decode cX0_runVessel 124 = .ok (.i2l, 1) := by decide +kernel
theorem dX0_runVessel_125 : decode cX0_runVessel 125 = .ok (.lmul, 1) := by decide +kernel
theorem dX0_runVessel_126 : decode cX0_runVessel 126 = .ok (.ldc2_w 93, 3) := by decide +kernel
theorem dX0_runVessel_129 : decode cX0_runVessel 129 = .ok (.ldiv, 1) := by decide +kernel
theorem dX0_runVessel_130 : decode cX0_runVessel 130 = .ok (.lastore, 1) := by decide +kernel
theorem dX0_runVessel_131 : decode cX0_runVessel 131 = .ok (.aload_n 0, 1) := by decide +kernel
theorem dX0_runVessel_132 : decode cX0_runVessel 132 = .ok (.getfield 34, 3) := by decide +kernel
theorem dX0_runVessel_135 : decode cX0_runVessel 135 = .ok (.iload 13, 2) := by decide +kernel
theorem dX0_runVessel_137 : decode cX0_runVessel 137 = .ok (.aload_n 0, 1) := by decide +kernel
theorem dX0_runVessel_138 : decode cX0_runVessel 138 = .ok (.getfield 28, 3) := by decide +kernel
theorem dX0_runVessel_141 : decode cX0_runVessel 141 = .ok (.iload 13, 2) := by decide +kernel
theorem dX0_runVessel_143 : decode cX0_runVessel 143 = .ok (.laload, 1) := by decide +kernel
theorem dX0_runVessel_144 : decode cX0_runVessel 144 = .ok (.aload_n 0, 1) := by decide +kernel
theorem dX0_runVessel_145 : decode cX0_runVessel 145 = .ok (.getfield 31, 3) := by decide +kernel
theorem dX0_runVessel_148 : decode cX0_runVessel 148 = .ok (.iload 13, 2) := by decide +kernel
theorem dX0_runVessel_150 : decode cX0_runVessel 150 = .ok (.laload, 1) := by decide +kernel
theorem dX0_runVessel_151 : decode cX0_runVessel 151 = .ok (.lmul, 1) := by decide +kernel
theorem dX0_runVessel_152 : decode cX0_runVessel 152 = .ok (.lastore, 1) := by decide +kernel
theorem dX0_runVessel_153 : decode cX0_runVessel 153 = .ok (.lload 7, 2) := by decide +kernel
theorem dX0_runVessel_155 : decode cX0_runVessel 155 = .ok (.aload_n 0, 1) := by decide +kernel
theorem dX0_runVessel_156 : decode cX0_runVessel 156 = .ok (.getfield 28, 3) := by decide +kernel
theorem dX0_runVessel_159 : decode cX0_runVessel 159 = .ok (.iload 13, 2) := by decide +kernel
theorem dX0_runVessel_161 : decode cX0_runVessel 161 = .ok (.laload, 1) := by decide +kernel
theorem dX0_runVessel_162 : decode cX0_runVessel 162 = .ok (.lsub, 1) := by decide +kernel
theorem dX0_runVessel_163 : decode cX0_runVessel 163 = .ok (.lstore 7, 2) := by decide +kernel
theorem dX0_runVessel_165 : decode cX0_runVessel 165 = .ok (.lload 9, 2) := by decide +kernel
theorem dX0_runVessel_167 : decode cX0_runVessel 167 = .ok (.aload_n 0, 1) := by decide +kernel
theorem dX0_runVessel_168 : decode cX0_runVessel 168 = .ok (.getfield 34, 3) := by decide +kernel
theorem dX0_runVessel_171 : decode cX0_runVessel 171 = .ok (.iload 13, 2) := by decide +kernel
theorem dX0_runVessel_173 : decode cX0_runVessel 173 = .ok (.laload, 1) := by decide +kernel
theorem dX0_runVessel_174 : decode cX0_runVessel 174 = .ok (.lsub, 1) := by decide +kernel
theorem dX0_runVessel_175 : decode cX0_runVessel 175 = .ok (.lstore 9, 2) := by decide +kernel
theorem dX0_runVessel_177 : decode cX0_runVessel 177 = .ok (.lconst 0, 1) := by decide +kernel
theorem dX0_runVessel_178 : decode cX0_runVessel 178 = .ok (.lload 11, 2) := by decide +kernel
theorem dX0_runVessel_180 : decode cX0_runVessel 180 = .ok (.ldc2_w 95, 3) := by decide +kernel
theorem dX0_runVessel_183 : decode cX0_runVessel 183 = .ok (.lsub, 1) := by decide +kernel
theorem dX0_runVessel_184 : decode cX0_runVessel 184 = .ok (.invokestatic 83, 3) := by decide +kernel
theorem dX0_runVessel_187 : decode cX0_runVessel 187 = .ok (.lstore 11, 2) := by decide +kernel
theorem dX0_runVessel_189 : decode cX0_runVessel 189 = .ok (.iinc 13 1, 3) := by decide +kernel
theorem dX0_runVessel_192 : decode cX0_runVessel 192 = .ok (.goto (-176), 3) := by decide +kernel
theorem dX0_runVessel_195 : decode cX0_runVessel 195 = .ok (.aload_n 0, 1) := by decide +kernel
theorem dX0_runVessel_196 : decode cX0_runVessel 196 = .ok (.dup, 1) := by decide +kernel
theorem dX0_runVessel_197 : decode cX0_runVessel 197 = .ok (.getfield 37, 3) := by decide +kernel
theorem dX0_runVessel_200 : decode cX0_runVessel 200 = .ok (.lload 7, 2) := by decide +kernel
theorem dX0_runVessel_202 : decode cX0_runVessel 202 = .ok (.ladd, 1) := by decide +kernel
theorem dX0_runVessel_203 : decode cX0_runVessel 203 = .ok (.putfield 37, 3) := by decide +kernel
theorem dX0_runVessel_206 : decode cX0_runVessel 206 = .ok (.aload_n 0, 1) := by decide +kernel
theorem dX0_runVessel_207 : decode cX0_runVessel 207 = .ok (.dup, 1) := by decide +kernel
theorem dX0_runVessel_208 : decode cX0_runVessel 208 = .ok (.getfield 41, 3) := by decide +kernel
theorem dX0_runVessel_211 : decode cX0_runVessel 211 = .ok (.lload 9, 2) := by decide +kernel
theorem dX0_runVessel_213 : decode cX0_runVessel 213 = .ok (.ladd, 1) := by decide +kernel
theorem dX0_runVessel_214 : decode cX0_runVessel 214 = .ok (.putfield 41, 3) := by decide +kernel
theorem dX0_runVessel_217 : decode cX0_runVessel 217 = .ok (.return_, 1) := by decide +kernel
theorem dX0_firstFailure_0 : decode cX0_firstFailure 0 = .ok (.iconst 0, 1) := by decide +kernel
theorem dX0_firstFailure_1 : decode cX0_firstFailure 1 = .ok (.istore 4, 2) := by decide +kernel
theorem dX0_firstFailure_3 : decode cX0_firstFailure 3 = .ok (.iload 4, 2) := by decide +kernel
theorem dX0_firstFailure_5 : decode cX0_firstFailure 5 = .ok (.bipush 72, 2) := by decide +kernel
theorem dX0_firstFailure_7 : decode cX0_firstFailure 7 = .ok (.if_icmp .ge 80, 3) := by decide +kernel
theorem dX0_firstFailure_10 : decode cX0_firstFailure 10 = .ok (.aload_n 1, 1) := by decide +kernel
theorem dX0_firstFailure_11 : decode cX0_firstFailure 11 = .ok (.iload 4, 2) := by decide +kernel
theorem dX0_firstFailure_13 : decode cX0_firstFailure 13 = .ok (.invokevirtual 97, 3) := by decide +kernel
theorem dX0_firstFailure_16 : decode cX0_firstFailure 16 = .ok (.ifCond .eq 65, 3) := by decide +kernel
theorem dX0_firstFailure_19 : decode cX0_firstFailure 19 = .ok (.aload_n 0, 1) := by decide +kernel
theorem dX0_firstFailure_20 : decode cX0_firstFailure 20 = .ok (.getfield 18, 3) := by decide +kernel
theorem dX0_firstFailure_23 : decode cX0_firstFailure 23 = .ok (.iload 4, 2) := by decide +kernel
theorem dX0_firstFailure_25 : decode cX0_firstFailure 25 = .ok (.laload, 1) := by decide +kernel
theorem dX0_firstFailure_26 : decode cX0_firstFailure 26 = .ok (.aload_n 0, 1) := by decide +kernel
theorem dX0_firstFailure_27 : decode cX0_firstFailure 27 = .ok (.getfield 28, 3) := by decide +kernel
theorem dX0_firstFailure_30 : decode cX0_firstFailure 30 = .ok (.iload 4, 2) := by decide +kernel
theorem dX0_firstFailure_32 : decode cX0_firstFailure 32 = .ok (.laload, 1) := by decide +kernel
theorem dX0_firstFailure_33 : decode cX0_firstFailure 33 = .ok (.lsub, 1) := by decide +kernel
theorem dX0_firstFailure_34 : decode cX0_firstFailure 34 = .ok (.iload_n 2, 1) := by decide +kernel
theorem dX0_firstFailure_35 : decode cX0_firstFailure 35 = .ok (.i2l, 1) := by decide +kernel
theorem dX0_firstFailure_36 : decode cX0_firstFailure 36 = .ok (.lcmp, 1) := by decide +kernel
theorem dX0_firstFailure_37 : decode cX0_firstFailure 37 = .ok (.ifCond .ge 16, 3) := by decide +kernel
theorem dX0_firstFailure_40 : decode cX0_firstFailure 40 = .ok (.ldc2_w 101, 3) := by decide +kernel
theorem dX0_firstFailure_43 : decode cX0_firstFailure 43 = .ok (.iload 4, 2) := by decide +kernel
theorem dX0_firstFailure_45 : decode cX0_firstFailure 45 = .ok (.invokestatic 103, 3) := by decide +kernel
theorem dX0_firstFailure_48 : decode cX0_firstFailure 48 = .ok (.i2l, 1) := by decide +kernel
theorem dX0_firstFailure_49 : decode cX0_firstFailure 49 = .ok (.lmul, 1) := by decide +kernel
theorem dX0_firstFailure_50 : decode cX0_firstFailure 50 = .ok (.lconst 1, 1) := by decide +kernel
theorem dX0_firstFailure_51 : decode cX0_firstFailure 51 = .ok (.ladd, 1) := by decide +kernel
theorem dX0_firstFailure_52 : decode cX0_firstFailure 52 = .ok (.lreturn, 1) := by decide +kernel
theorem dX0_firstFailure_53 : decode cX0_firstFailure 53 = .ok (.aload_n 0, 1) := by decide +kernel
theorem dX0_firstFailure_54 : decode cX0_firstFailure 54 = .ok (.getfield 28, 3) := by decide +kernel
theorem dX0_firstFailure_57 : decode cX0_firstFailure 57 = .ok (.iload 4, 2) := by decide +kernel
theorem dX0_firstFailure_59 : decode cX0_firstFailure 59 = .ok (.laload, 1) := by decide +kernel
theorem dX0_firstFailure_60 : decode cX0_firstFailure 60 = .ok (.iload_n 3, 1) := by decide +kernel
theorem dX0_firstFailure_61 : decode cX0_firstFailure 61 = .ok (.i2l, 1) := by decide +kernel
theorem dX0_firstFailure_62 : decode cX0_firstFailure 62 = .ok (.lcmp, 1) := by decide +kernel
theorem dX0_firstFailure_63 : decode cX0_firstFailure 63 = .ok (.ifCond .le 18, 3) := by decide +kernel
theorem dX0_firstFailure_66 : decode cX0_firstFailure 66 = .ok (.ldc2_w 101, 3) := by decide +kernel
theorem dX0_firstFailure_69 : decode cX0_firstFailure 69 = .ok (.iload 4, 2) := by decide +kernel
theorem dX0_firstFailure_71 : decode cX0_firstFailure 71 = .ok (.invokestatic 103, 3) := by decide +kernel
theorem dX0_firstFailure_74 : decode cX0_firstFailure 74 = .ok (.i2l, 1) := by decide +kernel
theorem dX0_firstFailure_75 : decode cX0_firstFailure 75 = .ok (.lmul, 1) := by decide +kernel
theorem dX0_firstFailure_76 : decode cX0_firstFailure 76 = .ok (.ldc2_w 95, 3) := by decide +kernel
theorem dX0_firstFailure_79 : decode cX0_firstFailure 79 = .ok (.ladd, 1) := by decide +kernel
theorem dX0_firstFailure_80 : decode cX0_firstFailure 80 = .ok (.lreturn, 1) := by decide +kernel
theorem dX0_firstFailure_81 : decode cX0_firstFailure 81 = .ok (.iinc 4 1, 3) := by decide +kernel
theorem dX0_firstFailure_84 : decode cX0_firstFailure 84 = .ok (.goto (-81), 3) := by decide +kernel
theorem dX0_firstFailure_87 : decode cX0_firstFailure 87 = .ok (.ldc2_w 106, 3) := by decide +kernel
theorem dX0_firstFailure_90 : decode cX0_firstFailure 90 = .ok (.lreturn, 1) := by decide +kernel
theorem dX1_init_0 : decode cX1_init 0 = .ok (.aload_n 0, 1) := by decide +kernel
theorem dX1_init_1 : decode cX1_init 1 = .ok (.invokespecial 1, 3) := by decide +kernel
theorem dX1_init_4 : decode cX1_init 4 = .ok (.aload_n 0, 1) := by decide +kernel
theorem dX1_init_5 : decode cX1_init 5 = .ok (.bipush 12, 2) := by decide +kernel
theorem dX1_init_7 : decode cX1_init 7 = .ok (.newarray .int, 2) := by decide +kernel
theorem dX1_init_9 : decode cX1_init 9 = .ok (.putfield 9, 3) := by decide +kernel
theorem dX1_init_12 : decode cX1_init 12 = .ok (.aload_n 0, 1) := by decide +kernel
theorem dX1_init_13 : decode cX1_init 13 = .ok (.bipush 12, 2) := by decide +kernel
theorem dX1_init_15 : decode cX1_init 15 = .ok (.newarray .int, 2) := by decide +kernel
theorem dX1_init_17 : decode cX1_init 17 = .ok (.putfield 13, 3) := by decide +kernel
theorem dX1_init_20 : decode cX1_init 20 = .ok (.aload_n 0, 1) := by decide +kernel
theorem dX1_init_21 : decode cX1_init 21 = .ok (.sipush 201, 3) := by decide +kernel
theorem dX1_init_24 : decode cX1_init 24 = .ok (.newarray .int, 2) := by decide +kernel
theorem dX1_init_26 : decode cX1_init 26 = .ok (.putfield 16, 3) := by decide +kernel
theorem dX1_init_29 : decode cX1_init 29 = .ok (.aload_n 0, 1) := by decide +kernel
theorem dX1_init_30 : decode cX1_init 30 = .ok (.sipush 201, 3) := by decide +kernel
theorem dX1_init_33 : decode cX1_init 33 = .ok (.newarray .int, 2) := by decide +kernel
theorem dX1_init_35 : decode cX1_init 35 = .ok (.putfield 19, 3) := by decide +kernel
theorem dX1_init_38 : decode cX1_init 38 = .ok (.return_, 1) := by decide +kernel
theorem dX1_mostOf_0 : decode cX1_mostOf 0 = .ok (.iload_n 0, 1) := by decide +kernel
theorem dX1_mostOf_1 : decode cX1_mostOf 1 = .ok (.ifCond .ne 8, 3) := by decide +kernel
theorem dX1_mostOf_4 : decode cX1_mostOf 4 = .ok (.bipush 99, 2) := by decide +kernel
theorem dX1_mostOf_6 : decode cX1_mostOf 6 = .ok (.goto 6, 3) := by decide +kernel
theorem dX1_mostOf_9 : decode cX1_mostOf 9 = .ok (.sipush 999, 3) := by decide +kernel
theorem dX1_mostOf_12 : decode cX1_mostOf 12 = .ok (.ireturn, 1) := by decide +kernel
theorem dX1_rowOf_0 : decode cX1_rowOf 0 = .ok (.iload_n 1, 1) := by decide +kernel
theorem dX1_rowOf_1 : decode cX1_rowOf 1 = .ok (.ifCond .ne 10, 3) := by decide +kernel
theorem dX1_rowOf_4 : decode cX1_rowOf 4 = .ok (.aload_n 0, 1) := by decide +kernel
theorem dX1_rowOf_5 : decode cX1_rowOf 5 = .ok (.getfield 9, 3) := by decide +kernel
theorem dX1_rowOf_8 : decode cX1_rowOf 8 = .ok (.goto 7, 3) := by decide +kernel
theorem dX1_rowOf_11 : decode cX1_rowOf 11 = .ok (.aload_n 0, 1) := by decide +kernel
theorem dX1_rowOf_12 : decode cX1_rowOf 12 = .ok (.getfield 13, 3) := by decide +kernel
theorem dX1_rowOf_15 : decode cX1_rowOf 15 = .ok (.areturn, 1) := by decide +kernel
theorem dX1_isPlan_0 : decode cX1_isPlan 0 = .ok (.iload_n 0, 1) := by decide +kernel
theorem dX1_isPlan_1 : decode cX1_isPlan 1 = .ok (.ldc 22, 2) := by decide +kernel
theorem dX1_isPlan_3 : decode cX1_isPlan 3 = .ok (.if_icmp .ge 7, 3) := by decide +kernel
theorem dX1_isPlan_6 : decode cX1_isPlan 6 = .ok (.iconst 1, 1) := by decide +kernel
theorem dX1_isPlan_7 : decode cX1_isPlan 7 = .ok (.goto 4, 3) := by decide +kernel
theorem dX1_isPlan_10 : decode cX1_isPlan 10 = .ok (.iconst 0, 1) := by decide +kernel
theorem dX1_isPlan_11 : decode cX1_isPlan 11 = .ok (.ireturn, 1) := by decide +kernel
theorem dX1_costOf_0 : decode cX1_costOf 0 = .ok (.iload_n 0, 1) := by decide +kernel
theorem dX1_costOf_1 : decode cX1_costOf 1 = .ok (.bipush 12, 2) := by decide +kernel
theorem dX1_costOf_3 : decode cX1_costOf 3 = .ok (.ishr, 1) := by decide +kernel
theorem dX1_costOf_4 : decode cX1_costOf 4 = .ok (.ireturn, 1) := by decide +kernel
theorem dX1_runsAt_0 : decode cX1_runsAt 0 = .ok (.iload_n 0, 1) := by decide +kernel
theorem dX1_runsAt_1 : decode cX1_runsAt 1 = .ok (.bipush 11, 2) := by decide +kernel
theorem dX1_runsAt_3 : decode cX1_runsAt 3 = .ok (.iload_n 1, 1) := by decide +kernel
theorem dX1_runsAt_4 : decode cX1_runsAt 4 = .ok (.isub, 1) := by decide +kernel
theorem dX1_runsAt_5 : decode cX1_runsAt 5 = .ok (.ishr, 1) := by decide +kernel
theorem dX1_runsAt_6 : decode cX1_runsAt 6 = .ok (.iconst 1, 1) := by decide +kernel
theorem dX1_runsAt_7 : decode cX1_runsAt 7 = .ok (.iand, 1) := by decide +kernel
theorem dX1_runsAt_8 : decode cX1_runsAt 8 = .ok (.iconst 1, 1) := by decide +kernel
theorem dX1_runsAt_9 : decode cX1_runsAt 9 = .ok (.if_icmp .ne 7, 3) := by decide +kernel
theorem dX1_runsAt_12 : decode cX1_runsAt 12 = .ok (.iconst 1, 1) := by decide +kernel
theorem dX1_runsAt_13 : decode cX1_runsAt 13 = .ok (.goto 4, 3) := by decide +kernel
theorem dX1_runsAt_16 : decode cX1_runsAt 16 = .ok (.iconst 0, 1) := by decide +kernel
theorem dX1_runsAt_17 : decode cX1_runsAt 17 = .ok (.ireturn, 1) := by decide +kernel
theorem dX1_bitsOf_0 : decode cX1_bitsOf 0 = .ok (.iconst 0, 1) := by decide +kernel
theorem dX1_bitsOf_1 : decode cX1_bitsOf 1 = .ok (.istore_n 1, 1) := by decide +kernel
theorem dX1_bitsOf_2 : decode cX1_bitsOf 2 = .ok (.iconst 0, 1) := by decide +kernel
theorem dX1_bitsOf_3 : decode cX1_bitsOf 3 = .ok (.istore_n 2, 1) := by decide +kernel
theorem dX1_bitsOf_4 : decode cX1_bitsOf 4 = .ok (.iload_n 2, 1) := by decide +kernel
theorem dX1_bitsOf_5 : decode cX1_bitsOf 5 = .ok (.bipush 12, 2) := by decide +kernel
theorem dX1_bitsOf_7 : decode cX1_bitsOf 7 = .ok (.if_icmp .ge 27, 3) := by decide +kernel
theorem dX1_bitsOf_10 : decode cX1_bitsOf 10 = .ok (.iload_n 1, 1) := by decide +kernel
theorem dX1_bitsOf_11 : decode cX1_bitsOf 11 = .ok (.iload_n 0, 1) := by decide +kernel
theorem dX1_bitsOf_12 : decode cX1_bitsOf 12 = .ok (.iload_n 2, 1) := by decide +kernel
theorem dX1_bitsOf_13 : decode cX1_bitsOf 13 = .ok (.invokestatic 23, 3) := by decide +kernel
theorem dX1_bitsOf_16 : decode cX1_bitsOf 16 = .ok (.ifCond .eq 9, 3) := by decide +kernel
theorem dX1_bitsOf_19 : decode cX1_bitsOf 19 = .ok (.iconst 1, 1) := by decide +kernel
theorem dX1_bitsOf_20 : decode cX1_bitsOf 20 = .ok (.iload_n 2, 1) := by decide +kernel
theorem dX1_bitsOf_21 : decode cX1_bitsOf 21 = .ok (.ishl, 1) := by decide +kernel
theorem dX1_bitsOf_22 : decode cX1_bitsOf 22 = .ok (.goto 4, 3) := by decide +kernel
theorem dX1_bitsOf_25 : decode cX1_bitsOf 25 = .ok (.iconst 0, 1) := by decide +kernel
theorem dX1_bitsOf_26 : decode cX1_bitsOf 26 = .ok (.ior, 1) := by decide +kernel
theorem dX1_bitsOf_27 : decode cX1_bitsOf 27 = .ok (.istore_n 1, 1) := by decide +kernel
theorem dX1_bitsOf_28 : decode cX1_bitsOf 28 = .ok (.iinc 2 1, 3) := by decide +kernel
theorem dX1_bitsOf_31 : decode cX1_bitsOf 31 = .ok (.goto (-27), 3) := by decide +kernel
theorem dX1_bitsOf_34 : decode cX1_bitsOf 34 = .ok (.iload_n 1, 1) := by decide +kernel
theorem dX1_bitsOf_35 : decode cX1_bitsOf 35 = .ok (.ireturn, 1) := by decide +kernel
theorem dX1_behind_0 : decode cX1_behind 0 = .ok (.iload_n 3, 1) := by decide +kernel
theorem dX1_behind_1 : decode cX1_behind 1 = .ok (.iload_n 2, 1) := by decide +kernel
theorem dX1_behind_2 : decode cX1_behind 2 = .ok (.aload_n 0, 1) := by decide +kernel
theorem dX1_behind_3 : decode cX1_behind 3 = .ok (.getfield 13, 3) := by decide +kernel
theorem dX1_behind_6 : decode cX1_behind 6 = .ok (.iload_n 1, 1) := by decide +kernel
theorem dX1_behind_7 : decode cX1_behind 7 = .ok (.iaload, 1) := by decide +kernel
theorem dX1_behind_8 : decode cX1_behind 8 = .ok (.isub, 1) := by decide +kernel
theorem dX1_behind_9 : decode cX1_behind 9 = .ok (.invokestatic 27, 3) := by decide +kernel
theorem dX1_behind_12 : decode cX1_behind 12 = .ok (.ireturn, 1) := by decide +kernel
theorem dX1_best_0 : decode cX1_best 0 = .ok (.aload_n 0, 1) := by decide +kernel
theorem dX1_best_1 : decode cX1_best 1 = .ok (.getfield 19, 3) := by decide +kernel
theorem dX1_best_4 : decode cX1_best 4 = .ok (.iconst 0, 1) := by decide +kernel
theorem dX1_best_5 : decode cX1_best 5 = .ok (.invokestatic 33, 3) := by decide +kernel
theorem dX1_best_8 : decode cX1_best 8 = .ok (.bipush 11, 2) := by decide +kernel
theorem dX1_best_10 : decode cX1_best 10 = .ok (.istore 4, 2) := by decide +kernel
theorem dX1_best_12 : decode cX1_best 12 = .ok (.iload 4, 2) := by decide +kernel
theorem dX1_best_14 : decode cX1_best 14 = .ok (.ifCond .lt 122, 3) := by decide +kernel
theorem dX1_best_17 : decode cX1_best 17 = .ok (.aload_n 0, 1) := by decide +kernel
theorem dX1_best_18 : decode cX1_best 18 = .ok (.getfield 9, 3) := by decide +kernel
theorem dX1_best_21 : decode cX1_best 21 = .ok (.iload 4, 2) := by decide +kernel
theorem dX1_best_23 : decode cX1_best 23 = .ok (.iaload, 1) := by decide +kernel
theorem dX1_best_24 : decode cX1_best 24 = .ok (.bipush 12, 2) := by decide +kernel
theorem dX1_best_26 : decode cX1_best 26 = .ok (.ishl, 1) := by decide +kernel
theorem dX1_best_27 : decode cX1_best 27 = .ok (.iconst 1, 1) := by decide +kernel
theorem dX1_best_28 : decode cX1_best 28 = .ok (.bipush 11, 2) := by decide +kernel
theorem dX1_best_30 : decode cX1_best 30 = .ok (.iload 4, 2) := by decide +kernel
theorem dX1_best_32 : decode cX1_best 32 = .ok (.isub, 1) := by decide +kernel
theorem dX1_best_33 : decode cX1_best 33 = .ok (.ishl, 1) := by decide +kernel
theorem dX1_best_34 : decode cX1_best 34 = .ok (.iadd, 1) := by decide +kernel
theorem dX1_best_35 : decode cX1_best 35 = .ok (.istore 5, 2) := by decide +kernel
theorem dX1_best_37 : decode cX1_best 37 = .ok (.iconst 0, 1) := by decide +kernel
theorem dX1_best_38 : decode cX1_best 38 = .ok (.istore 6, 2) := by decide +kernel
theorem dX1_best_40 : decode cX1_best 40 = .ok (.iload 6, 2) := by decide +kernel
theorem dX1_best_42 : decode cX1_best 42 = .ok (.iload_n 2, 1) := by decide +kernel
theorem dX1_best_43 : decode cX1_best 43 = .ok (.if_icmp .gt 71, 3) := by decide +kernel
theorem dX1_best_46 : decode cX1_best 46 = .ok (.iload 6, 2) := by decide +kernel
theorem dX1_best_48 : decode cX1_best 48 = .ok (.sipush 200, 3) := by decide +kernel
theorem dX1_best_51 : decode cX1_best 51 = .ok (.if_icmp .gt 63, 3) := by decide +kernel
theorem dX1_best_54 : decode cX1_best 54 = .ok (.aload_n 0, 1) := by decide +kernel
theorem dX1_best_55 : decode cX1_best 55 = .ok (.aload_n 0, 1) := by decide +kernel
theorem dX1_best_56 : decode cX1_best 56 = .ok (.iload 4, 2) := by decide +kernel
theorem dX1_best_58 : decode cX1_best 58 = .ok (.iload 6, 2) := by decide +kernel
theorem dX1_best_60 : decode cX1_best 60 = .ok (.iload_n 2, 1) := by decide +kernel
theorem dX1_best_61 : decode cX1_best 61 = .ok (.invokevirtual 39, 3) := by decide +kernel
theorem dX1_best_64 : decode cX1_best 64 = .ok (.invokevirtual 43, 3) := by decide +kernel
theorem dX1_best_67 : decode cX1_best 67 = .ok (.istore 7, 2) := by decide +kernel
theorem dX1_best_69 : decode cX1_best 69 = .ok (.aload_n 0, 1) := by decide +kernel
theorem dX1_best_70 : decode cX1_best 70 = .ok (.aload_n 0, 1) := by decide +kernel
theorem dX1_best_71 : decode cX1_best 71 = .ok (.iload 4, 2) := by decide +kernel
theorem dX1_best_73 : decode cX1_best 73 = .ok (.iload 6, 2) := by decide +kernel
theorem dX1_best_75 : decode cX1_best 75 = .ok (.iload_n 3, 1) := by decide +kernel
theorem dX1_best_76 : decode cX1_best 76 = .ok (.iadd, 1) := by decide +kernel
theorem dX1_best_77 : decode cX1_best 77 = .ok (.iload_n 2, 1) := by decide +kernel
theorem dX1_best_78 : decode cX1_best 78 = .ok (.invokevirtual 39, 3) := by decide +kernel
theorem dX1_best_81 : decode cX1_best 81 = .ok (.invokevirtual 43, 3) := by decide +kernel
theorem dX1_best_84 : decode cX1_best 84 = .ok (.iload 5, 2) := by decide +kernel
theorem dX1_best_86 : decode cX1_best 86 = .ok (.iadd, 1) := by decide +kernel
theorem dX1_best_87 : decode cX1_best 87 = .ok (.istore 8, 2) := by decide +kernel
theorem dX1_best_89 : decode cX1_best 89 = .ok (.aload_n 0, 1) := by decide +kernel
theorem dX1_best_90 : decode cX1_best 90 = .ok (.getfield 16, 3) := by decide +kernel
theorem dX1_best_93 : decode cX1_best 93 = .ok (.iload 6, 2) := by decide +kernel
theorem dX1_best_95 : decode cX1_best 95 = .ok (.ldc 22, 2) := by decide +kernel
theorem dX1_best_97 : decode cX1_best 97 = .ok (.iload 7, 2) := by decide +kernel
theorem dX1_best_99 : decode cX1_best 99 = .ok (.iload 8, 2) := by decide +kernel
theorem dX1_best_101 : decode cX1_best 101 = .ok (.invokestatic 27, 3) := by decide +kernel
theorem dX1_best_104 : decode cX1_best 104 = .ok (.invokestatic 27, 3) := by decide +kernel
theorem dX1_best_107 : decode cX1_best 107 = .ok (.iastore, 1) := by decide +kernel
theorem dX1_best_108 : decode cX1_best 108 = .ok (.iinc 6 1, 3) := by decide +kernel
theorem dX1_best_111 : decode cX1_best 111 = .ok (.goto (-71), 3) := by decide +kernel
theorem dX1_best_114 : decode cX1_best 114 = .ok (.aload_n 0, 1) := by decide +kernel
theorem dX1_best_115 : decode cX1_best 115 = .ok (.getfield 16, 3) := by decide +kernel
theorem dX1_best_118 : decode cX1_best 118 = .ok (.iconst 0, 1) := by decide +kernel
theorem dX1_best_119 : decode cX1_best 119 = .ok (.aload_n 0, 1) := by decide +kernel
theorem dX1_best_120 : decode cX1_best 120 = .ok (.getfield 19, 3) := by decide +kernel
theorem dX1_best_123 : decode cX1_best 123 = .ok (.iconst 0, 1) := by decide +kernel
theorem dX1_best_124 : decode cX1_best 124 = .ok (.sipush 201, 3) := by decide +kernel
theorem dX1_best_127 : decode cX1_best 127 = .ok (.invokestatic 47, 3) := by decide +kernel
theorem dX1_best_130 : decode cX1_best 130 = .ok (.iinc 4 (-1), 3) := by decide +kernel
theorem dX1_best_133 : decode cX1_best 133 = .ok (.goto (-121), 3) := by decide +kernel
theorem dX1_best_136 : decode cX1_best 136 = .ok (.aload_n 0, 1) := by decide +kernel
theorem dX1_best_137 : decode cX1_best 137 = .ok (.iload_n 1, 1) := by decide +kernel
theorem dX1_best_138 : decode cX1_best 138 = .ok (.invokevirtual 43, 3) := by decide +kernel
theorem dX1_best_141 : decode cX1_best 141 = .ok (.ireturn, 1) := by decide +kernel
theorem dX1_laterAt_0 : decode cX1_laterAt 0 = .ok (.iload_n 1, 1) := by decide +kernel
theorem dX1_laterAt_1 : decode cX1_laterAt 1 = .ok (.ifCond .lt 10, 3) := by decide +kernel
theorem dX1_laterAt_4 : decode cX1_laterAt 4 = .ok (.iload_n 1, 1) := by decide +kernel
theorem dX1_laterAt_5 : decode cX1_laterAt 5 = .ok (.sipush 200, 3) := by decide +kernel
theorem dX1_laterAt_8 : decode cX1_laterAt 8 = .ok (.if_icmp .le 8, 3) := by decide +kernel
theorem dX1_laterAt_11 : decode cX1_laterAt 11 = .ok (.ldc 22, 2) := by decide +kernel
theorem dX1_laterAt_13 : decode cX1_laterAt 13 = .ok (.goto 9, 3) := by decide +kernel
theorem dX1_laterAt_16 : decode cX1_laterAt 16 = .ok (.aload_n 0, 1) := by decide +kernel
theorem dX1_laterAt_17 : decode cX1_laterAt 17 = .ok (.getfield 19, 3) := by decide +kernel
theorem dX1_laterAt_20 : decode cX1_laterAt 20 = .ok (.iload_n 1, 1) := by decide +kernel
theorem dX1_laterAt_21 : decode cX1_laterAt 21 = .ok (.iaload, 1) := by decide +kernel
theorem dX1_laterAt_22 : decode cX1_laterAt 22 = .ok (.ireturn, 1) := by decide +kernel
theorem dX2_init_0 : decode cX2_init 0 = .ok (.aload_n 0, 1) := by decide +kernel
theorem dX2_init_1 : decode cX2_init 1 = .ok (.invokespecial 5, 3) := by decide +kernel
theorem dX2_init_4 : decode cX2_init 4 = .ok (.aload_n 0, 1) := by decide +kernel
theorem dX2_init_5 : decode cX2_init 5 = .ok (.iconst 3, 1) := by decide +kernel
theorem dX2_init_6 : decode cX2_init 6 = .ok (.newarray .int, 2) := by decide +kernel
theorem dX2_init_8 : decode cX2_init 8 = .ok (.dup, 1) := by decide +kernel
theorem dX2_init_9 : decode cX2_init 9 = .ok (.iconst 0, 1) := by decide +kernel
theorem dX2_init_10 : decode cX2_init 10 = .ok (.iconst 1, 1) := by decide +kernel
theorem dX2_init_11 : decode cX2_init 11 = .ok (.iastore, 1) := by decide +kernel
theorem dX2_init_12 : decode cX2_init 12 = .ok (.dup, 1) := by decide +kernel
theorem dX2_init_13 : decode cX2_init 13 = .ok (.iconst 1, 1) := by decide +kernel
theorem dX2_init_14 : decode cX2_init 14 = .ok (.iconst 0, 1) := by decide +kernel
theorem dX2_init_15 : decode cX2_init 15 = .ok (.iastore, 1) := by decide +kernel
theorem dX2_init_16 : decode cX2_init 16 = .ok (.dup, 1) := by decide +kernel
theorem dX2_init_17 : decode cX2_init 17 = .ok (.iconst 2, 1) := by decide +kernel
theorem dX2_init_18 : decode cX2_init 18 = .ok (.iconst 0, 1) := by decide +kernel
theorem dX2_init_19 : decode cX2_init 19 = .ok (.iastore, 1) := by decide +kernel
theorem dX2_init_20 : decode cX2_init 20 = .ok (.putfield 11, 3) := by decide +kernel
theorem dX2_init_23 : decode cX2_init 23 = .ok (.aload_n 0, 1) := by decide +kernel
theorem dX2_init_24 : decode cX2_init 24 = .ok (.iconst 3, 1) := by decide +kernel
theorem dX2_init_25 : decode cX2_init 25 = .ok (.putfield 15, 3) := by decide +kernel
theorem dX2_init_28 : decode cX2_init 28 = .ok (.return_, 1) := by decide +kernel
theorem dX2_vesselsIn_0 : decode cX2_vesselsIn 0 = .ok (.iconst 0, 1) := by decide +kernel
theorem dX2_vesselsIn_1 : decode cX2_vesselsIn 1 = .ok (.istore_n 2, 1) := by decide +kernel
theorem dX2_vesselsIn_2 : decode cX2_vesselsIn 2 = .ok (.iload_n 2, 1) := by decide +kernel
theorem dX2_vesselsIn_3 : decode cX2_vesselsIn 3 = .ok (.iload_n 1, 1) := by decide +kernel
theorem dX2_vesselsIn_4 : decode cX2_vesselsIn 4 = .ok (.if_icmp .ge 25, 3) := by decide +kernel
theorem dX2_vesselsIn_7 : decode cX2_vesselsIn 7 = .ok (.iload_n 2, 1) := by decide +kernel
theorem dX2_vesselsIn_8 : decode cX2_vesselsIn 8 = .ok (.iconst 3, 1) := by decide +kernel
theorem dX2_vesselsIn_9 : decode cX2_vesselsIn 9 = .ok (.if_icmp .ge 20, 3) := by decide +kernel
theorem dX2_vesselsIn_12 : decode cX2_vesselsIn 12 = .ok (.aload_n 0, 1) := by decide +kernel
theorem dX2_vesselsIn_13 : decode cX2_vesselsIn 13 = .ok (.getfield 11, 3) := by decide +kernel
theorem dX2_vesselsIn_16 : decode cX2_vesselsIn 16 = .ok (.iload_n 2, 1) := by decide +kernel
theorem dX2_vesselsIn_17 : decode cX2_vesselsIn 17 = .ok (.iaload, 1) := by decide +kernel
theorem dX2_vesselsIn_18 : decode cX2_vesselsIn 18 = .ok (.ifCond .ne 5, 3) := by decide +kernel
theorem dX2_vesselsIn_21 : decode cX2_vesselsIn 21 = .ok (.iconst 0, 1) := by decide +kernel
theorem dX2_vesselsIn_22 : decode cX2_vesselsIn 22 = .ok (.ireturn, 1) := by decide +kernel
theorem dX2_vesselsIn_23 : decode cX2_vesselsIn 23 = .ok (.iinc 2 1, 3) := by decide +kernel
theorem dX2_vesselsIn_26 : decode cX2_vesselsIn 26 = .ok (.goto (-24), 3) := by decide +kernel
theorem dX2_vesselsIn_29 : decode cX2_vesselsIn 29 = .ok (.iload_n 1, 1) := by decide +kernel
theorem dX2_vesselsIn_30 : decode cX2_vesselsIn 30 = .ok (.ifCond .lt 8, 3) := by decide +kernel
theorem dX2_vesselsIn_33 : decode cX2_vesselsIn 33 = .ok (.iload_n 1, 1) := by decide +kernel
theorem dX2_vesselsIn_34 : decode cX2_vesselsIn 34 = .ok (.iconst 3, 1) := by decide +kernel
theorem dX2_vesselsIn_35 : decode cX2_vesselsIn 35 = .ok (.if_icmp .lt 7, 3) := by decide +kernel
theorem dX2_vesselsIn_38 : decode cX2_vesselsIn 38 = .ok (.iconst 0, 1) := by decide +kernel
theorem dX2_vesselsIn_39 : decode cX2_vesselsIn 39 = .ok (.goto 9, 3) := by decide +kernel
theorem dX2_vesselsIn_42 : decode cX2_vesselsIn 42 = .ok (.aload_n 0, 1) := by decide +kernel
theorem dX2_vesselsIn_43 : decode cX2_vesselsIn 43 = .ok (.getfield 11, 3) := by decide +kernel
theorem dX2_vesselsIn_46 : decode cX2_vesselsIn 46 = .ok (.iload_n 1, 1) := by decide +kernel
theorem dX2_vesselsIn_47 : decode cX2_vesselsIn 47 = .ok (.iaload, 1) := by decide +kernel
theorem dX2_vesselsIn_48 : decode cX2_vesselsIn 48 = .ok (.ireturn, 1) := by decide +kernel
theorem dX2_standing_0 : decode cX2_standing 0 = .ok (.iconst 0, 1) := by decide +kernel
theorem dX2_standing_1 : decode cX2_standing 1 = .ok (.istore_n 1, 1) := by decide +kernel
theorem dX2_standing_2 : decode cX2_standing 2 = .ok (.iconst 0, 1) := by decide +kernel
theorem dX2_standing_3 : decode cX2_standing 3 = .ok (.istore_n 2, 1) := by decide +kernel
theorem dX2_standing_4 : decode cX2_standing 4 = .ok (.iload_n 2, 1) := by decide +kernel
theorem dX2_standing_5 : decode cX2_standing 5 = .ok (.iconst 3, 1) := by decide +kernel
theorem dX2_standing_6 : decode cX2_standing 6 = .ok (.if_icmp .ge 17, 3) := by decide +kernel
theorem dX2_standing_9 : decode cX2_standing 9 = .ok (.iload_n 1, 1) := by decide +kernel
theorem dX2_standing_10 : decode cX2_standing 10 = .ok (.aload_n 0, 1) := by decide +kernel
theorem dX2_standing_11 : decode cX2_standing 11 = .ok (.iload_n 2, 1) := by decide +kernel
theorem dX2_standing_12 : decode cX2_standing 12 = .ok (.invokevirtual 19, 3) := by decide +kernel
theorem dX2_standing_15 : decode cX2_standing 15 = .ok (.iadd, 1) := by decide +kernel
theorem dX2_standing_16 : decode cX2_standing 16 = .ok (.istore_n 1, 1) := by decide +kernel
theorem dX2_standing_17 : decode cX2_standing 17 = .ok (.iinc 2 1, 3) := by decide +kernel
theorem dX2_standing_20 : decode cX2_standing 20 = .ok (.goto (-16), 3) := by decide +kernel
theorem dX2_standing_23 : decode cX2_standing 23 = .ok (.iload_n 1, 1) := by decide +kernel
theorem dX2_standing_24 : decode cX2_standing 24 = .ok (.ireturn, 1) := by decide +kernel
theorem dX2_holdsSkin_0 : decode cX2_holdsSkin 0 = .ok (.iload_n 1, 1) := by decide +kernel
theorem dX2_holdsSkin_1 : decode cX2_holdsSkin 1 = .ok (.bipush 6, 2) := by decide +kernel
theorem dX2_holdsSkin_3 : decode cX2_holdsSkin 3 = .ok (.irem, 1) := by decide +kernel
theorem dX2_holdsSkin_4 : decode cX2_holdsSkin 4 = .ok (.aload_n 0, 1) := by decide +kernel
theorem dX2_holdsSkin_5 : decode cX2_holdsSkin 5 = .ok (.getfield 15, 3) := by decide +kernel
theorem dX2_holdsSkin_8 : decode cX2_holdsSkin 8 = .ok (.if_icmp .ge 25, 3) := by decide +kernel
theorem dX2_holdsSkin_11 : decode cX2_holdsSkin 11 = .ok (.iload_n 1, 1) := by decide +kernel
theorem dX2_holdsSkin_12 : decode cX2_holdsSkin 12 = .ok (.bipush 24, 2) := by decide +kernel
theorem dX2_holdsSkin_14 : decode cX2_holdsSkin 14 = .ok (.irem, 1) := by decide +kernel
theorem dX2_holdsSkin_15 : decode cX2_holdsSkin 15 = .ok (.bipush 6, 2) := by decide +kernel
theorem dX2_holdsSkin_17 : decode cX2_holdsSkin 17 = .ok (.idiv, 1) := by decide +kernel
theorem dX2_holdsSkin_18 : decode cX2_holdsSkin 18 = .ok (.aload_n 0, 1) := by decide +kernel
theorem dX2_holdsSkin_19 : decode cX2_holdsSkin 19 = .ok (.iload_n 1, 1) := by decide +kernel
theorem dX2_holdsSkin_20 : decode cX2_holdsSkin 20 = .ok (.bipush 24, 2) := by decide +kernel
theorem dX2_holdsSkin_22 : decode cX2_holdsSkin 22 = .ok (.idiv, 1) := by decide +kernel
theorem dX2_holdsSkin_23 : decode cX2_holdsSkin 23 = .ok (.invokevirtual 19, 3) := by decide +kernel
theorem dX2_holdsSkin_26 : decode cX2_holdsSkin 26 = .ok (.if_icmp .ge 7, 3) := by decide +kernel
theorem dX2_holdsSkin_29 : decode cX2_holdsSkin 29 = .ok (.iconst 1, 1) := by decide +kernel
theorem dX2_holdsSkin_30 : decode cX2_holdsSkin 30 = .ok (.goto 4, 3) := by decide +kernel
theorem dX2_holdsSkin_33 : decode cX2_holdsSkin 33 = .ok (.iconst 0, 1) := by decide +kernel
theorem dX2_holdsSkin_34 : decode cX2_holdsSkin 34 = .ok (.ireturn, 1) := by decide +kernel
theorem dX2_become_0 : decode cX2_become 0 = .ok (.aload_n 0, 1) := by decide +kernel
theorem dX2_become_1 : decode cX2_become 1 = .ok (.getfield 11, 3) := by decide +kernel
theorem dX2_become_4 : decode cX2_become 4 = .ok (.iconst 0, 1) := by decide +kernel
theorem dX2_become_5 : decode cX2_become 5 = .ok (.iconst 1, 1) := by decide +kernel
theorem dX2_become_6 : decode cX2_become 6 = .ok (.iload_n 1, 1) := by decide +kernel
theorem dX2_become_7 : decode cX2_become 7 = .ok (.bipush 25, 2) := by decide +kernel
theorem dX2_become_9 : decode cX2_become 9 = .ok (.idiv, 1) := by decide +kernel
theorem dX2_become_10 : decode cX2_become 10 = .ok (.iadd, 1) := by decide +kernel
theorem dX2_become_11 : decode cX2_become 11 = .ok (.iastore, 1) := by decide +kernel
theorem dX2_become_12 : decode cX2_become 12 = .ok (.aload_n 0, 1) := by decide +kernel
theorem dX2_become_13 : decode cX2_become 13 = .ok (.getfield 11, 3) := by decide +kernel
theorem dX2_become_16 : decode cX2_become 16 = .ok (.iconst 1, 1) := by decide +kernel
theorem dX2_become_17 : decode cX2_become 17 = .ok (.iload_n 1, 1) := by decide +kernel
theorem dX2_become_18 : decode cX2_become 18 = .ok (.iconst 5, 1) := by decide +kernel
theorem dX2_become_19 : decode cX2_become 19 = .ok (.idiv, 1) := by decide +kernel
theorem dX2_become_20 : decode cX2_become 20 = .ok (.iconst 5, 1) := by decide +kernel
theorem dX2_become_21 : decode cX2_become 21 = .ok (.irem, 1) := by decide +kernel
theorem dX2_become_22 : decode cX2_become 22 = .ok (.iastore, 1) := by decide +kernel
theorem dX2_become_23 : decode cX2_become 23 = .ok (.aload_n 0, 1) := by decide +kernel
theorem dX2_become_24 : decode cX2_become 24 = .ok (.getfield 11, 3) := by decide +kernel
theorem dX2_become_27 : decode cX2_become 27 = .ok (.iconst 2, 1) := by decide +kernel
theorem dX2_become_28 : decode cX2_become 28 = .ok (.iload_n 1, 1) := by decide +kernel
theorem dX2_become_29 : decode cX2_become 29 = .ok (.iconst 5, 1) := by decide +kernel
theorem dX2_become_30 : decode cX2_become 30 = .ok (.irem, 1) := by decide +kernel
theorem dX2_become_31 : decode cX2_become 31 = .ok (.iastore, 1) := by decide +kernel
theorem dX2_become_32 : decode cX2_become 32 = .ok (.aload_n 0, 1) := by decide +kernel
theorem dX2_become_33 : decode cX2_become 33 = .ok (.getfield 11, 3) := by decide +kernel
theorem dX2_become_36 : decode cX2_become 36 = .ok (.iconst 1, 1) := by decide +kernel
theorem dX2_become_37 : decode cX2_become 37 = .ok (.iaload, 1) := by decide +kernel
theorem dX2_become_38 : decode cX2_become 38 = .ok (.ifCond .gt 12, 3) := by decide +kernel
theorem dX2_become_41 : decode cX2_become 41 = .ok (.aload_n 0, 1) := by decide +kernel
theorem dX2_become_42 : decode cX2_become 42 = .ok (.getfield 11, 3) := by decide +kernel
theorem dX2_become_45 : decode cX2_become 45 = .ok (.iconst 2, 1) := by decide +kernel
theorem dX2_become_46 : decode cX2_become 46 = .ok (.iaload, 1) := by decide +kernel
theorem dX2_become_47 : decode cX2_become 47 = .ok (.ifCond .ne 7, 3) := by decide +kernel
theorem dX2_become_50 : decode cX2_become 50 = .ok (.iconst 1, 1) := by decide +kernel
theorem dX2_become_51 : decode cX2_become 51 = .ok (.goto 4, 3) := by decide +kernel
theorem dX2_become_54 : decode cX2_become 54 = .ok (.iconst 0, 1) := by decide +kernel
theorem dX2_become_55 : decode cX2_become 55 = .ok (.ireturn, 1) := by decide +kernel
theorem dX2_digits_0 : decode cX2_digits 0 = .ok (.bipush 100, 2) := by decide +kernel
theorem dX2_digits_2 : decode cX2_digits 2 = .ok (.aload_n 0, 1) := by decide +kernel
theorem dX2_digits_3 : decode cX2_digits 3 = .ok (.getfield 11, 3) := by decide +kernel
theorem dX2_digits_6 : decode cX2_digits 6 = .ok (.iconst 0, 1) := by decide +kernel
theorem dX2_digits_7 : decode cX2_digits 7 = .ok (.iaload, 1) := by decide +kernel
theorem dX2_digits_8 : decode cX2_digits 8 = .ok (.imul, 1) := by decide +kernel
theorem dX2_digits_9 : decode cX2_digits 9 = .ok (.bipush 10, 2) := by decide +kernel
theorem dX2_digits_11 : decode cX2_digits 11 = .ok (.aload_n 0, 1) := by decide +kernel
theorem dX2_digits_12 : decode cX2_digits 12 = .ok (.getfield 11, 3) := by decide +kernel
theorem dX2_digits_15 : decode cX2_digits 15 = .ok (.iconst 1, 1) := by decide +kernel
theorem dX2_digits_16 : decode cX2_digits 16 = .ok (.iaload, 1) := by decide +kernel
theorem dX2_digits_17 : decode cX2_digits 17 = .ok (.imul, 1) := by decide +kernel
theorem dX2_digits_18 : decode cX2_digits 18 = .ok (.iadd, 1) := by decide +kernel
theorem dX2_digits_19 : decode cX2_digits 19 = .ok (.aload_n 0, 1) := by decide +kernel
theorem dX2_digits_20 : decode cX2_digits 20 = .ok (.getfield 11, 3) := by decide +kernel
theorem dX2_digits_23 : decode cX2_digits 23 = .ok (.iconst 2, 1) := by decide +kernel
theorem dX2_digits_24 : decode cX2_digits 24 = .ok (.iaload, 1) := by decide +kernel
theorem dX2_digits_25 : decode cX2_digits 25 = .ok (.iadd, 1) := by decide +kernel
theorem dX2_digits_26 : decode cX2_digits 26 = .ok (.ireturn, 1) := by decide +kernel
theorem dX3_init_0 : decode cX3_init 0 = .ok (.aload_n 0, 1) := by decide +kernel
theorem dX3_init_1 : decode cX3_init 1 = .ok (.invokespecial 1, 3) := by decide +kernel
theorem dX3_init_4 : decode cX3_init 4 = .ok (.aload_n 0, 1) := by decide +kernel
theorem dX3_init_5 : decode cX3_init 5 = .ok (.bipush 24, 2) := by decide +kernel
theorem dX3_init_7 : decode cX3_init 7 = .ok (.newarray .short, 2) := by decide +kernel
theorem dX3_init_9 : decode cX3_init 9 = .ok (.putfield 9, 3) := by decide +kernel
theorem dX3_init_12 : decode cX3_init 12 = .ok (.aload_n 0, 1) := by decide +kernel
theorem dX3_init_13 : decode cX3_init 13 = .ok (.iconst (-1), 1) := by decide +kernel
theorem dX3_init_14 : decode cX3_init 14 = .ok (.putfield 13, 3) := by decide +kernel
theorem dX3_init_17 : decode cX3_init 17 = .ok (.return_, 1) := by decide +kernel
theorem dX3_isMissing_0 : decode cX3_isMissing 0 = .ok (.aload_n 0, 1) := by decide +kernel
theorem dX3_isMissing_1 : decode cX3_isMissing 1 = .ok (.getfield 13, 3) := by decide +kernel
theorem dX3_isMissing_4 : decode cX3_isMissing 4 = .ok (.iconst (-1), 1) := by decide +kernel
theorem dX3_isMissing_5 : decode cX3_isMissing 5 = .ok (.if_icmp .ne 7, 3) := by decide +kernel
theorem dX3_isMissing_8 : decode cX3_isMissing 8 = .ok (.iconst 1, 1) := by decide +kernel
theorem dX3_isMissing_9 : decode cX3_isMissing 9 = .ok (.goto 4, 3) := by decide +kernel
theorem dX3_isMissing_12 : decode cX3_isMissing 12 = .ok (.iconst 0, 1) := by decide +kernel
theorem dX3_isMissing_13 : decode cX3_isMissing 13 = .ok (.ireturn, 1) := by decide +kernel
theorem dX3_begin_0 : decode cX3_begin 0 = .ok (.aload_n 0, 1) := by decide +kernel
theorem dX3_begin_1 : decode cX3_begin 1 = .ok (.getfield 9, 3) := by decide +kernel
theorem dX3_begin_4 : decode cX3_begin 4 = .ok (.iconst 0, 1) := by decide +kernel
theorem dX3_begin_5 : decode cX3_begin 5 = .ok (.invokestatic 17, 3) := by decide +kernel
theorem dX3_begin_8 : decode cX3_begin 8 = .ok (.aload_n 0, 1) := by decide +kernel
theorem dX3_begin_9 : decode cX3_begin 9 = .ok (.iload_n 1, 1) := by decide +kernel
theorem dX3_begin_10 : decode cX3_begin 10 = .ok (.putfield 13, 3) := by decide +kernel
theorem dX3_begin_13 : decode cX3_begin 13 = .ok (.return_, 1) := by decide +kernel
theorem dX3_has_0 : decode cX3_has 0 = .ok (.iload_n 1, 1) := by decide +kernel
theorem dX3_has_1 : decode cX3_has 1 = .ok (.ifCond .lt 15, 3) := by decide +kernel
theorem dX3_has_4 : decode cX3_has 4 = .ok (.iload_n 1, 1) := by decide +kernel
theorem dX3_has_5 : decode cX3_has 5 = .ok (.aload_n 0, 1) := by decide +kernel
theorem dX3_has_6 : decode cX3_has 6 = .ok (.getfield 13, 3) := by decide +kernel
theorem dX3_has_9 : decode cX3_has 9 = .ok (.if_icmp .ge 7, 3) := by decide +kernel
theorem dX3_has_12 : decode cX3_has 12 = .ok (.iconst 1, 1) := by decide +kernel
theorem dX3_has_13 : decode cX3_has 13 = .ok (.goto 4, 3) := by decide +kernel
theorem dX3_has_16 : decode cX3_has 16 = .ok (.iconst 0, 1) := by decide +kernel
theorem dX3_has_17 : decode cX3_has 17 = .ok (.ireturn, 1) := by decide +kernel
theorem dX3_hasRun_0 : decode cX3_hasRun 0 = .ok (.iload_n 1, 1) := by decide +kernel
theorem dX3_hasRun_1 : decode cX3_hasRun 1 = .ok (.ifCond .lt 21, 3) := by decide +kernel
theorem dX3_hasRun_4 : decode cX3_hasRun 4 = .ok (.iload_n 2, 1) := by decide +kernel
theorem dX3_hasRun_5 : decode cX3_hasRun 5 = .ok (.ifCond .lt 17, 3) := by decide +kernel
theorem dX3_hasRun_8 : decode cX3_hasRun 8 = .ok (.iload_n 1, 1) := by decide +kernel
theorem dX3_hasRun_9 : decode cX3_hasRun 9 = .ok (.aload_n 0, 1) := by decide +kernel
theorem dX3_hasRun_10 : decode cX3_hasRun 10 = .ok (.getfield 13, 3) := by decide +kernel
theorem dX3_hasRun_13 : decode cX3_hasRun 13 = .ok (.iload_n 2, 1) := by decide +kernel
theorem dX3_hasRun_14 : decode cX3_hasRun 14 = .ok (.isub, 1) := by decide +kernel
theorem dX3_hasRun_15 : decode cX3_hasRun 15 = .ok (.if_icmp .gt 7, 3) := by decide +kernel
theorem dX3_hasRun_18 : decode cX3_hasRun 18 = .ok (.iconst 1, 1) := by decide +kernel
theorem dX3_hasRun_19 : decode cX3_hasRun 19 = .ok (.goto 4, 3) := by decide +kernel
theorem dX3_hasRun_22 : decode cX3_hasRun 22 = .ok (.iconst 0, 1) := by decide +kernel
theorem dX3_hasRun_23 : decode cX3_hasRun 23 = .ok (.ireturn, 1) := by decide +kernel
theorem dX4_init_0 : decode cX4_init 0 = .ok (.aload_n 0, 1) := by decide +kernel
theorem dX4_init_1 : decode cX4_init 1 = .ok (.invokespecial 3, 3) := by decide +kernel
theorem dX4_init_4 : decode cX4_init 4 = .ok (.aload_n 0, 1) := by decide +kernel
theorem dX4_init_5 : decode cX4_init 5 = .ok (.bipush 72, 2) := by decide +kernel
theorem dX4_init_7 : decode cX4_init 7 = .ok (.newarray .int, 2) := by decide +kernel
theorem dX4_init_9 : decode cX4_init 9 = .ok (.putfield 9, 3) := by decide +kernel
theorem dX4_init_12 : decode cX4_init 12 = .ok (.aload_n 0, 1) := by decide +kernel
theorem dX4_init_13 : decode cX4_init 13 = .ok (.bipush 72, 2) := by decide +kernel
theorem dX4_init_15 : decode cX4_init 15 = .ok (.newarray .int, 2) := by decide +kernel
theorem dX4_init_17 : decode cX4_init 17 = .ok (.putfield 15, 3) := by decide +kernel
theorem dX4_init_20 : decode cX4_init 20 = .ok (.return_, 1) := by decide +kernel
theorem dX4_passAt_0 : decode cX4_passAt 0 = .ok (.getstatic 18, 3) := by decide +kernel
theorem dX4_passAt_3 : decode cX4_passAt 3 = .ok (.aload_n 0, 1) := by decide +kernel
theorem dX4_passAt_4 : decode cX4_passAt 4 = .ok (.getfield 9, 3) := by decide +kernel
theorem dX4_passAt_7 : decode cX4_passAt 7 = .ok (.iload_n 1, 1) := by decide +kernel
theorem dX4_passAt_8 : decode cX4_passAt 8 = .ok (.iaload, 1) := by decide +kernel
theorem dX4_passAt_9 : decode cX4_passAt 9 = .ok (.iaload, 1) := by decide +kernel
theorem dX4_passAt_10 : decode cX4_passAt 10 = .ok (.istore_n 2, 1) := by decide +kernel
theorem dX4_passAt_11 : decode cX4_passAt 11 = .ok (.iload_n 2, 1) := by decide +kernel
theorem dX4_passAt_12 : decode cX4_passAt 12 = .ok (.iload_n 2, 1) := by decide +kernel
theorem dX4_passAt_13 : decode cX4_passAt 13 = .ok (.aload_n 0, 1) := by decide +kernel
theorem dX4_passAt_14 : decode cX4_passAt 14 = .ok (.getfield 15, 3) := by decide +kernel
theorem dX4_passAt_17 : decode cX4_passAt 17 = .ok (.iload_n 1, 1) := by decide +kernel
theorem dX4_passAt_18 : decode cX4_passAt 18 = .ok (.iaload, 1) := by decide +kernel
theorem dX4_passAt_19 : decode cX4_passAt 19 = .ok (.imul, 1) := by decide +kernel
theorem dX4_passAt_20 : decode cX4_passAt 20 = .ok (.bipush 100, 2) := by decide +kernel
theorem dX4_passAt_22 : decode cX4_passAt 22 = .ok (.idiv, 1) := by decide +kernel
theorem dX4_passAt_23 : decode cX4_passAt 23 = .ok (.isub, 1) := by decide +kernel
theorem dX4_passAt_24 : decode cX4_passAt 24 = .ok (.ireturn, 1) := by decide +kernel
theorem dX4_leakAt_0 : decode cX4_leakAt 0 = .ok (.getstatic 21, 3) := by decide +kernel
theorem dX4_leakAt_3 : decode cX4_leakAt 3 = .ok (.aload_n 0, 1) := by decide +kernel
theorem dX4_leakAt_4 : decode cX4_leakAt 4 = .ok (.getfield 9, 3) := by decide +kernel
theorem dX4_leakAt_7 : decode cX4_leakAt 7 = .ok (.iload_n 1, 1) := by decide +kernel
theorem dX4_leakAt_8 : decode cX4_leakAt 8 = .ok (.iaload, 1) := by decide +kernel
theorem dX4_leakAt_9 : decode cX4_leakAt 9 = .ok (.iaload, 1) := by decide +kernel
theorem dX4_leakAt_10 : decode cX4_leakAt 10 = .ok (.ireturn, 1) := by decide +kernel
theorem dX4_isUnder_0 : decode cX4_isUnder 0 = .ok (.aload_n 0, 1) := by decide +kernel
theorem dX4_isUnder_1 : decode cX4_isUnder 1 = .ok (.getfield 9, 3) := by decide +kernel
theorem dX4_isUnder_4 : decode cX4_isUnder 4 = .ok (.iload_n 1, 1) := by decide +kernel
theorem dX4_isUnder_5 : decode cX4_isUnder 5 = .ok (.iaload, 1) := by decide +kernel
theorem dX4_isUnder_6 : decode cX4_isUnder 6 = .ok (.istore_n 3, 1) := by decide +kernel
theorem dX4_isUnder_7 : decode cX4_isUnder 7 = .ok (.iload_n 2, 1) := by decide +kernel
theorem dX4_isUnder_8 : decode cX4_isUnder 8 = .ok (.ifCond .eq 17, 3) := by decide +kernel
theorem dX4_isUnder_11 : decode cX4_isUnder 11 = .ok (.iload_n 2, 1) := by decide +kernel
theorem dX4_isUnder_12 : decode cX4_isUnder 12 = .ok (.iload_n 3, 1) := by decide +kernel
theorem dX4_isUnder_13 : decode cX4_isUnder 13 = .ok (.if_icmp .eq 12, 3) := by decide +kernel
theorem dX4_isUnder_16 : decode cX4_isUnder 16 = .ok (.iload_n 2, 1) := by decide +kernel
theorem dX4_isUnder_17 : decode cX4_isUnder 17 = .ok (.getstatic 24, 3) := by decide +kernel
theorem dX4_isUnder_20 : decode cX4_isUnder 20 = .ok (.iload_n 3, 1) := by decide +kernel
theorem dX4_isUnder_21 : decode cX4_isUnder 21 = .ok (.iaload, 1) := by decide +kernel
theorem dX4_isUnder_22 : decode cX4_isUnder 22 = .ok (.if_icmp .ne 7, 3) := by decide +kernel
theorem dX4_isUnder_25 : decode cX4_isUnder 25 = .ok (.iconst 1, 1) := by decide +kernel
theorem dX4_isUnder_26 : decode cX4_isUnder 26 = .ok (.goto 4, 3) := by decide +kernel
theorem dX4_isUnder_29 : decode cX4_isUnder 29 = .ok (.iconst 0, 1) := by decide +kernel
theorem dX4_isUnder_30 : decode cX4_isUnder 30 = .ok (.ireturn, 1) := by decide +kernel
theorem dX4_renew_0 : decode cX4_renew 0 = .ok (.aload_n 0, 1) := by decide +kernel
theorem dX4_renew_1 : decode cX4_renew 1 = .ok (.getfield 15, 3) := by decide +kernel
theorem dX4_renew_4 : decode cX4_renew 4 = .ok (.iload_n 1, 1) := by decide +kernel
theorem dX4_renew_5 : decode cX4_renew 5 = .ok (.iaload, 1) := by decide +kernel
theorem dX4_renew_6 : decode cX4_renew 6 = .ok (.istore_n 3, 1) := by decide +kernel
theorem dX4_renew_7 : decode cX4_renew 7 = .ok (.aload_n 0, 1) := by decide +kernel
theorem dX4_renew_8 : decode cX4_renew 8 = .ok (.getfield 9, 3) := by decide +kernel
theorem dX4_renew_11 : decode cX4_renew 11 = .ok (.iload_n 1, 1) := by decide +kernel
theorem dX4_renew_12 : decode cX4_renew 12 = .ok (.iload_n 2, 1) := by decide +kernel
theorem dX4_renew_13 : decode cX4_renew 13 = .ok (.iastore, 1) := by decide +kernel
theorem dX4_renew_14 : decode cX4_renew 14 = .ok (.aload_n 0, 1) := by decide +kernel
theorem dX4_renew_15 : decode cX4_renew 15 = .ok (.getfield 15, 3) := by decide +kernel
theorem dX4_renew_18 : decode cX4_renew 18 = .ok (.iload_n 1, 1) := by decide +kernel
theorem dX4_renew_19 : decode cX4_renew 19 = .ok (.iconst 0, 1) := by decide +kernel
theorem dX4_renew_20 : decode cX4_renew 20 = .ok (.iastore, 1) := by decide +kernel
theorem dX4_renew_21 : decode cX4_renew 21 = .ok (.iload_n 3, 1) := by decide +kernel
theorem dX4_renew_22 : decode cX4_renew 22 = .ok (.ireturn, 1) := by decide +kernel
theorem dX4_exchange_0 : decode cX4_exchange 0 = .ok (.aload_n 0, 1) := by decide +kernel
theorem dX4_exchange_1 : decode cX4_exchange 1 = .ok (.getfield 9, 3) := by decide +kernel
theorem dX4_exchange_4 : decode cX4_exchange 4 = .ok (.iload_n 1, 1) := by decide +kernel
theorem dX4_exchange_5 : decode cX4_exchange 5 = .ok (.iaload, 1) := by decide +kernel
theorem dX4_exchange_6 : decode cX4_exchange 6 = .ok (.istore_n 3, 1) := by decide +kernel
theorem dX4_exchange_7 : decode cX4_exchange 7 = .ok (.aload_n 0, 1) := by decide +kernel
theorem dX4_exchange_8 : decode cX4_exchange 8 = .ok (.getfield 15, 3) := by decide +kernel
theorem dX4_exchange_11 : decode cX4_exchange 11 = .ok (.iload_n 1, 1) := by decide +kernel
theorem dX4_exchange_12 : decode cX4_exchange 12 = .ok (.iaload, 1) := by decide +kernel
theorem dX4_exchange_13 : decode cX4_exchange 13 = .ok (.istore 4, 2) := by decide +kernel
theorem dX4_exchange_15 : decode cX4_exchange 15 = .ok (.aload_n 0, 1) := by decide +kernel
theorem dX4_exchange_16 : decode cX4_exchange 16 = .ok (.getfield 9, 3) := by decide +kernel
theorem dX4_exchange_19 : decode cX4_exchange 19 = .ok (.iload_n 1, 1) := by decide +kernel
theorem dX4_exchange_20 : decode cX4_exchange 20 = .ok (.aload_n 0, 1) := by decide +kernel
theorem dX4_exchange_21 : decode cX4_exchange 21 = .ok (.getfield 9, 3) := by decide +kernel
theorem dX4_exchange_24 : decode cX4_exchange 24 = .ok (.iload_n 2, 1) := by decide +kernel
theorem dX4_exchange_25 : decode cX4_exchange 25 = .ok (.iaload, 1) := by decide +kernel
theorem dX4_exchange_26 : decode cX4_exchange 26 = .ok (.iastore, 1) := by decide +kernel
theorem dX4_exchange_27 : decode cX4_exchange 27 = .ok (.aload_n 0, 1) := by decide +kernel
theorem dX4_exchange_28 : decode cX4_exchange 28 = .ok (.getfield 15, 3) := by decide +kernel
theorem dX4_exchange_31 : decode cX4_exchange 31 = .ok (.iload_n 1, 1) := by decide +kernel
theorem dX4_exchange_32 : decode cX4_exchange 32 = .ok (.aload_n 0, 1) := by decide +kernel
theorem dX4_exchange_33 : decode cX4_exchange 33 = .ok (.getfield 15, 3) := by decide +kernel
theorem dX4_exchange_36 : decode cX4_exchange 36 = .ok (.iload_n 2, 1) := by decide +kernel
theorem dX4_exchange_37 : decode cX4_exchange 37 = .ok (.iaload, 1) := by decide +kernel
theorem dX4_exchange_38 : decode cX4_exchange 38 = .ok (.iastore, 1) := by decide +kernel
theorem dX4_exchange_39 : decode cX4_exchange 39 = .ok (.aload_n 0, 1) := by decide +kernel
theorem dX4_exchange_40 : decode cX4_exchange 40 = .ok (.getfield 9, 3) := by decide +kernel
theorem dX4_exchange_43 : decode cX4_exchange 43 = .ok (.iload_n 2, 1) := by decide +kernel
theorem dX4_exchange_44 : decode cX4_exchange 44 = .ok (.iload_n 3, 1) := by decide +kernel
theorem dX4_exchange_45 : decode cX4_exchange 45 = .ok (.iastore, 1) := by decide +kernel
theorem dX4_exchange_46 : decode cX4_exchange 46 = .ok (.aload_n 0, 1) := by decide +kernel
theorem dX4_exchange_47 : decode cX4_exchange 47 = .ok (.getfield 15, 3) := by decide +kernel
theorem dX4_exchange_50 : decode cX4_exchange 50 = .ok (.iload_n 2, 1) := by decide +kernel
theorem dX4_exchange_51 : decode cX4_exchange 51 = .ok (.iload 4, 2) := by decide +kernel
theorem dX4_exchange_53 : decode cX4_exchange 53 = .ok (.iastore, 1) := by decide +kernel
theorem dX4_exchange_54 : decode cX4_exchange 54 = .ok (.return_, 1) := by decide +kernel
theorem dX4_soil_0 : decode cX4_soil 0 = .ok (.aload_n 0, 1) := by decide +kernel
theorem dX4_soil_1 : decode cX4_soil 1 = .ok (.getfield 15, 3) := by decide +kernel
theorem dX4_soil_4 : decode cX4_soil 4 = .ok (.iload_n 1, 1) := by decide +kernel
theorem dX4_soil_5 : decode cX4_soil 5 = .ok (.ldc2_w 27, 3) := by decide +kernel
theorem dX4_soil_8 : decode cX4_soil 8 = .ok (.aload_n 0, 1) := by decide +kernel
theorem dX4_soil_9 : decode cX4_soil 9 = .ok (.getfield 15, 3) := by decide +kernel
theorem dX4_soil_12 : decode cX4_soil 12 = .ok (.iload_n 1, 1) := by decide +kernel
theorem dX4_soil_13 : decode cX4_soil 13 = .ok (.iaload, 1) := by decide +kernel
theorem dX4_soil_14 : decode cX4_soil 14 = .ok (.i2l, 1) := by decide +kernel
theorem dX4_soil_15 : decode cX4_soil 15 = .ok (.lload_n 2, 1) := by decide +kernel
theorem dX4_soil_16 : decode cX4_soil 16 = .ok (.ladd, 1) := by decide +kernel
theorem dX4_soil_17 : decode cX4_soil 17 = .ok (.invokestatic 29, 3) := by decide +kernel
theorem dX4_soil_20 : decode cX4_soil 20 = .ok (.l2i, 1) := by decide +kernel
theorem dX4_soil_21 : decode cX4_soil 21 = .ok (.iastore, 1) := by decide +kernel
theorem dX4_soil_22 : decode cX4_soil 22 = .ok (.return_, 1) := by decide +kernel
theorem dX4_wash_0 : decode cX4_wash 0 = .ok (.aload_n 0, 1) := by decide +kernel
theorem dX4_wash_1 : decode cX4_wash 1 = .ok (.getfield 15, 3) := by decide +kernel
theorem dX4_wash_4 : decode cX4_wash 4 = .ok (.iload_n 1, 1) := by decide +kernel
theorem dX4_wash_5 : decode cX4_wash 5 = .ok (.dup2, 1) := by decide +kernel
theorem dX4_wash_6 : decode cX4_wash 6 = .ok (.iaload, 1) := by decide +kernel
theorem dX4_wash_7 : decode cX4_wash 7 = .ok (.iconst 2, 1) := by decide +kernel
theorem dX4_wash_8 : decode cX4_wash 8 = .ok (.idiv, 1) := by decide +kernel
theorem dX4_wash_9 : decode cX4_wash 9 = .ok (.iastore, 1) := by decide +kernel
theorem dX4_wash_10 : decode cX4_wash 10 = .ok (.return_, 1) := by decide +kernel
theorem dJ9_max_7cf53_0 : decode cJ9_max_7cf53 0 = .ok (.iload_n 0, 1) := by decide +kernel
theorem dJ9_max_7cf53_1 : decode cJ9_max_7cf53 1 = .ok (.iload_n 1, 1) := by decide +kernel
theorem dJ9_max_7cf53_2 : decode cJ9_max_7cf53 2 = .ok (.if_icmp .lt 7, 3) := by decide +kernel
theorem dJ9_max_7cf53_5 : decode cJ9_max_7cf53 5 = .ok (.iload_n 0, 1) := by decide +kernel
theorem dJ9_max_7cf53_6 : decode cJ9_max_7cf53 6 = .ok (.goto 4, 3) := by decide +kernel
theorem dJ9_max_7cf53_9 : decode cJ9_max_7cf53 9 = .ok (.iload_n 1, 1) := by decide +kernel
theorem dJ9_max_7cf53_10 : decode cJ9_max_7cf53 10 = .ok (.ireturn, 1) := by decide +kernel
theorem dJ9_max_f86c9_0 : decode cJ9_max_f86c9 0 = .ok (.lload_n 0, 1) := by decide +kernel
theorem dJ9_max_f86c9_1 : decode cJ9_max_f86c9 1 = .ok (.lload_n 2, 1) := by decide +kernel
theorem dJ9_max_f86c9_2 : decode cJ9_max_f86c9 2 = .ok (.lcmp, 1) := by decide +kernel
theorem dJ9_max_f86c9_3 : decode cJ9_max_f86c9 3 = .ok (.ifCond .lt 7, 3) := by decide +kernel
theorem dJ9_max_f86c9_6 : decode cJ9_max_f86c9 6 = .ok (.lload_n 0, 1) := by decide +kernel
theorem dJ9_max_f86c9_7 : decode cJ9_max_f86c9 7 = .ok (.goto 4, 3) := by decide +kernel
theorem dJ9_max_f86c9_10 : decode cJ9_max_f86c9 10 = .ok (.lload_n 2, 1) := by decide +kernel
theorem dJ9_max_f86c9_11 : decode cJ9_max_f86c9 11 = .ok (.lreturn, 1) := by decide +kernel
theorem dJ9_min_7cf53_0 : decode cJ9_min_7cf53 0 = .ok (.iload_n 0, 1) := by decide +kernel
theorem dJ9_min_7cf53_1 : decode cJ9_min_7cf53 1 = .ok (.iload_n 1, 1) := by decide +kernel
theorem dJ9_min_7cf53_2 : decode cJ9_min_7cf53 2 = .ok (.if_icmp .gt 7, 3) := by decide +kernel
theorem dJ9_min_7cf53_5 : decode cJ9_min_7cf53 5 = .ok (.iload_n 0, 1) := by decide +kernel
theorem dJ9_min_7cf53_6 : decode cJ9_min_7cf53 6 = .ok (.goto 4, 3) := by decide +kernel
theorem dJ9_min_7cf53_9 : decode cJ9_min_7cf53 9 = .ok (.iload_n 1, 1) := by decide +kernel
theorem dJ9_min_7cf53_10 : decode cJ9_min_7cf53 10 = .ok (.ireturn, 1) := by decide +kernel
theorem dJ9_min_f86c9_0 : decode cJ9_min_f86c9 0 = .ok (.lload_n 0, 1) := by decide +kernel
theorem dJ9_min_f86c9_1 : decode cJ9_min_f86c9 1 = .ok (.lload_n 2, 1) := by decide +kernel
theorem dJ9_min_f86c9_2 : decode cJ9_min_f86c9 2 = .ok (.lcmp, 1) := by decide +kernel
theorem dJ9_min_f86c9_3 : decode cJ9_min_f86c9 3 = .ok (.ifCond .gt 7, 3) := by decide +kernel
theorem dJ9_min_f86c9_6 : decode cJ9_min_f86c9 6 = .ok (.lload_n 0, 1) := by decide +kernel
theorem dJ9_min_f86c9_7 : decode cJ9_min_f86c9 7 = .ok (.goto 4, 3) := by decide +kernel
theorem dJ9_min_f86c9_10 : decode cJ9_min_f86c9 10 = .ok (.lload_n 2, 1) := by decide +kernel
theorem dJ9_min_f86c9_11 : decode cJ9_min_f86c9 11 = .ok (.lreturn, 1) := by decide +kernel
theorem dJ7_fill_53178_0 : decode cJ7_fill_53178 0 = .ok (.iconst 0, 1) := by decide +kernel
theorem dJ7_fill_53178_1 : decode cJ7_fill_53178 1 = .ok (.istore_n 2, 1) := by decide +kernel
theorem dJ7_fill_53178_2 : decode cJ7_fill_53178 2 = .ok (.aload_n 0, 1) := by decide +kernel
theorem dJ7_fill_53178_3 : decode cJ7_fill_53178 3 = .ok (.arraylength, 1) := by decide +kernel
theorem dJ7_fill_53178_4 : decode cJ7_fill_53178 4 = .ok (.istore_n 3, 1) := by decide +kernel
theorem dJ7_fill_53178_5 : decode cJ7_fill_53178 5 = .ok (.iload_n 2, 1) := by decide +kernel
theorem dJ7_fill_53178_6 : decode cJ7_fill_53178 6 = .ok (.iload_n 3, 1) := by decide +kernel
theorem dJ7_fill_53178_7 : decode cJ7_fill_53178 7 = .ok (.if_icmp .ge 13, 3) := by decide +kernel
theorem dJ7_fill_53178_10 : decode cJ7_fill_53178 10 = .ok (.aload_n 0, 1) := by decide +kernel
theorem dJ7_fill_53178_11 : decode cJ7_fill_53178 11 = .ok (.iload_n 2, 1) := by decide +kernel
theorem dJ7_fill_53178_12 : decode cJ7_fill_53178 12 = .ok (.iload_n 1, 1) := by decide +kernel
theorem dJ7_fill_53178_13 : decode cJ7_fill_53178 13 = .ok (.iastore, 1) := by decide +kernel
theorem dJ7_fill_53178_14 : decode cJ7_fill_53178 14 = .ok (.iinc 2 1, 3) := by decide +kernel
theorem dJ7_fill_53178_17 : decode cJ7_fill_53178 17 = .ok (.goto (-12), 3) := by decide +kernel
theorem dJ7_fill_53178_20 : decode cJ7_fill_53178 20 = .ok (.return_, 1) := by decide +kernel
theorem dJ7_fill_fb410_0 : decode cJ7_fill_fb410 0 = .ok (.iconst 0, 1) := by decide +kernel
theorem dJ7_fill_fb410_1 : decode cJ7_fill_fb410 1 = .ok (.istore_n 2, 1) := by decide +kernel
theorem dJ7_fill_fb410_2 : decode cJ7_fill_fb410 2 = .ok (.aload_n 0, 1) := by decide +kernel
theorem dJ7_fill_fb410_3 : decode cJ7_fill_fb410 3 = .ok (.arraylength, 1) := by decide +kernel
theorem dJ7_fill_fb410_4 : decode cJ7_fill_fb410 4 = .ok (.istore_n 3, 1) := by decide +kernel
theorem dJ7_fill_fb410_5 : decode cJ7_fill_fb410 5 = .ok (.iload_n 2, 1) := by decide +kernel
theorem dJ7_fill_fb410_6 : decode cJ7_fill_fb410 6 = .ok (.iload_n 3, 1) := by decide +kernel
theorem dJ7_fill_fb410_7 : decode cJ7_fill_fb410 7 = .ok (.if_icmp .ge 13, 3) := by decide +kernel
theorem dJ7_fill_fb410_10 : decode cJ7_fill_fb410 10 = .ok (.aload_n 0, 1) := by decide +kernel
theorem dJ7_fill_fb410_11 : decode cJ7_fill_fb410 11 = .ok (.iload_n 2, 1) := by decide +kernel
theorem dJ7_fill_fb410_12 : decode cJ7_fill_fb410 12 = .ok (.iload_n 1, 1) := by decide +kernel
theorem dJ7_fill_fb410_13 : decode cJ7_fill_fb410 13 = .ok (.sastore, 1) := by decide +kernel
theorem dJ7_fill_fb410_14 : decode cJ7_fill_fb410 14 = .ok (.iinc 2 1, 3) := by decide +kernel
theorem dJ7_fill_fb410_17 : decode cJ7_fill_fb410 17 = .ok (.goto (-12), 3) := by decide +kernel
theorem dJ7_fill_fb410_20 : decode cJ7_fill_fb410 20 = .ok (.return_, 1) := by decide +kernel
end
section
/-! One judgement for all methods of this claim, over one list of words, one ambient world (classes, nest words, static rows), and worlds whose cells lie at addresses 'ad k'. -/
def zT : List Cond := lw_tbl.filter goodWord
def zIsNest : Cond → Bool
  | .fieldLinkNest .. => true
  | .methodLinkNest .. => true
  | _ => false
def zNest : List Cond := lw_tbl.filter zIsNest
theorem zT_in {w : Cond} (h : w ∈ zT) : w ∈ lw_tbl := (List.mem_filter.mp h).1
theorem zT_good {w : Cond} (h : w ∈ zT) : goodWord w = true := (List.mem_filter.mp h).2
theorem zmem (i : Nat) {w : Cond} (h : lw_tbl[i]? = some w) (hg : goodWord w = true) : w ∈ zT := List.mem_filter.mpr ⟨List.mem_of_getElem? h, hg⟩
theorem znmem (i : Nat) {w : Cond} (h : lw_tbl[i]? = some w) (hg : zIsNest w = true) : w ∈ zNest := List.mem_filter.mpr ⟨List.mem_of_getElem? h, hg⟩
theorem zGood {w0 : Cond} (h0 : w0 ∈ zT) : GoodIn zT (w0 :: zT) := by
  intro w hw
  rcases List.mem_cons.mp hw with rfl | hw
  · exact ⟨h0, good_of_word (zT_good h0)⟩
  · exact ⟨hw, good_of_word (zT_good hw)⟩
abbrev zS : Type := MethodName × ByteArray × Nat × Option FieldType × String × Nat × Nat
abbrev zG : Type := va_G × (ClassId × ClassId × ClassId × ClassId) × (Nat → Nat)
abbrev zy (S : zS) : MethodName := S.1
abbrev zcc (S : zS) : ByteArray := S.2.1
abbrev znL (S : zS) : Nat := S.2.2.1
abbrev zret (S : zS) : Option FieldType := S.2.2.2.1
abbrev zown (S : zS) : String := S.2.2.2.2.1
abbrev zfr (S : zS) : Nat := S.2.2.2.2.2.1
abbrev zlo (S : zS) : Nat := S.2.2.2.2.2.2
abbrev zcI (G : zG) : ClassId := G.2.1.1
abbrev zcJ (G : zG) : ClassId := G.2.1.2.1
abbrev zcS (G : zG) : ClassId := G.2.1.2.2.1
abbrev zcO (G : zG) : ClassId := G.2.1.2.2.2
abbrev zty (G : zG) : List (ClassId × FieldType) := [(zcI G, .int), (zcJ G, .long), (zcS G, .short), (zcO G, .object "SaltPlant$Sheet")]
/-- the static rows: class, name, length, contents -/
def zSt : List (String × String × Nat × (Nat → Int32)) := [
  ("SaltPlant$Skins", "PASS_OF_KIND", 4, fun k => ([40, 30, 60, 20] : List Int32).getD k 0),
  ("SaltPlant$Skins", "LEAK_OF_KIND", 4, fun k => ([10, 5, 25, 2] : List Int32).getD k 0),
  ("SaltPlant$Skins", "KIND_ABOVE", 4, fun k => ([0, 0, 0, 1] : List Int32).getD k 0),
  ("SaltPlant", "RULE_LOW", 7, fun k => ([0, 0, 0, 1, 0, 0, 0] : List Int32).getD k 0),
  ("SaltPlant", "RULE_HIGH", 7, fun k => ([9999, 9999, 100, 1000, 30, 200, 200] : List Int32).getD k 0)]
def zStat (G : zG) (A : Nat → Prop) (U : State) (H : Heap) : Prop := ∀ (k : Nat) (q : String × String × Nat × (Nat → Int32)), zSt[k]? = some q → va_Z q.1 q.2.1 "[I" (.ref (G.2.2 k)) A U H ∧ va_X (G.2.2 k) q.2.2.1 q.2.2.2 U H ∧ ¬ A (G.2.2 k) ∧ G.2.2 k < H.size
def zAmb (G : zG) (A : Nat → Prop) (U : State) : Prop := va_K G.1 vwCl (zty G) U ∧ (∀ w ∈ zNest, va_Nw w U) ∧ zStat G A U U.heap
theorem zNest.warm {s U : State} (hW : s.WarmedH U.vm) (h : ∀ w ∈ zNest, va_Nw w s) : ∀ w ∈ zNest, va_Nw w U := by
  intro w hw
  have h1 := h w hw
  have h2 := (List.mem_filter.mp hw).2
  cases w <;> first | exact va_Nw.warmF hW h1 | exact va_Nw.warmM hW h1 | (simp [zIsNest] at h2)
theorem zStat.go {G : zG} {A B : Nat → Prop} {s U : State} {H : Heap} {locs : List Loc} (hvm : s.vm.Alike U.vm) (hS : va_S A s.heap H locs) (hAB : ∀ q, B q → A q) (h : zStat G A s s.heap) : zStat G B U H := by
  intro k q hk
  obtain ⟨h1, h2, h3, h4⟩ := h k q hk
  refine ⟨va_Z.moved hvm ((h1.kept (fun a ha hn => hS.2.1 a ha hn)).narrow hAB), va_X.moved hvm (h2.kept (hS.2.1 _ h4 h3)), fun hb => h3 (hAB _ hb), Nat.lt_of_lt_of_le h4 hS.1⟩
def zQc (G : zG) (wc : va_W) (post : Option Value → va_W → Prop) : Array Value → State → Outcome → State → Prop := fun _ st oc t => (∃ (r : Option Value) (w1 : va_W), oc = .returned r ∧ post r w1 ∧ w1.map Prod.fst = wc.map Prod.fst ∧ va_P G.1 vwCl w1 t.heap) ∧ va_F (va_A wc st.heap.size) st t
def zPc (G : zG) (As : List Value) (wc : va_W) (sz : Nat) : Array Value → State → Prop := va_Pc As (fun U => U.heap.size = sz ∧ va_P G.1 vwCl wc U.heap ∧ va_D (fun _ => True) wc ∧ zAmb G (va_A wc sz) U)
abbrev zR (S : zS) : Room := { frames := zfr S, cells := 0, slots := 0, locals := zlo S }
abbrev zW (S : zS) : Cond := .code (zy S) (zcc S) (znL S) (zret S)
/-- a method's contract: on the world wc, with the arguments As, it returns, and 'post answer world' -/
def zSem (l : Launch) (G : zG) (S : zS) (As : List Value) (wc : va_W) (post : Option Value → va_W → Prop) : Prop :=
  ∀ sz : Nat, Met l (zy S) (zW S :: zT) (zR S) (zPc G As wc sz) (zQc G wc post) 0 0 (va_A wc sz)
def zCx (p : Program) (s : State) (m : MethodId) (args : Array Value) (meth : Method) (c : Code) (G : zG) (S : zS) (wc : va_W) : Prop :=
  p.tables.exec = Jvm.exec ∧ c.code = zcc S ∧ c.maxLocals = znL S ∧ s.vm.findClass (zown S) = some m.cls ∧ (∀ w ∈ zT, w.before args s = true) ∧ meth.sig.returnType = zret S ∧ meth.locks = false ∧ zAmb G (va_A wc s.heap.size) s
/-- the walk: from pc with locals L, stack st, world ws, the method comes to its end with its 'post' -/
def AW (l : Launch) (G : zG) (S : zS) (wc : va_W) (post : Option Value → va_W → Prop) (pc : Nat) (L : List (Nat × Value)) (st : List Value) (ws : va_W) : Prop :=
  ∀ (p : Program) (e : Env) (s : State) (m : MethodId) (args : Array Value) (below : List Frame) (meth : Method) (c : Code), zCx p s m args meth c G S wc →
  ∀ (H : Heap) (locs : List Loc) (ls : Array Slot), va_P G.1 vwCl ws H → va_D (va_A wc s.heap.size) ws → va_S (va_A wc s.heap.size) s.heap H locs → lv_has ls (znL S) L →
    W p l e (zR S) s m args below meth c H locs 0 0 (MQ below (zQc G wc post) args s 0 0 (va_A wc s.heap.size)) (F0 m pc ls st)
theorem zEnter {l : Launch} {G : zG} {S : zS} {As : List Value} {wc : va_W} {post : Option Value → va_W → Prop} (hy : plainName (zy S).cls = true) (hown : (zy S).cls = zown S) (hAs : (lg_sl As).length ≤ znL S) {L : List (Nat × Value)} (hL : lv_args 0 As = L)
    (h : AW l G S wc post 0 L [] wc) : zSem l G S As wc post := by
  intro sz
  refine Met.ofW (cc := zcc S) (maxL := znL S) (ret := zret S) hy rfl ?_
  intro p e s m args below meth c s₁ B hml hv
  obtain ⟨rfl, hsz, hP, hD, hA⟩ := hv
  have hts := atoms_spec (ws := zW S :: zT) B.pre
  have hown2 : s.vm.findClass (zy S).cls = some m.cls := findClass_of_methodNamed B.named
  subst hsz
  subst hL
  rw [lg_entry_eq]
  exact h p e s m As.toArray below meth c ⟨B.exec, B.bytes, hml, hown ▸ hown2, fun w hw => hts w (List.mem_cons_of_mem _ hw), B.returns, B.notSynchronized, hA⟩ s.heap [] _ hP hD.self va_S.rf (lv_entry As hAs)
def zput : va_W → List Nat → va_W → va_W
  | ws, i :: is, q :: w1 => zput (ws.set i q) is w1
  | ws, _, _ => ws
theorem zput_get : ∀ (is : List Nat) (w1 ws : va_W), is.length = w1.length → ∀ (k : Nat) (q : Nat × va_E), (zput ws is w1)[k]? = some q → (∃ j : Nat, w1[j]? = some q) ∨ (ws[k]? = some q ∧ k ∉ is) := by
  intro is
  induction is with
  | nil => intro w1 ws _ k q h; cases w1 <;> exact Or.inr ⟨h, List.not_mem_nil⟩
  | cons i is ih =>
    intro w1 ws hlen k q h
    cases w1 with
    | nil => cases hlen
    | cons q1 w1 =>
      rcases ih w1 (ws.set i q1) (Nat.succ.inj hlen) k q h with ⟨j, hj⟩ | ⟨h1, h2⟩
      · exact Or.inl ⟨j + 1, hj⟩
      · by_cases hk : i = k
        · subst hk
          rw [List.getElem?_set_self'] at h1
          cases hw : ws[i]? with
          | none => rw [hw] at h1; cases h1
          | some z => rw [hw] at h1; exact Or.inl ⟨0, h1⟩
        · rw [List.getElem?_set_ne hk] at h1
          exact Or.inr ⟨h1, fun hm => (List.mem_cons.mp hm).elim (fun e => hk e.symm) h2⟩
theorem zput_fst : ∀ (is : List Nat) (w1 ws : va_W), (∀ (j i : Nat) (q : Nat × va_E), is[j]? = some i → w1[j]? = some q → ∃ e, ws[i]? = some (q.1, e)) → (zput ws is w1).map Prod.fst = ws.map Prod.fst := by
  intro is
  induction is with
  | nil => intro w1 ws _; cases w1 <;> rfl
  | cons i is ih =>
    intro w1 ws h
    cases w1 with
    | nil => rfl
    | cons q1 w1 =>
      obtain ⟨e0, h0⟩ := h 0 i q1 rfl rfl
      have hs : (ws.set i q1).map Prod.fst = ws.map Prod.fst := by
        rw [List.map_set]
        apply List.ext_getElem?
        intro k
        by_cases hk : i = k
        · subst hk
          rw [List.getElem?_set_self', List.getElem?_map, h0]
          rfl
        · rw [List.getElem?_set_ne hk]
      show (zput (ws.set i q1) is w1).map Prod.fst = _
      rw [ih w1 (ws.set i q1) ?_, hs]
      intro j i2 q hj hq
      obtain ⟨e2, h2⟩ := h (j + 1) i2 q hj hq
      by_cases hk : i = i2
      · subst hk
        rw [h0] at h2
        have h3 : q1.1 = q.1 := congrArg (fun o => (o.getD (0, e0)).1) h2
        refine ⟨q1.2, ?_⟩
        rw [List.getElem?_set_self', h0, ← h3]
        rfl
      · exact ⟨e2, by rw [List.getElem?_set_ne hk]; exact h2⟩
theorem zD_of {A : Nat → Prop} {ws ws' : va_W} (h : va_D A ws) (hf : ws'.map Prod.fst = ws.map Prod.fst) : va_D A ws' := by
  have key : ∀ (k : Nat) (q : Nat × va_E), ws'[k]? = some q → ∃ e, ws[k]? = some (q.1, e) := by
    intro k q hq
    have h1 : (ws'.map Prod.fst)[k]? = some q.1 := by rw [List.getElem?_map, hq]; rfl
    rw [hf, List.getElem?_map] at h1
    cases hw : ws[k]? with
    | none => rw [hw] at h1; cases h1
    | some z =>
      rw [hw] at h1
      obtain ⟨z1, z2⟩ := z
      have : z1 = q.1 := Option.some.inj h1
      exact ⟨z2, by rw [this]⟩
  refine ⟨fun i j p q hi hj hpq => ?_, fun k q hk => ?_⟩
  · obtain ⟨e1, h1⟩ := key i p hi
    obtain ⟨e2, h2⟩ := key j q hj
    exact h.1 i j _ _ h1 h2 hpq
  · obtain ⟨e1, h1⟩ := key k q hk
    exact h.2 k (q.1, e1) h1
section ZC
variable {l : Launch} {G : zG} {S S2 : zS} {wc wc2 : va_W} {post post2 : Option Value → va_W → Prop} {pc : Nat} {L : List (Nat × Value)} {st rest As : List Value} {ws : va_W}
/-- behind any call: the callee's cells come back, all others stay -/
theorem zBehind (isC : List Nat) (hC : isC.map (fun i => ws[i]?) = wc2.map some)
    (kk : ∀ (r : Option Value) (w1 : va_W), post2 r w1 → w1.map Prod.fst = wc2.map Prod.fst → AW l G S wc post (pc + 3) L (r.toList ++ rest) (zput ws isC w1))
    {p : Program} {e : Env} {s : State} {m : MethodId} {args : Array Value} {below : List Frame} {meth : Method} {c : Code} (C : zCx p s m args meth c G S wc)
    {H : Heap} {locs : List Loc} {ls : Array Slot} (hP : va_P G.1 vwCl ws H) (hD : va_D (va_A wc s.heap.size) ws) (hS : va_S (va_A wc s.heap.size) s.heap H locs) (hl : lv_has ls (znL S) L) {a : Array Value}
    (hr : va_Run p l e (zR S) s m args below meth c H locs 0 0 0 0 (F0 m pc ls st) rest (zQc G wc2 post2 a) (va_A wc2 H.size)) :
    W p l e (zR S) s m args below meth c H locs 0 0 (MQ below (zQc G wc post) args s 0 0 (va_A wc s.heap.size)) (F0 m pc ls st) := by
  have hF : ∀ q, va_A wc2 H.size q → va_A wc s.heap.size q := va_free hD hS (fun q h => Or.inr h) isC hC
  intro T hT X
  obtain ⟨v, st₀, t, T', L1, h0, X', hL, e1, e2, ⟨⟨r, w1, hv, hp, hf, hP1⟩, hz, hk⟩, stp⟩ := hr T hT X
  cases hv
  rw [h0] at hz hk
  have hlen : isC.length = w1.length := by
    have h1 := congrArg List.length hC
    have h2 := congrArg List.length hf
    simp only [List.length_map] at h1 h2
    omega
  have hat : ∀ (j i : Nat) (q : Nat × va_E), isC[j]? = some i → w1[j]? = some q → ∃ e, ws[i]? = some (q.1, e) := by
    intro j i q hj hq
    have h1 : (w1.map Prod.fst)[j]? = some q.1 := by rw [List.getElem?_map, hq]; rfl
    rw [hf, List.getElem?_map] at h1
    have h2 : (isC.map (fun i => ws[i]?))[j]? = some (ws[i]?) := by rw [List.getElem?_map, hj]; rfl
    rw [hC, List.getElem?_map] at h2
    cases hw : wc2[j]? with
    | none => rw [hw] at h1; cases h1
    | some z =>
      rw [hw] at h1 h2
      obtain ⟨z1, z2⟩ := z
      have e3 : z1 = q.1 := Option.some.inj h1
      have e4 : some (z1, z2) = ws[i]? := Option.some.inj h2
      exact ⟨z2, by rw [← e4, e3]⟩
  have hP' : va_P G.1 vwCl (zput ws isC w1) T'.heap := by
    intro k q hq
    rcases zput_get isC w1 ws hlen k q hq with ⟨j, hj⟩ | ⟨h1, h2⟩
    · rw [e1]; exact hP1 j q hj
    · have hlt := (hP k q h1).lt
      refine (hP k q h1).kept ?_
      rw [e1]
      refine hk q.1 hlt ?_
      rintro (⟨j, ej, hj⟩ | hge)
      · have h3 : (isC.map (fun i => ws[i]?))[j]? = some (some (q.1, ej)) := by rw [hC, List.getElem?_map, hj]; rfl
        rw [List.getElem?_map] at h3
        cases hi : isC[j]? with
        | none => rw [hi] at h3; cases h3
        | some i =>
          rw [hi] at h3
          have h4 : ws[i]? = some (q.1, ej) := Option.some.inj h3
          have := hD.1 k i q _ h1 h4 rfl
          subst this
          exact h2 (List.mem_of_getElem? hi)
      · omega
  have hS' : va_S (va_A wc s.heap.size) s.heap T'.heap (locs ++ L1) := ⟨Nat.le_trans hS.1 (by rw [e1]; exact hz), fun q h1 h2 => by rw [e1, hk q (Nat.lt_of_lt_of_le h1 hS.1) (fun z => h2 (hF q z))]; exact hS.2.1 q h1 h2, fun q hq => by
      rcases List.mem_append.mp hq with h | h
      · exact hS.2.2 q h
      · exact hF _ (hL q h)⟩
  obtain ⟨t2, a1, b1⟩ := kk v w1 hp hf p e s m args below meth c C T'.heap (locs ++ L1) ls hP' (zD_of hD (zput_fst isC w1 ws hat)) hS' hl T' rfl X'
  exact ⟨t2, stp t2 a1, b1⟩
theorem zBlind {sz : Nat} {As : List Value} : FrameBlind (zPc G As wc2 sz) := fun a U g mk q => by
  obtain ⟨q0, q1, qP, qD, qK, qN, qZ⟩ := q
  refine ⟨q0, q1, qP, qD, va_K.moved (u := U) (U := U.calling g mk a) (Vm.Alike.refl U.vm) qK, fun w hw => va_Nw.same ?_ (u := U) (U := U.calling g mk a) rfl (qN w hw), fun k q hk => ?_⟩
  · have h2 := (List.mem_filter.mp hw).2
    cases w <;> first | rfl | (simp [zIsNest] at h2)
  · obtain ⟨h1, h2, h3, h4⟩ := qZ k q hk
    exact ⟨va_Z.moved (u := U) (U := U.calling g mk a) (Vm.Alike.refl U.vm) h1, va_X.moved (u := U) (U := U.calling g mk a) (Vm.Alike.refl U.vm) h2, h3, h4⟩
theorem zPre (isC : List Nat) (hC : isC.map (fun i => ws[i]?) = wc2.map some) (hnd : va_nd isC = true) {p : Program} {s : State} {m : MethodId} {args : Array Value} {meth : Method} {c : Code} (C : zCx p s m args meth c G S wc)
    {H : Heap} {locs : List Loc} (hP : va_P G.1 vwCl ws H) (hD : va_D (va_A wc s.heap.size) ws) (hS : va_S (va_A wc s.heap.size) s.heap H locs) (As : List Value) : ∀ U : State, U.heap = H → s.WarmedH U.vm → zPc G As wc2 H.size As.toArray U := by
  have hF : ∀ q, va_A wc2 H.size q → va_A wc s.heap.size q := va_free hD hS (fun q h => Or.inr h) isC hC
  have hf : isC.filterMap (fun i => ws[i]?) = wc2 := by
    have h1 : isC.filterMap (fun i => ws[i]?) = (isC.map (fun i => ws[i]?)).filterMap id := by rw [List.filterMap_map]; rfl
    rw [h1, hC, List.filterMap_map]
    exact List.filterMap_some
  intro U hU hW
  refine ⟨rfl, by rw [hU], by rw [hU]; exact hP.sub isC hf, (hD.sub isC hnd hC).weaken (fun _ _ _ _ => trivial), va_K.moved hW.alike C.2.2.2.2.2.2.2.1, zNest.warm hW C.2.2.2.2.2.2.2.2.1, ?_⟩
  rw [hU]
  exact zStat.go hW.alike hS hF C.2.2.2.2.2.2.2.2.2
/-- what a call needs of the tables: all by program -/
def zOkY (S S2 : zS) (n : Nat) : Prop := ((zy S2).cls ≠ "java/lang/invoke/MethodHandle" ∧ (zy S2).cls ≠ "java/lang/invoke/VarHandle" ∧ (parseMethodDescriptor (zy S2).desc).map (fun d => d.parameters.length) = some n) ∧ (zfr S2 + 1 ≤ zfr S ∧ 8 + (znL S2 + 11) + zlo S2 ≤ zlo S)
theorem a_callS {index n : Nat} (hM : zSem l G S2 As wc2 post2) (hcode : zW S2 ∈ zT) (hlink : Cond.methodLink (zown S) index (zy S2) ∈ zT) (hstat : Cond.static (zy S2) ∈ zT) (hini : Cond.initialized (zy S2).cls ∈ zT) (hok : zOkY S S2 n)
    (hdg : decode (zcc S) pc = .ok (.invokestatic index, 3)) (isC : List Nat) (hC : isC.map (fun i => ws[i]?) = wc2.map some) (hnd : va_nd isC = true) (hst : st = As.reverse ++ rest) (hn : As.length = n) (hsum : (rest.map fun v => v.category).sum ≤ 8)
    (kk : ∀ (r : Option Value) (w1 : va_W), post2 r w1 → w1.map Prod.fst = wc2.map Prod.fst → AW l G S wc post (pc + 3) L (r.toList ++ rest) (zput ws isC w1)) : AW l G S wc post pc L st ws := by
  intro p e s m args below meth c C H locs ls hP hD hS hl
  obtain ⟨hx, hb, hml, ho, hts, -⟩ := id C
  exact zBehind isC hC kk C hP hD hS hl (va_runS (As := As) ⟨hx, hb, hml, ho, hts⟩ (hM H.size) ⟨callB_of n hts (zGood hcode) rfl rfl rfl (hts _ hini) (hts _ hlink) hok.1 hok.2, hts _ hstat⟩ ⟨zBlind, zPre isC hC hnd C hP hD hS As⟩ rfl hn hl.1 hst (lv_room hsum) hdg ⟨Nat.le_refl _, Nat.le_refl _⟩)
theorem a_callV {index n b : Nat} (hM : zSem l G S2 (.ref b :: As) wc2 post2) (hcode : zW S2 ∈ zT) (hlink : Cond.methodLink (zown S) index (zy S2) ∈ zT) (hin : Cond.instanceMethod (zy S2) ∈ zT) (hsel : Cond.selects (zy S2).cls (zy S2) (zy S2) ∈ zT) (hini : Cond.initialized (zy S2).cls ∈ zT) (hok : zOkY S S2 n)
    (hdg : decode (zcc S) pc = .ok (.invokevirtual index, 3)) (isC : List Nat) (hC : isC.map (fun i => ws[i]?) = wc2.map some) (hnd : va_nd isC = true) (hst : st = As.reverse ++ .ref b :: rest) (hn : As.length = n) (hsum : (rest.map fun v => v.category).sum ≤ 8) {q0 ci : Nat} {qc : vw_C} {fs : List Value} (hq0 : ws[q0]? = some (b, .inr (ci, fs))) (hci : vwCl[ci]? = some qc) (hcl : qc.1 = (zy S2).cls)
    (kk : ∀ (r : Option Value) (w1 : va_W), post2 r w1 → w1.map Prod.fst = wc2.map Prod.fst → AW l G S wc post (pc + 3) L (r.toList ++ rest) (zput ws isC w1)) : AW l G S wc post pc L st ws := by
  intro p e s m args below meth c C H locs ls hP hD hS hl
  obtain ⟨hx, hb, hml, ho, hts, -⟩ := id C
  exact zBehind isC hC kk C hP hD hS hl (va_runV (As := As) (C := (zy S2).cls) ⟨hx, hb, hml, ho, hts⟩ (hM H.size) ⟨callB_of n hts (zGood hcode) rfl rfl rfl (hts _ hini) (hts _ hlink) hok.1 hok.2, hts _ hin, hts _ hsel⟩ ⟨zBlind, hcl ▸ va_recv C.2.2.2.2.2.2.2.1 hP hci hq0, zPre isC hC hnd C hP hD hS (.ref b :: As)⟩ rfl hn hl.1 hst (lv_room hsum) hdg ⟨Nat.le_refl _, Nat.le_refl _⟩)
theorem zGoodN {s : State} {args : Array Value} {index n : Nat} {host : String} (hts : ∀ w ∈ zT, w.before args s = true) (hcode : zW S2 ∈ zT) (hl : va_Nw (.methodLinkNest (zown S) index (zy S2) host) s) (hini : Cond.initialized (zy S2).cls ∈ zT) (hok : zOkY S S2 n) : va_CN (zR S) s args (zown S) index (zy S2) host (zcc S2) (znL S2) (zret S2) (zW S2 :: zT) (zR S2) 0 0 n :=
  va_cnB n hts (zGood hcode) rfl rfl rfl hl (hts _ hini) hok.1 hok.2
theorem a_callSN {index n : Nat} {host : String} (hM : zSem l G S2 As wc2 post2) (hcode : zW S2 ∈ zT) (hlink : Cond.methodLinkNest (zown S) index (zy S2) host ∈ zNest) (hstat : Cond.static (zy S2) ∈ zT) (hini : Cond.initialized (zy S2).cls ∈ zT) (hok : zOkY S S2 n)
    (hdg : decode (zcc S) pc = .ok (.invokestatic index, 3)) (isC : List Nat) (hC : isC.map (fun i => ws[i]?) = wc2.map some) (hnd : va_nd isC = true) (hst : st = As.reverse ++ rest) (hn : As.length = n) (hsum : (rest.map fun v => v.category).sum ≤ 8)
    (kk : ∀ (r : Option Value) (w1 : va_W), post2 r w1 → w1.map Prod.fst = wc2.map Prod.fst → AW l G S wc post (pc + 3) L (r.toList ++ rest) (zput ws isC w1)) : AW l G S wc post pc L st ws := by
  intro p e s m args below meth c C H locs ls hP hD hS hl
  obtain ⟨hx, hb, hml, ho, hts, -⟩ := id C
  exact zBehind isC hC kk C hP hD hS hl (va_runSN (As := As) ⟨hx, hb, hml, ho, hts⟩ (hM H.size) ⟨zGoodN hts hcode (C.2.2.2.2.2.2.2.2.1 _ hlink) hini hok, hts _ hstat, trivial⟩ ⟨zBlind, zPre isC hC hnd C hP hD hS As⟩ rfl hn hl.1 hst (lv_room hsum) hdg ⟨Nat.le_refl _, Nat.le_refl _⟩)
end ZC
end
section
/-! Rows: an instruction each, over AW. Locals: a list by places, none where nothing is said. -/
def zL : Nat → List (Option Value) → List (Nat × Value)
  | _, [] => []
  | i, none :: L => zL (i + 1) L
  | i, some v :: L => (i, v) :: zL (i + 1) L
theorem zL_mem : ∀ (L : List (Option Value)) (i : Nat) (q : Nat × Value), q ∈ zL i L ↔ ∃ j, q.1 = i + j ∧ L[j]? = some (some q.2) := by
  intro L
  induction L with
  | nil => intro i q; simp [zL]
  | cons a L ih =>
    intro i q
    have key : (∃ j, q.1 = i + j ∧ (a :: L)[j]? = some (some q.2)) ↔ (q.1 = i ∧ a = some q.2) ∨ ∃ j, q.1 = (i + 1) + j ∧ L[j]? = some (some q.2) := by
      constructor
      · rintro ⟨j, h1, h2⟩
        cases j with
        | zero => exact Or.inl ⟨h1, Option.some.inj h2⟩
        | succ j => exact Or.inr ⟨j, by omega, h2⟩
      · rintro (⟨h1, h2⟩ | ⟨j, h1, h2⟩)
        · exact ⟨0, h1, congrArg some h2⟩
        · exact ⟨j + 1, by omega, h2⟩
    rw [key]
    cases a with
    | none =>
      show q ∈ zL (i + 1) L ↔ _
      rw [ih]
      constructor
      · exact Or.inr
      · rintro (⟨-, h⟩ | h)
        · cases h
        · exact h
    | some v =>
      show q ∈ (i, v) :: zL (i + 1) L ↔ _
      rw [List.mem_cons, ih]
      constructor
      · rintro (h | h)
        · exact Or.inl ⟨by rw [h], by rw [h]⟩
        · exact Or.inr h
      · rintro (⟨h1, h2⟩ | h)
        · refine Or.inl ?_
          obtain ⟨q1, q2⟩ := q
          cases h2
          cases h1
          rfl
        · exact Or.inr h
theorem zlk {ls : Array Slot} {nL : Nat} {L : List (Option Value)} (h : lv_has ls nL (zL 0 L)) {i : Nat} {v : Value} (hi : L[i]? = some (some v)) : ls[i]? = some (.val v) :=
  h.2.2 (i, v) ((zL_mem L 0 (i, v)).mpr ⟨i, by simp, hi⟩)
def zprev (L : List (Option Value)) (i : Nat) : Bool := match i with
  | 0 => true
  | j + 1 => match L[j]? with
    | some (some v) => v.category == 1
    | _ => true
theorem zset1 {ls : Array Slot} {nL : Nat} {L : List (Option Value)} {i : Nat} {v : Value} (hp : zprev L i = true)
    (h : lv_has ls nL ((i, v) :: (zL 0 L).filter (fun q => !(q.1 == i) && !(q.1 + 1 == i && q.2.category == 2)))) : lv_has ls nL (zL 0 (L.set i (some v))) := by
  refine ⟨h.1, h.2.1, fun q hq => h.2.2 q ?_⟩
  obtain ⟨j, h1, h2⟩ := (zL_mem _ _ _).mp hq
  have h1 : q.1 = j := by omega
  by_cases hj : i = j
  · subst hj
    rw [List.getElem?_set_self'] at h2
    cases hw : L[i]? with
    | none => rw [hw] at h2; cases h2
    | some z =>
      rw [hw] at h2
      have h3 : v = q.2 := Option.some.inj (Option.some.inj h2)
      refine List.mem_cons.mpr (Or.inl ?_)
      obtain ⟨q1, q2⟩ := q
      cases h3
      cases h1
      rfl
  · rw [List.getElem?_set_ne hj] at h2
    refine List.mem_cons.mpr (Or.inr (List.mem_filter.mpr ⟨(zL_mem _ _ _).mpr ⟨j, by omega, h2⟩, ?_⟩))
    have n1 : ¬ q.1 = i := fun e => hj (e ▸ h1)
    have n2 : ¬ (q.1 + 1 = i ∧ q.2.category = 2) := by
      rintro ⟨e1, e2⟩
      subst e1
      rw [h1] at hp
      simp only [zprev, h2, beq_iff_eq] at hp
      omega
    simp only [Bool.and_eq_true, Bool.not_eq_true', beq_eq_false_iff_ne, ne_eq, n1, not_false_eq_true, Bool.and_eq_false_imp, beq_iff_eq, true_and]
    intro e1 e2
    exact n2 ⟨e1, e2⟩
theorem zset2 {ls : Array Slot} {nL : Nat} {L : List (Option Value)} {i : Nat} {v : Value} (hp : zprev L i = true)
    (h : lv_has ls nL ((i, v) :: (zL 0 L).filter (fun q => !(q.1 == i) && (!(q.1 == i + 1) && !(q.1 + 1 == i && q.2.category == 2))))) : lv_has ls nL (zL 0 ((L.set i (some v)).set (i + 1) none)) := by
  refine ⟨h.1, h.2.1, fun q hq => h.2.2 q ?_⟩
  obtain ⟨j, h1, h2⟩ := (zL_mem _ _ _).mp hq
  have h1 : q.1 = j := by omega
  by_cases hj2 : i + 1 = j
  · subst hj2
    rw [List.getElem?_set_self'] at h2
    cases hw : (L.set i (some v))[i + 1]? with
    | none => rw [hw] at h2; cases h2
    | some z => rw [hw] at h2; cases h2
  · rw [List.getElem?_set_ne hj2] at h2
    by_cases hj : i = j
    · subst hj
      rw [List.getElem?_set_self'] at h2
      cases hw : L[i]? with
      | none => rw [hw] at h2; cases h2
      | some z =>
        rw [hw] at h2
        have h3 : v = q.2 := Option.some.inj (Option.some.inj h2)
        refine List.mem_cons.mpr (Or.inl ?_)
        obtain ⟨q1, q2⟩ := q
        cases h3
        cases h1
        rfl
    · rw [List.getElem?_set_ne hj] at h2
      refine List.mem_cons.mpr (Or.inr (List.mem_filter.mpr ⟨(zL_mem _ _ _).mpr ⟨j, by omega, h2⟩, ?_⟩))
      have n1 : ¬ q.1 = i := fun e => hj (e ▸ h1)
      have n3 : ¬ q.1 = i + 1 := fun e => hj2 (e ▸ h1)
      have n2 : ¬ (q.1 + 1 = i ∧ q.2.category = 2) := by
        rintro ⟨e1, e2⟩
        subst e1
        rw [h1] at hp
        simp only [zprev, h2, beq_iff_eq] at hp
        omega
      simp only [Bool.and_eq_true, Bool.not_eq_true', beq_eq_false_iff_ne, ne_eq, n1, n3, not_false_eq_true, Bool.and_eq_false_imp, beq_iff_eq, true_and]
      intro e1 e2
      exact n2 ⟨e1, e2⟩
theorem zcmp_vals (x y : Int64) : (x < y ∧ lg_cmp x y = -1) ∨ (x = y ∧ lg_cmp x y = 0) ∨ (y < x ∧ lg_cmp x y = 1) := by
  unfold lg_cmp
  by_cases h1 : x > y
  · exact Or.inr (Or.inr ⟨h1, if_pos h1⟩)
  · by_cases h2 : x = y
    · exact Or.inr (Or.inl ⟨h2, by rw [if_neg h1, if_pos h2]⟩)
    · refine Or.inl ⟨?_, by rw [if_neg h1, if_neg h2]⟩
      rw [Int64.lt_iff_toInt_lt]
      have h3 : ¬ x.toInt = y.toInt := fun e => h2 (Int64.toInt_inj.mp e)
      have h4 : ¬ y.toInt < x.toInt := fun q => h1 (Int64.lt_iff_toInt_lt.mpr q)
      omega
theorem zcmp_eq (x y : Int64) : ((lg_cmp x y) = 0) ↔ (x = y) := by
  rcases zcmp_vals x y with ⟨h, e⟩ | ⟨h, e⟩ | ⟨h, e⟩ <;> rw [e] <;> clear e <;> simp only [Int64.lt_iff_toInt_lt, Int64.le_iff_toInt_le, ← Int64.toInt_inj] at h ⊢ <;> constructor <;> intro q <;> first | omega | exact absurd q (by decide) | decide
theorem zcmp_ne (x y : Int64) : (¬ (lg_cmp x y) = 0) ↔ (¬ x = y) := by
  rcases zcmp_vals x y with ⟨h, e⟩ | ⟨h, e⟩ | ⟨h, e⟩ <;> rw [e] <;> clear e <;> simp only [Int64.lt_iff_toInt_lt, Int64.le_iff_toInt_le, ← Int64.toInt_inj] at h ⊢ <;> constructor <;> intro q <;> first | omega | exact absurd q (by decide) | decide
theorem zcmp_lt (x y : Int64) : ((lg_cmp x y) < 0) ↔ (x < y) := by
  rcases zcmp_vals x y with ⟨h, e⟩ | ⟨h, e⟩ | ⟨h, e⟩ <;> rw [e] <;> clear e <;> simp only [Int64.lt_iff_toInt_lt, Int64.le_iff_toInt_le, ← Int64.toInt_inj] at h ⊢ <;> constructor <;> intro q <;> first | omega | exact absurd q (by decide) | decide
theorem zcmp_ge (x y : Int64) : (0 ≤ (lg_cmp x y)) ↔ (y ≤ x) := by
  rcases zcmp_vals x y with ⟨h, e⟩ | ⟨h, e⟩ | ⟨h, e⟩ <;> rw [e] <;> clear e <;> simp only [Int64.lt_iff_toInt_lt, Int64.le_iff_toInt_le, ← Int64.toInt_inj] at h ⊢ <;> constructor <;> intro q <;> first | omega | exact absurd q (by decide) | decide
theorem zcmp_gt (x y : Int64) : (0 < (lg_cmp x y)) ↔ (y < x) := by
  rcases zcmp_vals x y with ⟨h, e⟩ | ⟨h, e⟩ | ⟨h, e⟩ <;> rw [e] <;> clear e <;> simp only [Int64.lt_iff_toInt_lt, Int64.le_iff_toInt_le, ← Int64.toInt_inj] at h ⊢ <;> constructor <;> intro q <;> first | omega | exact absurd q (by decide) | decide
theorem zcmp_le (x y : Int64) : ((lg_cmp x y) ≤ 0) ↔ (x ≤ y) := by
  rcases zcmp_vals x y with ⟨h, e⟩ | ⟨h, e⟩ | ⟨h, e⟩ <;> rw [e] <;> clear e <;> simp only [Int64.lt_iff_toInt_lt, Int64.le_iff_toInt_le, ← Int64.toInt_inj] at h ⊢ <;> constructor <;> intro q <;> first | omega | exact absurd q (by decide) | decide
abbrev AV (l : Launch) (G : zG) (S : zS) (wc : va_W) (post : Option Value → va_W → Prop) (pc : Nat) (L : List (Option Value)) (st : List Value) (ws : va_W) : Prop := AW l G S wc post pc (zL 0 L) st ws
section ZR
variable {l : Launch} {G : zG} {S : zS} {wc : va_W} {post : Option Value → va_W → Prop} {pc : Nat} {L : List (Option Value)} {st rest : List Value} {ws : va_W}

theorem a_iconst {n : Int} {v : Int32} (hd : decode (zcc S) pc = .ok (.iconst n, 1)) (hv : Int32.ofInt n = v) (kk : AV l G S wc post (pc + 1) L (.int v :: st) ws) : AV l G S wc post (pc) L (st) ws := by
  intro p e s m args below meth c C H locs ls hP hD hS hl
  exact lv_iconst C.1 C.2.1 hd hv (kk p e s m args below meth c C H locs ls hP hD hS hl)
theorem a_bipush {n : Int} {v : Int32} (hd : decode (zcc S) pc = .ok (.bipush n, 2)) (hv : (Int8.ofInt n).toInt32 = v) (kk : AV l G S wc post (pc + 2) L (.int v :: st) ws) : AV l G S wc post (pc) L (st) ws := by
  intro p e s m args below meth c C H locs ls hP hD hS hl
  exact lv_bipush C.1 C.2.1 hd hv (kk p e s m args below meth c C H locs ls hP hD hS hl)
theorem a_sipush {n : Int} {v : Int32} (hd : decode (zcc S) pc = .ok (.sipush n, 3)) (hv : (Int16.ofInt n).toInt32 = v) (kk : AV l G S wc post (pc + 3) L (.int v :: st) ws) : AV l G S wc post (pc) L (st) ws := by
  intro p e s m args below meth c C H locs ls hP hD hS hl
  exact lv_sipush C.1 C.2.1 hd hv (kk p e s m args below meth c C H locs ls hP hD hS hl)
theorem a_lconst {n : Fin 2} {v : Int64} (hd : decode (zcc S) pc = .ok (.lconst n, 1)) (hv : Int64.ofNat (n : Nat) = v) (kk : AV l G S wc post (pc + 1) L (.long v :: st) ws) : AV l G S wc post (pc) L (st) ws := by
  intro p e s m args below meth c C H locs ls hP hD hS hl
  exact lv_lconst C.1 C.2.1 hd hv (kk p e s m args below meth c C H locs ls hP hD hS hl)
theorem a_ldc {index : Nat} {v : Int32} (hd : decode (zcc S) pc = .ok (.ldc index, 2)) (hk : Cond.constant (zown S) index v ∈ zT) (kk : AV l G S wc post (pc + 2) L (.int v :: st) ws) : AV l G S wc post (pc) L (st) ws := by
  intro p e s m args below meth c C H locs ls hP hD hS hl
  exact lv_ldc C.1 C.2.1 C.2.2.2.1 (C.2.2.2.2.1 _ hk) hd (kk p e s m args below meth c C H locs ls hP hD hS hl)
theorem a_ldc2 {index : Nat} {v : Int64} (hd : decode (zcc S) pc = .ok (.ldc2_w index, 3)) (hk : Cond.constantLong (zown S) index v ∈ zT) (kk : AV l G S wc post (pc + 3) L (.long v :: st) ws) : AV l G S wc post (pc) L (st) ws := by
  intro p e s m args below meth c C H locs ls hP hD hS hl
  exact lv_ldc2 C.1 C.2.1 C.2.2.2.1 (C.2.2.2.2.1 _ hk) hd (kk p e s m args below meth c C H locs ls hP hD hS hl)
theorem a_iadd {x y : Int32} (hd : decode (zcc S) pc = .ok (.iadd, 1)) (kk : AV l G S wc post (pc + 1) L (.int (x + y) :: st) ws) : AV l G S wc post (pc) L (.int y :: .int x :: st) ws := by
  intro p e s m args below meth c C H locs ls hP hD hS hl
  exact lv_iadd C.1 C.2.1 hd (kk p e s m args below meth c C H locs ls hP hD hS hl)
theorem a_isub {x y : Int32} (hd : decode (zcc S) pc = .ok (.isub, 1)) (kk : AV l G S wc post (pc + 1) L (.int (x - y) :: st) ws) : AV l G S wc post (pc) L (.int y :: .int x :: st) ws := by
  intro p e s m args below meth c C H locs ls hP hD hS hl
  exact lv_isub C.1 C.2.1 hd (kk p e s m args below meth c C H locs ls hP hD hS hl)
theorem a_imul {x y : Int32} (hd : decode (zcc S) pc = .ok (.imul, 1)) (kk : AV l G S wc post (pc + 1) L (.int (x * y) :: st) ws) : AV l G S wc post (pc) L (.int y :: .int x :: st) ws := by
  intro p e s m args below meth c C H locs ls hP hD hS hl
  exact lv_imul C.1 C.2.1 hd (kk p e s m args below meth c C H locs ls hP hD hS hl)
theorem a_iand {x y : Int32} (hd : decode (zcc S) pc = .ok (.iand, 1)) (kk : AV l G S wc post (pc + 1) L (.int (x &&& y) :: st) ws) : AV l G S wc post (pc) L (.int y :: .int x :: st) ws := by
  intro p e s m args below meth c C H locs ls hP hD hS hl
  exact lv_iand C.1 C.2.1 hd (kk p e s m args below meth c C H locs ls hP hD hS hl)
theorem a_ior {x y : Int32} (hd : decode (zcc S) pc = .ok (.ior, 1)) (kk : AV l G S wc post (pc + 1) L (.int (x ||| y) :: st) ws) : AV l G S wc post (pc) L (.int y :: .int x :: st) ws := by
  intro p e s m args below meth c C H locs ls hP hD hS hl
  exact lv_ior C.1 C.2.1 hd (kk p e s m args below meth c C H locs ls hP hD hS hl)
theorem a_ishl {x y : Int32} (hd : decode (zcc S) pc = .ok (.ishl, 1)) (kk : AV l G S wc post (pc + 1) L (.int (x <<< (y &&& 31)) :: st) ws) : AV l G S wc post (pc) L (.int y :: .int x :: st) ws := by
  intro p e s m args below meth c C H locs ls hP hD hS hl
  exact lv_ishl C.1 C.2.1 hd (kk p e s m args below meth c C H locs ls hP hD hS hl)
theorem a_ishr {x y : Int32} (hd : decode (zcc S) pc = .ok (.ishr, 1)) (kk : AV l G S wc post (pc + 1) L (.int (x >>> (y &&& 31)) :: st) ws) : AV l G S wc post (pc) L (.int y :: .int x :: st) ws := by
  intro p e s m args below meth c C H locs ls hP hD hS hl
  exact lv_ishr C.1 C.2.1 hd (kk p e s m args below meth c C H locs ls hP hD hS hl)
theorem a_idiv {x y : Int32} (hd : decode (zcc S) pc = .ok (.idiv, 1)) (hne : ¬ y = 0) (kk : AV l G S wc post (pc + 1) L (.int (x / y) :: st) ws) : AV l G S wc post (pc) L (.int y :: .int x :: st) ws := by
  intro p e s m args below meth c C H locs ls hP hD hS hl
  exact lv_idiv C.1 C.2.1 hd hne (kk p e s m args below meth c C H locs ls hP hD hS hl)
theorem a_irem {x y : Int32} (hd : decode (zcc S) pc = .ok (.irem, 1)) (hne : ¬ y = 0) (kk : AV l G S wc post (pc + 1) L (.int (x - x / y * y) :: st) ws) : AV l G S wc post (pc) L (.int y :: .int x :: st) ws := by
  intro p e s m args below meth c C H locs ls hP hD hS hl
  exact lv_irem C.1 C.2.1 hd hne (kk p e s m args below meth c C H locs ls hP hD hS hl)
theorem a_ladd {x y : Int64} (hd : decode (zcc S) pc = .ok (.ladd, 1)) (kk : AV l G S wc post (pc + 1) L (.long (x + y) :: st) ws) : AV l G S wc post (pc) L (.long y :: .long x :: st) ws := by
  intro p e s m args below meth c C H locs ls hP hD hS hl
  exact lv_ladd C.1 C.2.1 hd (kk p e s m args below meth c C H locs ls hP hD hS hl)
theorem a_lsub {x y : Int64} (hd : decode (zcc S) pc = .ok (.lsub, 1)) (kk : AV l G S wc post (pc + 1) L (.long (x - y) :: st) ws) : AV l G S wc post (pc) L (.long y :: .long x :: st) ws := by
  intro p e s m args below meth c C H locs ls hP hD hS hl
  exact lv_lsub C.1 C.2.1 hd (kk p e s m args below meth c C H locs ls hP hD hS hl)
theorem a_lmul {x y : Int64} (hd : decode (zcc S) pc = .ok (.lmul, 1)) (kk : AV l G S wc post (pc + 1) L (.long (x * y) :: st) ws) : AV l G S wc post (pc) L (.long y :: .long x :: st) ws := by
  intro p e s m args below meth c C H locs ls hP hD hS hl
  exact lv_lmul C.1 C.2.1 hd (kk p e s m args below meth c C H locs ls hP hD hS hl)
theorem a_ldiv {x y : Int64} (hd : decode (zcc S) pc = .ok (.ldiv, 1)) (hne : ¬ y = 0) (kk : AV l G S wc post (pc + 1) L (.long (x / y) :: st) ws) : AV l G S wc post (pc) L (.long y :: .long x :: st) ws := by
  intro p e s m args below meth c C H locs ls hP hD hS hl
  exact lv_ldiv C.1 C.2.1 hd hne (kk p e s m args below meth c C H locs ls hP hD hS hl)
theorem a_lrem {x y : Int64} (hd : decode (zcc S) pc = .ok (.lrem, 1)) (hne : ¬ y = 0) (kk : AV l G S wc post (pc + 1) L (.long (x - x / y * y) :: st) ws) : AV l G S wc post (pc) L (.long y :: .long x :: st) ws := by
  intro p e s m args below meth c C H locs ls hP hD hS hl
  exact lv_lrem C.1 C.2.1 hd hne (kk p e s m args below meth c C H locs ls hP hD hS hl)
theorem a_lcmp {x y : Int64} (hd : decode (zcc S) pc = .ok (.lcmp, 1)) (kk : AV l G S wc post (pc + 1) L (.int (lg_cmp x y) :: st) ws) : AV l G S wc post (pc) L (.long y :: .long x :: st) ws := by
  intro p e s m args below meth c C H locs ls hP hD hS hl
  exact W.lcmp C.1 C.2.1 hd (kk p e s m args below meth c C H locs ls hP hD hS hl)
theorem a_i2l {x : Int32} (hd : decode (zcc S) pc = .ok (.i2l, 1)) (kk : AV l G S wc post (pc + 1) L (.long x.toInt64 :: st) ws) : AV l G S wc post (pc) L (.int x :: st) ws := by
  intro p e s m args below meth c C H locs ls hP hD hS hl
  exact lv_i2l C.1 C.2.1 hd rfl (kk p e s m args below meth c C H locs ls hP hD hS hl)
theorem a_l2i {x : Int64} (hd : decode (zcc S) pc = .ok (.l2i, 1)) (kk : AV l G S wc post (pc + 1) L (.int x.toInt32 :: st) ws) : AV l G S wc post (pc) L (.long x :: st) ws := by
  intro p e s m args below meth c C H locs ls hP hD hS hl
  exact lv_l2i C.1 C.2.1 hd rfl (kk p e s m args below meth c C H locs ls hP hD hS hl)
theorem a_i2s {x : Int32} (hd : decode (zcc S) pc = .ok (.i2s, 1)) (kk : AV l G S wc post (pc + 1) L (.int x.toInt16.toInt32 :: st) ws) : AV l G S wc post (pc) L (.int x :: st) ws := by
  intro p e s m args below meth c C H locs ls hP hD hS hl
  exact lv_i2s C.1 C.2.1 hd rfl (kk p e s m args below meth c C H locs ls hP hD hS hl)
theorem a_dup {v : Value} (hd : decode (zcc S) pc = .ok (.dup, 1)) (hv : v.category = 1) (kk : AV l G S wc post (pc + 1) L (v :: v :: st) ws) : AV l G S wc post (pc) L (v :: st) ws := by
  intro p e s m args below meth c C H locs ls hP hD hS hl
  exact lv_dup C.1 C.2.1 hd hv (kk p e s m args below meth c C H locs ls hP hD hS hl)
theorem a_dup2 {v u : Value} (hd : decode (zcc S) pc = .ok (.dup2, 1)) (hv : v.category = 1) (hu : u.category = 1) (kk : AV l G S wc post (pc + 1) L (v :: u :: v :: u :: st) ws) : AV l G S wc post (pc) L (v :: u :: st) ws := by
  intro p e s m args below meth c C H locs ls hP hD hS hl
  exact lv_dup2_11 C.1 C.2.1 hd hv hu (kk p e s m args below meth c C H locs ls hP hD hS hl)
theorem a_goto {off : Int} {tgt : Nat} (hd : decode (zcc S) pc = .ok (.goto off, 3)) (ht : (pc : Int) + off = (tgt : Int)) (kk : AV l G S wc post (tgt) L (st) ws) : AV l G S wc post (pc) L (st) ws := by
  intro p e s m args below meth c C H locs ls hP hD hS hl
  exact lv_goto C.1 C.2.1 hd ht (kk p e s m args below meth c C H locs ls hP hD hS hl)
theorem a_if_eq {x : Int32} {off : Int} {tgt : Nat} (hd : decode (zcc S) pc = .ok (.ifCond .eq off, 3)) (ht : (pc : Int) + off = (tgt : Int)) (kt : x = 0 → AV l G S wc post (tgt) L (st) ws) (kf : ¬ x = 0 → AV l G S wc post (pc + 3) L (st) ws) : AV l G S wc post (pc) L (.int x :: st) ws := by
  intro p e s m args below meth c C H locs ls hP hD hS hl
  exact lv_if_eq C.1 C.2.1 hd ht (fun h => kt h p e s m args below meth c C H locs ls hP hD hS hl) (fun h => kf h p e s m args below meth c C H locs ls hP hD hS hl)
theorem a_icmp_eq {x y : Int32} {off : Int} {tgt : Nat} (hd : decode (zcc S) pc = .ok (.if_icmp .eq off, 3)) (ht : (pc : Int) + off = (tgt : Int)) (kt : x = y → AV l G S wc post (tgt) L (st) ws) (kf : ¬ x = y → AV l G S wc post (pc + 3) L (st) ws) : AV l G S wc post (pc) L (.int y :: .int x :: st) ws := by
  intro p e s m args below meth c C H locs ls hP hD hS hl
  exact lv_icmp_eq C.1 C.2.1 hd ht (fun h => kt h p e s m args below meth c C H locs ls hP hD hS hl) (fun h => kf h p e s m args below meth c C H locs ls hP hD hS hl)
theorem a_if_ne {x : Int32} {off : Int} {tgt : Nat} (hd : decode (zcc S) pc = .ok (.ifCond .ne off, 3)) (ht : (pc : Int) + off = (tgt : Int)) (kt : ¬ x = 0 → AV l G S wc post (tgt) L (st) ws) (kf : x = 0 → AV l G S wc post (pc + 3) L (st) ws) : AV l G S wc post (pc) L (.int x :: st) ws := by
  intro p e s m args below meth c C H locs ls hP hD hS hl
  exact lv_if_ne C.1 C.2.1 hd ht (fun h => kt h p e s m args below meth c C H locs ls hP hD hS hl) (fun h => kf h p e s m args below meth c C H locs ls hP hD hS hl)
theorem a_icmp_ne {x y : Int32} {off : Int} {tgt : Nat} (hd : decode (zcc S) pc = .ok (.if_icmp .ne off, 3)) (ht : (pc : Int) + off = (tgt : Int)) (kt : ¬ x = y → AV l G S wc post (tgt) L (st) ws) (kf : x = y → AV l G S wc post (pc + 3) L (st) ws) : AV l G S wc post (pc) L (.int y :: .int x :: st) ws := by
  intro p e s m args below meth c C H locs ls hP hD hS hl
  exact lv_icmp_ne C.1 C.2.1 hd ht (fun h => kt h p e s m args below meth c C H locs ls hP hD hS hl) (fun h => kf h p e s m args below meth c C H locs ls hP hD hS hl)
theorem a_if_lt {x : Int32} {off : Int} {tgt : Nat} (hd : decode (zcc S) pc = .ok (.ifCond .lt off, 3)) (ht : (pc : Int) + off = (tgt : Int)) (kt : x < 0 → AV l G S wc post (tgt) L (st) ws) (kf : ¬ x < 0 → AV l G S wc post (pc + 3) L (st) ws) : AV l G S wc post (pc) L (.int x :: st) ws := by
  intro p e s m args below meth c C H locs ls hP hD hS hl
  exact lv_if_lt C.1 C.2.1 hd ht (fun h => kt h p e s m args below meth c C H locs ls hP hD hS hl) (fun h => kf h p e s m args below meth c C H locs ls hP hD hS hl)
theorem a_icmp_lt {x y : Int32} {off : Int} {tgt : Nat} (hd : decode (zcc S) pc = .ok (.if_icmp .lt off, 3)) (ht : (pc : Int) + off = (tgt : Int)) (kt : x < y → AV l G S wc post (tgt) L (st) ws) (kf : ¬ x < y → AV l G S wc post (pc + 3) L (st) ws) : AV l G S wc post (pc) L (.int y :: .int x :: st) ws := by
  intro p e s m args below meth c C H locs ls hP hD hS hl
  exact lv_icmp_lt C.1 C.2.1 hd ht (fun h => kt h p e s m args below meth c C H locs ls hP hD hS hl) (fun h => kf h p e s m args below meth c C H locs ls hP hD hS hl)
theorem a_if_ge {x : Int32} {off : Int} {tgt : Nat} (hd : decode (zcc S) pc = .ok (.ifCond .ge off, 3)) (ht : (pc : Int) + off = (tgt : Int)) (kt : 0 ≤ x → AV l G S wc post (tgt) L (st) ws) (kf : ¬ 0 ≤ x → AV l G S wc post (pc + 3) L (st) ws) : AV l G S wc post (pc) L (.int x :: st) ws := by
  intro p e s m args below meth c C H locs ls hP hD hS hl
  exact lv_if_ge C.1 C.2.1 hd ht (fun h => kt h p e s m args below meth c C H locs ls hP hD hS hl) (fun h => kf h p e s m args below meth c C H locs ls hP hD hS hl)
theorem a_icmp_ge {x y : Int32} {off : Int} {tgt : Nat} (hd : decode (zcc S) pc = .ok (.if_icmp .ge off, 3)) (ht : (pc : Int) + off = (tgt : Int)) (kt : y ≤ x → AV l G S wc post (tgt) L (st) ws) (kf : ¬ y ≤ x → AV l G S wc post (pc + 3) L (st) ws) : AV l G S wc post (pc) L (.int y :: .int x :: st) ws := by
  intro p e s m args below meth c C H locs ls hP hD hS hl
  exact lv_icmp_ge C.1 C.2.1 hd ht (fun h => kt h p e s m args below meth c C H locs ls hP hD hS hl) (fun h => kf h p e s m args below meth c C H locs ls hP hD hS hl)
theorem a_if_gt {x : Int32} {off : Int} {tgt : Nat} (hd : decode (zcc S) pc = .ok (.ifCond .gt off, 3)) (ht : (pc : Int) + off = (tgt : Int)) (kt : 0 < x → AV l G S wc post (tgt) L (st) ws) (kf : ¬ 0 < x → AV l G S wc post (pc + 3) L (st) ws) : AV l G S wc post (pc) L (.int x :: st) ws := by
  intro p e s m args below meth c C H locs ls hP hD hS hl
  exact lv_if_gt C.1 C.2.1 hd ht (fun h => kt h p e s m args below meth c C H locs ls hP hD hS hl) (fun h => kf h p e s m args below meth c C H locs ls hP hD hS hl)
theorem a_icmp_gt {x y : Int32} {off : Int} {tgt : Nat} (hd : decode (zcc S) pc = .ok (.if_icmp .gt off, 3)) (ht : (pc : Int) + off = (tgt : Int)) (kt : y < x → AV l G S wc post (tgt) L (st) ws) (kf : ¬ y < x → AV l G S wc post (pc + 3) L (st) ws) : AV l G S wc post (pc) L (.int y :: .int x :: st) ws := by
  intro p e s m args below meth c C H locs ls hP hD hS hl
  exact lv_icmp_gt C.1 C.2.1 hd ht (fun h => kt h p e s m args below meth c C H locs ls hP hD hS hl) (fun h => kf h p e s m args below meth c C H locs ls hP hD hS hl)
theorem a_if_le {x : Int32} {off : Int} {tgt : Nat} (hd : decode (zcc S) pc = .ok (.ifCond .le off, 3)) (ht : (pc : Int) + off = (tgt : Int)) (kt : x ≤ 0 → AV l G S wc post (tgt) L (st) ws) (kf : ¬ x ≤ 0 → AV l G S wc post (pc + 3) L (st) ws) : AV l G S wc post (pc) L (.int x :: st) ws := by
  intro p e s m args below meth c C H locs ls hP hD hS hl
  exact lv_if_le C.1 C.2.1 hd ht (fun h => kt h p e s m args below meth c C H locs ls hP hD hS hl) (fun h => kf h p e s m args below meth c C H locs ls hP hD hS hl)
theorem a_icmp_le {x y : Int32} {off : Int} {tgt : Nat} (hd : decode (zcc S) pc = .ok (.if_icmp .le off, 3)) (ht : (pc : Int) + off = (tgt : Int)) (kt : x ≤ y → AV l G S wc post (tgt) L (st) ws) (kf : ¬ x ≤ y → AV l G S wc post (pc + 3) L (st) ws) : AV l G S wc post (pc) L (.int y :: .int x :: st) ws := by
  intro p e s m args below meth c C H locs ls hP hD hS hl
  exact lv_icmp_le C.1 C.2.1 hd ht (fun h => kt h p e s m args below meth c C H locs ls hP hD hS hl) (fun h => kf h p e s m args below meth c C H locs ls hP hD hS hl)
theorem a_tableOut {dflt lo hi : Int} {offs : Array Int} {len : Nat} {x : Int32} {tgt : Nat} (hd : decode (zcc S) pc = .ok (.tableswitch dflt lo hi offs, len)) (h : x.toInt < lo ∨ hi < x.toInt) (ht : (pc : Int) + dflt = (tgt : Int)) (kk : AV l G S wc post (tgt) L (st) ws) : AV l G S wc post (pc) L (.int x :: st) ws := by
  intro p e s m args below meth c C H locs ls hP hD hS hl
  exact lv_tableOut C.1 C.2.1 hd h ht (kk p e s m args below meth c C H locs ls hP hD hS hl)
theorem a_tableIn {dflt lo hi : Int} {offs : Array Int} {len : Nat} {x : Int32} {off : Int} {tgt : Nat} (hd : decode (zcc S) pc = .ok (.tableswitch dflt lo hi offs, len)) (h1 : ¬ x.toInt < lo) (h2 : ¬ hi < x.toInt) (ho : offs[(x.toInt - lo).toNat]? = some off) (ht : (pc : Int) + off = (tgt : Int)) (kk : AV l G S wc post (tgt) L (st) ws) : AV l G S wc post (pc) L (.int x :: st) ws := by
  intro p e s m args below meth c C H locs ls hP hD hS hl
  exact lv_tableIn C.1 C.2.1 hd h1 h2 ho ht (kk p e s m args below meth c C H locs ls hP hD hS hl)
theorem a_lookup {dflt : Int} {ps : Array (Int × Int)} {len : Nat} {x : Int32} {off : Int} {tgt : Nat} (hd : decode (zcc S) pc = .ok (.lookupswitch dflt ps, len)) (hp : (ps.toList.zip (ps.toList.drop 1)).all (fun (a, next) => a.1 < next.1) = true) (ho : Op.lookupswitch.offset ps.toList dflt x.toInt = off) (ht : (pc : Int) + off = (tgt : Int)) (kk : AV l G S wc post (tgt) L (st) ws) : AV l G S wc post (pc) L (.int x :: st) ws := by
  intro p e s m args below meth c C H locs ls hP hD hS hl
  exact lv_lookup C.1 C.2.1 hd hp ho ht (kk p e s m args below meth c C H locs ls hP hD hS hl)
theorem g_iload_n {k : Fin 4} {i : Nat} {x : Int32} (hi : L[i]? = some (some (.int x))) (hd : decode (zcc S) pc = .ok (.iload_n k, 1)) (hk : (k : Nat) = i) (kk : AV l G S wc post (pc + 1) L (.int x :: st) ws) : AV l G S wc post (pc) L (st) ws := by
  intro p e s m args below meth c C H locs ls hP hD hS hl
  exact lv_iload_n C.1 C.2.1 hd hk (zlk hl hi) (kk p e s m args below meth c C H locs ls hP hD hS hl)
theorem g_iload {i : Nat} {x : Int32} (hi : L[i]? = some (some (.int x))) (hd : decode (zcc S) pc = .ok (.iload i, 2)) (kk : AV l G S wc post (pc + 2) L (.int x :: st) ws) : AV l G S wc post (pc) L (st) ws := by
  intro p e s m args below meth c C H locs ls hP hD hS hl
  exact lv_iload C.1 C.2.1 hd (zlk hl hi) (kk p e s m args below meth c C H locs ls hP hD hS hl)
theorem g_istore_n {k : Fin 4} {i : Nat} {x : Int32} (hp : zprev L i = true) (hn : i < znL S) (hd : decode (zcc S) pc = .ok (.istore_n k, 1)) (hk : (k : Nat) = i) (kk : AV l G S wc post (pc + 1) (L.set i (some (.int x))) (st) ws) : AV l G S wc post (pc) L (.int x :: st) ws := by
  intro p e s m args below meth c C H locs ls hP hD hS hl
  exact lv_istore_n C.1 C.2.1 hd hk hl hn rfl (fun ls hl => kk p e s m args below meth c C H locs ls hP hD hS (zset1 hp hl))
theorem g_istore {i : Nat} {x : Int32} (hp : zprev L i = true) (hn : i < znL S) (hd : decode (zcc S) pc = .ok (.istore i, 2)) (kk : AV l G S wc post (pc + 2) (L.set i (some (.int x))) (st) ws) : AV l G S wc post (pc) L (.int x :: st) ws := by
  intro p e s m args below meth c C H locs ls hP hD hS hl
  exact lv_istore C.1 C.2.1 hd hl hn rfl (fun ls hl => kk p e s m args below meth c C H locs ls hP hD hS (zset1 hp hl))
theorem g_lload_n {k : Fin 4} {i : Nat} {x : Int64} (hi : L[i]? = some (some (.long x))) (hd : decode (zcc S) pc = .ok (.lload_n k, 1)) (hk : (k : Nat) = i) (kk : AV l G S wc post (pc + 1) L (.long x :: st) ws) : AV l G S wc post (pc) L (st) ws := by
  intro p e s m args below meth c C H locs ls hP hD hS hl
  exact lv_lload_n C.1 C.2.1 hd hk (zlk hl hi) (kk p e s m args below meth c C H locs ls hP hD hS hl)
theorem g_lload {i : Nat} {x : Int64} (hi : L[i]? = some (some (.long x))) (hd : decode (zcc S) pc = .ok (.lload i, 2)) (kk : AV l G S wc post (pc + 2) L (.long x :: st) ws) : AV l G S wc post (pc) L (st) ws := by
  intro p e s m args below meth c C H locs ls hP hD hS hl
  exact lv_lload C.1 C.2.1 hd (zlk hl hi) (kk p e s m args below meth c C H locs ls hP hD hS hl)
theorem g_lstore_n {k : Fin 4} {i : Nat} {x : Int64} (hp : zprev L i = true) (hn : i + 1 < znL S) (hd : decode (zcc S) pc = .ok (.lstore_n k, 1)) (hk : (k : Nat) = i) (kk : AV l G S wc post (pc + 1) ((L.set i (some (.long x))).set (i + 1) none) (st) ws) : AV l G S wc post (pc) L (.long x :: st) ws := by
  intro p e s m args below meth c C H locs ls hP hD hS hl
  exact lv_lstore_n C.1 C.2.1 hd hk hl hn rfl (fun ls hl => kk p e s m args below meth c C H locs ls hP hD hS (zset2 hp hl))
theorem g_lstore {i : Nat} {x : Int64} (hp : zprev L i = true) (hn : i + 1 < znL S) (hd : decode (zcc S) pc = .ok (.lstore i, 2)) (kk : AV l G S wc post (pc + 2) ((L.set i (some (.long x))).set (i + 1) none) (st) ws) : AV l G S wc post (pc) L (.long x :: st) ws := by
  intro p e s m args below meth c C H locs ls hP hD hS hl
  exact lv_lstore C.1 C.2.1 hd hl hn rfl (fun ls hl => kk p e s m args below meth c C H locs ls hP hD hS (zset2 hp hl))
theorem g_aload_n {k : Fin 4} {i : Nat} {x : Nat} (hi : L[i]? = some (some (.ref x))) (hd : decode (zcc S) pc = .ok (.aload_n k, 1)) (hk : (k : Nat) = i) (kk : AV l G S wc post (pc + 1) L (.ref x :: st) ws) : AV l G S wc post (pc) L (st) ws := by
  intro p e s m args below meth c C H locs ls hP hD hS hl
  exact lv_aload_n C.1 C.2.1 hd hk (zlk hl hi) (kk p e s m args below meth c C H locs ls hP hD hS hl)
theorem g_aload {i : Nat} {x : Nat} (hi : L[i]? = some (some (.ref x))) (hd : decode (zcc S) pc = .ok (.aload i, 2)) (kk : AV l G S wc post (pc + 2) L (.ref x :: st) ws) : AV l G S wc post (pc) L (st) ws := by
  intro p e s m args below meth c C H locs ls hP hD hS hl
  exact lv_aload C.1 C.2.1 hd (zlk hl hi) (kk p e s m args below meth c C H locs ls hP hD hS hl)
theorem g_astore_n {k : Fin 4} {i : Nat} {x : Nat} (hp : zprev L i = true) (hn : i < znL S) (hd : decode (zcc S) pc = .ok (.astore_n k, 1)) (hk : (k : Nat) = i) (kk : AV l G S wc post (pc + 1) (L.set i (some (.ref x))) (st) ws) : AV l G S wc post (pc) L (.ref x :: st) ws := by
  intro p e s m args below meth c C H locs ls hP hD hS hl
  exact lv_astore_n C.1 C.2.1 hd hk hl hn rfl (fun ls hl => kk p e s m args below meth c C H locs ls hP hD hS (zset1 hp hl))
theorem g_astore {i : Nat} {x : Nat} (hp : zprev L i = true) (hn : i < znL S) (hd : decode (zcc S) pc = .ok (.astore i, 2)) (kk : AV l G S wc post (pc + 2) (L.set i (some (.ref x))) (st) ws) : AV l G S wc post (pc) L (.ref x :: st) ws := by
  intro p e s m args below meth c C H locs ls hP hD hS hl
  exact lv_astore C.1 C.2.1 hd hl hn rfl (fun ls hl => kk p e s m args below meth c C H locs ls hP hD hS (zset1 hp hl))
theorem g_iinc {i : Nat} {n : Int} {x v : Int32} (hi : L[i]? = some (some (.int x))) (hp : zprev L i = true) (hn : i < znL S) (hd : decode (zcc S) pc = .ok (.iinc i n, 3)) (hv : x + Int32.ofInt n = v) (kk : AV l G S wc post (pc + 3) (L.set i (some (.int v))) (st) ws) : AV l G S wc post (pc) L (st) ws := by
  intro p e s m args below meth c C H locs ls hP hD hS hl
  obtain ⟨k, hk⟩ := List.getElem?_of_mem ((zL_mem L 0 (i, .int x)).mpr ⟨i, by simp, hi⟩)
  exact lv_iinc C.1 C.2.1 hd hl hk hv hn rfl (fun ls hl => kk p e s m args below meth c C H locs ls hP hD hS (zset1 hp hl))
theorem a_getf {index k j ci N : Nat} {ad : Nat → Nat} {CC : String} {TT : u_T} {fs : List Value} {v : Value} (hc : vwCl[ci]? = some (CC, TT, N)) (hin : ∀ w ∈ u_ws CC TT N, w ∈ zT) (hj : j < N) (hd : decode (zcc S) pc = .ok (.getfield index, 3)) (hlink : Cond.fieldLink (zown S) index (TT j).1 (TT j).2.1 (TT j).2.2.1 ∈ zT) (he : ws[k]? = some (ad k, .inr (ci, fs))) (hv : fs[j]? = some v) (kk : AV l G S wc post (pc + 3) L (v :: st) ws) : AV l G S wc post (pc) L (.ref (ad k) :: st) ws := by
  intro p e s m args below meth c C H locs ls hP hD hS hl
  exact va_get C.1 C.2.1 C.2.2.2.2.1 hin C.2.2.2.1 C.2.2.2.2.2.2.2.1 hP k he hc j hj (C.2.2.2.2.1 _ hlink) (fun _ h => h) hv hd (kk p e s m args below meth c C H locs ls hP hD hS hl)
theorem a_getfN {index k j ci N : Nat} {ad : Nat → Nat} {CC host : String} {TT : u_T} {fs : List Value} {v : Value} (hc : vwCl[ci]? = some (CC, TT, N)) (hin : ∀ w ∈ u_ws CC TT N, w ∈ zT) (hj : j < N) (hd : decode (zcc S) pc = .ok (.getfield index, 3)) (hlink : Cond.fieldLinkNest (zown S) index (TT j).1 (TT j).2.1 (TT j).2.2.1 host ∈ zNest) (he : ws[k]? = some (ad k, .inr (ci, fs))) (hv : fs[j]? = some v) (kk : AV l G S wc post (pc + 3) L (v :: st) ws) : AV l G S wc post (pc) L (.ref (ad k) :: st) ws := by
  intro p e s m args below meth c C H locs ls hP hD hS hl
  exact va_getN C.1 C.2.1 C.2.2.2.2.1 hin C.2.2.2.1 C.2.2.2.2.2.2.2.1 hP k he hc j hj (va_Nw.use rfl (C.2.2.2.2.2.2.2.2.1 _ hlink)) (fun _ h => h) hv hd (kk p e s m args below meth c C H locs ls hP hD hS hl)
theorem a_putf {index k j ci N : Nat} {ad : Nat → Nat} {CC : String} {TT : u_T} {ty0 : Nat → FieldType} {fs : List Value} {v : Value} {ty : FieldType} (hc : vwCl[ci]? = some (CC, TT, N)) (hin : ∀ w ∈ u_ws CC TT N, w ∈ zT) (hty : ∀ k, k < N → parseFieldDescriptor (TT k).2.2.1 = some (ty0 k)) (hnm : ∀ a, a < N → ∀ b, b < N → a ≠ b → (TT a).2.1 ≠ (TT b).2.1) (hj : j < N) (hd : decode (zcc S) pc = .ok (.putfield index, 3)) (hlink : Cond.fieldLink (zown S) index (TT j).1 (TT j).2.1 (TT j).2.2.1 ∈ zT) (hfin : (TT j).2.2.2 = false) (he : ws[k]? = some (ad k, .inr (ci, fs))) (hty2 : ty0 j = ty) (hnr : narrow ty v = v) (hfit : fits ty v = true) (hlen : j < fs.length) (kk : AV l G S wc post (pc + 3) L (st) (ws.set k (ad k, .inr (ci, fs.set j v)))) : AV l G S wc post (pc) L (v :: .ref (ad k) :: st) ws := by
  intro p e s m args below meth c C H locs ls hP hD hS hl
  exact va_put C.1 C.2.1 C.2.2.2.2.1 hin ty0 hty hnm C.2.2.2.1 C.2.2.2.2.2.2.2.1 hP hD hS k he hc j hj (C.2.2.2.2.1 _ hlink) (fun _ h => h) hfin (by rw [hty j hj, hty2]) hnr hfit hlen hd (fun H locs hP hD hS => kk p e s m args below meth c C H locs ls hP hD hS hl)
theorem a_putfN {index k j ci N : Nat} {ad : Nat → Nat} {CC host : String} {TT : u_T} {ty0 : Nat → FieldType} {fs : List Value} {v : Value} {ty : FieldType} (hc : vwCl[ci]? = some (CC, TT, N)) (hin : ∀ w ∈ u_ws CC TT N, w ∈ zT) (hty : ∀ k, k < N → parseFieldDescriptor (TT k).2.2.1 = some (ty0 k)) (hnm : ∀ a, a < N → ∀ b, b < N → a ≠ b → (TT a).2.1 ≠ (TT b).2.1) (hj : j < N) (hd : decode (zcc S) pc = .ok (.putfield index, 3)) (hlink : Cond.fieldLinkNest (zown S) index (TT j).1 (TT j).2.1 (TT j).2.2.1 host ∈ zNest) (hfin : (TT j).2.2.2 = false) (he : ws[k]? = some (ad k, .inr (ci, fs))) (hty2 : ty0 j = ty) (hnr : narrow ty v = v) (hfit : fits ty v = true) (hlen : j < fs.length) (kk : AV l G S wc post (pc + 3) L (st) (ws.set k (ad k, .inr (ci, fs.set j v)))) : AV l G S wc post (pc) L (v :: .ref (ad k) :: st) ws := by
  intro p e s m args below meth c C H locs ls hP hD hS hl
  exact va_putN C.1 C.2.1 C.2.2.2.2.1 hin ty0 hty hnm C.2.2.2.1 C.2.2.2.2.2.2.2.1 hP hD hS k he hc j hj (va_Nw.use rfl (C.2.2.2.2.2.2.2.2.1 _ hlink)) (fun _ h => h) hfin (by rw [hty j hj, hty2]) hnr hfit hlen hd (fun H locs hP hD hS => kk p e s m args below meth c C H locs ls hP hD hS hl)
theorem a_gets {index k : Nat} {q : String × String × Nat × (Nat → Int32)} (hd : decode (zcc S) pc = .ok (.getstatic index, 3)) (hq : zSt[k]? = some q) (hlink : Cond.fieldLink (zown S) index q.1 q.2.1 "[I" ∈ zT) (kk : AV l G S wc post (pc + 3) L (.ref (G.2.2 k) :: st) ws) : AV l G S wc post (pc) L (st) ws := by
  intro p e s m args below meth c C H locs ls hP hD hS hl
  obtain ⟨h1, h2, h3, h4⟩ := C.2.2.2.2.2.2.2.2.2 k q hq
  exact va_gets C.1 C.2.1 h1 hS C.2.2.2.1 (C.2.2.2.2.1 _ hlink) (fun _ h => h) hd (kk p e s m args below meth c C H locs ls hP hD hS hl)
theorem a_stald {k : Nat} {q : String × String × Nat × (Nat → Int32)} {i : Int32} (hq : zSt[k]? = some q) (hd : decode (zcc S) pc = .ok (.iaload, 1)) (hi : vp_in i q.2.2.1) (kk : AV l G S wc post (pc + 1) L (.int (q.2.2.2 i.toNatClampNeg) :: st) ws) : AV l G S wc post (pc) L (.int i :: .ref (G.2.2 k) :: st) ws := by
  intro p e s m args below meth c C H locs ls hP hD hS hl
  obtain ⟨h1, h2, h3, h4⟩ := C.2.2.2.2.2.2.2.2.2 k q hq
  exact va_sld C.1 C.2.1 h2 h4 h3 hS hi hd (kk p e s m args below meth c C H locs ls hP hD hS hl)
theorem a_iald {k n : Nat} {ad : Nat → Nat} {f : Nat → Int32} {i : Int32} (hd : decode (zcc S) pc = .ok (.iaload, 1)) (he : ws[k]? = some (ad k, .inl (zcI G, n, .inl f))) (hi : vp_in i n) (kk : AV l G S wc post (pc + 1) L (.int (f i.toNatClampNeg) :: st) ws) : AV l G S wc post (pc) L (.int i :: .ref (ad k) :: st) ws := by
  intro p e s m args below meth c C H locs ls hP hD hS hl
  exact va_iald C.1 C.2.1 C.2.2.2.2.2.2.2.1 hP k 0 he rfl hi hd (kk p e s m args below meth c C H locs ls hP hD hS hl)
theorem a_lald {k n : Nat} {ad : Nat → Nat} {f : Nat → Int64} {i : Int32} (hd : decode (zcc S) pc = .ok (.laload, 1)) (he : ws[k]? = some (ad k, .inl (zcJ G, n, .inr (.inl f)))) (hi : vp_in i n) (kk : AV l G S wc post (pc + 1) L (.long (f i.toNatClampNeg) :: st) ws) : AV l G S wc post (pc) L (.int i :: .ref (ad k) :: st) ws := by
  intro p e s m args below meth c C H locs ls hP hD hS hl
  exact va_lald C.1 C.2.1 C.2.2.2.2.2.2.2.1 hP k 1 he rfl hi hd (kk p e s m args below meth c C H locs ls hP hD hS hl)
theorem a_sald {k n : Nat} {ad : Nat → Nat} {f : Nat → Int32} {i : Int32} (hd : decode (zcc S) pc = .ok (.saload, 1)) (he : ws[k]? = some (ad k, .inl (zcS G, n, .inl f))) (hi : vp_in i n) (kk : AV l G S wc post (pc + 1) L (.int (f i.toNatClampNeg) :: st) ws) : AV l G S wc post (pc) L (.int i :: .ref (ad k) :: st) ws := by
  intro p e s m args below meth c C H locs ls hP hD hS hl
  exact va_sald C.1 C.2.1 C.2.2.2.2.2.2.2.1 hP k 2 he rfl hi hd (kk p e s m args below meth c C H locs ls hP hD hS hl)
theorem a_aald {k n : Nat} {ad : Nat → Nat} {f : Nat → Option Nat} {i : Int32} (hd : decode (zcc S) pc = .ok (.aaload, 1)) (he : ws[k]? = some (ad k, .inl (zcO G, n, .inr (.inr (.inr (.inr f)))))) (hi : vp_in i n) (kk : AV l G S wc post (pc + 1) L (va_rf (f i.toNatClampNeg) :: st) ws) : AV l G S wc post (pc) L (.int i :: .ref (ad k) :: st) ws := by
  intro p e s m args below meth c C H locs ls hP hD hS hl
  exact va_aldq C.1 C.2.1 C.2.2.2.2.2.2.2.1 hP k 3 he rfl hi hd (kk p e s m args below meth c C H locs ls hP hD hS hl)
theorem a_iast {k n : Nat} {ad : Nat → Nat} {f : Nat → Int32} {i x : Int32} (hd : decode (zcc S) pc = .ok (.iastore, 1)) (he : ws[k]? = some (ad k, .inl (zcI G, n, .inl f))) (hi : vp_in i n) (kk : AV l G S wc post (pc + 1) L (st) (ws.set k (ad k, .inl (zcI G, n, .inl (upd f i.toNatClampNeg x))))) : AV l G S wc post (pc) L (.int x :: .int i :: .ref (ad k) :: st) ws := by
  intro p e s m args below meth c C H locs ls hP hD hS hl
  exact va_iast C.1 C.2.1 C.2.2.2.2.2.2.2.1 hP hD hS k 0 he rfl hi hd (fun H locs hP hD hS => kk p e s m args below meth c C H locs ls hP hD hS hl)
theorem a_last {k n : Nat} {ad : Nat → Nat} {f : Nat → Int64} {i : Int32} {x : Int64} (hd : decode (zcc S) pc = .ok (.lastore, 1)) (he : ws[k]? = some (ad k, .inl (zcJ G, n, .inr (.inl f)))) (hi : vp_in i n) (kk : AV l G S wc post (pc + 1) L (st) (ws.set k (ad k, .inl (zcJ G, n, .inr (.inl (vp_updL f i.toNatClampNeg x)))))) : AV l G S wc post (pc) L (.long x :: .int i :: .ref (ad k) :: st) ws := by
  intro p e s m args below meth c C H locs ls hP hD hS hl
  exact va_last C.1 C.2.1 C.2.2.2.2.2.2.2.1 hP hD hS k 1 he rfl hi hd (fun H locs hP hD hS => kk p e s m args below meth c C H locs ls hP hD hS hl)
theorem a_sast {k n : Nat} {ad : Nat → Nat} {f : Nat → Int32} {i x : Int32} (hd : decode (zcc S) pc = .ok (.sastore, 1)) (he : ws[k]? = some (ad k, .inl (zcS G, n, .inl f))) (hi : vp_in i n) (kk : AV l G S wc post (pc + 1) L (st) (ws.set k (ad k, .inl (zcS G, n, .inl (upd f i.toNatClampNeg (vp_nar .short x)))))) : AV l G S wc post (pc) L (.int x :: .int i :: .ref (ad k) :: st) ws := by
  intro p e s m args below meth c C H locs ls hP hD hS hl
  exact va_sast C.1 C.2.1 C.2.2.2.2.2.2.2.1 hP hD hS k 2 he rfl hi hd (fun H locs hP hD hS => kk p e s m args below meth c C H locs ls hP hD hS hl)
theorem a_alenI {k n : Nat} {ad : Nat → Nat} {f : Nat → Int32} {v : Int32} (hd : decode (zcc S) pc = .ok (.arraylength, 1)) (he : ws[k]? = some (ad k, .inl (zcI G, n, .inl f))) (hv : Int32.ofNat n = v) (kk : AV l G S wc post (pc + 1) L (.int v :: st) ws) : AV l G S wc post (pc) L (.ref (ad k) :: st) ws := by
  intro p e s m args below meth c C H locs ls hP hD hS hl
  exact va_alen C.1 C.2.1 C.2.2.2.2.2.2.2.1 hP k 0 he rfl hv hd (kk p e s m args below meth c C H locs ls hP hD hS hl)
theorem a_alenS {k n : Nat} {ad : Nat → Nat} {f : Nat → Int32} {v : Int32} (hd : decode (zcc S) pc = .ok (.arraylength, 1)) (he : ws[k]? = some (ad k, .inl (zcS G, n, .inl f))) (hv : Int32.ofNat n = v) (kk : AV l G S wc post (pc + 1) L (.int v :: st) ws) : AV l G S wc post (pc) L (.ref (ad k) :: st) ws := by
  intro p e s m args below meth c C H locs ls hP hD hS hl
  exact va_alen C.1 C.2.1 C.2.2.2.2.2.2.2.1 hP k 2 he rfl hv hd (kk p e s m args below meth c C H locs ls hP hD hS hl)
theorem a_iret {v : Int32} (hd : decode (zcc S) pc = .ok (.ireturn, 1)) (hr : zret S = some .int) (hf : ws.map Prod.fst = wc.map Prod.fst) (hp : post (some (.int v)) ws) : AV l G S wc post (pc) L ([.int v]) ws := by
  intro p e s m args below meth c C H locs ls hP hD hS hl
  exact W.iret C.1 C.2.1 (C.2.2.2.2.2.1.trans hr) (fun t ht hW => ⟨⟨_, _, rfl, hp, hf, by rw [ht]; exact hP⟩, hS.F ht⟩) hS.2.2 hd C.2.2.2.2.2.2.1
theorem a_zret {v : Int32} (hd : decode (zcc S) pc = .ok (.ireturn, 1)) (hr : zret S = some .boolean) (hv : v = 0 ∨ v = 1) (hf : ws.map Prod.fst = wc.map Prod.fst) (hp : post (some (.int v)) ws) : AV l G S wc post (pc) L ([.int v]) ws := by
  intro p e s m args below meth c C H locs ls hP hD hS hl
  exact W.zret C.1 C.2.1 (C.2.2.2.2.2.1.trans hr) (by rcases hv with rfl | rfl <;> rfl) (fun t ht hW => ⟨⟨_, _, rfl, hp, hf, by rw [ht]; exact hP⟩, hS.F ht⟩) hS.2.2 hd C.2.2.2.2.2.2.1
theorem a_lret {v : Int64} (hd : decode (zcc S) pc = .ok (.lreturn, 1)) (hr : zret S = some .long) (hf : ws.map Prod.fst = wc.map Prod.fst) (hp : post (some (.long v)) ws) : AV l G S wc post (pc) L ([.long v]) ws := by
  intro p e s m args below meth c C H locs ls hP hD hS hl
  exact W.lret C.1 C.2.1 (C.2.2.2.2.2.1.trans hr) (fun t ht hW => ⟨⟨_, _, rfl, hp, hf, by rw [ht]; exact hP⟩, hS.F ht⟩) hS.2.2 hd C.2.2.2.2.2.2.1
theorem a_vret (hd : decode (zcc S) pc = .ok (.return_, 1)) (hr : zret S = none) (hf : ws.map Prod.fst = wc.map Prod.fst) (hp : post none ws) : AV l G S wc post (pc) L ([]) ws := by
  intro p e s m args below meth c C H locs ls hP hD hS hl
  exact W.vret C.1 C.2.1 (C.2.2.2.2.2.1.trans hr) (fun t ht hW => ⟨⟨_, _, rfl, hp, hf, by rw [ht]; exact hP⟩, hS.F ht⟩) hS.2.2 hd C.2.2.2.2.2.2.1
theorem a_aret {a : Nat} {ty : FieldType} (hd : decode (zcc S) pc = .ok (.areturn, 1)) (hr : zret S = some (.array ty)) (hf : ws.map Prod.fst = wc.map Prod.fst) (hp : post (some (.ref a)) ws) : AV l G S wc post (pc) L ([.ref a]) ws := by
  intro p e s m args below meth c C H locs ls hP hD hS hl
  exact W.aret C.1 C.2.1 (C.2.2.2.2.2.1.trans hr) (Or.inr ⟨_, rfl⟩) (Or.inr ⟨_, rfl⟩) (fun t ht hW => ⟨⟨_, _, rfl, hp, hf, by rw [ht]; exact hP⟩, hS.F ht⟩) hS.2.2 hd C.2.2.2.2.2.2.1
theorem a_copy {index : Nat} {k0 k1 n0 n1 t0 : Nat} {ad ad1 : Nat → Nat} {c0 c1 : ClassId} {f g : Nat → Int32} {ty : FieldType} {sp dp n : Int32} (hd : decode (zcc S) pc = .ok (.invokestatic index, 3)) (hlink : Cond.methodLink (zown S) index arraycopyName ∈ zT) (hnat : Cond.native arraycopyName ∈ zT) (hstat : Cond.static arraycopyName ∈ zT) (hini : Cond.initialized "java/lang/System" ∈ zT)
    (he0 : ws[k0]? = some (ad k0, .inl (c0, n0, .inl f))) (he1 : ws[k1]? = some (ad1 k1, .inl (c1, n1, .inl g))) (ht0 : (zty G)[t0]? = some (c0, ty)) (ht1 : (zty G)[t0]? = some (c1, ty)) (hprim : refKind ty = false) (h1 : ¬ sp < 0) (h2 : ¬ dp < 0) (h3 : ¬ n < 0) (h4 : sp.toNatClampNeg + n.toNatClampNeg ≤ n0) (h5 : dp.toNatClampNeg + n.toNatClampNeg ≤ n1) (hfit : ∀ i, i < n.toNatClampNeg → fits ty (.int (f (sp.toNatClampNeg + i))) = true)
    (hfr : 1 ≤ zfr S) (hlo : (st.map fun v => v.category).sum + (nativeFrameWords "java/lang/System" "arraycopy" 5 + 11) ≤ zlo S)
    (kk : AV l G S wc post (pc + 3) L (st) (ws.set k1 (ad1 k1, .inl (c1, n1, .inl (va_cpy f g sp.toNatClampNeg dp.toNatClampNeg n.toNatClampNeg))))) : AV l G S wc post (pc) L (.int n :: .int dp :: .ref (ad1 k1) :: .int sp :: .ref (ad k0) :: st) ws := by
  intro p e s m args below meth c C H locs ls hP hD hS hl
  exact va_copyi C.1 C.2.1 (C.2.2.1.trans hl.1.symm) C.2.2.2.1 (C.2.2.2.2.1 _ hlink) (C.2.2.2.2.1 _ hnat) (C.2.2.2.2.1 _ hstat) (C.2.2.2.2.1 _ hini) C.2.2.2.2.2.2.2.1 hP hD hS k0 k1 t0 t0 he0 he1 ht0 ht1 hprim h1 h2 h3 h4 h5 hfit hfr hlo hd (fun H locs hP hD hS => kk p e s m args below meth c C H locs ls hP hD hS hl)
theorem zEnterV {As : List Value} (hy : plainName (zy S).cls = true) (hown : (zy S).cls = zown S) (hAs : (lg_sl As).length ≤ znL S) (hL : lv_args 0 As = zL 0 L) (h : AV l G S wc post 0 L [] wc) : zSem l G S As wc post := zEnter hy hown hAs hL h
theorem a_to {pc2 : Nat} {L2 : List (Option Value)} {st2 : List Value} {ws2 : va_W} (h : AV l G S wc post pc2 L2 st2 ws2) (h1 : pc2 = pc) (h2 : L2 = L) (h3 : st2 = st) (h4 : ws2 = ws) : AV l G S wc post pc L st ws := by
  subst h1; subst h2; subst h3; subst h4; exact h
/-- locals that are no longer needed are forgotten -/
theorem a_drop (L2 : List (Option Value)) (hs : ∀ (j : Nat) (v : Value), L2[j]? = some (some v) → L[j]? = some (some v)) (h : AV l G S wc post pc L2 st ws) : AV l G S wc post pc L st ws := by
  intro p e s m args below meth c C H locs ls hP hD hS hl
  refine h p e s m args below meth c C H locs ls hP hD hS ⟨hl.1, hl.2.1, fun q hq => hl.2.2 q ?_⟩
  obtain ⟨j, h1, h2⟩ := (zL_mem _ _ _).mp hq
  exact (zL_mem _ _ _).mpr ⟨j, h1, hs j _ h2⟩
theorem a_iload_0 {x : Int32} (hd : decode (zcc S) pc = .ok (.iload_n 0, 1)) (kk : AV l G S wc post (pc + 1) (some (.int x) :: L) (.int x :: st) ws) : AV l G S wc post (pc) (some (.int x) :: L) (st) ws := g_iload_n (i := 0) rfl hd rfl kk
theorem a_istore_0 {c : Option Value} {x : Int32} (hd : decode (zcc S) pc = .ok (.istore_n 0, 1)) (hn : 0 < znL S) (kk : AV l G S wc post (pc + 1) (some (.int x) :: L) (st) ws) : AV l G S wc post (pc) (c :: L) (.int x :: st) ws := g_istore_n (i := 0) rfl hn hd rfl kk
theorem a_lload_0 {x : Int64} (hd : decode (zcc S) pc = .ok (.lload_n 0, 1)) (kk : AV l G S wc post (pc + 1) (some (.long x) :: L) (.long x :: st) ws) : AV l G S wc post (pc) (some (.long x) :: L) (st) ws := g_lload_n (i := 0) rfl hd rfl kk
theorem a_lstore_0 {c d : Option Value} {x : Int64} (hd : decode (zcc S) pc = .ok (.lstore_n 0, 1)) (hn : 0 + 1 < znL S) (kk : AV l G S wc post (pc + 1) (some (.long x) :: none :: L) (st) ws) : AV l G S wc post (pc) (c :: d :: L) (.long x :: st) ws := g_lstore_n (i := 0) rfl hn hd rfl kk
theorem a_aload_0 {x : Nat} (hd : decode (zcc S) pc = .ok (.aload_n 0, 1)) (kk : AV l G S wc post (pc + 1) (some (.ref x) :: L) (.ref x :: st) ws) : AV l G S wc post (pc) (some (.ref x) :: L) (st) ws := g_aload_n (i := 0) rfl hd rfl kk
theorem a_astore_0 {c : Option Value} {x : Nat} (hd : decode (zcc S) pc = .ok (.astore_n 0, 1)) (hn : 0 < znL S) (kk : AV l G S wc post (pc + 1) (some (.ref x) :: L) (st) ws) : AV l G S wc post (pc) (c :: L) (.ref x :: st) ws := g_astore_n (i := 0) rfl hn hd rfl kk
theorem a_iinc_0 {n : Int} {x cst : Int32} (hd : decode (zcc S) pc = .ok (.iinc 0 n, 3)) (hn : 0 < znL S) (hv : Int32.ofInt n = cst) (kk : AV l G S wc post (pc + 3) (some (.int (x + cst)) :: L) (st) ws) : AV l G S wc post (pc) (some (.int x) :: L) (st) ws := g_iinc (i := 0) rfl rfl hn hd (by rw [hv]) kk
theorem a_iload_1 {b0 : Option Value} {x : Int32} (hd : decode (zcc S) pc = .ok (.iload_n 1, 1)) (kk : AV l G S wc post (pc + 1) (b0 :: some (.int x) :: L) (.int x :: st) ws) : AV l G S wc post (pc) (b0 :: some (.int x) :: L) (st) ws := g_iload_n (i := 1) rfl hd rfl kk
theorem a_istore_1 {b0 : Option Value} {c : Option Value} {x : Int32} (hd : decode (zcc S) pc = .ok (.istore_n 1, 1)) (hp : zprev (b0 :: c :: L) 1 = true) (hn : 1 < znL S) (kk : AV l G S wc post (pc + 1) (b0 :: some (.int x) :: L) (st) ws) : AV l G S wc post (pc) (b0 :: c :: L) (.int x :: st) ws := g_istore_n (i := 1) hp hn hd rfl kk
theorem a_lload_1 {b0 : Option Value} {x : Int64} (hd : decode (zcc S) pc = .ok (.lload_n 1, 1)) (kk : AV l G S wc post (pc + 1) (b0 :: some (.long x) :: L) (.long x :: st) ws) : AV l G S wc post (pc) (b0 :: some (.long x) :: L) (st) ws := g_lload_n (i := 1) rfl hd rfl kk
theorem a_lstore_1 {b0 : Option Value} {c d : Option Value} {x : Int64} (hd : decode (zcc S) pc = .ok (.lstore_n 1, 1)) (hp : zprev (b0 :: c :: d :: L) 1 = true) (hn : 1 + 1 < znL S) (kk : AV l G S wc post (pc + 1) (b0 :: some (.long x) :: none :: L) (st) ws) : AV l G S wc post (pc) (b0 :: c :: d :: L) (.long x :: st) ws := g_lstore_n (i := 1) hp hn hd rfl kk
theorem a_aload_1 {b0 : Option Value} {x : Nat} (hd : decode (zcc S) pc = .ok (.aload_n 1, 1)) (kk : AV l G S wc post (pc + 1) (b0 :: some (.ref x) :: L) (.ref x :: st) ws) : AV l G S wc post (pc) (b0 :: some (.ref x) :: L) (st) ws := g_aload_n (i := 1) rfl hd rfl kk
theorem a_astore_1 {b0 : Option Value} {c : Option Value} {x : Nat} (hd : decode (zcc S) pc = .ok (.astore_n 1, 1)) (hp : zprev (b0 :: c :: L) 1 = true) (hn : 1 < znL S) (kk : AV l G S wc post (pc + 1) (b0 :: some (.ref x) :: L) (st) ws) : AV l G S wc post (pc) (b0 :: c :: L) (.ref x :: st) ws := g_astore_n (i := 1) hp hn hd rfl kk
theorem a_iinc_1 {b0 : Option Value} {n : Int} {x cst : Int32} (hd : decode (zcc S) pc = .ok (.iinc 1 n, 3)) (hp : zprev (b0 :: some (.int x) :: L) 1 = true) (hn : 1 < znL S) (hv : Int32.ofInt n = cst) (kk : AV l G S wc post (pc + 3) (b0 :: some (.int (x + cst)) :: L) (st) ws) : AV l G S wc post (pc) (b0 :: some (.int x) :: L) (st) ws := g_iinc (i := 1) rfl hp hn hd (by rw [hv]) kk
theorem a_iload_2 {b0 b1 : Option Value} {x : Int32} (hd : decode (zcc S) pc = .ok (.iload_n 2, 1)) (kk : AV l G S wc post (pc + 1) (b0 :: b1 :: some (.int x) :: L) (.int x :: st) ws) : AV l G S wc post (pc) (b0 :: b1 :: some (.int x) :: L) (st) ws := g_iload_n (i := 2) rfl hd rfl kk
theorem a_istore_2 {b0 b1 : Option Value} {c : Option Value} {x : Int32} (hd : decode (zcc S) pc = .ok (.istore_n 2, 1)) (hp : zprev (b0 :: b1 :: c :: L) 2 = true) (hn : 2 < znL S) (kk : AV l G S wc post (pc + 1) (b0 :: b1 :: some (.int x) :: L) (st) ws) : AV l G S wc post (pc) (b0 :: b1 :: c :: L) (.int x :: st) ws := g_istore_n (i := 2) hp hn hd rfl kk
theorem a_lload_2 {b0 b1 : Option Value} {x : Int64} (hd : decode (zcc S) pc = .ok (.lload_n 2, 1)) (kk : AV l G S wc post (pc + 1) (b0 :: b1 :: some (.long x) :: L) (.long x :: st) ws) : AV l G S wc post (pc) (b0 :: b1 :: some (.long x) :: L) (st) ws := g_lload_n (i := 2) rfl hd rfl kk
theorem a_lstore_2 {b0 b1 : Option Value} {c d : Option Value} {x : Int64} (hd : decode (zcc S) pc = .ok (.lstore_n 2, 1)) (hp : zprev (b0 :: b1 :: c :: d :: L) 2 = true) (hn : 2 + 1 < znL S) (kk : AV l G S wc post (pc + 1) (b0 :: b1 :: some (.long x) :: none :: L) (st) ws) : AV l G S wc post (pc) (b0 :: b1 :: c :: d :: L) (.long x :: st) ws := g_lstore_n (i := 2) hp hn hd rfl kk
theorem a_aload_2 {b0 b1 : Option Value} {x : Nat} (hd : decode (zcc S) pc = .ok (.aload_n 2, 1)) (kk : AV l G S wc post (pc + 1) (b0 :: b1 :: some (.ref x) :: L) (.ref x :: st) ws) : AV l G S wc post (pc) (b0 :: b1 :: some (.ref x) :: L) (st) ws := g_aload_n (i := 2) rfl hd rfl kk
theorem a_astore_2 {b0 b1 : Option Value} {c : Option Value} {x : Nat} (hd : decode (zcc S) pc = .ok (.astore_n 2, 1)) (hp : zprev (b0 :: b1 :: c :: L) 2 = true) (hn : 2 < znL S) (kk : AV l G S wc post (pc + 1) (b0 :: b1 :: some (.ref x) :: L) (st) ws) : AV l G S wc post (pc) (b0 :: b1 :: c :: L) (.ref x :: st) ws := g_astore_n (i := 2) hp hn hd rfl kk
theorem a_iinc_2 {b0 b1 : Option Value} {n : Int} {x cst : Int32} (hd : decode (zcc S) pc = .ok (.iinc 2 n, 3)) (hp : zprev (b0 :: b1 :: some (.int x) :: L) 2 = true) (hn : 2 < znL S) (hv : Int32.ofInt n = cst) (kk : AV l G S wc post (pc + 3) (b0 :: b1 :: some (.int (x + cst)) :: L) (st) ws) : AV l G S wc post (pc) (b0 :: b1 :: some (.int x) :: L) (st) ws := g_iinc (i := 2) rfl hp hn hd (by rw [hv]) kk
theorem a_iload_3 {b0 b1 b2 : Option Value} {x : Int32} (hd : decode (zcc S) pc = .ok (.iload_n 3, 1)) (kk : AV l G S wc post (pc + 1) (b0 :: b1 :: b2 :: some (.int x) :: L) (.int x :: st) ws) : AV l G S wc post (pc) (b0 :: b1 :: b2 :: some (.int x) :: L) (st) ws := g_iload_n (i := 3) rfl hd rfl kk
theorem a_istore_3 {b0 b1 b2 : Option Value} {c : Option Value} {x : Int32} (hd : decode (zcc S) pc = .ok (.istore_n 3, 1)) (hp : zprev (b0 :: b1 :: b2 :: c :: L) 3 = true) (hn : 3 < znL S) (kk : AV l G S wc post (pc + 1) (b0 :: b1 :: b2 :: some (.int x) :: L) (st) ws) : AV l G S wc post (pc) (b0 :: b1 :: b2 :: c :: L) (.int x :: st) ws := g_istore_n (i := 3) hp hn hd rfl kk
theorem a_lload_3 {b0 b1 b2 : Option Value} {x : Int64} (hd : decode (zcc S) pc = .ok (.lload_n 3, 1)) (kk : AV l G S wc post (pc + 1) (b0 :: b1 :: b2 :: some (.long x) :: L) (.long x :: st) ws) : AV l G S wc post (pc) (b0 :: b1 :: b2 :: some (.long x) :: L) (st) ws := g_lload_n (i := 3) rfl hd rfl kk
theorem a_lstore_3 {b0 b1 b2 : Option Value} {c d : Option Value} {x : Int64} (hd : decode (zcc S) pc = .ok (.lstore_n 3, 1)) (hp : zprev (b0 :: b1 :: b2 :: c :: d :: L) 3 = true) (hn : 3 + 1 < znL S) (kk : AV l G S wc post (pc + 1) (b0 :: b1 :: b2 :: some (.long x) :: none :: L) (st) ws) : AV l G S wc post (pc) (b0 :: b1 :: b2 :: c :: d :: L) (.long x :: st) ws := g_lstore_n (i := 3) hp hn hd rfl kk
theorem a_aload_3 {b0 b1 b2 : Option Value} {x : Nat} (hd : decode (zcc S) pc = .ok (.aload_n 3, 1)) (kk : AV l G S wc post (pc + 1) (b0 :: b1 :: b2 :: some (.ref x) :: L) (.ref x :: st) ws) : AV l G S wc post (pc) (b0 :: b1 :: b2 :: some (.ref x) :: L) (st) ws := g_aload_n (i := 3) rfl hd rfl kk
theorem a_astore_3 {b0 b1 b2 : Option Value} {c : Option Value} {x : Nat} (hd : decode (zcc S) pc = .ok (.astore_n 3, 1)) (hp : zprev (b0 :: b1 :: b2 :: c :: L) 3 = true) (hn : 3 < znL S) (kk : AV l G S wc post (pc + 1) (b0 :: b1 :: b2 :: some (.ref x) :: L) (st) ws) : AV l G S wc post (pc) (b0 :: b1 :: b2 :: c :: L) (.ref x :: st) ws := g_astore_n (i := 3) hp hn hd rfl kk
theorem a_iinc_3 {b0 b1 b2 : Option Value} {n : Int} {x cst : Int32} (hd : decode (zcc S) pc = .ok (.iinc 3 n, 3)) (hp : zprev (b0 :: b1 :: b2 :: some (.int x) :: L) 3 = true) (hn : 3 < znL S) (hv : Int32.ofInt n = cst) (kk : AV l G S wc post (pc + 3) (b0 :: b1 :: b2 :: some (.int (x + cst)) :: L) (st) ws) : AV l G S wc post (pc) (b0 :: b1 :: b2 :: some (.int x) :: L) (st) ws := g_iinc (i := 3) rfl hp hn hd (by rw [hv]) kk
theorem a_iload_4 {b0 b1 b2 b3 : Option Value} {x : Int32} (hd : decode (zcc S) pc = .ok (.iload 4, 2)) (kk : AV l G S wc post (pc + 2) (b0 :: b1 :: b2 :: b3 :: some (.int x) :: L) (.int x :: st) ws) : AV l G S wc post (pc) (b0 :: b1 :: b2 :: b3 :: some (.int x) :: L) (st) ws := g_iload (i := 4) rfl hd kk
theorem a_istore_4 {b0 b1 b2 b3 : Option Value} {c : Option Value} {x : Int32} (hd : decode (zcc S) pc = .ok (.istore 4, 2)) (hp : zprev (b0 :: b1 :: b2 :: b3 :: c :: L) 4 = true) (hn : 4 < znL S) (kk : AV l G S wc post (pc + 2) (b0 :: b1 :: b2 :: b3 :: some (.int x) :: L) (st) ws) : AV l G S wc post (pc) (b0 :: b1 :: b2 :: b3 :: c :: L) (.int x :: st) ws := g_istore (i := 4) hp hn hd kk
theorem a_lload_4 {b0 b1 b2 b3 : Option Value} {x : Int64} (hd : decode (zcc S) pc = .ok (.lload 4, 2)) (kk : AV l G S wc post (pc + 2) (b0 :: b1 :: b2 :: b3 :: some (.long x) :: L) (.long x :: st) ws) : AV l G S wc post (pc) (b0 :: b1 :: b2 :: b3 :: some (.long x) :: L) (st) ws := g_lload (i := 4) rfl hd kk
theorem a_lstore_4 {b0 b1 b2 b3 : Option Value} {c d : Option Value} {x : Int64} (hd : decode (zcc S) pc = .ok (.lstore 4, 2)) (hp : zprev (b0 :: b1 :: b2 :: b3 :: c :: d :: L) 4 = true) (hn : 4 + 1 < znL S) (kk : AV l G S wc post (pc + 2) (b0 :: b1 :: b2 :: b3 :: some (.long x) :: none :: L) (st) ws) : AV l G S wc post (pc) (b0 :: b1 :: b2 :: b3 :: c :: d :: L) (.long x :: st) ws := g_lstore (i := 4) hp hn hd kk
theorem a_aload_4 {b0 b1 b2 b3 : Option Value} {x : Nat} (hd : decode (zcc S) pc = .ok (.aload 4, 2)) (kk : AV l G S wc post (pc + 2) (b0 :: b1 :: b2 :: b3 :: some (.ref x) :: L) (.ref x :: st) ws) : AV l G S wc post (pc) (b0 :: b1 :: b2 :: b3 :: some (.ref x) :: L) (st) ws := g_aload (i := 4) rfl hd kk
theorem a_astore_4 {b0 b1 b2 b3 : Option Value} {c : Option Value} {x : Nat} (hd : decode (zcc S) pc = .ok (.astore 4, 2)) (hp : zprev (b0 :: b1 :: b2 :: b3 :: c :: L) 4 = true) (hn : 4 < znL S) (kk : AV l G S wc post (pc + 2) (b0 :: b1 :: b2 :: b3 :: some (.ref x) :: L) (st) ws) : AV l G S wc post (pc) (b0 :: b1 :: b2 :: b3 :: c :: L) (.ref x :: st) ws := g_astore (i := 4) hp hn hd kk
theorem a_iinc_4 {b0 b1 b2 b3 : Option Value} {n : Int} {x cst : Int32} (hd : decode (zcc S) pc = .ok (.iinc 4 n, 3)) (hp : zprev (b0 :: b1 :: b2 :: b3 :: some (.int x) :: L) 4 = true) (hn : 4 < znL S) (hv : Int32.ofInt n = cst) (kk : AV l G S wc post (pc + 3) (b0 :: b1 :: b2 :: b3 :: some (.int (x + cst)) :: L) (st) ws) : AV l G S wc post (pc) (b0 :: b1 :: b2 :: b3 :: some (.int x) :: L) (st) ws := g_iinc (i := 4) rfl hp hn hd (by rw [hv]) kk
theorem a_iload_5 {b0 b1 b2 b3 b4 : Option Value} {x : Int32} (hd : decode (zcc S) pc = .ok (.iload 5, 2)) (kk : AV l G S wc post (pc + 2) (b0 :: b1 :: b2 :: b3 :: b4 :: some (.int x) :: L) (.int x :: st) ws) : AV l G S wc post (pc) (b0 :: b1 :: b2 :: b3 :: b4 :: some (.int x) :: L) (st) ws := g_iload (i := 5) rfl hd kk
theorem a_istore_5 {b0 b1 b2 b3 b4 : Option Value} {c : Option Value} {x : Int32} (hd : decode (zcc S) pc = .ok (.istore 5, 2)) (hp : zprev (b0 :: b1 :: b2 :: b3 :: b4 :: c :: L) 5 = true) (hn : 5 < znL S) (kk : AV l G S wc post (pc + 2) (b0 :: b1 :: b2 :: b3 :: b4 :: some (.int x) :: L) (st) ws) : AV l G S wc post (pc) (b0 :: b1 :: b2 :: b3 :: b4 :: c :: L) (.int x :: st) ws := g_istore (i := 5) hp hn hd kk
theorem a_lload_5 {b0 b1 b2 b3 b4 : Option Value} {x : Int64} (hd : decode (zcc S) pc = .ok (.lload 5, 2)) (kk : AV l G S wc post (pc + 2) (b0 :: b1 :: b2 :: b3 :: b4 :: some (.long x) :: L) (.long x :: st) ws) : AV l G S wc post (pc) (b0 :: b1 :: b2 :: b3 :: b4 :: some (.long x) :: L) (st) ws := g_lload (i := 5) rfl hd kk
theorem a_lstore_5 {b0 b1 b2 b3 b4 : Option Value} {c d : Option Value} {x : Int64} (hd : decode (zcc S) pc = .ok (.lstore 5, 2)) (hp : zprev (b0 :: b1 :: b2 :: b3 :: b4 :: c :: d :: L) 5 = true) (hn : 5 + 1 < znL S) (kk : AV l G S wc post (pc + 2) (b0 :: b1 :: b2 :: b3 :: b4 :: some (.long x) :: none :: L) (st) ws) : AV l G S wc post (pc) (b0 :: b1 :: b2 :: b3 :: b4 :: c :: d :: L) (.long x :: st) ws := g_lstore (i := 5) hp hn hd kk
theorem a_aload_5 {b0 b1 b2 b3 b4 : Option Value} {x : Nat} (hd : decode (zcc S) pc = .ok (.aload 5, 2)) (kk : AV l G S wc post (pc + 2) (b0 :: b1 :: b2 :: b3 :: b4 :: some (.ref x) :: L) (.ref x :: st) ws) : AV l G S wc post (pc) (b0 :: b1 :: b2 :: b3 :: b4 :: some (.ref x) :: L) (st) ws := g_aload (i := 5) rfl hd kk
theorem a_astore_5 {b0 b1 b2 b3 b4 : Option Value} {c : Option Value} {x : Nat} (hd : decode (zcc S) pc = .ok (.astore 5, 2)) (hp : zprev (b0 :: b1 :: b2 :: b3 :: b4 :: c :: L) 5 = true) (hn : 5 < znL S) (kk : AV l G S wc post (pc + 2) (b0 :: b1 :: b2 :: b3 :: b4 :: some (.ref x) :: L) (st) ws) : AV l G S wc post (pc) (b0 :: b1 :: b2 :: b3 :: b4 :: c :: L) (.ref x :: st) ws := g_astore (i := 5) hp hn hd kk
theorem a_iinc_5 {b0 b1 b2 b3 b4 : Option Value} {n : Int} {x cst : Int32} (hd : decode (zcc S) pc = .ok (.iinc 5 n, 3)) (hp : zprev (b0 :: b1 :: b2 :: b3 :: b4 :: some (.int x) :: L) 5 = true) (hn : 5 < znL S) (hv : Int32.ofInt n = cst) (kk : AV l G S wc post (pc + 3) (b0 :: b1 :: b2 :: b3 :: b4 :: some (.int (x + cst)) :: L) (st) ws) : AV l G S wc post (pc) (b0 :: b1 :: b2 :: b3 :: b4 :: some (.int x) :: L) (st) ws := g_iinc (i := 5) rfl hp hn hd (by rw [hv]) kk
theorem a_iload_6 {b0 b1 b2 b3 b4 b5 : Option Value} {x : Int32} (hd : decode (zcc S) pc = .ok (.iload 6, 2)) (kk : AV l G S wc post (pc + 2) (b0 :: b1 :: b2 :: b3 :: b4 :: b5 :: some (.int x) :: L) (.int x :: st) ws) : AV l G S wc post (pc) (b0 :: b1 :: b2 :: b3 :: b4 :: b5 :: some (.int x) :: L) (st) ws := g_iload (i := 6) rfl hd kk
theorem a_istore_6 {b0 b1 b2 b3 b4 b5 : Option Value} {c : Option Value} {x : Int32} (hd : decode (zcc S) pc = .ok (.istore 6, 2)) (hp : zprev (b0 :: b1 :: b2 :: b3 :: b4 :: b5 :: c :: L) 6 = true) (hn : 6 < znL S) (kk : AV l G S wc post (pc + 2) (b0 :: b1 :: b2 :: b3 :: b4 :: b5 :: some (.int x) :: L) (st) ws) : AV l G S wc post (pc) (b0 :: b1 :: b2 :: b3 :: b4 :: b5 :: c :: L) (.int x :: st) ws := g_istore (i := 6) hp hn hd kk
theorem a_lload_6 {b0 b1 b2 b3 b4 b5 : Option Value} {x : Int64} (hd : decode (zcc S) pc = .ok (.lload 6, 2)) (kk : AV l G S wc post (pc + 2) (b0 :: b1 :: b2 :: b3 :: b4 :: b5 :: some (.long x) :: L) (.long x :: st) ws) : AV l G S wc post (pc) (b0 :: b1 :: b2 :: b3 :: b4 :: b5 :: some (.long x) :: L) (st) ws := g_lload (i := 6) rfl hd kk
theorem a_lstore_6 {b0 b1 b2 b3 b4 b5 : Option Value} {c d : Option Value} {x : Int64} (hd : decode (zcc S) pc = .ok (.lstore 6, 2)) (hp : zprev (b0 :: b1 :: b2 :: b3 :: b4 :: b5 :: c :: d :: L) 6 = true) (hn : 6 + 1 < znL S) (kk : AV l G S wc post (pc + 2) (b0 :: b1 :: b2 :: b3 :: b4 :: b5 :: some (.long x) :: none :: L) (st) ws) : AV l G S wc post (pc) (b0 :: b1 :: b2 :: b3 :: b4 :: b5 :: c :: d :: L) (.long x :: st) ws := g_lstore (i := 6) hp hn hd kk
theorem a_aload_6 {b0 b1 b2 b3 b4 b5 : Option Value} {x : Nat} (hd : decode (zcc S) pc = .ok (.aload 6, 2)) (kk : AV l G S wc post (pc + 2) (b0 :: b1 :: b2 :: b3 :: b4 :: b5 :: some (.ref x) :: L) (.ref x :: st) ws) : AV l G S wc post (pc) (b0 :: b1 :: b2 :: b3 :: b4 :: b5 :: some (.ref x) :: L) (st) ws := g_aload (i := 6) rfl hd kk
theorem a_astore_6 {b0 b1 b2 b3 b4 b5 : Option Value} {c : Option Value} {x : Nat} (hd : decode (zcc S) pc = .ok (.astore 6, 2)) (hp : zprev (b0 :: b1 :: b2 :: b3 :: b4 :: b5 :: c :: L) 6 = true) (hn : 6 < znL S) (kk : AV l G S wc post (pc + 2) (b0 :: b1 :: b2 :: b3 :: b4 :: b5 :: some (.ref x) :: L) (st) ws) : AV l G S wc post (pc) (b0 :: b1 :: b2 :: b3 :: b4 :: b5 :: c :: L) (.ref x :: st) ws := g_astore (i := 6) hp hn hd kk
theorem a_iinc_6 {b0 b1 b2 b3 b4 b5 : Option Value} {n : Int} {x cst : Int32} (hd : decode (zcc S) pc = .ok (.iinc 6 n, 3)) (hp : zprev (b0 :: b1 :: b2 :: b3 :: b4 :: b5 :: some (.int x) :: L) 6 = true) (hn : 6 < znL S) (hv : Int32.ofInt n = cst) (kk : AV l G S wc post (pc + 3) (b0 :: b1 :: b2 :: b3 :: b4 :: b5 :: some (.int (x + cst)) :: L) (st) ws) : AV l G S wc post (pc) (b0 :: b1 :: b2 :: b3 :: b4 :: b5 :: some (.int x) :: L) (st) ws := g_iinc (i := 6) rfl hp hn hd (by rw [hv]) kk
theorem a_iload_7 {b0 b1 b2 b3 b4 b5 b6 : Option Value} {x : Int32} (hd : decode (zcc S) pc = .ok (.iload 7, 2)) (kk : AV l G S wc post (pc + 2) (b0 :: b1 :: b2 :: b3 :: b4 :: b5 :: b6 :: some (.int x) :: L) (.int x :: st) ws) : AV l G S wc post (pc) (b0 :: b1 :: b2 :: b3 :: b4 :: b5 :: b6 :: some (.int x) :: L) (st) ws := g_iload (i := 7) rfl hd kk
theorem a_istore_7 {b0 b1 b2 b3 b4 b5 b6 : Option Value} {c : Option Value} {x : Int32} (hd : decode (zcc S) pc = .ok (.istore 7, 2)) (hp : zprev (b0 :: b1 :: b2 :: b3 :: b4 :: b5 :: b6 :: c :: L) 7 = true) (hn : 7 < znL S) (kk : AV l G S wc post (pc + 2) (b0 :: b1 :: b2 :: b3 :: b4 :: b5 :: b6 :: some (.int x) :: L) (st) ws) : AV l G S wc post (pc) (b0 :: b1 :: b2 :: b3 :: b4 :: b5 :: b6 :: c :: L) (.int x :: st) ws := g_istore (i := 7) hp hn hd kk
theorem a_lload_7 {b0 b1 b2 b3 b4 b5 b6 : Option Value} {x : Int64} (hd : decode (zcc S) pc = .ok (.lload 7, 2)) (kk : AV l G S wc post (pc + 2) (b0 :: b1 :: b2 :: b3 :: b4 :: b5 :: b6 :: some (.long x) :: L) (.long x :: st) ws) : AV l G S wc post (pc) (b0 :: b1 :: b2 :: b3 :: b4 :: b5 :: b6 :: some (.long x) :: L) (st) ws := g_lload (i := 7) rfl hd kk
theorem a_lstore_7 {b0 b1 b2 b3 b4 b5 b6 : Option Value} {c d : Option Value} {x : Int64} (hd : decode (zcc S) pc = .ok (.lstore 7, 2)) (hp : zprev (b0 :: b1 :: b2 :: b3 :: b4 :: b5 :: b6 :: c :: d :: L) 7 = true) (hn : 7 + 1 < znL S) (kk : AV l G S wc post (pc + 2) (b0 :: b1 :: b2 :: b3 :: b4 :: b5 :: b6 :: some (.long x) :: none :: L) (st) ws) : AV l G S wc post (pc) (b0 :: b1 :: b2 :: b3 :: b4 :: b5 :: b6 :: c :: d :: L) (.long x :: st) ws := g_lstore (i := 7) hp hn hd kk
theorem a_aload_7 {b0 b1 b2 b3 b4 b5 b6 : Option Value} {x : Nat} (hd : decode (zcc S) pc = .ok (.aload 7, 2)) (kk : AV l G S wc post (pc + 2) (b0 :: b1 :: b2 :: b3 :: b4 :: b5 :: b6 :: some (.ref x) :: L) (.ref x :: st) ws) : AV l G S wc post (pc) (b0 :: b1 :: b2 :: b3 :: b4 :: b5 :: b6 :: some (.ref x) :: L) (st) ws := g_aload (i := 7) rfl hd kk
theorem a_astore_7 {b0 b1 b2 b3 b4 b5 b6 : Option Value} {c : Option Value} {x : Nat} (hd : decode (zcc S) pc = .ok (.astore 7, 2)) (hp : zprev (b0 :: b1 :: b2 :: b3 :: b4 :: b5 :: b6 :: c :: L) 7 = true) (hn : 7 < znL S) (kk : AV l G S wc post (pc + 2) (b0 :: b1 :: b2 :: b3 :: b4 :: b5 :: b6 :: some (.ref x) :: L) (st) ws) : AV l G S wc post (pc) (b0 :: b1 :: b2 :: b3 :: b4 :: b5 :: b6 :: c :: L) (.ref x :: st) ws := g_astore (i := 7) hp hn hd kk
theorem a_iinc_7 {b0 b1 b2 b3 b4 b5 b6 : Option Value} {n : Int} {x cst : Int32} (hd : decode (zcc S) pc = .ok (.iinc 7 n, 3)) (hp : zprev (b0 :: b1 :: b2 :: b3 :: b4 :: b5 :: b6 :: some (.int x) :: L) 7 = true) (hn : 7 < znL S) (hv : Int32.ofInt n = cst) (kk : AV l G S wc post (pc + 3) (b0 :: b1 :: b2 :: b3 :: b4 :: b5 :: b6 :: some (.int (x + cst)) :: L) (st) ws) : AV l G S wc post (pc) (b0 :: b1 :: b2 :: b3 :: b4 :: b5 :: b6 :: some (.int x) :: L) (st) ws := g_iinc (i := 7) rfl hp hn hd (by rw [hv]) kk
theorem a_iload_8 {b0 b1 b2 b3 b4 b5 b6 b7 : Option Value} {x : Int32} (hd : decode (zcc S) pc = .ok (.iload 8, 2)) (kk : AV l G S wc post (pc + 2) (b0 :: b1 :: b2 :: b3 :: b4 :: b5 :: b6 :: b7 :: some (.int x) :: L) (.int x :: st) ws) : AV l G S wc post (pc) (b0 :: b1 :: b2 :: b3 :: b4 :: b5 :: b6 :: b7 :: some (.int x) :: L) (st) ws := g_iload (i := 8) rfl hd kk
theorem a_istore_8 {b0 b1 b2 b3 b4 b5 b6 b7 : Option Value} {c : Option Value} {x : Int32} (hd : decode (zcc S) pc = .ok (.istore 8, 2)) (hp : zprev (b0 :: b1 :: b2 :: b3 :: b4 :: b5 :: b6 :: b7 :: c :: L) 8 = true) (hn : 8 < znL S) (kk : AV l G S wc post (pc + 2) (b0 :: b1 :: b2 :: b3 :: b4 :: b5 :: b6 :: b7 :: some (.int x) :: L) (st) ws) : AV l G S wc post (pc) (b0 :: b1 :: b2 :: b3 :: b4 :: b5 :: b6 :: b7 :: c :: L) (.int x :: st) ws := g_istore (i := 8) hp hn hd kk
theorem a_lload_8 {b0 b1 b2 b3 b4 b5 b6 b7 : Option Value} {x : Int64} (hd : decode (zcc S) pc = .ok (.lload 8, 2)) (kk : AV l G S wc post (pc + 2) (b0 :: b1 :: b2 :: b3 :: b4 :: b5 :: b6 :: b7 :: some (.long x) :: L) (.long x :: st) ws) : AV l G S wc post (pc) (b0 :: b1 :: b2 :: b3 :: b4 :: b5 :: b6 :: b7 :: some (.long x) :: L) (st) ws := g_lload (i := 8) rfl hd kk
theorem a_lstore_8 {b0 b1 b2 b3 b4 b5 b6 b7 : Option Value} {c d : Option Value} {x : Int64} (hd : decode (zcc S) pc = .ok (.lstore 8, 2)) (hp : zprev (b0 :: b1 :: b2 :: b3 :: b4 :: b5 :: b6 :: b7 :: c :: d :: L) 8 = true) (hn : 8 + 1 < znL S) (kk : AV l G S wc post (pc + 2) (b0 :: b1 :: b2 :: b3 :: b4 :: b5 :: b6 :: b7 :: some (.long x) :: none :: L) (st) ws) : AV l G S wc post (pc) (b0 :: b1 :: b2 :: b3 :: b4 :: b5 :: b6 :: b7 :: c :: d :: L) (.long x :: st) ws := g_lstore (i := 8) hp hn hd kk
theorem a_aload_8 {b0 b1 b2 b3 b4 b5 b6 b7 : Option Value} {x : Nat} (hd : decode (zcc S) pc = .ok (.aload 8, 2)) (kk : AV l G S wc post (pc + 2) (b0 :: b1 :: b2 :: b3 :: b4 :: b5 :: b6 :: b7 :: some (.ref x) :: L) (.ref x :: st) ws) : AV l G S wc post (pc) (b0 :: b1 :: b2 :: b3 :: b4 :: b5 :: b6 :: b7 :: some (.ref x) :: L) (st) ws := g_aload (i := 8) rfl hd kk
theorem a_astore_8 {b0 b1 b2 b3 b4 b5 b6 b7 : Option Value} {c : Option Value} {x : Nat} (hd : decode (zcc S) pc = .ok (.astore 8, 2)) (hp : zprev (b0 :: b1 :: b2 :: b3 :: b4 :: b5 :: b6 :: b7 :: c :: L) 8 = true) (hn : 8 < znL S) (kk : AV l G S wc post (pc + 2) (b0 :: b1 :: b2 :: b3 :: b4 :: b5 :: b6 :: b7 :: some (.ref x) :: L) (st) ws) : AV l G S wc post (pc) (b0 :: b1 :: b2 :: b3 :: b4 :: b5 :: b6 :: b7 :: c :: L) (.ref x :: st) ws := g_astore (i := 8) hp hn hd kk
theorem a_iinc_8 {b0 b1 b2 b3 b4 b5 b6 b7 : Option Value} {n : Int} {x cst : Int32} (hd : decode (zcc S) pc = .ok (.iinc 8 n, 3)) (hp : zprev (b0 :: b1 :: b2 :: b3 :: b4 :: b5 :: b6 :: b7 :: some (.int x) :: L) 8 = true) (hn : 8 < znL S) (hv : Int32.ofInt n = cst) (kk : AV l G S wc post (pc + 3) (b0 :: b1 :: b2 :: b3 :: b4 :: b5 :: b6 :: b7 :: some (.int (x + cst)) :: L) (st) ws) : AV l G S wc post (pc) (b0 :: b1 :: b2 :: b3 :: b4 :: b5 :: b6 :: b7 :: some (.int x) :: L) (st) ws := g_iinc (i := 8) rfl hp hn hd (by rw [hv]) kk
theorem a_iload_9 {b0 b1 b2 b3 b4 b5 b6 b7 b8 : Option Value} {x : Int32} (hd : decode (zcc S) pc = .ok (.iload 9, 2)) (kk : AV l G S wc post (pc + 2) (b0 :: b1 :: b2 :: b3 :: b4 :: b5 :: b6 :: b7 :: b8 :: some (.int x) :: L) (.int x :: st) ws) : AV l G S wc post (pc) (b0 :: b1 :: b2 :: b3 :: b4 :: b5 :: b6 :: b7 :: b8 :: some (.int x) :: L) (st) ws := g_iload (i := 9) rfl hd kk
theorem a_istore_9 {b0 b1 b2 b3 b4 b5 b6 b7 b8 : Option Value} {c : Option Value} {x : Int32} (hd : decode (zcc S) pc = .ok (.istore 9, 2)) (hp : zprev (b0 :: b1 :: b2 :: b3 :: b4 :: b5 :: b6 :: b7 :: b8 :: c :: L) 9 = true) (hn : 9 < znL S) (kk : AV l G S wc post (pc + 2) (b0 :: b1 :: b2 :: b3 :: b4 :: b5 :: b6 :: b7 :: b8 :: some (.int x) :: L) (st) ws) : AV l G S wc post (pc) (b0 :: b1 :: b2 :: b3 :: b4 :: b5 :: b6 :: b7 :: b8 :: c :: L) (.int x :: st) ws := g_istore (i := 9) hp hn hd kk
theorem a_lload_9 {b0 b1 b2 b3 b4 b5 b6 b7 b8 : Option Value} {x : Int64} (hd : decode (zcc S) pc = .ok (.lload 9, 2)) (kk : AV l G S wc post (pc + 2) (b0 :: b1 :: b2 :: b3 :: b4 :: b5 :: b6 :: b7 :: b8 :: some (.long x) :: L) (.long x :: st) ws) : AV l G S wc post (pc) (b0 :: b1 :: b2 :: b3 :: b4 :: b5 :: b6 :: b7 :: b8 :: some (.long x) :: L) (st) ws := g_lload (i := 9) rfl hd kk
theorem a_lstore_9 {b0 b1 b2 b3 b4 b5 b6 b7 b8 : Option Value} {c d : Option Value} {x : Int64} (hd : decode (zcc S) pc = .ok (.lstore 9, 2)) (hp : zprev (b0 :: b1 :: b2 :: b3 :: b4 :: b5 :: b6 :: b7 :: b8 :: c :: d :: L) 9 = true) (hn : 9 + 1 < znL S) (kk : AV l G S wc post (pc + 2) (b0 :: b1 :: b2 :: b3 :: b4 :: b5 :: b6 :: b7 :: b8 :: some (.long x) :: none :: L) (st) ws) : AV l G S wc post (pc) (b0 :: b1 :: b2 :: b3 :: b4 :: b5 :: b6 :: b7 :: b8 :: c :: d :: L) (.long x :: st) ws := g_lstore (i := 9) hp hn hd kk
theorem a_aload_9 {b0 b1 b2 b3 b4 b5 b6 b7 b8 : Option Value} {x : Nat} (hd : decode (zcc S) pc = .ok (.aload 9, 2)) (kk : AV l G S wc post (pc + 2) (b0 :: b1 :: b2 :: b3 :: b4 :: b5 :: b6 :: b7 :: b8 :: some (.ref x) :: L) (.ref x :: st) ws) : AV l G S wc post (pc) (b0 :: b1 :: b2 :: b3 :: b4 :: b5 :: b6 :: b7 :: b8 :: some (.ref x) :: L) (st) ws := g_aload (i := 9) rfl hd kk
theorem a_astore_9 {b0 b1 b2 b3 b4 b5 b6 b7 b8 : Option Value} {c : Option Value} {x : Nat} (hd : decode (zcc S) pc = .ok (.astore 9, 2)) (hp : zprev (b0 :: b1 :: b2 :: b3 :: b4 :: b5 :: b6 :: b7 :: b8 :: c :: L) 9 = true) (hn : 9 < znL S) (kk : AV l G S wc post (pc + 2) (b0 :: b1 :: b2 :: b3 :: b4 :: b5 :: b6 :: b7 :: b8 :: some (.ref x) :: L) (st) ws) : AV l G S wc post (pc) (b0 :: b1 :: b2 :: b3 :: b4 :: b5 :: b6 :: b7 :: b8 :: c :: L) (.ref x :: st) ws := g_astore (i := 9) hp hn hd kk
theorem a_iinc_9 {b0 b1 b2 b3 b4 b5 b6 b7 b8 : Option Value} {n : Int} {x cst : Int32} (hd : decode (zcc S) pc = .ok (.iinc 9 n, 3)) (hp : zprev (b0 :: b1 :: b2 :: b3 :: b4 :: b5 :: b6 :: b7 :: b8 :: some (.int x) :: L) 9 = true) (hn : 9 < znL S) (hv : Int32.ofInt n = cst) (kk : AV l G S wc post (pc + 3) (b0 :: b1 :: b2 :: b3 :: b4 :: b5 :: b6 :: b7 :: b8 :: some (.int (x + cst)) :: L) (st) ws) : AV l G S wc post (pc) (b0 :: b1 :: b2 :: b3 :: b4 :: b5 :: b6 :: b7 :: b8 :: some (.int x) :: L) (st) ws := g_iinc (i := 9) rfl hp hn hd (by rw [hv]) kk
theorem a_iload_10 {b0 b1 b2 b3 b4 b5 b6 b7 b8 b9 : Option Value} {x : Int32} (hd : decode (zcc S) pc = .ok (.iload 10, 2)) (kk : AV l G S wc post (pc + 2) (b0 :: b1 :: b2 :: b3 :: b4 :: b5 :: b6 :: b7 :: b8 :: b9 :: some (.int x) :: L) (.int x :: st) ws) : AV l G S wc post (pc) (b0 :: b1 :: b2 :: b3 :: b4 :: b5 :: b6 :: b7 :: b8 :: b9 :: some (.int x) :: L) (st) ws := g_iload (i := 10) rfl hd kk
theorem a_istore_10 {b0 b1 b2 b3 b4 b5 b6 b7 b8 b9 : Option Value} {c : Option Value} {x : Int32} (hd : decode (zcc S) pc = .ok (.istore 10, 2)) (hp : zprev (b0 :: b1 :: b2 :: b3 :: b4 :: b5 :: b6 :: b7 :: b8 :: b9 :: c :: L) 10 = true) (hn : 10 < znL S) (kk : AV l G S wc post (pc + 2) (b0 :: b1 :: b2 :: b3 :: b4 :: b5 :: b6 :: b7 :: b8 :: b9 :: some (.int x) :: L) (st) ws) : AV l G S wc post (pc) (b0 :: b1 :: b2 :: b3 :: b4 :: b5 :: b6 :: b7 :: b8 :: b9 :: c :: L) (.int x :: st) ws := g_istore (i := 10) hp hn hd kk
theorem a_lload_10 {b0 b1 b2 b3 b4 b5 b6 b7 b8 b9 : Option Value} {x : Int64} (hd : decode (zcc S) pc = .ok (.lload 10, 2)) (kk : AV l G S wc post (pc + 2) (b0 :: b1 :: b2 :: b3 :: b4 :: b5 :: b6 :: b7 :: b8 :: b9 :: some (.long x) :: L) (.long x :: st) ws) : AV l G S wc post (pc) (b0 :: b1 :: b2 :: b3 :: b4 :: b5 :: b6 :: b7 :: b8 :: b9 :: some (.long x) :: L) (st) ws := g_lload (i := 10) rfl hd kk
theorem a_lstore_10 {b0 b1 b2 b3 b4 b5 b6 b7 b8 b9 : Option Value} {c d : Option Value} {x : Int64} (hd : decode (zcc S) pc = .ok (.lstore 10, 2)) (hp : zprev (b0 :: b1 :: b2 :: b3 :: b4 :: b5 :: b6 :: b7 :: b8 :: b9 :: c :: d :: L) 10 = true) (hn : 10 + 1 < znL S) (kk : AV l G S wc post (pc + 2) (b0 :: b1 :: b2 :: b3 :: b4 :: b5 :: b6 :: b7 :: b8 :: b9 :: some (.long x) :: none :: L) (st) ws) : AV l G S wc post (pc) (b0 :: b1 :: b2 :: b3 :: b4 :: b5 :: b6 :: b7 :: b8 :: b9 :: c :: d :: L) (.long x :: st) ws := g_lstore (i := 10) hp hn hd kk
theorem a_aload_10 {b0 b1 b2 b3 b4 b5 b6 b7 b8 b9 : Option Value} {x : Nat} (hd : decode (zcc S) pc = .ok (.aload 10, 2)) (kk : AV l G S wc post (pc + 2) (b0 :: b1 :: b2 :: b3 :: b4 :: b5 :: b6 :: b7 :: b8 :: b9 :: some (.ref x) :: L) (.ref x :: st) ws) : AV l G S wc post (pc) (b0 :: b1 :: b2 :: b3 :: b4 :: b5 :: b6 :: b7 :: b8 :: b9 :: some (.ref x) :: L) (st) ws := g_aload (i := 10) rfl hd kk
theorem a_astore_10 {b0 b1 b2 b3 b4 b5 b6 b7 b8 b9 : Option Value} {c : Option Value} {x : Nat} (hd : decode (zcc S) pc = .ok (.astore 10, 2)) (hp : zprev (b0 :: b1 :: b2 :: b3 :: b4 :: b5 :: b6 :: b7 :: b8 :: b9 :: c :: L) 10 = true) (hn : 10 < znL S) (kk : AV l G S wc post (pc + 2) (b0 :: b1 :: b2 :: b3 :: b4 :: b5 :: b6 :: b7 :: b8 :: b9 :: some (.ref x) :: L) (st) ws) : AV l G S wc post (pc) (b0 :: b1 :: b2 :: b3 :: b4 :: b5 :: b6 :: b7 :: b8 :: b9 :: c :: L) (.ref x :: st) ws := g_astore (i := 10) hp hn hd kk
theorem a_iinc_10 {b0 b1 b2 b3 b4 b5 b6 b7 b8 b9 : Option Value} {n : Int} {x cst : Int32} (hd : decode (zcc S) pc = .ok (.iinc 10 n, 3)) (hp : zprev (b0 :: b1 :: b2 :: b3 :: b4 :: b5 :: b6 :: b7 :: b8 :: b9 :: some (.int x) :: L) 10 = true) (hn : 10 < znL S) (hv : Int32.ofInt n = cst) (kk : AV l G S wc post (pc + 3) (b0 :: b1 :: b2 :: b3 :: b4 :: b5 :: b6 :: b7 :: b8 :: b9 :: some (.int (x + cst)) :: L) (st) ws) : AV l G S wc post (pc) (b0 :: b1 :: b2 :: b3 :: b4 :: b5 :: b6 :: b7 :: b8 :: b9 :: some (.int x) :: L) (st) ws := g_iinc (i := 10) rfl hp hn hd (by rw [hv]) kk
theorem a_iload_11 {b0 b1 b2 b3 b4 b5 b6 b7 b8 b9 b10 : Option Value} {x : Int32} (hd : decode (zcc S) pc = .ok (.iload 11, 2)) (kk : AV l G S wc post (pc + 2) (b0 :: b1 :: b2 :: b3 :: b4 :: b5 :: b6 :: b7 :: b8 :: b9 :: b10 :: some (.int x) :: L) (.int x :: st) ws) : AV l G S wc post (pc) (b0 :: b1 :: b2 :: b3 :: b4 :: b5 :: b6 :: b7 :: b8 :: b9 :: b10 :: some (.int x) :: L) (st) ws := g_iload (i := 11) rfl hd kk
theorem a_istore_11 {b0 b1 b2 b3 b4 b5 b6 b7 b8 b9 b10 : Option Value} {c : Option Value} {x : Int32} (hd : decode (zcc S) pc = .ok (.istore 11, 2)) (hp : zprev (b0 :: b1 :: b2 :: b3 :: b4 :: b5 :: b6 :: b7 :: b8 :: b9 :: b10 :: c :: L) 11 = true) (hn : 11 < znL S) (kk : AV l G S wc post (pc + 2) (b0 :: b1 :: b2 :: b3 :: b4 :: b5 :: b6 :: b7 :: b8 :: b9 :: b10 :: some (.int x) :: L) (st) ws) : AV l G S wc post (pc) (b0 :: b1 :: b2 :: b3 :: b4 :: b5 :: b6 :: b7 :: b8 :: b9 :: b10 :: c :: L) (.int x :: st) ws := g_istore (i := 11) hp hn hd kk
theorem a_lload_11 {b0 b1 b2 b3 b4 b5 b6 b7 b8 b9 b10 : Option Value} {x : Int64} (hd : decode (zcc S) pc = .ok (.lload 11, 2)) (kk : AV l G S wc post (pc + 2) (b0 :: b1 :: b2 :: b3 :: b4 :: b5 :: b6 :: b7 :: b8 :: b9 :: b10 :: some (.long x) :: L) (.long x :: st) ws) : AV l G S wc post (pc) (b0 :: b1 :: b2 :: b3 :: b4 :: b5 :: b6 :: b7 :: b8 :: b9 :: b10 :: some (.long x) :: L) (st) ws := g_lload (i := 11) rfl hd kk
theorem a_lstore_11 {b0 b1 b2 b3 b4 b5 b6 b7 b8 b9 b10 : Option Value} {c d : Option Value} {x : Int64} (hd : decode (zcc S) pc = .ok (.lstore 11, 2)) (hp : zprev (b0 :: b1 :: b2 :: b3 :: b4 :: b5 :: b6 :: b7 :: b8 :: b9 :: b10 :: c :: d :: L) 11 = true) (hn : 11 + 1 < znL S) (kk : AV l G S wc post (pc + 2) (b0 :: b1 :: b2 :: b3 :: b4 :: b5 :: b6 :: b7 :: b8 :: b9 :: b10 :: some (.long x) :: none :: L) (st) ws) : AV l G S wc post (pc) (b0 :: b1 :: b2 :: b3 :: b4 :: b5 :: b6 :: b7 :: b8 :: b9 :: b10 :: c :: d :: L) (.long x :: st) ws := g_lstore (i := 11) hp hn hd kk
theorem a_aload_11 {b0 b1 b2 b3 b4 b5 b6 b7 b8 b9 b10 : Option Value} {x : Nat} (hd : decode (zcc S) pc = .ok (.aload 11, 2)) (kk : AV l G S wc post (pc + 2) (b0 :: b1 :: b2 :: b3 :: b4 :: b5 :: b6 :: b7 :: b8 :: b9 :: b10 :: some (.ref x) :: L) (.ref x :: st) ws) : AV l G S wc post (pc) (b0 :: b1 :: b2 :: b3 :: b4 :: b5 :: b6 :: b7 :: b8 :: b9 :: b10 :: some (.ref x) :: L) (st) ws := g_aload (i := 11) rfl hd kk
theorem a_astore_11 {b0 b1 b2 b3 b4 b5 b6 b7 b8 b9 b10 : Option Value} {c : Option Value} {x : Nat} (hd : decode (zcc S) pc = .ok (.astore 11, 2)) (hp : zprev (b0 :: b1 :: b2 :: b3 :: b4 :: b5 :: b6 :: b7 :: b8 :: b9 :: b10 :: c :: L) 11 = true) (hn : 11 < znL S) (kk : AV l G S wc post (pc + 2) (b0 :: b1 :: b2 :: b3 :: b4 :: b5 :: b6 :: b7 :: b8 :: b9 :: b10 :: some (.ref x) :: L) (st) ws) : AV l G S wc post (pc) (b0 :: b1 :: b2 :: b3 :: b4 :: b5 :: b6 :: b7 :: b8 :: b9 :: b10 :: c :: L) (.ref x :: st) ws := g_astore (i := 11) hp hn hd kk
theorem a_iinc_11 {b0 b1 b2 b3 b4 b5 b6 b7 b8 b9 b10 : Option Value} {n : Int} {x cst : Int32} (hd : decode (zcc S) pc = .ok (.iinc 11 n, 3)) (hp : zprev (b0 :: b1 :: b2 :: b3 :: b4 :: b5 :: b6 :: b7 :: b8 :: b9 :: b10 :: some (.int x) :: L) 11 = true) (hn : 11 < znL S) (hv : Int32.ofInt n = cst) (kk : AV l G S wc post (pc + 3) (b0 :: b1 :: b2 :: b3 :: b4 :: b5 :: b6 :: b7 :: b8 :: b9 :: b10 :: some (.int (x + cst)) :: L) (st) ws) : AV l G S wc post (pc) (b0 :: b1 :: b2 :: b3 :: b4 :: b5 :: b6 :: b7 :: b8 :: b9 :: b10 :: some (.int x) :: L) (st) ws := g_iinc (i := 11) rfl hp hn hd (by rw [hv]) kk
theorem a_iload_12 {b0 b1 b2 b3 b4 b5 b6 b7 b8 b9 b10 b11 : Option Value} {x : Int32} (hd : decode (zcc S) pc = .ok (.iload 12, 2)) (kk : AV l G S wc post (pc + 2) (b0 :: b1 :: b2 :: b3 :: b4 :: b5 :: b6 :: b7 :: b8 :: b9 :: b10 :: b11 :: some (.int x) :: L) (.int x :: st) ws) : AV l G S wc post (pc) (b0 :: b1 :: b2 :: b3 :: b4 :: b5 :: b6 :: b7 :: b8 :: b9 :: b10 :: b11 :: some (.int x) :: L) (st) ws := g_iload (i := 12) rfl hd kk
theorem a_istore_12 {b0 b1 b2 b3 b4 b5 b6 b7 b8 b9 b10 b11 : Option Value} {c : Option Value} {x : Int32} (hd : decode (zcc S) pc = .ok (.istore 12, 2)) (hp : zprev (b0 :: b1 :: b2 :: b3 :: b4 :: b5 :: b6 :: b7 :: b8 :: b9 :: b10 :: b11 :: c :: L) 12 = true) (hn : 12 < znL S) (kk : AV l G S wc post (pc + 2) (b0 :: b1 :: b2 :: b3 :: b4 :: b5 :: b6 :: b7 :: b8 :: b9 :: b10 :: b11 :: some (.int x) :: L) (st) ws) : AV l G S wc post (pc) (b0 :: b1 :: b2 :: b3 :: b4 :: b5 :: b6 :: b7 :: b8 :: b9 :: b10 :: b11 :: c :: L) (.int x :: st) ws := g_istore (i := 12) hp hn hd kk
theorem a_lload_12 {b0 b1 b2 b3 b4 b5 b6 b7 b8 b9 b10 b11 : Option Value} {x : Int64} (hd : decode (zcc S) pc = .ok (.lload 12, 2)) (kk : AV l G S wc post (pc + 2) (b0 :: b1 :: b2 :: b3 :: b4 :: b5 :: b6 :: b7 :: b8 :: b9 :: b10 :: b11 :: some (.long x) :: L) (.long x :: st) ws) : AV l G S wc post (pc) (b0 :: b1 :: b2 :: b3 :: b4 :: b5 :: b6 :: b7 :: b8 :: b9 :: b10 :: b11 :: some (.long x) :: L) (st) ws := g_lload (i := 12) rfl hd kk
theorem a_lstore_12 {b0 b1 b2 b3 b4 b5 b6 b7 b8 b9 b10 b11 : Option Value} {c d : Option Value} {x : Int64} (hd : decode (zcc S) pc = .ok (.lstore 12, 2)) (hp : zprev (b0 :: b1 :: b2 :: b3 :: b4 :: b5 :: b6 :: b7 :: b8 :: b9 :: b10 :: b11 :: c :: d :: L) 12 = true) (hn : 12 + 1 < znL S) (kk : AV l G S wc post (pc + 2) (b0 :: b1 :: b2 :: b3 :: b4 :: b5 :: b6 :: b7 :: b8 :: b9 :: b10 :: b11 :: some (.long x) :: none :: L) (st) ws) : AV l G S wc post (pc) (b0 :: b1 :: b2 :: b3 :: b4 :: b5 :: b6 :: b7 :: b8 :: b9 :: b10 :: b11 :: c :: d :: L) (.long x :: st) ws := g_lstore (i := 12) hp hn hd kk
theorem a_aload_12 {b0 b1 b2 b3 b4 b5 b6 b7 b8 b9 b10 b11 : Option Value} {x : Nat} (hd : decode (zcc S) pc = .ok (.aload 12, 2)) (kk : AV l G S wc post (pc + 2) (b0 :: b1 :: b2 :: b3 :: b4 :: b5 :: b6 :: b7 :: b8 :: b9 :: b10 :: b11 :: some (.ref x) :: L) (.ref x :: st) ws) : AV l G S wc post (pc) (b0 :: b1 :: b2 :: b3 :: b4 :: b5 :: b6 :: b7 :: b8 :: b9 :: b10 :: b11 :: some (.ref x) :: L) (st) ws := g_aload (i := 12) rfl hd kk
theorem a_astore_12 {b0 b1 b2 b3 b4 b5 b6 b7 b8 b9 b10 b11 : Option Value} {c : Option Value} {x : Nat} (hd : decode (zcc S) pc = .ok (.astore 12, 2)) (hp : zprev (b0 :: b1 :: b2 :: b3 :: b4 :: b5 :: b6 :: b7 :: b8 :: b9 :: b10 :: b11 :: c :: L) 12 = true) (hn : 12 < znL S) (kk : AV l G S wc post (pc + 2) (b0 :: b1 :: b2 :: b3 :: b4 :: b5 :: b6 :: b7 :: b8 :: b9 :: b10 :: b11 :: some (.ref x) :: L) (st) ws) : AV l G S wc post (pc) (b0 :: b1 :: b2 :: b3 :: b4 :: b5 :: b6 :: b7 :: b8 :: b9 :: b10 :: b11 :: c :: L) (.ref x :: st) ws := g_astore (i := 12) hp hn hd kk
theorem a_iinc_12 {b0 b1 b2 b3 b4 b5 b6 b7 b8 b9 b10 b11 : Option Value} {n : Int} {x cst : Int32} (hd : decode (zcc S) pc = .ok (.iinc 12 n, 3)) (hp : zprev (b0 :: b1 :: b2 :: b3 :: b4 :: b5 :: b6 :: b7 :: b8 :: b9 :: b10 :: b11 :: some (.int x) :: L) 12 = true) (hn : 12 < znL S) (hv : Int32.ofInt n = cst) (kk : AV l G S wc post (pc + 3) (b0 :: b1 :: b2 :: b3 :: b4 :: b5 :: b6 :: b7 :: b8 :: b9 :: b10 :: b11 :: some (.int (x + cst)) :: L) (st) ws) : AV l G S wc post (pc) (b0 :: b1 :: b2 :: b3 :: b4 :: b5 :: b6 :: b7 :: b8 :: b9 :: b10 :: b11 :: some (.int x) :: L) (st) ws := g_iinc (i := 12) rfl hp hn hd (by rw [hv]) kk
theorem a_iload_13 {b0 b1 b2 b3 b4 b5 b6 b7 b8 b9 b10 b11 b12 : Option Value} {x : Int32} (hd : decode (zcc S) pc = .ok (.iload 13, 2)) (kk : AV l G S wc post (pc + 2) (b0 :: b1 :: b2 :: b3 :: b4 :: b5 :: b6 :: b7 :: b8 :: b9 :: b10 :: b11 :: b12 :: some (.int x) :: L) (.int x :: st) ws) : AV l G S wc post (pc) (b0 :: b1 :: b2 :: b3 :: b4 :: b5 :: b6 :: b7 :: b8 :: b9 :: b10 :: b11 :: b12 :: some (.int x) :: L) (st) ws := g_iload (i := 13) rfl hd kk
theorem a_istore_13 {b0 b1 b2 b3 b4 b5 b6 b7 b8 b9 b10 b11 b12 : Option Value} {c : Option Value} {x : Int32} (hd : decode (zcc S) pc = .ok (.istore 13, 2)) (hp : zprev (b0 :: b1 :: b2 :: b3 :: b4 :: b5 :: b6 :: b7 :: b8 :: b9 :: b10 :: b11 :: b12 :: c :: L) 13 = true) (hn : 13 < znL S) (kk : AV l G S wc post (pc + 2) (b0 :: b1 :: b2 :: b3 :: b4 :: b5 :: b6 :: b7 :: b8 :: b9 :: b10 :: b11 :: b12 :: some (.int x) :: L) (st) ws) : AV l G S wc post (pc) (b0 :: b1 :: b2 :: b3 :: b4 :: b5 :: b6 :: b7 :: b8 :: b9 :: b10 :: b11 :: b12 :: c :: L) (.int x :: st) ws := g_istore (i := 13) hp hn hd kk
theorem a_lload_13 {b0 b1 b2 b3 b4 b5 b6 b7 b8 b9 b10 b11 b12 : Option Value} {x : Int64} (hd : decode (zcc S) pc = .ok (.lload 13, 2)) (kk : AV l G S wc post (pc + 2) (b0 :: b1 :: b2 :: b3 :: b4 :: b5 :: b6 :: b7 :: b8 :: b9 :: b10 :: b11 :: b12 :: some (.long x) :: L) (.long x :: st) ws) : AV l G S wc post (pc) (b0 :: b1 :: b2 :: b3 :: b4 :: b5 :: b6 :: b7 :: b8 :: b9 :: b10 :: b11 :: b12 :: some (.long x) :: L) (st) ws := g_lload (i := 13) rfl hd kk
theorem a_lstore_13 {b0 b1 b2 b3 b4 b5 b6 b7 b8 b9 b10 b11 b12 : Option Value} {c d : Option Value} {x : Int64} (hd : decode (zcc S) pc = .ok (.lstore 13, 2)) (hp : zprev (b0 :: b1 :: b2 :: b3 :: b4 :: b5 :: b6 :: b7 :: b8 :: b9 :: b10 :: b11 :: b12 :: c :: d :: L) 13 = true) (hn : 13 + 1 < znL S) (kk : AV l G S wc post (pc + 2) (b0 :: b1 :: b2 :: b3 :: b4 :: b5 :: b6 :: b7 :: b8 :: b9 :: b10 :: b11 :: b12 :: some (.long x) :: none :: L) (st) ws) : AV l G S wc post (pc) (b0 :: b1 :: b2 :: b3 :: b4 :: b5 :: b6 :: b7 :: b8 :: b9 :: b10 :: b11 :: b12 :: c :: d :: L) (.long x :: st) ws := g_lstore (i := 13) hp hn hd kk
theorem a_aload_13 {b0 b1 b2 b3 b4 b5 b6 b7 b8 b9 b10 b11 b12 : Option Value} {x : Nat} (hd : decode (zcc S) pc = .ok (.aload 13, 2)) (kk : AV l G S wc post (pc + 2) (b0 :: b1 :: b2 :: b3 :: b4 :: b5 :: b6 :: b7 :: b8 :: b9 :: b10 :: b11 :: b12 :: some (.ref x) :: L) (.ref x :: st) ws) : AV l G S wc post (pc) (b0 :: b1 :: b2 :: b3 :: b4 :: b5 :: b6 :: b7 :: b8 :: b9 :: b10 :: b11 :: b12 :: some (.ref x) :: L) (st) ws := g_aload (i := 13) rfl hd kk
theorem a_astore_13 {b0 b1 b2 b3 b4 b5 b6 b7 b8 b9 b10 b11 b12 : Option Value} {c : Option Value} {x : Nat} (hd : decode (zcc S) pc = .ok (.astore 13, 2)) (hp : zprev (b0 :: b1 :: b2 :: b3 :: b4 :: b5 :: b6 :: b7 :: b8 :: b9 :: b10 :: b11 :: b12 :: c :: L) 13 = true) (hn : 13 < znL S) (kk : AV l G S wc post (pc + 2) (b0 :: b1 :: b2 :: b3 :: b4 :: b5 :: b6 :: b7 :: b8 :: b9 :: b10 :: b11 :: b12 :: some (.ref x) :: L) (st) ws) : AV l G S wc post (pc) (b0 :: b1 :: b2 :: b3 :: b4 :: b5 :: b6 :: b7 :: b8 :: b9 :: b10 :: b11 :: b12 :: c :: L) (.ref x :: st) ws := g_astore (i := 13) hp hn hd kk
theorem a_iinc_13 {b0 b1 b2 b3 b4 b5 b6 b7 b8 b9 b10 b11 b12 : Option Value} {n : Int} {x cst : Int32} (hd : decode (zcc S) pc = .ok (.iinc 13 n, 3)) (hp : zprev (b0 :: b1 :: b2 :: b3 :: b4 :: b5 :: b6 :: b7 :: b8 :: b9 :: b10 :: b11 :: b12 :: some (.int x) :: L) 13 = true) (hn : 13 < znL S) (hv : Int32.ofInt n = cst) (kk : AV l G S wc post (pc + 3) (b0 :: b1 :: b2 :: b3 :: b4 :: b5 :: b6 :: b7 :: b8 :: b9 :: b10 :: b11 :: b12 :: some (.int (x + cst)) :: L) (st) ws) : AV l G S wc post (pc) (b0 :: b1 :: b2 :: b3 :: b4 :: b5 :: b6 :: b7 :: b8 :: b9 :: b10 :: b11 :: b12 :: some (.int x) :: L) (st) ws := g_iinc (i := 13) rfl hp hn hd (by rw [hv]) kk
theorem a_iload_14 {b0 b1 b2 b3 b4 b5 b6 b7 b8 b9 b10 b11 b12 b13 : Option Value} {x : Int32} (hd : decode (zcc S) pc = .ok (.iload 14, 2)) (kk : AV l G S wc post (pc + 2) (b0 :: b1 :: b2 :: b3 :: b4 :: b5 :: b6 :: b7 :: b8 :: b9 :: b10 :: b11 :: b12 :: b13 :: some (.int x) :: L) (.int x :: st) ws) : AV l G S wc post (pc) (b0 :: b1 :: b2 :: b3 :: b4 :: b5 :: b6 :: b7 :: b8 :: b9 :: b10 :: b11 :: b12 :: b13 :: some (.int x) :: L) (st) ws := g_iload (i := 14) rfl hd kk
theorem a_istore_14 {b0 b1 b2 b3 b4 b5 b6 b7 b8 b9 b10 b11 b12 b13 : Option Value} {c : Option Value} {x : Int32} (hd : decode (zcc S) pc = .ok (.istore 14, 2)) (hp : zprev (b0 :: b1 :: b2 :: b3 :: b4 :: b5 :: b6 :: b7 :: b8 :: b9 :: b10 :: b11 :: b12 :: b13 :: c :: L) 14 = true) (hn : 14 < znL S) (kk : AV l G S wc post (pc + 2) (b0 :: b1 :: b2 :: b3 :: b4 :: b5 :: b6 :: b7 :: b8 :: b9 :: b10 :: b11 :: b12 :: b13 :: some (.int x) :: L) (st) ws) : AV l G S wc post (pc) (b0 :: b1 :: b2 :: b3 :: b4 :: b5 :: b6 :: b7 :: b8 :: b9 :: b10 :: b11 :: b12 :: b13 :: c :: L) (.int x :: st) ws := g_istore (i := 14) hp hn hd kk
theorem a_lload_14 {b0 b1 b2 b3 b4 b5 b6 b7 b8 b9 b10 b11 b12 b13 : Option Value} {x : Int64} (hd : decode (zcc S) pc = .ok (.lload 14, 2)) (kk : AV l G S wc post (pc + 2) (b0 :: b1 :: b2 :: b3 :: b4 :: b5 :: b6 :: b7 :: b8 :: b9 :: b10 :: b11 :: b12 :: b13 :: some (.long x) :: L) (.long x :: st) ws) : AV l G S wc post (pc) (b0 :: b1 :: b2 :: b3 :: b4 :: b5 :: b6 :: b7 :: b8 :: b9 :: b10 :: b11 :: b12 :: b13 :: some (.long x) :: L) (st) ws := g_lload (i := 14) rfl hd kk
theorem a_lstore_14 {b0 b1 b2 b3 b4 b5 b6 b7 b8 b9 b10 b11 b12 b13 : Option Value} {c d : Option Value} {x : Int64} (hd : decode (zcc S) pc = .ok (.lstore 14, 2)) (hp : zprev (b0 :: b1 :: b2 :: b3 :: b4 :: b5 :: b6 :: b7 :: b8 :: b9 :: b10 :: b11 :: b12 :: b13 :: c :: d :: L) 14 = true) (hn : 14 + 1 < znL S) (kk : AV l G S wc post (pc + 2) (b0 :: b1 :: b2 :: b3 :: b4 :: b5 :: b6 :: b7 :: b8 :: b9 :: b10 :: b11 :: b12 :: b13 :: some (.long x) :: none :: L) (st) ws) : AV l G S wc post (pc) (b0 :: b1 :: b2 :: b3 :: b4 :: b5 :: b6 :: b7 :: b8 :: b9 :: b10 :: b11 :: b12 :: b13 :: c :: d :: L) (.long x :: st) ws := g_lstore (i := 14) hp hn hd kk
theorem a_aload_14 {b0 b1 b2 b3 b4 b5 b6 b7 b8 b9 b10 b11 b12 b13 : Option Value} {x : Nat} (hd : decode (zcc S) pc = .ok (.aload 14, 2)) (kk : AV l G S wc post (pc + 2) (b0 :: b1 :: b2 :: b3 :: b4 :: b5 :: b6 :: b7 :: b8 :: b9 :: b10 :: b11 :: b12 :: b13 :: some (.ref x) :: L) (.ref x :: st) ws) : AV l G S wc post (pc) (b0 :: b1 :: b2 :: b3 :: b4 :: b5 :: b6 :: b7 :: b8 :: b9 :: b10 :: b11 :: b12 :: b13 :: some (.ref x) :: L) (st) ws := g_aload (i := 14) rfl hd kk
theorem a_astore_14 {b0 b1 b2 b3 b4 b5 b6 b7 b8 b9 b10 b11 b12 b13 : Option Value} {c : Option Value} {x : Nat} (hd : decode (zcc S) pc = .ok (.astore 14, 2)) (hp : zprev (b0 :: b1 :: b2 :: b3 :: b4 :: b5 :: b6 :: b7 :: b8 :: b9 :: b10 :: b11 :: b12 :: b13 :: c :: L) 14 = true) (hn : 14 < znL S) (kk : AV l G S wc post (pc + 2) (b0 :: b1 :: b2 :: b3 :: b4 :: b5 :: b6 :: b7 :: b8 :: b9 :: b10 :: b11 :: b12 :: b13 :: some (.ref x) :: L) (st) ws) : AV l G S wc post (pc) (b0 :: b1 :: b2 :: b3 :: b4 :: b5 :: b6 :: b7 :: b8 :: b9 :: b10 :: b11 :: b12 :: b13 :: c :: L) (.ref x :: st) ws := g_astore (i := 14) hp hn hd kk
theorem a_iinc_14 {b0 b1 b2 b3 b4 b5 b6 b7 b8 b9 b10 b11 b12 b13 : Option Value} {n : Int} {x cst : Int32} (hd : decode (zcc S) pc = .ok (.iinc 14 n, 3)) (hp : zprev (b0 :: b1 :: b2 :: b3 :: b4 :: b5 :: b6 :: b7 :: b8 :: b9 :: b10 :: b11 :: b12 :: b13 :: some (.int x) :: L) 14 = true) (hn : 14 < znL S) (hv : Int32.ofInt n = cst) (kk : AV l G S wc post (pc + 3) (b0 :: b1 :: b2 :: b3 :: b4 :: b5 :: b6 :: b7 :: b8 :: b9 :: b10 :: b11 :: b12 :: b13 :: some (.int (x + cst)) :: L) (st) ws) : AV l G S wc post (pc) (b0 :: b1 :: b2 :: b3 :: b4 :: b5 :: b6 :: b7 :: b8 :: b9 :: b10 :: b11 :: b12 :: b13 :: some (.int x) :: L) (st) ws := g_iinc (i := 14) rfl hp hn hd (by rw [hv]) kk
theorem a_iload_15 {b0 b1 b2 b3 b4 b5 b6 b7 b8 b9 b10 b11 b12 b13 b14 : Option Value} {x : Int32} (hd : decode (zcc S) pc = .ok (.iload 15, 2)) (kk : AV l G S wc post (pc + 2) (b0 :: b1 :: b2 :: b3 :: b4 :: b5 :: b6 :: b7 :: b8 :: b9 :: b10 :: b11 :: b12 :: b13 :: b14 :: some (.int x) :: L) (.int x :: st) ws) : AV l G S wc post (pc) (b0 :: b1 :: b2 :: b3 :: b4 :: b5 :: b6 :: b7 :: b8 :: b9 :: b10 :: b11 :: b12 :: b13 :: b14 :: some (.int x) :: L) (st) ws := g_iload (i := 15) rfl hd kk
theorem a_istore_15 {b0 b1 b2 b3 b4 b5 b6 b7 b8 b9 b10 b11 b12 b13 b14 : Option Value} {c : Option Value} {x : Int32} (hd : decode (zcc S) pc = .ok (.istore 15, 2)) (hp : zprev (b0 :: b1 :: b2 :: b3 :: b4 :: b5 :: b6 :: b7 :: b8 :: b9 :: b10 :: b11 :: b12 :: b13 :: b14 :: c :: L) 15 = true) (hn : 15 < znL S) (kk : AV l G S wc post (pc + 2) (b0 :: b1 :: b2 :: b3 :: b4 :: b5 :: b6 :: b7 :: b8 :: b9 :: b10 :: b11 :: b12 :: b13 :: b14 :: some (.int x) :: L) (st) ws) : AV l G S wc post (pc) (b0 :: b1 :: b2 :: b3 :: b4 :: b5 :: b6 :: b7 :: b8 :: b9 :: b10 :: b11 :: b12 :: b13 :: b14 :: c :: L) (.int x :: st) ws := g_istore (i := 15) hp hn hd kk
theorem a_lload_15 {b0 b1 b2 b3 b4 b5 b6 b7 b8 b9 b10 b11 b12 b13 b14 : Option Value} {x : Int64} (hd : decode (zcc S) pc = .ok (.lload 15, 2)) (kk : AV l G S wc post (pc + 2) (b0 :: b1 :: b2 :: b3 :: b4 :: b5 :: b6 :: b7 :: b8 :: b9 :: b10 :: b11 :: b12 :: b13 :: b14 :: some (.long x) :: L) (.long x :: st) ws) : AV l G S wc post (pc) (b0 :: b1 :: b2 :: b3 :: b4 :: b5 :: b6 :: b7 :: b8 :: b9 :: b10 :: b11 :: b12 :: b13 :: b14 :: some (.long x) :: L) (st) ws := g_lload (i := 15) rfl hd kk
theorem a_lstore_15 {b0 b1 b2 b3 b4 b5 b6 b7 b8 b9 b10 b11 b12 b13 b14 : Option Value} {c d : Option Value} {x : Int64} (hd : decode (zcc S) pc = .ok (.lstore 15, 2)) (hp : zprev (b0 :: b1 :: b2 :: b3 :: b4 :: b5 :: b6 :: b7 :: b8 :: b9 :: b10 :: b11 :: b12 :: b13 :: b14 :: c :: d :: L) 15 = true) (hn : 15 + 1 < znL S) (kk : AV l G S wc post (pc + 2) (b0 :: b1 :: b2 :: b3 :: b4 :: b5 :: b6 :: b7 :: b8 :: b9 :: b10 :: b11 :: b12 :: b13 :: b14 :: some (.long x) :: none :: L) (st) ws) : AV l G S wc post (pc) (b0 :: b1 :: b2 :: b3 :: b4 :: b5 :: b6 :: b7 :: b8 :: b9 :: b10 :: b11 :: b12 :: b13 :: b14 :: c :: d :: L) (.long x :: st) ws := g_lstore (i := 15) hp hn hd kk
theorem a_aload_15 {b0 b1 b2 b3 b4 b5 b6 b7 b8 b9 b10 b11 b12 b13 b14 : Option Value} {x : Nat} (hd : decode (zcc S) pc = .ok (.aload 15, 2)) (kk : AV l G S wc post (pc + 2) (b0 :: b1 :: b2 :: b3 :: b4 :: b5 :: b6 :: b7 :: b8 :: b9 :: b10 :: b11 :: b12 :: b13 :: b14 :: some (.ref x) :: L) (.ref x :: st) ws) : AV l G S wc post (pc) (b0 :: b1 :: b2 :: b3 :: b4 :: b5 :: b6 :: b7 :: b8 :: b9 :: b10 :: b11 :: b12 :: b13 :: b14 :: some (.ref x) :: L) (st) ws := g_aload (i := 15) rfl hd kk
theorem a_astore_15 {b0 b1 b2 b3 b4 b5 b6 b7 b8 b9 b10 b11 b12 b13 b14 : Option Value} {c : Option Value} {x : Nat} (hd : decode (zcc S) pc = .ok (.astore 15, 2)) (hp : zprev (b0 :: b1 :: b2 :: b3 :: b4 :: b5 :: b6 :: b7 :: b8 :: b9 :: b10 :: b11 :: b12 :: b13 :: b14 :: c :: L) 15 = true) (hn : 15 < znL S) (kk : AV l G S wc post (pc + 2) (b0 :: b1 :: b2 :: b3 :: b4 :: b5 :: b6 :: b7 :: b8 :: b9 :: b10 :: b11 :: b12 :: b13 :: b14 :: some (.ref x) :: L) (st) ws) : AV l G S wc post (pc) (b0 :: b1 :: b2 :: b3 :: b4 :: b5 :: b6 :: b7 :: b8 :: b9 :: b10 :: b11 :: b12 :: b13 :: b14 :: c :: L) (.ref x :: st) ws := g_astore (i := 15) hp hn hd kk
theorem a_iinc_15 {b0 b1 b2 b3 b4 b5 b6 b7 b8 b9 b10 b11 b12 b13 b14 : Option Value} {n : Int} {x cst : Int32} (hd : decode (zcc S) pc = .ok (.iinc 15 n, 3)) (hp : zprev (b0 :: b1 :: b2 :: b3 :: b4 :: b5 :: b6 :: b7 :: b8 :: b9 :: b10 :: b11 :: b12 :: b13 :: b14 :: some (.int x) :: L) 15 = true) (hn : 15 < znL S) (hv : Int32.ofInt n = cst) (kk : AV l G S wc post (pc + 3) (b0 :: b1 :: b2 :: b3 :: b4 :: b5 :: b6 :: b7 :: b8 :: b9 :: b10 :: b11 :: b12 :: b13 :: b14 :: some (.int (x + cst)) :: L) (st) ws) : AV l G S wc post (pc) (b0 :: b1 :: b2 :: b3 :: b4 :: b5 :: b6 :: b7 :: b8 :: b9 :: b10 :: b11 :: b12 :: b13 :: b14 :: some (.int x) :: L) (st) ws := g_iinc (i := 15) rfl hp hn hd (by rw [hv]) kk
theorem a_iload_16 {b0 b1 b2 b3 b4 b5 b6 b7 b8 b9 b10 b11 b12 b13 b14 b15 : Option Value} {x : Int32} (hd : decode (zcc S) pc = .ok (.iload 16, 2)) (kk : AV l G S wc post (pc + 2) (b0 :: b1 :: b2 :: b3 :: b4 :: b5 :: b6 :: b7 :: b8 :: b9 :: b10 :: b11 :: b12 :: b13 :: b14 :: b15 :: some (.int x) :: L) (.int x :: st) ws) : AV l G S wc post (pc) (b0 :: b1 :: b2 :: b3 :: b4 :: b5 :: b6 :: b7 :: b8 :: b9 :: b10 :: b11 :: b12 :: b13 :: b14 :: b15 :: some (.int x) :: L) (st) ws := g_iload (i := 16) rfl hd kk
theorem a_istore_16 {b0 b1 b2 b3 b4 b5 b6 b7 b8 b9 b10 b11 b12 b13 b14 b15 : Option Value} {c : Option Value} {x : Int32} (hd : decode (zcc S) pc = .ok (.istore 16, 2)) (hp : zprev (b0 :: b1 :: b2 :: b3 :: b4 :: b5 :: b6 :: b7 :: b8 :: b9 :: b10 :: b11 :: b12 :: b13 :: b14 :: b15 :: c :: L) 16 = true) (hn : 16 < znL S) (kk : AV l G S wc post (pc + 2) (b0 :: b1 :: b2 :: b3 :: b4 :: b5 :: b6 :: b7 :: b8 :: b9 :: b10 :: b11 :: b12 :: b13 :: b14 :: b15 :: some (.int x) :: L) (st) ws) : AV l G S wc post (pc) (b0 :: b1 :: b2 :: b3 :: b4 :: b5 :: b6 :: b7 :: b8 :: b9 :: b10 :: b11 :: b12 :: b13 :: b14 :: b15 :: c :: L) (.int x :: st) ws := g_istore (i := 16) hp hn hd kk
theorem a_lload_16 {b0 b1 b2 b3 b4 b5 b6 b7 b8 b9 b10 b11 b12 b13 b14 b15 : Option Value} {x : Int64} (hd : decode (zcc S) pc = .ok (.lload 16, 2)) (kk : AV l G S wc post (pc + 2) (b0 :: b1 :: b2 :: b3 :: b4 :: b5 :: b6 :: b7 :: b8 :: b9 :: b10 :: b11 :: b12 :: b13 :: b14 :: b15 :: some (.long x) :: L) (.long x :: st) ws) : AV l G S wc post (pc) (b0 :: b1 :: b2 :: b3 :: b4 :: b5 :: b6 :: b7 :: b8 :: b9 :: b10 :: b11 :: b12 :: b13 :: b14 :: b15 :: some (.long x) :: L) (st) ws := g_lload (i := 16) rfl hd kk
theorem a_lstore_16 {b0 b1 b2 b3 b4 b5 b6 b7 b8 b9 b10 b11 b12 b13 b14 b15 : Option Value} {c d : Option Value} {x : Int64} (hd : decode (zcc S) pc = .ok (.lstore 16, 2)) (hp : zprev (b0 :: b1 :: b2 :: b3 :: b4 :: b5 :: b6 :: b7 :: b8 :: b9 :: b10 :: b11 :: b12 :: b13 :: b14 :: b15 :: c :: d :: L) 16 = true) (hn : 16 + 1 < znL S) (kk : AV l G S wc post (pc + 2) (b0 :: b1 :: b2 :: b3 :: b4 :: b5 :: b6 :: b7 :: b8 :: b9 :: b10 :: b11 :: b12 :: b13 :: b14 :: b15 :: some (.long x) :: none :: L) (st) ws) : AV l G S wc post (pc) (b0 :: b1 :: b2 :: b3 :: b4 :: b5 :: b6 :: b7 :: b8 :: b9 :: b10 :: b11 :: b12 :: b13 :: b14 :: b15 :: c :: d :: L) (.long x :: st) ws := g_lstore (i := 16) hp hn hd kk
theorem a_aload_16 {b0 b1 b2 b3 b4 b5 b6 b7 b8 b9 b10 b11 b12 b13 b14 b15 : Option Value} {x : Nat} (hd : decode (zcc S) pc = .ok (.aload 16, 2)) (kk : AV l G S wc post (pc + 2) (b0 :: b1 :: b2 :: b3 :: b4 :: b5 :: b6 :: b7 :: b8 :: b9 :: b10 :: b11 :: b12 :: b13 :: b14 :: b15 :: some (.ref x) :: L) (.ref x :: st) ws) : AV l G S wc post (pc) (b0 :: b1 :: b2 :: b3 :: b4 :: b5 :: b6 :: b7 :: b8 :: b9 :: b10 :: b11 :: b12 :: b13 :: b14 :: b15 :: some (.ref x) :: L) (st) ws := g_aload (i := 16) rfl hd kk
theorem a_astore_16 {b0 b1 b2 b3 b4 b5 b6 b7 b8 b9 b10 b11 b12 b13 b14 b15 : Option Value} {c : Option Value} {x : Nat} (hd : decode (zcc S) pc = .ok (.astore 16, 2)) (hp : zprev (b0 :: b1 :: b2 :: b3 :: b4 :: b5 :: b6 :: b7 :: b8 :: b9 :: b10 :: b11 :: b12 :: b13 :: b14 :: b15 :: c :: L) 16 = true) (hn : 16 < znL S) (kk : AV l G S wc post (pc + 2) (b0 :: b1 :: b2 :: b3 :: b4 :: b5 :: b6 :: b7 :: b8 :: b9 :: b10 :: b11 :: b12 :: b13 :: b14 :: b15 :: some (.ref x) :: L) (st) ws) : AV l G S wc post (pc) (b0 :: b1 :: b2 :: b3 :: b4 :: b5 :: b6 :: b7 :: b8 :: b9 :: b10 :: b11 :: b12 :: b13 :: b14 :: b15 :: c :: L) (.ref x :: st) ws := g_astore (i := 16) hp hn hd kk
theorem a_iinc_16 {b0 b1 b2 b3 b4 b5 b6 b7 b8 b9 b10 b11 b12 b13 b14 b15 : Option Value} {n : Int} {x cst : Int32} (hd : decode (zcc S) pc = .ok (.iinc 16 n, 3)) (hp : zprev (b0 :: b1 :: b2 :: b3 :: b4 :: b5 :: b6 :: b7 :: b8 :: b9 :: b10 :: b11 :: b12 :: b13 :: b14 :: b15 :: some (.int x) :: L) 16 = true) (hn : 16 < znL S) (hv : Int32.ofInt n = cst) (kk : AV l G S wc post (pc + 3) (b0 :: b1 :: b2 :: b3 :: b4 :: b5 :: b6 :: b7 :: b8 :: b9 :: b10 :: b11 :: b12 :: b13 :: b14 :: b15 :: some (.int (x + cst)) :: L) (st) ws) : AV l G S wc post (pc) (b0 :: b1 :: b2 :: b3 :: b4 :: b5 :: b6 :: b7 :: b8 :: b9 :: b10 :: b11 :: b12 :: b13 :: b14 :: b15 :: some (.int x) :: L) (st) ws := g_iinc (i := 16) rfl hp hn hd (by rw [hv]) kk
theorem a_iload_17 {b0 b1 b2 b3 b4 b5 b6 b7 b8 b9 b10 b11 b12 b13 b14 b15 b16 : Option Value} {x : Int32} (hd : decode (zcc S) pc = .ok (.iload 17, 2)) (kk : AV l G S wc post (pc + 2) (b0 :: b1 :: b2 :: b3 :: b4 :: b5 :: b6 :: b7 :: b8 :: b9 :: b10 :: b11 :: b12 :: b13 :: b14 :: b15 :: b16 :: some (.int x) :: L) (.int x :: st) ws) : AV l G S wc post (pc) (b0 :: b1 :: b2 :: b3 :: b4 :: b5 :: b6 :: b7 :: b8 :: b9 :: b10 :: b11 :: b12 :: b13 :: b14 :: b15 :: b16 :: some (.int x) :: L) (st) ws := g_iload (i := 17) rfl hd kk
theorem a_istore_17 {b0 b1 b2 b3 b4 b5 b6 b7 b8 b9 b10 b11 b12 b13 b14 b15 b16 : Option Value} {c : Option Value} {x : Int32} (hd : decode (zcc S) pc = .ok (.istore 17, 2)) (hp : zprev (b0 :: b1 :: b2 :: b3 :: b4 :: b5 :: b6 :: b7 :: b8 :: b9 :: b10 :: b11 :: b12 :: b13 :: b14 :: b15 :: b16 :: c :: L) 17 = true) (hn : 17 < znL S) (kk : AV l G S wc post (pc + 2) (b0 :: b1 :: b2 :: b3 :: b4 :: b5 :: b6 :: b7 :: b8 :: b9 :: b10 :: b11 :: b12 :: b13 :: b14 :: b15 :: b16 :: some (.int x) :: L) (st) ws) : AV l G S wc post (pc) (b0 :: b1 :: b2 :: b3 :: b4 :: b5 :: b6 :: b7 :: b8 :: b9 :: b10 :: b11 :: b12 :: b13 :: b14 :: b15 :: b16 :: c :: L) (.int x :: st) ws := g_istore (i := 17) hp hn hd kk
theorem a_lload_17 {b0 b1 b2 b3 b4 b5 b6 b7 b8 b9 b10 b11 b12 b13 b14 b15 b16 : Option Value} {x : Int64} (hd : decode (zcc S) pc = .ok (.lload 17, 2)) (kk : AV l G S wc post (pc + 2) (b0 :: b1 :: b2 :: b3 :: b4 :: b5 :: b6 :: b7 :: b8 :: b9 :: b10 :: b11 :: b12 :: b13 :: b14 :: b15 :: b16 :: some (.long x) :: L) (.long x :: st) ws) : AV l G S wc post (pc) (b0 :: b1 :: b2 :: b3 :: b4 :: b5 :: b6 :: b7 :: b8 :: b9 :: b10 :: b11 :: b12 :: b13 :: b14 :: b15 :: b16 :: some (.long x) :: L) (st) ws := g_lload (i := 17) rfl hd kk
theorem a_lstore_17 {b0 b1 b2 b3 b4 b5 b6 b7 b8 b9 b10 b11 b12 b13 b14 b15 b16 : Option Value} {c d : Option Value} {x : Int64} (hd : decode (zcc S) pc = .ok (.lstore 17, 2)) (hp : zprev (b0 :: b1 :: b2 :: b3 :: b4 :: b5 :: b6 :: b7 :: b8 :: b9 :: b10 :: b11 :: b12 :: b13 :: b14 :: b15 :: b16 :: c :: d :: L) 17 = true) (hn : 17 + 1 < znL S) (kk : AV l G S wc post (pc + 2) (b0 :: b1 :: b2 :: b3 :: b4 :: b5 :: b6 :: b7 :: b8 :: b9 :: b10 :: b11 :: b12 :: b13 :: b14 :: b15 :: b16 :: some (.long x) :: none :: L) (st) ws) : AV l G S wc post (pc) (b0 :: b1 :: b2 :: b3 :: b4 :: b5 :: b6 :: b7 :: b8 :: b9 :: b10 :: b11 :: b12 :: b13 :: b14 :: b15 :: b16 :: c :: d :: L) (.long x :: st) ws := g_lstore (i := 17) hp hn hd kk
theorem a_aload_17 {b0 b1 b2 b3 b4 b5 b6 b7 b8 b9 b10 b11 b12 b13 b14 b15 b16 : Option Value} {x : Nat} (hd : decode (zcc S) pc = .ok (.aload 17, 2)) (kk : AV l G S wc post (pc + 2) (b0 :: b1 :: b2 :: b3 :: b4 :: b5 :: b6 :: b7 :: b8 :: b9 :: b10 :: b11 :: b12 :: b13 :: b14 :: b15 :: b16 :: some (.ref x) :: L) (.ref x :: st) ws) : AV l G S wc post (pc) (b0 :: b1 :: b2 :: b3 :: b4 :: b5 :: b6 :: b7 :: b8 :: b9 :: b10 :: b11 :: b12 :: b13 :: b14 :: b15 :: b16 :: some (.ref x) :: L) (st) ws := g_aload (i := 17) rfl hd kk
theorem a_astore_17 {b0 b1 b2 b3 b4 b5 b6 b7 b8 b9 b10 b11 b12 b13 b14 b15 b16 : Option Value} {c : Option Value} {x : Nat} (hd : decode (zcc S) pc = .ok (.astore 17, 2)) (hp : zprev (b0 :: b1 :: b2 :: b3 :: b4 :: b5 :: b6 :: b7 :: b8 :: b9 :: b10 :: b11 :: b12 :: b13 :: b14 :: b15 :: b16 :: c :: L) 17 = true) (hn : 17 < znL S) (kk : AV l G S wc post (pc + 2) (b0 :: b1 :: b2 :: b3 :: b4 :: b5 :: b6 :: b7 :: b8 :: b9 :: b10 :: b11 :: b12 :: b13 :: b14 :: b15 :: b16 :: some (.ref x) :: L) (st) ws) : AV l G S wc post (pc) (b0 :: b1 :: b2 :: b3 :: b4 :: b5 :: b6 :: b7 :: b8 :: b9 :: b10 :: b11 :: b12 :: b13 :: b14 :: b15 :: b16 :: c :: L) (.ref x :: st) ws := g_astore (i := 17) hp hn hd kk
theorem a_iinc_17 {b0 b1 b2 b3 b4 b5 b6 b7 b8 b9 b10 b11 b12 b13 b14 b15 b16 : Option Value} {n : Int} {x cst : Int32} (hd : decode (zcc S) pc = .ok (.iinc 17 n, 3)) (hp : zprev (b0 :: b1 :: b2 :: b3 :: b4 :: b5 :: b6 :: b7 :: b8 :: b9 :: b10 :: b11 :: b12 :: b13 :: b14 :: b15 :: b16 :: some (.int x) :: L) 17 = true) (hn : 17 < znL S) (hv : Int32.ofInt n = cst) (kk : AV l G S wc post (pc + 3) (b0 :: b1 :: b2 :: b3 :: b4 :: b5 :: b6 :: b7 :: b8 :: b9 :: b10 :: b11 :: b12 :: b13 :: b14 :: b15 :: b16 :: some (.int (x + cst)) :: L) (st) ws) : AV l G S wc post (pc) (b0 :: b1 :: b2 :: b3 :: b4 :: b5 :: b6 :: b7 :: b8 :: b9 :: b10 :: b11 :: b12 :: b13 :: b14 :: b15 :: b16 :: some (.int x) :: L) (st) ws := g_iinc (i := 17) rfl hp hn hd (by rw [hv]) kk
theorem a_iload_18 {b0 b1 b2 b3 b4 b5 b6 b7 b8 b9 b10 b11 b12 b13 b14 b15 b16 b17 : Option Value} {x : Int32} (hd : decode (zcc S) pc = .ok (.iload 18, 2)) (kk : AV l G S wc post (pc + 2) (b0 :: b1 :: b2 :: b3 :: b4 :: b5 :: b6 :: b7 :: b8 :: b9 :: b10 :: b11 :: b12 :: b13 :: b14 :: b15 :: b16 :: b17 :: some (.int x) :: L) (.int x :: st) ws) : AV l G S wc post (pc) (b0 :: b1 :: b2 :: b3 :: b4 :: b5 :: b6 :: b7 :: b8 :: b9 :: b10 :: b11 :: b12 :: b13 :: b14 :: b15 :: b16 :: b17 :: some (.int x) :: L) (st) ws := g_iload (i := 18) rfl hd kk
theorem a_istore_18 {b0 b1 b2 b3 b4 b5 b6 b7 b8 b9 b10 b11 b12 b13 b14 b15 b16 b17 : Option Value} {c : Option Value} {x : Int32} (hd : decode (zcc S) pc = .ok (.istore 18, 2)) (hp : zprev (b0 :: b1 :: b2 :: b3 :: b4 :: b5 :: b6 :: b7 :: b8 :: b9 :: b10 :: b11 :: b12 :: b13 :: b14 :: b15 :: b16 :: b17 :: c :: L) 18 = true) (hn : 18 < znL S) (kk : AV l G S wc post (pc + 2) (b0 :: b1 :: b2 :: b3 :: b4 :: b5 :: b6 :: b7 :: b8 :: b9 :: b10 :: b11 :: b12 :: b13 :: b14 :: b15 :: b16 :: b17 :: some (.int x) :: L) (st) ws) : AV l G S wc post (pc) (b0 :: b1 :: b2 :: b3 :: b4 :: b5 :: b6 :: b7 :: b8 :: b9 :: b10 :: b11 :: b12 :: b13 :: b14 :: b15 :: b16 :: b17 :: c :: L) (.int x :: st) ws := g_istore (i := 18) hp hn hd kk
theorem a_lload_18 {b0 b1 b2 b3 b4 b5 b6 b7 b8 b9 b10 b11 b12 b13 b14 b15 b16 b17 : Option Value} {x : Int64} (hd : decode (zcc S) pc = .ok (.lload 18, 2)) (kk : AV l G S wc post (pc + 2) (b0 :: b1 :: b2 :: b3 :: b4 :: b5 :: b6 :: b7 :: b8 :: b9 :: b10 :: b11 :: b12 :: b13 :: b14 :: b15 :: b16 :: b17 :: some (.long x) :: L) (.long x :: st) ws) : AV l G S wc post (pc) (b0 :: b1 :: b2 :: b3 :: b4 :: b5 :: b6 :: b7 :: b8 :: b9 :: b10 :: b11 :: b12 :: b13 :: b14 :: b15 :: b16 :: b17 :: some (.long x) :: L) (st) ws := g_lload (i := 18) rfl hd kk
theorem a_lstore_18 {b0 b1 b2 b3 b4 b5 b6 b7 b8 b9 b10 b11 b12 b13 b14 b15 b16 b17 : Option Value} {c d : Option Value} {x : Int64} (hd : decode (zcc S) pc = .ok (.lstore 18, 2)) (hp : zprev (b0 :: b1 :: b2 :: b3 :: b4 :: b5 :: b6 :: b7 :: b8 :: b9 :: b10 :: b11 :: b12 :: b13 :: b14 :: b15 :: b16 :: b17 :: c :: d :: L) 18 = true) (hn : 18 + 1 < znL S) (kk : AV l G S wc post (pc + 2) (b0 :: b1 :: b2 :: b3 :: b4 :: b5 :: b6 :: b7 :: b8 :: b9 :: b10 :: b11 :: b12 :: b13 :: b14 :: b15 :: b16 :: b17 :: some (.long x) :: none :: L) (st) ws) : AV l G S wc post (pc) (b0 :: b1 :: b2 :: b3 :: b4 :: b5 :: b6 :: b7 :: b8 :: b9 :: b10 :: b11 :: b12 :: b13 :: b14 :: b15 :: b16 :: b17 :: c :: d :: L) (.long x :: st) ws := g_lstore (i := 18) hp hn hd kk
theorem a_aload_18 {b0 b1 b2 b3 b4 b5 b6 b7 b8 b9 b10 b11 b12 b13 b14 b15 b16 b17 : Option Value} {x : Nat} (hd : decode (zcc S) pc = .ok (.aload 18, 2)) (kk : AV l G S wc post (pc + 2) (b0 :: b1 :: b2 :: b3 :: b4 :: b5 :: b6 :: b7 :: b8 :: b9 :: b10 :: b11 :: b12 :: b13 :: b14 :: b15 :: b16 :: b17 :: some (.ref x) :: L) (.ref x :: st) ws) : AV l G S wc post (pc) (b0 :: b1 :: b2 :: b3 :: b4 :: b5 :: b6 :: b7 :: b8 :: b9 :: b10 :: b11 :: b12 :: b13 :: b14 :: b15 :: b16 :: b17 :: some (.ref x) :: L) (st) ws := g_aload (i := 18) rfl hd kk
theorem a_astore_18 {b0 b1 b2 b3 b4 b5 b6 b7 b8 b9 b10 b11 b12 b13 b14 b15 b16 b17 : Option Value} {c : Option Value} {x : Nat} (hd : decode (zcc S) pc = .ok (.astore 18, 2)) (hp : zprev (b0 :: b1 :: b2 :: b3 :: b4 :: b5 :: b6 :: b7 :: b8 :: b9 :: b10 :: b11 :: b12 :: b13 :: b14 :: b15 :: b16 :: b17 :: c :: L) 18 = true) (hn : 18 < znL S) (kk : AV l G S wc post (pc + 2) (b0 :: b1 :: b2 :: b3 :: b4 :: b5 :: b6 :: b7 :: b8 :: b9 :: b10 :: b11 :: b12 :: b13 :: b14 :: b15 :: b16 :: b17 :: some (.ref x) :: L) (st) ws) : AV l G S wc post (pc) (b0 :: b1 :: b2 :: b3 :: b4 :: b5 :: b6 :: b7 :: b8 :: b9 :: b10 :: b11 :: b12 :: b13 :: b14 :: b15 :: b16 :: b17 :: c :: L) (.ref x :: st) ws := g_astore (i := 18) hp hn hd kk
theorem a_iinc_18 {b0 b1 b2 b3 b4 b5 b6 b7 b8 b9 b10 b11 b12 b13 b14 b15 b16 b17 : Option Value} {n : Int} {x cst : Int32} (hd : decode (zcc S) pc = .ok (.iinc 18 n, 3)) (hp : zprev (b0 :: b1 :: b2 :: b3 :: b4 :: b5 :: b6 :: b7 :: b8 :: b9 :: b10 :: b11 :: b12 :: b13 :: b14 :: b15 :: b16 :: b17 :: some (.int x) :: L) 18 = true) (hn : 18 < znL S) (hv : Int32.ofInt n = cst) (kk : AV l G S wc post (pc + 3) (b0 :: b1 :: b2 :: b3 :: b4 :: b5 :: b6 :: b7 :: b8 :: b9 :: b10 :: b11 :: b12 :: b13 :: b14 :: b15 :: b16 :: b17 :: some (.int (x + cst)) :: L) (st) ws) : AV l G S wc post (pc) (b0 :: b1 :: b2 :: b3 :: b4 :: b5 :: b6 :: b7 :: b8 :: b9 :: b10 :: b11 :: b12 :: b13 :: b14 :: b15 :: b16 :: b17 :: some (.int x) :: L) (st) ws := g_iinc (i := 18) rfl hp hn hd (by rw [hv]) kk
theorem a_iload_19 {b0 b1 b2 b3 b4 b5 b6 b7 b8 b9 b10 b11 b12 b13 b14 b15 b16 b17 b18 : Option Value} {x : Int32} (hd : decode (zcc S) pc = .ok (.iload 19, 2)) (kk : AV l G S wc post (pc + 2) (b0 :: b1 :: b2 :: b3 :: b4 :: b5 :: b6 :: b7 :: b8 :: b9 :: b10 :: b11 :: b12 :: b13 :: b14 :: b15 :: b16 :: b17 :: b18 :: some (.int x) :: L) (.int x :: st) ws) : AV l G S wc post (pc) (b0 :: b1 :: b2 :: b3 :: b4 :: b5 :: b6 :: b7 :: b8 :: b9 :: b10 :: b11 :: b12 :: b13 :: b14 :: b15 :: b16 :: b17 :: b18 :: some (.int x) :: L) (st) ws := g_iload (i := 19) rfl hd kk
theorem a_istore_19 {b0 b1 b2 b3 b4 b5 b6 b7 b8 b9 b10 b11 b12 b13 b14 b15 b16 b17 b18 : Option Value} {c : Option Value} {x : Int32} (hd : decode (zcc S) pc = .ok (.istore 19, 2)) (hp : zprev (b0 :: b1 :: b2 :: b3 :: b4 :: b5 :: b6 :: b7 :: b8 :: b9 :: b10 :: b11 :: b12 :: b13 :: b14 :: b15 :: b16 :: b17 :: b18 :: c :: L) 19 = true) (hn : 19 < znL S) (kk : AV l G S wc post (pc + 2) (b0 :: b1 :: b2 :: b3 :: b4 :: b5 :: b6 :: b7 :: b8 :: b9 :: b10 :: b11 :: b12 :: b13 :: b14 :: b15 :: b16 :: b17 :: b18 :: some (.int x) :: L) (st) ws) : AV l G S wc post (pc) (b0 :: b1 :: b2 :: b3 :: b4 :: b5 :: b6 :: b7 :: b8 :: b9 :: b10 :: b11 :: b12 :: b13 :: b14 :: b15 :: b16 :: b17 :: b18 :: c :: L) (.int x :: st) ws := g_istore (i := 19) hp hn hd kk
theorem a_lload_19 {b0 b1 b2 b3 b4 b5 b6 b7 b8 b9 b10 b11 b12 b13 b14 b15 b16 b17 b18 : Option Value} {x : Int64} (hd : decode (zcc S) pc = .ok (.lload 19, 2)) (kk : AV l G S wc post (pc + 2) (b0 :: b1 :: b2 :: b3 :: b4 :: b5 :: b6 :: b7 :: b8 :: b9 :: b10 :: b11 :: b12 :: b13 :: b14 :: b15 :: b16 :: b17 :: b18 :: some (.long x) :: L) (.long x :: st) ws) : AV l G S wc post (pc) (b0 :: b1 :: b2 :: b3 :: b4 :: b5 :: b6 :: b7 :: b8 :: b9 :: b10 :: b11 :: b12 :: b13 :: b14 :: b15 :: b16 :: b17 :: b18 :: some (.long x) :: L) (st) ws := g_lload (i := 19) rfl hd kk
theorem a_lstore_19 {b0 b1 b2 b3 b4 b5 b6 b7 b8 b9 b10 b11 b12 b13 b14 b15 b16 b17 b18 : Option Value} {c d : Option Value} {x : Int64} (hd : decode (zcc S) pc = .ok (.lstore 19, 2)) (hp : zprev (b0 :: b1 :: b2 :: b3 :: b4 :: b5 :: b6 :: b7 :: b8 :: b9 :: b10 :: b11 :: b12 :: b13 :: b14 :: b15 :: b16 :: b17 :: b18 :: c :: d :: L) 19 = true) (hn : 19 + 1 < znL S) (kk : AV l G S wc post (pc + 2) (b0 :: b1 :: b2 :: b3 :: b4 :: b5 :: b6 :: b7 :: b8 :: b9 :: b10 :: b11 :: b12 :: b13 :: b14 :: b15 :: b16 :: b17 :: b18 :: some (.long x) :: none :: L) (st) ws) : AV l G S wc post (pc) (b0 :: b1 :: b2 :: b3 :: b4 :: b5 :: b6 :: b7 :: b8 :: b9 :: b10 :: b11 :: b12 :: b13 :: b14 :: b15 :: b16 :: b17 :: b18 :: c :: d :: L) (.long x :: st) ws := g_lstore (i := 19) hp hn hd kk
theorem a_aload_19 {b0 b1 b2 b3 b4 b5 b6 b7 b8 b9 b10 b11 b12 b13 b14 b15 b16 b17 b18 : Option Value} {x : Nat} (hd : decode (zcc S) pc = .ok (.aload 19, 2)) (kk : AV l G S wc post (pc + 2) (b0 :: b1 :: b2 :: b3 :: b4 :: b5 :: b6 :: b7 :: b8 :: b9 :: b10 :: b11 :: b12 :: b13 :: b14 :: b15 :: b16 :: b17 :: b18 :: some (.ref x) :: L) (.ref x :: st) ws) : AV l G S wc post (pc) (b0 :: b1 :: b2 :: b3 :: b4 :: b5 :: b6 :: b7 :: b8 :: b9 :: b10 :: b11 :: b12 :: b13 :: b14 :: b15 :: b16 :: b17 :: b18 :: some (.ref x) :: L) (st) ws := g_aload (i := 19) rfl hd kk
theorem a_astore_19 {b0 b1 b2 b3 b4 b5 b6 b7 b8 b9 b10 b11 b12 b13 b14 b15 b16 b17 b18 : Option Value} {c : Option Value} {x : Nat} (hd : decode (zcc S) pc = .ok (.astore 19, 2)) (hp : zprev (b0 :: b1 :: b2 :: b3 :: b4 :: b5 :: b6 :: b7 :: b8 :: b9 :: b10 :: b11 :: b12 :: b13 :: b14 :: b15 :: b16 :: b17 :: b18 :: c :: L) 19 = true) (hn : 19 < znL S) (kk : AV l G S wc post (pc + 2) (b0 :: b1 :: b2 :: b3 :: b4 :: b5 :: b6 :: b7 :: b8 :: b9 :: b10 :: b11 :: b12 :: b13 :: b14 :: b15 :: b16 :: b17 :: b18 :: some (.ref x) :: L) (st) ws) : AV l G S wc post (pc) (b0 :: b1 :: b2 :: b3 :: b4 :: b5 :: b6 :: b7 :: b8 :: b9 :: b10 :: b11 :: b12 :: b13 :: b14 :: b15 :: b16 :: b17 :: b18 :: c :: L) (.ref x :: st) ws := g_astore (i := 19) hp hn hd kk
theorem a_iinc_19 {b0 b1 b2 b3 b4 b5 b6 b7 b8 b9 b10 b11 b12 b13 b14 b15 b16 b17 b18 : Option Value} {n : Int} {x cst : Int32} (hd : decode (zcc S) pc = .ok (.iinc 19 n, 3)) (hp : zprev (b0 :: b1 :: b2 :: b3 :: b4 :: b5 :: b6 :: b7 :: b8 :: b9 :: b10 :: b11 :: b12 :: b13 :: b14 :: b15 :: b16 :: b17 :: b18 :: some (.int x) :: L) 19 = true) (hn : 19 < znL S) (hv : Int32.ofInt n = cst) (kk : AV l G S wc post (pc + 3) (b0 :: b1 :: b2 :: b3 :: b4 :: b5 :: b6 :: b7 :: b8 :: b9 :: b10 :: b11 :: b12 :: b13 :: b14 :: b15 :: b16 :: b17 :: b18 :: some (.int (x + cst)) :: L) (st) ws) : AV l G S wc post (pc) (b0 :: b1 :: b2 :: b3 :: b4 :: b5 :: b6 :: b7 :: b8 :: b9 :: b10 :: b11 :: b12 :: b13 :: b14 :: b15 :: b16 :: b17 :: b18 :: some (.int x) :: L) (st) ws := g_iinc (i := 19) rfl hp hn hd (by rw [hv]) kk
theorem a_lif_eq {x y : Int64} {off : Int} {tgt : Nat} (hd : decode (zcc S) pc = .ok (.lcmp, 1)) (hd2 : decode (zcc S) (pc + 1) = .ok (.ifCond .eq off, 3)) (ht : ((pc + 1 : Nat) : Int) + off = (tgt : Int)) (kt : x = y → AV l G S wc post (tgt) L (st) ws) (kf : ¬ (x = y) → AV l G S wc post (pc + 1 + 3) L (st) ws) : AV l G S wc post (pc) L (.long y :: .long x :: st) ws := by
  refine a_lcmp hd (a_if_eq hd2 ht (fun h => kt ?_) (fun h => kf ?_))
  · exact (zcmp_eq x y).mp h
  · exact fun q => h ((zcmp_eq x y).mpr q)
theorem a_lif_ne {x y : Int64} {off : Int} {tgt : Nat} (hd : decode (zcc S) pc = .ok (.lcmp, 1)) (hd2 : decode (zcc S) (pc + 1) = .ok (.ifCond .ne off, 3)) (ht : ((pc + 1 : Nat) : Int) + off = (tgt : Int)) (kt : ¬ x = y → AV l G S wc post (tgt) L (st) ws) (kf : x = y → AV l G S wc post (pc + 1 + 3) L (st) ws) : AV l G S wc post (pc) L (.long y :: .long x :: st) ws := by
  refine a_lcmp hd (a_if_ne hd2 ht (fun h => kt ?_) (fun h => kf ?_))
  · exact (zcmp_ne x y).mp h
  · exact (zcmp_eq x y).mp h
theorem a_lif_lt {x y : Int64} {off : Int} {tgt : Nat} (hd : decode (zcc S) pc = .ok (.lcmp, 1)) (hd2 : decode (zcc S) (pc + 1) = .ok (.ifCond .lt off, 3)) (ht : ((pc + 1 : Nat) : Int) + off = (tgt : Int)) (kt : x < y → AV l G S wc post (tgt) L (st) ws) (kf : ¬ (x < y) → AV l G S wc post (pc + 1 + 3) L (st) ws) : AV l G S wc post (pc) L (.long y :: .long x :: st) ws := by
  refine a_lcmp hd (a_if_lt hd2 ht (fun h => kt ?_) (fun h => kf ?_))
  · exact (zcmp_lt x y).mp h
  · exact fun q => h ((zcmp_lt x y).mpr q)
theorem a_lif_ge {x y : Int64} {off : Int} {tgt : Nat} (hd : decode (zcc S) pc = .ok (.lcmp, 1)) (hd2 : decode (zcc S) (pc + 1) = .ok (.ifCond .ge off, 3)) (ht : ((pc + 1 : Nat) : Int) + off = (tgt : Int)) (kt : y ≤ x → AV l G S wc post (tgt) L (st) ws) (kf : ¬ (y ≤ x) → AV l G S wc post (pc + 1 + 3) L (st) ws) : AV l G S wc post (pc) L (.long y :: .long x :: st) ws := by
  refine a_lcmp hd (a_if_ge hd2 ht (fun h => kt ?_) (fun h => kf ?_))
  · exact (zcmp_ge x y).mp h
  · exact fun q => h ((zcmp_ge x y).mpr q)
theorem a_lif_gt {x y : Int64} {off : Int} {tgt : Nat} (hd : decode (zcc S) pc = .ok (.lcmp, 1)) (hd2 : decode (zcc S) (pc + 1) = .ok (.ifCond .gt off, 3)) (ht : ((pc + 1 : Nat) : Int) + off = (tgt : Int)) (kt : y < x → AV l G S wc post (tgt) L (st) ws) (kf : ¬ (y < x) → AV l G S wc post (pc + 1 + 3) L (st) ws) : AV l G S wc post (pc) L (.long y :: .long x :: st) ws := by
  refine a_lcmp hd (a_if_gt hd2 ht (fun h => kt ?_) (fun h => kf ?_))
  · exact (zcmp_gt x y).mp h
  · exact fun q => h ((zcmp_gt x y).mpr q)
theorem a_lif_le {x y : Int64} {off : Int} {tgt : Nat} (hd : decode (zcc S) pc = .ok (.lcmp, 1)) (hd2 : decode (zcc S) (pc + 1) = .ok (.ifCond .le off, 3)) (ht : ((pc + 1 : Nat) : Int) + off = (tgt : Int)) (kt : x ≤ y → AV l G S wc post (tgt) L (st) ws) (kf : ¬ (x ≤ y) → AV l G S wc post (pc + 1 + 3) L (st) ws) : AV l G S wc post (pc) L (.long y :: .long x :: st) ws := by
  refine a_lcmp hd (a_if_le hd2 ht (fun h => kt ?_) (fun h => kf ?_))
  · exact (zcmp_le x y).mp h
  · exact fun q => h ((zcmp_le x y).mpr q)
end ZR
end
section
/-! The words of the tables by their places, each method (name, code, locals, answer, class, room), by program. -/
abbrev sX5_init : zS := (yX5_init, cX5_init, 1, none, RX5, 2, 40)
theorem kc_X5_init : zW sX5_init ∈ zT := zmem 41 (by decide +kernel) (by decide +kernel)
theorem ki_X5_init : Cond.instanceMethod yX5_init ∈ zT := zmem 40 (by decide +kernel) (by decide +kernel)
abbrev sX2_init : zS := (yX2_init, cX2_init, 1, none, RX2, 1, 20)
theorem kc_X2_init : zW sX2_init ∈ zT := zmem 49 (by decide +kernel) (by decide +kernel)
theorem ki_X2_init : Cond.instanceMethod yX2_init ∈ zT := zmem 48 (by decide +kernel) (by decide +kernel)
abbrev sX4_init : zS := (yX4_init, cX4_init, 1, none, RX4, 1, 20)
theorem kc_X4_init : zW sX4_init ∈ zT := zmem 66 (by decide +kernel) (by decide +kernel)
theorem ki_X4_init : Cond.instanceMethod yX4_init ∈ zT := zmem 65 (by decide +kernel) (by decide +kernel)
abbrev sX0_init : zS := (yX0_init, cX0_init, 1, none, RX0, 1, 20)
theorem kc_X0_init : zW sX0_init ∈ zT := zmem 81 (by decide +kernel) (by decide +kernel)
theorem ki_X0_init : Cond.instanceMethod yX0_init ∈ zT := zmem 80 (by decide +kernel) (by decide +kernel)
abbrev sX1_init : zS := (yX1_init, cX1_init, 1, none, RX1, 1, 20)
theorem kc_X1_init : zW sX1_init ∈ zT := zmem 139 (by decide +kernel) (by decide +kernel)
theorem ki_X1_init : Cond.instanceMethod yX1_init ∈ zT := zmem 138 (by decide +kernel) (by decide +kernel)
abbrev sX3_init : zS := (yX3_init, cX3_init, 1, none, RX3, 1, 20)
theorem kc_X3_init : zW sX3_init ∈ zT := zmem 159 (by decide +kernel) (by decide +kernel)
theorem ki_X3_init : Cond.instanceMethod yX3_init ∈ zT := zmem 158 (by decide +kernel) (by decide +kernel)
abbrev sX5_stage : zS := (yX5_stage, cX5_stage, 4, (some .long), RX5, 1, 22)
theorem kc_X5_stage : zW sX5_stage ∈ zT := zmem 208 (by decide +kernel) (by decide +kernel)
theorem ki_X5_stage : Cond.instanceMethod yX5_stage ∈ zT := zmem 206 (by decide +kernel) (by decide +kernel)
theorem kv_X5_stage : Cond.selects (zy sX5_stage).cls (zy sX5_stage) (zy sX5_stage) ∈ zT := zmem 207 (by decide +kernel) (by decide +kernel)
abbrev sX5_outside : zS := (yX5_outside, cX5_outside, 3, (some .boolean), RX5, 0, 0)
theorem kc_X5_outside : zW sX5_outside ∈ zT := zmem 211 (by decide +kernel) (by decide +kernel)
theorem ks_X5_outside : Cond.static yX5_outside ∈ zT := zmem 210 (by decide +kernel) (by decide +kernel)
abbrev sX5_length : zS := (yX5_length, cX5_length, 3, (some .long), RX5, 1, 22)
theorem kc_X5_length : zW sX5_length ∈ zT := zmem 216 (by decide +kernel) (by decide +kernel)
theorem ki_X5_length : Cond.instanceMethod yX5_length ∈ zT := zmem 214 (by decide +kernel) (by decide +kernel)
theorem kv_X5_length : Cond.selects (zy sX5_length).cls (zy sX5_length) (zy sX5_length) ∈ zT := zmem 215 (by decide +kernel) (by decide +kernel)
abbrev sX5_fresh : zS := (yX5_fresh, cX5_fresh, 4, (some .long), RX5, 1, 23)
theorem kc_X5_fresh : zW sX5_fresh ∈ zT := zmem 220 (by decide +kernel) (by decide +kernel)
theorem ki_X5_fresh : Cond.instanceMethod yX5_fresh ∈ zT := zmem 218 (by decide +kernel) (by decide +kernel)
theorem kv_X5_fresh : Cond.selects (zy sX5_fresh).cls (zy sX5_fresh) (zy sX5_fresh) ∈ zT := zmem 219 (by decide +kernel) (by decide +kernel)
abbrev sX5_placeOf : zS := (yX5_placeOf, cX5_placeOf, 4, (some .int), RX5, 0, 0)
theorem kc_X5_placeOf : zW sX5_placeOf ∈ zT := zmem 223 (by decide +kernel) (by decide +kernel)
theorem ks_X5_placeOf : Cond.static yX5_placeOf ∈ zT := zmem 222 (by decide +kernel) (by decide +kernel)
abbrev sX4_renew : zS := (yX4_renew, cX4_renew, 4, (some .int), RX4, 0, 0)
theorem kc_X4_renew : zW sX4_renew ∈ zT := zmem 227 (by decide +kernel) (by decide +kernel)
theorem ki_X4_renew : Cond.instanceMethod yX4_renew ∈ zT := zmem 225 (by decide +kernel) (by decide +kernel)
theorem kv_X4_renew : Cond.selects (zy sX4_renew).cls (zy sX4_renew) (zy sX4_renew) ∈ zT := zmem 226 (by decide +kernel) (by decide +kernel)
abbrev sX5_told : zS := (yX5_told, cX5_told, 4, (some .long), RX5, 1, 23)
theorem kc_X5_told : zW sX5_told ∈ zT := zmem 231 (by decide +kernel) (by decide +kernel)
theorem ki_X5_told : Cond.instanceMethod yX5_told ∈ zT := zmem 229 (by decide +kernel) (by decide +kernel)
theorem kv_X5_told : Cond.selects (zy sX5_told).cls (zy sX5_told) (zy sX5_told) ∈ zT := zmem 230 (by decide +kernel) (by decide +kernel)
abbrev sX4_passAt : zS := (yX4_passAt, cX4_passAt, 3, (some .int), RX4, 0, 0)
theorem kc_X4_passAt : zW sX4_passAt ∈ zT := zmem 235 (by decide +kernel) (by decide +kernel)
theorem ki_X4_passAt : Cond.instanceMethod yX4_passAt ∈ zT := zmem 233 (by decide +kernel) (by decide +kernel)
theorem kv_X4_passAt : Cond.selects (zy sX4_passAt).cls (zy sX4_passAt) (zy sX4_passAt) ∈ zT := zmem 234 (by decide +kernel) (by decide +kernel)
abbrev sX4_leakAt : zS := (yX4_leakAt, cX4_leakAt, 2, (some .int), RX4, 0, 0)
theorem kc_X4_leakAt : zW sX4_leakAt ∈ zT := zmem 241 (by decide +kernel) (by decide +kernel)
theorem ki_X4_leakAt : Cond.instanceMethod yX4_leakAt ∈ zT := zmem 239 (by decide +kernel) (by decide +kernel)
theorem kv_X4_leakAt : Cond.selects (zy sX4_leakAt).cls (zy sX4_leakAt) (zy sX4_leakAt) ∈ zT := zmem 240 (by decide +kernel) (by decide +kernel)
abbrev sX5_isOf : zS := (yX5_isOf, cX5_isOf, 4, (some .long), RX5, 1, 23)
theorem kc_X5_isOf : zW sX5_isOf ∈ zT := zmem 247 (by decide +kernel) (by decide +kernel)
theorem ki_X5_isOf : Cond.instanceMethod yX5_isOf ∈ zT := zmem 245 (by decide +kernel) (by decide +kernel)
theorem kv_X5_isOf : Cond.selects (zy sX5_isOf).cls (zy sX5_isOf) (zy sX5_isOf) ∈ zT := zmem 246 (by decide +kernel) (by decide +kernel)
abbrev sX4_isUnder : zS := (yX4_isUnder, cX4_isUnder, 4, (some .boolean), RX4, 0, 0)
theorem kc_X4_isUnder : zW sX4_isUnder ∈ zT := zmem 251 (by decide +kernel) (by decide +kernel)
theorem ki_X4_isUnder : Cond.instanceMethod yX4_isUnder ∈ zT := zmem 249 (by decide +kernel) (by decide +kernel)
theorem kv_X4_isUnder : Cond.selects (zy sX4_isUnder).cls (zy sX4_isUnder) (zy sX4_isUnder) ∈ zT := zmem 250 (by decide +kernel) (by decide +kernel)
abbrev sX5_feed : zS := (yX5_feed, cX5_feed, 4, (some .long), RX5, 1, 22)
theorem kc_X5_feed : zW sX5_feed ∈ zT := zmem 257 (by decide +kernel) (by decide +kernel)
theorem ki_X5_feed : Cond.instanceMethod yX5_feed ∈ zT := zmem 255 (by decide +kernel) (by decide +kernel)
theorem kv_X5_feed : Cond.selects (zy sX5_feed).cls (zy sX5_feed) (zy sX5_feed) ∈ zT := zmem 256 (by decide +kernel) (by decide +kernel)
abbrev sX5_change : zS := (yX5_change, cX5_change, 5, (some .long), RX5, 1, 24)
theorem kc_X5_change : zW sX5_change ∈ zT := zmem 262 (by decide +kernel) (by decide +kernel)
theorem ki_X5_change : Cond.instanceMethod yX5_change ∈ zT := zmem 260 (by decide +kernel) (by decide +kernel)
theorem kv_X5_change : Cond.selects (zy sX5_change).cls (zy sX5_change) (zy sX5_change) ∈ zT := zmem 261 (by decide +kernel) (by decide +kernel)
abbrev sX4_exchange : zS := (yX4_exchange, cX4_exchange, 5, none, RX4, 0, 0)
theorem kc_X4_exchange : zW sX4_exchange ∈ zT := zmem 266 (by decide +kernel) (by decide +kernel)
theorem ki_X4_exchange : Cond.instanceMethod yX4_exchange ∈ zT := zmem 264 (by decide +kernel) (by decide +kernel)
theorem kv_X4_exchange : Cond.selects (zy sX4_exchange).cls (zy sX4_exchange) (zy sX4_exchange) ∈ zT := zmem 265 (by decide +kernel) (by decide +kernel)
abbrev sX5_flow : zS := (yX5_flow, cX5_flow, 4, (some .long), RX5, 5, 144)
theorem kc_X5_flow : zW sX5_flow ∈ zT := zmem 270 (by decide +kernel) (by decide +kernel)
theorem ki_X5_flow : Cond.instanceMethod yX5_flow ∈ zT := zmem 268 (by decide +kernel) (by decide +kernel)
theorem kv_X5_flow : Cond.selects (zy sX5_flow).cls (zy sX5_flow) (zy sX5_flow) ∈ zT := zmem 269 (by decide +kernel) (by decide +kernel)
abbrev sX2_holdsSkin : zS := (yX2_holdsSkin, cX2_holdsSkin, 2, (some .boolean), RX2, 1, 22)
theorem kc_X2_holdsSkin : zW sX2_holdsSkin ∈ zT := zmem 274 (by decide +kernel) (by decide +kernel)
theorem ki_X2_holdsSkin : Cond.instanceMethod yX2_holdsSkin ∈ zT := zmem 272 (by decide +kernel) (by decide +kernel)
theorem kv_X2_holdsSkin : Cond.selects (zy sX2_holdsSkin).cls (zy sX2_holdsSkin) (zy sX2_holdsSkin) ∈ zT := zmem 273 (by decide +kernel) (by decide +kernel)
abbrev sX2_vesselsIn : zS := (yX2_vesselsIn, cX2_vesselsIn, 3, (some .int), RX2, 0, 0)
theorem kc_X2_vesselsIn : zW sX2_vesselsIn ∈ zT := zmem 278 (by decide +kernel) (by decide +kernel)
theorem ki_X2_vesselsIn : Cond.instanceMethod yX2_vesselsIn ∈ zT := zmem 276 (by decide +kernel) (by decide +kernel)
theorem kv_X2_vesselsIn : Cond.selects (zy sX2_vesselsIn).cls (zy sX2_vesselsIn) (zy sX2_vesselsIn) ∈ zT := zmem 277 (by decide +kernel) (by decide +kernel)
abbrev sX5_letFlow : zS := (yX5_letFlow, cX5_letFlow, 1, none, RX5, 4, 124)
theorem kc_X5_letFlow : zW sX5_letFlow ∈ zT := zmem 283 (by decide +kernel) (by decide +kernel)
theorem ki_X5_letFlow : Cond.instanceMethod yX5_letFlow ∈ zT := zmem 282 (by decide +kernel) (by decide +kernel)
theorem kv_X5_letFlow : Cond.selects (zy sX5_letFlow).cls (zy sX5_letFlow) (zy sX5_letFlow) ∈ zT := zmem 0 (by decide +kernel) (by decide +kernel)
abbrev sX0_take : zS := (yX0_take, cX0_take, 3, none, RX0, 1, 22)
theorem kc_X0_take : zW sX0_take ∈ zT := zmem 287 (by decide +kernel) (by decide +kernel)
theorem ki_X0_take : Cond.instanceMethod yX0_take ∈ zT := zmem 285 (by decide +kernel) (by decide +kernel)
theorem kv_X0_take : Cond.selects (zy sX0_take).cls (zy sX0_take) (zy sX0_take) ∈ zT := zmem 286 (by decide +kernel) (by decide +kernel)
abbrev sX0_run : zS := (yX0_run, cX0_run, 9, none, RX0, 3, 96)
theorem kc_X0_run : zW sX0_run ∈ zT := zmem 293 (by decide +kernel) (by decide +kernel)
theorem ki_X0_run : Cond.instanceMethod yX0_run ∈ zT := zmem 291 (by decide +kernel) (by decide +kernel)
theorem kv_X0_run : Cond.selects (zy sX0_run).cls (zy sX0_run) (zy sX0_run) ∈ zT := zmem 292 (by decide +kernel) (by decide +kernel)
abbrev sX0_runStage : zS := (yX0_runStage, cX0_runStage, 17, none, RX0, 2, 60)
theorem kc_X0_runStage : zW sX0_runStage ∈ zT := zmem 298 (by decide +kernel) (by decide +kernel)
theorem ki_X0_runStage : Cond.instanceMethod yX0_runStage ∈ zT := zmem 297 (by decide +kernel) (by decide +kernel)
theorem kv_X0_runStage : Cond.selects (zy sX0_runStage).cls (zy sX0_runStage) (zy sX0_runStage) ∈ zT := zmem 1 (by decide +kernel) (by decide +kernel)
abbrev sX0_saltOf : zS := (yX0_saltOf, cX0_saltOf, 4, (some .long), RX0, 0, 0)
theorem kc_X0_saltOf : zW sX0_saltOf ∈ zT := zmem 301 (by decide +kernel) (by decide +kernel)
theorem ks_X0_saltOf : Cond.static yX0_saltOf ∈ zT := zmem 300 (by decide +kernel) (by decide +kernel)
abbrev sX0_runVessel : zS := (yX0_runVessel, cX0_runVessel, 18, none, RX0, 1, 23)
theorem kc_X0_runVessel : zW sX0_runVessel ∈ zT := zmem 305 (by decide +kernel) (by decide +kernel)
theorem ki_X0_runVessel : Cond.instanceMethod yX0_runVessel ∈ zT := zmem 304 (by decide +kernel) (by decide +kernel)
theorem kv_X0_runVessel : Cond.selects (zy sX0_runVessel).cls (zy sX0_runVessel) (zy sX0_runVessel) ∈ zT := zmem 2 (by decide +kernel) (by decide +kernel)
abbrev sJ9_max_f86c9 : zS := (yJ9_max_f86c9, cJ9_max_f86c9, 4, (some .long), RJ9, 0, 0)
theorem kc_J9_max_f86c9 : zW sJ9_max_f86c9 ∈ zT := zmem 309 (by decide +kernel) (by decide +kernel)
theorem ks_J9_max_f86c9 : Cond.static yJ9_max_f86c9 ∈ zT := zmem 308 (by decide +kernel) (by decide +kernel)
abbrev sJ9_min_f86c9 : zS := (yJ9_min_f86c9, cJ9_min_f86c9, 4, (some .long), RJ9, 0, 0)
theorem kc_J9_min_f86c9 : zW sJ9_min_f86c9 ∈ zT := zmem 312 (by decide +kernel) (by decide +kernel)
theorem ks_J9_min_f86c9 : Cond.static yJ9_min_f86c9 ∈ zT := zmem 311 (by decide +kernel) (by decide +kernel)
abbrev sX5_sweet : zS := (yX5_sweet, cX5_sweet, 2, (some .long), RX5, 5, 144)
theorem kc_X5_sweet : zW sX5_sweet ∈ zT := zmem 318 (by decide +kernel) (by decide +kernel)
theorem ki_X5_sweet : Cond.instanceMethod yX5_sweet ∈ zT := zmem 316 (by decide +kernel) (by decide +kernel)
theorem kv_X5_sweet : Cond.selects (zy sX5_sweet).cls (zy sX5_sweet) (zy sX5_sweet) ∈ zT := zmem 317 (by decide +kernel) (by decide +kernel)
abbrev sX5_brine : zS := (yX5_brine, cX5_brine, 2, (some .long), RX5, 5, 144)
theorem kc_X5_brine : zW sX5_brine ∈ zT := zmem 323 (by decide +kernel) (by decide +kernel)
theorem ki_X5_brine : Cond.instanceMethod yX5_brine ∈ zT := zmem 321 (by decide +kernel) (by decide +kernel)
theorem kv_X5_brine : Cond.selects (zy sX5_brine).cls (zy sX5_brine) (zy sX5_brine) ∈ zT := zmem 322 (by decide +kernel) (by decide +kernel)
abbrev sX5_power : zS := (yX5_power, cX5_power, 1, (some .long), RX5, 5, 144)
theorem kc_X5_power : zW sX5_power ∈ zT := zmem 327 (by decide +kernel) (by decide +kernel)
theorem ki_X5_power : Cond.instanceMethod yX5_power ∈ zT := zmem 325 (by decide +kernel) (by decide +kernel)
theorem kv_X5_power : Cond.selects (zy sX5_power).cls (zy sX5_power) (zy sX5_power) ∈ zT := zmem 326 (by decide +kernel) (by decide +kernel)
abbrev sX5_powerAt : zS := (yX5_powerAt, cX5_powerAt, 6, (some .long), RX5, 0, 0)
theorem kc_X5_powerAt : zW sX5_powerAt ∈ zT := zmem 331 (by decide +kernel) (by decide +kernel)
theorem ki_X5_powerAt : Cond.instanceMethod yX5_powerAt ∈ zT := zmem 330 (by decide +kernel) (by decide +kernel)
theorem kv_X5_powerAt : Cond.selects (zy sX5_powerAt).cls (zy sX5_powerAt) (zy sX5_powerAt) ∈ zT := zmem 3 (by decide +kernel) (by decide +kernel)
abbrev sX5_failure : zS := (yX5_failure, cX5_failure, 1, (some .long), RX5, 5, 144)
theorem kc_X5_failure : zW sX5_failure ∈ zT := zmem 336 (by decide +kernel) (by decide +kernel)
theorem ki_X5_failure : Cond.instanceMethod yX5_failure ∈ zT := zmem 334 (by decide +kernel) (by decide +kernel)
theorem kv_X5_failure : Cond.selects (zy sX5_failure).cls (zy sX5_failure) (zy sX5_failure) ∈ zT := zmem 335 (by decide +kernel) (by decide +kernel)
abbrev sX0_firstFailure : zS := (yX0_firstFailure, cX0_firstFailure, 5, (some .long), RX0, 2, 43)
theorem kc_X0_firstFailure : zW sX0_firstFailure ∈ zT := zmem 340 (by decide +kernel) (by decide +kernel)
theorem ki_X0_firstFailure : Cond.instanceMethod yX0_firstFailure ∈ zT := zmem 338 (by decide +kernel) (by decide +kernel)
theorem kv_X0_firstFailure : Cond.selects (zy sX0_firstFailure).cls (zy sX0_firstFailure) (zy sX0_firstFailure) ∈ zT := zmem 339 (by decide +kernel) (by decide +kernel)
abbrev sX5_numberOf : zS := (yX5_numberOf, cX5_numberOf, 1, (some .int), RX5, 0, 0)
theorem kc_X5_numberOf : zW sX5_numberOf ∈ zT := zmem 345 (by decide +kernel) (by decide +kernel)
theorem ks_X5_numberOf : Cond.static yX5_numberOf ∈ zT := zmem 344 (by decide +kernel) (by decide +kernel)
abbrev sX5_rule : zS := (yX5_rule, cX5_rule, 4, (some .long), RX5, 1, 22)
theorem kc_X5_rule : zW sX5_rule ∈ zT := zmem 350 (by decide +kernel) (by decide +kernel)
theorem ki_X5_rule : Cond.instanceMethod yX5_rule ∈ zT := zmem 348 (by decide +kernel) (by decide +kernel)
theorem kv_X5_rule : Cond.selects (zy sX5_rule).cls (zy sX5_rule) (zy sX5_rule) ∈ zT := zmem 349 (by decide +kernel) (by decide +kernel)
abbrev sX5_days : zS := (yX5_days, cX5_days, 3, (some .long), RX5, 6, 168)
theorem kc_X5_days : zW sX5_days ∈ zT := zmem 358 (by decide +kernel) (by decide +kernel)
theorem ki_X5_days : Cond.instanceMethod yX5_days ∈ zT := zmem 356 (by decide +kernel) (by decide +kernel)
theorem kv_X5_days : Cond.selects (zy sX5_days).cls (zy sX5_days) (zy sX5_days) ∈ zT := zmem 357 (by decide +kernel) (by decide +kernel)
abbrev sX5_passDay : zS := (yX5_passDay, cX5_passDay, 5, none, RX5, 5, 144)
theorem kc_X5_passDay : zW sX5_passDay ∈ zT := zmem 362 (by decide +kernel) (by decide +kernel)
theorem ki_X5_passDay : Cond.instanceMethod yX5_passDay ∈ zT := zmem 361 (by decide +kernel) (by decide +kernel)
theorem kv_X5_passDay : Cond.selects (zy sX5_passDay).cls (zy sX5_passDay) (zy sX5_passDay) ∈ zT := zmem 4 (by decide +kernel) (by decide +kernel)
abbrev sJ9_max_7cf53 : zS := (yJ9_max_7cf53, cJ9_max_7cf53, 2, (some .int), RJ9, 0, 0)
theorem kc_J9_max_7cf53 : zW sJ9_max_7cf53 ∈ zT := zmem 365 (by decide +kernel) (by decide +kernel)
theorem ks_J9_max_7cf53 : Cond.static yJ9_max_7cf53 ∈ zT := zmem 364 (by decide +kernel) (by decide +kernel)
abbrev sX4_soil : zS := (yX4_soil, cX4_soil, 4, none, RX4, 1, 23)
theorem kc_X4_soil : zW sX4_soil ∈ zT := zmem 369 (by decide +kernel) (by decide +kernel)
theorem ki_X4_soil : Cond.instanceMethod yX4_soil ∈ zT := zmem 367 (by decide +kernel) (by decide +kernel)
theorem kv_X4_soil : Cond.selects (zy sX4_soil).cls (zy sX4_soil) (zy sX4_soil) ∈ zT := zmem 368 (by decide +kernel) (by decide +kernel)
abbrev sX4_wash : zS := (yX4_wash, cX4_wash, 2, none, RX4, 0, 0)
theorem kc_X4_wash : zW sX4_wash ∈ zT := zmem 375 (by decide +kernel) (by decide +kernel)
theorem ki_X4_wash : Cond.instanceMethod yX4_wash ∈ zT := zmem 373 (by decide +kernel) (by decide +kernel)
theorem kv_X4_wash : Cond.selects (zy sX4_wash).cls (zy sX4_wash) (zy sX4_wash) ∈ zT := zmem 374 (by decide +kernel) (by decide +kernel)
abbrev sX5_foul : zS := (yX5_foul, cX5_foul, 6, (some .long), RX5, 2, 43)
theorem kc_X5_foul : zW sX5_foul ∈ zT := zmem 379 (by decide +kernel) (by decide +kernel)
theorem ki_X5_foul : Cond.instanceMethod yX5_foul ∈ zT := zmem 377 (by decide +kernel) (by decide +kernel)
theorem kv_X5_foul : Cond.selects (zy sX5_foul).cls (zy sX5_foul) (zy sX5_foul) ∈ zT := zmem 378 (by decide +kernel) (by decide +kernel)
abbrev sX5_swap : zS := (yX5_swap, cX5_swap, 9, (some .long), RX5, 5, 146)
theorem kc_X5_swap : zW sX5_swap ∈ zT := zmem 384 (by decide +kernel) (by decide +kernel)
theorem ki_X5_swap : Cond.instanceMethod yX5_swap ∈ zT := zmem 382 (by decide +kernel) (by decide +kernel)
theorem kv_X5_swap : Cond.selects (zy sX5_swap).cls (zy sX5_swap) (zy sX5_swap) ∈ zT := zmem 383 (by decide +kernel) (by decide +kernel)
abbrev sX5_isPair : zS := (yX5_isPair, cX5_isPair, 3, (some .boolean), RX5, 2, 43)
theorem kc_X5_isPair : zW sX5_isPair ∈ zT := zmem 389 (by decide +kernel) (by decide +kernel)
theorem ki_X5_isPair : Cond.instanceMethod yX5_isPair ∈ zT := zmem 388 (by decide +kernel) (by decide +kernel)
theorem kv_X5_isPair : Cond.selects (zy sX5_isPair).cls (zy sX5_isPair) (zy sX5_isPair) ∈ zT := zmem 5 (by decide +kernel) (by decide +kernel)
abbrev sX0_areAlike : zS := (yX0_areAlike, cX0_areAlike, 3, (some .boolean), RX0, 0, 0)
theorem kc_X0_areAlike : zW sX0_areAlike ∈ zT := zmem 393 (by decide +kernel) (by decide +kernel)
theorem ki_X0_areAlike : Cond.instanceMethod yX0_areAlike ∈ zT := zmem 391 (by decide +kernel) (by decide +kernel)
theorem kv_X0_areAlike : Cond.selects (zy sX0_areAlike).cls (zy sX0_areAlike) (zy sX0_areAlike) ∈ zT := zmem 392 (by decide +kernel) (by decide +kernel)
abbrev sX5_sweetWaterIfChanged : zS := (yX5_sweetWaterIfChanged, cX5_sweetWaterIfChanged, 3, (some .long), RX5, 4, 124)
theorem kc_X5_sweetWaterIfChanged : zW sX5_sweetWaterIfChanged ∈ zT := zmem 397 (by decide +kernel) (by decide +kernel)
theorem ki_X5_sweetWaterIfChanged : Cond.instanceMethod yX5_sweetWaterIfChanged ∈ zT := zmem 396 (by decide +kernel) (by decide +kernel)
theorem kv_X5_sweetWaterIfChanged : Cond.selects (zy sX5_sweetWaterIfChanged).cls (zy sX5_sweetWaterIfChanged) (zy sX5_sweetWaterIfChanged) ∈ zT := zmem 6 (by decide +kernel) (by decide +kernel)
abbrev sX0_exchange : zS := (yX0_exchange, cX0_exchange, 5, none, RX0, 0, 0)
theorem kc_X0_exchange : zW sX0_exchange ∈ zT := zmem 401 (by decide +kernel) (by decide +kernel)
theorem ki_X0_exchange : Cond.instanceMethod yX0_exchange ∈ zT := zmem 399 (by decide +kernel) (by decide +kernel)
theorem kv_X0_exchange : Cond.selects (zy sX0_exchange).cls (zy sX0_exchange) (zy sX0_exchange) ∈ zT := zmem 400 (by decide +kernel) (by decide +kernel)
abbrev sX5_array : zS := (yX5_array, cX5_array, 11, (some .long), RX5, 4, 124)
theorem kc_X5_array : zW sX5_array ∈ zT := zmem 406 (by decide +kernel) (by decide +kernel)
theorem ki_X5_array : Cond.instanceMethod yX5_array ∈ zT := zmem 404 (by decide +kernel) (by decide +kernel)
theorem kv_X5_array : Cond.selects (zy sX5_array).cls (zy sX5_array) (zy sX5_array) ∈ zT := zmem 405 (by decide +kernel) (by decide +kernel)
abbrev sX2_become : zS := (yX2_become, cX2_become, 2, (some .boolean), RX2, 0, 0)
theorem kc_X2_become : zW sX2_become ∈ zT := zmem 412 (by decide +kernel) (by decide +kernel)
theorem ki_X2_become : Cond.instanceMethod yX2_become ∈ zT := zmem 410 (by decide +kernel) (by decide +kernel)
theorem kv_X2_become : Cond.selects (zy sX2_become).cls (zy sX2_become) (zy sX2_become) ∈ zT := zmem 411 (by decide +kernel) (by decide +kernel)
abbrev sX5_suits : zS := (yX5_suits, cX5_suits, 3, (some .boolean), RX5, 3, 67)
theorem kc_X5_suits : zW sX5_suits ∈ zT := zmem 416 (by decide +kernel) (by decide +kernel)
theorem ki_X5_suits : Cond.instanceMethod yX5_suits ∈ zT := zmem 415 (by decide +kernel) (by decide +kernel)
theorem kv_X5_suits : Cond.selects (zy sX5_suits).cls (zy sX5_suits) (zy sX5_suits) ∈ zT := zmem 7 (by decide +kernel) (by decide +kernel)
abbrev sX2_digits : zS := (yX2_digits, cX2_digits, 1, (some .int), RX2, 0, 0)
theorem kc_X2_digits : zW sX2_digits ∈ zT := zmem 420 (by decide +kernel) (by decide +kernel)
theorem ki_X2_digits : Cond.instanceMethod yX2_digits ∈ zT := zmem 418 (by decide +kernel) (by decide +kernel)
theorem kv_X2_digits : Cond.selects (zy sX2_digits).cls (zy sX2_digits) (zy sX2_digits) ∈ zT := zmem 419 (by decide +kernel) (by decide +kernel)
abbrev sX5_hour : zS := (yX5_hour, cX5_hour, 6, (some .long), RX5, 1, 22)
theorem kc_X5_hour : zW sX5_hour ∈ zT := zmem 424 (by decide +kernel) (by decide +kernel)
theorem ki_X5_hour : Cond.instanceMethod yX5_hour ∈ zT := zmem 422 (by decide +kernel) (by decide +kernel)
theorem kv_X5_hour : Cond.selects (zy sX5_hour).cls (zy sX5_hour) (zy sX5_hour) ∈ zT := zmem 423 (by decide +kernel) (by decide +kernel)
abbrev sX1_mostOf : zS := (yX1_mostOf, cX1_mostOf, 1, (some .int), RX1, 0, 0)
theorem kc_X1_mostOf : zW sX1_mostOf ∈ zT := zmem 427 (by decide +kernel) (by decide +kernel)
theorem ks_X1_mostOf : Cond.static yX1_mostOf ∈ zT := zmem 426 (by decide +kernel) (by decide +kernel)
abbrev sX1_rowOf : zS := (yX1_rowOf, cX1_rowOf, 2, (some (.array .int)), RX1, 0, 0)
theorem kc_X1_rowOf : zW sX1_rowOf ∈ zT := zmem 431 (by decide +kernel) (by decide +kernel)
theorem ki_X1_rowOf : Cond.instanceMethod yX1_rowOf ∈ zT := zmem 429 (by decide +kernel) (by decide +kernel)
theorem kv_X1_rowOf : Cond.selects (zy sX1_rowOf).cls (zy sX1_rowOf) (zy sX1_rowOf) ∈ zT := zmem 430 (by decide +kernel) (by decide +kernel)
abbrev sX5_lay : zS := (yX5_lay, cX5_lay, 8, (some .long), RX5, 1, 22)
theorem kc_X5_lay : zW sX5_lay ∈ zT := zmem 435 (by decide +kernel) (by decide +kernel)
theorem ki_X5_lay : Cond.instanceMethod yX5_lay ∈ zT := zmem 433 (by decide +kernel) (by decide +kernel)
theorem kv_X5_lay : Cond.selects (zy sX5_lay).cls (zy sX5_lay) (zy sX5_lay) ∈ zT := zmem 434 (by decide +kernel) (by decide +kernel)
abbrev sX3_isMissing : zS := (yX3_isMissing, cX3_isMissing, 1, (some .boolean), RX3, 0, 0)
theorem kc_X3_isMissing : zW sX3_isMissing ∈ zT := zmem 439 (by decide +kernel) (by decide +kernel)
theorem ki_X3_isMissing : Cond.instanceMethod yX3_isMissing ∈ zT := zmem 437 (by decide +kernel) (by decide +kernel)
theorem kv_X3_isMissing : Cond.selects (zy sX3_isMissing).cls (zy sX3_isMissing) (zy sX3_isMissing) ∈ zT := zmem 438 (by decide +kernel) (by decide +kernel)
abbrev sX3_has : zS := (yX3_has, cX3_has, 2, (some .boolean), RX3, 0, 0)
theorem kc_X3_has : zW sX3_has ∈ zT := zmem 444 (by decide +kernel) (by decide +kernel)
theorem ki_X3_has : Cond.instanceMethod yX3_has ∈ zT := zmem 442 (by decide +kernel) (by decide +kernel)
theorem kv_X3_has : Cond.selects (zy sX3_has).cls (zy sX3_has) (zy sX3_has) ∈ zT := zmem 443 (by decide +kernel) (by decide +kernel)
abbrev sJ9_min_7cf53 : zS := (yJ9_min_7cf53, cJ9_min_7cf53, 2, (some .int), RJ9, 0, 0)
theorem kc_J9_min_7cf53 : zW sJ9_min_7cf53 ∈ zT := zmem 447 (by decide +kernel) (by decide +kernel)
theorem ks_J9_min_7cf53 : Cond.static yJ9_min_7cf53 ∈ zT := zmem 446 (by decide +kernel) (by decide +kernel)
abbrev sX5_plan : zS := (yX5_plan, cX5_plan, 3, (some .long), RX5, 3, 72)
theorem kc_X5_plan : zW sX5_plan ∈ zT := zmem 451 (by decide +kernel) (by decide +kernel)
theorem ki_X5_plan : Cond.instanceMethod yX5_plan ∈ zT := zmem 449 (by decide +kernel) (by decide +kernel)
theorem kv_X5_plan : Cond.selects (zy sX5_plan).cls (zy sX5_plan) (zy sX5_plan) ∈ zT := zmem 450 (by decide +kernel) (by decide +kernel)
abbrev sX1_best : zS := (yX1_best, cX1_best, 9, (some .int), RX1, 2, 44)
theorem kc_X1_best : zW sX1_best ∈ zT := zmem 455 (by decide +kernel) (by decide +kernel)
theorem ki_X1_best : Cond.instanceMethod yX1_best ∈ zT := zmem 453 (by decide +kernel) (by decide +kernel)
theorem kv_X1_best : Cond.selects (zy sX1_best).cls (zy sX1_best) (zy sX1_best) ∈ zT := zmem 454 (by decide +kernel) (by decide +kernel)
abbrev sJ7_fill_53178 : zS := (yJ7_fill_53178, cJ7_fill_53178, 4, none, RJ7, 0, 0)
theorem kc_J7_fill_53178 : zW sJ7_fill_53178 ∈ zT := zmem 458 (by decide +kernel) (by decide +kernel)
theorem ks_J7_fill_53178 : Cond.static yJ7_fill_53178 ∈ zT := zmem 457 (by decide +kernel) (by decide +kernel)
abbrev sX1_behind : zS := (yX1_behind, cX1_behind, 4, (some .int), RX1, 1, 21)
theorem kc_X1_behind : zW sX1_behind ∈ zT := zmem 462 (by decide +kernel) (by decide +kernel)
theorem ki_X1_behind : Cond.instanceMethod yX1_behind ∈ zT := zmem 460 (by decide +kernel) (by decide +kernel)
theorem kv_X1_behind : Cond.selects (zy sX1_behind).cls (zy sX1_behind) (zy sX1_behind) ∈ zT := zmem 461 (by decide +kernel) (by decide +kernel)
abbrev sX1_laterAt : zS := (yX1_laterAt, cX1_laterAt, 2, (some .int), RX1, 0, 0)
theorem kc_X1_laterAt : zW sX1_laterAt ∈ zT := zmem 467 (by decide +kernel) (by decide +kernel)
theorem ki_X1_laterAt : Cond.instanceMethod yX1_laterAt ∈ zT := zmem 466 (by decide +kernel) (by decide +kernel)
theorem kv_X1_laterAt : Cond.selects (zy sX1_laterAt).cls (zy sX1_laterAt) (zy sX1_laterAt) ∈ zT := zmem 8 (by decide +kernel) (by decide +kernel)
abbrev sX1_isPlan : zS := (yX1_isPlan, cX1_isPlan, 1, (some .boolean), RX1, 0, 0)
theorem kc_X1_isPlan : zW sX1_isPlan ∈ zT := zmem 474 (by decide +kernel) (by decide +kernel)
theorem ks_X1_isPlan : Cond.static yX1_isPlan ∈ zT := zmem 473 (by decide +kernel) (by decide +kernel)
abbrev sX1_costOf : zS := (yX1_costOf, cX1_costOf, 1, (some .int), RX1, 0, 0)
theorem kc_X1_costOf : zW sX1_costOf ∈ zT := zmem 477 (by decide +kernel) (by decide +kernel)
theorem ks_X1_costOf : Cond.static yX1_costOf ∈ zT := zmem 476 (by decide +kernel) (by decide +kernel)
abbrev sX5_runs : zS := (yX5_runs, cX5_runs, 3, (some .long), RX5, 3, 72)
theorem kc_X5_runs : zW sX5_runs ∈ zT := zmem 481 (by decide +kernel) (by decide +kernel)
theorem ki_X5_runs : Cond.instanceMethod yX5_runs ∈ zT := zmem 479 (by decide +kernel) (by decide +kernel)
theorem kv_X5_runs : Cond.selects (zy sX5_runs).cls (zy sX5_runs) (zy sX5_runs) ∈ zT := zmem 480 (by decide +kernel) (by decide +kernel)
abbrev sX1_bitsOf : zS := (yX1_bitsOf, cX1_bitsOf, 3, (some .int), RX1, 1, 21)
theorem kc_X1_bitsOf : zW sX1_bitsOf ∈ zT := zmem 484 (by decide +kernel) (by decide +kernel)
theorem ks_X1_bitsOf : Cond.static yX1_bitsOf ∈ zT := zmem 483 (by decide +kernel) (by decide +kernel)
abbrev sX1_runsAt : zS := (yX1_runsAt, cX1_runsAt, 2, (some .boolean), RX1, 0, 0)
theorem kc_X1_runsAt : zW sX1_runsAt ∈ zT := zmem 487 (by decide +kernel) (by decide +kernel)
theorem ks_X1_runsAt : Cond.static yX1_runsAt ∈ zT := zmem 486 (by decide +kernel) (by decide +kernel)
abbrev sX5_tank : zS := (yX5_tank, cX5_tank, 6, (some .long), RX5, 3, 72)
theorem kc_X5_tank : zW sX5_tank ∈ zT := zmem 491 (by decide +kernel) (by decide +kernel)
theorem ki_X5_tank : Cond.instanceMethod yX5_tank ∈ zT := zmem 489 (by decide +kernel) (by decide +kernel)
theorem kv_X5_tank : Cond.selects (zy sX5_tank).cls (zy sX5_tank) (zy sX5_tank) ∈ zT := zmem 490 (by decide +kernel) (by decide +kernel)
abbrev sX5_joint : zS := (yX5_joint, cX5_joint, 7, (some .long), RX5, 5, 144)
theorem kc_X5_joint : zW sX5_joint ∈ zT := zmem 497 (by decide +kernel) (by decide +kernel)
theorem ki_X5_joint : Cond.instanceMethod yX5_joint ∈ zT := zmem 495 (by decide +kernel) (by decide +kernel)
theorem kv_X5_joint : Cond.selects (zy sX5_joint).cls (zy sX5_joint) (zy sX5_joint) ∈ zT := zmem 496 (by decide +kernel) (by decide +kernel)
abbrev sX5_sheet : zS := (yX5_sheet, cX5_sheet, 3, (some .long), RX5, 2, 44)
theorem kc_X5_sheet : zW sX5_sheet ∈ zT := zmem 501 (by decide +kernel) (by decide +kernel)
theorem ki_X5_sheet : Cond.instanceMethod yX5_sheet ∈ zT := zmem 499 (by decide +kernel) (by decide +kernel)
theorem kv_X5_sheet : Cond.selects (zy sX5_sheet).cls (zy sX5_sheet) (zy sX5_sheet) ∈ zT := zmem 500 (by decide +kernel) (by decide +kernel)
abbrev sX3_begin : zS := (yX3_begin, cX3_begin, 2, none, RX3, 1, 23)
theorem kc_X3_begin : zW sX3_begin ∈ zT := zmem 506 (by decide +kernel) (by decide +kernel)
theorem ki_X3_begin : Cond.instanceMethod yX3_begin ∈ zT := zmem 504 (by decide +kernel) (by decide +kernel)
theorem kv_X3_begin : Cond.selects (zy sX3_begin).cls (zy sX3_begin) (zy sX3_begin) ∈ zT := zmem 505 (by decide +kernel) (by decide +kernel)
abbrev sJ7_fill_fb410 : zS := (yJ7_fill_fb410, cJ7_fill_fb410, 4, none, RJ7, 0, 0)
theorem kc_J7_fill_fb410 : zW sJ7_fill_fb410 ∈ zT := zmem 509 (by decide +kernel) (by decide +kernel)
theorem ks_J7_fill_fb410 : Cond.static yJ7_fill_fb410 ∈ zT := zmem 508 (by decide +kernel) (by decide +kernel)
abbrev sX5_mark : zS := (yX5_mark, cX5_mark, 5, (some .long), RX5, 1, 22)
theorem kc_X5_mark : zW sX5_mark ∈ zT := zmem 513 (by decide +kernel) (by decide +kernel)
theorem ki_X5_mark : Cond.instanceMethod yX5_mark ∈ zT := zmem 511 (by decide +kernel) (by decide +kernel)
theorem kv_X5_mark : Cond.selects (zy sX5_mark).cls (zy sX5_mark) (zy sX5_mark) ∈ zT := zmem 512 (by decide +kernel) (by decide +kernel)
abbrev sX5_copy : zS := (yX5_copy, cX5_copy, 6, (some .long), RX5, 1, 38)
theorem kc_X5_copy : zW sX5_copy ∈ zT := zmem 518 (by decide +kernel) (by decide +kernel)
theorem ki_X5_copy : Cond.instanceMethod yX5_copy ∈ zT := zmem 516 (by decide +kernel) (by decide +kernel)
theorem kv_X5_copy : Cond.selects (zy sX5_copy).cls (zy sX5_copy) (zy sX5_copy) ∈ zT := zmem 517 (by decide +kernel) (by decide +kernel)
abbrev sX3_hasRun : zS := (yX3_hasRun, cX3_hasRun, 3, (some .boolean), RX3, 0, 0)
theorem kc_X3_hasRun : zW sX3_hasRun ∈ zT := zmem 522 (by decide +kernel) (by decide +kernel)
theorem ki_X3_hasRun : Cond.instanceMethod yX3_hasRun ∈ zT := zmem 520 (by decide +kernel) (by decide +kernel)
theorem kv_X3_hasRun : Cond.selects (zy sX3_hasRun).cls (zy sX3_hasRun) (zy sX3_hasRun) ∈ zT := zmem 521 (by decide +kernel) (by decide +kernel)
abbrev sX5_count : zS := (yX5_count, cX5_count, 2, (some .long), RX5, 2, 44)
theorem kc_X5_count : zW sX5_count ∈ zT := zmem 527 (by decide +kernel) (by decide +kernel)
theorem ki_X5_count : Cond.instanceMethod yX5_count ∈ zT := zmem 525 (by decide +kernel) (by decide +kernel)
theorem kv_X5_count : Cond.selects (zy sX5_count).cls (zy sX5_count) (zy sX5_count) ∈ zT := zmem 526 (by decide +kernel) (by decide +kernel)
abbrev sX2_standing : zS := (yX2_standing, cX2_standing, 3, (some .int), RX2, 1, 22)
theorem kc_X2_standing : zW sX2_standing ∈ zT := zmem 531 (by decide +kernel) (by decide +kernel)
theorem ki_X2_standing : Cond.instanceMethod yX2_standing ∈ zT := zmem 529 (by decide +kernel) (by decide +kernel)
theorem kv_X2_standing : Cond.selects (zy sX2_standing).cls (zy sX2_standing) (zy sX2_standing) ∈ zT := zmem 530 (by decide +kernel) (by decide +kernel)
abbrev sX6_init : zS := (yX6_init, cX6_init, 1, none, RX6, 1, 20)
theorem kc_X6_init : zW sX6_init ∈ zT := zmem 536 (by decide +kernel) (by decide +kernel)
theorem ki_X6_init : Cond.instanceMethod yX6_init ∈ zT := zmem 535 (by decide +kernel) (by decide +kernel)
abbrev sX6_stage : zS := (yX6_stage, cX6_stage, 4, (some .long), RX6, 1, 22)
theorem kc_X6_stage : zW sX6_stage ∈ zT := zmem 623 (by decide +kernel) (by decide +kernel)
theorem ki_X6_stage : Cond.instanceMethod yX6_stage ∈ zT := zmem 621 (by decide +kernel) (by decide +kernel)
theorem kv_X6_stage : Cond.selects (zy sX6_stage).cls (zy sX6_stage) (zy sX6_stage) ∈ zT := zmem 622 (by decide +kernel) (by decide +kernel)
abbrev sX6_isIn : zS := (yX6_isIn, cX6_isIn, 3, (some .boolean), RX6, 0, 0)
theorem kc_X6_isIn : zW sX6_isIn ∈ zT := zmem 626 (by decide +kernel) (by decide +kernel)
theorem ks_X6_isIn : Cond.static yX6_isIn ∈ zT := zmem 625 (by decide +kernel) (by decide +kernel)
abbrev sX6_length : zS := (yX6_length, cX6_length, 3, (some .long), RX6, 1, 22)
theorem kc_X6_length : zW sX6_length ∈ zT := zmem 631 (by decide +kernel) (by decide +kernel)
theorem ki_X6_length : Cond.instanceMethod yX6_length ∈ zT := zmem 629 (by decide +kernel) (by decide +kernel)
theorem kv_X6_length : Cond.selects (zy sX6_length).cls (zy sX6_length) (zy sX6_length) ∈ zT := zmem 630 (by decide +kernel) (by decide +kernel)
abbrev sX6_fresh : zS := (yX6_fresh, cX6_fresh, 5, (some .long), RX6, 1, 22)
theorem kc_X6_fresh : zW sX6_fresh ∈ zT := zmem 635 (by decide +kernel) (by decide +kernel)
theorem ki_X6_fresh : Cond.instanceMethod yX6_fresh ∈ zT := zmem 633 (by decide +kernel) (by decide +kernel)
theorem kv_X6_fresh : Cond.selects (zy sX6_fresh).cls (zy sX6_fresh) (zy sX6_fresh) ∈ zT := zmem 634 (by decide +kernel) (by decide +kernel)
abbrev sX6_placeOf : zS := (yX6_placeOf, cX6_placeOf, 2, (some .int), RX6, 0, 0)
theorem kc_X6_placeOf : zW sX6_placeOf ∈ zT := zmem 638 (by decide +kernel) (by decide +kernel)
theorem ks_X6_placeOf : Cond.static yX6_placeOf ∈ zT := zmem 637 (by decide +kernel) (by decide +kernel)
abbrev sX6_told : zS := (yX6_told, cX6_told, 4, (some .long), RX6, 1, 22)
theorem kc_X6_told : zW sX6_told ∈ zT := zmem 642 (by decide +kernel) (by decide +kernel)
theorem ki_X6_told : Cond.instanceMethod yX6_told ∈ zT := zmem 640 (by decide +kernel) (by decide +kernel)
theorem kv_X6_told : Cond.selects (zy sX6_told).cls (zy sX6_told) (zy sX6_told) ∈ zT := zmem 641 (by decide +kernel) (by decide +kernel)
abbrev sX6_pass : zS := (yX6_pass, cX6_pass, 3, (some .int), RX6, 0, 0)
theorem kc_X6_pass : zW sX6_pass ∈ zT := zmem 646 (by decide +kernel) (by decide +kernel)
theorem ki_X6_pass : Cond.instanceMethod yX6_pass ∈ zT := zmem 645 (by decide +kernel) (by decide +kernel)
theorem kv_X6_pass : Cond.selects (zy sX6_pass).cls (zy sX6_pass) (zy sX6_pass) ∈ zT := zmem 9 (by decide +kernel) (by decide +kernel)
abbrev sX6_leak : zS := (yX6_leak, cX6_leak, 2, (some .int), RX6, 0, 0)
theorem kc_X6_leak : zW sX6_leak ∈ zT := zmem 650 (by decide +kernel) (by decide +kernel)
theorem ki_X6_leak : Cond.instanceMethod yX6_leak ∈ zT := zmem 649 (by decide +kernel) (by decide +kernel)
theorem kv_X6_leak : Cond.selects (zy sX6_leak).cls (zy sX6_leak) (zy sX6_leak) ∈ zT := zmem 10 (by decide +kernel) (by decide +kernel)
abbrev sX6_isOf : zS := (yX6_isOf, cX6_isOf, 4, (some .long), RX6, 1, 22)
theorem kc_X6_isOf : zW sX6_isOf ∈ zT := zmem 654 (by decide +kernel) (by decide +kernel)
theorem ki_X6_isOf : Cond.instanceMethod yX6_isOf ∈ zT := zmem 652 (by decide +kernel) (by decide +kernel)
theorem kv_X6_isOf : Cond.selects (zy sX6_isOf).cls (zy sX6_isOf) (zy sX6_isOf) ∈ zT := zmem 653 (by decide +kernel) (by decide +kernel)
abbrev sX6_feed : zS := (yX6_feed, cX6_feed, 4, (some .long), RX6, 1, 22)
theorem kc_X6_feed : zW sX6_feed ∈ zT := zmem 658 (by decide +kernel) (by decide +kernel)
theorem ki_X6_feed : Cond.instanceMethod yX6_feed ∈ zT := zmem 656 (by decide +kernel) (by decide +kernel)
theorem kv_X6_feed : Cond.selects (zy sX6_feed).cls (zy sX6_feed) (zy sX6_feed) ∈ zT := zmem 657 (by decide +kernel) (by decide +kernel)
abbrev sX6_change : zS := (yX6_change, cX6_change, 5, (some .long), RX6, 1, 24)
theorem kc_X6_change : zW sX6_change ∈ zT := zmem 663 (by decide +kernel) (by decide +kernel)
theorem ki_X6_change : Cond.instanceMethod yX6_change ∈ zT := zmem 661 (by decide +kernel) (by decide +kernel)
theorem kv_X6_change : Cond.selects (zy sX6_change).cls (zy sX6_change) (zy sX6_change) ∈ zT := zmem 662 (by decide +kernel) (by decide +kernel)
abbrev sX6_exchange : zS := (yX6_exchange, cX6_exchange, 5, none, RX6, 0, 0)
theorem kc_X6_exchange : zW sX6_exchange ∈ zT := zmem 667 (by decide +kernel) (by decide +kernel)
theorem ki_X6_exchange : Cond.instanceMethod yX6_exchange ∈ zT := zmem 666 (by decide +kernel) (by decide +kernel)
theorem kv_X6_exchange : Cond.selects (zy sX6_exchange).cls (zy sX6_exchange) (zy sX6_exchange) ∈ zT := zmem 11 (by decide +kernel) (by decide +kernel)
abbrev sX6_flow : zS := (yX6_flow, cX6_flow, 4, (some .long), RX6, 5, 147)
theorem kc_X6_flow : zW sX6_flow ∈ zT := zmem 671 (by decide +kernel) (by decide +kernel)
theorem ki_X6_flow : Cond.instanceMethod yX6_flow ∈ zT := zmem 669 (by decide +kernel) (by decide +kernel)
theorem kv_X6_flow : Cond.selects (zy sX6_flow).cls (zy sX6_flow) (zy sX6_flow) ∈ zT := zmem 670 (by decide +kernel) (by decide +kernel)
abbrev sX6_isThere : zS := (yX6_isThere, cX6_isThere, 2, (some .boolean), RX6, 1, 23)
theorem kc_X6_isThere : zW sX6_isThere ∈ zT := zmem 675 (by decide +kernel) (by decide +kernel)
theorem ki_X6_isThere : Cond.instanceMethod yX6_isThere ∈ zT := zmem 674 (by decide +kernel) (by decide +kernel)
theorem kv_X6_isThere : Cond.selects (zy sX6_isThere).cls (zy sX6_isThere) (zy sX6_isThere) ∈ zT := zmem 12 (by decide +kernel) (by decide +kernel)
abbrev sX6_isStage : zS := (yX6_isStage, cX6_isStage, 4, (some .boolean), RX6, 0, 0)
theorem kc_X6_isStage : zW sX6_isStage ∈ zT := zmem 679 (by decide +kernel) (by decide +kernel)
theorem ki_X6_isStage : Cond.instanceMethod yX6_isStage ∈ zT := zmem 678 (by decide +kernel) (by decide +kernel)
theorem kv_X6_isStage : Cond.selects (zy sX6_isStage).cls (zy sX6_isStage) (zy sX6_isStage) ∈ zT := zmem 13 (by decide +kernel) (by decide +kernel)
abbrev sX6_flowNow : zS := (yX6_flowNow, cX6_flowNow, 1, none, RX6, 4, 127)
theorem kc_X6_flowNow : zW sX6_flowNow ∈ zT := zmem 684 (by decide +kernel) (by decide +kernel)
theorem ki_X6_flowNow : Cond.instanceMethod yX6_flowNow ∈ zT := zmem 683 (by decide +kernel) (by decide +kernel)
theorem kv_X6_flowNow : Cond.selects (zy sX6_flowNow).cls (zy sX6_flowNow) (zy sX6_flowNow) ∈ zT := zmem 14 (by decide +kernel) (by decide +kernel)
abbrev sX6_flowAt : zS := (yX6_flowAt, cX6_flowAt, 16, none, RX6, 3, 92)
theorem kc_X6_flowAt : zW sX6_flowAt ∈ zT := zmem 688 (by decide +kernel) (by decide +kernel)
theorem ki_X6_flowAt : Cond.instanceMethod yX6_flowAt ∈ zT := zmem 687 (by decide +kernel) (by decide +kernel)
theorem kv_X6_flowAt : Cond.selects (zy sX6_flowAt).cls (zy sX6_flowAt) (zy sX6_flowAt) ∈ zT := zmem 15 (by decide +kernel) (by decide +kernel)
abbrev sX6_saltOf : zS := (yX6_saltOf, cX6_saltOf, 4, (some .long), RX6, 0, 0)
theorem kc_X6_saltOf : zW sX6_saltOf ∈ zT := zmem 691 (by decide +kernel) (by decide +kernel)
theorem ks_X6_saltOf : Cond.static yX6_saltOf ∈ zT := zmem 690 (by decide +kernel) (by decide +kernel)
abbrev sX6_vessel : zS := (yX6_vessel, cX6_vessel, 17, none, RX6, 2, 56)
theorem kc_X6_vessel : zW sX6_vessel ∈ zT := zmem 695 (by decide +kernel) (by decide +kernel)
theorem ki_X6_vessel : Cond.instanceMethod yX6_vessel ∈ zT := zmem 694 (by decide +kernel) (by decide +kernel)
theorem kv_X6_vessel : Cond.selects (zy sX6_vessel).cls (zy sX6_vessel) (zy sX6_vessel) ∈ zT := zmem 16 (by decide +kernel) (by decide +kernel)
abbrev sX6_skin : zS := (yX6_skin, cX6_skin, 14, none, RX6, 1, 23)
theorem kc_X6_skin : zW sX6_skin ∈ zT := zmem 699 (by decide +kernel) (by decide +kernel)
theorem ki_X6_skin : Cond.instanceMethod yX6_skin ∈ zT := zmem 698 (by decide +kernel) (by decide +kernel)
theorem kv_X6_skin : Cond.selects (zy sX6_skin).cls (zy sX6_skin) (zy sX6_skin) ∈ zT := zmem 17 (by decide +kernel) (by decide +kernel)
abbrev sX6_sweet : zS := (yX6_sweet, cX6_sweet, 2, (some .long), RX6, 5, 147)
theorem kc_X6_sweet : zW sX6_sweet ∈ zT := zmem 706 (by decide +kernel) (by decide +kernel)
theorem ki_X6_sweet : Cond.instanceMethod yX6_sweet ∈ zT := zmem 704 (by decide +kernel) (by decide +kernel)
theorem kv_X6_sweet : Cond.selects (zy sX6_sweet).cls (zy sX6_sweet) (zy sX6_sweet) ∈ zT := zmem 705 (by decide +kernel) (by decide +kernel)
abbrev sX6_brine : zS := (yX6_brine, cX6_brine, 2, (some .long), RX6, 5, 147)
theorem kc_X6_brine : zW sX6_brine ∈ zT := zmem 710 (by decide +kernel) (by decide +kernel)
theorem ki_X6_brine : Cond.instanceMethod yX6_brine ∈ zT := zmem 708 (by decide +kernel) (by decide +kernel)
theorem kv_X6_brine : Cond.selects (zy sX6_brine).cls (zy sX6_brine) (zy sX6_brine) ∈ zT := zmem 709 (by decide +kernel) (by decide +kernel)
abbrev sX6_power : zS := (yX6_power, cX6_power, 1, (some .long), RX6, 5, 147)
theorem kc_X6_power : zW sX6_power ∈ zT := zmem 714 (by decide +kernel) (by decide +kernel)
theorem ki_X6_power : Cond.instanceMethod yX6_power ∈ zT := zmem 712 (by decide +kernel) (by decide +kernel)
theorem kv_X6_power : Cond.selects (zy sX6_power).cls (zy sX6_power) (zy sX6_power) ∈ zT := zmem 713 (by decide +kernel) (by decide +kernel)
abbrev sX6_powerAt : zS := (yX6_powerAt, cX6_powerAt, 2, (some .long), RX6, 0, 0)
theorem kc_X6_powerAt : zW sX6_powerAt ∈ zT := zmem 718 (by decide +kernel) (by decide +kernel)
theorem ki_X6_powerAt : Cond.instanceMethod yX6_powerAt ∈ zT := zmem 717 (by decide +kernel) (by decide +kernel)
theorem kv_X6_powerAt : Cond.selects (zy sX6_powerAt).cls (zy sX6_powerAt) (zy sX6_powerAt) ∈ zT := zmem 18 (by decide +kernel) (by decide +kernel)
abbrev sX6_failure : zS := (yX6_failure, cX6_failure, 2, (some .long), RX6, 5, 147)
theorem kc_X6_failure : zW sX6_failure ∈ zT := zmem 722 (by decide +kernel) (by decide +kernel)
theorem ki_X6_failure : Cond.instanceMethod yX6_failure ∈ zT := zmem 720 (by decide +kernel) (by decide +kernel)
theorem kv_X6_failure : Cond.selects (zy sX6_failure).cls (zy sX6_failure) (zy sX6_failure) ∈ zT := zmem 721 (by decide +kernel) (by decide +kernel)
abbrev sX6_failing : zS := (yX6_failing, cX6_failing, 2, (some .int), RX6, 2, 44)
theorem kc_X6_failing : zW sX6_failing ∈ zT := zmem 726 (by decide +kernel) (by decide +kernel)
theorem ki_X6_failing : Cond.instanceMethod yX6_failing ∈ zT := zmem 725 (by decide +kernel) (by decide +kernel)
theorem kv_X6_failing : Cond.selects (zy sX6_failing).cls (zy sX6_failing) (zy sX6_failing) ∈ zT := zmem 19 (by decide +kernel) (by decide +kernel)
abbrev sX6_skinAt : zS := (yX6_skinAt, cX6_skinAt, 1, (some .int), RX6, 0, 0)
theorem kc_X6_skinAt : zW sX6_skinAt ∈ zT := zmem 729 (by decide +kernel) (by decide +kernel)
theorem ks_X6_skinAt : Cond.static yX6_skinAt ∈ zT := zmem 728 (by decide +kernel) (by decide +kernel)
abbrev sX6_rule : zS := (yX6_rule, cX6_rule, 5, (some .long), RX6, 1, 22)
theorem kc_X6_rule : zW sX6_rule ∈ zT := zmem 734 (by decide +kernel) (by decide +kernel)
theorem ki_X6_rule : Cond.instanceMethod yX6_rule ∈ zT := zmem 732 (by decide +kernel) (by decide +kernel)
theorem kv_X6_rule : Cond.selects (zy sX6_rule).cls (zy sX6_rule) (zy sX6_rule) ∈ zT := zmem 733 (by decide +kernel) (by decide +kernel)
abbrev sX6_days : zS := (yX6_days, cX6_days, 3, (some .long), RX6, 6, 171)
theorem kc_X6_days : zW sX6_days ∈ zT := zmem 738 (by decide +kernel) (by decide +kernel)
theorem ki_X6_days : Cond.instanceMethod yX6_days ∈ zT := zmem 736 (by decide +kernel) (by decide +kernel)
theorem kv_X6_days : Cond.selects (zy sX6_days).cls (zy sX6_days) (zy sX6_days) ∈ zT := zmem 737 (by decide +kernel) (by decide +kernel)
abbrev sX6_day : zS := (yX6_day, cX6_day, 5, none, RX6, 5, 147)
theorem kc_X6_day : zW sX6_day ∈ zT := zmem 742 (by decide +kernel) (by decide +kernel)
theorem ki_X6_day : Cond.instanceMethod yX6_day ∈ zT := zmem 741 (by decide +kernel) (by decide +kernel)
theorem kv_X6_day : Cond.selects (zy sX6_day).cls (zy sX6_day) (zy sX6_day) ∈ zT := zmem 20 (by decide +kernel) (by decide +kernel)
abbrev sX6_foul : zS := (yX6_foul, cX6_foul, 5, (some .long), RX6, 2, 44)
theorem kc_X6_foul : zW sX6_foul ∈ zT := zmem 747 (by decide +kernel) (by decide +kernel)
theorem ki_X6_foul : Cond.instanceMethod yX6_foul ∈ zT := zmem 745 (by decide +kernel) (by decide +kernel)
theorem kv_X6_foul : Cond.selects (zy sX6_foul).cls (zy sX6_foul) (zy sX6_foul) ∈ zT := zmem 746 (by decide +kernel) (by decide +kernel)
abbrev sX6_swap : zS := (yX6_swap, cX6_swap, 7, (some .long), RX6, 5, 147)
theorem kc_X6_swap : zW sX6_swap ∈ zT := zmem 751 (by decide +kernel) (by decide +kernel)
theorem ki_X6_swap : Cond.instanceMethod yX6_swap ∈ zT := zmem 749 (by decide +kernel) (by decide +kernel)
theorem kv_X6_swap : Cond.selects (zy sX6_swap).cls (zy sX6_swap) (zy sX6_swap) ∈ zT := zmem 750 (by decide +kernel) (by decide +kernel)
abbrev sX6_array : zS := (yX6_array, cX6_array, 10, (some .long), RX6, 4, 127)
theorem kc_X6_array : zW sX6_array ∈ zT := zmem 755 (by decide +kernel) (by decide +kernel)
theorem ki_X6_array : Cond.instanceMethod yX6_array ∈ zT := zmem 753 (by decide +kernel) (by decide +kernel)
theorem kv_X6_array : Cond.selects (zy sX6_array).cls (zy sX6_array) (zy sX6_array) ∈ zT := zmem 754 (by decide +kernel) (by decide +kernel)
abbrev sX6_hour : zS := (yX6_hour, cX6_hour, 5, (some .long), RX6, 1, 22)
theorem kc_X6_hour : zW sX6_hour ∈ zT := zmem 761 (by decide +kernel) (by decide +kernel)
theorem ki_X6_hour : Cond.instanceMethod yX6_hour ∈ zT := zmem 759 (by decide +kernel) (by decide +kernel)
theorem kv_X6_hour : Cond.selects (zy sX6_hour).cls (zy sX6_hour) (zy sX6_hour) ∈ zT := zmem 760 (by decide +kernel) (by decide +kernel)
abbrev sX6_lay : zS := (yX6_lay, cX6_lay, 5, (some .long), RX6, 2, 42)
theorem kc_X6_lay : zW sX6_lay ∈ zT := zmem 765 (by decide +kernel) (by decide +kernel)
theorem ki_X6_lay : Cond.instanceMethod yX6_lay ∈ zT := zmem 763 (by decide +kernel) (by decide +kernel)
theorem kv_X6_lay : Cond.selects (zy sX6_lay).cls (zy sX6_lay) (zy sX6_lay) ∈ zT := zmem 764 (by decide +kernel) (by decide +kernel)
abbrev sX6_isSheet : zS := (yX6_isSheet, cX6_isSheet, 1, (some .boolean), RX6, 1, 22)
theorem kc_X6_isSheet : zW sX6_isSheet ∈ zT := zmem 768 (by decide +kernel) (by decide +kernel)
theorem ks_X6_isSheet : Cond.static yX6_isSheet ∈ zT := zmem 767 (by decide +kernel) (by decide +kernel)
abbrev sX6_plan : zS := (yX6_plan, cX6_plan, 2, (some .long), RX6, 3, 72)
theorem kc_X6_plan : zW sX6_plan ∈ zT := zmem 774 (by decide +kernel) (by decide +kernel)
theorem ki_X6_plan : Cond.instanceMethod yX6_plan ∈ zT := zmem 772 (by decide +kernel) (by decide +kernel)
theorem kv_X6_plan : Cond.selects (zy sX6_plan).cls (zy sX6_plan) (zy sX6_plan) ∈ zT := zmem 773 (by decide +kernel) (by decide +kernel)
abbrev sX6_isContent : zS := (yX6_isContent, cX6_isContent, 2, (some .boolean), RX6, 1, 22)
theorem kc_X6_isContent : zW sX6_isContent ∈ zT := zmem 778 (by decide +kernel) (by decide +kernel)
theorem ki_X6_isContent : Cond.instanceMethod yX6_isContent ∈ zT := zmem 777 (by decide +kernel) (by decide +kernel)
theorem kv_X6_isContent : Cond.selects (zy sX6_isContent).cls (zy sX6_isContent) (zy sX6_isContent) ∈ zT := zmem 21 (by decide +kernel) (by decide +kernel)
abbrev sX6_findPlan : zS := (yX6_findPlan, cX6_findPlan, 5, none, RX6, 2, 48)
theorem kc_X6_findPlan : zW sX6_findPlan ∈ zT := zmem 782 (by decide +kernel) (by decide +kernel)
theorem ki_X6_findPlan : Cond.instanceMethod yX6_findPlan ∈ zT := zmem 781 (by decide +kernel) (by decide +kernel)
theorem kv_X6_findPlan : Cond.selects (zy sX6_findPlan).cls (zy sX6_findPlan) (zy sX6_findPlan) ∈ zT := zmem 22 (by decide +kernel) (by decide +kernel)
abbrev sX6_costFrom : zS := (yX6_costFrom, cX6_costFrom, 5, (some .int), RX6, 1, 24)
theorem kc_X6_costFrom : zW sX6_costFrom ∈ zT := zmem 786 (by decide +kernel) (by decide +kernel)
theorem ki_X6_costFrom : Cond.instanceMethod yX6_costFrom ∈ zT := zmem 785 (by decide +kernel) (by decide +kernel)
theorem kv_X6_costFrom : Cond.selects (zy sX6_costFrom).cls (zy sX6_costFrom) (zy sX6_costFrom) ∈ zT := zmem 23 (by decide +kernel) (by decide +kernel)
abbrev sX6_behind : zS := (yX6_behind, cX6_behind, 5, (some .int), RX6, 0, 0)
theorem kc_X6_behind : zW sX6_behind ∈ zT := zmem 790 (by decide +kernel) (by decide +kernel)
theorem ki_X6_behind : Cond.instanceMethod yX6_behind ∈ zT := zmem 789 (by decide +kernel) (by decide +kernel)
theorem kv_X6_behind : Cond.selects (zy sX6_behind).cls (zy sX6_behind) (zy sX6_behind) ∈ zT := zmem 24 (by decide +kernel) (by decide +kernel)
abbrev sX6_runs : zS := (yX6_runs, cX6_runs, 2, (some .long), RX6, 3, 73)
theorem kc_X6_runs : zW sX6_runs ∈ zT := zmem 794 (by decide +kernel) (by decide +kernel)
theorem ki_X6_runs : Cond.instanceMethod yX6_runs ∈ zT := zmem 792 (by decide +kernel) (by decide +kernel)
theorem kv_X6_runs : Cond.selects (zy sX6_runs).cls (zy sX6_runs) (zy sX6_runs) ∈ zT := zmem 793 (by decide +kernel) (by decide +kernel)
abbrev sX6_go : zS := (yX6_go, cX6_go, 6, (some .int), RX6, 2, 48)
theorem kc_X6_go : zW sX6_go ∈ zT := zmem 798 (by decide +kernel) (by decide +kernel)
theorem ki_X6_go : Cond.instanceMethod yX6_go ∈ zT := zmem 797 (by decide +kernel) (by decide +kernel)
theorem kv_X6_go : Cond.selects (zy sX6_go).cls (zy sX6_go) (zy sX6_go) ∈ zT := zmem 25 (by decide +kernel) (by decide +kernel)
abbrev sX6_tank : zS := (yX6_tank, cX6_tank, 4, (some .long), RX6, 3, 73)
theorem kc_X6_tank : zW sX6_tank ∈ zT := zmem 802 (by decide +kernel) (by decide +kernel)
theorem ki_X6_tank : Cond.instanceMethod yX6_tank ∈ zT := zmem 800 (by decide +kernel) (by decide +kernel)
theorem kv_X6_tank : Cond.selects (zy sX6_tank).cls (zy sX6_tank) (zy sX6_tank) ∈ zT := zmem 801 (by decide +kernel) (by decide +kernel)
abbrev sX6_joint : zS := (yX6_joint, cX6_joint, 9, (some .long), RX6, 5, 147)
theorem kc_X6_joint : zW sX6_joint ∈ zT := zmem 806 (by decide +kernel) (by decide +kernel)
theorem ki_X6_joint : Cond.instanceMethod yX6_joint ∈ zT := zmem 804 (by decide +kernel) (by decide +kernel)
theorem kv_X6_joint : Cond.selects (zy sX6_joint).cls (zy sX6_joint) (zy sX6_joint) ∈ zT := zmem 805 (by decide +kernel) (by decide +kernel)
abbrev sX6_sheet : zS := (yX6_sheet, cX6_sheet, 4, (some .long), RX6, 2, 42)
theorem kc_X6_sheet : zW sX6_sheet ∈ zT := zmem 810 (by decide +kernel) (by decide +kernel)
theorem ki_X6_sheet : Cond.instanceMethod yX6_sheet ∈ zT := zmem 808 (by decide +kernel) (by decide +kernel)
theorem kv_X6_sheet : Cond.selects (zy sX6_sheet).cls (zy sX6_sheet) (zy sX6_sheet) ∈ zT := zmem 809 (by decide +kernel) (by decide +kernel)
abbrev sX6_mark : zS := (yX6_mark, cX6_mark, 5, (some .long), RX6, 2, 42)
theorem kc_X6_mark : zW sX6_mark ∈ zT := zmem 815 (by decide +kernel) (by decide +kernel)
theorem ki_X6_mark : Cond.instanceMethod yX6_mark ∈ zT := zmem 813 (by decide +kernel) (by decide +kernel)
theorem kv_X6_mark : Cond.selects (zy sX6_mark).cls (zy sX6_mark) (zy sX6_mark) ∈ zT := zmem 814 (by decide +kernel) (by decide +kernel)
abbrev sX6_copy : zS := (yX6_copy, cX6_copy, 7, (some .long), RX6, 2, 42)
theorem kc_X6_copy : zW sX6_copy ∈ zT := zmem 820 (by decide +kernel) (by decide +kernel)
theorem ki_X6_copy : Cond.instanceMethod yX6_copy ∈ zT := zmem 818 (by decide +kernel) (by decide +kernel)
theorem kv_X6_copy : Cond.selects (zy sX6_copy).cls (zy sX6_copy) (zy sX6_copy) ∈ zT := zmem 819 (by decide +kernel) (by decide +kernel)
abbrev sX6_count : zS := (yX6_count, cX6_count, 4, (some .long), RX6, 2, 44)
theorem kc_X6_count : zW sX6_count ∈ zT := zmem 824 (by decide +kernel) (by decide +kernel)
theorem ki_X6_count : Cond.instanceMethod yX6_count ∈ zT := zmem 822 (by decide +kernel) (by decide +kernel)
theorem kv_X6_count : Cond.selects (zy sX6_count).cls (zy sX6_count) (zy sX6_count) ∈ zT := zmem 823 (by decide +kernel) (by decide +kernel)
theorem kini_X0 : Cond.initialized RX0 ∈ zT := zmem 30 (by decide +kernel) (by decide +kernel)
theorem kini_X1 : Cond.initialized RX1 ∈ zT := zmem 31 (by decide +kernel) (by decide +kernel)
theorem kini_X2 : Cond.initialized RX2 ∈ zT := zmem 28 (by decide +kernel) (by decide +kernel)
theorem kini_X3 : Cond.initialized RX3 ∈ zT := zmem 32 (by decide +kernel) (by decide +kernel)
theorem kini_X4 : Cond.initialized RX4 ∈ zT := zmem 29 (by decide +kernel) (by decide +kernel)
theorem kini_X5 : Cond.initialized RX5 ∈ zT := zmem 27 (by decide +kernel) (by decide +kernel)
theorem kini_X6 : Cond.initialized RX6 ∈ zT := zmem 33 (by decide +kernel) (by decide +kernel)
theorem kini_J9 : Cond.initialized RJ9 ∈ zT := zmem 34 (by decide +kernel) (by decide +kernel)
theorem kini_J7 : Cond.initialized RJ7 ∈ zT := zmem 35 (by decide +kernel) (by decide +kernel)
theorem kini_J10 : Cond.initialized RJ10 ∈ zT := zmem 36 (by decide +kernel) (by decide +kernel)
theorem kini_L : Cond.initialized RL ∈ zT := zmem 26 (by decide +kernel) (by decide +kernel)
theorem kf_X2_11 : Cond.fieldLink RX2 11 "SaltPlant$Layout" "vessels" "[I" ∈ zT := zmem 51 (by decide +kernel) (by decide +kernel)
theorem kf_X2_15 : Cond.fieldLink RX2 15 "SaltPlant$Layout" "inVessel" "I" ∈ zT := zmem 53 (by decide +kernel) (by decide +kernel)
theorem kf_X4_9 : Cond.fieldLink RX4 9 "SaltPlant$Skins" "kinds" "[I" ∈ zT := zmem 68 (by decide +kernel) (by decide +kernel)
theorem kf_X4_15 : Cond.fieldLink RX4 15 "SaltPlant$Skins" "fouls" "[I" ∈ zT := zmem 70 (by decide +kernel) (by decide +kernel)
theorem kf_X0_9 : Cond.fieldLink RX0 9 "SaltPlant$Flows" "pass" "[I" ∈ zT := zmem 83 (by decide +kernel) (by decide +kernel)
theorem kf_X0_15 : Cond.fieldLink RX0 15 "SaltPlant$Flows" "leak" "[I" ∈ zT := zmem 84 (by decide +kernel) (by decide +kernel)
theorem kf_X0_18 : Cond.fieldLink RX0 18 "SaltPlant$Flows" "water" "[J" ∈ zT := zmem 85 (by decide +kernel) (by decide +kernel)
theorem kf_X0_22 : Cond.fieldLink RX0 22 "SaltPlant$Flows" "grains" "[J" ∈ zT := zmem 87 (by decide +kernel) (by decide +kernel)
theorem kf_X0_25 : Cond.fieldLink RX0 25 "SaltPlant$Flows" "pressure" "[J" ∈ zT := zmem 89 (by decide +kernel) (by decide +kernel)
theorem kf_X0_28 : Cond.fieldLink RX0 28 "SaltPlant$Flows" "through" "[J" ∈ zT := zmem 91 (by decide +kernel) (by decide +kernel)
theorem kf_X0_31 : Cond.fieldLink RX0 31 "SaltPlant$Flows" "throughSalt" "[J" ∈ zT := zmem 93 (by decide +kernel) (by decide +kernel)
theorem kf_X0_34 : Cond.fieldLink RX0 34 "SaltPlant$Flows" "throughGrains" "[J" ∈ zT := zmem 95 (by decide +kernel) (by decide +kernel)
theorem kf_X0_37 : Cond.fieldLink RX0 37 "SaltPlant$Flows" "stayWater" "J" ∈ zT := zmem 97 (by decide +kernel) (by decide +kernel)
theorem kf_X0_41 : Cond.fieldLink RX0 41 "SaltPlant$Flows" "stayGrains" "J" ∈ zT := zmem 99 (by decide +kernel) (by decide +kernel)
theorem kf_X0_44 : Cond.fieldLink RX0 44 "SaltPlant$Flows" "stayPressure" "J" ∈ zT := zmem 101 (by decide +kernel) (by decide +kernel)
theorem kf_X0_47 : Cond.fieldLink RX0 47 "SaltPlant$Flows" "sweetWater" "J" ∈ zT := zmem 103 (by decide +kernel) (by decide +kernel)
theorem kf_X0_50 : Cond.fieldLink RX0 50 "SaltPlant$Flows" "sweetGrains" "J" ∈ zT := zmem 105 (by decide +kernel) (by decide +kernel)
theorem kf_X1_9 : Cond.fieldLink RX1 9 "SaltPlant$Hours" "prices" "[I" ∈ zT := zmem 141 (by decide +kernel) (by decide +kernel)
theorem kf_X1_13 : Cond.fieldLink RX1 13 "SaltPlant$Hours" "needs" "[I" ∈ zT := zmem 142 (by decide +kernel) (by decide +kernel)
theorem kf_X1_16 : Cond.fieldLink RX1 16 "SaltPlant$Hours" "now" "[I" ∈ zT := zmem 143 (by decide +kernel) (by decide +kernel)
theorem kf_X1_19 : Cond.fieldLink RX1 19 "SaltPlant$Hours" "later" "[I" ∈ zT := zmem 144 (by decide +kernel) (by decide +kernel)
theorem kf_X3_9 : Cond.fieldLink RX3 9 "SaltPlant$Sheet" "places" "[S" ∈ zT := zmem 161 (by decide +kernel) (by decide +kernel)
theorem kf_X3_13 : Cond.fieldLink RX3 13 "SaltPlant$Sheet" "size" "I" ∈ zT := zmem 163 (by decide +kernel) (by decide +kernel)
theorem kf_X5_9 : Cond.fieldLink RX5 9 "SaltPlant" "rules" "[I" ∈ zT := zmem 171 (by decide +kernel) (by decide +kernel)
theorem kf_X5_16 : Cond.fieldLink RX5 16 "SaltPlant" "layout" "LSaltPlant$Layout;" ∈ zT := zmem 172 (by decide +kernel) (by decide +kernel)
theorem kf_X5_20 : Cond.fieldLink RX5 20 "SaltPlant" "trial" "LSaltPlant$Layout;" ∈ zT := zmem 173 (by decide +kernel) (by decide +kernel)
theorem kf_X5_26 : Cond.fieldLink RX5 26 "SaltPlant" "skins" "LSaltPlant$Skins;" ∈ zT := zmem 174 (by decide +kernel) (by decide +kernel)
theorem kf_X5_33 : Cond.fieldLink RX5 33 "SaltPlant" "flows" "LSaltPlant$Flows;" ∈ zT := zmem 175 (by decide +kernel) (by decide +kernel)
theorem kf_X5_40 : Cond.fieldLink RX5 40 "SaltPlant" "hours" "LSaltPlant$Hours;" ∈ zT := zmem 176 (by decide +kernel) (by decide +kernel)
theorem kf_X5_47 : Cond.fieldLink RX5 47 "SaltPlant" "sheets" "[LSaltPlant$Sheet;" ∈ zT := zmem 177 (by decide +kernel) (by decide +kernel)
theorem kf_X5_51 : Cond.fieldLink RX5 51 "SaltPlant" "feedWater" "I" ∈ zT := zmem 178 (by decide +kernel) (by decide +kernel)
theorem kf_X5_55 : Cond.fieldLink RX5 55 "SaltPlant" "feedSalt" "I" ∈ zT := zmem 179 (by decide +kernel) (by decide +kernel)
theorem kf_X5_58 : Cond.fieldLink RX5 58 "SaltPlant" "feedPressure" "I" ∈ zT := zmem 180 (by decide +kernel) (by decide +kernel)
theorem kf_X5_61 : Cond.fieldLink RX5 61 "SaltPlant" "daysGone" "I" ∈ zT := zmem 181 (by decide +kernel) (by decide +kernel)
theorem kf_X4_18 : Cond.fieldLink RX4 18 "SaltPlant$Skins" "PASS_OF_KIND" "[I" ∈ zT := zmem 236 (by decide +kernel) (by decide +kernel)
theorem kf_X4_21 : Cond.fieldLink RX4 21 "SaltPlant$Skins" "LEAK_OF_KIND" "[I" ∈ zT := zmem 242 (by decide +kernel) (by decide +kernel)
theorem kf_X4_24 : Cond.fieldLink RX4 24 "SaltPlant$Skins" "KIND_ABOVE" "[I" ∈ zT := zmem 252 (by decide +kernel) (by decide +kernel)
theorem kf_X5_158 : Cond.fieldLink RX5 158 "SaltPlant" "RULE_LOW" "[I" ∈ zT := zmem 351 (by decide +kernel) (by decide +kernel)
theorem kf_X5_161 : Cond.fieldLink RX5 161 "SaltPlant" "RULE_HIGH" "[I" ∈ zT := zmem 353 (by decide +kernel) (by decide +kernel)
theorem kf_X6_7 : Cond.fieldLink RX6 7 "SaltPlantModel" "vessels" "[I" ∈ zT := zmem 538 (by decide +kernel) (by decide +kernel)
theorem kf_X6_13 : Cond.fieldLink RX6 13 "SaltPlantModel" "longs" "I" ∈ zT := zmem 539 (by decide +kernel) (by decide +kernel)
theorem kf_X6_17 : Cond.fieldLink RX6 17 "SaltPlantModel" "kind" "[I" ∈ zT := zmem 540 (by decide +kernel) (by decide +kernel)
theorem kf_X6_20 : Cond.fieldLink RX6 20 "SaltPlantModel" "foul" "[I" ∈ zT := zmem 541 (by decide +kernel) (by decide +kernel)
theorem kf_X6_23 : Cond.fieldLink RX6 23 "SaltPlantModel" "water" "I" ∈ zT := zmem 542 (by decide +kernel) (by decide +kernel)
theorem kf_X6_26 : Cond.fieldLink RX6 26 "SaltPlantModel" "salt" "I" ∈ zT := zmem 543 (by decide +kernel) (by decide +kernel)
theorem kf_X6_29 : Cond.fieldLink RX6 29 "SaltPlantModel" "pressure" "I" ∈ zT := zmem 544 (by decide +kernel) (by decide +kernel)
theorem kf_X6_32 : Cond.fieldLink RX6 32 "SaltPlantModel" "rules" "[I" ∈ zT := zmem 545 (by decide +kernel) (by decide +kernel)
theorem kf_X6_159 : Cond.fieldLink RX6 159 "SaltPlantModel" "days" "I" ∈ zT := zmem 546 (by decide +kernel) (by decide +kernel)
theorem kf_X6_35 : Cond.fieldLink RX6 35 "SaltPlantModel" "prices" "[I" ∈ zT := zmem 547 (by decide +kernel) (by decide +kernel)
theorem kf_X6_38 : Cond.fieldLink RX6 38 "SaltPlantModel" "needs" "[I" ∈ zT := zmem 548 (by decide +kernel) (by decide +kernel)
theorem kf_X6_41 : Cond.fieldLink RX6 41 "SaltPlantModel" "places" "[I" ∈ zT := zmem 549 (by decide +kernel) (by decide +kernel)
theorem kf_X6_44 : Cond.fieldLink RX6 44 "SaltPlantModel" "numbers" "[I" ∈ zT := zmem 550 (by decide +kernel) (by decide +kernel)
theorem kf_X6_47 : Cond.fieldLink RX6 47 "SaltPlantModel" "getsWater" "[J" ∈ zT := zmem 551 (by decide +kernel) (by decide +kernel)
theorem kf_X6_51 : Cond.fieldLink RX6 51 "SaltPlantModel" "getsGrains" "[J" ∈ zT := zmem 552 (by decide +kernel) (by decide +kernel)
theorem kf_X6_54 : Cond.fieldLink RX6 54 "SaltPlantModel" "getsPush" "[J" ∈ zT := zmem 553 (by decide +kernel) (by decide +kernel)
theorem kf_X6_57 : Cond.fieldLink RX6 57 "SaltPlantModel" "through" "[J" ∈ zT := zmem 554 (by decide +kernel) (by decide +kernel)
theorem kf_X6_60 : Cond.fieldLink RX6 60 "SaltPlantModel" "grains" "[J" ∈ zT := zmem 555 (by decide +kernel) (by decide +kernel)
theorem kf_X6_108 : Cond.fieldLink RX6 108 "SaltPlantModel" "sweetWater" "J" ∈ zT := zmem 556 (by decide +kernel) (by decide +kernel)
theorem kf_X6_112 : Cond.fieldLink RX6 112 "SaltPlantModel" "sweetGrains" "J" ∈ zT := zmem 557 (by decide +kernel) (by decide +kernel)
theorem kf_X6_121 : Cond.fieldLink RX6 121 "SaltPlantModel" "leftWater" "J" ∈ zT := zmem 558 (by decide +kernel) (by decide +kernel)
theorem kf_X6_124 : Cond.fieldLink RX6 124 "SaltPlantModel" "leftGrains" "J" ∈ zT := zmem 559 (by decide +kernel) (by decide +kernel)
theorem kf_X6_127 : Cond.fieldLink RX6 127 "SaltPlantModel" "leftPush" "J" ∈ zT := zmem 560 (by decide +kernel) (by decide +kernel)
theorem kf_X6_63 : Cond.fieldLink RX6 63 "SaltPlantModel" "had" "[I" ∈ zT := zmem 561 (by decide +kernel) (by decide +kernel)
theorem kf_X6_66 : Cond.fieldLink RX6 66 "SaltPlantModel" "costs" "[I" ∈ zT := zmem 562 (by decide +kernel) (by decide +kernel)
theorem kf_X6_69 : Cond.fieldLink RX6 69 "SaltPlantModel" "holds" "[I" ∈ zT := zmem 563 (by decide +kernel) (by decide +kernel)
theorem kf_X6_72 : Cond.fieldLink RX6 72 "SaltPlantModel" "carried" "[I" ∈ zT := zmem 564 (by decide +kernel) (by decide +kernel)
theorem kf_X5_70 : Cond.fieldLinkNest RX5 70 "SaltPlant$Layout" "vessels" "[I" "SaltPlant" ∈ zNest := znmem 52 (by decide +kernel) (by decide +kernel)
theorem kf_X5_73 : Cond.fieldLinkNest RX5 73 "SaltPlant$Layout" "inVessel" "I" "SaltPlant" ∈ zNest := znmem 54 (by decide +kernel) (by decide +kernel)
theorem kf_X0_67 : Cond.fieldLinkNest RX0 67 "SaltPlant$Layout" "inVessel" "I" "SaltPlant" ∈ zNest := znmem 55 (by decide +kernel) (by decide +kernel)
theorem kf_X5_84 : Cond.fieldLinkNest RX5 84 "SaltPlant$Skins" "kinds" "[I" "SaltPlant" ∈ zNest := znmem 69 (by decide +kernel) (by decide +kernel)
theorem kf_X5_87 : Cond.fieldLinkNest RX5 87 "SaltPlant$Skins" "fouls" "[I" "SaltPlant" ∈ zNest := znmem 71 (by decide +kernel) (by decide +kernel)
theorem kf_X5_114 : Cond.fieldLinkNest RX5 114 "SaltPlant$Flows" "water" "[J" "SaltPlant" ∈ zNest := znmem 86 (by decide +kernel) (by decide +kernel)
theorem kf_X5_118 : Cond.fieldLinkNest RX5 118 "SaltPlant$Flows" "grains" "[J" "SaltPlant" ∈ zNest := znmem 88 (by decide +kernel) (by decide +kernel)
theorem kf_X5_121 : Cond.fieldLinkNest RX5 121 "SaltPlant$Flows" "pressure" "[J" "SaltPlant" ∈ zNest := znmem 90 (by decide +kernel) (by decide +kernel)
theorem kf_X5_124 : Cond.fieldLinkNest RX5 124 "SaltPlant$Flows" "through" "[J" "SaltPlant" ∈ zNest := znmem 92 (by decide +kernel) (by decide +kernel)
theorem kf_X5_251 : Cond.fieldLinkNest RX5 251 "SaltPlant$Flows" "throughSalt" "[J" "SaltPlant" ∈ zNest := znmem 94 (by decide +kernel) (by decide +kernel)
theorem kf_X5_127 : Cond.fieldLinkNest RX5 127 "SaltPlant$Flows" "throughGrains" "[J" "SaltPlant" ∈ zNest := znmem 96 (by decide +kernel) (by decide +kernel)
theorem kf_X5_141 : Cond.fieldLinkNest RX5 141 "SaltPlant$Flows" "stayWater" "J" "SaltPlant" ∈ zNest := znmem 98 (by decide +kernel) (by decide +kernel)
theorem kf_X5_144 : Cond.fieldLinkNest RX5 144 "SaltPlant$Flows" "stayGrains" "J" "SaltPlant" ∈ zNest := znmem 100 (by decide +kernel) (by decide +kernel)
theorem kf_X5_147 : Cond.fieldLinkNest RX5 147 "SaltPlant$Flows" "stayPressure" "J" "SaltPlant" ∈ zNest := znmem 102 (by decide +kernel) (by decide +kernel)
theorem kf_X5_130 : Cond.fieldLinkNest RX5 130 "SaltPlant$Flows" "sweetWater" "J" "SaltPlant" ∈ zNest := znmem 104 (by decide +kernel) (by decide +kernel)
theorem kf_X5_134 : Cond.fieldLinkNest RX5 134 "SaltPlant$Flows" "sweetGrains" "J" "SaltPlant" ∈ zNest := znmem 106 (by decide +kernel) (by decide +kernel)
theorem kf_X5_220 : Cond.fieldLinkNest RX5 220 "SaltPlant$Sheet" "places" "[S" "SaltPlant" ∈ zNest := znmem 162 (by decide +kernel) (by decide +kernel)
theorem kf_X5_224 : Cond.fieldLinkNest RX5 224 "SaltPlant$Sheet" "size" "I" "SaltPlant" ∈ zNest := znmem 164 (by decide +kernel) (by decide +kernel)
theorem km_X5_64 : Cond.methodLink RX5 64 yX5_outside ∈ zT := zmem 209 (by decide +kernel) (by decide +kernel)
theorem km_X5_76 : Cond.methodLink RX5 76 yX5_placeOf ∈ zT := zmem 221 (by decide +kernel) (by decide +kernel)
theorem km_X5_80 : Cond.methodLink RX5 80 yX4_renew ∈ zT := zmem 224 (by decide +kernel) (by decide +kernel)
theorem km_X5_90 : Cond.methodLink RX5 90 yX4_passAt ∈ zT := zmem 232 (by decide +kernel) (by decide +kernel)
theorem km_X5_93 : Cond.methodLink RX5 93 yX4_leakAt ∈ zT := zmem 238 (by decide +kernel) (by decide +kernel)
theorem km_X5_96 : Cond.methodLink RX5 96 yX4_isUnder ∈ zT := zmem 248 (by decide +kernel) (by decide +kernel)
theorem km_X5_101 : Cond.methodLink RX5 101 yX4_exchange ∈ zT := zmem 263 (by decide +kernel) (by decide +kernel)
theorem km_X5_105 : Cond.methodLink RX5 105 yX2_holdsSkin ∈ zT := zmem 271 (by decide +kernel) (by decide +kernel)
theorem km_X2_19 : Cond.methodLink RX2 19 yX2_vesselsIn ∈ zT := zmem 275 (by decide +kernel) (by decide +kernel)
theorem km_X5_111 : Cond.methodLink RX5 111 yX5_letFlow ∈ zT := zmem 280 (by decide +kernel) (by decide +kernel)
theorem km_X5_182 : Cond.methodLink RX5 182 yX0_take ∈ zT := zmem 284 (by decide +kernel) (by decide +kernel)
theorem km_X0_53 : Cond.methodLink RX0 53 yX4_passAt ∈ zT := zmem 288 (by decide +kernel) (by decide +kernel)
theorem km_X0_59 : Cond.methodLink RX0 59 yX4_leakAt ∈ zT := zmem 289 (by decide +kernel) (by decide +kernel)
theorem km_X5_193 : Cond.methodLink RX5 193 yX0_run ∈ zT := zmem 290 (by decide +kernel) (by decide +kernel)
theorem km_X0_62 : Cond.methodLink RX0 62 yX2_vesselsIn ∈ zT := zmem 294 (by decide +kernel) (by decide +kernel)
theorem km_X0_71 : Cond.methodLink RX0 71 yX0_runStage ∈ zT := zmem 295 (by decide +kernel) (by decide +kernel)
theorem km_X0_75 : Cond.methodLink RX0 75 yX0_saltOf ∈ zT := zmem 299 (by decide +kernel) (by decide +kernel)
theorem km_X0_79 : Cond.methodLink RX0 79 yX0_runVessel ∈ zT := zmem 302 (by decide +kernel) (by decide +kernel)
theorem km_X0_83 : Cond.methodLink RX0 83 yJ9_max_f86c9 ∈ zT := zmem 307 (by decide +kernel) (by decide +kernel)
theorem km_X0_90 : Cond.methodLink RX0 90 yJ9_min_f86c9 ∈ zT := zmem 310 (by decide +kernel) (by decide +kernel)
theorem km_X5_137 : Cond.methodLink RX5 137 yX0_saltOf ∈ zT := zmem 319 (by decide +kernel) (by decide +kernel)
theorem km_X5_150 : Cond.methodLink RX5 150 yX5_powerAt ∈ zT := zmem 328 (by decide +kernel) (by decide +kernel)
theorem km_X5_154 : Cond.methodLink RX5 154 yX0_firstFailure ∈ zT := zmem 337 (by decide +kernel) (by decide +kernel)
theorem km_X0_97 : Cond.methodLink RX0 97 yX2_holdsSkin ∈ zT := zmem 341 (by decide +kernel) (by decide +kernel)
theorem km_X5_164 : Cond.methodLink RX5 164 yX5_passDay ∈ zT := zmem 359 (by decide +kernel) (by decide +kernel)
theorem km_X5_276 : Cond.methodLink RX5 276 yJ9_max_7cf53 ∈ zT := zmem 363 (by decide +kernel) (by decide +kernel)
theorem km_X5_279 : Cond.methodLink RX5 279 yX4_soil ∈ zT := zmem 366 (by decide +kernel) (by decide +kernel)
theorem km_X4_29 : Cond.methodLink RX4 29 yJ9_min_f86c9 ∈ zT := zmem 371 (by decide +kernel) (by decide +kernel)
theorem km_X5_283 : Cond.methodLink RX5 283 yX4_wash ∈ zT := zmem 372 (by decide +kernel) (by decide +kernel)
theorem km_X5_167 : Cond.methodLink RX5 167 yX5_numberOf ∈ zT := zmem 380 (by decide +kernel) (by decide +kernel)
theorem km_X5_172 : Cond.methodLink RX5 172 yX5_isPair ∈ zT := zmem 386 (by decide +kernel) (by decide +kernel)
theorem km_X5_286 : Cond.methodLink RX5 286 yX0_areAlike ∈ zT := zmem 390 (by decide +kernel) (by decide +kernel)
theorem km_X5_175 : Cond.methodLink RX5 175 yX5_sweetWaterIfChanged ∈ zT := zmem 394 (by decide +kernel) (by decide +kernel)
theorem km_X5_289 : Cond.methodLink RX5 289 yX0_exchange ∈ zT := zmem 398 (by decide +kernel) (by decide +kernel)
theorem km_X5_190 : Cond.methodLink RX5 190 yX2_become ∈ zT := zmem 409 (by decide +kernel) (by decide +kernel)
theorem km_X5_197 : Cond.methodLink RX5 197 yX5_suits ∈ zT := zmem 413 (by decide +kernel) (by decide +kernel)
theorem km_X5_200 : Cond.methodLink RX5 200 yX2_digits ∈ zT := zmem 417 (by decide +kernel) (by decide +kernel)
theorem km_X5_204 : Cond.methodLink RX5 204 yX1_mostOf ∈ zT := zmem 425 (by decide +kernel) (by decide +kernel)
theorem km_X5_207 : Cond.methodLink RX5 207 yX1_rowOf ∈ zT := zmem 428 (by decide +kernel) (by decide +kernel)
theorem km_X5_211 : Cond.methodLink RX5 211 yX3_isMissing ∈ zT := zmem 436 (by decide +kernel) (by decide +kernel)
theorem km_X5_217 : Cond.methodLink RX5 217 yX3_has ∈ zT := zmem 441 (by decide +kernel) (by decide +kernel)
theorem km_X5_227 : Cond.methodLink RX5 227 yJ9_min_7cf53 ∈ zT := zmem 445 (by decide +kernel) (by decide +kernel)
theorem km_X5_232 : Cond.methodLink RX5 232 yX1_best ∈ zT := zmem 452 (by decide +kernel) (by decide +kernel)
theorem km_X1_33 : Cond.methodLink RX1 33 yJ7_fill_53178 ∈ zT := zmem 456 (by decide +kernel) (by decide +kernel)
theorem km_X1_39 : Cond.methodLink RX1 39 yX1_behind ∈ zT := zmem 459 (by decide +kernel) (by decide +kernel)
theorem km_X1_27 : Cond.methodLink RX1 27 yJ9_min_7cf53 ∈ zT := zmem 463 (by decide +kernel) (by decide +kernel)
theorem km_X1_43 : Cond.methodLink RX1 43 yX1_laterAt ∈ zT := zmem 464 (by decide +kernel) (by decide +kernel)
theorem km_X1_47 : Cond.methodLink RX1 47 arraycopyName ∈ zT := zmem 469 (by decide +kernel) (by decide +kernel)
theorem km_X5_236 : Cond.methodLink RX5 236 yX1_isPlan ∈ zT := zmem 472 (by decide +kernel) (by decide +kernel)
theorem km_X5_239 : Cond.methodLink RX5 239 yX1_costOf ∈ zT := zmem 475 (by decide +kernel) (by decide +kernel)
theorem km_X5_242 : Cond.methodLink RX5 242 yX1_bitsOf ∈ zT := zmem 482 (by decide +kernel) (by decide +kernel)
theorem km_X1_23 : Cond.methodLink RX1 23 yX1_runsAt ∈ zT := zmem 485 (by decide +kernel) (by decide +kernel)
theorem km_X5_245 : Cond.methodLink RX5 245 yX1_runsAt ∈ zT := zmem 492 (by decide +kernel) (by decide +kernel)
theorem km_X5_248 : Cond.methodLink RX5 248 yX1_behind ∈ zT := zmem 493 (by decide +kernel) (by decide +kernel)
theorem km_X5_256 : Cond.methodLink RX5 256 yX3_begin ∈ zT := zmem 503 (by decide +kernel) (by decide +kernel)
theorem km_X3_17 : Cond.methodLink RX3 17 yJ7_fill_fb410 ∈ zT := zmem 507 (by decide +kernel) (by decide +kernel)
theorem km_X5_262 : Cond.methodLink RX5 262 yX3_hasRun ∈ zT := zmem 519 (by decide +kernel) (by decide +kernel)
theorem km_X5_265 : Cond.methodLink RX5 265 arraycopyName ∈ zT := zmem 523 (by decide +kernel) (by decide +kernel)
theorem km_X5_271 : Cond.methodLink RX5 271 yX2_standing ∈ zT := zmem 528 (by decide +kernel) (by decide +kernel)
theorem km_X6_75 : Cond.methodLink RX6 75 yX6_isIn ∈ zT := zmem 624 (by decide +kernel) (by decide +kernel)
theorem km_X6_85 : Cond.methodLink RX6 85 yX6_placeOf ∈ zT := zmem 636 (by decide +kernel) (by decide +kernel)
theorem km_X6_89 : Cond.methodLink RX6 89 yX6_pass ∈ zT := zmem 643 (by decide +kernel) (by decide +kernel)
theorem km_X6_92 : Cond.methodLink RX6 92 yX6_leak ∈ zT := zmem 647 (by decide +kernel) (by decide +kernel)
theorem km_X6_96 : Cond.methodLink RX6 96 yX6_exchange ∈ zT := zmem 664 (by decide +kernel) (by decide +kernel)
theorem km_X6_138 : Cond.methodLink RX6 138 yX6_isThere ∈ zT := zmem 672 (by decide +kernel) (by decide +kernel)
theorem km_X6_81 : Cond.methodLink RX6 81 yX6_isStage ∈ zT := zmem 676 (by decide +kernel) (by decide +kernel)
theorem km_X6_143 : Cond.methodLink RX6 143 yX6_flowNow ∈ zT := zmem 681 (by decide +kernel) (by decide +kernel)
theorem km_X6_134 : Cond.methodLink RX6 134 yX6_flowAt ∈ zT := zmem 685 (by decide +kernel) (by decide +kernel)
theorem km_X6_100 : Cond.methodLink RX6 100 yX6_saltOf ∈ zT := zmem 689 (by decide +kernel) (by decide +kernel)
theorem km_X6_130 : Cond.methodLink RX6 130 yX6_vessel ∈ zT := zmem 692 (by decide +kernel) (by decide +kernel)
theorem km_X6_115 : Cond.methodLink RX6 115 yX6_skin ∈ zT := zmem 696 (by decide +kernel) (by decide +kernel)
theorem km_X6_146 : Cond.methodLink RX6 146 yX6_powerAt ∈ zT := zmem 715 (by decide +kernel) (by decide +kernel)
theorem km_X6_153 : Cond.methodLink RX6 153 yX6_failing ∈ zT := zmem 723 (by decide +kernel) (by decide +kernel)
theorem km_X6_150 : Cond.methodLink RX6 150 yX6_skinAt ∈ zT := zmem 727 (by decide +kernel) (by decide +kernel)
theorem km_X6_164 : Cond.methodLink RX6 164 yX6_day ∈ zT := zmem 739 (by decide +kernel) (by decide +kernel)
theorem km_X6_170 : Cond.methodLink RX6 170 yX6_isSheet ∈ zT := zmem 766 (by decide +kernel) (by decide +kernel)
theorem km_X6_184 : Cond.methodLink RX6 184 yX6_isContent ∈ zT := zmem 775 (by decide +kernel) (by decide +kernel)
theorem km_X6_187 : Cond.methodLink RX6 187 yX6_findPlan ∈ zT := zmem 779 (by decide +kernel) (by decide +kernel)
theorem km_X6_181 : Cond.methodLink RX6 181 yX6_costFrom ∈ zT := zmem 783 (by decide +kernel) (by decide +kernel)
theorem km_X6_177 : Cond.methodLink RX6 177 yX6_behind ∈ zT := zmem 787 (by decide +kernel) (by decide +kernel)
theorem km_X6_190 : Cond.methodLink RX6 190 yX6_go ∈ zT := zmem 795 (by decide +kernel) (by decide +kernel)
theorem km_X5_15 : Cond.methodLinkNest RX5 15 yX2_init "SaltPlant" ∈ zNest := znmem 47 (by decide +kernel) (by decide +kernel)
theorem km_X5_25 : Cond.methodLinkNest RX5 25 yX4_init "SaltPlant" ∈ zNest := znmem 64 (by decide +kernel) (by decide +kernel)
theorem km_X5_32 : Cond.methodLinkNest RX5 32 yX0_init "SaltPlant" ∈ zNest := znmem 79 (by decide +kernel) (by decide +kernel)
theorem km_X5_39 : Cond.methodLinkNest RX5 39 yX1_init "SaltPlant" ∈ zNest := znmem 137 (by decide +kernel) (by decide +kernel)
theorem km_X5_46 : Cond.methodLinkNest RX5 46 yX3_init "SaltPlant" ∈ zNest := znmem 157 (by decide +kernel) (by decide +kernel)
theorem km_X0_103 : Cond.methodLinkNest RX0 103 yX5_numberOf "SaltPlant" ∈ zNest := znmem 343 (by decide +kernel) (by decide +kernel)
theorem kl_X5_68 : Cond.constantLong RX5 68 (-9000000000000000001) ∈ zT := zmem 212 (by decide +kernel) (by decide +kernel)
theorem kl_X5_109 : Cond.constantLong RX5 109 (-9000000000000000002) ∈ zT := zmem 279 (by decide +kernel) (by decide +kernel)
theorem kl_X0_88 : Cond.constantLong RX0 88 (100) ∈ zT := zmem 306 (by decide +kernel) (by decide +kernel)
theorem kl_X0_93 : Cond.constantLong RX0 93 (1000) ∈ zT := zmem 313 (by decide +kernel) (by decide +kernel)
theorem kl_X0_95 : Cond.constantLong RX0 95 (2) ∈ zT := zmem 314 (by decide +kernel) (by decide +kernel)
theorem kl_X5_274 : Cond.constantLong RX5 274 (100) ∈ zT := zmem 332 (by decide +kernel) (by decide +kernel)
theorem kl_X0_101 : Cond.constantLong RX0 101 (10) ∈ zT := zmem 342 (by decide +kernel) (by decide +kernel)
theorem kl_X0_106 : Cond.constantLong RX0 106 (-9000000000000000005) ∈ zT := zmem 346 (by decide +kernel) (by decide +kernel)
theorem kl_X4_27 : Cond.constantLong RX4 27 (90) ∈ zT := zmem 370 (by decide +kernel) (by decide +kernel)
theorem kl_X5_170 : Cond.constantLong RX5 170 (-9000000000000000005) ∈ zT := zmem 385 (by decide +kernel) (by decide +kernel)
theorem kl_X5_179 : Cond.constantLong RX5 179 (1000) ∈ zT := zmem 402 (by decide +kernel) (by decide +kernel)
theorem kl_X5_188 : Cond.constantLong RX5 188 (9223372036854775807) ∈ zT := zmem 408 (by decide +kernel) (by decide +kernel)
theorem kl_X5_215 : Cond.constantLong RX5 215 (-9000000000000000011) ∈ zT := zmem 440 (by decide +kernel) (by decide +kernel)
theorem kl_X5_254 : Cond.constantLong RX5 254 (-9000000000000000014) ∈ zT := zmem 502 (by decide +kernel) (by decide +kernel)
theorem kl_X5_260 : Cond.constantLong RX5 260 (-9000000000000000013) ∈ zT := zmem 514 (by decide +kernel) (by decide +kernel)
theorem kl_X6_79 : Cond.constantLong RX6 79 (-9000000000000000001) ∈ zT := zmem 627 (by decide +kernel) (by decide +kernel)
theorem kl_X6_141 : Cond.constantLong RX6 141 (-9000000000000000002) ∈ zT := zmem 680 (by decide +kernel) (by decide +kernel)
theorem kl_X6_104 : Cond.constantLong RX6 104 (100) ∈ zT := zmem 700 (by decide +kernel) (by decide +kernel)
theorem kl_X6_106 : Cond.constantLong RX6 106 (1000) ∈ zT := zmem 701 (by decide +kernel) (by decide +kernel)
theorem kl_X6_119 : Cond.constantLong RX6 119 (2) ∈ zT := zmem 702 (by decide +kernel) (by decide +kernel)
theorem kl_X6_157 : Cond.constantLong RX6 157 (-9000000000000000005) ∈ zT := zmem 730 (by decide +kernel) (by decide +kernel)
theorem kl_X6_162 : Cond.constantLong RX6 162 (90) ∈ zT := zmem 743 (by decide +kernel) (by decide +kernel)
theorem kl_X6_168 : Cond.constantLong RX6 168 (10) ∈ zT := zmem 757 (by decide +kernel) (by decide +kernel)
theorem kl_X6_173 : Cond.constantLong RX6 173 (-9000000000000000011) ∈ zT := zmem 769 (by decide +kernel) (by decide +kernel)
theorem kl_X6_175 : Cond.constantLong RX6 175 (12) ∈ zT := zmem 770 (by decide +kernel) (by decide +kernel)
theorem kl_X6_193 : Cond.constantLong RX6 193 (-9000000000000000014) ∈ zT := zmem 811 (by decide +kernel) (by decide +kernel)
theorem kl_X6_195 : Cond.constantLong RX6 195 (-9000000000000000013) ∈ zT := zmem 816 (by decide +kernel) (by decide +kernel)
theorem kl_X5_100 : Cond.constant RX5 100 (60000) ∈ zT := zmem 258 (by decide +kernel) (by decide +kernel)
theorem kl_X5_181 : Cond.constant RX5 181 (99999) ∈ zT := zmem 407 (by decide +kernel) (by decide +kernel)
theorem kl_X1_22 : Cond.constant RX1 22 (1073741824) ∈ zT := zmem 468 (by decide +kernel) (by decide +kernel)
theorem kl_X6_95 : Cond.constant RX6 95 (60000) ∈ zT := zmem 659 (by decide +kernel) (by decide +kernel)
theorem kl_X6_167 : Cond.constant RX6 167 (99999) ∈ zT := zmem 756 (by decide +kernel) (by decide +kernel)
theorem knat_copy : Cond.native arraycopyName ∈ zT := zmem 471 (by decide +kernel) (by decide +kernel)
theorem kstat_copy : Cond.static arraycopyName ∈ zT := zmem 470 (by decide +kernel) (by decide +kernel)
theorem win_X0 : ∀ w ∈ u_ws RX0 TX0 13, w ∈ zT := fun w h => List.mem_filter.mpr ⟨(show ∀ w ∈ u_ws RX0 TX0 13, w ∈ lw_tbl by decide +kernel) w h, (show ∀ w ∈ u_ws RX0 TX0 13, goodWord w = true by decide +kernel) w h⟩
theorem win_X1 : ∀ w ∈ u_ws RX1 TX1 4, w ∈ zT := fun w h => List.mem_filter.mpr ⟨(show ∀ w ∈ u_ws RX1 TX1 4, w ∈ lw_tbl by decide +kernel) w h, (show ∀ w ∈ u_ws RX1 TX1 4, goodWord w = true by decide +kernel) w h⟩
theorem win_X2 : ∀ w ∈ u_ws RX2 TX2 2, w ∈ zT := fun w h => List.mem_filter.mpr ⟨(show ∀ w ∈ u_ws RX2 TX2 2, w ∈ lw_tbl by decide +kernel) w h, (show ∀ w ∈ u_ws RX2 TX2 2, goodWord w = true by decide +kernel) w h⟩
theorem win_X3 : ∀ w ∈ u_ws RX3 TX3 2, w ∈ zT := fun w h => List.mem_filter.mpr ⟨(show ∀ w ∈ u_ws RX3 TX3 2, w ∈ lw_tbl by decide +kernel) w h, (show ∀ w ∈ u_ws RX3 TX3 2, goodWord w = true by decide +kernel) w h⟩
theorem win_X4 : ∀ w ∈ u_ws RX4 TX4 2, w ∈ zT := fun w h => List.mem_filter.mpr ⟨(show ∀ w ∈ u_ws RX4 TX4 2, w ∈ lw_tbl by decide +kernel) w h, (show ∀ w ∈ u_ws RX4 TX4 2, goodWord w = true by decide +kernel) w h⟩
theorem win_X5 : ∀ w ∈ u_ws RX5 TX5 11, w ∈ zT := fun w h => List.mem_filter.mpr ⟨(show ∀ w ∈ u_ws RX5 TX5 11, w ∈ lw_tbl by decide +kernel) w h, (show ∀ w ∈ u_ws RX5 TX5 11, goodWord w = true by decide +kernel) w h⟩
theorem win_X6 : ∀ w ∈ u_ws RX6 TX6 27, w ∈ zT := fun w h => List.mem_filter.mpr ⟨(show ∀ w ∈ u_ws RX6 TX6 27, w ∈ lw_tbl by decide +kernel) w h, (show ∀ w ∈ u_ws RX6 TX6 27, goodWord w = true by decide +kernel) w h⟩
end
section
/-! Calls by the three forms of a contract's end: zP (a value, the world as it was), zV (a value and a world, by some u), z0 (no value). -/
def zP (v : Value) (w0 : va_W) : Option Value → va_W → Prop := fun r w => r = some v ∧ w = w0
def zV {T : Type} (P : T → Prop) (v : T → Value) (g : T → va_W) : Option Value → va_W → Prop := fun r w => ∃ u, P u ∧ r = some (v u) ∧ w = g u
def z0 {T : Type} (P : T → Prop) (g : T → va_W) : Option Value → va_W → Prop := fun r w => ∃ u, P u ∧ r = none ∧ w = g u
theorem zput_same : ∀ (isC : List Nat) (wc2 ws : va_W), isC.map (fun i => ws[i]?) = wc2.map some → zput ws isC wc2 = ws := by
  intro isC
  induction isC with
  | nil => intro wc2 ws _; cases wc2 <;> rfl
  | cons i isC ih =>
    intro wc2 ws h
    cases wc2 with
    | nil => rfl
    | cons q wc2 =>
      simp only [List.map_cons, List.cons.injEq] at h
      have h1 : ws.set i q = ws := by
        apply List.ext_getElem?
        intro k
        by_cases hk : i = k
        · subst hk
          rw [List.getElem?_set_self', h.1]
          rfl
        · rw [List.getElem?_set_ne hk]
      show zput (ws.set i q) isC wc2 = ws
      rw [h1]
      exact ih wc2 ws h.2
section ZK
variable {l : Launch} {G : zG} {S S2 : zS} {wc wc2 : va_W} {post post2 : Option Value → va_W → Prop} {pc : Nat} {L : List (Option Value)} {st rest As : List Value} {ws : va_W}

theorem cS_P {index n : Nat} {v : Value} (hM : zSem l G S2 As wc2 (zP v wc2)) (hcode : zW S2 ∈ zT) (hlink : Cond.methodLink (zown S) index (zy S2) ∈ zT) (hstat : Cond.static (zy S2) ∈ zT) (hini : Cond.initialized (zy S2).cls ∈ zT) (hok : zOkY S S2 n) (hdg : decode (zcc S) pc = .ok (.invokestatic index, 3)) (isC : List Nat) (hC : isC.map (fun i => ws[i]?) = wc2.map some) (hnd : va_nd isC = true) (hst : st = As.reverse ++ rest) (hn : As.length = n) (hsum : (rest.map fun v => v.category).sum ≤ 8) (kk : AV l G S wc post (pc + 3) L (v :: rest) (ws)) : AV l G S wc post (pc) L (st) (ws) := by
  refine a_callS hM hcode hlink hstat hini hok hdg isC hC hnd hst hn hsum ?_
  rintro _ _ ⟨rfl, rfl⟩ -
  rw [zput_same isC _ ws hC]
  exact kk
theorem cS_V {index n : Nat} {T : Type} {P : T → Prop} {v : T → Value} {g : T → va_W} (hM : zSem l G S2 As wc2 (zV P v g)) (hcode : zW S2 ∈ zT) (hlink : Cond.methodLink (zown S) index (zy S2) ∈ zT) (hstat : Cond.static (zy S2) ∈ zT) (hini : Cond.initialized (zy S2).cls ∈ zT) (hok : zOkY S S2 n) (hdg : decode (zcc S) pc = .ok (.invokestatic index, 3)) (isC : List Nat) (hC : isC.map (fun i => ws[i]?) = wc2.map some) (hnd : va_nd isC = true) (hst : st = As.reverse ++ rest) (hn : As.length = n) (hsum : (rest.map fun v => v.category).sum ≤ 8) (h : T → va_W) (hw : ∀ u, zput ws isC (g u) = h u) (kk : ∀ u, P u → AV l G S wc post (pc + 3) L (v u :: rest) (h u)) : AV l G S wc post (pc) L (st) (ws) := by
  refine a_callS hM hcode hlink hstat hini hok hdg isC hC hnd hst hn hsum ?_
  rintro _ _ ⟨u_, hu_, rfl, rfl⟩ -
  rw [hw u_]
  exact kk u_ hu_
theorem cS_0 {index n : Nat} {T : Type} {P : T → Prop} {g : T → va_W} (hM : zSem l G S2 As wc2 (z0 P g)) (hcode : zW S2 ∈ zT) (hlink : Cond.methodLink (zown S) index (zy S2) ∈ zT) (hstat : Cond.static (zy S2) ∈ zT) (hini : Cond.initialized (zy S2).cls ∈ zT) (hok : zOkY S S2 n) (hdg : decode (zcc S) pc = .ok (.invokestatic index, 3)) (isC : List Nat) (hC : isC.map (fun i => ws[i]?) = wc2.map some) (hnd : va_nd isC = true) (hst : st = As.reverse ++ rest) (hn : As.length = n) (hsum : (rest.map fun v => v.category).sum ≤ 8) (h : T → va_W) (hw : ∀ u, zput ws isC (g u) = h u) (kk : ∀ u, P u → AV l G S wc post (pc + 3) L (rest) (h u)) : AV l G S wc post (pc) L (st) (ws) := by
  refine a_callS hM hcode hlink hstat hini hok hdg isC hC hnd hst hn hsum ?_
  rintro _ _ ⟨u_, hu_, rfl, rfl⟩ -
  rw [hw u_]
  exact kk u_ hu_
theorem cV_P {index n : Nat} {ad : Nat → Nat} {q0 : Nat} {v : Value} (hM : zSem l G S2 (.ref (ad q0) :: As) wc2 (zP v wc2)) (hcode : zW S2 ∈ zT) (hlink : Cond.methodLink (zown S) index (zy S2) ∈ zT) (hin : Cond.instanceMethod (zy S2) ∈ zT) (hsel : Cond.selects (zy S2).cls (zy S2) (zy S2) ∈ zT) (hini : Cond.initialized (zy S2).cls ∈ zT) (hok : zOkY S S2 n) (hdg : decode (zcc S) pc = .ok (.invokevirtual index, 3)) (isC : List Nat) (hC : isC.map (fun i => ws[i]?) = wc2.map some) (hnd : va_nd isC = true) (hst : st = As.reverse ++ .ref (ad q0) :: rest) (hn : As.length = n) (hsum : (rest.map fun v => v.category).sum ≤ 8) {ci : Nat} {qc : vw_C} {fs : List Value} (hq0 : ws[q0]? = some (ad q0, .inr (ci, fs))) (hci : vwCl[ci]? = some qc) (hcl : qc.1 = (zy S2).cls) (kk : AV l G S wc post (pc + 3) L (v :: rest) (ws)) : AV l G S wc post (pc) L (st) (ws) := by
  refine a_callV hM hcode hlink hin hsel hini hok hdg isC hC hnd hst hn hsum hq0 hci hcl ?_
  rintro _ _ ⟨rfl, rfl⟩ -
  rw [zput_same isC _ ws hC]
  exact kk
theorem cV_V {index n : Nat} {ad : Nat → Nat} {q0 : Nat} {T : Type} {P : T → Prop} {v : T → Value} {g : T → va_W} (hM : zSem l G S2 (.ref (ad q0) :: As) wc2 (zV P v g)) (hcode : zW S2 ∈ zT) (hlink : Cond.methodLink (zown S) index (zy S2) ∈ zT) (hin : Cond.instanceMethod (zy S2) ∈ zT) (hsel : Cond.selects (zy S2).cls (zy S2) (zy S2) ∈ zT) (hini : Cond.initialized (zy S2).cls ∈ zT) (hok : zOkY S S2 n) (hdg : decode (zcc S) pc = .ok (.invokevirtual index, 3)) (isC : List Nat) (hC : isC.map (fun i => ws[i]?) = wc2.map some) (hnd : va_nd isC = true) (hst : st = As.reverse ++ .ref (ad q0) :: rest) (hn : As.length = n) (hsum : (rest.map fun v => v.category).sum ≤ 8) {ci : Nat} {qc : vw_C} {fs : List Value} (hq0 : ws[q0]? = some (ad q0, .inr (ci, fs))) (hci : vwCl[ci]? = some qc) (hcl : qc.1 = (zy S2).cls) (h : T → va_W) (hw : ∀ u, zput ws isC (g u) = h u) (kk : ∀ u, P u → AV l G S wc post (pc + 3) L (v u :: rest) (h u)) : AV l G S wc post (pc) L (st) (ws) := by
  refine a_callV hM hcode hlink hin hsel hini hok hdg isC hC hnd hst hn hsum hq0 hci hcl ?_
  rintro _ _ ⟨u_, hu_, rfl, rfl⟩ -
  rw [hw u_]
  exact kk u_ hu_
theorem cV_0 {index n : Nat} {ad : Nat → Nat} {q0 : Nat} {T : Type} {P : T → Prop} {g : T → va_W} (hM : zSem l G S2 (.ref (ad q0) :: As) wc2 (z0 P g)) (hcode : zW S2 ∈ zT) (hlink : Cond.methodLink (zown S) index (zy S2) ∈ zT) (hin : Cond.instanceMethod (zy S2) ∈ zT) (hsel : Cond.selects (zy S2).cls (zy S2) (zy S2) ∈ zT) (hini : Cond.initialized (zy S2).cls ∈ zT) (hok : zOkY S S2 n) (hdg : decode (zcc S) pc = .ok (.invokevirtual index, 3)) (isC : List Nat) (hC : isC.map (fun i => ws[i]?) = wc2.map some) (hnd : va_nd isC = true) (hst : st = As.reverse ++ .ref (ad q0) :: rest) (hn : As.length = n) (hsum : (rest.map fun v => v.category).sum ≤ 8) {ci : Nat} {qc : vw_C} {fs : List Value} (hq0 : ws[q0]? = some (ad q0, .inr (ci, fs))) (hci : vwCl[ci]? = some qc) (hcl : qc.1 = (zy S2).cls) (h : T → va_W) (hw : ∀ u, zput ws isC (g u) = h u) (kk : ∀ u, P u → AV l G S wc post (pc + 3) L (rest) (h u)) : AV l G S wc post (pc) L (st) (ws) := by
  refine a_callV hM hcode hlink hin hsel hini hok hdg isC hC hnd hst hn hsum hq0 hci hcl ?_
  rintro _ _ ⟨u_, hu_, rfl, rfl⟩ -
  rw [hw u_]
  exact kk u_ hu_
theorem cSN_P {index n : Nat} {host : String} {v : Value} (hM : zSem l G S2 As wc2 (zP v wc2)) (hcode : zW S2 ∈ zT) (hlink : Cond.methodLinkNest (zown S) index (zy S2) host ∈ zNest) (hstat : Cond.static (zy S2) ∈ zT) (hini : Cond.initialized (zy S2).cls ∈ zT) (hok : zOkY S S2 n) (hdg : decode (zcc S) pc = .ok (.invokestatic index, 3)) (isC : List Nat) (hC : isC.map (fun i => ws[i]?) = wc2.map some) (hnd : va_nd isC = true) (hst : st = As.reverse ++ rest) (hn : As.length = n) (hsum : (rest.map fun v => v.category).sum ≤ 8) (kk : AV l G S wc post (pc + 3) L (v :: rest) (ws)) : AV l G S wc post (pc) L (st) (ws) := by
  refine a_callSN hM hcode hlink hstat hini hok hdg isC hC hnd hst hn hsum ?_
  rintro _ _ ⟨rfl, rfl⟩ -
  rw [zput_same isC _ ws hC]
  exact kk
theorem cSN_V {index n : Nat} {host : String} {T : Type} {P : T → Prop} {v : T → Value} {g : T → va_W} (hM : zSem l G S2 As wc2 (zV P v g)) (hcode : zW S2 ∈ zT) (hlink : Cond.methodLinkNest (zown S) index (zy S2) host ∈ zNest) (hstat : Cond.static (zy S2) ∈ zT) (hini : Cond.initialized (zy S2).cls ∈ zT) (hok : zOkY S S2 n) (hdg : decode (zcc S) pc = .ok (.invokestatic index, 3)) (isC : List Nat) (hC : isC.map (fun i => ws[i]?) = wc2.map some) (hnd : va_nd isC = true) (hst : st = As.reverse ++ rest) (hn : As.length = n) (hsum : (rest.map fun v => v.category).sum ≤ 8) (h : T → va_W) (hw : ∀ u, zput ws isC (g u) = h u) (kk : ∀ u, P u → AV l G S wc post (pc + 3) L (v u :: rest) (h u)) : AV l G S wc post (pc) L (st) (ws) := by
  refine a_callSN hM hcode hlink hstat hini hok hdg isC hC hnd hst hn hsum ?_
  rintro _ _ ⟨u_, hu_, rfl, rfl⟩ -
  rw [hw u_]
  exact kk u_ hu_
theorem cSN_0 {index n : Nat} {host : String} {T : Type} {P : T → Prop} {g : T → va_W} (hM : zSem l G S2 As wc2 (z0 P g)) (hcode : zW S2 ∈ zT) (hlink : Cond.methodLinkNest (zown S) index (zy S2) host ∈ zNest) (hstat : Cond.static (zy S2) ∈ zT) (hini : Cond.initialized (zy S2).cls ∈ zT) (hok : zOkY S S2 n) (hdg : decode (zcc S) pc = .ok (.invokestatic index, 3)) (isC : List Nat) (hC : isC.map (fun i => ws[i]?) = wc2.map some) (hnd : va_nd isC = true) (hst : st = As.reverse ++ rest) (hn : As.length = n) (hsum : (rest.map fun v => v.category).sum ≤ 8) (h : T → va_W) (hw : ∀ u, zput ws isC (g u) = h u) (kk : ∀ u, P u → AV l G S wc post (pc + 3) L (rest) (h u)) : AV l G S wc post (pc) L (st) (ws) := by
  refine a_callSN hM hcode hlink hstat hini hok hdg isC hC hnd hst hn hsum ?_
  rintro _ _ ⟨u_, hu_, rfl, rfl⟩ -
  rw [hw u_]
  exact kk u_ hu_
end ZK
theorem kn_X5_init : (zy sX5_init).cls ≠ "java/lang/invoke/MethodHandle" ∧ (zy sX5_init).cls ≠ "java/lang/invoke/VarHandle" ∧ (parseMethodDescriptor (zy sX5_init).desc).map (fun d => d.parameters.length) = some 0 := by decide +kernel
theorem kn_X2_init : (zy sX2_init).cls ≠ "java/lang/invoke/MethodHandle" ∧ (zy sX2_init).cls ≠ "java/lang/invoke/VarHandle" ∧ (parseMethodDescriptor (zy sX2_init).desc).map (fun d => d.parameters.length) = some 0 := by decide +kernel
theorem kn_X4_init : (zy sX4_init).cls ≠ "java/lang/invoke/MethodHandle" ∧ (zy sX4_init).cls ≠ "java/lang/invoke/VarHandle" ∧ (parseMethodDescriptor (zy sX4_init).desc).map (fun d => d.parameters.length) = some 0 := by decide +kernel
theorem kn_X0_init : (zy sX0_init).cls ≠ "java/lang/invoke/MethodHandle" ∧ (zy sX0_init).cls ≠ "java/lang/invoke/VarHandle" ∧ (parseMethodDescriptor (zy sX0_init).desc).map (fun d => d.parameters.length) = some 0 := by decide +kernel
theorem kn_X1_init : (zy sX1_init).cls ≠ "java/lang/invoke/MethodHandle" ∧ (zy sX1_init).cls ≠ "java/lang/invoke/VarHandle" ∧ (parseMethodDescriptor (zy sX1_init).desc).map (fun d => d.parameters.length) = some 0 := by decide +kernel
theorem kn_X3_init : (zy sX3_init).cls ≠ "java/lang/invoke/MethodHandle" ∧ (zy sX3_init).cls ≠ "java/lang/invoke/VarHandle" ∧ (parseMethodDescriptor (zy sX3_init).desc).map (fun d => d.parameters.length) = some 0 := by decide +kernel
theorem kn_X5_stage : (zy sX5_stage).cls ≠ "java/lang/invoke/MethodHandle" ∧ (zy sX5_stage).cls ≠ "java/lang/invoke/VarHandle" ∧ (parseMethodDescriptor (zy sX5_stage).desc).map (fun d => d.parameters.length) = some 2 := by decide +kernel
theorem kn_X5_outside : (zy sX5_outside).cls ≠ "java/lang/invoke/MethodHandle" ∧ (zy sX5_outside).cls ≠ "java/lang/invoke/VarHandle" ∧ (parseMethodDescriptor (zy sX5_outside).desc).map (fun d => d.parameters.length) = some 3 := by decide +kernel
theorem kn_X5_length : (zy sX5_length).cls ≠ "java/lang/invoke/MethodHandle" ∧ (zy sX5_length).cls ≠ "java/lang/invoke/VarHandle" ∧ (parseMethodDescriptor (zy sX5_length).desc).map (fun d => d.parameters.length) = some 1 := by decide +kernel
theorem kn_X5_fresh : (zy sX5_fresh).cls ≠ "java/lang/invoke/MethodHandle" ∧ (zy sX5_fresh).cls ≠ "java/lang/invoke/VarHandle" ∧ (parseMethodDescriptor (zy sX5_fresh).desc).map (fun d => d.parameters.length) = some 2 := by decide +kernel
theorem kn_X5_placeOf : (zy sX5_placeOf).cls ≠ "java/lang/invoke/MethodHandle" ∧ (zy sX5_placeOf).cls ≠ "java/lang/invoke/VarHandle" ∧ (parseMethodDescriptor (zy sX5_placeOf).desc).map (fun d => d.parameters.length) = some 1 := by decide +kernel
theorem kn_X4_renew : (zy sX4_renew).cls ≠ "java/lang/invoke/MethodHandle" ∧ (zy sX4_renew).cls ≠ "java/lang/invoke/VarHandle" ∧ (parseMethodDescriptor (zy sX4_renew).desc).map (fun d => d.parameters.length) = some 2 := by decide +kernel
theorem kn_X5_told : (zy sX5_told).cls ≠ "java/lang/invoke/MethodHandle" ∧ (zy sX5_told).cls ≠ "java/lang/invoke/VarHandle" ∧ (parseMethodDescriptor (zy sX5_told).desc).map (fun d => d.parameters.length) = some 2 := by decide +kernel
theorem kn_X4_passAt : (zy sX4_passAt).cls ≠ "java/lang/invoke/MethodHandle" ∧ (zy sX4_passAt).cls ≠ "java/lang/invoke/VarHandle" ∧ (parseMethodDescriptor (zy sX4_passAt).desc).map (fun d => d.parameters.length) = some 1 := by decide +kernel
theorem kn_X4_leakAt : (zy sX4_leakAt).cls ≠ "java/lang/invoke/MethodHandle" ∧ (zy sX4_leakAt).cls ≠ "java/lang/invoke/VarHandle" ∧ (parseMethodDescriptor (zy sX4_leakAt).desc).map (fun d => d.parameters.length) = some 1 := by decide +kernel
theorem kn_X5_isOf : (zy sX5_isOf).cls ≠ "java/lang/invoke/MethodHandle" ∧ (zy sX5_isOf).cls ≠ "java/lang/invoke/VarHandle" ∧ (parseMethodDescriptor (zy sX5_isOf).desc).map (fun d => d.parameters.length) = some 2 := by decide +kernel
theorem kn_X4_isUnder : (zy sX4_isUnder).cls ≠ "java/lang/invoke/MethodHandle" ∧ (zy sX4_isUnder).cls ≠ "java/lang/invoke/VarHandle" ∧ (parseMethodDescriptor (zy sX4_isUnder).desc).map (fun d => d.parameters.length) = some 2 := by decide +kernel
theorem kn_X5_feed : (zy sX5_feed).cls ≠ "java/lang/invoke/MethodHandle" ∧ (zy sX5_feed).cls ≠ "java/lang/invoke/VarHandle" ∧ (parseMethodDescriptor (zy sX5_feed).desc).map (fun d => d.parameters.length) = some 3 := by decide +kernel
theorem kn_X5_change : (zy sX5_change).cls ≠ "java/lang/invoke/MethodHandle" ∧ (zy sX5_change).cls ≠ "java/lang/invoke/VarHandle" ∧ (parseMethodDescriptor (zy sX5_change).desc).map (fun d => d.parameters.length) = some 2 := by decide +kernel
theorem kn_X4_exchange : (zy sX4_exchange).cls ≠ "java/lang/invoke/MethodHandle" ∧ (zy sX4_exchange).cls ≠ "java/lang/invoke/VarHandle" ∧ (parseMethodDescriptor (zy sX4_exchange).desc).map (fun d => d.parameters.length) = some 2 := by decide +kernel
theorem kn_X5_flow : (zy sX5_flow).cls ≠ "java/lang/invoke/MethodHandle" ∧ (zy sX5_flow).cls ≠ "java/lang/invoke/VarHandle" ∧ (parseMethodDescriptor (zy sX5_flow).desc).map (fun d => d.parameters.length) = some 2 := by decide +kernel
theorem kn_X2_holdsSkin : (zy sX2_holdsSkin).cls ≠ "java/lang/invoke/MethodHandle" ∧ (zy sX2_holdsSkin).cls ≠ "java/lang/invoke/VarHandle" ∧ (parseMethodDescriptor (zy sX2_holdsSkin).desc).map (fun d => d.parameters.length) = some 1 := by decide +kernel
theorem kn_X2_vesselsIn : (zy sX2_vesselsIn).cls ≠ "java/lang/invoke/MethodHandle" ∧ (zy sX2_vesselsIn).cls ≠ "java/lang/invoke/VarHandle" ∧ (parseMethodDescriptor (zy sX2_vesselsIn).desc).map (fun d => d.parameters.length) = some 1 := by decide +kernel
theorem kn_X5_letFlow : (zy sX5_letFlow).cls ≠ "java/lang/invoke/MethodHandle" ∧ (zy sX5_letFlow).cls ≠ "java/lang/invoke/VarHandle" ∧ (parseMethodDescriptor (zy sX5_letFlow).desc).map (fun d => d.parameters.length) = some 0 := by decide +kernel
theorem kn_X0_take : (zy sX0_take).cls ≠ "java/lang/invoke/MethodHandle" ∧ (zy sX0_take).cls ≠ "java/lang/invoke/VarHandle" ∧ (parseMethodDescriptor (zy sX0_take).desc).map (fun d => d.parameters.length) = some 1 := by decide +kernel
theorem kn_X0_run : (zy sX0_run).cls ≠ "java/lang/invoke/MethodHandle" ∧ (zy sX0_run).cls ≠ "java/lang/invoke/VarHandle" ∧ (parseMethodDescriptor (zy sX0_run).desc).map (fun d => d.parameters.length) = some 4 := by decide +kernel
theorem kn_X0_runStage : (zy sX0_runStage).cls ≠ "java/lang/invoke/MethodHandle" ∧ (zy sX0_runStage).cls ≠ "java/lang/invoke/VarHandle" ∧ (parseMethodDescriptor (zy sX0_runStage).desc).map (fun d => d.parameters.length) = some 3 := by decide +kernel
theorem kn_X0_saltOf : (zy sX0_saltOf).cls ≠ "java/lang/invoke/MethodHandle" ∧ (zy sX0_saltOf).cls ≠ "java/lang/invoke/VarHandle" ∧ (parseMethodDescriptor (zy sX0_saltOf).desc).map (fun d => d.parameters.length) = some 2 := by decide +kernel
theorem kn_X0_runVessel : (zy sX0_runVessel).cls ≠ "java/lang/invoke/MethodHandle" ∧ (zy sX0_runVessel).cls ≠ "java/lang/invoke/VarHandle" ∧ (parseMethodDescriptor (zy sX0_runVessel).desc).map (fun d => d.parameters.length) = some 4 := by decide +kernel
theorem kn_J9_max_f86c9 : (zy sJ9_max_f86c9).cls ≠ "java/lang/invoke/MethodHandle" ∧ (zy sJ9_max_f86c9).cls ≠ "java/lang/invoke/VarHandle" ∧ (parseMethodDescriptor (zy sJ9_max_f86c9).desc).map (fun d => d.parameters.length) = some 2 := by decide +kernel
theorem kn_J9_min_f86c9 : (zy sJ9_min_f86c9).cls ≠ "java/lang/invoke/MethodHandle" ∧ (zy sJ9_min_f86c9).cls ≠ "java/lang/invoke/VarHandle" ∧ (parseMethodDescriptor (zy sJ9_min_f86c9).desc).map (fun d => d.parameters.length) = some 2 := by decide +kernel
theorem kn_X5_sweet : (zy sX5_sweet).cls ≠ "java/lang/invoke/MethodHandle" ∧ (zy sX5_sweet).cls ≠ "java/lang/invoke/VarHandle" ∧ (parseMethodDescriptor (zy sX5_sweet).desc).map (fun d => d.parameters.length) = some 1 := by decide +kernel
theorem kn_X5_brine : (zy sX5_brine).cls ≠ "java/lang/invoke/MethodHandle" ∧ (zy sX5_brine).cls ≠ "java/lang/invoke/VarHandle" ∧ (parseMethodDescriptor (zy sX5_brine).desc).map (fun d => d.parameters.length) = some 1 := by decide +kernel
theorem kn_X5_power : (zy sX5_power).cls ≠ "java/lang/invoke/MethodHandle" ∧ (zy sX5_power).cls ≠ "java/lang/invoke/VarHandle" ∧ (parseMethodDescriptor (zy sX5_power).desc).map (fun d => d.parameters.length) = some 0 := by decide +kernel
theorem kn_X5_powerAt : (zy sX5_powerAt).cls ≠ "java/lang/invoke/MethodHandle" ∧ (zy sX5_powerAt).cls ≠ "java/lang/invoke/VarHandle" ∧ (parseMethodDescriptor (zy sX5_powerAt).desc).map (fun d => d.parameters.length) = some 1 := by decide +kernel
theorem kn_X5_failure : (zy sX5_failure).cls ≠ "java/lang/invoke/MethodHandle" ∧ (zy sX5_failure).cls ≠ "java/lang/invoke/VarHandle" ∧ (parseMethodDescriptor (zy sX5_failure).desc).map (fun d => d.parameters.length) = some 0 := by decide +kernel
theorem kn_X0_firstFailure : (zy sX0_firstFailure).cls ≠ "java/lang/invoke/MethodHandle" ∧ (zy sX0_firstFailure).cls ≠ "java/lang/invoke/VarHandle" ∧ (parseMethodDescriptor (zy sX0_firstFailure).desc).map (fun d => d.parameters.length) = some 3 := by decide +kernel
theorem kn_X5_numberOf : (zy sX5_numberOf).cls ≠ "java/lang/invoke/MethodHandle" ∧ (zy sX5_numberOf).cls ≠ "java/lang/invoke/VarHandle" ∧ (parseMethodDescriptor (zy sX5_numberOf).desc).map (fun d => d.parameters.length) = some 1 := by decide +kernel
theorem kn_X5_rule : (zy sX5_rule).cls ≠ "java/lang/invoke/MethodHandle" ∧ (zy sX5_rule).cls ≠ "java/lang/invoke/VarHandle" ∧ (parseMethodDescriptor (zy sX5_rule).desc).map (fun d => d.parameters.length) = some 2 := by decide +kernel
theorem kn_X5_days : (zy sX5_days).cls ≠ "java/lang/invoke/MethodHandle" ∧ (zy sX5_days).cls ≠ "java/lang/invoke/VarHandle" ∧ (parseMethodDescriptor (zy sX5_days).desc).map (fun d => d.parameters.length) = some 1 := by decide +kernel
theorem kn_X5_passDay : (zy sX5_passDay).cls ≠ "java/lang/invoke/MethodHandle" ∧ (zy sX5_passDay).cls ≠ "java/lang/invoke/VarHandle" ∧ (parseMethodDescriptor (zy sX5_passDay).desc).map (fun d => d.parameters.length) = some 0 := by decide +kernel
theorem kn_J9_max_7cf53 : (zy sJ9_max_7cf53).cls ≠ "java/lang/invoke/MethodHandle" ∧ (zy sJ9_max_7cf53).cls ≠ "java/lang/invoke/VarHandle" ∧ (parseMethodDescriptor (zy sJ9_max_7cf53).desc).map (fun d => d.parameters.length) = some 2 := by decide +kernel
theorem kn_X4_soil : (zy sX4_soil).cls ≠ "java/lang/invoke/MethodHandle" ∧ (zy sX4_soil).cls ≠ "java/lang/invoke/VarHandle" ∧ (parseMethodDescriptor (zy sX4_soil).desc).map (fun d => d.parameters.length) = some 2 := by decide +kernel
theorem kn_X4_wash : (zy sX4_wash).cls ≠ "java/lang/invoke/MethodHandle" ∧ (zy sX4_wash).cls ≠ "java/lang/invoke/VarHandle" ∧ (parseMethodDescriptor (zy sX4_wash).desc).map (fun d => d.parameters.length) = some 1 := by decide +kernel
theorem kn_X5_foul : (zy sX5_foul).cls ≠ "java/lang/invoke/MethodHandle" ∧ (zy sX5_foul).cls ≠ "java/lang/invoke/VarHandle" ∧ (parseMethodDescriptor (zy sX5_foul).desc).map (fun d => d.parameters.length) = some 1 := by decide +kernel
theorem kn_X5_swap : (zy sX5_swap).cls ≠ "java/lang/invoke/MethodHandle" ∧ (zy sX5_swap).cls ≠ "java/lang/invoke/VarHandle" ∧ (parseMethodDescriptor (zy sX5_swap).desc).map (fun d => d.parameters.length) = some 0 := by decide +kernel
theorem kn_X5_isPair : (zy sX5_isPair).cls ≠ "java/lang/invoke/MethodHandle" ∧ (zy sX5_isPair).cls ≠ "java/lang/invoke/VarHandle" ∧ (parseMethodDescriptor (zy sX5_isPair).desc).map (fun d => d.parameters.length) = some 2 := by decide +kernel
theorem kn_X0_areAlike : (zy sX0_areAlike).cls ≠ "java/lang/invoke/MethodHandle" ∧ (zy sX0_areAlike).cls ≠ "java/lang/invoke/VarHandle" ∧ (parseMethodDescriptor (zy sX0_areAlike).desc).map (fun d => d.parameters.length) = some 2 := by decide +kernel
theorem kn_X5_sweetWaterIfChanged : (zy sX5_sweetWaterIfChanged).cls ≠ "java/lang/invoke/MethodHandle" ∧ (zy sX5_sweetWaterIfChanged).cls ≠ "java/lang/invoke/VarHandle" ∧ (parseMethodDescriptor (zy sX5_sweetWaterIfChanged).desc).map (fun d => d.parameters.length) = some 2 := by decide +kernel
theorem kn_X0_exchange : (zy sX0_exchange).cls ≠ "java/lang/invoke/MethodHandle" ∧ (zy sX0_exchange).cls ≠ "java/lang/invoke/VarHandle" ∧ (parseMethodDescriptor (zy sX0_exchange).desc).map (fun d => d.parameters.length) = some 2 := by decide +kernel
theorem kn_X5_array : (zy sX5_array).cls ≠ "java/lang/invoke/MethodHandle" ∧ (zy sX5_array).cls ≠ "java/lang/invoke/VarHandle" ∧ (parseMethodDescriptor (zy sX5_array).desc).map (fun d => d.parameters.length) = some 2 := by decide +kernel
theorem kn_X2_become : (zy sX2_become).cls ≠ "java/lang/invoke/MethodHandle" ∧ (zy sX2_become).cls ≠ "java/lang/invoke/VarHandle" ∧ (parseMethodDescriptor (zy sX2_become).desc).map (fun d => d.parameters.length) = some 1 := by decide +kernel
theorem kn_X5_suits : (zy sX5_suits).cls ≠ "java/lang/invoke/MethodHandle" ∧ (zy sX5_suits).cls ≠ "java/lang/invoke/VarHandle" ∧ (parseMethodDescriptor (zy sX5_suits).desc).map (fun d => d.parameters.length) = some 2 := by decide +kernel
theorem kn_X2_digits : (zy sX2_digits).cls ≠ "java/lang/invoke/MethodHandle" ∧ (zy sX2_digits).cls ≠ "java/lang/invoke/VarHandle" ∧ (parseMethodDescriptor (zy sX2_digits).desc).map (fun d => d.parameters.length) = some 0 := by decide +kernel
theorem kn_X5_hour : (zy sX5_hour).cls ≠ "java/lang/invoke/MethodHandle" ∧ (zy sX5_hour).cls ≠ "java/lang/invoke/VarHandle" ∧ (parseMethodDescriptor (zy sX5_hour).desc).map (fun d => d.parameters.length) = some 3 := by decide +kernel
theorem kn_X1_mostOf : (zy sX1_mostOf).cls ≠ "java/lang/invoke/MethodHandle" ∧ (zy sX1_mostOf).cls ≠ "java/lang/invoke/VarHandle" ∧ (parseMethodDescriptor (zy sX1_mostOf).desc).map (fun d => d.parameters.length) = some 1 := by decide +kernel
theorem kn_X1_rowOf : (zy sX1_rowOf).cls ≠ "java/lang/invoke/MethodHandle" ∧ (zy sX1_rowOf).cls ≠ "java/lang/invoke/VarHandle" ∧ (parseMethodDescriptor (zy sX1_rowOf).desc).map (fun d => d.parameters.length) = some 1 := by decide +kernel
theorem kn_X5_lay : (zy sX5_lay).cls ≠ "java/lang/invoke/MethodHandle" ∧ (zy sX5_lay).cls ≠ "java/lang/invoke/VarHandle" ∧ (parseMethodDescriptor (zy sX5_lay).desc).map (fun d => d.parameters.length) = some 2 := by decide +kernel
theorem kn_X3_isMissing : (zy sX3_isMissing).cls ≠ "java/lang/invoke/MethodHandle" ∧ (zy sX3_isMissing).cls ≠ "java/lang/invoke/VarHandle" ∧ (parseMethodDescriptor (zy sX3_isMissing).desc).map (fun d => d.parameters.length) = some 0 := by decide +kernel
theorem kn_X3_has : (zy sX3_has).cls ≠ "java/lang/invoke/MethodHandle" ∧ (zy sX3_has).cls ≠ "java/lang/invoke/VarHandle" ∧ (parseMethodDescriptor (zy sX3_has).desc).map (fun d => d.parameters.length) = some 1 := by decide +kernel
theorem kn_J9_min_7cf53 : (zy sJ9_min_7cf53).cls ≠ "java/lang/invoke/MethodHandle" ∧ (zy sJ9_min_7cf53).cls ≠ "java/lang/invoke/VarHandle" ∧ (parseMethodDescriptor (zy sJ9_min_7cf53).desc).map (fun d => d.parameters.length) = some 2 := by decide +kernel
theorem kn_X5_plan : (zy sX5_plan).cls ≠ "java/lang/invoke/MethodHandle" ∧ (zy sX5_plan).cls ≠ "java/lang/invoke/VarHandle" ∧ (parseMethodDescriptor (zy sX5_plan).desc).map (fun d => d.parameters.length) = some 1 := by decide +kernel
theorem kn_X1_best : (zy sX1_best).cls ≠ "java/lang/invoke/MethodHandle" ∧ (zy sX1_best).cls ≠ "java/lang/invoke/VarHandle" ∧ (parseMethodDescriptor (zy sX1_best).desc).map (fun d => d.parameters.length) = some 3 := by decide +kernel
theorem kn_J7_fill_53178 : (zy sJ7_fill_53178).cls ≠ "java/lang/invoke/MethodHandle" ∧ (zy sJ7_fill_53178).cls ≠ "java/lang/invoke/VarHandle" ∧ (parseMethodDescriptor (zy sJ7_fill_53178).desc).map (fun d => d.parameters.length) = some 2 := by decide +kernel
theorem kn_X1_behind : (zy sX1_behind).cls ≠ "java/lang/invoke/MethodHandle" ∧ (zy sX1_behind).cls ≠ "java/lang/invoke/VarHandle" ∧ (parseMethodDescriptor (zy sX1_behind).desc).map (fun d => d.parameters.length) = some 3 := by decide +kernel
theorem kn_X1_laterAt : (zy sX1_laterAt).cls ≠ "java/lang/invoke/MethodHandle" ∧ (zy sX1_laterAt).cls ≠ "java/lang/invoke/VarHandle" ∧ (parseMethodDescriptor (zy sX1_laterAt).desc).map (fun d => d.parameters.length) = some 1 := by decide +kernel
theorem kn_X1_isPlan : (zy sX1_isPlan).cls ≠ "java/lang/invoke/MethodHandle" ∧ (zy sX1_isPlan).cls ≠ "java/lang/invoke/VarHandle" ∧ (parseMethodDescriptor (zy sX1_isPlan).desc).map (fun d => d.parameters.length) = some 1 := by decide +kernel
theorem kn_X1_costOf : (zy sX1_costOf).cls ≠ "java/lang/invoke/MethodHandle" ∧ (zy sX1_costOf).cls ≠ "java/lang/invoke/VarHandle" ∧ (parseMethodDescriptor (zy sX1_costOf).desc).map (fun d => d.parameters.length) = some 1 := by decide +kernel
theorem kn_X5_runs : (zy sX5_runs).cls ≠ "java/lang/invoke/MethodHandle" ∧ (zy sX5_runs).cls ≠ "java/lang/invoke/VarHandle" ∧ (parseMethodDescriptor (zy sX5_runs).desc).map (fun d => d.parameters.length) = some 1 := by decide +kernel
theorem kn_X1_bitsOf : (zy sX1_bitsOf).cls ≠ "java/lang/invoke/MethodHandle" ∧ (zy sX1_bitsOf).cls ≠ "java/lang/invoke/VarHandle" ∧ (parseMethodDescriptor (zy sX1_bitsOf).desc).map (fun d => d.parameters.length) = some 1 := by decide +kernel
theorem kn_X1_runsAt : (zy sX1_runsAt).cls ≠ "java/lang/invoke/MethodHandle" ∧ (zy sX1_runsAt).cls ≠ "java/lang/invoke/VarHandle" ∧ (parseMethodDescriptor (zy sX1_runsAt).desc).map (fun d => d.parameters.length) = some 2 := by decide +kernel
theorem kn_X5_tank : (zy sX5_tank).cls ≠ "java/lang/invoke/MethodHandle" ∧ (zy sX5_tank).cls ≠ "java/lang/invoke/VarHandle" ∧ (parseMethodDescriptor (zy sX5_tank).desc).map (fun d => d.parameters.length) = some 2 := by decide +kernel
theorem kn_X5_joint : (zy sX5_joint).cls ≠ "java/lang/invoke/MethodHandle" ∧ (zy sX5_joint).cls ≠ "java/lang/invoke/VarHandle" ∧ (parseMethodDescriptor (zy sX5_joint).desc).map (fun d => d.parameters.length) = some 3 := by decide +kernel
theorem kn_X5_sheet : (zy sX5_sheet).cls ≠ "java/lang/invoke/MethodHandle" ∧ (zy sX5_sheet).cls ≠ "java/lang/invoke/VarHandle" ∧ (parseMethodDescriptor (zy sX5_sheet).desc).map (fun d => d.parameters.length) = some 2 := by decide +kernel
theorem kn_X3_begin : (zy sX3_begin).cls ≠ "java/lang/invoke/MethodHandle" ∧ (zy sX3_begin).cls ≠ "java/lang/invoke/VarHandle" ∧ (parseMethodDescriptor (zy sX3_begin).desc).map (fun d => d.parameters.length) = some 1 := by decide +kernel
theorem kn_J7_fill_fb410 : (zy sJ7_fill_fb410).cls ≠ "java/lang/invoke/MethodHandle" ∧ (zy sJ7_fill_fb410).cls ≠ "java/lang/invoke/VarHandle" ∧ (parseMethodDescriptor (zy sJ7_fill_fb410).desc).map (fun d => d.parameters.length) = some 2 := by decide +kernel
theorem kn_X5_mark : (zy sX5_mark).cls ≠ "java/lang/invoke/MethodHandle" ∧ (zy sX5_mark).cls ≠ "java/lang/invoke/VarHandle" ∧ (parseMethodDescriptor (zy sX5_mark).desc).map (fun d => d.parameters.length) = some 3 := by decide +kernel
theorem kn_X5_copy : (zy sX5_copy).cls ≠ "java/lang/invoke/MethodHandle" ∧ (zy sX5_copy).cls ≠ "java/lang/invoke/VarHandle" ∧ (parseMethodDescriptor (zy sX5_copy).desc).map (fun d => d.parameters.length) = some 5 := by decide +kernel
theorem kn_X3_hasRun : (zy sX3_hasRun).cls ≠ "java/lang/invoke/MethodHandle" ∧ (zy sX3_hasRun).cls ≠ "java/lang/invoke/VarHandle" ∧ (parseMethodDescriptor (zy sX3_hasRun).desc).map (fun d => d.parameters.length) = some 2 := by decide +kernel
theorem kn_X5_count : (zy sX5_count).cls ≠ "java/lang/invoke/MethodHandle" ∧ (zy sX5_count).cls ≠ "java/lang/invoke/VarHandle" ∧ (parseMethodDescriptor (zy sX5_count).desc).map (fun d => d.parameters.length) = some 1 := by decide +kernel
theorem kn_X2_standing : (zy sX2_standing).cls ≠ "java/lang/invoke/MethodHandle" ∧ (zy sX2_standing).cls ≠ "java/lang/invoke/VarHandle" ∧ (parseMethodDescriptor (zy sX2_standing).desc).map (fun d => d.parameters.length) = some 0 := by decide +kernel
theorem kn_X6_init : (zy sX6_init).cls ≠ "java/lang/invoke/MethodHandle" ∧ (zy sX6_init).cls ≠ "java/lang/invoke/VarHandle" ∧ (parseMethodDescriptor (zy sX6_init).desc).map (fun d => d.parameters.length) = some 0 := by decide +kernel
theorem kn_X6_stage : (zy sX6_stage).cls ≠ "java/lang/invoke/MethodHandle" ∧ (zy sX6_stage).cls ≠ "java/lang/invoke/VarHandle" ∧ (parseMethodDescriptor (zy sX6_stage).desc).map (fun d => d.parameters.length) = some 2 := by decide +kernel
theorem kn_X6_isIn : (zy sX6_isIn).cls ≠ "java/lang/invoke/MethodHandle" ∧ (zy sX6_isIn).cls ≠ "java/lang/invoke/VarHandle" ∧ (parseMethodDescriptor (zy sX6_isIn).desc).map (fun d => d.parameters.length) = some 3 := by decide +kernel
theorem kn_X6_length : (zy sX6_length).cls ≠ "java/lang/invoke/MethodHandle" ∧ (zy sX6_length).cls ≠ "java/lang/invoke/VarHandle" ∧ (parseMethodDescriptor (zy sX6_length).desc).map (fun d => d.parameters.length) = some 1 := by decide +kernel
theorem kn_X6_fresh : (zy sX6_fresh).cls ≠ "java/lang/invoke/MethodHandle" ∧ (zy sX6_fresh).cls ≠ "java/lang/invoke/VarHandle" ∧ (parseMethodDescriptor (zy sX6_fresh).desc).map (fun d => d.parameters.length) = some 2 := by decide +kernel
theorem kn_X6_placeOf : (zy sX6_placeOf).cls ≠ "java/lang/invoke/MethodHandle" ∧ (zy sX6_placeOf).cls ≠ "java/lang/invoke/VarHandle" ∧ (parseMethodDescriptor (zy sX6_placeOf).desc).map (fun d => d.parameters.length) = some 1 := by decide +kernel
theorem kn_X6_told : (zy sX6_told).cls ≠ "java/lang/invoke/MethodHandle" ∧ (zy sX6_told).cls ≠ "java/lang/invoke/VarHandle" ∧ (parseMethodDescriptor (zy sX6_told).desc).map (fun d => d.parameters.length) = some 2 := by decide +kernel
theorem kn_X6_pass : (zy sX6_pass).cls ≠ "java/lang/invoke/MethodHandle" ∧ (zy sX6_pass).cls ≠ "java/lang/invoke/VarHandle" ∧ (parseMethodDescriptor (zy sX6_pass).desc).map (fun d => d.parameters.length) = some 1 := by decide +kernel
theorem kn_X6_leak : (zy sX6_leak).cls ≠ "java/lang/invoke/MethodHandle" ∧ (zy sX6_leak).cls ≠ "java/lang/invoke/VarHandle" ∧ (parseMethodDescriptor (zy sX6_leak).desc).map (fun d => d.parameters.length) = some 1 := by decide +kernel
theorem kn_X6_isOf : (zy sX6_isOf).cls ≠ "java/lang/invoke/MethodHandle" ∧ (zy sX6_isOf).cls ≠ "java/lang/invoke/VarHandle" ∧ (parseMethodDescriptor (zy sX6_isOf).desc).map (fun d => d.parameters.length) = some 2 := by decide +kernel
theorem kn_X6_feed : (zy sX6_feed).cls ≠ "java/lang/invoke/MethodHandle" ∧ (zy sX6_feed).cls ≠ "java/lang/invoke/VarHandle" ∧ (parseMethodDescriptor (zy sX6_feed).desc).map (fun d => d.parameters.length) = some 3 := by decide +kernel
theorem kn_X6_change : (zy sX6_change).cls ≠ "java/lang/invoke/MethodHandle" ∧ (zy sX6_change).cls ≠ "java/lang/invoke/VarHandle" ∧ (parseMethodDescriptor (zy sX6_change).desc).map (fun d => d.parameters.length) = some 2 := by decide +kernel
theorem kn_X6_exchange : (zy sX6_exchange).cls ≠ "java/lang/invoke/MethodHandle" ∧ (zy sX6_exchange).cls ≠ "java/lang/invoke/VarHandle" ∧ (parseMethodDescriptor (zy sX6_exchange).desc).map (fun d => d.parameters.length) = some 2 := by decide +kernel
theorem kn_X6_flow : (zy sX6_flow).cls ≠ "java/lang/invoke/MethodHandle" ∧ (zy sX6_flow).cls ≠ "java/lang/invoke/VarHandle" ∧ (parseMethodDescriptor (zy sX6_flow).desc).map (fun d => d.parameters.length) = some 2 := by decide +kernel
theorem kn_X6_isThere : (zy sX6_isThere).cls ≠ "java/lang/invoke/MethodHandle" ∧ (zy sX6_isThere).cls ≠ "java/lang/invoke/VarHandle" ∧ (parseMethodDescriptor (zy sX6_isThere).desc).map (fun d => d.parameters.length) = some 1 := by decide +kernel
theorem kn_X6_isStage : (zy sX6_isStage).cls ≠ "java/lang/invoke/MethodHandle" ∧ (zy sX6_isStage).cls ≠ "java/lang/invoke/VarHandle" ∧ (parseMethodDescriptor (zy sX6_isStage).desc).map (fun d => d.parameters.length) = some 1 := by decide +kernel
theorem kn_X6_flowNow : (zy sX6_flowNow).cls ≠ "java/lang/invoke/MethodHandle" ∧ (zy sX6_flowNow).cls ≠ "java/lang/invoke/VarHandle" ∧ (parseMethodDescriptor (zy sX6_flowNow).desc).map (fun d => d.parameters.length) = some 0 := by decide +kernel
theorem kn_X6_flowAt : (zy sX6_flowAt).cls ≠ "java/lang/invoke/MethodHandle" ∧ (zy sX6_flowAt).cls ≠ "java/lang/invoke/VarHandle" ∧ (parseMethodDescriptor (zy sX6_flowAt).desc).map (fun d => d.parameters.length) = some 1 := by decide +kernel
theorem kn_X6_saltOf : (zy sX6_saltOf).cls ≠ "java/lang/invoke/MethodHandle" ∧ (zy sX6_saltOf).cls ≠ "java/lang/invoke/VarHandle" ∧ (parseMethodDescriptor (zy sX6_saltOf).desc).map (fun d => d.parameters.length) = some 2 := by decide +kernel
theorem kn_X6_vessel : (zy sX6_vessel).cls ≠ "java/lang/invoke/MethodHandle" ∧ (zy sX6_vessel).cls ≠ "java/lang/invoke/VarHandle" ∧ (parseMethodDescriptor (zy sX6_vessel).desc).map (fun d => d.parameters.length) = some 5 := by decide +kernel
theorem kn_X6_skin : (zy sX6_skin).cls ≠ "java/lang/invoke/MethodHandle" ∧ (zy sX6_skin).cls ≠ "java/lang/invoke/VarHandle" ∧ (parseMethodDescriptor (zy sX6_skin).desc).map (fun d => d.parameters.length) = some 4 := by decide +kernel
theorem kn_X6_sweet : (zy sX6_sweet).cls ≠ "java/lang/invoke/MethodHandle" ∧ (zy sX6_sweet).cls ≠ "java/lang/invoke/VarHandle" ∧ (parseMethodDescriptor (zy sX6_sweet).desc).map (fun d => d.parameters.length) = some 1 := by decide +kernel
theorem kn_X6_brine : (zy sX6_brine).cls ≠ "java/lang/invoke/MethodHandle" ∧ (zy sX6_brine).cls ≠ "java/lang/invoke/VarHandle" ∧ (parseMethodDescriptor (zy sX6_brine).desc).map (fun d => d.parameters.length) = some 1 := by decide +kernel
theorem kn_X6_power : (zy sX6_power).cls ≠ "java/lang/invoke/MethodHandle" ∧ (zy sX6_power).cls ≠ "java/lang/invoke/VarHandle" ∧ (parseMethodDescriptor (zy sX6_power).desc).map (fun d => d.parameters.length) = some 0 := by decide +kernel
theorem kn_X6_powerAt : (zy sX6_powerAt).cls ≠ "java/lang/invoke/MethodHandle" ∧ (zy sX6_powerAt).cls ≠ "java/lang/invoke/VarHandle" ∧ (parseMethodDescriptor (zy sX6_powerAt).desc).map (fun d => d.parameters.length) = some 1 := by decide +kernel
theorem kn_X6_failure : (zy sX6_failure).cls ≠ "java/lang/invoke/MethodHandle" ∧ (zy sX6_failure).cls ≠ "java/lang/invoke/VarHandle" ∧ (parseMethodDescriptor (zy sX6_failure).desc).map (fun d => d.parameters.length) = some 0 := by decide +kernel
theorem kn_X6_failing : (zy sX6_failing).cls ≠ "java/lang/invoke/MethodHandle" ∧ (zy sX6_failing).cls ≠ "java/lang/invoke/VarHandle" ∧ (parseMethodDescriptor (zy sX6_failing).desc).map (fun d => d.parameters.length) = some 0 := by decide +kernel
theorem kn_X6_skinAt : (zy sX6_skinAt).cls ≠ "java/lang/invoke/MethodHandle" ∧ (zy sX6_skinAt).cls ≠ "java/lang/invoke/VarHandle" ∧ (parseMethodDescriptor (zy sX6_skinAt).desc).map (fun d => d.parameters.length) = some 1 := by decide +kernel
theorem kn_X6_rule : (zy sX6_rule).cls ≠ "java/lang/invoke/MethodHandle" ∧ (zy sX6_rule).cls ≠ "java/lang/invoke/VarHandle" ∧ (parseMethodDescriptor (zy sX6_rule).desc).map (fun d => d.parameters.length) = some 2 := by decide +kernel
theorem kn_X6_days : (zy sX6_days).cls ≠ "java/lang/invoke/MethodHandle" ∧ (zy sX6_days).cls ≠ "java/lang/invoke/VarHandle" ∧ (parseMethodDescriptor (zy sX6_days).desc).map (fun d => d.parameters.length) = some 1 := by decide +kernel
theorem kn_X6_day : (zy sX6_day).cls ≠ "java/lang/invoke/MethodHandle" ∧ (zy sX6_day).cls ≠ "java/lang/invoke/VarHandle" ∧ (parseMethodDescriptor (zy sX6_day).desc).map (fun d => d.parameters.length) = some 0 := by decide +kernel
theorem kn_X6_foul : (zy sX6_foul).cls ≠ "java/lang/invoke/MethodHandle" ∧ (zy sX6_foul).cls ≠ "java/lang/invoke/VarHandle" ∧ (parseMethodDescriptor (zy sX6_foul).desc).map (fun d => d.parameters.length) = some 1 := by decide +kernel
theorem kn_X6_swap : (zy sX6_swap).cls ≠ "java/lang/invoke/MethodHandle" ∧ (zy sX6_swap).cls ≠ "java/lang/invoke/VarHandle" ∧ (parseMethodDescriptor (zy sX6_swap).desc).map (fun d => d.parameters.length) = some 0 := by decide +kernel
theorem kn_X6_array : (zy sX6_array).cls ≠ "java/lang/invoke/MethodHandle" ∧ (zy sX6_array).cls ≠ "java/lang/invoke/VarHandle" ∧ (parseMethodDescriptor (zy sX6_array).desc).map (fun d => d.parameters.length) = some 2 := by decide +kernel
theorem kn_X6_hour : (zy sX6_hour).cls ≠ "java/lang/invoke/MethodHandle" ∧ (zy sX6_hour).cls ≠ "java/lang/invoke/VarHandle" ∧ (parseMethodDescriptor (zy sX6_hour).desc).map (fun d => d.parameters.length) = some 3 := by decide +kernel
theorem kn_X6_lay : (zy sX6_lay).cls ≠ "java/lang/invoke/MethodHandle" ∧ (zy sX6_lay).cls ≠ "java/lang/invoke/VarHandle" ∧ (parseMethodDescriptor (zy sX6_lay).desc).map (fun d => d.parameters.length) = some 2 := by decide +kernel
theorem kn_X6_isSheet : (zy sX6_isSheet).cls ≠ "java/lang/invoke/MethodHandle" ∧ (zy sX6_isSheet).cls ≠ "java/lang/invoke/VarHandle" ∧ (parseMethodDescriptor (zy sX6_isSheet).desc).map (fun d => d.parameters.length) = some 1 := by decide +kernel
theorem kn_X6_plan : (zy sX6_plan).cls ≠ "java/lang/invoke/MethodHandle" ∧ (zy sX6_plan).cls ≠ "java/lang/invoke/VarHandle" ∧ (parseMethodDescriptor (zy sX6_plan).desc).map (fun d => d.parameters.length) = some 1 := by decide +kernel
theorem kn_X6_isContent : (zy sX6_isContent).cls ≠ "java/lang/invoke/MethodHandle" ∧ (zy sX6_isContent).cls ≠ "java/lang/invoke/VarHandle" ∧ (parseMethodDescriptor (zy sX6_isContent).desc).map (fun d => d.parameters.length) = some 1 := by decide +kernel
theorem kn_X6_findPlan : (zy sX6_findPlan).cls ≠ "java/lang/invoke/MethodHandle" ∧ (zy sX6_findPlan).cls ≠ "java/lang/invoke/VarHandle" ∧ (parseMethodDescriptor (zy sX6_findPlan).desc).map (fun d => d.parameters.length) = some 0 := by decide +kernel
theorem kn_X6_costFrom : (zy sX6_costFrom).cls ≠ "java/lang/invoke/MethodHandle" ∧ (zy sX6_costFrom).cls ≠ "java/lang/invoke/VarHandle" ∧ (parseMethodDescriptor (zy sX6_costFrom).desc).map (fun d => d.parameters.length) = some 3 := by decide +kernel
theorem kn_X6_behind : (zy sX6_behind).cls ≠ "java/lang/invoke/MethodHandle" ∧ (zy sX6_behind).cls ≠ "java/lang/invoke/VarHandle" ∧ (parseMethodDescriptor (zy sX6_behind).desc).map (fun d => d.parameters.length) = some 3 := by decide +kernel
theorem kn_X6_runs : (zy sX6_runs).cls ≠ "java/lang/invoke/MethodHandle" ∧ (zy sX6_runs).cls ≠ "java/lang/invoke/VarHandle" ∧ (parseMethodDescriptor (zy sX6_runs).desc).map (fun d => d.parameters.length) = some 1 := by decide +kernel
theorem kn_X6_go : (zy sX6_go).cls ≠ "java/lang/invoke/MethodHandle" ∧ (zy sX6_go).cls ≠ "java/lang/invoke/VarHandle" ∧ (parseMethodDescriptor (zy sX6_go).desc).map (fun d => d.parameters.length) = some 1 := by decide +kernel
theorem kn_X6_tank : (zy sX6_tank).cls ≠ "java/lang/invoke/MethodHandle" ∧ (zy sX6_tank).cls ≠ "java/lang/invoke/VarHandle" ∧ (parseMethodDescriptor (zy sX6_tank).desc).map (fun d => d.parameters.length) = some 2 := by decide +kernel
theorem kn_X6_joint : (zy sX6_joint).cls ≠ "java/lang/invoke/MethodHandle" ∧ (zy sX6_joint).cls ≠ "java/lang/invoke/VarHandle" ∧ (parseMethodDescriptor (zy sX6_joint).desc).map (fun d => d.parameters.length) = some 3 := by decide +kernel
theorem kn_X6_sheet : (zy sX6_sheet).cls ≠ "java/lang/invoke/MethodHandle" ∧ (zy sX6_sheet).cls ≠ "java/lang/invoke/VarHandle" ∧ (parseMethodDescriptor (zy sX6_sheet).desc).map (fun d => d.parameters.length) = some 2 := by decide +kernel
theorem kn_X6_mark : (zy sX6_mark).cls ≠ "java/lang/invoke/MethodHandle" ∧ (zy sX6_mark).cls ≠ "java/lang/invoke/VarHandle" ∧ (parseMethodDescriptor (zy sX6_mark).desc).map (fun d => d.parameters.length) = some 3 := by decide +kernel
theorem kn_X6_copy : (zy sX6_copy).cls ≠ "java/lang/invoke/MethodHandle" ∧ (zy sX6_copy).cls ≠ "java/lang/invoke/VarHandle" ∧ (parseMethodDescriptor (zy sX6_copy).desc).map (fun d => d.parameters.length) = some 5 := by decide +kernel
theorem kn_X6_count : (zy sX6_count).cls ≠ "java/lang/invoke/MethodHandle" ∧ (zy sX6_count).cls ≠ "java/lang/invoke/VarHandle" ∧ (parseMethodDescriptor (zy sX6_count).desc).map (fun d => d.parameters.length) = some 1 := by decide +kernel
/-- an index that is in a row -/
theorem zin {i : Int32} {n : Nat} (h1 : 0 ≤ i.toInt) (h2 : i.toInt < n) : vp_in i n := by
  rintro (h | h)
  · have := Int32.lt_iff_toInt_lt.mp h
    simp at this
    omega
  · have : n ≤ i.toInt.toNat := h
    omega
theorem zinN {k n : Nat} (h : k < n) (h2 : n < 2 ^ 31) : vp_in (nI k) n := nI_in h h2
def zpk (ad : Nat → Nat) (ps : List Nat) : Nat → Nat := fun k => ad (ps.getD k 0)
end
section
/-! Numbers: Int32 and Int64 by their integers. -/
theorem i_bd (x : Int32) : -2147483648 ≤ x.toInt ∧ x.toInt < 2147483648 := ⟨x.le_toInt, x.toInt_lt⟩
theorem j_bd (x : Int64) : -9223372036854775808 ≤ x.toInt ∧ x.toInt < 9223372036854775808 := ⟨x.le_toInt, x.toInt_lt⟩
theorem i_bm {n : Int} (h1 : -2147483648 ≤ n) (h2 : n < 2147483648) : n.bmod (2 ^ 32) = n := Int.bmod_eq_of_le (by omega) (by omega)
theorem j_bm {n : Int} (h1 : -9223372036854775808 ≤ n) (h2 : n < 9223372036854775808) : n.bmod (2 ^ 64) = n := Int.bmod_eq_of_le (by omega) (by omega)
theorem i_add {x y : Int32} (h1 : -2147483648 ≤ x.toInt + y.toInt) (h2 : x.toInt + y.toInt < 2147483648) : (x + y).toInt = x.toInt + y.toInt := by
  rw [Int32.toInt_add]; exact i_bm h1 h2
theorem i_sub {x y : Int32} (h1 : -2147483648 ≤ x.toInt - y.toInt) (h2 : x.toInt - y.toInt < 2147483648) : (x - y).toInt = x.toInt - y.toInt := by
  rw [Int32.toInt_sub]; exact i_bm h1 h2
theorem i_mul {x y : Int32} (h1 : -2147483648 ≤ x.toInt * y.toInt) (h2 : x.toInt * y.toInt < 2147483648) : (x * y).toInt = x.toInt * y.toInt := by
  rw [Int32.toInt_mul]; exact i_bm h1 h2
theorem i_div {x y : Int32} (h1 : 0 ≤ x.toInt) (h2 : 0 < y.toInt) : (x / y).toInt = x.toInt / y.toInt := by
  rw [Int32.toInt_div, Int.tdiv_eq_ediv_of_nonneg h1]
  have h3 : 0 ≤ x.toInt / y.toInt := Int.ediv_nonneg h1 (by omega)
  have h4 : x.toInt / y.toInt ≤ x.toInt := Int.ediv_le_self _ h1
  have h5 := i_bd x
  exact i_bm (by omega) (by omega)
theorem i_rem {x y : Int32} (h1 : 0 ≤ x.toInt) (h2 : 0 < y.toInt) : (x - x / y * y).toInt = x.toInt % y.toInt := by
  have h3 := i_div h1 h2
  have h4 : x.toInt / y.toInt * y.toInt ≤ x.toInt := Int.ediv_mul_le _ (by omega)
  have h5 : 0 ≤ x.toInt / y.toInt * y.toInt := Int.mul_nonneg (Int.ediv_nonneg h1 (by omega)) (by omega)
  have h6 := i_bd x
  have h7 : (x / y * y).toInt = x.toInt / y.toInt * y.toInt := by rw [i_mul (by rw [h3]; omega) (by rw [h3]; omega), h3]
  rw [i_sub (by rw [h7]; omega) (by rw [h7]; omega), h7]
  have := Int.emod_add_mul_ediv x.toInt y.toInt
  have h8 := Int.mul_comm (x.toInt / y.toInt) y.toInt
  omega
theorem j_add {x y : Int64} (h1 : -9223372036854775808 ≤ x.toInt + y.toInt) (h2 : x.toInt + y.toInt < 9223372036854775808) : (x + y).toInt = x.toInt + y.toInt := by
  rw [Int64.toInt_add]; exact j_bm h1 h2
theorem j_sub {x y : Int64} (h1 : -9223372036854775808 ≤ x.toInt - y.toInt) (h2 : x.toInt - y.toInt < 9223372036854775808) : (x - y).toInt = x.toInt - y.toInt := by
  rw [Int64.toInt_sub]; exact j_bm h1 h2
theorem j_mul {x y : Int64} (h1 : -9223372036854775808 ≤ x.toInt * y.toInt) (h2 : x.toInt * y.toInt < 9223372036854775808) : (x * y).toInt = x.toInt * y.toInt := by
  rw [Int64.toInt_mul]; exact j_bm h1 h2
theorem j_div {x y : Int64} (h1 : 0 ≤ x.toInt) (h2 : 0 < y.toInt) : (x / y).toInt = x.toInt / y.toInt := by
  rw [Int64.toInt_div, Int.tdiv_eq_ediv_of_nonneg h1]
  have h3 : 0 ≤ x.toInt / y.toInt := Int.ediv_nonneg h1 (by omega)
  have h4 : x.toInt / y.toInt ≤ x.toInt := Int.ediv_le_self _ h1
  have h5 := j_bd x
  exact j_bm (by omega) (by omega)
theorem j_rem {x y : Int64} (h1 : 0 ≤ x.toInt) (h2 : 0 < y.toInt) : (x - x / y * y).toInt = x.toInt % y.toInt := by
  have h3 := j_div h1 h2
  have h4 : x.toInt / y.toInt * y.toInt ≤ x.toInt := Int.ediv_mul_le _ (by omega)
  have h5 : 0 ≤ x.toInt / y.toInt * y.toInt := Int.mul_nonneg (Int.ediv_nonneg h1 (by omega)) (by omega)
  have h6 := j_bd x
  have h7 : (x / y * y).toInt = x.toInt / y.toInt * y.toInt := by rw [j_mul (by rw [h3]; omega) (by rw [h3]; omega), h3]
  rw [j_sub (by rw [h7]; omega) (by rw [h7]; omega), h7]
  have := Int.emod_add_mul_ediv x.toInt y.toInt
  have h8 := Int.mul_comm (x.toInt / y.toInt) y.toInt
  omega
theorem i_nI {x : Int32} {k : Nat} (h : x.toInt = (k : Int)) : x = nI k := by
  have hk : k < 2 ^ 31 := by have := i_bd x; omega
  apply Int32.toInt_inj.mp
  rw [h, nI_toInt hk]
theorem i_toNat {x : Int32} (h : 0 ≤ x.toInt) : x = nI x.toInt.toNat := i_nI (by omega)
theorem zI_inj {a b : Nat} (ha : a < 2 ^ 31) (hb : b < 2 ^ 31) (h : nI a = nI b) : a = b := by
  have := congrArg Int32.toInt h
  rw [nI_toInt ha, nI_toInt hb] at this
  omega
theorem zI_add (a b : Nat) : nI (a + b) = nI a + nI b := by
  show Int32.ofNat (a + b) = Int32.ofNat a + Int32.ofNat b
  exact Int32.ofNat_add a b
theorem zI_mul (a b : Nat) : nI (a * b) = nI a * nI b := by
  show Int32.ofNat (a * b) = Int32.ofNat a * Int32.ofNat b
  exact Int32.ofNat_mul a b
theorem zI_div {a b : Nat} (ha : a < 2 ^ 31) (hb : b < 2 ^ 31) (h0 : 0 < b) : nI a / nI b = nI (a / b) := by
  apply i_nI
  rw [i_div (by rw [nI_toInt ha]; omega) (by rw [nI_toInt hb]; omega), nI_toInt ha, nI_toInt hb]
  rfl
theorem zI_rem {a b : Nat} (ha : a < 2 ^ 31) (hb : b < 2 ^ 31) (h0 : 0 < b) : nI a - nI a / nI b * nI b = nI (a % b) := by
  apply i_nI
  rw [i_rem (by rw [nI_toInt ha]; omega) (by rw [nI_toInt hb]; omega), nI_toInt ha, nI_toInt hb]
  rfl
theorem zI_lt {a b : Nat} (ha : a < 2 ^ 31) (hb : b < 2 ^ 31) : nI a < nI b ↔ a < b := by
  rw [Int32.lt_iff_toInt_lt, nI_toInt ha, nI_toInt hb]; omega
theorem zI_le {a b : Nat} (ha : a < 2 ^ 31) (hb : b < 2 ^ 31) : nI a ≤ nI b ↔ a ≤ b := by
  rw [Int32.le_iff_toInt_le, nI_toInt ha, nI_toInt hb]; omega
theorem zI_eq {a b : Nat} (ha : a < 2 ^ 31) (hb : b < 2 ^ 31) : nI a = nI b ↔ a = b := ⟨zI_inj ha hb, fun h => by rw [h]⟩
/-- a truth as an int -/
def zB (p : Prop) [Decidable p] : Int32 := if p then 1 else 0
theorem zB_1 {p : Prop} [Decidable p] (h : p) : zB p = 1 := if_pos h
theorem zB_0 {p : Prop} [Decidable p] (h : ¬ p) : zB p = 0 := if_neg h
theorem zB_or (p : Prop) [Decidable p] : zB p = 0 ∨ zB p = 1 := by
  by_cases h : p
  · exact Or.inr (zB_1 h)
  · exact Or.inl (zB_0 h)
theorem zB_congr {p q : Prop} [Decidable p] [Decidable q] (h : p ↔ q) : zB p = zB q := by
  by_cases hp : p
  · rw [zB_1 hp, zB_1 (h.mp hp)]
  · rw [zB_0 hp, zB_0 (fun hq => hp (h.mpr hq))]
theorem zPB1 {p : Prop} [Decidable p] {w : va_W} (h : p) : zP (.int (zB p)) w (some (.int 1)) w := ⟨by rw [zB_1 h], rfl⟩
theorem zPB0 {p : Prop} [Decidable p] {w : va_W} (h : ¬ p) : zP (.int (zB p)) w (some (.int 0)) w := ⟨by rw [zB_0 h], rfl⟩
section ZB
variable {l : Launch} {G : zG} {S : zS} {wc : va_W} {post : Option Value → va_W → Prop} {pc : Nat} {L : List (Option Value)} {st : List Value} {ws : va_W}
theorem a_if_eqB {p : Prop} [Decidable p] {off : Int} {tgt : Nat} (hd : decode (zcc S) pc = .ok (.ifCond .eq off, 3)) (ht : (pc : Int) + off = (tgt : Int)) (kt : ¬ p → AV l G S wc post tgt L st ws) (kf : p → AV l G S wc post (pc + 3) L st ws) : AV l G S wc post pc L (.int (zB p) :: st) ws :=
  a_if_eq hd ht (fun h => kt (fun hp => by rw [zB_1 hp] at h; exact absurd h (by decide))) (fun h => kf (Decidable.byContradiction fun hp => h (zB_0 hp)))
theorem a_if_neB {p : Prop} [Decidable p] {off : Int} {tgt : Nat} (hd : decode (zcc S) pc = .ok (.ifCond .ne off, 3)) (ht : (pc : Int) + off = (tgt : Int)) (kt : p → AV l G S wc post tgt L st ws) (kf : ¬ p → AV l G S wc post (pc + 3) L st ws) : AV l G S wc post pc L (.int (zB p) :: st) ws :=
  a_if_ne hd ht (fun h => kt (Decidable.byContradiction fun hp => h (zB_0 hp))) (fun h => kf (fun hp => by rw [zB_1 hp] at h; exact absurd h (by decide)))
end ZB
end
section
theorem dX5_init_0 : decode cX5_init 0 = .ok (.aload_n 0, 1) := by decide +kernel
theorem dX5_init_1 : decode cX5_init 1 = .ok (.invokespecial 3, 3) := by decide +kernel
theorem dX5_init_4 : decode cX5_init 4 = .ok (.aload_n 0, 1) := by decide +kernel
theorem dX5_init_5 : decode cX5_init 5 = .ok (.bipush 7, 2) := by decide +kernel
theorem dX5_init_7 : decode cX5_init 7 = .ok (.newarray .int, 2) := by decide +kernel
theorem dX5_init_9 : decode cX5_init 9 = .ok (.dup, 1) := by decide +kernel
theorem dX5_init_10 : decode cX5_init 10 = .ok (.iconst 0, 1) := by decide +kernel
theorem dX5_init_11 : decode cX5_init 11 = .ok (.iconst 0, 1) := by decide +kernel
theorem dX5_init_12 : decode cX5_init 12 = .ok (.iastore, 1) := by decide +kernel
theorem dX5_init_13 : decode cX5_init 13 = .ok (.dup, 1) := by decide +kernel
theorem dX5_init_14 : decode cX5_init 14 = .ok (.iconst 1, 1) := by decide +kernel
theorem dX5_init_15 : decode cX5_init 15 = .ok (.sipush 9999, 3) := by decide +kernel
theorem dX5_init_18 : decode cX5_init 18 = .ok (.iastore, 1) := by decide +kernel
theorem dX5_init_19 : decode cX5_init 19 = .ok (.dup, 1) := by decide +kernel
theorem dX5_init_20 : decode cX5_init 20 = .ok (.iconst 2, 1) := by decide +kernel
theorem dX5_init_21 : decode cX5_init 21 = .ok (.iconst 0, 1) := by decide +kernel
theorem dX5_init_22 : decode cX5_init 22 = .ok (.iastore, 1) := by decide +kernel
theorem dX5_init_23 : decode cX5_init 23 = .ok (.dup, 1) := by decide +kernel
theorem dX5_init_24 : decode cX5_init 24 = .ok (.iconst 3, 1) := by decide +kernel
theorem dX5_init_25 : decode cX5_init 25 = .ok (.bipush 100, 2) := by decide +kernel
theorem dX5_init_27 : decode cX5_init 27 = .ok (.iastore, 1) := by decide +kernel
theorem dX5_init_28 : decode cX5_init 28 = .ok (.dup, 1) := by decide +kernel
theorem dX5_init_29 : decode cX5_init 29 = .ok (.iconst 4, 1) := by decide +kernel
theorem dX5_init_30 : decode cX5_init 30 = .ok (.iconst 0, 1) := by decide +kernel
theorem dX5_init_31 : decode cX5_init 31 = .ok (.iastore, 1) := by decide +kernel
theorem dX5_init_32 : decode cX5_init 32 = .ok (.dup, 1) := by decide +kernel
theorem dX5_init_33 : decode cX5_init 33 = .ok (.iconst 5, 1) := by decide +kernel
theorem dX5_init_34 : decode cX5_init 34 = .ok (.bipush 100, 2) := by decide +kernel
theorem dX5_init_36 : decode cX5_init 36 = .ok (.iastore, 1) := by decide +kernel
theorem dX5_init_37 : decode cX5_init 37 = .ok (.dup, 1) := by decide +kernel
theorem dX5_init_38 : decode cX5_init 38 = .ok (.bipush 6, 2) := by decide +kernel
theorem dX5_init_40 : decode cX5_init 40 = .ok (.bipush 10, 2) := by decide +kernel
theorem dX5_init_42 : decode cX5_init 42 = .ok (.iastore, 1) := by decide +kernel
theorem dX5_init_43 : decode cX5_init 43 = .ok (.putfield 9, 3) := by decide +kernel
theorem dX5_init_46 : decode cX5_init 46 = .ok (.aload_n 0, 1) := by decide +kernel
theorem dX5_init_47 : decode cX5_init 47 = .ok (.new 13, 3) := by decide +kernel
theorem dX5_init_50 : decode cX5_init 50 = .ok (.dup, 1) := by decide +kernel
theorem dX5_init_51 : decode cX5_init 51 = .ok (.invokespecial 15, 3) := by decide +kernel
theorem dX5_init_54 : decode cX5_init 54 = .ok (.putfield 16, 3) := by decide +kernel
theorem dX5_init_57 : decode cX5_init 57 = .ok (.aload_n 0, 1) := by decide +kernel
theorem dX5_init_58 : decode cX5_init 58 = .ok (.new 13, 3) := by decide +kernel
theorem dX5_init_61 : decode cX5_init 61 = .ok (.dup, 1) := by decide +kernel
theorem dX5_init_62 : decode cX5_init 62 = .ok (.invokespecial 15, 3) := by decide +kernel
theorem dX5_init_65 : decode cX5_init 65 = .ok (.putfield 20, 3) := by decide +kernel
theorem dX5_init_68 : decode cX5_init 68 = .ok (.aload_n 0, 1) := by decide +kernel
theorem dX5_init_69 : decode cX5_init 69 = .ok (.new 23, 3) := by decide +kernel
theorem dX5_init_72 : decode cX5_init 72 = .ok (.dup, 1) := by decide +kernel
theorem dX5_init_73 : decode cX5_init 73 = .ok (.invokespecial 25, 3) := by decide +kernel
theorem dX5_init_76 : decode cX5_init 76 = .ok (.putfield 26, 3) := by decide +kernel
theorem dX5_init_79 : decode cX5_init 79 = .ok (.aload_n 0, 1) := by decide +kernel
theorem dX5_init_80 : decode cX5_init 80 = .ok (.new 30, 3) := by decide +kernel
theorem dX5_init_83 : decode cX5_init 83 = .ok (.dup, 1) := by decide +kernel
theorem dX5_init_84 : decode cX5_init 84 = .ok (.invokespecial 32, 3) := by decide +kernel
theorem dX5_init_87 : decode cX5_init 87 = .ok (.putfield 33, 3) := by decide +kernel
theorem dX5_init_90 : decode cX5_init 90 = .ok (.aload_n 0, 1) := by decide +kernel
theorem dX5_init_91 : decode cX5_init 91 = .ok (.new 37, 3) := by decide +kernel
theorem dX5_init_94 : decode cX5_init 94 = .ok (.dup, 1) := by decide +kernel
theorem dX5_init_95 : decode cX5_init 95 = .ok (.invokespecial 39, 3) := by decide +kernel
theorem dX5_init_98 : decode cX5_init 98 = .ok (.putfield 40, 3) := by decide +kernel
theorem dX5_init_101 : decode cX5_init 101 = .ok (.aload_n 0, 1) := by decide +kernel
theorem dX5_init_102 : decode cX5_init 102 = .ok (.iconst 2, 1) := by decide +kernel
theorem dX5_init_103 : decode cX5_init 103 = .ok (.anewarray 44, 3) := by decide +kernel
theorem dX5_init_106 : decode cX5_init 106 = .ok (.dup, 1) := by decide +kernel
theorem dX5_init_107 : decode cX5_init 107 = .ok (.iconst 0, 1) := by decide +kernel
theorem dX5_init_108 : decode cX5_init 108 = .ok (.new 44, 3) := by decide +kernel
theorem dX5_init_111 : decode cX5_init 111 = .ok (.dup, 1) := by decide +kernel
theorem dX5_init_112 : decode cX5_init 112 = .ok (.invokespecial 46, 3) := by decide +kernel
theorem dX5_init_115 : decode cX5_init 115 = .ok (.aastore, 1) := by decide +kernel
theorem dX5_init_116 : decode cX5_init 116 = .ok (.dup, 1) := by decide +kernel
theorem dX5_init_117 : decode cX5_init 117 = .ok (.iconst 1, 1) := by decide +kernel
theorem dX5_init_118 : decode cX5_init 118 = .ok (.new 44, 3) := by decide +kernel
theorem dX5_init_121 : decode cX5_init 121 = .ok (.dup, 1) := by decide +kernel
theorem dX5_init_122 : decode cX5_init 122 = .ok (.invokespecial 46, 3) := by decide +kernel
theorem dX5_init_125 : decode cX5_init 125 = .ok (.aastore, 1) := by decide +kernel
theorem dX5_init_126 : decode cX5_init 126 = .ok (.putfield 47, 3) := by decide +kernel
theorem dX5_init_129 : decode cX5_init 129 = .ok (.aload_n 0, 1) := by decide +kernel
theorem dX5_init_130 : decode cX5_init 130 = .ok (.sipush 1000, 3) := by decide +kernel
theorem dX5_init_133 : decode cX5_init 133 = .ok (.putfield 51, 3) := by decide +kernel
theorem dX5_init_136 : decode cX5_init 136 = .ok (.aload_n 0, 1) := by decide +kernel
theorem dX5_init_137 : decode cX5_init 137 = .ok (.sipush 3000, 3) := by decide +kernel
theorem dX5_init_140 : decode cX5_init 140 = .ok (.putfield 55, 3) := by decide +kernel
theorem dX5_init_143 : decode cX5_init 143 = .ok (.aload_n 0, 1) := by decide +kernel
theorem dX5_init_144 : decode cX5_init 144 = .ok (.bipush 60, 2) := by decide +kernel
theorem dX5_init_146 : decode cX5_init 146 = .ok (.putfield 58, 3) := by decide +kernel
theorem dX5_init_149 : decode cX5_init 149 = .ok (.aload_n 0, 1) := by decide +kernel
theorem dX5_init_150 : decode cX5_init 150 = .ok (.iconst 0, 1) := by decide +kernel
theorem dX5_init_151 : decode cX5_init 151 = .ok (.putfield 61, 3) := by decide +kernel
theorem dX5_init_154 : decode cX5_init 154 = .ok (.return_, 1) := by decide +kernel
theorem dX5_stage_0 : decode cX5_stage 0 = .ok (.iload_n 1, 1) := by decide +kernel
theorem dX5_stage_1 : decode cX5_stage 1 = .ok (.iconst 0, 1) := by decide +kernel
theorem dX5_stage_2 : decode cX5_stage 2 = .ok (.iconst 2, 1) := by decide +kernel
theorem dX5_stage_3 : decode cX5_stage 3 = .ok (.invokestatic 64, 3) := by decide +kernel
theorem dX5_stage_6 : decode cX5_stage 6 = .ok (.ifCond .ne 20, 3) := by decide +kernel
theorem dX5_stage_9 : decode cX5_stage 9 = .ok (.iload_n 2, 1) := by decide +kernel
theorem dX5_stage_10 : decode cX5_stage 10 = .ok (.iload_n 1, 1) := by decide +kernel
theorem dX5_stage_11 : decode cX5_stage 11 = .ok (.ifCond .ne 7, 3) := by decide +kernel
theorem dX5_stage_14 : decode cX5_stage 14 = .ok (.iconst 1, 1) := by decide +kernel
theorem dX5_stage_15 : decode cX5_stage 15 = .ok (.goto 4, 3) := by decide +kernel
theorem dX5_stage_18 : decode cX5_stage 18 = .ok (.iconst 0, 1) := by decide +kernel
theorem dX5_stage_19 : decode cX5_stage 19 = .ok (.iconst 4, 1) := by decide +kernel
theorem dX5_stage_20 : decode cX5_stage 20 = .ok (.invokestatic 64, 3) := by decide +kernel
theorem dX5_stage_23 : decode cX5_stage 23 = .ok (.ifCond .eq 7, 3) := by decide +kernel
theorem dX5_stage_26 : decode cX5_stage 26 = .ok (.ldc2_w 68, 3) := by decide +kernel
theorem dX5_stage_29 : decode cX5_stage 29 = .ok (.lreturn, 1) := by decide +kernel
theorem dX5_stage_30 : decode cX5_stage 30 = .ok (.aload_n 0, 1) := by decide +kernel
theorem dX5_stage_31 : decode cX5_stage 31 = .ok (.getfield 16, 3) := by decide +kernel
theorem dX5_stage_34 : decode cX5_stage 34 = .ok (.getfield 70, 3) := by decide +kernel
theorem dX5_stage_37 : decode cX5_stage 37 = .ok (.iload_n 1, 1) := by decide +kernel
theorem dX5_stage_38 : decode cX5_stage 38 = .ok (.iaload, 1) := by decide +kernel
theorem dX5_stage_39 : decode cX5_stage 39 = .ok (.istore_n 3, 1) := by decide +kernel
theorem dX5_stage_40 : decode cX5_stage 40 = .ok (.aload_n 0, 1) := by decide +kernel
theorem dX5_stage_41 : decode cX5_stage 41 = .ok (.getfield 16, 3) := by decide +kernel
theorem dX5_stage_44 : decode cX5_stage 44 = .ok (.getfield 70, 3) := by decide +kernel
theorem dX5_stage_47 : decode cX5_stage 47 = .ok (.iload_n 1, 1) := by decide +kernel
theorem dX5_stage_48 : decode cX5_stage 48 = .ok (.iload_n 2, 1) := by decide +kernel
theorem dX5_stage_49 : decode cX5_stage 49 = .ok (.iastore, 1) := by decide +kernel
theorem dX5_stage_50 : decode cX5_stage 50 = .ok (.iload_n 3, 1) := by decide +kernel
theorem dX5_stage_51 : decode cX5_stage 51 = .ok (.i2l, 1) := by decide +kernel
theorem dX5_stage_52 : decode cX5_stage 52 = .ok (.lreturn, 1) := by decide +kernel
theorem dX5_length_0 : decode cX5_length 0 = .ok (.iload_n 1, 1) := by decide +kernel
theorem dX5_length_1 : decode cX5_length 1 = .ok (.iconst 1, 1) := by decide +kernel
theorem dX5_length_2 : decode cX5_length 2 = .ok (.bipush 6, 2) := by decide +kernel
theorem dX5_length_4 : decode cX5_length 4 = .ok (.invokestatic 64, 3) := by decide +kernel
theorem dX5_length_7 : decode cX5_length 7 = .ok (.ifCond .eq 7, 3) := by decide +kernel
theorem dX5_length_10 : decode cX5_length 10 = .ok (.ldc2_w 68, 3) := by decide +kernel
theorem dX5_length_13 : decode cX5_length 13 = .ok (.lreturn, 1) := by decide +kernel
theorem dX5_length_14 : decode cX5_length 14 = .ok (.aload_n 0, 1) := by decide +kernel
theorem dX5_length_15 : decode cX5_length 15 = .ok (.getfield 16, 3) := by decide +kernel
theorem dX5_length_18 : decode cX5_length 18 = .ok (.getfield 73, 3) := by decide +kernel
theorem dX5_length_21 : decode cX5_length 21 = .ok (.istore_n 2, 1) := by decide +kernel
theorem dX5_length_22 : decode cX5_length 22 = .ok (.aload_n 0, 1) := by decide +kernel
theorem dX5_length_23 : decode cX5_length 23 = .ok (.getfield 16, 3) := by decide +kernel
theorem dX5_length_26 : decode cX5_length 26 = .ok (.iload_n 1, 1) := by decide +kernel
theorem dX5_length_27 : decode cX5_length 27 = .ok (.putfield 73, 3) := by decide +kernel
theorem dX5_length_30 : decode cX5_length 30 = .ok (.iload_n 2, 1) := by decide +kernel
theorem dX5_length_31 : decode cX5_length 31 = .ok (.i2l, 1) := by decide +kernel
theorem dX5_length_32 : decode cX5_length 32 = .ok (.lreturn, 1) := by decide +kernel
theorem dX5_fresh_0 : decode cX5_fresh 0 = .ok (.iload_n 1, 1) := by decide +kernel
theorem dX5_fresh_1 : decode cX5_fresh 1 = .ok (.invokestatic 76, 3) := by decide +kernel
theorem dX5_fresh_4 : decode cX5_fresh 4 = .ok (.istore_n 3, 1) := by decide +kernel
theorem dX5_fresh_5 : decode cX5_fresh 5 = .ok (.iload_n 3, 1) := by decide +kernel
theorem dX5_fresh_6 : decode cX5_fresh 6 = .ok (.ifCond .lt 12, 3) := by decide +kernel
theorem dX5_fresh_9 : decode cX5_fresh 9 = .ok (.iload_n 2, 1) := by decide +kernel
theorem dX5_fresh_10 : decode cX5_fresh 10 = .ok (.iconst 0, 1) := by decide +kernel
theorem dX5_fresh_11 : decode cX5_fresh 11 = .ok (.iconst 3, 1) := by decide +kernel
theorem dX5_fresh_12 : decode cX5_fresh 12 = .ok (.invokestatic 64, 3) := by decide +kernel
theorem dX5_fresh_15 : decode cX5_fresh 15 = .ok (.ifCond .eq 7, 3) := by decide +kernel
theorem dX5_fresh_18 : decode cX5_fresh 18 = .ok (.ldc2_w 68, 3) := by decide +kernel
theorem dX5_fresh_21 : decode cX5_fresh 21 = .ok (.lreturn, 1) := by decide +kernel
theorem dX5_fresh_22 : decode cX5_fresh 22 = .ok (.aload_n 0, 1) := by decide +kernel
theorem dX5_fresh_23 : decode cX5_fresh 23 = .ok (.getfield 26, 3) := by decide +kernel
theorem dX5_fresh_26 : decode cX5_fresh 26 = .ok (.iload_n 3, 1) := by decide +kernel
theorem dX5_fresh_27 : decode cX5_fresh 27 = .ok (.iload_n 2, 1) := by decide +kernel
theorem dX5_fresh_28 : decode cX5_fresh 28 = .ok (.invokevirtual 80, 3) := by decide +kernel
theorem dX5_fresh_31 : decode cX5_fresh 31 = .ok (.i2l, 1) := by decide +kernel
theorem dX5_fresh_32 : decode cX5_fresh 32 = .ok (.lreturn, 1) := by decide +kernel
theorem dX5_told_0 : decode cX5_told 0 = .ok (.iload_n 1, 1) := by decide +kernel
theorem dX5_told_1 : decode cX5_told 1 = .ok (.invokestatic 76, 3) := by decide +kernel
theorem dX5_told_4 : decode cX5_told 4 = .ok (.istore_n 3, 1) := by decide +kernel
theorem dX5_told_5 : decode cX5_told 5 = .ok (.iload_n 3, 1) := by decide +kernel
theorem dX5_told_6 : decode cX5_told 6 = .ok (.ifCond .ge 7, 3) := by decide +kernel
theorem dX5_told_9 : decode cX5_told 9 = .ok (.ldc2_w 68, 3) := by decide +kernel
theorem dX5_told_12 : decode cX5_told 12 = .ok (.lreturn, 1) := by decide +kernel
theorem dX5_told_13 : decode cX5_told 13 = .ok (.iload_n 2, 1) := by decide +kernel
theorem dX5_told_14 : decode cX5_told 14 = .ok (.tableswitch 72 0 3 #[30, 41, 52, 62], 30) := by decide +kernel
theorem dX5_told_44 : decode cX5_told 44 = .ok (.aload_n 0, 1) := by decide +kernel
theorem dX5_told_45 : decode cX5_told 45 = .ok (.getfield 26, 3) := by decide +kernel
theorem dX5_told_48 : decode cX5_told 48 = .ok (.getfield 84, 3) := by decide +kernel
theorem dX5_told_51 : decode cX5_told 51 = .ok (.iload_n 3, 1) := by decide +kernel
theorem dX5_told_52 : decode cX5_told 52 = .ok (.iaload, 1) := by decide +kernel
theorem dX5_told_53 : decode cX5_told 53 = .ok (.i2l, 1) := by decide +kernel
theorem dX5_told_54 : decode cX5_told 54 = .ok (.lreturn, 1) := by decide +kernel
theorem dX5_told_55 : decode cX5_told 55 = .ok (.aload_n 0, 1) := by decide +kernel
theorem dX5_told_56 : decode cX5_told 56 = .ok (.getfield 26, 3) := by decide +kernel
theorem dX5_told_59 : decode cX5_told 59 = .ok (.getfield 87, 3) := by decide +kernel
theorem dX5_told_62 : decode cX5_told 62 = .ok (.iload_n 3, 1) := by decide +kernel
theorem dX5_told_63 : decode cX5_told 63 = .ok (.iaload, 1) := by decide +kernel
theorem dX5_told_64 : decode cX5_told 64 = .ok (.i2l, 1) := by decide +kernel
theorem dX5_told_65 : decode cX5_told 65 = .ok (.lreturn, 1) := by decide +kernel
theorem dX5_told_66 : decode cX5_told 66 = .ok (.aload_n 0, 1) := by decide +kernel
theorem dX5_told_67 : decode cX5_told 67 = .ok (.getfield 26, 3) := by decide +kernel
theorem dX5_told_70 : decode cX5_told 70 = .ok (.iload_n 3, 1) := by decide +kernel
theorem dX5_told_71 : decode cX5_told 71 = .ok (.invokevirtual 90, 3) := by decide +kernel
theorem dX5_told_74 : decode cX5_told 74 = .ok (.i2l, 1) := by decide +kernel
theorem dX5_told_75 : decode cX5_told 75 = .ok (.lreturn, 1) := by decide +kernel
theorem dX5_told_76 : decode cX5_told 76 = .ok (.aload_n 0, 1) := by decide +kernel
theorem dX5_told_77 : decode cX5_told 77 = .ok (.getfield 26, 3) := by decide +kernel
theorem dX5_told_80 : decode cX5_told 80 = .ok (.iload_n 3, 1) := by decide +kernel
theorem dX5_told_81 : decode cX5_told 81 = .ok (.invokevirtual 93, 3) := by decide +kernel
theorem dX5_told_84 : decode cX5_told 84 = .ok (.i2l, 1) := by decide +kernel
theorem dX5_told_85 : decode cX5_told 85 = .ok (.lreturn, 1) := by decide +kernel
theorem dX5_told_86 : decode cX5_told 86 = .ok (.ldc2_w 68, 3) := by decide +kernel
theorem dX5_told_89 : decode cX5_told 89 = .ok (.lreturn, 1) := by decide +kernel
theorem dX5_isOf_0 : decode cX5_isOf 0 = .ok (.iload_n 1, 1) := by decide +kernel
theorem dX5_isOf_1 : decode cX5_isOf 1 = .ok (.invokestatic 76, 3) := by decide +kernel
theorem dX5_isOf_4 : decode cX5_isOf 4 = .ok (.istore_n 3, 1) := by decide +kernel
theorem dX5_isOf_5 : decode cX5_isOf 5 = .ok (.iload_n 3, 1) := by decide +kernel
theorem dX5_isOf_6 : decode cX5_isOf 6 = .ok (.ifCond .lt 12, 3) := by decide +kernel
theorem dX5_isOf_9 : decode cX5_isOf 9 = .ok (.iload_n 2, 1) := by decide +kernel
theorem dX5_isOf_10 : decode cX5_isOf 10 = .ok (.iconst 0, 1) := by decide +kernel
theorem dX5_isOf_11 : decode cX5_isOf 11 = .ok (.iconst 3, 1) := by decide +kernel
theorem dX5_isOf_12 : decode cX5_isOf 12 = .ok (.invokestatic 64, 3) := by decide +kernel
theorem dX5_isOf_15 : decode cX5_isOf 15 = .ok (.ifCond .eq 7, 3) := by decide +kernel
theorem dX5_isOf_18 : decode cX5_isOf 18 = .ok (.ldc2_w 68, 3) := by decide +kernel
theorem dX5_isOf_21 : decode cX5_isOf 21 = .ok (.lreturn, 1) := by decide +kernel
theorem dX5_isOf_22 : decode cX5_isOf 22 = .ok (.aload_n 0, 1) := by decide +kernel
theorem dX5_isOf_23 : decode cX5_isOf 23 = .ok (.getfield 26, 3) := by decide +kernel
theorem dX5_isOf_26 : decode cX5_isOf 26 = .ok (.iload_n 3, 1) := by decide +kernel
theorem dX5_isOf_27 : decode cX5_isOf 27 = .ok (.iload_n 2, 1) := by decide +kernel
theorem dX5_isOf_28 : decode cX5_isOf 28 = .ok (.invokevirtual 96, 3) := by decide +kernel
theorem dX5_isOf_31 : decode cX5_isOf 31 = .ok (.ifCond .eq 7, 3) := by decide +kernel
theorem dX5_isOf_34 : decode cX5_isOf 34 = .ok (.lconst 1, 1) := by decide +kernel
theorem dX5_isOf_35 : decode cX5_isOf 35 = .ok (.goto 4, 3) := by decide +kernel
theorem dX5_isOf_38 : decode cX5_isOf 38 = .ok (.lconst 0, 1) := by decide +kernel
theorem dX5_isOf_39 : decode cX5_isOf 39 = .ok (.lreturn, 1) := by decide +kernel
theorem dX5_feed_0 : decode cX5_feed 0 = .ok (.iload_n 1, 1) := by decide +kernel
theorem dX5_feed_1 : decode cX5_feed 1 = .ok (.iconst 0, 1) := by decide +kernel
theorem dX5_feed_2 : decode cX5_feed 2 = .ok (.sipush 20000, 3) := by decide +kernel
theorem dX5_feed_5 : decode cX5_feed 5 = .ok (.invokestatic 64, 3) := by decide +kernel
theorem dX5_feed_8 : decode cX5_feed 8 = .ok (.ifCond .ne 24, 3) := by decide +kernel
theorem dX5_feed_11 : decode cX5_feed 11 = .ok (.iload_n 2, 1) := by decide +kernel
theorem dX5_feed_12 : decode cX5_feed 12 = .ok (.iconst 0, 1) := by decide +kernel
theorem dX5_feed_13 : decode cX5_feed 13 = .ok (.ldc 100, 2) := by decide +kernel
theorem dX5_feed_15 : decode cX5_feed 15 = .ok (.invokestatic 64, 3) := by decide +kernel
theorem dX5_feed_18 : decode cX5_feed 18 = .ok (.ifCond .ne 14, 3) := by decide +kernel
theorem dX5_feed_21 : decode cX5_feed 21 = .ok (.iload_n 3, 1) := by decide +kernel
theorem dX5_feed_22 : decode cX5_feed 22 = .ok (.iconst 0, 1) := by decide +kernel
theorem dX5_feed_23 : decode cX5_feed 23 = .ok (.sipush 900, 3) := by decide +kernel
theorem dX5_feed_26 : decode cX5_feed 26 = .ok (.invokestatic 64, 3) := by decide +kernel
theorem dX5_feed_29 : decode cX5_feed 29 = .ok (.ifCond .eq 7, 3) := by decide +kernel
theorem dX5_feed_32 : decode cX5_feed 32 = .ok (.ldc2_w 68, 3) := by decide +kernel
theorem dX5_feed_35 : decode cX5_feed 35 = .ok (.lreturn, 1) := by decide +kernel
theorem dX5_feed_36 : decode cX5_feed 36 = .ok (.aload_n 0, 1) := by decide +kernel
theorem dX5_feed_37 : decode cX5_feed 37 = .ok (.iload_n 1, 1) := by decide +kernel
theorem dX5_feed_38 : decode cX5_feed 38 = .ok (.putfield 51, 3) := by decide +kernel
theorem dX5_feed_41 : decode cX5_feed 41 = .ok (.aload_n 0, 1) := by decide +kernel
theorem dX5_feed_42 : decode cX5_feed 42 = .ok (.iload_n 2, 1) := by decide +kernel
theorem dX5_feed_43 : decode cX5_feed 43 = .ok (.putfield 55, 3) := by decide +kernel
theorem dX5_feed_46 : decode cX5_feed 46 = .ok (.aload_n 0, 1) := by decide +kernel
theorem dX5_feed_47 : decode cX5_feed 47 = .ok (.iload_n 3, 1) := by decide +kernel
theorem dX5_feed_48 : decode cX5_feed 48 = .ok (.putfield 58, 3) := by decide +kernel
theorem dX5_feed_51 : decode cX5_feed 51 = .ok (.lconst 0, 1) := by decide +kernel
theorem dX5_feed_52 : decode cX5_feed 52 = .ok (.lreturn, 1) := by decide +kernel
theorem dX5_change_0 : decode cX5_change 0 = .ok (.iload_n 1, 1) := by decide +kernel
theorem dX5_change_1 : decode cX5_change 1 = .ok (.invokestatic 76, 3) := by decide +kernel
theorem dX5_change_4 : decode cX5_change 4 = .ok (.istore_n 3, 1) := by decide +kernel
theorem dX5_change_5 : decode cX5_change 5 = .ok (.iload_n 2, 1) := by decide +kernel
theorem dX5_change_6 : decode cX5_change 6 = .ok (.invokestatic 76, 3) := by decide +kernel
theorem dX5_change_9 : decode cX5_change 9 = .ok (.istore 4, 2) := by decide +kernel
theorem dX5_change_11 : decode cX5_change 11 = .ok (.iload_n 3, 1) := by decide +kernel
theorem dX5_change_12 : decode cX5_change 12 = .ok (.ifCond .lt 14, 3) := by decide +kernel
theorem dX5_change_15 : decode cX5_change 15 = .ok (.iload 4, 2) := by decide +kernel
theorem dX5_change_17 : decode cX5_change 17 = .ok (.ifCond .lt 9, 3) := by decide +kernel
theorem dX5_change_20 : decode cX5_change 20 = .ok (.iload_n 3, 1) := by decide +kernel
theorem dX5_change_21 : decode cX5_change 21 = .ok (.iload 4, 2) := by decide +kernel
theorem dX5_change_23 : decode cX5_change 23 = .ok (.if_icmp .ne 7, 3) := by decide +kernel
theorem dX5_change_26 : decode cX5_change 26 = .ok (.ldc2_w 68, 3) := by decide +kernel
theorem dX5_change_29 : decode cX5_change 29 = .ok (.lreturn, 1) := by decide +kernel
theorem dX5_change_30 : decode cX5_change 30 = .ok (.aload_n 0, 1) := by decide +kernel
theorem dX5_change_31 : decode cX5_change 31 = .ok (.getfield 26, 3) := by decide +kernel
theorem dX5_change_34 : decode cX5_change 34 = .ok (.iload_n 3, 1) := by decide +kernel
theorem dX5_change_35 : decode cX5_change 35 = .ok (.iload 4, 2) := by decide +kernel
theorem dX5_change_37 : decode cX5_change 37 = .ok (.invokevirtual 101, 3) := by decide +kernel
theorem dX5_change_40 : decode cX5_change 40 = .ok (.lconst 0, 1) := by decide +kernel
theorem dX5_change_41 : decode cX5_change 41 = .ok (.lreturn, 1) := by decide +kernel
theorem dX5_flow_0 : decode cX5_flow 0 = .ok (.iload_n 1, 1) := by decide +kernel
theorem dX5_flow_1 : decode cX5_flow 1 = .ok (.invokestatic 76, 3) := by decide +kernel
theorem dX5_flow_4 : decode cX5_flow 4 = .ok (.istore_n 3, 1) := by decide +kernel
theorem dX5_flow_5 : decode cX5_flow 5 = .ok (.iload_n 3, 1) := by decide +kernel
theorem dX5_flow_6 : decode cX5_flow 6 = .ok (.ifCond .lt 12, 3) := by decide +kernel
theorem dX5_flow_9 : decode cX5_flow 9 = .ok (.iload_n 2, 1) := by decide +kernel
theorem dX5_flow_10 : decode cX5_flow 10 = .ok (.iconst 0, 1) := by decide +kernel
theorem dX5_flow_11 : decode cX5_flow 11 = .ok (.iconst 4, 1) := by decide +kernel
theorem dX5_flow_12 : decode cX5_flow 12 = .ok (.invokestatic 64, 3) := by decide +kernel
theorem dX5_flow_15 : decode cX5_flow 15 = .ok (.ifCond .eq 7, 3) := by decide +kernel
theorem dX5_flow_18 : decode cX5_flow 18 = .ok (.ldc2_w 68, 3) := by decide +kernel
theorem dX5_flow_21 : decode cX5_flow 21 = .ok (.lreturn, 1) := by decide +kernel
theorem dX5_flow_22 : decode cX5_flow 22 = .ok (.aload_n 0, 1) := by decide +kernel
theorem dX5_flow_23 : decode cX5_flow 23 = .ok (.getfield 16, 3) := by decide +kernel
theorem dX5_flow_26 : decode cX5_flow 26 = .ok (.iload_n 3, 1) := by decide +kernel
theorem dX5_flow_27 : decode cX5_flow 27 = .ok (.invokevirtual 105, 3) := by decide +kernel
theorem dX5_flow_30 : decode cX5_flow 30 = .ok (.ifCond .ne 7, 3) := by decide +kernel
theorem dX5_flow_33 : decode cX5_flow 33 = .ok (.ldc2_w 109, 3) := by decide +kernel
theorem dX5_flow_36 : decode cX5_flow 36 = .ok (.lreturn, 1) := by decide +kernel
theorem dX5_flow_37 : decode cX5_flow 37 = .ok (.aload_n 0, 1) := by decide +kernel
theorem dX5_flow_38 : decode cX5_flow 38 = .ok (.invokevirtual 111, 3) := by decide +kernel
theorem dX5_flow_41 : decode cX5_flow 41 = .ok (.iload_n 2, 1) := by decide +kernel
theorem dX5_flow_42 : decode cX5_flow 42 = .ok (.tableswitch 70 0 3 #[30, 40, 50, 60], 30) := by decide +kernel
theorem dX5_flow_72 : decode cX5_flow 72 = .ok (.aload_n 0, 1) := by decide +kernel
theorem dX5_flow_73 : decode cX5_flow 73 = .ok (.getfield 33, 3) := by decide +kernel
theorem dX5_flow_76 : decode cX5_flow 76 = .ok (.getfield 114, 3) := by decide +kernel
theorem dX5_flow_79 : decode cX5_flow 79 = .ok (.iload_n 3, 1) := by decide +kernel
theorem dX5_flow_80 : decode cX5_flow 80 = .ok (.laload, 1) := by decide +kernel
theorem dX5_flow_81 : decode cX5_flow 81 = .ok (.lreturn, 1) := by decide +kernel
theorem dX5_flow_82 : decode cX5_flow 82 = .ok (.aload_n 0, 1) := by decide +kernel
theorem dX5_flow_83 : decode cX5_flow 83 = .ok (.getfield 33, 3) := by decide +kernel
theorem dX5_flow_86 : decode cX5_flow 86 = .ok (.getfield 118, 3) := by decide +kernel
theorem dX5_flow_89 : decode cX5_flow 89 = .ok (.iload_n 3, 1) := by decide +kernel
theorem dX5_flow_90 : decode cX5_flow 90 = .ok (.laload, 1) := by decide +kernel
theorem dX5_flow_91 : decode cX5_flow 91 = .ok (.lreturn, 1) := by decide +kernel
theorem dX5_flow_92 : decode cX5_flow 92 = .ok (.aload_n 0, 1) := by decide +kernel
theorem dX5_flow_93 : decode cX5_flow 93 = .ok (.getfield 33, 3) := by decide +kernel
theorem dX5_flow_96 : decode cX5_flow 96 = .ok (.getfield 121, 3) := by decide +kernel
theorem dX5_flow_99 : decode cX5_flow 99 = .ok (.iload_n 3, 1) := by decide +kernel
theorem dX5_flow_100 : decode cX5_flow 100 = .ok (.laload, 1) := by decide +kernel
theorem dX5_flow_101 : decode cX5_flow 101 = .ok (.lreturn, 1) := by decide +kernel
theorem dX5_flow_102 : decode cX5_flow 102 = .ok (.aload_n 0, 1) := by decide +kernel
theorem dX5_flow_103 : decode cX5_flow 103 = .ok (.getfield 33, 3) := by decide +kernel
theorem dX5_flow_106 : decode cX5_flow 106 = .ok (.getfield 124, 3) := by decide +kernel
theorem dX5_flow_109 : decode cX5_flow 109 = .ok (.iload_n 3, 1) := by decide +kernel
theorem dX5_flow_110 : decode cX5_flow 110 = .ok (.laload, 1) := by decide +kernel
theorem dX5_flow_111 : decode cX5_flow 111 = .ok (.lreturn, 1) := by decide +kernel
theorem dX5_flow_112 : decode cX5_flow 112 = .ok (.aload_n 0, 1) := by decide +kernel
theorem dX5_flow_113 : decode cX5_flow 113 = .ok (.getfield 33, 3) := by decide +kernel
theorem dX5_flow_116 : decode cX5_flow 116 = .ok (.getfield 127, 3) := by decide +kernel
theorem dX5_flow_119 : decode cX5_flow 119 = .ok (.iload_n 3, 1) := by decide +kernel
theorem dX5_flow_120 : decode cX5_flow 120 = .ok (.laload, 1) := by decide +kernel
theorem dX5_flow_121 : decode cX5_flow 121 = .ok (.lreturn, 1) := by decide +kernel
theorem dX5_sweet_0 : decode cX5_sweet 0 = .ok (.iload_n 1, 1) := by decide +kernel
theorem dX5_sweet_1 : decode cX5_sweet 1 = .ok (.iconst 0, 1) := by decide +kernel
theorem dX5_sweet_2 : decode cX5_sweet 2 = .ok (.iconst 2, 1) := by decide +kernel
theorem dX5_sweet_3 : decode cX5_sweet 3 = .ok (.invokestatic 64, 3) := by decide +kernel
theorem dX5_sweet_6 : decode cX5_sweet 6 = .ok (.ifCond .eq 7, 3) := by decide +kernel
theorem dX5_sweet_9 : decode cX5_sweet 9 = .ok (.ldc2_w 68, 3) := by decide +kernel
theorem dX5_sweet_12 : decode cX5_sweet 12 = .ok (.lreturn, 1) := by decide +kernel
theorem dX5_sweet_13 : decode cX5_sweet 13 = .ok (.aload_n 0, 1) := by decide +kernel
theorem dX5_sweet_14 : decode cX5_sweet 14 = .ok (.invokevirtual 111, 3) := by decide +kernel
theorem dX5_sweet_17 : decode cX5_sweet 17 = .ok (.iload_n 1, 1) := by decide +kernel
theorem dX5_sweet_18 : decode cX5_sweet 18 = .ok (.lookupswitch 42 #[(0, 26), (1, 34)], 26) := by decide +kernel
theorem dX5_sweet_44 : decode cX5_sweet 44 = .ok (.aload_n 0, 1) := by decide +kernel
theorem dX5_sweet_45 : decode cX5_sweet 45 = .ok (.getfield 33, 3) := by decide +kernel
theorem dX5_sweet_48 : decode cX5_sweet 48 = .ok (.getfield 130, 3) := by decide +kernel
theorem dX5_sweet_51 : decode cX5_sweet 51 = .ok (.lreturn, 1) := by decide +kernel
theorem dX5_sweet_52 : decode cX5_sweet 52 = .ok (.aload_n 0, 1) := by decide +kernel
theorem dX5_sweet_53 : decode cX5_sweet 53 = .ok (.getfield 33, 3) := by decide +kernel
theorem dX5_sweet_56 : decode cX5_sweet 56 = .ok (.getfield 134, 3) := by decide +kernel
theorem dX5_sweet_59 : decode cX5_sweet 59 = .ok (.lreturn, 1) := by decide +kernel
theorem dX5_sweet_60 : decode cX5_sweet 60 = .ok (.aload_n 0, 1) := by decide +kernel
theorem dX5_sweet_61 : decode cX5_sweet 61 = .ok (.getfield 33, 3) := by decide +kernel
theorem dX5_sweet_64 : decode cX5_sweet 64 = .ok (.getfield 130, 3) := by decide +kernel
theorem dX5_sweet_67 : decode cX5_sweet 67 = .ok (.aload_n 0, 1) := by decide +kernel
theorem dX5_sweet_68 : decode cX5_sweet 68 = .ok (.getfield 33, 3) := by decide +kernel
theorem dX5_sweet_71 : decode cX5_sweet 71 = .ok (.getfield 134, 3) := by decide +kernel
theorem dX5_sweet_74 : decode cX5_sweet 74 = .ok (.invokestatic 137, 3) := by decide +kernel
theorem dX5_sweet_77 : decode cX5_sweet 77 = .ok (.lreturn, 1) := by decide +kernel
theorem dX5_brine_0 : decode cX5_brine 0 = .ok (.iload_n 1, 1) := by decide +kernel
theorem dX5_brine_1 : decode cX5_brine 1 = .ok (.iconst 0, 1) := by decide +kernel
theorem dX5_brine_2 : decode cX5_brine 2 = .ok (.iconst 2, 1) := by decide +kernel
theorem dX5_brine_3 : decode cX5_brine 3 = .ok (.invokestatic 64, 3) := by decide +kernel
theorem dX5_brine_6 : decode cX5_brine 6 = .ok (.ifCond .eq 7, 3) := by decide +kernel
theorem dX5_brine_9 : decode cX5_brine 9 = .ok (.ldc2_w 68, 3) := by decide +kernel
theorem dX5_brine_12 : decode cX5_brine 12 = .ok (.lreturn, 1) := by decide +kernel
theorem dX5_brine_13 : decode cX5_brine 13 = .ok (.aload_n 0, 1) := by decide +kernel
theorem dX5_brine_14 : decode cX5_brine 14 = .ok (.invokevirtual 111, 3) := by decide +kernel
theorem dX5_brine_17 : decode cX5_brine 17 = .ok (.iload_n 1, 1) := by decide +kernel
theorem dX5_brine_18 : decode cX5_brine 18 = .ok (.lookupswitch 42 #[(0, 26), (1, 34)], 26) := by decide +kernel
theorem dX5_brine_44 : decode cX5_brine 44 = .ok (.aload_n 0, 1) := by decide +kernel
theorem dX5_brine_45 : decode cX5_brine 45 = .ok (.getfield 33, 3) := by decide +kernel
theorem dX5_brine_48 : decode cX5_brine 48 = .ok (.getfield 141, 3) := by decide +kernel
theorem dX5_brine_51 : decode cX5_brine 51 = .ok (.lreturn, 1) := by decide +kernel
theorem dX5_brine_52 : decode cX5_brine 52 = .ok (.aload_n 0, 1) := by decide +kernel
theorem dX5_brine_53 : decode cX5_brine 53 = .ok (.getfield 33, 3) := by decide +kernel
theorem dX5_brine_56 : decode cX5_brine 56 = .ok (.getfield 144, 3) := by decide +kernel
theorem dX5_brine_59 : decode cX5_brine 59 = .ok (.lreturn, 1) := by decide +kernel
theorem dX5_brine_60 : decode cX5_brine 60 = .ok (.aload_n 0, 1) := by decide +kernel
theorem dX5_brine_61 : decode cX5_brine 61 = .ok (.getfield 33, 3) := by decide +kernel
theorem dX5_brine_64 : decode cX5_brine 64 = .ok (.getfield 147, 3) := by decide +kernel
theorem dX5_brine_67 : decode cX5_brine 67 = .ok (.lreturn, 1) := by decide +kernel
theorem dX5_power_0 : decode cX5_power 0 = .ok (.aload_n 0, 1) := by decide +kernel
theorem dX5_power_1 : decode cX5_power 1 = .ok (.invokevirtual 111, 3) := by decide +kernel
theorem dX5_power_4 : decode cX5_power 4 = .ok (.aload_n 0, 1) := by decide +kernel
theorem dX5_power_5 : decode cX5_power 5 = .ok (.aload_n 0, 1) := by decide +kernel
theorem dX5_power_6 : decode cX5_power 6 = .ok (.getfield 58, 3) := by decide +kernel
theorem dX5_power_9 : decode cX5_power 9 = .ok (.invokevirtual 150, 3) := by decide +kernel
theorem dX5_power_12 : decode cX5_power 12 = .ok (.lreturn, 1) := by decide +kernel
theorem dX5_failure_0 : decode cX5_failure 0 = .ok (.aload_n 0, 1) := by decide +kernel
theorem dX5_failure_1 : decode cX5_failure 1 = .ok (.invokevirtual 111, 3) := by decide +kernel
theorem dX5_failure_4 : decode cX5_failure 4 = .ok (.aload_n 0, 1) := by decide +kernel
theorem dX5_failure_5 : decode cX5_failure 5 = .ok (.getfield 33, 3) := by decide +kernel
theorem dX5_failure_8 : decode cX5_failure 8 = .ok (.aload_n 0, 1) := by decide +kernel
theorem dX5_failure_9 : decode cX5_failure 9 = .ok (.getfield 16, 3) := by decide +kernel
theorem dX5_failure_12 : decode cX5_failure 12 = .ok (.aload_n 0, 1) := by decide +kernel
theorem dX5_failure_13 : decode cX5_failure 13 = .ok (.getfield 9, 3) := by decide +kernel
theorem dX5_failure_16 : decode cX5_failure 16 = .ok (.iconst 0, 1) := by decide +kernel
theorem dX5_failure_17 : decode cX5_failure 17 = .ok (.iaload, 1) := by decide +kernel
theorem dX5_failure_18 : decode cX5_failure 18 = .ok (.aload_n 0, 1) := by decide +kernel
theorem dX5_failure_19 : decode cX5_failure 19 = .ok (.getfield 9, 3) := by decide +kernel
theorem dX5_failure_22 : decode cX5_failure 22 = .ok (.iconst 1, 1) := by decide +kernel
theorem dX5_failure_23 : decode cX5_failure 23 = .ok (.iaload, 1) := by decide +kernel
theorem dX5_failure_24 : decode cX5_failure 24 = .ok (.invokevirtual 154, 3) := by decide +kernel
theorem dX5_failure_27 : decode cX5_failure 27 = .ok (.lreturn, 1) := by decide +kernel
theorem dX5_rule_0 : decode cX5_rule 0 = .ok (.iload_n 1, 1) := by decide +kernel
theorem dX5_rule_1 : decode cX5_rule 1 = .ok (.iconst 0, 1) := by decide +kernel
theorem dX5_rule_2 : decode cX5_rule 2 = .ok (.bipush 6, 2) := by decide +kernel
theorem dX5_rule_4 : decode cX5_rule 4 = .ok (.invokestatic 64, 3) := by decide +kernel
theorem dX5_rule_7 : decode cX5_rule 7 = .ok (.ifCond .ne 20, 3) := by decide +kernel
theorem dX5_rule_10 : decode cX5_rule 10 = .ok (.iload_n 2, 1) := by decide +kernel
theorem dX5_rule_11 : decode cX5_rule 11 = .ok (.getstatic 158, 3) := by decide +kernel
theorem dX5_rule_14 : decode cX5_rule 14 = .ok (.iload_n 1, 1) := by decide +kernel
theorem dX5_rule_15 : decode cX5_rule 15 = .ok (.iaload, 1) := by decide +kernel
theorem dX5_rule_16 : decode cX5_rule 16 = .ok (.getstatic 161, 3) := by decide +kernel
theorem dX5_rule_19 : decode cX5_rule 19 = .ok (.iload_n 1, 1) := by decide +kernel
theorem dX5_rule_20 : decode cX5_rule 20 = .ok (.iaload, 1) := by decide +kernel
theorem dX5_rule_21 : decode cX5_rule 21 = .ok (.invokestatic 64, 3) := by decide +kernel
theorem dX5_rule_24 : decode cX5_rule 24 = .ok (.ifCond .eq 7, 3) := by decide +kernel
theorem dX5_rule_27 : decode cX5_rule 27 = .ok (.ldc2_w 68, 3) := by decide +kernel
theorem dX5_rule_30 : decode cX5_rule 30 = .ok (.lreturn, 1) := by decide +kernel
theorem dX5_rule_31 : decode cX5_rule 31 = .ok (.aload_n 0, 1) := by decide +kernel
theorem dX5_rule_32 : decode cX5_rule 32 = .ok (.getfield 9, 3) := by decide +kernel
theorem dX5_rule_35 : decode cX5_rule 35 = .ok (.iload_n 1, 1) := by decide +kernel
theorem dX5_rule_36 : decode cX5_rule 36 = .ok (.iaload, 1) := by decide +kernel
theorem dX5_rule_37 : decode cX5_rule 37 = .ok (.istore_n 3, 1) := by decide +kernel
theorem dX5_rule_38 : decode cX5_rule 38 = .ok (.aload_n 0, 1) := by decide +kernel
theorem dX5_rule_39 : decode cX5_rule 39 = .ok (.getfield 9, 3) := by decide +kernel
theorem dX5_rule_42 : decode cX5_rule 42 = .ok (.iload_n 1, 1) := by decide +kernel
theorem dX5_rule_43 : decode cX5_rule 43 = .ok (.iload_n 2, 1) := by decide +kernel
theorem dX5_rule_44 : decode cX5_rule 44 = .ok (.iastore, 1) := by decide +kernel
theorem dX5_rule_45 : decode cX5_rule 45 = .ok (.iload_n 3, 1) := by decide +kernel
theorem dX5_rule_46 : decode cX5_rule 46 = .ok (.i2l, 1) := by decide +kernel
theorem dX5_rule_47 : decode cX5_rule 47 = .ok (.lreturn, 1) := by decide +kernel
theorem dX5_days_0 : decode cX5_days 0 = .ok (.iload_n 1, 1) := by decide +kernel
theorem dX5_days_1 : decode cX5_days 1 = .ok (.iconst 1, 1) := by decide +kernel
theorem dX5_days_2 : decode cX5_days 2 = .ok (.bipush 60, 2) := by decide +kernel
theorem dX5_days_4 : decode cX5_days 4 = .ok (.invokestatic 64, 3) := by decide +kernel
theorem dX5_days_7 : decode cX5_days 7 = .ok (.ifCond .ne 15, 3) := by decide +kernel
theorem dX5_days_10 : decode cX5_days 10 = .ok (.aload_n 0, 1) := by decide +kernel
theorem dX5_days_11 : decode cX5_days 11 = .ok (.getfield 61, 3) := by decide +kernel
theorem dX5_days_14 : decode cX5_days 14 = .ok (.iload_n 1, 1) := by decide +kernel
theorem dX5_days_15 : decode cX5_days 15 = .ok (.iadd, 1) := by decide +kernel
theorem dX5_days_16 : decode cX5_days 16 = .ok (.sipush 1000, 3) := by decide +kernel
theorem dX5_days_19 : decode cX5_days 19 = .ok (.if_icmp .le 7, 3) := by decide +kernel
theorem dX5_days_22 : decode cX5_days 22 = .ok (.ldc2_w 68, 3) := by decide +kernel
theorem dX5_days_25 : decode cX5_days 25 = .ok (.lreturn, 1) := by decide +kernel
theorem dX5_days_26 : decode cX5_days 26 = .ok (.iconst 0, 1) := by decide +kernel
theorem dX5_days_27 : decode cX5_days 27 = .ok (.istore_n 2, 1) := by decide +kernel
theorem dX5_days_28 : decode cX5_days 28 = .ok (.iload_n 2, 1) := by decide +kernel
theorem dX5_days_29 : decode cX5_days 29 = .ok (.iload_n 1, 1) := by decide +kernel
theorem dX5_days_30 : decode cX5_days 30 = .ok (.if_icmp .ge 13, 3) := by decide +kernel
theorem dX5_days_33 : decode cX5_days 33 = .ok (.aload_n 0, 1) := by decide +kernel
theorem dX5_days_34 : decode cX5_days 34 = .ok (.invokevirtual 164, 3) := by decide +kernel
theorem dX5_days_37 : decode cX5_days 37 = .ok (.iinc 2 1, 3) := by decide +kernel
theorem dX5_days_40 : decode cX5_days 40 = .ok (.goto (-12), 3) := by decide +kernel
theorem dX5_days_43 : decode cX5_days 43 = .ok (.aload_n 0, 1) := by decide +kernel
theorem dX5_days_44 : decode cX5_days 44 = .ok (.getfield 61, 3) := by decide +kernel
theorem dX5_days_47 : decode cX5_days 47 = .ok (.i2l, 1) := by decide +kernel
theorem dX5_days_48 : decode cX5_days 48 = .ok (.lreturn, 1) := by decide +kernel
theorem dX5_foul_0 : decode cX5_foul 0 = .ok (.iload_n 1, 1) := by decide +kernel
theorem dX5_foul_1 : decode cX5_foul 1 = .ok (.iconst 0, 1) := by decide +kernel
theorem dX5_foul_2 : decode cX5_foul 2 = .ok (.iconst 2, 1) := by decide +kernel
theorem dX5_foul_3 : decode cX5_foul 3 = .ok (.invokestatic 64, 3) := by decide +kernel
theorem dX5_foul_6 : decode cX5_foul 6 = .ok (.ifCond .eq 7, 3) := by decide +kernel
theorem dX5_foul_9 : decode cX5_foul 9 = .ok (.ldc2_w 68, 3) := by decide +kernel
theorem dX5_foul_12 : decode cX5_foul 12 = .ok (.lreturn, 1) := by decide +kernel
theorem dX5_foul_13 : decode cX5_foul 13 = .ok (.lconst 0, 1) := by decide +kernel
theorem dX5_foul_14 : decode cX5_foul 14 = .ok (.lstore_n 2, 1) := by decide +kernel
theorem dX5_foul_15 : decode cX5_foul 15 = .ok (.iconst 0, 1) := by decide +kernel
theorem dX5_foul_16 : decode cX5_foul 16 = .ok (.istore 4, 2) := by decide +kernel
theorem dX5_foul_18 : decode cX5_foul 18 = .ok (.iconst 0, 1) := by decide +kernel
theorem dX5_foul_19 : decode cX5_foul 19 = .ok (.istore 5, 2) := by decide +kernel
theorem dX5_foul_21 : decode cX5_foul 21 = .ok (.iload 5, 2) := by decide +kernel
theorem dX5_foul_23 : decode cX5_foul 23 = .ok (.bipush 72, 2) := by decide +kernel
theorem dX5_foul_25 : decode cX5_foul 25 = .ok (.if_icmp .ge 67, 3) := by decide +kernel
theorem dX5_foul_28 : decode cX5_foul 28 = .ok (.aload_n 0, 1) := by decide +kernel
theorem dX5_foul_29 : decode cX5_foul 29 = .ok (.getfield 16, 3) := by decide +kernel
theorem dX5_foul_32 : decode cX5_foul 32 = .ok (.iload 5, 2) := by decide +kernel
theorem dX5_foul_34 : decode cX5_foul 34 = .ok (.invokevirtual 105, 3) := by decide +kernel
theorem dX5_foul_37 : decode cX5_foul 37 = .ok (.ifCond .eq 49, 3) := by decide +kernel
theorem dX5_foul_40 : decode cX5_foul 40 = .ok (.lload_n 2, 1) := by decide +kernel
theorem dX5_foul_41 : decode cX5_foul 41 = .ok (.aload_n 0, 1) := by decide +kernel
theorem dX5_foul_42 : decode cX5_foul 42 = .ok (.getfield 26, 3) := by decide +kernel
theorem dX5_foul_45 : decode cX5_foul 45 = .ok (.getfield 87, 3) := by decide +kernel
theorem dX5_foul_48 : decode cX5_foul 48 = .ok (.iload 5, 2) := by decide +kernel
theorem dX5_foul_50 : decode cX5_foul 50 = .ok (.iaload, 1) := by decide +kernel
theorem dX5_foul_51 : decode cX5_foul 51 = .ok (.i2l, 1) := by decide +kernel
theorem dX5_foul_52 : decode cX5_foul 52 = .ok (.ladd, 1) := by decide +kernel
theorem dX5_foul_53 : decode cX5_foul 53 = .ok (.lstore_n 2, 1) := by decide +kernel
theorem dX5_foul_54 : decode cX5_foul 54 = .ok (.aload_n 0, 1) := by decide +kernel
theorem dX5_foul_55 : decode cX5_foul 55 = .ok (.getfield 26, 3) := by decide +kernel
theorem dX5_foul_58 : decode cX5_foul 58 = .ok (.getfield 87, 3) := by decide +kernel
theorem dX5_foul_61 : decode cX5_foul 61 = .ok (.iload 5, 2) := by decide +kernel
theorem dX5_foul_63 : decode cX5_foul 63 = .ok (.iaload, 1) := by decide +kernel
theorem dX5_foul_64 : decode cX5_foul 64 = .ok (.aload_n 0, 1) := by decide +kernel
theorem dX5_foul_65 : decode cX5_foul 65 = .ok (.getfield 26, 3) := by decide +kernel
theorem dX5_foul_68 : decode cX5_foul 68 = .ok (.getfield 87, 3) := by decide +kernel
theorem dX5_foul_71 : decode cX5_foul 71 = .ok (.iload 4, 2) := by decide +kernel
theorem dX5_foul_73 : decode cX5_foul 73 = .ok (.iaload, 1) := by decide +kernel
theorem dX5_foul_74 : decode cX5_foul 74 = .ok (.if_icmp .le 8, 3) := by decide +kernel
theorem dX5_foul_77 : decode cX5_foul 77 = .ok (.iload 5, 2) := by decide +kernel
theorem dX5_foul_79 : decode cX5_foul 79 = .ok (.goto 5, 3) := by decide +kernel
theorem dX5_foul_82 : decode cX5_foul 82 = .ok (.iload 4, 2) := by decide +kernel
theorem dX5_foul_84 : decode cX5_foul 84 = .ok (.istore 4, 2) := by decide +kernel
theorem dX5_foul_86 : decode cX5_foul 86 = .ok (.iinc 5 1, 3) := by decide +kernel
theorem dX5_foul_89 : decode cX5_foul 89 = .ok (.goto (-68), 3) := by decide +kernel
theorem dX5_foul_92 : decode cX5_foul 92 = .ok (.iload_n 1, 1) := by decide +kernel
theorem dX5_foul_93 : decode cX5_foul 93 = .ok (.ifCond .ne 5, 3) := by decide +kernel
theorem dX5_foul_96 : decode cX5_foul 96 = .ok (.lload_n 2, 1) := by decide +kernel
theorem dX5_foul_97 : decode cX5_foul 97 = .ok (.lreturn, 1) := by decide +kernel
theorem dX5_foul_98 : decode cX5_foul 98 = .ok (.iload_n 1, 1) := by decide +kernel
theorem dX5_foul_99 : decode cX5_foul 99 = .ok (.iconst 1, 1) := by decide +kernel
theorem dX5_foul_100 : decode cX5_foul 100 = .ok (.if_icmp .ne 17, 3) := by decide +kernel
theorem dX5_foul_103 : decode cX5_foul 103 = .ok (.aload_n 0, 1) := by decide +kernel
theorem dX5_foul_104 : decode cX5_foul 104 = .ok (.getfield 26, 3) := by decide +kernel
theorem dX5_foul_107 : decode cX5_foul 107 = .ok (.getfield 87, 3) := by decide +kernel
theorem dX5_foul_110 : decode cX5_foul 110 = .ok (.iload 4, 2) := by decide +kernel
theorem dX5_foul_112 : decode cX5_foul 112 = .ok (.iaload, 1) := by decide +kernel
theorem dX5_foul_113 : decode cX5_foul 113 = .ok (.i2l, 1) := by decide +kernel
theorem dX5_foul_114 : decode cX5_foul 114 = .ok (.goto 9, 3) := by decide +kernel
theorem dX5_foul_117 : decode cX5_foul 117 = .ok (.iload 4, 2) := by decide +kernel
theorem dX5_foul_119 : decode cX5_foul 119 = .ok (.invokestatic 167, 3) := by decide +kernel
theorem dX5_foul_122 : decode cX5_foul 122 = .ok (.i2l, 1) := by decide +kernel
theorem dX5_foul_123 : decode cX5_foul 123 = .ok (.lreturn, 1) := by decide +kernel
theorem dX5_swap_0 : decode cX5_swap 0 = .ok (.aload_n 0, 1) := by decide +kernel
theorem dX5_swap_1 : decode cX5_swap 1 = .ok (.invokevirtual 111, 3) := by decide +kernel
theorem dX5_swap_4 : decode cX5_swap 4 = .ok (.ldc2_w 170, 3) := by decide +kernel
theorem dX5_swap_7 : decode cX5_swap 7 = .ok (.lstore_n 1, 1) := by decide +kernel
theorem dX5_swap_8 : decode cX5_swap 8 = .ok (.aload_n 0, 1) := by decide +kernel
theorem dX5_swap_9 : decode cX5_swap 9 = .ok (.getfield 33, 3) := by decide +kernel
theorem dX5_swap_12 : decode cX5_swap 12 = .ok (.getfield 130, 3) := by decide +kernel
theorem dX5_swap_15 : decode cX5_swap 15 = .ok (.lstore_n 3, 1) := by decide +kernel
theorem dX5_swap_16 : decode cX5_swap 16 = .ok (.iconst 0, 1) := by decide +kernel
theorem dX5_swap_17 : decode cX5_swap 17 = .ok (.istore 5, 2) := by decide +kernel
theorem dX5_swap_19 : decode cX5_swap 19 = .ok (.iload 5, 2) := by decide +kernel
theorem dX5_swap_21 : decode cX5_swap 21 = .ok (.bipush 72, 2) := by decide +kernel
theorem dX5_swap_23 : decode cX5_swap 23 = .ok (.if_icmp .ge 77, 3) := by decide +kernel
theorem dX5_swap_26 : decode cX5_swap 26 = .ok (.iload 5, 2) := by decide +kernel
theorem dX5_swap_28 : decode cX5_swap 28 = .ok (.iconst 1, 1) := by decide +kernel
theorem dX5_swap_29 : decode cX5_swap 29 = .ok (.iadd, 1) := by decide +kernel
theorem dX5_swap_30 : decode cX5_swap 30 = .ok (.istore 6, 2) := by decide +kernel
theorem dX5_swap_32 : decode cX5_swap 32 = .ok (.iload 6, 2) := by decide +kernel
theorem dX5_swap_34 : decode cX5_swap 34 = .ok (.bipush 72, 2) := by decide +kernel
theorem dX5_swap_36 : decode cX5_swap 36 = .ok (.if_icmp .ge 58, 3) := by decide +kernel
theorem dX5_swap_39 : decode cX5_swap 39 = .ok (.aload_n 0, 1) := by decide +kernel
theorem dX5_swap_40 : decode cX5_swap 40 = .ok (.iload 5, 2) := by decide +kernel
theorem dX5_swap_42 : decode cX5_swap 42 = .ok (.iload 6, 2) := by decide +kernel
theorem dX5_swap_44 : decode cX5_swap 44 = .ok (.invokevirtual 172, 3) := by decide +kernel
theorem dX5_swap_47 : decode cX5_swap 47 = .ok (.ifCond .eq 41, 3) := by decide +kernel
theorem dX5_swap_50 : decode cX5_swap 50 = .ok (.aload_n 0, 1) := by decide +kernel
theorem dX5_swap_51 : decode cX5_swap 51 = .ok (.iload 5, 2) := by decide +kernel
theorem dX5_swap_53 : decode cX5_swap 53 = .ok (.iload 6, 2) := by decide +kernel
theorem dX5_swap_55 : decode cX5_swap 55 = .ok (.invokevirtual 175, 3) := by decide +kernel
theorem dX5_swap_58 : decode cX5_swap 58 = .ok (.lstore 7, 2) := by decide +kernel
theorem dX5_swap_60 : decode cX5_swap 60 = .ok (.lload 7, 2) := by decide +kernel
theorem dX5_swap_62 : decode cX5_swap 62 = .ok (.lload_n 3, 1) := by decide +kernel
theorem dX5_swap_63 : decode cX5_swap 63 = .ok (.lcmp, 1) := by decide +kernel
theorem dX5_swap_64 : decode cX5_swap 64 = .ok (.ifCond .le 24, 3) := by decide +kernel
theorem dX5_swap_67 : decode cX5_swap 67 = .ok (.lload 7, 2) := by decide +kernel
theorem dX5_swap_69 : decode cX5_swap 69 = .ok (.lstore_n 3, 1) := by decide +kernel
theorem dX5_swap_70 : decode cX5_swap 70 = .ok (.ldc2_w 179, 3) := by decide +kernel
theorem dX5_swap_73 : decode cX5_swap 73 = .ok (.iload 5, 2) := by decide +kernel
theorem dX5_swap_75 : decode cX5_swap 75 = .ok (.invokestatic 167, 3) := by decide +kernel
theorem dX5_swap_78 : decode cX5_swap 78 = .ok (.i2l, 1) := by decide +kernel
theorem dX5_swap_79 : decode cX5_swap 79 = .ok (.lmul, 1) := by decide +kernel
theorem dX5_swap_80 : decode cX5_swap 80 = .ok (.iload 6, 2) := by decide +kernel
theorem dX5_swap_82 : decode cX5_swap 82 = .ok (.invokestatic 167, 3) := by decide +kernel
theorem dX5_swap_85 : decode cX5_swap 85 = .ok (.i2l, 1) := by decide +kernel
theorem dX5_swap_86 : decode cX5_swap 86 = .ok (.ladd, 1) := by decide +kernel
theorem dX5_swap_87 : decode cX5_swap 87 = .ok (.lstore_n 1, 1) := by decide +kernel
theorem dX5_swap_88 : decode cX5_swap 88 = .ok (.iinc 6 1, 3) := by decide +kernel
theorem dX5_swap_91 : decode cX5_swap 91 = .ok (.goto (-59), 3) := by decide +kernel
theorem dX5_swap_94 : decode cX5_swap 94 = .ok (.iinc 5 1, 3) := by decide +kernel
theorem dX5_swap_97 : decode cX5_swap 97 = .ok (.goto (-78), 3) := by decide +kernel
theorem dX5_swap_100 : decode cX5_swap 100 = .ok (.lload_n 1, 1) := by decide +kernel
theorem dX5_swap_101 : decode cX5_swap 101 = .ok (.lreturn, 1) := by decide +kernel
theorem dX5_array_0 : decode cX5_array 0 = .ok (.iload_n 1, 1) := by decide +kernel
theorem dX5_array_1 : decode cX5_array 1 = .ok (.iconst 0, 1) := by decide +kernel
theorem dX5_array_2 : decode cX5_array 2 = .ok (.ldc 181, 2) := by decide +kernel
theorem dX5_array_4 : decode cX5_array 4 = .ok (.invokestatic 64, 3) := by decide +kernel
theorem dX5_array_7 : decode cX5_array 7 = .ok (.ifCond .ne 13, 3) := by decide +kernel
theorem dX5_array_10 : decode cX5_array 10 = .ok (.iload_n 2, 1) := by decide +kernel
theorem dX5_array_11 : decode cX5_array 11 = .ok (.iconst 0, 1) := by decide +kernel
theorem dX5_array_12 : decode cX5_array 12 = .ok (.ldc 100, 2) := by decide +kernel
theorem dX5_array_14 : decode cX5_array 14 = .ok (.invokestatic 64, 3) := by decide +kernel
theorem dX5_array_17 : decode cX5_array 17 = .ok (.ifCond .eq 7, 3) := by decide +kernel
theorem dX5_array_20 : decode cX5_array 20 = .ok (.ldc2_w 68, 3) := by decide +kernel
theorem dX5_array_23 : decode cX5_array 23 = .ok (.lreturn, 1) := by decide +kernel
theorem dX5_array_24 : decode cX5_array 24 = .ok (.aload_n 0, 1) := by decide +kernel
theorem dX5_array_25 : decode cX5_array 25 = .ok (.getfield 33, 3) := by decide +kernel
theorem dX5_array_28 : decode cX5_array 28 = .ok (.aload_n 0, 1) := by decide +kernel
theorem dX5_array_29 : decode cX5_array 29 = .ok (.getfield 26, 3) := by decide +kernel
theorem dX5_array_32 : decode cX5_array 32 = .ok (.invokevirtual 182, 3) := by decide +kernel
theorem dX5_array_35 : decode cX5_array 35 = .ok (.aload_n 0, 1) := by decide +kernel
theorem dX5_array_36 : decode cX5_array 36 = .ok (.getfield 20, 3) := by decide +kernel
theorem dX5_array_39 : decode cX5_array 39 = .ok (.aload_n 0, 1) := by decide +kernel
theorem dX5_array_40 : decode cX5_array 40 = .ok (.getfield 16, 3) := by decide +kernel
theorem dX5_array_43 : decode cX5_array 43 = .ok (.getfield 73, 3) := by decide +kernel
theorem dX5_array_46 : decode cX5_array 46 = .ok (.putfield 73, 3) := by decide +kernel
theorem dX5_array_49 : decode cX5_array 49 = .ok (.ldc2_w 109, 3) := by decide +kernel
theorem dX5_array_52 : decode cX5_array 52 = .ok (.lstore_n 3, 1) := by decide +kernel
theorem dX5_array_53 : decode cX5_array 53 = .ok (.ldc2_w 188, 3) := by decide +kernel
theorem dX5_array_56 : decode cX5_array 56 = .ok (.lstore 5, 2) := by decide +kernel
theorem dX5_array_58 : decode cX5_array 58 = .ok (.bipush 100, 2) := by decide +kernel
theorem dX5_array_60 : decode cX5_array 60 = .ok (.istore 7, 2) := by decide +kernel
theorem dX5_array_62 : decode cX5_array 62 = .ok (.iload 7, 2) := by decide +kernel
theorem dX5_array_64 : decode cX5_array 64 = .ok (.sipush 900, 3) := by decide +kernel
theorem dX5_array_67 : decode cX5_array 67 = .ok (.if_icmp .gt 110, 3) := by decide +kernel
theorem dX5_array_70 : decode cX5_array 70 = .ok (.iconst 0, 1) := by decide +kernel
theorem dX5_array_71 : decode cX5_array 71 = .ok (.istore 8, 2) := by decide +kernel
theorem dX5_array_73 : decode cX5_array 73 = .ok (.iload 8, 2) := by decide +kernel
theorem dX5_array_75 : decode cX5_array 75 = .ok (.bipush 100, 2) := by decide +kernel
theorem dX5_array_77 : decode cX5_array 77 = .ok (.if_icmp .ge 94, 3) := by decide +kernel
theorem dX5_array_80 : decode cX5_array 80 = .ok (.aload_n 0, 1) := by decide +kernel
theorem dX5_array_81 : decode cX5_array 81 = .ok (.getfield 20, 3) := by decide +kernel
theorem dX5_array_84 : decode cX5_array 84 = .ok (.iload 8, 2) := by decide +kernel
theorem dX5_array_86 : decode cX5_array 86 = .ok (.invokevirtual 190, 3) := by decide +kernel
theorem dX5_array_89 : decode cX5_array 89 = .ok (.ifCond .ne 6, 3) := by decide +kernel
theorem dX5_array_92 : decode cX5_array 92 = .ok (.goto 73, 3) := by decide +kernel
theorem dX5_array_95 : decode cX5_array 95 = .ok (.aload_n 0, 1) := by decide +kernel
theorem dX5_array_96 : decode cX5_array 96 = .ok (.getfield 33, 3) := by decide +kernel
theorem dX5_array_99 : decode cX5_array 99 = .ok (.aload_n 0, 1) := by decide +kernel
theorem dX5_array_100 : decode cX5_array 100 = .ok (.getfield 20, 3) := by decide +kernel
theorem dX5_array_103 : decode cX5_array 103 = .ok (.aload_n 0, 1) := by decide +kernel
theorem dX5_array_104 : decode cX5_array 104 = .ok (.getfield 51, 3) := by decide +kernel
theorem dX5_array_107 : decode cX5_array 107 = .ok (.i2l, 1) := by decide +kernel
theorem dX5_array_108 : decode cX5_array 108 = .ok (.aload_n 0, 1) := by decide +kernel
theorem dX5_array_109 : decode cX5_array 109 = .ok (.getfield 55, 3) := by decide +kernel
theorem dX5_array_112 : decode cX5_array 112 = .ok (.i2l, 1) := by decide +kernel
theorem dX5_array_113 : decode cX5_array 113 = .ok (.iload 7, 2) := by decide +kernel
theorem dX5_array_115 : decode cX5_array 115 = .ok (.i2l, 1) := by decide +kernel
theorem dX5_array_116 : decode cX5_array 116 = .ok (.invokevirtual 193, 3) := by decide +kernel
theorem dX5_array_119 : decode cX5_array 119 = .ok (.aload_n 0, 1) := by decide +kernel
theorem dX5_array_120 : decode cX5_array 120 = .ok (.iload 7, 2) := by decide +kernel
theorem dX5_array_122 : decode cX5_array 122 = .ok (.invokevirtual 150, 3) := by decide +kernel
theorem dX5_array_125 : decode cX5_array 125 = .ok (.lstore 9, 2) := by decide +kernel
theorem dX5_array_127 : decode cX5_array 127 = .ok (.lload 9, 2) := by decide +kernel
theorem dX5_array_129 : decode cX5_array 129 = .ok (.lload 5, 2) := by decide +kernel
theorem dX5_array_131 : decode cX5_array 131 = .ok (.lcmp, 1) := by decide +kernel
theorem dX5_array_132 : decode cX5_array 132 = .ok (.ifCond .ge 33, 3) := by decide +kernel
theorem dX5_array_135 : decode cX5_array 135 = .ok (.aload_n 0, 1) := by decide +kernel
theorem dX5_array_136 : decode cX5_array 136 = .ok (.iload_n 1, 1) := by decide +kernel
theorem dX5_array_137 : decode cX5_array 137 = .ok (.iload_n 2, 1) := by decide +kernel
theorem dX5_array_138 : decode cX5_array 138 = .ok (.invokevirtual 197, 3) := by decide +kernel
theorem dX5_array_141 : decode cX5_array 141 = .ok (.ifCond .eq 24, 3) := by decide +kernel
theorem dX5_array_144 : decode cX5_array 144 = .ok (.lload 9, 2) := by decide +kernel
theorem dX5_array_146 : decode cX5_array 146 = .ok (.lstore 5, 2) := by decide +kernel
theorem dX5_array_148 : decode cX5_array 148 = .ok (.ldc2_w 179, 3) := by decide +kernel
theorem dX5_array_151 : decode cX5_array 151 = .ok (.iload 7, 2) := by decide +kernel
theorem dX5_array_153 : decode cX5_array 153 = .ok (.i2l, 1) := by decide +kernel
theorem dX5_array_154 : decode cX5_array 154 = .ok (.lmul, 1) := by decide +kernel
theorem dX5_array_155 : decode cX5_array 155 = .ok (.aload_n 0, 1) := by decide +kernel
theorem dX5_array_156 : decode cX5_array 156 = .ok (.getfield 20, 3) := by decide +kernel
theorem dX5_array_159 : decode cX5_array 159 = .ok (.invokevirtual 200, 3) := by decide +kernel
theorem dX5_array_162 : decode cX5_array 162 = .ok (.i2l, 1) := by decide +kernel
theorem dX5_array_163 : decode cX5_array 163 = .ok (.ladd, 1) := by decide +kernel
theorem dX5_array_164 : decode cX5_array 164 = .ok (.lstore_n 3, 1) := by decide +kernel
theorem dX5_array_165 : decode cX5_array 165 = .ok (.iinc 8 1, 3) := by decide +kernel
theorem dX5_array_168 : decode cX5_array 168 = .ok (.goto (-95), 3) := by decide +kernel
theorem dX5_array_171 : decode cX5_array 171 = .ok (.iinc 7 100, 3) := by decide +kernel
theorem dX5_array_174 : decode cX5_array 174 = .ok (.goto (-112), 3) := by decide +kernel
theorem dX5_array_177 : decode cX5_array 177 = .ok (.lload_n 3, 1) := by decide +kernel
theorem dX5_array_178 : decode cX5_array 178 = .ok (.lreturn, 1) := by decide +kernel
theorem dX5_hour_0 : decode cX5_hour 0 = .ok (.iload_n 1, 1) := by decide +kernel
theorem dX5_hour_1 : decode cX5_hour 1 = .ok (.iconst 0, 1) := by decide +kernel
theorem dX5_hour_2 : decode cX5_hour 2 = .ok (.bipush 11, 2) := by decide +kernel
theorem dX5_hour_4 : decode cX5_hour 4 = .ok (.invokestatic 64, 3) := by decide +kernel
theorem dX5_hour_7 : decode cX5_hour 7 = .ok (.ifCond .ne 24, 3) := by decide +kernel
theorem dX5_hour_10 : decode cX5_hour 10 = .ok (.iload_n 2, 1) := by decide +kernel
theorem dX5_hour_11 : decode cX5_hour 11 = .ok (.iconst 0, 1) := by decide +kernel
theorem dX5_hour_12 : decode cX5_hour 12 = .ok (.iconst 1, 1) := by decide +kernel
theorem dX5_hour_13 : decode cX5_hour 13 = .ok (.invokestatic 64, 3) := by decide +kernel
theorem dX5_hour_16 : decode cX5_hour 16 = .ok (.ifCond .ne 15, 3) := by decide +kernel
theorem dX5_hour_19 : decode cX5_hour 19 = .ok (.iload_n 3, 1) := by decide +kernel
theorem dX5_hour_20 : decode cX5_hour 20 = .ok (.iconst 0, 1) := by decide +kernel
theorem dX5_hour_21 : decode cX5_hour 21 = .ok (.iload_n 2, 1) := by decide +kernel
theorem dX5_hour_22 : decode cX5_hour 22 = .ok (.invokestatic 204, 3) := by decide +kernel
theorem dX5_hour_25 : decode cX5_hour 25 = .ok (.invokestatic 64, 3) := by decide +kernel
theorem dX5_hour_28 : decode cX5_hour 28 = .ok (.ifCond .eq 7, 3) := by decide +kernel
theorem dX5_hour_31 : decode cX5_hour 31 = .ok (.ldc2_w 68, 3) := by decide +kernel
theorem dX5_hour_34 : decode cX5_hour 34 = .ok (.lreturn, 1) := by decide +kernel
theorem dX5_hour_35 : decode cX5_hour 35 = .ok (.aload_n 0, 1) := by decide +kernel
theorem dX5_hour_36 : decode cX5_hour 36 = .ok (.getfield 40, 3) := by decide +kernel
theorem dX5_hour_39 : decode cX5_hour 39 = .ok (.iload_n 2, 1) := by decide +kernel
theorem dX5_hour_40 : decode cX5_hour 40 = .ok (.invokevirtual 207, 3) := by decide +kernel
theorem dX5_hour_43 : decode cX5_hour 43 = .ok (.astore 4, 2) := by decide +kernel
theorem dX5_hour_45 : decode cX5_hour 45 = .ok (.aload 4, 2) := by decide +kernel
theorem dX5_hour_47 : decode cX5_hour 47 = .ok (.iload_n 1, 1) := by decide +kernel
theorem dX5_hour_48 : decode cX5_hour 48 = .ok (.iaload, 1) := by decide +kernel
theorem dX5_hour_49 : decode cX5_hour 49 = .ok (.istore 5, 2) := by decide +kernel
theorem dX5_hour_51 : decode cX5_hour 51 = .ok (.aload 4, 2) := by decide +kernel
theorem dX5_hour_53 : decode cX5_hour 53 = .ok (.iload_n 1, 1) := by decide +kernel
theorem dX5_hour_54 : decode cX5_hour 54 = .ok (.iload_n 3, 1) := by decide +kernel
theorem dX5_hour_55 : decode cX5_hour 55 = .ok (.iastore, 1) := by decide +kernel
theorem dX5_hour_56 : decode cX5_hour 56 = .ok (.iload 5, 2) := by decide +kernel
theorem dX5_hour_58 : decode cX5_hour 58 = .ok (.i2l, 1) := by decide +kernel
theorem dX5_hour_59 : decode cX5_hour 59 = .ok (.lreturn, 1) := by decide +kernel
theorem dX5_lay_0 : decode cX5_lay 0 = .ok (.iload_n 1, 1) := by decide +kernel
theorem dX5_lay_1 : decode cX5_lay 1 = .ok (.iconst 0, 1) := by decide +kernel
theorem dX5_lay_2 : decode cX5_lay 2 = .ok (.iconst 1, 1) := by decide +kernel
theorem dX5_lay_3 : decode cX5_lay 3 = .ok (.invokestatic 64, 3) := by decide +kernel
theorem dX5_lay_6 : decode cX5_lay 6 = .ok (.ifCond .ne 12, 3) := by decide +kernel
theorem dX5_lay_9 : decode cX5_lay 9 = .ok (.iload_n 2, 1) := by decide +kernel
theorem dX5_lay_10 : decode cX5_lay 10 = .ok (.iconst 0, 1) := by decide +kernel
theorem dX5_lay_11 : decode cX5_lay 11 = .ok (.iconst 1, 1) := by decide +kernel
theorem dX5_lay_12 : decode cX5_lay 12 = .ok (.invokestatic 64, 3) := by decide +kernel
theorem dX5_lay_15 : decode cX5_lay 15 = .ok (.ifCond .eq 7, 3) := by decide +kernel
theorem dX5_lay_18 : decode cX5_lay 18 = .ok (.ldc2_w 68, 3) := by decide +kernel
theorem dX5_lay_21 : decode cX5_lay 21 = .ok (.lreturn, 1) := by decide +kernel
theorem dX5_lay_22 : decode cX5_lay 22 = .ok (.aload_n 0, 1) := by decide +kernel
theorem dX5_lay_23 : decode cX5_lay 23 = .ok (.getfield 47, 3) := by decide +kernel
theorem dX5_lay_26 : decode cX5_lay 26 = .ok (.iload_n 2, 1) := by decide +kernel
theorem dX5_lay_27 : decode cX5_lay 27 = .ok (.aaload, 1) := by decide +kernel
end
section
theorem dX5_lay_28 : decode cX5_lay 28 = .ok (.astore_n 3, 1) := by decide +kernel
theorem dX5_lay_29 : decode cX5_lay 29 = .ok (.aload_n 3, 1) := by decide +kernel
theorem dX5_lay_30 : decode cX5_lay 30 = .ok (.invokevirtual 211, 3) := by decide +kernel
theorem dX5_lay_33 : decode cX5_lay 33 = .ok (.ifCond .eq 7, 3) := by decide +kernel
theorem dX5_lay_36 : decode cX5_lay 36 = .ok (.ldc2_w 215, 3) := by decide +kernel
theorem dX5_lay_39 : decode cX5_lay 39 = .ok (.lreturn, 1) := by decide +kernel
theorem dX5_lay_40 : decode cX5_lay 40 = .ok (.aload_n 0, 1) := by decide +kernel
theorem dX5_lay_41 : decode cX5_lay 41 = .ok (.getfield 40, 3) := by decide +kernel
theorem dX5_lay_44 : decode cX5_lay 44 = .ok (.iload_n 1, 1) := by decide +kernel
theorem dX5_lay_45 : decode cX5_lay 45 = .ok (.invokevirtual 207, 3) := by decide +kernel
theorem dX5_lay_48 : decode cX5_lay 48 = .ok (.astore 4, 2) := by decide +kernel
theorem dX5_lay_50 : decode cX5_lay 50 = .ok (.iload_n 1, 1) := by decide +kernel
theorem dX5_lay_51 : decode cX5_lay 51 = .ok (.invokestatic 204, 3) := by decide +kernel
theorem dX5_lay_54 : decode cX5_lay 54 = .ok (.istore 5, 2) := by decide +kernel
theorem dX5_lay_56 : decode cX5_lay 56 = .ok (.iconst 0, 1) := by decide +kernel
theorem dX5_lay_57 : decode cX5_lay 57 = .ok (.istore 6, 2) := by decide +kernel
theorem dX5_lay_59 : decode cX5_lay 59 = .ok (.iload 6, 2) := by decide +kernel
theorem dX5_lay_61 : decode cX5_lay 61 = .ok (.bipush 12, 2) := by decide +kernel
theorem dX5_lay_63 : decode cX5_lay 63 = .ok (.if_icmp .ge 53, 3) := by decide +kernel
theorem dX5_lay_66 : decode cX5_lay 66 = .ok (.aload_n 3, 1) := by decide +kernel
theorem dX5_lay_67 : decode cX5_lay 67 = .ok (.iload 6, 2) := by decide +kernel
theorem dX5_lay_69 : decode cX5_lay 69 = .ok (.invokevirtual 217, 3) := by decide +kernel
theorem dX5_lay_72 : decode cX5_lay 72 = .ok (.ifCond .eq 13, 3) := by decide +kernel
theorem dX5_lay_75 : decode cX5_lay 75 = .ok (.aload_n 3, 1) := by decide +kernel
theorem dX5_lay_76 : decode cX5_lay 76 = .ok (.getfield 220, 3) := by decide +kernel
theorem dX5_lay_79 : decode cX5_lay 79 = .ok (.iload 6, 2) := by decide +kernel
theorem dX5_lay_81 : decode cX5_lay 81 = .ok (.saload, 1) := by decide +kernel
theorem dX5_lay_82 : decode cX5_lay 82 = .ok (.goto 4, 3) := by decide +kernel
theorem dX5_lay_85 : decode cX5_lay 85 = .ok (.iconst 0, 1) := by decide +kernel
theorem dX5_lay_86 : decode cX5_lay 86 = .ok (.istore 7, 2) := by decide +kernel
theorem dX5_lay_88 : decode cX5_lay 88 = .ok (.aload 4, 2) := by decide +kernel
theorem dX5_lay_90 : decode cX5_lay 90 = .ok (.iload 6, 2) := by decide +kernel
theorem dX5_lay_92 : decode cX5_lay 92 = .ok (.iload 7, 2) := by decide +kernel
theorem dX5_lay_94 : decode cX5_lay 94 = .ok (.iconst 0, 1) := by decide +kernel
theorem dX5_lay_95 : decode cX5_lay 95 = .ok (.iload 5, 2) := by decide +kernel
theorem dX5_lay_97 : decode cX5_lay 97 = .ok (.invokestatic 64, 3) := by decide +kernel
theorem dX5_lay_100 : decode cX5_lay 100 = .ok (.ifCond .eq 7, 3) := by decide +kernel
theorem dX5_lay_103 : decode cX5_lay 103 = .ok (.iconst 0, 1) := by decide +kernel
theorem dX5_lay_104 : decode cX5_lay 104 = .ok (.goto 5, 3) := by decide +kernel
theorem dX5_lay_107 : decode cX5_lay 107 = .ok (.iload 7, 2) := by decide +kernel
theorem dX5_lay_109 : decode cX5_lay 109 = .ok (.iastore, 1) := by decide +kernel
theorem dX5_lay_110 : decode cX5_lay 110 = .ok (.iinc 6 1, 3) := by decide +kernel
theorem dX5_lay_113 : decode cX5_lay 113 = .ok (.goto (-54), 3) := by decide +kernel
theorem dX5_lay_116 : decode cX5_lay 116 = .ok (.aload_n 3, 1) := by decide +kernel
theorem dX5_lay_117 : decode cX5_lay 117 = .ok (.getfield 224, 3) := by decide +kernel
theorem dX5_lay_120 : decode cX5_lay 120 = .ok (.bipush 12, 2) := by decide +kernel
theorem dX5_lay_122 : decode cX5_lay 122 = .ok (.invokestatic 227, 3) := by decide +kernel
theorem dX5_lay_125 : decode cX5_lay 125 = .ok (.i2l, 1) := by decide +kernel
theorem dX5_lay_126 : decode cX5_lay 126 = .ok (.lreturn, 1) := by decide +kernel
theorem dX5_plan_0 : decode cX5_plan 0 = .ok (.iload_n 1, 1) := by decide +kernel
theorem dX5_plan_1 : decode cX5_plan 1 = .ok (.iconst 0, 1) := by decide +kernel
theorem dX5_plan_2 : decode cX5_plan 2 = .ok (.aload_n 0, 1) := by decide +kernel
theorem dX5_plan_3 : decode cX5_plan 3 = .ok (.getfield 9, 3) := by decide +kernel
theorem dX5_plan_6 : decode cX5_plan 6 = .ok (.iconst 5, 1) := by decide +kernel
theorem dX5_plan_7 : decode cX5_plan 7 = .ok (.iaload, 1) := by decide +kernel
theorem dX5_plan_8 : decode cX5_plan 8 = .ok (.invokestatic 64, 3) := by decide +kernel
theorem dX5_plan_11 : decode cX5_plan 11 = .ok (.ifCond .eq 7, 3) := by decide +kernel
theorem dX5_plan_14 : decode cX5_plan 14 = .ok (.ldc2_w 68, 3) := by decide +kernel
theorem dX5_plan_17 : decode cX5_plan 17 = .ok (.lreturn, 1) := by decide +kernel
theorem dX5_plan_18 : decode cX5_plan 18 = .ok (.aload_n 0, 1) := by decide +kernel
theorem dX5_plan_19 : decode cX5_plan 19 = .ok (.getfield 40, 3) := by decide +kernel
theorem dX5_plan_22 : decode cX5_plan 22 = .ok (.iload_n 1, 1) := by decide +kernel
theorem dX5_plan_23 : decode cX5_plan 23 = .ok (.aload_n 0, 1) := by decide +kernel
theorem dX5_plan_24 : decode cX5_plan 24 = .ok (.getfield 9, 3) := by decide +kernel
theorem dX5_plan_27 : decode cX5_plan 27 = .ok (.iconst 5, 1) := by decide +kernel
theorem dX5_plan_28 : decode cX5_plan 28 = .ok (.iaload, 1) := by decide +kernel
theorem dX5_plan_29 : decode cX5_plan 29 = .ok (.aload_n 0, 1) := by decide +kernel
theorem dX5_plan_30 : decode cX5_plan 30 = .ok (.getfield 9, 3) := by decide +kernel
theorem dX5_plan_33 : decode cX5_plan 33 = .ok (.bipush 6, 2) := by decide +kernel
theorem dX5_plan_35 : decode cX5_plan 35 = .ok (.iaload, 1) := by decide +kernel
theorem dX5_plan_36 : decode cX5_plan 36 = .ok (.invokevirtual 232, 3) := by decide +kernel
theorem dX5_plan_39 : decode cX5_plan 39 = .ok (.istore_n 2, 1) := by decide +kernel
theorem dX5_plan_40 : decode cX5_plan 40 = .ok (.iload_n 2, 1) := by decide +kernel
theorem dX5_plan_41 : decode cX5_plan 41 = .ok (.invokestatic 236, 3) := by decide +kernel
theorem dX5_plan_44 : decode cX5_plan 44 = .ok (.ifCond .eq 11, 3) := by decide +kernel
theorem dX5_plan_47 : decode cX5_plan 47 = .ok (.iload_n 2, 1) := by decide +kernel
theorem dX5_plan_48 : decode cX5_plan 48 = .ok (.invokestatic 239, 3) := by decide +kernel
theorem dX5_plan_51 : decode cX5_plan 51 = .ok (.i2l, 1) := by decide +kernel
theorem dX5_plan_52 : decode cX5_plan 52 = .ok (.goto 6, 3) := by decide +kernel
theorem dX5_plan_55 : decode cX5_plan 55 = .ok (.ldc2_w 109, 3) := by decide +kernel
theorem dX5_plan_58 : decode cX5_plan 58 = .ok (.lreturn, 1) := by decide +kernel
theorem dX5_runs_0 : decode cX5_runs 0 = .ok (.iload_n 1, 1) := by decide +kernel
theorem dX5_runs_1 : decode cX5_runs 1 = .ok (.iconst 0, 1) := by decide +kernel
theorem dX5_runs_2 : decode cX5_runs 2 = .ok (.aload_n 0, 1) := by decide +kernel
theorem dX5_runs_3 : decode cX5_runs 3 = .ok (.getfield 9, 3) := by decide +kernel
theorem dX5_runs_6 : decode cX5_runs 6 = .ok (.iconst 5, 1) := by decide +kernel
theorem dX5_runs_7 : decode cX5_runs 7 = .ok (.iaload, 1) := by decide +kernel
theorem dX5_runs_8 : decode cX5_runs 8 = .ok (.invokestatic 64, 3) := by decide +kernel
theorem dX5_runs_11 : decode cX5_runs 11 = .ok (.ifCond .eq 7, 3) := by decide +kernel
theorem dX5_runs_14 : decode cX5_runs 14 = .ok (.ldc2_w 68, 3) := by decide +kernel
theorem dX5_runs_17 : decode cX5_runs 17 = .ok (.lreturn, 1) := by decide +kernel
theorem dX5_runs_18 : decode cX5_runs 18 = .ok (.aload_n 0, 1) := by decide +kernel
theorem dX5_runs_19 : decode cX5_runs 19 = .ok (.getfield 40, 3) := by decide +kernel
theorem dX5_runs_22 : decode cX5_runs 22 = .ok (.iload_n 1, 1) := by decide +kernel
theorem dX5_runs_23 : decode cX5_runs 23 = .ok (.aload_n 0, 1) := by decide +kernel
theorem dX5_runs_24 : decode cX5_runs 24 = .ok (.getfield 9, 3) := by decide +kernel
theorem dX5_runs_27 : decode cX5_runs 27 = .ok (.iconst 5, 1) := by decide +kernel
theorem dX5_runs_28 : decode cX5_runs 28 = .ok (.iaload, 1) := by decide +kernel
theorem dX5_runs_29 : decode cX5_runs 29 = .ok (.aload_n 0, 1) := by decide +kernel
theorem dX5_runs_30 : decode cX5_runs 30 = .ok (.getfield 9, 3) := by decide +kernel
theorem dX5_runs_33 : decode cX5_runs 33 = .ok (.bipush 6, 2) := by decide +kernel
theorem dX5_runs_35 : decode cX5_runs 35 = .ok (.iaload, 1) := by decide +kernel
theorem dX5_runs_36 : decode cX5_runs 36 = .ok (.invokevirtual 232, 3) := by decide +kernel
theorem dX5_runs_39 : decode cX5_runs 39 = .ok (.istore_n 2, 1) := by decide +kernel
theorem dX5_runs_40 : decode cX5_runs 40 = .ok (.iload_n 2, 1) := by decide +kernel
theorem dX5_runs_41 : decode cX5_runs 41 = .ok (.invokestatic 236, 3) := by decide +kernel
theorem dX5_runs_44 : decode cX5_runs 44 = .ok (.ifCond .eq 11, 3) := by decide +kernel
theorem dX5_runs_47 : decode cX5_runs 47 = .ok (.iload_n 2, 1) := by decide +kernel
theorem dX5_runs_48 : decode cX5_runs 48 = .ok (.invokestatic 242, 3) := by decide +kernel
theorem dX5_runs_51 : decode cX5_runs 51 = .ok (.i2l, 1) := by decide +kernel
theorem dX5_runs_52 : decode cX5_runs 52 = .ok (.goto 6, 3) := by decide +kernel
theorem dX5_runs_55 : decode cX5_runs 55 = .ok (.ldc2_w 109, 3) := by decide +kernel
theorem dX5_runs_58 : decode cX5_runs 58 = .ok (.lreturn, 1) := by decide +kernel
theorem dX5_tank_0 : decode cX5_tank 0 = .ok (.iload_n 1, 1) := by decide +kernel
theorem dX5_tank_1 : decode cX5_tank 1 = .ok (.iconst 0, 1) := by decide +kernel
theorem dX5_tank_2 : decode cX5_tank 2 = .ok (.aload_n 0, 1) := by decide +kernel
theorem dX5_tank_3 : decode cX5_tank 3 = .ok (.getfield 9, 3) := by decide +kernel
theorem dX5_tank_6 : decode cX5_tank 6 = .ok (.iconst 5, 1) := by decide +kernel
theorem dX5_tank_7 : decode cX5_tank 7 = .ok (.iaload, 1) := by decide +kernel
theorem dX5_tank_8 : decode cX5_tank 8 = .ok (.invokestatic 64, 3) := by decide +kernel
theorem dX5_tank_11 : decode cX5_tank 11 = .ok (.ifCond .ne 13, 3) := by decide +kernel
theorem dX5_tank_14 : decode cX5_tank 14 = .ok (.iload_n 2, 1) := by decide +kernel
theorem dX5_tank_15 : decode cX5_tank 15 = .ok (.iconst 0, 1) := by decide +kernel
theorem dX5_tank_16 : decode cX5_tank 16 = .ok (.bipush 11, 2) := by decide +kernel
theorem dX5_tank_18 : decode cX5_tank 18 = .ok (.invokestatic 64, 3) := by decide +kernel
theorem dX5_tank_21 : decode cX5_tank 21 = .ok (.ifCond .eq 7, 3) := by decide +kernel
theorem dX5_tank_24 : decode cX5_tank 24 = .ok (.ldc2_w 68, 3) := by decide +kernel
theorem dX5_tank_27 : decode cX5_tank 27 = .ok (.lreturn, 1) := by decide +kernel
theorem dX5_tank_28 : decode cX5_tank 28 = .ok (.aload_n 0, 1) := by decide +kernel
theorem dX5_tank_29 : decode cX5_tank 29 = .ok (.getfield 40, 3) := by decide +kernel
theorem dX5_tank_32 : decode cX5_tank 32 = .ok (.iload_n 1, 1) := by decide +kernel
theorem dX5_tank_33 : decode cX5_tank 33 = .ok (.aload_n 0, 1) := by decide +kernel
theorem dX5_tank_34 : decode cX5_tank 34 = .ok (.getfield 9, 3) := by decide +kernel
theorem dX5_tank_37 : decode cX5_tank 37 = .ok (.iconst 5, 1) := by decide +kernel
theorem dX5_tank_38 : decode cX5_tank 38 = .ok (.iaload, 1) := by decide +kernel
theorem dX5_tank_39 : decode cX5_tank 39 = .ok (.aload_n 0, 1) := by decide +kernel
theorem dX5_tank_40 : decode cX5_tank 40 = .ok (.getfield 9, 3) := by decide +kernel
theorem dX5_tank_43 : decode cX5_tank 43 = .ok (.bipush 6, 2) := by decide +kernel
theorem dX5_tank_45 : decode cX5_tank 45 = .ok (.iaload, 1) := by decide +kernel
theorem dX5_tank_46 : decode cX5_tank 46 = .ok (.invokevirtual 232, 3) := by decide +kernel
theorem dX5_tank_49 : decode cX5_tank 49 = .ok (.istore_n 3, 1) := by decide +kernel
theorem dX5_tank_50 : decode cX5_tank 50 = .ok (.iload_n 3, 1) := by decide +kernel
theorem dX5_tank_51 : decode cX5_tank 51 = .ok (.invokestatic 236, 3) := by decide +kernel
theorem dX5_tank_54 : decode cX5_tank 54 = .ok (.ifCond .ne 7, 3) := by decide +kernel
theorem dX5_tank_57 : decode cX5_tank 57 = .ok (.ldc2_w 109, 3) := by decide +kernel
theorem dX5_tank_60 : decode cX5_tank 60 = .ok (.lreturn, 1) := by decide +kernel
theorem dX5_tank_61 : decode cX5_tank 61 = .ok (.iload_n 1, 1) := by decide +kernel
theorem dX5_tank_62 : decode cX5_tank 62 = .ok (.istore 4, 2) := by decide +kernel
theorem dX5_tank_64 : decode cX5_tank 64 = .ok (.iconst 0, 1) := by decide +kernel
theorem dX5_tank_65 : decode cX5_tank 65 = .ok (.istore 5, 2) := by decide +kernel
theorem dX5_tank_67 : decode cX5_tank 67 = .ok (.iload 5, 2) := by decide +kernel
theorem dX5_tank_69 : decode cX5_tank 69 = .ok (.iload_n 2, 1) := by decide +kernel
theorem dX5_tank_70 : decode cX5_tank 70 = .ok (.if_icmp .gt 49, 3) := by decide +kernel
theorem dX5_tank_73 : decode cX5_tank 73 = .ok (.aload_n 0, 1) := by decide +kernel
theorem dX5_tank_74 : decode cX5_tank 74 = .ok (.getfield 40, 3) := by decide +kernel
theorem dX5_tank_77 : decode cX5_tank 77 = .ok (.iload 5, 2) := by decide +kernel
theorem dX5_tank_79 : decode cX5_tank 79 = .ok (.iload 4, 2) := by decide +kernel
theorem dX5_tank_81 : decode cX5_tank 81 = .ok (.iload_n 3, 1) := by decide +kernel
theorem dX5_tank_82 : decode cX5_tank 82 = .ok (.iload 5, 2) := by decide +kernel
theorem dX5_tank_84 : decode cX5_tank 84 = .ok (.invokestatic 245, 3) := by decide +kernel
theorem dX5_tank_87 : decode cX5_tank 87 = .ok (.ifCond .eq 13, 3) := by decide +kernel
theorem dX5_tank_90 : decode cX5_tank 90 = .ok (.aload_n 0, 1) := by decide +kernel
theorem dX5_tank_91 : decode cX5_tank 91 = .ok (.getfield 9, 3) := by decide +kernel
theorem dX5_tank_94 : decode cX5_tank 94 = .ok (.bipush 6, 2) := by decide +kernel
theorem dX5_tank_96 : decode cX5_tank 96 = .ok (.iaload, 1) := by decide +kernel
theorem dX5_tank_97 : decode cX5_tank 97 = .ok (.goto 4, 3) := by decide +kernel
theorem dX5_tank_100 : decode cX5_tank 100 = .ok (.iconst 0, 1) := by decide +kernel
theorem dX5_tank_101 : decode cX5_tank 101 = .ok (.iadd, 1) := by decide +kernel
theorem dX5_tank_102 : decode cX5_tank 102 = .ok (.aload_n 0, 1) := by decide +kernel
theorem dX5_tank_103 : decode cX5_tank 103 = .ok (.getfield 9, 3) := by decide +kernel
theorem dX5_tank_106 : decode cX5_tank 106 = .ok (.iconst 5, 1) := by decide +kernel
theorem dX5_tank_107 : decode cX5_tank 107 = .ok (.iaload, 1) := by decide +kernel
theorem dX5_tank_108 : decode cX5_tank 108 = .ok (.invokevirtual 248, 3) := by decide +kernel
theorem dX5_tank_111 : decode cX5_tank 111 = .ok (.istore 4, 2) := by decide +kernel
theorem dX5_tank_113 : decode cX5_tank 113 = .ok (.iinc 5 1, 3) := by decide +kernel
theorem dX5_tank_116 : decode cX5_tank 116 = .ok (.goto (-49), 3) := by decide +kernel
theorem dX5_tank_119 : decode cX5_tank 119 = .ok (.iload 4, 2) := by decide +kernel
theorem dX5_tank_121 : decode cX5_tank 121 = .ok (.i2l, 1) := by decide +kernel
theorem dX5_tank_122 : decode cX5_tank 122 = .ok (.lreturn, 1) := by decide +kernel
theorem dX5_joint_0 : decode cX5_joint 0 = .ok (.iload_n 1, 1) := by decide +kernel
theorem dX5_joint_1 : decode cX5_joint 1 = .ok (.iconst 0, 1) := by decide +kernel
theorem dX5_joint_2 : decode cX5_joint 2 = .ok (.bipush 30, 2) := by decide +kernel
theorem dX5_joint_4 : decode cX5_joint 4 = .ok (.invokestatic 64, 3) := by decide +kernel
theorem dX5_joint_7 : decode cX5_joint 7 = .ok (.ifCond .eq 7, 3) := by decide +kernel
theorem dX5_joint_10 : decode cX5_joint 10 = .ok (.iconst (-1), 1) := by decide +kernel
theorem dX5_joint_11 : decode cX5_joint 11 = .ok (.goto 10, 3) := by decide +kernel
theorem dX5_joint_14 : decode cX5_joint 14 = .ok (.bipush 10, 2) := by decide +kernel
theorem dX5_joint_16 : decode cX5_joint 16 = .ok (.iload_n 1, 1) := by decide +kernel
theorem dX5_joint_17 : decode cX5_joint 17 = .ok (.imul, 1) := by decide +kernel
theorem dX5_joint_18 : decode cX5_joint 18 = .ok (.invokestatic 76, 3) := by decide +kernel
theorem dX5_joint_21 : decode cX5_joint 21 = .ok (.istore 4, 2) := by decide +kernel
theorem dX5_joint_23 : decode cX5_joint 23 = .ok (.iload 4, 2) := by decide +kernel
theorem dX5_joint_25 : decode cX5_joint 25 = .ok (.ifCond .lt 23, 3) := by decide +kernel
theorem dX5_joint_28 : decode cX5_joint 28 = .ok (.iload_n 2, 1) := by decide +kernel
theorem dX5_joint_29 : decode cX5_joint 29 = .ok (.iconst 0, 1) := by decide +kernel
theorem dX5_joint_30 : decode cX5_joint 30 = .ok (.iconst 1, 1) := by decide +kernel
theorem dX5_joint_31 : decode cX5_joint 31 = .ok (.invokestatic 64, 3) := by decide +kernel
theorem dX5_joint_34 : decode cX5_joint 34 = .ok (.ifCond .ne 14, 3) := by decide +kernel
theorem dX5_joint_37 : decode cX5_joint 37 = .ok (.iload_n 3, 1) := by decide +kernel
theorem dX5_joint_38 : decode cX5_joint 38 = .ok (.iconst 0, 1) := by decide +kernel
theorem dX5_joint_39 : decode cX5_joint 39 = .ok (.sipush 9999, 3) := by decide +kernel
theorem dX5_joint_42 : decode cX5_joint 42 = .ok (.invokestatic 64, 3) := by decide +kernel
theorem dX5_joint_45 : decode cX5_joint 45 = .ok (.ifCond .eq 7, 3) := by decide +kernel
theorem dX5_joint_48 : decode cX5_joint 48 = .ok (.ldc2_w 68, 3) := by decide +kernel
theorem dX5_joint_51 : decode cX5_joint 51 = .ok (.lreturn, 1) := by decide +kernel
theorem dX5_joint_52 : decode cX5_joint 52 = .ok (.aload_n 0, 1) := by decide +kernel
theorem dX5_joint_53 : decode cX5_joint 53 = .ok (.getfield 16, 3) := by decide +kernel
theorem dX5_joint_56 : decode cX5_joint 56 = .ok (.iload 4, 2) := by decide +kernel
theorem dX5_joint_58 : decode cX5_joint 58 = .ok (.invokevirtual 105, 3) := by decide +kernel
theorem dX5_joint_61 : decode cX5_joint 61 = .ok (.ifCond .ne 7, 3) := by decide +kernel
theorem dX5_joint_64 : decode cX5_joint 64 = .ok (.ldc2_w 109, 3) := by decide +kernel
theorem dX5_joint_67 : decode cX5_joint 67 = .ok (.lreturn, 1) := by decide +kernel
theorem dX5_joint_68 : decode cX5_joint 68 = .ok (.aload_n 0, 1) := by decide +kernel
theorem dX5_joint_69 : decode cX5_joint 69 = .ok (.getfield 47, 3) := by decide +kernel
theorem dX5_joint_72 : decode cX5_joint 72 = .ok (.iload_n 2, 1) := by decide +kernel
theorem dX5_joint_73 : decode cX5_joint 73 = .ok (.aaload, 1) := by decide +kernel
theorem dX5_joint_74 : decode cX5_joint 74 = .ok (.astore 5, 2) := by decide +kernel
theorem dX5_joint_76 : decode cX5_joint 76 = .ok (.aload 5, 2) := by decide +kernel
theorem dX5_joint_78 : decode cX5_joint 78 = .ok (.invokevirtual 211, 3) := by decide +kernel
theorem dX5_joint_81 : decode cX5_joint 81 = .ok (.ifCond .eq 7, 3) := by decide +kernel
theorem dX5_joint_84 : decode cX5_joint 84 = .ok (.ldc2_w 215, 3) := by decide +kernel
theorem dX5_joint_87 : decode cX5_joint 87 = .ok (.lreturn, 1) := by decide +kernel
theorem dX5_joint_88 : decode cX5_joint 88 = .ok (.aload_n 0, 1) := by decide +kernel
theorem dX5_joint_89 : decode cX5_joint 89 = .ok (.invokevirtual 111, 3) := by decide +kernel
theorem dX5_joint_92 : decode cX5_joint 92 = .ok (.iconst 0, 1) := by decide +kernel
theorem dX5_joint_93 : decode cX5_joint 93 = .ok (.istore 6, 2) := by decide +kernel
theorem dX5_joint_95 : decode cX5_joint 95 = .ok (.iload 6, 2) := by decide +kernel
theorem dX5_joint_97 : decode cX5_joint 97 = .ok (.aload_n 0, 1) := by decide +kernel
theorem dX5_joint_98 : decode cX5_joint 98 = .ok (.getfield 16, 3) := by decide +kernel
theorem dX5_joint_101 : decode cX5_joint 101 = .ok (.getfield 73, 3) := by decide +kernel
theorem dX5_joint_104 : decode cX5_joint 104 = .ok (.if_icmp .ge 52, 3) := by decide +kernel
theorem dX5_joint_107 : decode cX5_joint 107 = .ok (.aload 5, 2) := by decide +kernel
theorem dX5_joint_109 : decode cX5_joint 109 = .ok (.iload 6, 2) := by decide +kernel
theorem dX5_joint_111 : decode cX5_joint 111 = .ok (.invokevirtual 217, 3) := by decide +kernel
theorem dX5_joint_114 : decode cX5_joint 114 = .ok (.ifCond .eq 42, 3) := by decide +kernel
theorem dX5_joint_117 : decode cX5_joint 117 = .ok (.aload 5, 2) := by decide +kernel
theorem dX5_joint_119 : decode cX5_joint 119 = .ok (.getfield 220, 3) := by decide +kernel
theorem dX5_joint_122 : decode cX5_joint 122 = .ok (.iload 6, 2) := by decide +kernel
theorem dX5_joint_124 : decode cX5_joint 124 = .ok (.saload, 1) := by decide +kernel
theorem dX5_joint_125 : decode cX5_joint 125 = .ok (.i2l, 1) := by decide +kernel
theorem dX5_joint_126 : decode cX5_joint 126 = .ok (.aload_n 0, 1) := by decide +kernel
theorem dX5_joint_127 : decode cX5_joint 127 = .ok (.getfield 33, 3) := by decide +kernel
theorem dX5_joint_130 : decode cX5_joint 130 = .ok (.getfield 251, 3) := by decide +kernel
theorem dX5_joint_133 : decode cX5_joint 133 = .ok (.iload 4, 2) := by decide +kernel
theorem dX5_joint_135 : decode cX5_joint 135 = .ok (.iload 6, 2) := by decide +kernel
theorem dX5_joint_137 : decode cX5_joint 137 = .ok (.iadd, 1) := by decide +kernel
theorem dX5_joint_138 : decode cX5_joint 138 = .ok (.laload, 1) := by decide +kernel
theorem dX5_joint_139 : decode cX5_joint 139 = .ok (.lsub, 1) := by decide +kernel
theorem dX5_joint_140 : decode cX5_joint 140 = .ok (.iload_n 3, 1) := by decide +kernel
theorem dX5_joint_141 : decode cX5_joint 141 = .ok (.i2l, 1) := by decide +kernel
theorem dX5_joint_142 : decode cX5_joint 142 = .ok (.lcmp, 1) := by decide +kernel
theorem dX5_joint_143 : decode cX5_joint 143 = .ok (.ifCond .le 7, 3) := by decide +kernel
theorem dX5_joint_146 : decode cX5_joint 146 = .ok (.iload 6, 2) := by decide +kernel
theorem dX5_joint_148 : decode cX5_joint 148 = .ok (.i2l, 1) := by decide +kernel
theorem dX5_joint_149 : decode cX5_joint 149 = .ok (.lreturn, 1) := by decide +kernel
theorem dX5_joint_150 : decode cX5_joint 150 = .ok (.iinc 6 1, 3) := by decide +kernel
theorem dX5_joint_153 : decode cX5_joint 153 = .ok (.goto (-58), 3) := by decide +kernel
theorem dX5_joint_156 : decode cX5_joint 156 = .ok (.ldc2_w 170, 3) := by decide +kernel
theorem dX5_joint_159 : decode cX5_joint 159 = .ok (.lreturn, 1) := by decide +kernel
theorem dX5_sheet_0 : decode cX5_sheet 0 = .ok (.iload_n 1, 1) := by decide +kernel
theorem dX5_sheet_1 : decode cX5_sheet 1 = .ok (.iconst 0, 1) := by decide +kernel
theorem dX5_sheet_2 : decode cX5_sheet 2 = .ok (.iconst 1, 1) := by decide +kernel
theorem dX5_sheet_3 : decode cX5_sheet 3 = .ok (.invokestatic 64, 3) := by decide +kernel
theorem dX5_sheet_6 : decode cX5_sheet 6 = .ok (.ifCond .ne 9, 3) := by decide +kernel
theorem dX5_sheet_9 : decode cX5_sheet 9 = .ok (.iload_n 2, 1) := by decide +kernel
theorem dX5_sheet_10 : decode cX5_sheet 10 = .ok (.bipush 24, 2) := by decide +kernel
theorem dX5_sheet_12 : decode cX5_sheet 12 = .ok (.if_icmp .le 7, 3) := by decide +kernel
theorem dX5_sheet_15 : decode cX5_sheet 15 = .ok (.ldc2_w 68, 3) := by decide +kernel
theorem dX5_sheet_18 : decode cX5_sheet 18 = .ok (.lreturn, 1) := by decide +kernel
theorem dX5_sheet_19 : decode cX5_sheet 19 = .ok (.iload_n 2, 1) := by decide +kernel
theorem dX5_sheet_20 : decode cX5_sheet 20 = .ok (.ifCond .ge 7, 3) := by decide +kernel
theorem dX5_sheet_23 : decode cX5_sheet 23 = .ok (.ldc2_w 254, 3) := by decide +kernel
theorem dX5_sheet_26 : decode cX5_sheet 26 = .ok (.lreturn, 1) := by decide +kernel
theorem dX5_sheet_27 : decode cX5_sheet 27 = .ok (.aload_n 0, 1) := by decide +kernel
theorem dX5_sheet_28 : decode cX5_sheet 28 = .ok (.getfield 47, 3) := by decide +kernel
theorem dX5_sheet_31 : decode cX5_sheet 31 = .ok (.iload_n 1, 1) := by decide +kernel
theorem dX5_sheet_32 : decode cX5_sheet 32 = .ok (.aaload, 1) := by decide +kernel
theorem dX5_sheet_33 : decode cX5_sheet 33 = .ok (.iload_n 2, 1) := by decide +kernel
theorem dX5_sheet_34 : decode cX5_sheet 34 = .ok (.invokevirtual 256, 3) := by decide +kernel
theorem dX5_sheet_37 : decode cX5_sheet 37 = .ok (.iload_n 2, 1) := by decide +kernel
theorem dX5_sheet_38 : decode cX5_sheet 38 = .ok (.i2l, 1) := by decide +kernel
theorem dX5_sheet_39 : decode cX5_sheet 39 = .ok (.lreturn, 1) := by decide +kernel
theorem dX5_mark_0 : decode cX5_mark 0 = .ok (.iload_n 1, 1) := by decide +kernel
theorem dX5_mark_1 : decode cX5_mark 1 = .ok (.iconst 0, 1) := by decide +kernel
theorem dX5_mark_2 : decode cX5_mark 2 = .ok (.iconst 1, 1) := by decide +kernel
theorem dX5_mark_3 : decode cX5_mark 3 = .ok (.invokestatic 64, 3) := by decide +kernel
theorem dX5_mark_6 : decode cX5_mark 6 = .ok (.ifCond .eq 7, 3) := by decide +kernel
theorem dX5_mark_9 : decode cX5_mark 9 = .ok (.ldc2_w 68, 3) := by decide +kernel
theorem dX5_mark_12 : decode cX5_mark 12 = .ok (.lreturn, 1) := by decide +kernel
theorem dX5_mark_13 : decode cX5_mark 13 = .ok (.aload_n 0, 1) := by decide +kernel
theorem dX5_mark_14 : decode cX5_mark 14 = .ok (.getfield 47, 3) := by decide +kernel
theorem dX5_mark_17 : decode cX5_mark 17 = .ok (.iload_n 1, 1) := by decide +kernel
theorem dX5_mark_18 : decode cX5_mark 18 = .ok (.aaload, 1) := by decide +kernel
theorem dX5_mark_19 : decode cX5_mark 19 = .ok (.invokevirtual 211, 3) := by decide +kernel
theorem dX5_mark_22 : decode cX5_mark 22 = .ok (.ifCond .eq 7, 3) := by decide +kernel
theorem dX5_mark_25 : decode cX5_mark 25 = .ok (.ldc2_w 215, 3) := by decide +kernel
theorem dX5_mark_28 : decode cX5_mark 28 = .ok (.lreturn, 1) := by decide +kernel
theorem dX5_mark_29 : decode cX5_mark 29 = .ok (.aload_n 0, 1) := by decide +kernel
theorem dX5_mark_30 : decode cX5_mark 30 = .ok (.getfield 47, 3) := by decide +kernel
theorem dX5_mark_33 : decode cX5_mark 33 = .ok (.iload_n 1, 1) := by decide +kernel
theorem dX5_mark_34 : decode cX5_mark 34 = .ok (.aaload, 1) := by decide +kernel
theorem dX5_mark_35 : decode cX5_mark 35 = .ok (.iload_n 2, 1) := by decide +kernel
theorem dX5_mark_36 : decode cX5_mark 36 = .ok (.invokevirtual 217, 3) := by decide +kernel
theorem dX5_mark_39 : decode cX5_mark 39 = .ok (.ifCond .ne 7, 3) := by decide +kernel
theorem dX5_mark_42 : decode cX5_mark 42 = .ok (.ldc2_w 260, 3) := by decide +kernel
theorem dX5_mark_45 : decode cX5_mark 45 = .ok (.lreturn, 1) := by decide +kernel
theorem dX5_mark_46 : decode cX5_mark 46 = .ok (.aload_n 0, 1) := by decide +kernel
theorem dX5_mark_47 : decode cX5_mark 47 = .ok (.getfield 47, 3) := by decide +kernel
theorem dX5_mark_50 : decode cX5_mark 50 = .ok (.iload_n 1, 1) := by decide +kernel
theorem dX5_mark_51 : decode cX5_mark 51 = .ok (.aaload, 1) := by decide +kernel
theorem dX5_mark_52 : decode cX5_mark 52 = .ok (.getfield 220, 3) := by decide +kernel
theorem dX5_mark_55 : decode cX5_mark 55 = .ok (.iload_n 2, 1) := by decide +kernel
theorem dX5_mark_56 : decode cX5_mark 56 = .ok (.saload, 1) := by decide +kernel
theorem dX5_mark_57 : decode cX5_mark 57 = .ok (.istore 4, 2) := by decide +kernel
theorem dX5_mark_59 : decode cX5_mark 59 = .ok (.aload_n 0, 1) := by decide +kernel
theorem dX5_mark_60 : decode cX5_mark 60 = .ok (.getfield 47, 3) := by decide +kernel
theorem dX5_mark_63 : decode cX5_mark 63 = .ok (.iload_n 1, 1) := by decide +kernel
theorem dX5_mark_64 : decode cX5_mark 64 = .ok (.aaload, 1) := by decide +kernel
theorem dX5_mark_65 : decode cX5_mark 65 = .ok (.getfield 220, 3) := by decide +kernel
theorem dX5_mark_68 : decode cX5_mark 68 = .ok (.iload_n 2, 1) := by decide +kernel
theorem dX5_mark_69 : decode cX5_mark 69 = .ok (.iload_n 3, 1) := by decide +kernel
theorem dX5_mark_70 : decode cX5_mark 70 = .ok (.i2s, 1) := by decide +kernel
theorem dX5_mark_71 : decode cX5_mark 71 = .ok (.sastore, 1) := by decide +kernel
theorem dX5_mark_72 : decode cX5_mark 72 = .ok (.iload 4, 2) := by decide +kernel
theorem dX5_mark_74 : decode cX5_mark 74 = .ok (.i2l, 1) := by decide +kernel
theorem dX5_mark_75 : decode cX5_mark 75 = .ok (.lreturn, 1) := by decide +kernel
theorem dX5_copy_0 : decode cX5_copy 0 = .ok (.iload_n 1, 1) := by decide +kernel
theorem dX5_copy_1 : decode cX5_copy 1 = .ok (.iconst 0, 1) := by decide +kernel
theorem dX5_copy_2 : decode cX5_copy 2 = .ok (.iconst 1, 1) := by decide +kernel
theorem dX5_copy_3 : decode cX5_copy 3 = .ok (.invokestatic 64, 3) := by decide +kernel
theorem dX5_copy_6 : decode cX5_copy 6 = .ok (.ifCond .ne 12, 3) := by decide +kernel
theorem dX5_copy_9 : decode cX5_copy 9 = .ok (.iload_n 3, 1) := by decide +kernel
theorem dX5_copy_10 : decode cX5_copy 10 = .ok (.iconst 0, 1) := by decide +kernel
theorem dX5_copy_11 : decode cX5_copy 11 = .ok (.iconst 1, 1) := by decide +kernel
theorem dX5_copy_12 : decode cX5_copy 12 = .ok (.invokestatic 64, 3) := by decide +kernel
theorem dX5_copy_15 : decode cX5_copy 15 = .ok (.ifCond .eq 7, 3) := by decide +kernel
theorem dX5_copy_18 : decode cX5_copy 18 = .ok (.ldc2_w 68, 3) := by decide +kernel
theorem dX5_copy_21 : decode cX5_copy 21 = .ok (.lreturn, 1) := by decide +kernel
theorem dX5_copy_22 : decode cX5_copy 22 = .ok (.aload_n 0, 1) := by decide +kernel
theorem dX5_copy_23 : decode cX5_copy 23 = .ok (.getfield 47, 3) := by decide +kernel
theorem dX5_copy_26 : decode cX5_copy 26 = .ok (.iload_n 1, 1) := by decide +kernel
theorem dX5_copy_27 : decode cX5_copy 27 = .ok (.aaload, 1) := by decide +kernel
theorem dX5_copy_28 : decode cX5_copy 28 = .ok (.invokevirtual 211, 3) := by decide +kernel
theorem dX5_copy_31 : decode cX5_copy 31 = .ok (.ifCond .ne 15, 3) := by decide +kernel
theorem dX5_copy_34 : decode cX5_copy 34 = .ok (.aload_n 0, 1) := by decide +kernel
theorem dX5_copy_35 : decode cX5_copy 35 = .ok (.getfield 47, 3) := by decide +kernel
theorem dX5_copy_38 : decode cX5_copy 38 = .ok (.iload_n 3, 1) := by decide +kernel
theorem dX5_copy_39 : decode cX5_copy 39 = .ok (.aaload, 1) := by decide +kernel
theorem dX5_copy_40 : decode cX5_copy 40 = .ok (.invokevirtual 211, 3) := by decide +kernel
theorem dX5_copy_43 : decode cX5_copy 43 = .ok (.ifCond .eq 7, 3) := by decide +kernel
theorem dX5_copy_46 : decode cX5_copy 46 = .ok (.ldc2_w 215, 3) := by decide +kernel
theorem dX5_copy_49 : decode cX5_copy 49 = .ok (.lreturn, 1) := by decide +kernel
theorem dX5_copy_50 : decode cX5_copy 50 = .ok (.aload_n 0, 1) := by decide +kernel
theorem dX5_copy_51 : decode cX5_copy 51 = .ok (.getfield 47, 3) := by decide +kernel
theorem dX5_copy_54 : decode cX5_copy 54 = .ok (.iload_n 1, 1) := by decide +kernel
theorem dX5_copy_55 : decode cX5_copy 55 = .ok (.aaload, 1) := by decide +kernel
theorem dX5_copy_56 : decode cX5_copy 56 = .ok (.iload_n 2, 1) := by decide +kernel
theorem dX5_copy_57 : decode cX5_copy 57 = .ok (.iload 5, 2) := by decide +kernel
theorem dX5_copy_59 : decode cX5_copy 59 = .ok (.invokevirtual 262, 3) := by decide +kernel
theorem dX5_copy_62 : decode cX5_copy 62 = .ok (.ifCond .eq 19, 3) := by decide +kernel
theorem dX5_copy_65 : decode cX5_copy 65 = .ok (.aload_n 0, 1) := by decide +kernel
theorem dX5_copy_66 : decode cX5_copy 66 = .ok (.getfield 47, 3) := by decide +kernel
theorem dX5_copy_69 : decode cX5_copy 69 = .ok (.iload_n 3, 1) := by decide +kernel
theorem dX5_copy_70 : decode cX5_copy 70 = .ok (.aaload, 1) := by decide +kernel
theorem dX5_copy_71 : decode cX5_copy 71 = .ok (.iload 4, 2) := by decide +kernel
theorem dX5_copy_73 : decode cX5_copy 73 = .ok (.iload 5, 2) := by decide +kernel
theorem dX5_copy_75 : decode cX5_copy 75 = .ok (.invokevirtual 262, 3) := by decide +kernel
theorem dX5_copy_78 : decode cX5_copy 78 = .ok (.ifCond .ne 7, 3) := by decide +kernel
theorem dX5_copy_81 : decode cX5_copy 81 = .ok (.ldc2_w 260, 3) := by decide +kernel
theorem dX5_copy_84 : decode cX5_copy 84 = .ok (.lreturn, 1) := by decide +kernel
theorem dX5_copy_85 : decode cX5_copy 85 = .ok (.aload_n 0, 1) := by decide +kernel
theorem dX5_copy_86 : decode cX5_copy 86 = .ok (.getfield 47, 3) := by decide +kernel
theorem dX5_copy_89 : decode cX5_copy 89 = .ok (.iload_n 1, 1) := by decide +kernel
theorem dX5_copy_90 : decode cX5_copy 90 = .ok (.aaload, 1) := by decide +kernel
theorem dX5_copy_91 : decode cX5_copy 91 = .ok (.getfield 220, 3) := by decide +kernel
theorem dX5_copy_94 : decode cX5_copy 94 = .ok (.iload_n 2, 1) := by decide +kernel
theorem dX5_copy_95 : decode cX5_copy 95 = .ok (.aload_n 0, 1) := by decide +kernel
theorem dX5_copy_96 : decode cX5_copy 96 = .ok (.getfield 47, 3) := by decide +kernel
theorem dX5_copy_99 : decode cX5_copy 99 = .ok (.iload_n 3, 1) := by decide +kernel
theorem dX5_copy_100 : decode cX5_copy 100 = .ok (.aaload, 1) := by decide +kernel
theorem dX5_copy_101 : decode cX5_copy 101 = .ok (.getfield 220, 3) := by decide +kernel
theorem dX5_copy_104 : decode cX5_copy 104 = .ok (.iload 4, 2) := by decide +kernel
theorem dX5_copy_106 : decode cX5_copy 106 = .ok (.iload 5, 2) := by decide +kernel
theorem dX5_copy_108 : decode cX5_copy 108 = .ok (.invokestatic 265, 3) := by decide +kernel
theorem dX5_copy_111 : decode cX5_copy 111 = .ok (.iload 5, 2) := by decide +kernel
theorem dX5_copy_113 : decode cX5_copy 113 = .ok (.i2l, 1) := by decide +kernel
theorem dX5_copy_114 : decode cX5_copy 114 = .ok (.lreturn, 1) := by decide +kernel
theorem dX5_count_0 : decode cX5_count 0 = .ok (.iload_n 1, 1) := by decide +kernel
theorem dX5_count_1 : decode cX5_count 1 = .ok (.tableswitch 101 0 3 #[31, 40, 58, 64], 31) := by decide +kernel
theorem dX5_count_32 : decode cX5_count 32 = .ok (.aload_n 0, 1) := by decide +kernel
theorem dX5_count_33 : decode cX5_count 33 = .ok (.getfield 16, 3) := by decide +kernel
theorem dX5_count_36 : decode cX5_count 36 = .ok (.invokevirtual 271, 3) := by decide +kernel
theorem dX5_count_39 : decode cX5_count 39 = .ok (.i2l, 1) := by decide +kernel
theorem dX5_count_40 : decode cX5_count 40 = .ok (.lreturn, 1) := by decide +kernel
theorem dX5_count_41 : decode cX5_count 41 = .ok (.aload_n 0, 1) := by decide +kernel
theorem dX5_count_42 : decode cX5_count 42 = .ok (.getfield 16, 3) := by decide +kernel
theorem dX5_count_45 : decode cX5_count 45 = .ok (.invokevirtual 271, 3) := by decide +kernel
theorem dX5_count_48 : decode cX5_count 48 = .ok (.i2l, 1) := by decide +kernel
theorem dX5_count_49 : decode cX5_count 49 = .ok (.aload_n 0, 1) := by decide +kernel
theorem dX5_count_50 : decode cX5_count 50 = .ok (.getfield 16, 3) := by decide +kernel
theorem dX5_count_53 : decode cX5_count 53 = .ok (.getfield 73, 3) := by decide +kernel
theorem dX5_count_56 : decode cX5_count 56 = .ok (.i2l, 1) := by decide +kernel
theorem dX5_count_57 : decode cX5_count 57 = .ok (.lmul, 1) := by decide +kernel
theorem dX5_count_58 : decode cX5_count 58 = .ok (.lreturn, 1) := by decide +kernel
theorem dX5_count_59 : decode cX5_count 59 = .ok (.aload_n 0, 1) := by decide +kernel
theorem dX5_count_60 : decode cX5_count 60 = .ok (.getfield 61, 3) := by decide +kernel
theorem dX5_count_63 : decode cX5_count 63 = .ok (.i2l, 1) := by decide +kernel
theorem dX5_count_64 : decode cX5_count 64 = .ok (.lreturn, 1) := by decide +kernel
theorem dX5_count_65 : decode cX5_count 65 = .ok (.aload_n 0, 1) := by decide +kernel
theorem dX5_count_66 : decode cX5_count 66 = .ok (.getfield 47, 3) := by decide +kernel
theorem dX5_count_69 : decode cX5_count 69 = .ok (.iconst 0, 1) := by decide +kernel
theorem dX5_count_70 : decode cX5_count 70 = .ok (.aaload, 1) := by decide +kernel
theorem dX5_count_71 : decode cX5_count 71 = .ok (.invokevirtual 211, 3) := by decide +kernel
theorem dX5_count_74 : decode cX5_count 74 = .ok (.ifCond .eq 7, 3) := by decide +kernel
theorem dX5_count_77 : decode cX5_count 77 = .ok (.iconst 0, 1) := by decide +kernel
theorem dX5_count_78 : decode cX5_count 78 = .ok (.goto 4, 3) := by decide +kernel
theorem dX5_count_81 : decode cX5_count 81 = .ok (.iconst 1, 1) := by decide +kernel
theorem dX5_count_82 : decode cX5_count 82 = .ok (.aload_n 0, 1) := by decide +kernel
theorem dX5_count_83 : decode cX5_count 83 = .ok (.getfield 47, 3) := by decide +kernel
theorem dX5_count_86 : decode cX5_count 86 = .ok (.iconst 1, 1) := by decide +kernel
theorem dX5_count_87 : decode cX5_count 87 = .ok (.aaload, 1) := by decide +kernel
theorem dX5_count_88 : decode cX5_count 88 = .ok (.invokevirtual 211, 3) := by decide +kernel
theorem dX5_count_91 : decode cX5_count 91 = .ok (.ifCond .eq 7, 3) := by decide +kernel
theorem dX5_count_94 : decode cX5_count 94 = .ok (.iconst 0, 1) := by decide +kernel
theorem dX5_count_95 : decode cX5_count 95 = .ok (.goto 4, 3) := by decide +kernel
theorem dX5_count_98 : decode cX5_count 98 = .ok (.iconst 1, 1) := by decide +kernel
theorem dX5_count_99 : decode cX5_count 99 = .ok (.iadd, 1) := by decide +kernel
theorem dX5_count_100 : decode cX5_count 100 = .ok (.i2l, 1) := by decide +kernel
theorem dX5_count_101 : decode cX5_count 101 = .ok (.lreturn, 1) := by decide +kernel
theorem dX5_count_102 : decode cX5_count 102 = .ok (.ldc2_w 68, 3) := by decide +kernel
theorem dX5_count_105 : decode cX5_count 105 = .ok (.lreturn, 1) := by decide +kernel
theorem dX5_outside_0 : decode cX5_outside 0 = .ok (.iload_n 0, 1) := by decide +kernel
theorem dX5_outside_1 : decode cX5_outside 1 = .ok (.iload_n 1, 1) := by decide +kernel
theorem dX5_outside_2 : decode cX5_outside 2 = .ok (.if_icmp .lt 8, 3) := by decide +kernel
theorem dX5_outside_5 : decode cX5_outside 5 = .ok (.iload_n 0, 1) := by decide +kernel
theorem dX5_outside_6 : decode cX5_outside 6 = .ok (.iload_n 2, 1) := by decide +kernel
theorem dX5_outside_7 : decode cX5_outside 7 = .ok (.if_icmp .le 7, 3) := by decide +kernel
theorem dX5_outside_10 : decode cX5_outside 10 = .ok (.iconst 1, 1) := by decide +kernel
theorem dX5_outside_11 : decode cX5_outside 11 = .ok (.goto 4, 3) := by decide +kernel
theorem dX5_outside_14 : decode cX5_outside 14 = .ok (.iconst 0, 1) := by decide +kernel
theorem dX5_outside_15 : decode cX5_outside 15 = .ok (.ireturn, 1) := by decide +kernel
theorem dX5_placeOf_0 : decode cX5_placeOf 0 = .ok (.iload_n 0, 1) := by decide +kernel
theorem dX5_placeOf_1 : decode cX5_placeOf 1 = .ok (.ifCond .ge 5, 3) := by decide +kernel
theorem dX5_placeOf_4 : decode cX5_placeOf 4 = .ok (.iconst (-1), 1) := by decide +kernel
theorem dX5_placeOf_5 : decode cX5_placeOf 5 = .ok (.ireturn, 1) := by decide +kernel
theorem dX5_placeOf_6 : decode cX5_placeOf 6 = .ok (.iload_n 0, 1) := by decide +kernel
theorem dX5_placeOf_7 : decode cX5_placeOf 7 = .ok (.bipush 100, 2) := by decide +kernel
theorem dX5_placeOf_9 : decode cX5_placeOf 9 = .ok (.idiv, 1) := by decide +kernel
theorem dX5_placeOf_10 : decode cX5_placeOf 10 = .ok (.istore_n 1, 1) := by decide +kernel
theorem dX5_placeOf_11 : decode cX5_placeOf 11 = .ok (.iload_n 0, 1) := by decide +kernel
theorem dX5_placeOf_12 : decode cX5_placeOf 12 = .ok (.bipush 10, 2) := by decide +kernel
theorem dX5_placeOf_14 : decode cX5_placeOf 14 = .ok (.idiv, 1) := by decide +kernel
theorem dX5_placeOf_15 : decode cX5_placeOf 15 = .ok (.bipush 10, 2) := by decide +kernel
theorem dX5_placeOf_17 : decode cX5_placeOf 17 = .ok (.irem, 1) := by decide +kernel
theorem dX5_placeOf_18 : decode cX5_placeOf 18 = .ok (.istore_n 2, 1) := by decide +kernel
theorem dX5_placeOf_19 : decode cX5_placeOf 19 = .ok (.iload_n 0, 1) := by decide +kernel
theorem dX5_placeOf_20 : decode cX5_placeOf 20 = .ok (.bipush 10, 2) := by decide +kernel
theorem dX5_placeOf_22 : decode cX5_placeOf 22 = .ok (.irem, 1) := by decide +kernel
theorem dX5_placeOf_23 : decode cX5_placeOf 23 = .ok (.istore_n 3, 1) := by decide +kernel
theorem dX5_placeOf_24 : decode cX5_placeOf 24 = .ok (.iload_n 1, 1) := by decide +kernel
theorem dX5_placeOf_25 : decode cX5_placeOf 25 = .ok (.iconst 3, 1) := by decide +kernel
theorem dX5_placeOf_26 : decode cX5_placeOf 26 = .ok (.if_icmp .ge 14, 3) := by decide +kernel
theorem dX5_placeOf_29 : decode cX5_placeOf 29 = .ok (.iload_n 2, 1) := by decide +kernel
theorem dX5_placeOf_30 : decode cX5_placeOf 30 = .ok (.iconst 4, 1) := by decide +kernel
theorem dX5_placeOf_31 : decode cX5_placeOf 31 = .ok (.if_icmp .ge 9, 3) := by decide +kernel
theorem dX5_placeOf_34 : decode cX5_placeOf 34 = .ok (.iload_n 3, 1) := by decide +kernel
theorem dX5_placeOf_35 : decode cX5_placeOf 35 = .ok (.bipush 6, 2) := by decide +kernel
theorem dX5_placeOf_37 : decode cX5_placeOf 37 = .ok (.if_icmp .lt 5, 3) := by decide +kernel
theorem dX5_placeOf_40 : decode cX5_placeOf 40 = .ok (.iconst (-1), 1) := by decide +kernel
theorem dX5_placeOf_41 : decode cX5_placeOf 41 = .ok (.ireturn, 1) := by decide +kernel
theorem dX5_placeOf_42 : decode cX5_placeOf 42 = .ok (.iload_n 1, 1) := by decide +kernel
theorem dX5_placeOf_43 : decode cX5_placeOf 43 = .ok (.bipush 24, 2) := by decide +kernel
theorem dX5_placeOf_45 : decode cX5_placeOf 45 = .ok (.imul, 1) := by decide +kernel
theorem dX5_placeOf_46 : decode cX5_placeOf 46 = .ok (.iload_n 2, 1) := by decide +kernel
theorem dX5_placeOf_47 : decode cX5_placeOf 47 = .ok (.bipush 6, 2) := by decide +kernel
theorem dX5_placeOf_49 : decode cX5_placeOf 49 = .ok (.imul, 1) := by decide +kernel
theorem dX5_placeOf_50 : decode cX5_placeOf 50 = .ok (.iadd, 1) := by decide +kernel
theorem dX5_placeOf_51 : decode cX5_placeOf 51 = .ok (.iload_n 3, 1) := by decide +kernel
theorem dX5_placeOf_52 : decode cX5_placeOf 52 = .ok (.iadd, 1) := by decide +kernel
theorem dX5_placeOf_53 : decode cX5_placeOf 53 = .ok (.ireturn, 1) := by decide +kernel
theorem dX5_numberOf_0 : decode cX5_numberOf 0 = .ok (.bipush 100, 2) := by decide +kernel
theorem dX5_numberOf_2 : decode cX5_numberOf 2 = .ok (.iload_n 0, 1) := by decide +kernel
theorem dX5_numberOf_3 : decode cX5_numberOf 3 = .ok (.bipush 24, 2) := by decide +kernel
theorem dX5_numberOf_5 : decode cX5_numberOf 5 = .ok (.idiv, 1) := by decide +kernel
theorem dX5_numberOf_6 : decode cX5_numberOf 6 = .ok (.imul, 1) := by decide +kernel
theorem dX5_numberOf_7 : decode cX5_numberOf 7 = .ok (.bipush 10, 2) := by decide +kernel
theorem dX5_numberOf_9 : decode cX5_numberOf 9 = .ok (.iload_n 0, 1) := by decide +kernel
theorem dX5_numberOf_10 : decode cX5_numberOf 10 = .ok (.bipush 24, 2) := by decide +kernel
theorem dX5_numberOf_12 : decode cX5_numberOf 12 = .ok (.irem, 1) := by decide +kernel
theorem dX5_numberOf_13 : decode cX5_numberOf 13 = .ok (.bipush 6, 2) := by decide +kernel
theorem dX5_numberOf_15 : decode cX5_numberOf 15 = .ok (.idiv, 1) := by decide +kernel
theorem dX5_numberOf_16 : decode cX5_numberOf 16 = .ok (.imul, 1) := by decide +kernel
theorem dX5_numberOf_17 : decode cX5_numberOf 17 = .ok (.iadd, 1) := by decide +kernel
theorem dX5_numberOf_18 : decode cX5_numberOf 18 = .ok (.iload_n 0, 1) := by decide +kernel
theorem dX5_numberOf_19 : decode cX5_numberOf 19 = .ok (.bipush 6, 2) := by decide +kernel
theorem dX5_numberOf_21 : decode cX5_numberOf 21 = .ok (.irem, 1) := by decide +kernel
theorem dX5_numberOf_22 : decode cX5_numberOf 22 = .ok (.iadd, 1) := by decide +kernel
theorem dX5_numberOf_23 : decode cX5_numberOf 23 = .ok (.ireturn, 1) := by decide +kernel
theorem dX5_letFlow_0 : decode cX5_letFlow 0 = .ok (.aload_n 0, 1) := by decide +kernel
theorem dX5_letFlow_1 : decode cX5_letFlow 1 = .ok (.getfield 33, 3) := by decide +kernel
theorem dX5_letFlow_4 : decode cX5_letFlow 4 = .ok (.aload_n 0, 1) := by decide +kernel
theorem dX5_letFlow_5 : decode cX5_letFlow 5 = .ok (.getfield 26, 3) := by decide +kernel
theorem dX5_letFlow_8 : decode cX5_letFlow 8 = .ok (.invokevirtual 182, 3) := by decide +kernel
theorem dX5_letFlow_11 : decode cX5_letFlow 11 = .ok (.aload_n 0, 1) := by decide +kernel
theorem dX5_letFlow_12 : decode cX5_letFlow 12 = .ok (.getfield 33, 3) := by decide +kernel
theorem dX5_letFlow_15 : decode cX5_letFlow 15 = .ok (.aload_n 0, 1) := by decide +kernel
theorem dX5_letFlow_16 : decode cX5_letFlow 16 = .ok (.getfield 16, 3) := by decide +kernel
theorem dX5_letFlow_19 : decode cX5_letFlow 19 = .ok (.aload_n 0, 1) := by decide +kernel
theorem dX5_letFlow_20 : decode cX5_letFlow 20 = .ok (.getfield 51, 3) := by decide +kernel
theorem dX5_letFlow_23 : decode cX5_letFlow 23 = .ok (.i2l, 1) := by decide +kernel
theorem dX5_letFlow_24 : decode cX5_letFlow 24 = .ok (.aload_n 0, 1) := by decide +kernel
theorem dX5_letFlow_25 : decode cX5_letFlow 25 = .ok (.getfield 55, 3) := by decide +kernel
theorem dX5_letFlow_28 : decode cX5_letFlow 28 = .ok (.i2l, 1) := by decide +kernel
theorem dX5_letFlow_29 : decode cX5_letFlow 29 = .ok (.aload_n 0, 1) := by decide +kernel
theorem dX5_letFlow_30 : decode cX5_letFlow 30 = .ok (.getfield 58, 3) := by decide +kernel
theorem dX5_letFlow_33 : decode cX5_letFlow 33 = .ok (.i2l, 1) := by decide +kernel
theorem dX5_letFlow_34 : decode cX5_letFlow 34 = .ok (.invokevirtual 193, 3) := by decide +kernel
theorem dX5_letFlow_37 : decode cX5_letFlow 37 = .ok (.return_, 1) := by decide +kernel
theorem dX5_powerAt_0 : decode cX5_powerAt 0 = .ok (.iload_n 1, 1) := by decide +kernel
theorem dX5_powerAt_1 : decode cX5_powerAt 1 = .ok (.i2l, 1) := by decide +kernel
theorem dX5_powerAt_2 : decode cX5_powerAt 2 = .ok (.aload_n 0, 1) := by decide +kernel
theorem dX5_powerAt_3 : decode cX5_powerAt 3 = .ok (.getfield 51, 3) := by decide +kernel
theorem dX5_powerAt_6 : decode cX5_powerAt 6 = .ok (.i2l, 1) := by decide +kernel
theorem dX5_powerAt_7 : decode cX5_powerAt 7 = .ok (.lmul, 1) := by decide +kernel
theorem dX5_powerAt_8 : decode cX5_powerAt 8 = .ok (.ldc2_w 274, 3) := by decide +kernel
theorem dX5_powerAt_11 : decode cX5_powerAt 11 = .ok (.ldiv, 1) := by decide +kernel
theorem dX5_powerAt_12 : decode cX5_powerAt 12 = .ok (.lstore_n 2, 1) := by decide +kernel
theorem dX5_powerAt_13 : decode cX5_powerAt 13 = .ok (.aload_n 0, 1) := by decide +kernel
theorem dX5_powerAt_14 : decode cX5_powerAt 14 = .ok (.getfield 33, 3) := by decide +kernel
theorem dX5_powerAt_17 : decode cX5_powerAt 17 = .ok (.getfield 147, 3) := by decide +kernel
theorem dX5_powerAt_20 : decode cX5_powerAt 20 = .ok (.aload_n 0, 1) := by decide +kernel
theorem dX5_powerAt_21 : decode cX5_powerAt 21 = .ok (.getfield 33, 3) := by decide +kernel
theorem dX5_powerAt_24 : decode cX5_powerAt 24 = .ok (.getfield 141, 3) := by decide +kernel
theorem dX5_powerAt_27 : decode cX5_powerAt 27 = .ok (.lmul, 1) := by decide +kernel
theorem dX5_powerAt_28 : decode cX5_powerAt 28 = .ok (.ldc2_w 274, 3) := by decide +kernel
theorem dX5_powerAt_31 : decode cX5_powerAt 31 = .ok (.ldiv, 1) := by decide +kernel
theorem dX5_powerAt_32 : decode cX5_powerAt 32 = .ok (.lstore 4, 2) := by decide +kernel
theorem dX5_powerAt_34 : decode cX5_powerAt 34 = .ok (.lload_n 2, 1) := by decide +kernel
theorem dX5_powerAt_35 : decode cX5_powerAt 35 = .ok (.aload_n 0, 1) := by decide +kernel
theorem dX5_powerAt_36 : decode cX5_powerAt 36 = .ok (.getfield 9, 3) := by decide +kernel
theorem dX5_powerAt_39 : decode cX5_powerAt 39 = .ok (.iconst 2, 1) := by decide +kernel
theorem dX5_powerAt_40 : decode cX5_powerAt 40 = .ok (.iaload, 1) := by decide +kernel
theorem dX5_powerAt_41 : decode cX5_powerAt 41 = .ok (.i2l, 1) := by decide +kernel
theorem dX5_powerAt_42 : decode cX5_powerAt 42 = .ok (.lload 4, 2) := by decide +kernel
theorem dX5_powerAt_44 : decode cX5_powerAt 44 = .ok (.lmul, 1) := by decide +kernel
theorem dX5_powerAt_45 : decode cX5_powerAt 45 = .ok (.ldc2_w 274, 3) := by decide +kernel
theorem dX5_powerAt_48 : decode cX5_powerAt 48 = .ok (.ldiv, 1) := by decide +kernel
theorem dX5_powerAt_49 : decode cX5_powerAt 49 = .ok (.lsub, 1) := by decide +kernel
theorem dX5_powerAt_50 : decode cX5_powerAt 50 = .ok (.lreturn, 1) := by decide +kernel
theorem dX5_suits_0 : decode cX5_suits 0 = .ok (.aload_n 0, 1) := by decide +kernel
theorem dX5_suits_1 : decode cX5_suits 1 = .ok (.getfield 33, 3) := by decide +kernel
theorem dX5_suits_4 : decode cX5_suits 4 = .ok (.getfield 130, 3) := by decide +kernel
theorem dX5_suits_7 : decode cX5_suits 7 = .ok (.iload_n 1, 1) := by decide +kernel
theorem dX5_suits_8 : decode cX5_suits 8 = .ok (.i2l, 1) := by decide +kernel
theorem dX5_suits_9 : decode cX5_suits 9 = .ok (.lcmp, 1) := by decide +kernel
theorem dX5_suits_10 : decode cX5_suits 10 = .ok (.ifCond .lt 58, 3) := by decide +kernel
theorem dX5_suits_13 : decode cX5_suits 13 = .ok (.aload_n 0, 1) := by decide +kernel
theorem dX5_suits_14 : decode cX5_suits 14 = .ok (.getfield 33, 3) := by decide +kernel
theorem dX5_suits_17 : decode cX5_suits 17 = .ok (.getfield 134, 3) := by decide +kernel
theorem dX5_suits_20 : decode cX5_suits 20 = .ok (.iload_n 2, 1) := by decide +kernel
theorem dX5_suits_21 : decode cX5_suits 21 = .ok (.i2l, 1) := by decide +kernel
theorem dX5_suits_22 : decode cX5_suits 22 = .ok (.aload_n 0, 1) := by decide +kernel
theorem dX5_suits_23 : decode cX5_suits 23 = .ok (.getfield 33, 3) := by decide +kernel
theorem dX5_suits_26 : decode cX5_suits 26 = .ok (.getfield 130, 3) := by decide +kernel
theorem dX5_suits_29 : decode cX5_suits 29 = .ok (.lmul, 1) := by decide +kernel
theorem dX5_suits_30 : decode cX5_suits 30 = .ok (.lcmp, 1) := by decide +kernel
theorem dX5_suits_31 : decode cX5_suits 31 = .ok (.ifCond .gt 37, 3) := by decide +kernel
theorem dX5_suits_34 : decode cX5_suits 34 = .ok (.aload_n 0, 1) := by decide +kernel
theorem dX5_suits_35 : decode cX5_suits 35 = .ok (.getfield 33, 3) := by decide +kernel
theorem dX5_suits_38 : decode cX5_suits 38 = .ok (.aload_n 0, 1) := by decide +kernel
theorem dX5_suits_39 : decode cX5_suits 39 = .ok (.getfield 20, 3) := by decide +kernel
theorem dX5_suits_42 : decode cX5_suits 42 = .ok (.aload_n 0, 1) := by decide +kernel
theorem dX5_suits_43 : decode cX5_suits 43 = .ok (.getfield 9, 3) := by decide +kernel
theorem dX5_suits_46 : decode cX5_suits 46 = .ok (.iconst 0, 1) := by decide +kernel
theorem dX5_suits_47 : decode cX5_suits 47 = .ok (.iaload, 1) := by decide +kernel
theorem dX5_suits_48 : decode cX5_suits 48 = .ok (.aload_n 0, 1) := by decide +kernel
theorem dX5_suits_49 : decode cX5_suits 49 = .ok (.getfield 9, 3) := by decide +kernel
theorem dX5_suits_52 : decode cX5_suits 52 = .ok (.iconst 1, 1) := by decide +kernel
theorem dX5_suits_53 : decode cX5_suits 53 = .ok (.iaload, 1) := by decide +kernel
theorem dX5_suits_54 : decode cX5_suits 54 = .ok (.invokevirtual 154, 3) := by decide +kernel
theorem dX5_suits_57 : decode cX5_suits 57 = .ok (.ldc2_w 170, 3) := by decide +kernel
theorem dX5_suits_60 : decode cX5_suits 60 = .ok (.lcmp, 1) := by decide +kernel
theorem dX5_suits_61 : decode cX5_suits 61 = .ok (.ifCond .ne 7, 3) := by decide +kernel
theorem dX5_suits_64 : decode cX5_suits 64 = .ok (.iconst 1, 1) := by decide +kernel
theorem dX5_suits_65 : decode cX5_suits 65 = .ok (.goto 4, 3) := by decide +kernel
theorem dX5_suits_68 : decode cX5_suits 68 = .ok (.iconst 0, 1) := by decide +kernel
theorem dX5_suits_69 : decode cX5_suits 69 = .ok (.ireturn, 1) := by decide +kernel
theorem dX5_passDay_0 : decode cX5_passDay 0 = .ok (.aload_n 0, 1) := by decide +kernel
theorem dX5_passDay_1 : decode cX5_passDay 1 = .ok (.invokevirtual 111, 3) := by decide +kernel
theorem dX5_passDay_4 : decode cX5_passDay 4 = .ok (.aload_n 0, 1) := by decide +kernel
theorem dX5_passDay_5 : decode cX5_passDay 5 = .ok (.dup, 1) := by decide +kernel
theorem dX5_passDay_6 : decode cX5_passDay 6 = .ok (.getfield 61, 3) := by decide +kernel
theorem dX5_passDay_9 : decode cX5_passDay 9 = .ok (.iconst 1, 1) := by decide +kernel
theorem dX5_passDay_10 : decode cX5_passDay 10 = .ok (.iadd, 1) := by decide +kernel
theorem dX5_passDay_11 : decode cX5_passDay 11 = .ok (.putfield 61, 3) := by decide +kernel
theorem dX5_passDay_14 : decode cX5_passDay 14 = .ok (.iconst 1, 1) := by decide +kernel
theorem dX5_passDay_15 : decode cX5_passDay 15 = .ok (.aload_n 0, 1) := by decide +kernel
theorem dX5_passDay_16 : decode cX5_passDay 16 = .ok (.getfield 9, 3) := by decide +kernel
theorem dX5_passDay_19 : decode cX5_passDay 19 = .ok (.iconst 3, 1) := by decide +kernel
theorem dX5_passDay_20 : decode cX5_passDay 20 = .ok (.iaload, 1) := by decide +kernel
theorem dX5_passDay_21 : decode cX5_passDay 21 = .ok (.invokestatic 276, 3) := by decide +kernel
theorem dX5_passDay_24 : decode cX5_passDay 24 = .ok (.istore_n 1, 1) := by decide +kernel
theorem dX5_passDay_25 : decode cX5_passDay 25 = .ok (.aload_n 0, 1) := by decide +kernel
theorem dX5_passDay_26 : decode cX5_passDay 26 = .ok (.getfield 9, 3) := by decide +kernel
theorem dX5_passDay_29 : decode cX5_passDay 29 = .ok (.iconst 4, 1) := by decide +kernel
theorem dX5_passDay_30 : decode cX5_passDay 30 = .ok (.iaload, 1) := by decide +kernel
theorem dX5_passDay_31 : decode cX5_passDay 31 = .ok (.istore_n 2, 1) := by decide +kernel
theorem dX5_passDay_32 : decode cX5_passDay 32 = .ok (.iload_n 2, 1) := by decide +kernel
theorem dX5_passDay_33 : decode cX5_passDay 33 = .ok (.ifCond .le 16, 3) := by decide +kernel
theorem dX5_passDay_36 : decode cX5_passDay 36 = .ok (.aload_n 0, 1) := by decide +kernel
theorem dX5_passDay_37 : decode cX5_passDay 37 = .ok (.getfield 61, 3) := by decide +kernel
theorem dX5_passDay_40 : decode cX5_passDay 40 = .ok (.iload_n 2, 1) := by decide +kernel
theorem dX5_passDay_41 : decode cX5_passDay 41 = .ok (.irem, 1) := by decide +kernel
theorem dX5_passDay_42 : decode cX5_passDay 42 = .ok (.ifCond .ne 7, 3) := by decide +kernel
theorem dX5_passDay_45 : decode cX5_passDay 45 = .ok (.iconst 1, 1) := by decide +kernel
theorem dX5_passDay_46 : decode cX5_passDay 46 = .ok (.goto 4, 3) := by decide +kernel
theorem dX5_passDay_49 : decode cX5_passDay 49 = .ok (.iconst 0, 1) := by decide +kernel
theorem dX5_passDay_50 : decode cX5_passDay 50 = .ok (.istore_n 3, 1) := by decide +kernel
theorem dX5_passDay_51 : decode cX5_passDay 51 = .ok (.iconst 0, 1) := by decide +kernel
theorem dX5_passDay_52 : decode cX5_passDay 52 = .ok (.istore 4, 2) := by decide +kernel
theorem dX5_passDay_54 : decode cX5_passDay 54 = .ok (.iload 4, 2) := by decide +kernel
theorem dX5_passDay_56 : decode cX5_passDay 56 = .ok (.bipush 72, 2) := by decide +kernel
theorem dX5_passDay_58 : decode cX5_passDay 58 = .ok (.if_icmp .ge 56, 3) := by decide +kernel
theorem dX5_passDay_61 : decode cX5_passDay 61 = .ok (.aload_n 0, 1) := by decide +kernel
theorem dX5_passDay_62 : decode cX5_passDay 62 = .ok (.getfield 16, 3) := by decide +kernel
theorem dX5_passDay_65 : decode cX5_passDay 65 = .ok (.iload 4, 2) := by decide +kernel
theorem dX5_passDay_67 : decode cX5_passDay 67 = .ok (.invokevirtual 105, 3) := by decide +kernel
theorem dX5_passDay_70 : decode cX5_passDay 70 = .ok (.ifCond .eq 38, 3) := by decide +kernel
theorem dX5_passDay_73 : decode cX5_passDay 73 = .ok (.aload_n 0, 1) := by decide +kernel
theorem dX5_passDay_74 : decode cX5_passDay 74 = .ok (.getfield 26, 3) := by decide +kernel
theorem dX5_passDay_77 : decode cX5_passDay 77 = .ok (.iload 4, 2) := by decide +kernel
theorem dX5_passDay_79 : decode cX5_passDay 79 = .ok (.aload_n 0, 1) := by decide +kernel
theorem dX5_passDay_80 : decode cX5_passDay 80 = .ok (.getfield 33, 3) := by decide +kernel
theorem dX5_passDay_83 : decode cX5_passDay 83 = .ok (.getfield 124, 3) := by decide +kernel
theorem dX5_passDay_86 : decode cX5_passDay 86 = .ok (.iload 4, 2) := by decide +kernel
theorem dX5_passDay_88 : decode cX5_passDay 88 = .ok (.laload, 1) := by decide +kernel
theorem dX5_passDay_89 : decode cX5_passDay 89 = .ok (.iload_n 1, 1) := by decide +kernel
theorem dX5_passDay_90 : decode cX5_passDay 90 = .ok (.i2l, 1) := by decide +kernel
theorem dX5_passDay_91 : decode cX5_passDay 91 = .ok (.ldiv, 1) := by decide +kernel
theorem dX5_passDay_92 : decode cX5_passDay 92 = .ok (.invokevirtual 279, 3) := by decide +kernel
theorem dX5_passDay_95 : decode cX5_passDay 95 = .ok (.iload_n 3, 1) := by decide +kernel
theorem dX5_passDay_96 : decode cX5_passDay 96 = .ok (.ifCond .eq 12, 3) := by decide +kernel
theorem dX5_passDay_99 : decode cX5_passDay 99 = .ok (.aload_n 0, 1) := by decide +kernel
theorem dX5_passDay_100 : decode cX5_passDay 100 = .ok (.getfield 26, 3) := by decide +kernel
theorem dX5_passDay_103 : decode cX5_passDay 103 = .ok (.iload 4, 2) := by decide +kernel
theorem dX5_passDay_105 : decode cX5_passDay 105 = .ok (.invokevirtual 283, 3) := by decide +kernel
theorem dX5_passDay_108 : decode cX5_passDay 108 = .ok (.iinc 4 1, 3) := by decide +kernel
theorem dX5_passDay_111 : decode cX5_passDay 111 = .ok (.goto (-57), 3) := by decide +kernel
theorem dX5_passDay_114 : decode cX5_passDay 114 = .ok (.return_, 1) := by decide +kernel
theorem dX5_isPair_0 : decode cX5_isPair 0 = .ok (.aload_n 0, 1) := by decide +kernel
theorem dX5_isPair_1 : decode cX5_isPair 1 = .ok (.getfield 16, 3) := by decide +kernel
theorem dX5_isPair_4 : decode cX5_isPair 4 = .ok (.iload_n 1, 1) := by decide +kernel
theorem dX5_isPair_5 : decode cX5_isPair 5 = .ok (.invokevirtual 105, 3) := by decide +kernel
theorem dX5_isPair_8 : decode cX5_isPair 8 = .ok (.ifCond .eq 30, 3) := by decide +kernel
theorem dX5_isPair_11 : decode cX5_isPair 11 = .ok (.aload_n 0, 1) := by decide +kernel
theorem dX5_isPair_12 : decode cX5_isPair 12 = .ok (.getfield 16, 3) := by decide +kernel
theorem dX5_isPair_15 : decode cX5_isPair 15 = .ok (.iload_n 2, 1) := by decide +kernel
theorem dX5_isPair_16 : decode cX5_isPair 16 = .ok (.invokevirtual 105, 3) := by decide +kernel
theorem dX5_isPair_19 : decode cX5_isPair 19 = .ok (.ifCond .eq 19, 3) := by decide +kernel
theorem dX5_isPair_22 : decode cX5_isPair 22 = .ok (.aload_n 0, 1) := by decide +kernel
theorem dX5_isPair_23 : decode cX5_isPair 23 = .ok (.getfield 33, 3) := by decide +kernel
theorem dX5_isPair_26 : decode cX5_isPair 26 = .ok (.iload_n 1, 1) := by decide +kernel
theorem dX5_isPair_27 : decode cX5_isPair 27 = .ok (.iload_n 2, 1) := by decide +kernel
theorem dX5_isPair_28 : decode cX5_isPair 28 = .ok (.invokevirtual 286, 3) := by decide +kernel
theorem dX5_isPair_31 : decode cX5_isPair 31 = .ok (.ifCond .ne 7, 3) := by decide +kernel
theorem dX5_isPair_34 : decode cX5_isPair 34 = .ok (.iconst 1, 1) := by decide +kernel
theorem dX5_isPair_35 : decode cX5_isPair 35 = .ok (.goto 4, 3) := by decide +kernel
theorem dX5_isPair_38 : decode cX5_isPair 38 = .ok (.iconst 0, 1) := by decide +kernel
theorem dX5_isPair_39 : decode cX5_isPair 39 = .ok (.ireturn, 1) := by decide +kernel
theorem dX5_sweetWaterIfChanged_0 : decode cX5_sweetWaterIfChanged 0 = .ok (.aload_n 0, 1) := by decide +kernel
theorem dX5_sweetWaterIfChanged_1 : decode cX5_sweetWaterIfChanged 1 = .ok (.getfield 33, 3) := by decide +kernel
theorem dX5_sweetWaterIfChanged_4 : decode cX5_sweetWaterIfChanged 4 = .ok (.iload_n 1, 1) := by decide +kernel
theorem dX5_sweetWaterIfChanged_5 : decode cX5_sweetWaterIfChanged 5 = .ok (.iload_n 2, 1) := by decide +kernel
theorem dX5_sweetWaterIfChanged_6 : decode cX5_sweetWaterIfChanged 6 = .ok (.invokevirtual 289, 3) := by decide +kernel
theorem dX5_sweetWaterIfChanged_9 : decode cX5_sweetWaterIfChanged 9 = .ok (.aload_n 0, 1) := by decide +kernel
theorem dX5_sweetWaterIfChanged_10 : decode cX5_sweetWaterIfChanged 10 = .ok (.getfield 33, 3) := by decide +kernel
theorem dX5_sweetWaterIfChanged_13 : decode cX5_sweetWaterIfChanged 13 = .ok (.aload_n 0, 1) := by decide +kernel
theorem dX5_sweetWaterIfChanged_14 : decode cX5_sweetWaterIfChanged 14 = .ok (.getfield 16, 3) := by decide +kernel
theorem dX5_sweetWaterIfChanged_17 : decode cX5_sweetWaterIfChanged 17 = .ok (.aload_n 0, 1) := by decide +kernel
theorem dX5_sweetWaterIfChanged_18 : decode cX5_sweetWaterIfChanged 18 = .ok (.getfield 51, 3) := by decide +kernel
theorem dX5_sweetWaterIfChanged_21 : decode cX5_sweetWaterIfChanged 21 = .ok (.i2l, 1) := by decide +kernel
theorem dX5_sweetWaterIfChanged_22 : decode cX5_sweetWaterIfChanged 22 = .ok (.aload_n 0, 1) := by decide +kernel
theorem dX5_sweetWaterIfChanged_23 : decode cX5_sweetWaterIfChanged 23 = .ok (.getfield 55, 3) := by decide +kernel
theorem dX5_sweetWaterIfChanged_26 : decode cX5_sweetWaterIfChanged 26 = .ok (.i2l, 1) := by decide +kernel
theorem dX5_sweetWaterIfChanged_27 : decode cX5_sweetWaterIfChanged 27 = .ok (.aload_n 0, 1) := by decide +kernel
theorem dX5_sweetWaterIfChanged_28 : decode cX5_sweetWaterIfChanged 28 = .ok (.getfield 58, 3) := by decide +kernel
theorem dX5_sweetWaterIfChanged_31 : decode cX5_sweetWaterIfChanged 31 = .ok (.i2l, 1) := by decide +kernel
theorem dX5_sweetWaterIfChanged_32 : decode cX5_sweetWaterIfChanged 32 = .ok (.invokevirtual 193, 3) := by decide +kernel
theorem dX5_sweetWaterIfChanged_35 : decode cX5_sweetWaterIfChanged 35 = .ok (.aload_n 0, 1) := by decide +kernel
theorem dX5_sweetWaterIfChanged_36 : decode cX5_sweetWaterIfChanged 36 = .ok (.getfield 33, 3) := by decide +kernel
theorem dX5_sweetWaterIfChanged_39 : decode cX5_sweetWaterIfChanged 39 = .ok (.iload_n 1, 1) := by decide +kernel
theorem dX5_sweetWaterIfChanged_40 : decode cX5_sweetWaterIfChanged 40 = .ok (.iload_n 2, 1) := by decide +kernel
theorem dX5_sweetWaterIfChanged_41 : decode cX5_sweetWaterIfChanged 41 = .ok (.invokevirtual 289, 3) := by decide +kernel
theorem dX5_sweetWaterIfChanged_44 : decode cX5_sweetWaterIfChanged 44 = .ok (.aload_n 0, 1) := by decide +kernel
theorem dX5_sweetWaterIfChanged_45 : decode cX5_sweetWaterIfChanged 45 = .ok (.getfield 33, 3) := by decide +kernel
theorem dX5_sweetWaterIfChanged_48 : decode cX5_sweetWaterIfChanged 48 = .ok (.getfield 130, 3) := by decide +kernel
theorem dX5_sweetWaterIfChanged_51 : decode cX5_sweetWaterIfChanged 51 = .ok (.lreturn, 1) := by decide +kernel
end
section
/-! Math by the kit's rows; array rows for indices that are counted (nI k). -/
section ZM
variable {l : Launch} {G : zG} {S : zS} {wc : va_W} {post : Option Value → va_W → Prop} {pc : Nat} {L : List (Option Value)} {st : List Value} {ws : va_W}

theorem kcl_maxI : Cond.code Lib.Math.max.name Lib.Math.max.code 2 (some .int) ∈ zT := zmem 365 (by decide +kernel) (by decide +kernel)
theorem a_maxI {index : Nat} {x y : Int32} (hd : decode (zcc S) pc = .ok (.invokestatic index, 3)) (hlink : Cond.methodLink (zown S) index yJ9_max_7cf53 ∈ zT) (hfr : 1 ≤ zfr S) (hlo : (st.map fun v => v.category).sum + 13 ≤ zlo S) (kk : AV l G S wc post (pc + 3) L (.int (if x < y then y else x) :: st) ws) : AV l G S wc post pc L (.int y :: .int x :: st) ws := by
  intro p e s m args below meth c C H locs ls hP hD hS hl
  exact va_mmax C.1 C.2.1 (C.2.2.1.trans hl.1.symm) C.2.2.2.1 (C.2.2.2.2.1 _ hlink) (C.2.2.2.2.1 _ ks_J9_max_7cf53) (C.2.2.2.2.1 _ kini_J9) (C.2.2.2.2.1 _ kcl_maxI) hfr hlo (Nat.le_refl _) (Nat.le_refl _) hd (kk p e s m args below meth c C H locs ls hP hD hS hl)
theorem kcl_minI : Cond.code Lib.Math.min.name Lib.Math.min.code 2 (some .int) ∈ zT := zmem 447 (by decide +kernel) (by decide +kernel)
theorem a_minI {index : Nat} {x y : Int32} (hd : decode (zcc S) pc = .ok (.invokestatic index, 3)) (hlink : Cond.methodLink (zown S) index yJ9_min_7cf53 ∈ zT) (hfr : 1 ≤ zfr S) (hlo : (st.map fun v => v.category).sum + 13 ≤ zlo S) (kk : AV l G S wc post (pc + 3) L (.int (if y < x then y else x) :: st) ws) : AV l G S wc post pc L (.int y :: .int x :: st) ws := by
  intro p e s m args below meth c C H locs ls hP hD hS hl
  exact va_mmin C.1 C.2.1 (C.2.2.1.trans hl.1.symm) C.2.2.2.1 (C.2.2.2.2.1 _ hlink) (C.2.2.2.2.1 _ ks_J9_min_7cf53) (C.2.2.2.2.1 _ kini_J9) (C.2.2.2.2.1 _ kcl_minI) hfr hlo (Nat.le_refl _) (Nat.le_refl _) hd (kk p e s m args below meth c C H locs ls hP hD hS hl)
theorem kcl_maxJ : Cond.code Lib.MathLoose.max_long.x Lib.MathLoose.max_long.code 4 (some .long) ∈ zT := zmem 309 (by decide +kernel) (by decide +kernel)
theorem a_maxJ {index : Nat} {x y : Int64} (hd : decode (zcc S) pc = .ok (.invokestatic index, 3)) (hlink : Cond.methodLink (zown S) index yJ9_max_f86c9 ∈ zT) (hfr : 1 ≤ zfr S) (hlo : (st.map fun v => v.category).sum + 15 ≤ zlo S) (kk : AV l G S wc post (pc + 3) L (.long (if y < x then x else y) :: st) ws) : AV l G S wc post pc L (.long y :: .long x :: st) ws := by
  intro p e s m args below meth c C H locs ls hP hD hS hl
  exact va_mmax_long C.1 C.2.1 (C.2.2.1.trans hl.1.symm) C.2.2.2.1 (C.2.2.2.2.1 _ hlink) (C.2.2.2.2.1 _ ks_J9_max_f86c9) (C.2.2.2.2.1 _ kini_J9) (C.2.2.2.2.1 _ kcl_maxJ) hfr hlo (Nat.le_refl _) (Nat.le_refl _) hd (kk p e s m args below meth c C H locs ls hP hD hS hl)
theorem kcl_minJ : Cond.code Lib.MathLoose.min_long.x Lib.MathLoose.min_long.code 4 (some .long) ∈ zT := zmem 312 (by decide +kernel) (by decide +kernel)
theorem a_minJ {index : Nat} {x y : Int64} (hd : decode (zcc S) pc = .ok (.invokestatic index, 3)) (hlink : Cond.methodLink (zown S) index yJ9_min_f86c9 ∈ zT) (hfr : 1 ≤ zfr S) (hlo : (st.map fun v => v.category).sum + 15 ≤ zlo S) (kk : AV l G S wc post (pc + 3) L (.long (if y < x then y else x) :: st) ws) : AV l G S wc post pc L (.long y :: .long x :: st) ws := by
  intro p e s m args below meth c C H locs ls hP hD hS hl
  exact va_mmin_long C.1 C.2.1 (C.2.2.1.trans hl.1.symm) C.2.2.2.1 (C.2.2.2.2.1 _ hlink) (C.2.2.2.2.1 _ ks_J9_min_f86c9) (C.2.2.2.2.1 _ kini_J9) (C.2.2.2.2.1 _ kcl_minJ) hfr hlo (Nat.le_refl _) (Nat.le_refl _) hd (kk p e s m args below meth c C H locs ls hP hD hS hl)
theorem a_ialdN {q k n : Nat} {ad : Nat → Nat} {f : Nat → Int32} (hd : decode (zcc S) pc = .ok (.iaload, 1)) (he : ws[q]? = some (ad q, .inl (zcI G, n, .inl f))) (hi : k < n) (hn : n < 2 ^ 31) (kk : AV l G S wc post (pc + 1) L (.int (f k) :: st) ws) : AV l G S wc post pc L (.int (nI k) :: .ref (ad q) :: st) ws :=
  a_iald hd he (zinN hi hn) (by rw [nI_clamp (Nat.lt_trans hi hn)]; exact kk)
theorem a_iastN {q k n : Nat} {ad : Nat → Nat} {f : Nat → Int32} {x : Int32} (hd : decode (zcc S) pc = .ok (.iastore, 1)) (he : ws[q]? = some (ad q, .inl (zcI G, n, .inl f))) (hi : k < n) (hn : n < 2 ^ 31) (kk : AV l G S wc post (pc + 1) L st (ws.set q (ad q, .inl (zcI G, n, .inl (upd f k x))))) : AV l G S wc post pc L (.int x :: .int (nI k) :: .ref (ad q) :: st) ws :=
  a_iast hd he (zinN hi hn) (by rw [nI_clamp (Nat.lt_trans hi hn)]; exact kk)
theorem a_laldN {q k n : Nat} {ad : Nat → Nat} {f : Nat → Int64} (hd : decode (zcc S) pc = .ok (.laload, 1)) (he : ws[q]? = some (ad q, .inl (zcJ G, n, .inr (.inl f)))) (hi : k < n) (hn : n < 2 ^ 31) (kk : AV l G S wc post (pc + 1) L (.long (f k) :: st) ws) : AV l G S wc post pc L (.int (nI k) :: .ref (ad q) :: st) ws :=
  a_lald hd he (zinN hi hn) (by rw [nI_clamp (Nat.lt_trans hi hn)]; exact kk)
theorem a_lastN {q k n : Nat} {ad : Nat → Nat} {f : Nat → Int64} {x : Int64} (hd : decode (zcc S) pc = .ok (.lastore, 1)) (he : ws[q]? = some (ad q, .inl (zcJ G, n, .inr (.inl f)))) (hi : k < n) (hn : n < 2 ^ 31) (kk : AV l G S wc post (pc + 1) L st (ws.set q (ad q, .inl (zcJ G, n, .inr (.inl (vp_updL f k x)))))) : AV l G S wc post pc L (.long x :: .int (nI k) :: .ref (ad q) :: st) ws :=
  a_last hd he (zinN hi hn) (by rw [nI_clamp (Nat.lt_trans hi hn)]; exact kk)
theorem a_saldN {q k n : Nat} {ad : Nat → Nat} {f : Nat → Int32} (hd : decode (zcc S) pc = .ok (.saload, 1)) (he : ws[q]? = some (ad q, .inl (zcS G, n, .inl f))) (hi : k < n) (hn : n < 2 ^ 31) (kk : AV l G S wc post (pc + 1) L (.int (f k) :: st) ws) : AV l G S wc post pc L (.int (nI k) :: .ref (ad q) :: st) ws :=
  a_sald hd he (zinN hi hn) (by rw [nI_clamp (Nat.lt_trans hi hn)]; exact kk)
theorem a_sastN {q k n : Nat} {ad : Nat → Nat} {f : Nat → Int32} {x : Int32} (hd : decode (zcc S) pc = .ok (.sastore, 1)) (he : ws[q]? = some (ad q, .inl (zcS G, n, .inl f))) (hi : k < n) (hn : n < 2 ^ 31) (kk : AV l G S wc post (pc + 1) L st (ws.set q (ad q, .inl (zcS G, n, .inl (upd f k (vp_nar .short x)))))) : AV l G S wc post pc L (.int x :: .int (nI k) :: .ref (ad q) :: st) ws :=
  a_sast hd he (zinN hi hn) (by rw [nI_clamp (Nat.lt_trans hi hn)]; exact kk)
theorem a_aaldN {q k n : Nat} {ad : Nat → Nat} {f : Nat → Option Nat} {a : Nat} (hd : decode (zcc S) pc = .ok (.aaload, 1)) (he : ws[q]? = some (ad q, .inl (zcO G, n, .inr (.inr (.inr (.inr f)))))) (hi : k < n) (hn : n < 2 ^ 31) (hf : f k = some a) (kk : AV l G S wc post (pc + 1) L (.ref a :: st) ws) : AV l G S wc post pc L (.int (nI k) :: .ref (ad q) :: st) ws :=
  a_aald hd he (zinN hi hn) (by rw [nI_clamp (Nat.lt_trans hi hn), hf]; exact kk)
theorem a_staldN {q k : Nat} {qq : String × String × Nat × (Nat → Int32)} (hq : zSt[q]? = some qq) (hd : decode (zcc S) pc = .ok (.iaload, 1)) (hi : k < qq.2.2.1) (hn : qq.2.2.1 < 2 ^ 31) (kk : AV l G S wc post (pc + 1) L (.int (qq.2.2.2 k) :: st) ws) : AV l G S wc post pc L (.int (nI k) :: .ref (G.2.2 q) :: st) ws :=
  a_stald hq hd (zinN hi hn) (by rw [nI_clamp (Nat.lt_trans hi hn)]; exact kk)
theorem a_iincN {i : Nat} {n : Int} {k d : Nat} (hi : L[i]? = some (some (.int (nI k)))) (hp : zprev L i = true) (hn : i < znL S) (hd : decode (zcc S) pc = .ok (.iinc i n, 3)) (hv : Int32.ofInt n = nI d) (kk : AV l G S wc post (pc + 3) (L.set i (some (.int (nI (k + d))))) st ws) : AV l G S wc post pc L st ws := g_iinc hi hp hn hd (by rw [hv, zI_add]) kk
theorem g_forget (i : Nat) (kk : AV l G S wc post pc (L.set i none) st ws) : AV l G S wc post pc L st ws := by
  refine a_drop _ (fun j v h => ?_) kk
  by_cases hj : i = j
  · subst hj
    rw [List.getElem?_set_self'] at h
    cases hw : L[i]? with
    | none => rw [hw] at h; cases h
    | some z => rw [hw] at h; cases h
  · rwa [List.getElem?_set_ne hj] at h
theorem a_forget_0 {cx : Option Value} (kk : AV l G S wc post pc (none :: L) st ws) : AV l G S wc post pc (cx :: L) st ws := g_forget 0 kk
theorem a_forget_1 {b0 : Option Value} {cx : Option Value} (kk : AV l G S wc post pc (b0 :: none :: L) st ws) : AV l G S wc post pc (b0 :: cx :: L) st ws := g_forget 1 kk
theorem a_forget_2 {b0 b1 : Option Value} {cx : Option Value} (kk : AV l G S wc post pc (b0 :: b1 :: none :: L) st ws) : AV l G S wc post pc (b0 :: b1 :: cx :: L) st ws := g_forget 2 kk
theorem a_forget_3 {b0 b1 b2 : Option Value} {cx : Option Value} (kk : AV l G S wc post pc (b0 :: b1 :: b2 :: none :: L) st ws) : AV l G S wc post pc (b0 :: b1 :: b2 :: cx :: L) st ws := g_forget 3 kk
theorem a_forget_4 {b0 b1 b2 b3 : Option Value} {cx : Option Value} (kk : AV l G S wc post pc (b0 :: b1 :: b2 :: b3 :: none :: L) st ws) : AV l G S wc post pc (b0 :: b1 :: b2 :: b3 :: cx :: L) st ws := g_forget 4 kk
theorem a_forget_5 {b0 b1 b2 b3 b4 : Option Value} {cx : Option Value} (kk : AV l G S wc post pc (b0 :: b1 :: b2 :: b3 :: b4 :: none :: L) st ws) : AV l G S wc post pc (b0 :: b1 :: b2 :: b3 :: b4 :: cx :: L) st ws := g_forget 5 kk
theorem a_forget_6 {b0 b1 b2 b3 b4 b5 : Option Value} {cx : Option Value} (kk : AV l G S wc post pc (b0 :: b1 :: b2 :: b3 :: b4 :: b5 :: none :: L) st ws) : AV l G S wc post pc (b0 :: b1 :: b2 :: b3 :: b4 :: b5 :: cx :: L) st ws := g_forget 6 kk
theorem a_forget_7 {b0 b1 b2 b3 b4 b5 b6 : Option Value} {cx : Option Value} (kk : AV l G S wc post pc (b0 :: b1 :: b2 :: b3 :: b4 :: b5 :: b6 :: none :: L) st ws) : AV l G S wc post pc (b0 :: b1 :: b2 :: b3 :: b4 :: b5 :: b6 :: cx :: L) st ws := g_forget 7 kk
theorem a_forget_8 {b0 b1 b2 b3 b4 b5 b6 b7 : Option Value} {cx : Option Value} (kk : AV l G S wc post pc (b0 :: b1 :: b2 :: b3 :: b4 :: b5 :: b6 :: b7 :: none :: L) st ws) : AV l G S wc post pc (b0 :: b1 :: b2 :: b3 :: b4 :: b5 :: b6 :: b7 :: cx :: L) st ws := g_forget 8 kk
theorem a_forget_9 {b0 b1 b2 b3 b4 b5 b6 b7 b8 : Option Value} {cx : Option Value} (kk : AV l G S wc post pc (b0 :: b1 :: b2 :: b3 :: b4 :: b5 :: b6 :: b7 :: b8 :: none :: L) st ws) : AV l G S wc post pc (b0 :: b1 :: b2 :: b3 :: b4 :: b5 :: b6 :: b7 :: b8 :: cx :: L) st ws := g_forget 9 kk
theorem a_forget_10 {b0 b1 b2 b3 b4 b5 b6 b7 b8 b9 : Option Value} {cx : Option Value} (kk : AV l G S wc post pc (b0 :: b1 :: b2 :: b3 :: b4 :: b5 :: b6 :: b7 :: b8 :: b9 :: none :: L) st ws) : AV l G S wc post pc (b0 :: b1 :: b2 :: b3 :: b4 :: b5 :: b6 :: b7 :: b8 :: b9 :: cx :: L) st ws := g_forget 10 kk
theorem a_forget_11 {b0 b1 b2 b3 b4 b5 b6 b7 b8 b9 b10 : Option Value} {cx : Option Value} (kk : AV l G S wc post pc (b0 :: b1 :: b2 :: b3 :: b4 :: b5 :: b6 :: b7 :: b8 :: b9 :: b10 :: none :: L) st ws) : AV l G S wc post pc (b0 :: b1 :: b2 :: b3 :: b4 :: b5 :: b6 :: b7 :: b8 :: b9 :: b10 :: cx :: L) st ws := g_forget 11 kk
theorem a_forget_12 {b0 b1 b2 b3 b4 b5 b6 b7 b8 b9 b10 b11 : Option Value} {cx : Option Value} (kk : AV l G S wc post pc (b0 :: b1 :: b2 :: b3 :: b4 :: b5 :: b6 :: b7 :: b8 :: b9 :: b10 :: b11 :: none :: L) st ws) : AV l G S wc post pc (b0 :: b1 :: b2 :: b3 :: b4 :: b5 :: b6 :: b7 :: b8 :: b9 :: b10 :: b11 :: cx :: L) st ws := g_forget 12 kk
theorem a_forget_13 {b0 b1 b2 b3 b4 b5 b6 b7 b8 b9 b10 b11 b12 : Option Value} {cx : Option Value} (kk : AV l G S wc post pc (b0 :: b1 :: b2 :: b3 :: b4 :: b5 :: b6 :: b7 :: b8 :: b9 :: b10 :: b11 :: b12 :: none :: L) st ws) : AV l G S wc post pc (b0 :: b1 :: b2 :: b3 :: b4 :: b5 :: b6 :: b7 :: b8 :: b9 :: b10 :: b11 :: b12 :: cx :: L) st ws := g_forget 13 kk
theorem a_forget_14 {b0 b1 b2 b3 b4 b5 b6 b7 b8 b9 b10 b11 b12 b13 : Option Value} {cx : Option Value} (kk : AV l G S wc post pc (b0 :: b1 :: b2 :: b3 :: b4 :: b5 :: b6 :: b7 :: b8 :: b9 :: b10 :: b11 :: b12 :: b13 :: none :: L) st ws) : AV l G S wc post pc (b0 :: b1 :: b2 :: b3 :: b4 :: b5 :: b6 :: b7 :: b8 :: b9 :: b10 :: b11 :: b12 :: b13 :: cx :: L) st ws := g_forget 14 kk
theorem a_forget_15 {b0 b1 b2 b3 b4 b5 b6 b7 b8 b9 b10 b11 b12 b13 b14 : Option Value} {cx : Option Value} (kk : AV l G S wc post pc (b0 :: b1 :: b2 :: b3 :: b4 :: b5 :: b6 :: b7 :: b8 :: b9 :: b10 :: b11 :: b12 :: b13 :: b14 :: none :: L) st ws) : AV l G S wc post pc (b0 :: b1 :: b2 :: b3 :: b4 :: b5 :: b6 :: b7 :: b8 :: b9 :: b10 :: b11 :: b12 :: b13 :: b14 :: cx :: L) st ws := g_forget 15 kk
theorem a_forget_16 {b0 b1 b2 b3 b4 b5 b6 b7 b8 b9 b10 b11 b12 b13 b14 b15 : Option Value} {cx : Option Value} (kk : AV l G S wc post pc (b0 :: b1 :: b2 :: b3 :: b4 :: b5 :: b6 :: b7 :: b8 :: b9 :: b10 :: b11 :: b12 :: b13 :: b14 :: b15 :: none :: L) st ws) : AV l G S wc post pc (b0 :: b1 :: b2 :: b3 :: b4 :: b5 :: b6 :: b7 :: b8 :: b9 :: b10 :: b11 :: b12 :: b13 :: b14 :: b15 :: cx :: L) st ws := g_forget 16 kk
theorem a_forget_17 {b0 b1 b2 b3 b4 b5 b6 b7 b8 b9 b10 b11 b12 b13 b14 b15 b16 : Option Value} {cx : Option Value} (kk : AV l G S wc post pc (b0 :: b1 :: b2 :: b3 :: b4 :: b5 :: b6 :: b7 :: b8 :: b9 :: b10 :: b11 :: b12 :: b13 :: b14 :: b15 :: b16 :: none :: L) st ws) : AV l G S wc post pc (b0 :: b1 :: b2 :: b3 :: b4 :: b5 :: b6 :: b7 :: b8 :: b9 :: b10 :: b11 :: b12 :: b13 :: b14 :: b15 :: b16 :: cx :: L) st ws := g_forget 17 kk
theorem a_forget_18 {b0 b1 b2 b3 b4 b5 b6 b7 b8 b9 b10 b11 b12 b13 b14 b15 b16 b17 : Option Value} {cx : Option Value} (kk : AV l G S wc post pc (b0 :: b1 :: b2 :: b3 :: b4 :: b5 :: b6 :: b7 :: b8 :: b9 :: b10 :: b11 :: b12 :: b13 :: b14 :: b15 :: b16 :: b17 :: none :: L) st ws) : AV l G S wc post pc (b0 :: b1 :: b2 :: b3 :: b4 :: b5 :: b6 :: b7 :: b8 :: b9 :: b10 :: b11 :: b12 :: b13 :: b14 :: b15 :: b16 :: b17 :: cx :: L) st ws := g_forget 18 kk
theorem a_forget_19 {b0 b1 b2 b3 b4 b5 b6 b7 b8 b9 b10 b11 b12 b13 b14 b15 b16 b17 b18 : Option Value} {cx : Option Value} (kk : AV l G S wc post pc (b0 :: b1 :: b2 :: b3 :: b4 :: b5 :: b6 :: b7 :: b8 :: b9 :: b10 :: b11 :: b12 :: b13 :: b14 :: b15 :: b16 :: b17 :: b18 :: none :: L) st ws) : AV l G S wc post pc (b0 :: b1 :: b2 :: b3 :: b4 :: b5 :: b6 :: b7 :: b8 :: b9 :: b10 :: b11 :: b12 :: b13 :: b14 :: b15 :: b16 :: b17 :: b18 :: cx :: L) st ws := g_forget 19 kk
theorem updL_same (f : Nat → Int64) (k : Nat) (x : Int64) : vp_updL f k x k = x := if_pos rfl
theorem updL_ne (f : Nat → Int64) {k j : Nat} (x : Int64) (h : ¬ j = k) : vp_updL f k x j = f j := if_neg h
theorem upd_same (f : Nat → Int32) (k : Nat) (x : Int32) : upd f k x k = x := if_pos rfl
theorem upd_ne (f : Nat → Int32) {k j : Nat} (x : Int32) (h : ¬ j = k) : upd f k x j = f j := if_neg h
end ZM
end
section
/-! Leaves: the static helpers, Math, Layout. -/
set_option maxRecDepth 100000 in
set_option maxHeartbeats 4000000 in
/-- outside -/
theorem c_outside (l : Launch) (G : zG) (v lo hi : Int32) : zSem l G sX5_outside [.int v, .int lo, .int hi] ([]) (zP (.int (zB (v < lo ∨ hi < v))) []) := by
  refine zEnterV (L := [some (.int v), some (.int lo), some (.int hi)]) (by decide) rfl (Nat.le_of_ble_eq_true rfl) rfl ?_
  refine a_iload_0 (pc := 0) dX5_outside_0 ?_
  refine a_iload_1 (pc := 1) dX5_outside_1 ?_
  refine a_icmp_lt (tgt := 10) (pc := 2) dX5_outside_2 (by decide) (fun c_2 => ?_) (fun c_2 => ?_)
  · refine a_iconst (v := 1) (pc := 10) dX5_outside_10 (by decide) ?_
    refine a_goto (tgt := 15) (pc := 11) dX5_outside_11 (by decide) ?_
    exact a_zret (pc := 15) dX5_outside_15 rfl (by decide) rfl (by first | exact zPB1 (by simp only [Int32.lt_iff_toInt_lt, Int32.le_iff_toInt_le, Int32.not_lt, Int32.not_le] at *; omega) | exact zPB0 (by simp only [Int32.lt_iff_toInt_lt, Int32.le_iff_toInt_le, Int32.not_lt, Int32.not_le] at *; omega))
  · refine a_iload_0 (pc := 5) dX5_outside_5 ?_
    refine a_iload_2 (pc := 6) dX5_outside_6 ?_
    refine a_icmp_le (tgt := 14) (pc := 7) dX5_outside_7 (by decide) (fun c_7 => ?_) (fun c_7 => ?_)
    · refine a_iconst (v := 0) (pc := 14) dX5_outside_14 (by decide) ?_
      exact a_zret (pc := 15) dX5_outside_15 rfl (by decide) rfl (by first | exact zPB1 (by simp only [Int32.lt_iff_toInt_lt, Int32.le_iff_toInt_le, Int32.not_lt, Int32.not_le] at *; omega) | exact zPB0 (by simp only [Int32.lt_iff_toInt_lt, Int32.le_iff_toInt_le, Int32.not_lt, Int32.not_le] at *; omega))
    · refine a_iconst (v := 1) (pc := 10) dX5_outside_10 (by decide) ?_
      refine a_goto (tgt := 15) (pc := 11) dX5_outside_11 (by decide) ?_
      exact a_zret (pc := 15) dX5_outside_15 rfl (by decide) rfl (by first | exact zPB1 (by simp only [Int32.lt_iff_toInt_lt, Int32.le_iff_toInt_le, Int32.not_lt, Int32.not_le] at *; omega) | exact zPB0 (by simp only [Int32.lt_iff_toInt_lt, Int32.le_iff_toInt_le, Int32.not_lt, Int32.not_le] at *; omega))

def zplace (k : Option Nat) : Int32 := match k with
  | none => -1
  | some k => nI k
/-- the place of a skin that is called so, by stages, vessels, skins -/
def zPl (x : Int32) : Option Nat := if 0 ≤ x.toInt ∧ x.toInt / 100 < 3 ∧ x.toInt / 10 % 10 < 4 ∧ x.toInt % 10 < 6 then some (24 * (x.toInt.toNat / 100) + 6 * (x.toInt.toNat / 10 % 10) + x.toInt.toNat % 10) else none
theorem zPl_lt {x : Int32} {k : Nat} (h : zPl x = some k) : k < 72 := by
  unfold zPl at h
  split at h
  · have := Option.some.inj h; omega
  · cases h
theorem zPl_i {x : Int32} (h0 : 0 ≤ x.toInt) : (x / 100).toInt = x.toInt / 100 ∧ (x / 10 - x / 10 / 10 * 10).toInt = x.toInt / 10 % 10 ∧ (x - x / 10 * 10).toInt = x.toInt % 10 := by
  have e1 : (x / 10).toInt = x.toInt / 10 := i_div h0 (by decide)
  refine ⟨i_div h0 (by decide), ?_, i_rem h0 (by decide)⟩
  rw [i_rem (by rw [e1]; omega) (by decide), e1]
  rfl
theorem zPl_no {x : Int32} (h : ¬ (0 ≤ x.toInt ∧ x.toInt / 100 < 3 ∧ x.toInt / 10 % 10 < 4 ∧ x.toInt % 10 < 6)) : zplace (zPl x) = -1 := by
  unfold zPl; rw [if_neg h]; rfl
theorem zPl_yes {x : Int32} (h : 0 ≤ x.toInt ∧ x.toInt / 100 < 3 ∧ x.toInt / 10 % 10 < 4 ∧ x.toInt % 10 < 6) : (zplace (zPl x)).toInt = 24 * (x.toInt / 100) + 6 * (x.toInt / 10 % 10) + x.toInt % 10 := by
  unfold zPl; rw [if_pos h]
  show (nI _).toInt = _
  rw [nI_toInt (by omega)]
  omega
set_option maxRecDepth 100000 in
set_option maxHeartbeats 4000000 in
/-- placeOf -/
theorem c_placeOf (l : Launch) (G : zG) (x : Int32) : zSem l G sX5_placeOf [.int x] ([]) (zP (.int (zplace (zPl x))) []) := by
  refine zEnterV (L := [some (.int x), none, none, none]) (by decide) rfl (Nat.le_of_ble_eq_true rfl) rfl ?_
  refine a_iload_0 (pc := 0) dX5_placeOf_0 ?_
  refine a_if_ge (tgt := 6) (pc := 1) dX5_placeOf_1 (by decide) (fun c_1 => ?_) (fun c_1 => ?_)
  · have h0_ : 0 ≤ x.toInt := Int32.le_iff_toInt_le.mp c_1
    obtain ⟨e1_, e2_, e3_⟩ := zPl_i h0_
    have k3_ : (3:Int32).toInt = 3 := by decide
    have k4_ : (4:Int32).toInt = 4 := by decide
    have k6_ : (6:Int32).toInt = 6 := by decide
    have k24_ : (24:Int32).toInt = 24 := by decide
    refine a_iload_0 (pc := 6) dX5_placeOf_6 ?_
    refine a_bipush (v := 100) (pc := 7) dX5_placeOf_7 (by decide) ?_
    refine a_idiv (pc := 9) dX5_placeOf_9 (by decide) ?_
    refine a_istore_1 (pc := 10) dX5_placeOf_10 rfl (by decide) ?_
    refine a_iload_0 (pc := 11) dX5_placeOf_11 ?_
    refine a_bipush (v := 10) (pc := 12) dX5_placeOf_12 (by decide) ?_
    refine a_idiv (pc := 14) dX5_placeOf_14 (by decide) ?_
    refine a_bipush (v := 10) (pc := 15) dX5_placeOf_15 (by decide) ?_
    refine a_irem (pc := 17) dX5_placeOf_17 (by decide) ?_
    refine a_istore_2 (pc := 18) dX5_placeOf_18 rfl (by decide) ?_
    refine a_iload_0 (pc := 19) dX5_placeOf_19 ?_
    refine a_bipush (v := 10) (pc := 20) dX5_placeOf_20 (by decide) ?_
    refine a_irem (pc := 22) dX5_placeOf_22 (by decide) ?_
    refine a_istore_3 (pc := 23) dX5_placeOf_23 rfl (by decide) ?_
    refine a_iload_1 (pc := 24) dX5_placeOf_24 ?_
    refine a_iconst (v := 3) (pc := 25) dX5_placeOf_25 (by decide) ?_
    refine a_icmp_ge (tgt := 40) (pc := 26) dX5_placeOf_26 (by decide) (fun c_26 => ?_) (fun c_26 => ?_)
    · have f26_ := Int32.le_iff_toInt_le.mp c_26
      rw [e1_, k3_] at f26_
      refine a_iconst (v := -1) (pc := 40) dX5_placeOf_40 (by decide) ?_
      exact a_iret (pc := 41) dX5_placeOf_41 rfl rfl (by
          refine ⟨congrArg (fun z => some (Value.int z)) (zPl_no ?_).symm, rfl⟩
          omega)
    · have f26_ := mt Int32.le_iff_toInt_le.mpr c_26
      rw [e1_, k3_] at f26_
      refine a_iload_2 (pc := 29) dX5_placeOf_29 ?_
      refine a_iconst (v := 4) (pc := 30) dX5_placeOf_30 (by decide) ?_
      refine a_icmp_ge (tgt := 40) (pc := 31) dX5_placeOf_31 (by decide) (fun c_31 => ?_) (fun c_31 => ?_)
      · have f31_ := Int32.le_iff_toInt_le.mp c_31
        rw [e2_, k4_] at f31_
        refine a_iconst (v := -1) (pc := 40) dX5_placeOf_40 (by decide) ?_
        exact a_iret (pc := 41) dX5_placeOf_41 rfl rfl (by
            refine ⟨congrArg (fun z => some (Value.int z)) (zPl_no ?_).symm, rfl⟩
            omega)
      · have f31_ := mt Int32.le_iff_toInt_le.mpr c_31
        rw [e2_, k4_] at f31_
        refine a_iload_3 (pc := 34) dX5_placeOf_34 ?_
        refine a_bipush (v := 6) (pc := 35) dX5_placeOf_35 (by decide) ?_
        refine a_icmp_lt (tgt := 42) (pc := 37) dX5_placeOf_37 (by decide) (fun c_37 => ?_) (fun c_37 => ?_)
        · have f37_ := Int32.lt_iff_toInt_lt.mp c_37
          rw [e3_, k6_] at f37_
          refine a_iload_1 (pc := 42) dX5_placeOf_42 ?_
          refine a_bipush (v := 24) (pc := 43) dX5_placeOf_43 (by decide) ?_
          refine a_imul (pc := 45) dX5_placeOf_45 ?_
          refine a_iload_2 (pc := 46) dX5_placeOf_46 ?_
          refine a_bipush (v := 6) (pc := 47) dX5_placeOf_47 (by decide) ?_
          refine a_imul (pc := 49) dX5_placeOf_49 ?_
          refine a_iadd (pc := 50) dX5_placeOf_50 ?_
          refine a_iload_3 (pc := 51) dX5_placeOf_51 ?_
          refine a_iadd (pc := 52) dX5_placeOf_52 ?_
          exact a_iret (pc := 53) dX5_placeOf_53 rfl rfl (by
              refine ⟨congrArg (fun z => some (Value.int z)) ?_, rfl⟩
              apply Int32.toInt_inj.mp
              rw [zPl_yes (by omega)]
              have m1_ : (x / 100 * 24).toInt = x.toInt / 100 * 24 := by rw [i_mul (by rw [e1_, k24_]; omega) (by rw [e1_, k24_]; omega), e1_, k24_]
              have m2_ : ((x / 10 - x / 10 / 10 * 10) * 6).toInt = x.toInt / 10 % 10 * 6 := by rw [i_mul (by rw [e2_, k6_]; omega) (by rw [e2_, k6_]; omega), e2_, k6_]
              have m3_ : (x / 100 * 24 + (x / 10 - x / 10 / 10 * 10) * 6).toInt = x.toInt / 100 * 24 + x.toInt / 10 % 10 * 6 := by rw [i_add (by rw [m1_, m2_]; omega) (by rw [m1_, m2_]; omega), m1_, m2_]
              rw [i_add (by rw [m3_, e3_]; omega) (by rw [m3_, e3_]; omega), m3_, e3_]
              omega)
        · have f37_ := mt Int32.lt_iff_toInt_lt.mpr c_37
          rw [e3_, k6_] at f37_
          refine a_iconst (v := -1) (pc := 40) dX5_placeOf_40 (by decide) ?_
          exact a_iret (pc := 41) dX5_placeOf_41 rfl rfl (by
              refine ⟨congrArg (fun z => some (Value.int z)) (zPl_no ?_).symm, rfl⟩
              omega)
  · refine a_iconst (v := -1) (pc := 4) dX5_placeOf_4 (by decide) ?_
    exact a_iret (pc := 5) dX5_placeOf_5 rfl rfl (by
        refine ⟨congrArg (fun z => some (Value.int z)) (zPl_no ?_).symm, rfl⟩
        have hc_ : ¬ (0:Int32).toInt ≤ x.toInt := fun q => c_1 (Int32.le_iff_toInt_le.mpr q)
        have h0_ : (0:Int32).toInt = 0 := by decide
        omega)

/-- what a place is called -/
def zNum (k : Nat) : Nat := 100 * (k / 24) + 10 * (k % 24 / 6) + k % 6
theorem zNum_lt {k : Nat} (h : k < 72) : zNum k < 300 := by unfold zNum; omega
set_option maxRecDepth 100000 in
set_option maxHeartbeats 4000000 in
/-- numberOf -/
theorem c_numberOf (l : Launch) (G : zG) (k : Nat) (hk : k < 72) : zSem l G sX5_numberOf [.int (nI k)] ([]) (zP (.int (nI (zNum k))) []) := by
  refine zEnterV (L := [some (.int (nI k))]) (by decide) rfl (Nat.le_of_ble_eq_true rfl) rfl ?_
  refine a_bipush (v := 100) (pc := 0) dX5_numberOf_0 (by decide) ?_
  refine a_iload_0 (pc := 2) dX5_numberOf_2 ?_
  refine a_bipush (v := 24) (pc := 3) dX5_numberOf_3 (by decide) ?_
  refine a_idiv (pc := 5) dX5_numberOf_5 (by decide) ?_
  refine a_imul (pc := 6) dX5_numberOf_6 ?_
  refine a_bipush (v := 10) (pc := 7) dX5_numberOf_7 (by decide) ?_
  refine a_iload_0 (pc := 9) dX5_numberOf_9 ?_
  refine a_bipush (v := 24) (pc := 10) dX5_numberOf_10 (by decide) ?_
  refine a_irem (pc := 12) dX5_numberOf_12 (by decide) ?_
  refine a_bipush (v := 6) (pc := 13) dX5_numberOf_13 (by decide) ?_
  refine a_idiv (pc := 15) dX5_numberOf_15 (by decide) ?_
  refine a_imul (pc := 16) dX5_numberOf_16 ?_
  refine a_iadd (pc := 17) dX5_numberOf_17 ?_
  refine a_iload_0 (pc := 18) dX5_numberOf_18 ?_
  refine a_bipush (v := 6) (pc := 19) dX5_numberOf_19 (by decide) ?_
  refine a_irem (pc := 21) dX5_numberOf_21 (by decide) ?_
  refine a_iadd (pc := 22) dX5_numberOf_22 ?_
  exact a_iret (pc := 23) dX5_numberOf_23 rfl rfl (by
      refine ⟨congrArg (fun z => some (Value.int z)) ?_, rfl⟩
      rw [show (24 : Int32) = nI 24 from rfl, show (6 : Int32) = nI 6 from rfl, show (100 : Int32) = nI 100 from rfl, show (10 : Int32) = nI 10 from rfl]
      rw [zI_rem (a := k) (b := 24) (by omega) (by decide) (by decide), zI_rem (a := k) (b := 6) (by omega) (by decide) (by decide), zI_div (a := k) (b := 24) (by omega) (by decide) (by decide), zI_div (a := k % 24) (b := 6) (by omega) (by decide) (by decide), ← zI_mul, ← zI_mul, ← zI_add, ← zI_add]
      rfl)

abbrev wLay (G : zG) (ad : Nat → Nat) (v : Nat → Int32) (n : Int32) : va_W := [(ad 0, .inr (2, [.ref (ad 1), .int n])), (ad 1, .inl (zcI G, 3, .inl v))]
/-- the vessels that there are in a stage -/
def zVin (v : Nat → Int32) (k : Nat) : Int32 := if ∀ j, j < k → ¬ v j = 0 then v k else 0
set_option maxRecDepth 100000 in
set_option maxHeartbeats 4000000 in
theorem lp_vesselsIn (l : Launch) (G : zG) (ad : Nat → Nat) (v : Nat → Int32) (n : Int32) (k : Nat) (hk : k < 3) : ∀ (q i : Nat), i + q = k → (∀ j, j < i → ¬ v j = 0) → AV l G sX2_vesselsIn (wLay G ad v n) (zP (.int (zVin v k)) (wLay G ad v n)) 2 [some (.ref (ad 0)), some (.int (nI k)), some (.int (nI i))] [] (wLay G ad v n) := by
  intro q_
  induction q_ using Nat.strongRecOn
  rename_i q_ ih_
  intro i hq_ ha_
  refine a_iload_2 (pc := 2) dX2_vesselsIn_2 ?_
  refine a_iload_1 (pc := 3) dX2_vesselsIn_3 ?_
  refine a_icmp_ge (tgt := 29) (pc := 4) dX2_vesselsIn_4 (by decide) (fun c_4 => ?_) (fun c_4 => ?_)
  · have hi_ : i = k := by have := (zI_le (by omega) (by omega)).mp c_4; omega
    subst hi_
    refine a_iload_1 (pc := 29) dX2_vesselsIn_29 ?_
    refine a_if_lt (tgt := 38) (pc := 30) dX2_vesselsIn_30 (by decide) (fun c_30 => ?_) (fun c_30 => ?_)
    · exact absurd c_30 (nI_pos (by omega))
    · refine a_iload_1 (pc := 33) dX2_vesselsIn_33 ?_
      refine a_iconst (v := 3) (pc := 34) dX2_vesselsIn_34 (by decide) ?_
      refine a_icmp_lt (tgt := 42) (pc := 35) dX2_vesselsIn_35 (by decide) (fun c_35 => ?_) (fun c_35 => ?_)
      · refine a_aload_0 (pc := 42) dX2_vesselsIn_42 ?_
        refine a_getf (ci := 2) (j := 0) rfl win_X2 (by decide) (pc := 43) dX2_vesselsIn_43 kf_X2_11 rfl rfl ?_
        refine a_iload_1 (pc := 46) dX2_vesselsIn_46 ?_
        refine a_ialdN (pc := 47) dX2_vesselsIn_47 rfl (by omega) (by decide) ?_
        exact a_iret (pc := 48) dX2_vesselsIn_48 rfl rfl ⟨congrArg (fun z => some (Value.int z)) (if_pos ha_).symm, rfl⟩
      · exact absurd (nI_lt hk (by decide)) c_35
  · have hi_ : i < k := by have := mt (zI_le (by omega) (by omega)).mpr c_4; omega
    refine a_iload_2 (pc := 7) dX2_vesselsIn_7 ?_
    refine a_iconst (v := 3) (pc := 8) dX2_vesselsIn_8 (by decide) ?_
    refine a_icmp_ge (tgt := 29) (pc := 9) dX2_vesselsIn_9 (by decide) (fun c_9 => ?_) (fun c_9 => ?_)
    · exact absurd ((zI_le (b := i) (a := 3) (by decide) (by omega)).mp c_9) (by omega)
    · refine a_aload_0 (pc := 12) dX2_vesselsIn_12 ?_
      refine a_getf (ci := 2) (j := 0) rfl win_X2 (by decide) (pc := 13) dX2_vesselsIn_13 kf_X2_11 rfl rfl ?_
      refine a_iload_2 (pc := 16) dX2_vesselsIn_16 ?_
      refine a_ialdN (pc := 17) dX2_vesselsIn_17 rfl (by omega) (by decide) ?_
      first | refine a_if_neB (tgt := 23) (pc := 18) dX2_vesselsIn_18 (by decide) (fun c_18 => ?_) (fun c_18 => ?_) | refine a_if_ne (tgt := 23) (pc := 18) dX2_vesselsIn_18 (by decide) (fun c_18 => ?_) (fun c_18 => ?_)
      · refine a_iinc_2 (cst := 1) (pc := 23) dX2_vesselsIn_23 rfl (by decide) (by decide) ?_
        refine a_goto (tgt := 2) (pc := 26) dX2_vesselsIn_26 (by decide) ?_
        rw [← nI_succ]
        exact ih_ (q_ - 1) (by omega) (i + 1) (by omega) (fun j hj => by rcases Nat.lt_succ_iff_lt_or_eq.mp hj with h | h; exact ha_ j h; subst h; exact c_18)
      · refine a_iconst (v := 0) (pc := 21) dX2_vesselsIn_21 (by decide) ?_
        exact a_iret (pc := 22) dX2_vesselsIn_22 rfl rfl ⟨congrArg (fun z => some (Value.int z)) (if_neg (fun h => h i hi_ c_18)).symm, rfl⟩

set_option maxRecDepth 100000 in
set_option maxHeartbeats 4000000 in
/-- vesselsIn -/
theorem c_vesselsIn (l : Launch) (G : zG) (ad : Nat → Nat) (v : Nat → Int32) (n : Int32) (k : Nat) (hk : k < 3) : zSem l G sX2_vesselsIn [.ref (ad 0), .int (nI k)] (wLay G ad v n) (zP (.int (zVin v k)) (wLay G ad v n)) := by
  refine zEnterV (L := [some (.ref (ad 0)), some (.int (nI k)), none]) (by decide) rfl (Nat.le_of_ble_eq_true rfl) rfl ?_
  refine a_iconst (v := 0) (pc := 0) dX2_vesselsIn_0 (by decide) ?_
  refine a_istore_2 (pc := 1) dX2_vesselsIn_1 rfl (by decide) ?_
  exact lp_vesselsIn l G ad v n k hk k 0 (by omega) (fun j hj => absurd hj (Nat.not_lt_zero j))

def zHolds (v : Nat → Int32) (n : Int32) (k : Nat) : Prop := nI (k % 6) < n ∧ nI (k % 24 / 6) < zVin v (k / 24)
set_option maxRecDepth 100000 in
set_option maxHeartbeats 4000000 in
/-- holdsSkin -/
theorem c_holdsSkin (l : Launch) (G : zG) (ad : Nat → Nat) (v : Nat → Int32) (n : Int32) (k : Nat) (hk : k < 72) : zSem l G sX2_holdsSkin [.ref (ad 0), .int (nI k)] (wLay G ad v n) (zP (.int (zB (nI (k % 6) < n ∧ nI (k % 24 / 6) < zVin v (k / 24)))) (wLay G ad v n)) := by
  refine zEnterV (L := [some (.ref (ad 0)), some (.int (nI k))]) (by decide) rfl (Nat.le_of_ble_eq_true rfl) rfl ?_
  refine a_iload_1 (pc := 0) dX2_holdsSkin_0 ?_
  refine a_bipush (v := 6) (pc := 1) dX2_holdsSkin_1 (by decide) ?_
  refine a_irem (pc := 3) dX2_holdsSkin_3 (by decide) ?_
  rw [show (6 : Int32) = nI 6 from rfl, zI_rem (by omega) (by decide) (by decide)]
  refine a_aload_0 (pc := 4) dX2_holdsSkin_4 ?_
  refine a_getf (ci := 2) (j := 1) rfl win_X2 (by decide) (pc := 5) dX2_holdsSkin_5 kf_X2_15 rfl rfl ?_
  refine a_icmp_ge (tgt := 33) (pc := 8) dX2_holdsSkin_8 (by decide) (fun c_8 => ?_) (fun c_8 => ?_)
  · refine a_iconst (v := 0) (pc := 33) dX2_holdsSkin_33 (by decide) ?_
    exact a_zret (pc := 34) dX2_holdsSkin_34 rfl (by decide) rfl (by first | exact zPB1 ⟨Int32.not_le.mp c_8, Int32.not_le.mp c_26⟩ | exact zPB0 (fun q => absurd q.2 (Int32.not_lt.mpr c_26)) | exact zPB0 (fun q => absurd q.1 (Int32.not_lt.mpr c_8)))
  · refine a_iload_1 (pc := 11) dX2_holdsSkin_11 ?_
    refine a_bipush (v := 24) (pc := 12) dX2_holdsSkin_12 (by decide) ?_
    refine a_irem (pc := 14) dX2_holdsSkin_14 (by decide) ?_
    refine a_bipush (v := 6) (pc := 15) dX2_holdsSkin_15 (by decide) ?_
    refine a_idiv (pc := 17) dX2_holdsSkin_17 (by decide) ?_
    rw [show (24 : Int32) = nI 24 from rfl, show (6 : Int32) = nI 6 from rfl, zI_rem (by omega) (by decide) (by decide), zI_div (by omega) (by decide) (by decide)]
    refine a_aload_0 (pc := 18) dX2_holdsSkin_18 ?_
    refine a_iload_1 (pc := 19) dX2_holdsSkin_19 ?_
    refine a_bipush (v := 24) (pc := 20) dX2_holdsSkin_20 (by decide) ?_
    refine a_idiv (pc := 22) dX2_holdsSkin_22 (by decide) ?_
    rw [show (24 : Int32) = nI 24 from rfl, zI_div (by omega) (by decide) (by decide)]
    refine cV_P (ad := ad) (q0 := 0) (S2 := sX2_vesselsIn) (c_vesselsIn l G ad v n (k / 24) (by omega)) kc_X2_vesselsIn km_X2_19 ki_X2_vesselsIn kv_X2_vesselsIn kini_X2 ⟨kn_X2_vesselsIn, by decide, by decide⟩ (pc := 23) dX2_holdsSkin_23 [0, 1] rfl rfl rfl rfl (Nat.le_of_ble_eq_true rfl) rfl rfl rfl ?_
    refine a_icmp_ge (tgt := 33) (pc := 26) dX2_holdsSkin_26 (by decide) (fun c_26 => ?_) (fun c_26 => ?_)
    · refine a_iconst (v := 0) (pc := 33) dX2_holdsSkin_33 (by decide) ?_
      exact a_zret (pc := 34) dX2_holdsSkin_34 rfl (by decide) rfl (by first | exact zPB1 ⟨Int32.not_le.mp c_8, Int32.not_le.mp c_26⟩ | exact zPB0 (fun q => absurd q.2 (Int32.not_lt.mpr c_26)) | exact zPB0 (fun q => absurd q.1 (Int32.not_lt.mpr c_8)))
    · refine a_iconst (v := 1) (pc := 29) dX2_holdsSkin_29 (by decide) ?_
      refine a_goto (tgt := 34) (pc := 30) dX2_holdsSkin_30 (by decide) ?_
      exact a_zret (pc := 34) dX2_holdsSkin_34 rfl (by decide) rfl (by first | exact zPB1 ⟨Int32.not_le.mp c_8, Int32.not_le.mp c_26⟩ | exact zPB0 (fun q => absurd q.2 (Int32.not_lt.mpr c_26)) | exact zPB0 (fun q => absurd q.1 (Int32.not_lt.mpr c_8)))

def zSum3 (v : Nat → Int32) : Nat → Int32
  | 0 => 0
  | k + 1 => zSum3 v k + zVin v k
set_option maxRecDepth 100000 in
set_option maxHeartbeats 4000000 in
theorem lp_standing (l : Launch) (G : zG) (ad : Nat → Nat) (v : Nat → Int32) (n : Int32) : ∀ (q i : Nat), i + q = 3 → AV l G sX2_standing (wLay G ad v n) (zP (.int (zSum3 v 3)) (wLay G ad v n)) 4 [some (.ref (ad 0)), some (.int (zSum3 v i)), some (.int (nI i))] [] (wLay G ad v n) := by
  intro q_
  induction q_ using Nat.strongRecOn
  rename_i q_ ih_
  intro i hq_
  refine a_iload_2 (pc := 4) dX2_standing_4 ?_
  refine a_iconst (v := 3) (pc := 5) dX2_standing_5 (by decide) ?_
  refine a_icmp_ge (tgt := 23) (pc := 6) dX2_standing_6 (by decide) (fun c_6 => ?_) (fun c_6 => ?_)
  · obtain rfl : i = 3 := by have := (zI_le (a := 3) (by decide) (by omega)).mp c_6; omega
    refine a_iload_1 (pc := 23) dX2_standing_23 ?_
    exact a_iret (pc := 24) dX2_standing_24 rfl rfl ⟨rfl, rfl⟩
  · have hi_ : i < 3 := by have := mt (zI_le (a := 3) (b := i) (by decide) (by omega)).mpr c_6; omega
    refine a_iload_1 (pc := 9) dX2_standing_9 ?_
    refine a_aload_0 (pc := 10) dX2_standing_10 ?_
    refine a_iload_2 (pc := 11) dX2_standing_11 ?_
    refine cV_P (ad := ad) (q0 := 0) (S2 := sX2_vesselsIn) (c_vesselsIn l G ad v n i hi_) kc_X2_vesselsIn km_X2_19 ki_X2_vesselsIn kv_X2_vesselsIn kini_X2 ⟨kn_X2_vesselsIn, by decide, by decide⟩ (pc := 12) dX2_standing_12 [0, 1] rfl rfl rfl rfl (Nat.le_of_ble_eq_true rfl) rfl rfl rfl ?_
    refine a_iadd (pc := 15) dX2_standing_15 ?_
    refine a_istore_1 (pc := 16) dX2_standing_16 rfl (by decide) ?_
    refine a_iinc_2 (cst := 1) (pc := 17) dX2_standing_17 rfl (by decide) (by decide) ?_
    refine a_goto (tgt := 4) (pc := 20) dX2_standing_20 (by decide) ?_
    rw [← nI_succ]
    exact ih_ (q_ - 1) (by omega) (i + 1) (by omega)

set_option maxRecDepth 100000 in
set_option maxHeartbeats 4000000 in
/-- standing -/
theorem c_standing (l : Launch) (G : zG) (ad : Nat → Nat) (v : Nat → Int32) (n : Int32) : zSem l G sX2_standing [.ref (ad 0)] (wLay G ad v n) (zP (.int (zSum3 v 3)) (wLay G ad v n)) := by
  refine zEnterV (L := [some (.ref (ad 0)), none, none]) (by decide) rfl (Nat.le_of_ble_eq_true rfl) rfl ?_
  refine a_iconst (v := 0) (pc := 0) dX2_standing_0 (by decide) ?_
  refine a_istore_1 (pc := 1) dX2_standing_1 rfl (by decide) ?_
  refine a_iconst (v := 0) (pc := 2) dX2_standing_2 (by decide) ?_
  refine a_istore_2 (pc := 3) dX2_standing_3 rfl (by decide) ?_
  exact lp_standing l G ad v n 3 0 rfl

def zBec (v : Nat → Int32) (k : Nat) : Nat → Int32 := upd (upd (upd v 0 (nI (1 + k / 25))) 1 (nI (k / 5 % 5))) 2 (nI (k % 5))
set_option maxRecDepth 100000 in
set_option maxHeartbeats 4000000 in
/-- become -/
theorem c_become (l : Launch) (G : zG) (ad : Nat → Nat) (v : Nat → Int32) (n : Int32) (k : Nat) (hk : k < 100) : zSem l G sX2_become [.ref (ad 0), .int (nI k)] (wLay G ad v n) (zV (fun _ : Unit => True) (fun _ => .int (zB (0 < k / 5 % 5 ∨ k % 5 = 0))) (fun _ => wLay G ad (zBec v k) n)) := by
  refine zEnterV (L := [some (.ref (ad 0)), some (.int (nI k))]) (by decide) rfl (Nat.le_of_ble_eq_true rfl) rfl ?_
  refine a_aload_0 (pc := 0) dX2_become_0 ?_
  refine a_getf (ci := 2) (j := 0) rfl win_X2 (by decide) (pc := 1) dX2_become_1 kf_X2_11 rfl rfl ?_
  refine a_iconst (v := 0) (pc := 4) dX2_become_4 (by decide) ?_
  refine a_iconst (v := 1) (pc := 5) dX2_become_5 (by decide) ?_
  refine a_iload_1 (pc := 6) dX2_become_6 ?_
  refine a_bipush (v := 25) (pc := 7) dX2_become_7 (by decide) ?_
  refine a_idiv (pc := 9) dX2_become_9 (by decide) ?_
  refine a_iadd (pc := 10) dX2_become_10 ?_
  rw [show (25 : Int32) = nI 25 from rfl, show (1 : Int32) = nI 1 from rfl, zI_div (by omega) (by decide) (by decide), ← zI_add]
  refine a_iastN (k := 0) (pc := 11) dX2_become_11 rfl (by omega) (by decide) ?_
  refine a_aload_0 (pc := 12) dX2_become_12 ?_
  refine a_getf (ci := 2) (j := 0) rfl win_X2 (by decide) (pc := 13) dX2_become_13 kf_X2_11 rfl rfl ?_
  refine a_iconst (v := 1) (pc := 16) dX2_become_16 (by decide) ?_
  refine a_iload_1 (pc := 17) dX2_become_17 ?_
  refine a_iconst (v := 5) (pc := 18) dX2_become_18 (by decide) ?_
  refine a_idiv (pc := 19) dX2_become_19 (by decide) ?_
  refine a_iconst (v := 5) (pc := 20) dX2_become_20 (by decide) ?_
  refine a_irem (pc := 21) dX2_become_21 (by decide) ?_
  rw [show (5 : Int32) = nI 5 from rfl, zI_div (by omega) (by decide) (by decide), zI_rem (by omega) (by decide) (by decide)]
  refine a_iastN (k := 1) (pc := 22) dX2_become_22 rfl (by omega) (by decide) ?_
  refine a_aload_0 (pc := 23) dX2_become_23 ?_
  refine a_getf (ci := 2) (j := 0) rfl win_X2 (by decide) (pc := 24) dX2_become_24 kf_X2_11 rfl rfl ?_
  refine a_iconst (v := 2) (pc := 27) dX2_become_27 (by decide) ?_
  refine a_iload_1 (pc := 28) dX2_become_28 ?_
  refine a_iconst (v := 5) (pc := 29) dX2_become_29 (by decide) ?_
  refine a_irem (pc := 30) dX2_become_30 (by decide) ?_
  rw [show (5 : Int32) = nI 5 from rfl, zI_rem (by omega) (by decide) (by decide)]
  refine a_iastN (k := 2) (pc := 31) dX2_become_31 rfl (by omega) (by decide) ?_
  refine a_aload_0 (pc := 32) dX2_become_32 ?_
  refine a_getf (ci := 2) (j := 0) rfl win_X2 (by decide) (pc := 33) dX2_become_33 kf_X2_11 rfl rfl ?_
  refine a_iconst (v := 1) (pc := 36) dX2_become_36 (by decide) ?_
  refine a_ialdN (k := 1) (pc := 37) dX2_become_37 rfl (by omega) (by decide) ?_
  refine a_if_gt (tgt := 50) (pc := 38) dX2_become_38 (by decide) (fun c_38 => ?_) (fun c_38 => ?_)
  · have f_ : 0 < k / 5 % 5 := (zI_lt (a := 0) (b := k / 5 % 5) (by decide) (by omega)).mp c_38
    refine a_iconst (v := 1) (pc := 50) dX2_become_50 (by decide) ?_
    refine a_goto (tgt := 55) (pc := 51) dX2_become_51 (by decide) ?_
    exact a_zret (pc := 55) dX2_become_55 rfl (by decide) rfl ⟨(), trivial, (by first | exact congrArg (fun z => some (Value.int z)) (zB_1 (by omega)).symm | exact congrArg (fun z => some (Value.int z)) (zB_0 (by omega)).symm), rfl⟩
  · have f_ : ¬ 0 < k / 5 % 5 := mt (zI_lt (a := 0) (b := k / 5 % 5) (by decide) (by omega)).mpr c_38
    refine a_aload_0 (pc := 41) dX2_become_41 ?_
    refine a_getf (ci := 2) (j := 0) rfl win_X2 (by decide) (pc := 42) dX2_become_42 kf_X2_11 rfl rfl ?_
    refine a_iconst (v := 2) (pc := 45) dX2_become_45 (by decide) ?_
    refine a_ialdN (k := 2) (pc := 46) dX2_become_46 rfl (by omega) (by decide) ?_
    first | refine a_if_neB (tgt := 54) (pc := 47) dX2_become_47 (by decide) (fun c_47 => ?_) (fun c_47 => ?_) | refine a_if_ne (tgt := 54) (pc := 47) dX2_become_47 (by decide) (fun c_47 => ?_) (fun c_47 => ?_)
    · have g_ : ¬ k % 5 = 0 := mt (zI_eq (a := k % 5) (b := 0) (by omega) (by decide)).mpr c_47
      refine a_iconst (v := 0) (pc := 54) dX2_become_54 (by decide) ?_
      exact a_zret (pc := 55) dX2_become_55 rfl (by decide) rfl ⟨(), trivial, (by first | exact congrArg (fun z => some (Value.int z)) (zB_1 (by omega)).symm | exact congrArg (fun z => some (Value.int z)) (zB_0 (by omega)).symm), rfl⟩
    · have g_ : k % 5 = 0 := (zI_eq (a := k % 5) (b := 0) (by omega) (by decide)).mp c_47
      refine a_iconst (v := 1) (pc := 50) dX2_become_50 (by decide) ?_
      refine a_goto (tgt := 55) (pc := 51) dX2_become_51 (by decide) ?_
      exact a_zret (pc := 55) dX2_become_55 rfl (by decide) rfl ⟨(), trivial, (by first | exact congrArg (fun z => some (Value.int z)) (zB_1 (by omega)).symm | exact congrArg (fun z => some (Value.int z)) (zB_0 (by omega)).symm), rfl⟩

set_option maxRecDepth 100000 in
set_option maxHeartbeats 4000000 in
/-- digits -/
theorem c_digits (l : Launch) (G : zG) (ad : Nat → Nat) (v : Nat → Int32) (n : Int32) : zSem l G sX2_digits [.ref (ad 0)] (wLay G ad v n) (zP (.int (100 * v 0 + 10 * v 1 + v 2)) (wLay G ad v n)) := by
  refine zEnterV (L := [some (.ref (ad 0))]) (by decide) rfl (Nat.le_of_ble_eq_true rfl) rfl ?_
  refine a_bipush (v := 100) (pc := 0) dX2_digits_0 (by decide) ?_
  refine a_aload_0 (pc := 2) dX2_digits_2 ?_
  refine a_getf (ci := 2) (j := 0) rfl win_X2 (by decide) (pc := 3) dX2_digits_3 kf_X2_11 rfl rfl ?_
  refine a_iconst (v := 0) (pc := 6) dX2_digits_6 (by decide) ?_
  refine a_ialdN (k := 0) (pc := 7) dX2_digits_7 rfl (by omega) (by decide) ?_
  refine a_imul (pc := 8) dX2_digits_8 ?_
  refine a_bipush (v := 10) (pc := 9) dX2_digits_9 (by decide) ?_
  refine a_aload_0 (pc := 11) dX2_digits_11 ?_
  refine a_getf (ci := 2) (j := 0) rfl win_X2 (by decide) (pc := 12) dX2_digits_12 kf_X2_11 rfl rfl ?_
  refine a_iconst (v := 1) (pc := 15) dX2_digits_15 (by decide) ?_
  refine a_ialdN (k := 1) (pc := 16) dX2_digits_16 rfl (by omega) (by decide) ?_
  refine a_imul (pc := 17) dX2_digits_17 ?_
  refine a_iadd (pc := 18) dX2_digits_18 ?_
  refine a_aload_0 (pc := 19) dX2_digits_19 ?_
  refine a_getf (ci := 2) (j := 0) rfl win_X2 (by decide) (pc := 20) dX2_digits_20 kf_X2_11 rfl rfl ?_
  refine a_iconst (v := 2) (pc := 23) dX2_digits_23 (by decide) ?_
  refine a_ialdN (k := 2) (pc := 24) dX2_digits_24 rfl (by omega) (by decide) ?_
  refine a_iadd (pc := 25) dX2_digits_25 ?_
  exact a_iret (pc := 26) dX2_digits_26 rfl rfl ⟨rfl, rfl⟩
end
section
/-! Skins, Sheet, Arrays.fill. -/
abbrev wSk (G : zG) (ad : Nat → Nat) (kd fo : Nat → Int32) : va_W := [(ad 0, .inr (4, [.ref (ad 1), .ref (ad 2)])), (ad 1, .inl (zcI G, 72, .inl kd)), (ad 2, .inl (zcI G, 72, .inl fo))]
def zPassOf (x : Int32) : Int32 := ([40, 30, 60, 20] : List Int32).getD x.toNatClampNeg 0
def zLeakOf (x : Int32) : Int32 := ([10, 5, 25, 2] : List Int32).getD x.toNatClampNeg 0
def zAbove (x : Int32) : Int32 := ([0, 0, 0, 1] : List Int32).getD x.toNatClampNeg 0
def zPass (kd fo : Nat → Int32) (k : Nat) : Int32 := zPassOf (kd k) - zPassOf (kd k) * fo k / 100
def zLeak (kd : Nat → Int32) (k : Nat) : Int32 := zLeakOf (kd k)
def zExch (f : Nat → Int32) (a b : Nat) : Nat → Int32 := upd (upd f a (f b)) b (f a)
set_option maxRecDepth 100000 in
set_option maxHeartbeats 4000000 in
/-- passAt -/
theorem c_passAt (l : Launch) (G : zG) (ad : Nat → Nat) (kd fo : Nat → Int32) (k : Nat) (hk : k < 72) (hv : vp_in (kd k) 4) : zSem l G sX4_passAt [.ref (ad 0), .int (nI k)] (wSk G ad kd fo) (zP (.int (zPass kd fo k)) (wSk G ad kd fo)) := by
  refine zEnterV (L := [some (.ref (ad 0)), some (.int (nI k)), none]) (by decide) rfl (Nat.le_of_ble_eq_true rfl) rfl ?_
  refine a_gets (k := 0) (pc := 0) dX4_passAt_0 rfl kf_X4_18 ?_
  refine a_aload_0 (pc := 3) dX4_passAt_3 ?_
  refine a_getf (ci := 4) (j := 0) rfl win_X4 (by decide) (pc := 4) dX4_passAt_4 kf_X4_9 rfl rfl ?_
  refine a_iload_1 (pc := 7) dX4_passAt_7 ?_
  refine a_ialdN (pc := 8) dX4_passAt_8 rfl (by omega) (by decide) ?_
  refine a_stald rfl (pc := 9) dX4_passAt_9 hv ?_
  refine a_istore_2 (pc := 10) dX4_passAt_10 rfl (by decide) ?_
  refine a_iload_2 (pc := 11) dX4_passAt_11 ?_
  refine a_iload_2 (pc := 12) dX4_passAt_12 ?_
  refine a_aload_0 (pc := 13) dX4_passAt_13 ?_
  refine a_getf (ci := 4) (j := 1) rfl win_X4 (by decide) (pc := 14) dX4_passAt_14 kf_X4_15 rfl rfl ?_
  refine a_iload_1 (pc := 17) dX4_passAt_17 ?_
  refine a_ialdN (pc := 18) dX4_passAt_18 rfl (by omega) (by decide) ?_
  refine a_imul (pc := 19) dX4_passAt_19 ?_
  refine a_bipush (v := 100) (pc := 20) dX4_passAt_20 (by decide) ?_
  refine a_idiv (pc := 22) dX4_passAt_22 (by decide) ?_
  refine a_isub (pc := 23) dX4_passAt_23 ?_
  exact a_iret (pc := 24) dX4_passAt_24 rfl rfl ⟨rfl, rfl⟩

set_option maxRecDepth 100000 in
set_option maxHeartbeats 4000000 in
/-- leakAt -/
theorem c_leakAt (l : Launch) (G : zG) (ad : Nat → Nat) (kd fo : Nat → Int32) (k : Nat) (hk : k < 72) (hv : vp_in (kd k) 4) : zSem l G sX4_leakAt [.ref (ad 0), .int (nI k)] (wSk G ad kd fo) (zP (.int (zLeak kd k)) (wSk G ad kd fo)) := by
  refine zEnterV (L := [some (.ref (ad 0)), some (.int (nI k))]) (by decide) rfl (Nat.le_of_ble_eq_true rfl) rfl ?_
  refine a_gets (k := 1) (pc := 0) dX4_leakAt_0 rfl kf_X4_21 ?_
  refine a_aload_0 (pc := 3) dX4_leakAt_3 ?_
  refine a_getf (ci := 4) (j := 0) rfl win_X4 (by decide) (pc := 4) dX4_leakAt_4 kf_X4_9 rfl rfl ?_
  refine a_iload_1 (pc := 7) dX4_leakAt_7 ?_
  refine a_ialdN (pc := 8) dX4_leakAt_8 rfl (by omega) (by decide) ?_
  refine a_stald rfl (pc := 9) dX4_leakAt_9 hv ?_
  exact a_iret (pc := 10) dX4_leakAt_10 rfl rfl ⟨rfl, rfl⟩

set_option maxRecDepth 100000 in
set_option maxHeartbeats 4000000 in
/-- isUnder -/
theorem c_isUnder (l : Launch) (G : zG) (ad : Nat → Nat) (kd fo : Nat → Int32) (k : Nat) (hk : k < 72) (hv : vp_in (kd k) 4) (x : Int32) : zSem l G sX4_isUnder [.ref (ad 0), .int (nI k), .int x] (wSk G ad kd fo) (zP (.int (zB (x = 0 ∨ x = kd k ∨ x = zAbove (kd k)))) (wSk G ad kd fo)) := by
  refine zEnterV (L := [some (.ref (ad 0)), some (.int (nI k)), some (.int x), none]) (by decide) rfl (Nat.le_of_ble_eq_true rfl) rfl ?_
  refine a_aload_0 (pc := 0) dX4_isUnder_0 ?_
  refine a_getf (ci := 4) (j := 0) rfl win_X4 (by decide) (pc := 1) dX4_isUnder_1 kf_X4_9 rfl rfl ?_
  refine a_iload_1 (pc := 4) dX4_isUnder_4 ?_
  refine a_ialdN (pc := 5) dX4_isUnder_5 rfl (by omega) (by decide) ?_
  refine a_istore_3 (pc := 6) dX4_isUnder_6 rfl (by decide) ?_
  refine a_iload_2 (pc := 7) dX4_isUnder_7 ?_
  first | refine a_if_eqB (tgt := 25) (pc := 8) dX4_isUnder_8 (by decide) (fun c_8 => ?_) (fun c_8 => ?_) | refine a_if_eq (tgt := 25) (pc := 8) dX4_isUnder_8 (by decide) (fun c_8 => ?_) (fun c_8 => ?_)
  · refine a_iconst (v := 1) (pc := 25) dX4_isUnder_25 (by decide) ?_
    refine a_goto (tgt := 30) (pc := 26) dX4_isUnder_26 (by decide) ?_
    exact a_zret (pc := 30) dX4_isUnder_30 rfl (by decide) rfl (by first | exact zPB1 (Or.inl c_8) | exact zPB1 (Or.inr (Or.inl c_13)) | exact zPB1 (Or.inr (Or.inr c_22)) | exact zPB0 (fun h => h.elim c_8 (fun h => h.elim c_13 c_22)))
  · refine a_iload_2 (pc := 11) dX4_isUnder_11 ?_
    refine a_iload_3 (pc := 12) dX4_isUnder_12 ?_
    refine a_icmp_eq (tgt := 25) (pc := 13) dX4_isUnder_13 (by decide) (fun c_13 => ?_) (fun c_13 => ?_)
    · refine a_iconst (v := 1) (pc := 25) dX4_isUnder_25 (by decide) ?_
      refine a_goto (tgt := 30) (pc := 26) dX4_isUnder_26 (by decide) ?_
      exact a_zret (pc := 30) dX4_isUnder_30 rfl (by decide) rfl (by first | exact zPB1 (Or.inl c_8) | exact zPB1 (Or.inr (Or.inl c_13)) | exact zPB1 (Or.inr (Or.inr c_22)) | exact zPB0 (fun h => h.elim c_8 (fun h => h.elim c_13 c_22)))
    · refine a_iload_2 (pc := 16) dX4_isUnder_16 ?_
      refine a_gets (k := 2) (pc := 17) dX4_isUnder_17 rfl kf_X4_24 ?_
      refine a_iload_3 (pc := 20) dX4_isUnder_20 ?_
      refine a_stald rfl (pc := 21) dX4_isUnder_21 hv ?_
      refine a_icmp_ne (tgt := 29) (pc := 22) dX4_isUnder_22 (by decide) (fun c_22 => ?_) (fun c_22 => ?_)
      · refine a_iconst (v := 0) (pc := 29) dX4_isUnder_29 (by decide) ?_
        exact a_zret (pc := 30) dX4_isUnder_30 rfl (by decide) rfl (by first | exact zPB1 (Or.inl c_8) | exact zPB1 (Or.inr (Or.inl c_13)) | exact zPB1 (Or.inr (Or.inr c_22)) | exact zPB0 (fun h => h.elim c_8 (fun h => h.elim c_13 c_22)))
      · refine a_iconst (v := 1) (pc := 25) dX4_isUnder_25 (by decide) ?_
        refine a_goto (tgt := 30) (pc := 26) dX4_isUnder_26 (by decide) ?_
        exact a_zret (pc := 30) dX4_isUnder_30 rfl (by decide) rfl (by first | exact zPB1 (Or.inl c_8) | exact zPB1 (Or.inr (Or.inl c_13)) | exact zPB1 (Or.inr (Or.inr c_22)) | exact zPB0 (fun h => h.elim c_8 (fun h => h.elim c_13 c_22)))

set_option maxRecDepth 100000 in
set_option maxHeartbeats 4000000 in
/-- renew -/
theorem c_renew (l : Launch) (G : zG) (ad : Nat → Nat) (kd fo : Nat → Int32) (k : Nat) (hk : k < 72) (x : Int32) : zSem l G sX4_renew [.ref (ad 0), .int (nI k), .int x] (wSk G ad kd fo) (zV (fun _ : Unit => True) (fun _ => .int (fo k)) (fun _ => wSk G ad (upd kd k x) (upd fo k 0))) := by
  refine zEnterV (L := [some (.ref (ad 0)), some (.int (nI k)), some (.int x), none]) (by decide) rfl (Nat.le_of_ble_eq_true rfl) rfl ?_
  refine a_aload_0 (pc := 0) dX4_renew_0 ?_
  refine a_getf (ci := 4) (j := 1) rfl win_X4 (by decide) (pc := 1) dX4_renew_1 kf_X4_15 rfl rfl ?_
  refine a_iload_1 (pc := 4) dX4_renew_4 ?_
  refine a_ialdN (pc := 5) dX4_renew_5 rfl (by omega) (by decide) ?_
  refine a_istore_3 (pc := 6) dX4_renew_6 rfl (by decide) ?_
  refine a_aload_0 (pc := 7) dX4_renew_7 ?_
  refine a_getf (ci := 4) (j := 0) rfl win_X4 (by decide) (pc := 8) dX4_renew_8 kf_X4_9 rfl rfl ?_
  refine a_iload_1 (pc := 11) dX4_renew_11 ?_
  refine a_iload_2 (pc := 12) dX4_renew_12 ?_
  refine a_iastN (pc := 13) dX4_renew_13 rfl (by omega) (by decide) ?_
  refine a_aload_0 (pc := 14) dX4_renew_14 ?_
  refine a_getf (ci := 4) (j := 1) rfl win_X4 (by decide) (pc := 15) dX4_renew_15 kf_X4_15 rfl rfl ?_
  refine a_iload_1 (pc := 18) dX4_renew_18 ?_
  refine a_iconst (v := 0) (pc := 19) dX4_renew_19 (by decide) ?_
  refine a_iastN (pc := 20) dX4_renew_20 rfl (by omega) (by decide) ?_
  refine a_iload_3 (pc := 21) dX4_renew_21 ?_
  exact a_iret (pc := 22) dX4_renew_22 rfl rfl ⟨(), trivial, rfl, rfl⟩

set_option maxRecDepth 100000 in
set_option maxHeartbeats 4000000 in
/-- exchange -/
theorem c_skExch (l : Launch) (G : zG) (ad : Nat → Nat) (kd fo : Nat → Int32) (k j : Nat) (hk : k < 72) (hj : j < 72) : zSem l G sX4_exchange [.ref (ad 0), .int (nI k), .int (nI j)] (wSk G ad kd fo) (z0 (fun _ : Unit => True) (fun _ => wSk G ad (zExch kd k j) (zExch fo k j))) := by
  refine zEnterV (L := [some (.ref (ad 0)), some (.int (nI k)), some (.int (nI j)), none, none]) (by decide) rfl (Nat.le_of_ble_eq_true rfl) rfl ?_
  refine a_aload_0 (pc := 0) dX4_exchange_0 ?_
  refine a_getf (ci := 4) (j := 0) rfl win_X4 (by decide) (pc := 1) dX4_exchange_1 kf_X4_9 rfl rfl ?_
  refine a_iload_1 (pc := 4) dX4_exchange_4 ?_
  refine a_ialdN (pc := 5) dX4_exchange_5 rfl (by omega) (by decide) ?_
  refine a_istore_3 (pc := 6) dX4_exchange_6 rfl (by decide) ?_
  refine a_aload_0 (pc := 7) dX4_exchange_7 ?_
  refine a_getf (ci := 4) (j := 1) rfl win_X4 (by decide) (pc := 8) dX4_exchange_8 kf_X4_15 rfl rfl ?_
  refine a_iload_1 (pc := 11) dX4_exchange_11 ?_
  refine a_ialdN (pc := 12) dX4_exchange_12 rfl (by omega) (by decide) ?_
  refine a_istore_4 (pc := 13) dX4_exchange_13 rfl (by decide) ?_
  refine a_aload_0 (pc := 15) dX4_exchange_15 ?_
  refine a_getf (ci := 4) (j := 0) rfl win_X4 (by decide) (pc := 16) dX4_exchange_16 kf_X4_9 rfl rfl ?_
  refine a_iload_1 (pc := 19) dX4_exchange_19 ?_
  refine a_aload_0 (pc := 20) dX4_exchange_20 ?_
  refine a_getf (ci := 4) (j := 0) rfl win_X4 (by decide) (pc := 21) dX4_exchange_21 kf_X4_9 rfl rfl ?_
  refine a_iload_2 (pc := 24) dX4_exchange_24 ?_
  refine a_ialdN (pc := 25) dX4_exchange_25 rfl (by omega) (by decide) ?_
  refine a_iastN (pc := 26) dX4_exchange_26 rfl (by omega) (by decide) ?_
  refine a_aload_0 (pc := 27) dX4_exchange_27 ?_
  refine a_getf (ci := 4) (j := 1) rfl win_X4 (by decide) (pc := 28) dX4_exchange_28 kf_X4_15 rfl rfl ?_
  refine a_iload_1 (pc := 31) dX4_exchange_31 ?_
  refine a_aload_0 (pc := 32) dX4_exchange_32 ?_
  refine a_getf (ci := 4) (j := 1) rfl win_X4 (by decide) (pc := 33) dX4_exchange_33 kf_X4_15 rfl rfl ?_
  refine a_iload_2 (pc := 36) dX4_exchange_36 ?_
  refine a_ialdN (pc := 37) dX4_exchange_37 rfl (by omega) (by decide) ?_
  refine a_iastN (pc := 38) dX4_exchange_38 rfl (by omega) (by decide) ?_
  refine a_aload_0 (pc := 39) dX4_exchange_39 ?_
  refine a_getf (ci := 4) (j := 0) rfl win_X4 (by decide) (pc := 40) dX4_exchange_40 kf_X4_9 rfl rfl ?_
  refine a_iload_2 (pc := 43) dX4_exchange_43 ?_
  refine a_iload_3 (pc := 44) dX4_exchange_44 ?_
  refine a_iastN (pc := 45) dX4_exchange_45 rfl (by omega) (by decide) ?_
  refine a_aload_0 (pc := 46) dX4_exchange_46 ?_
  refine a_getf (ci := 4) (j := 1) rfl win_X4 (by decide) (pc := 47) dX4_exchange_47 kf_X4_15 rfl rfl ?_
  refine a_iload_2 (pc := 50) dX4_exchange_50 ?_
  refine a_iload_4 (pc := 51) dX4_exchange_51 ?_
  refine a_iastN (pc := 53) dX4_exchange_53 rfl (by omega) (by decide) ?_
  exact a_vret (pc := 54) dX4_exchange_54 rfl rfl ⟨(), trivial, rfl, rfl⟩

def zSoil (f : Int32) (x : Int64) : Int32 := (if f.toInt64 + x < 90 then f.toInt64 + x else 90).toInt32
set_option maxRecDepth 100000 in
set_option maxHeartbeats 4000000 in
/-- soil -/
theorem c_soil (l : Launch) (G : zG) (ad : Nat → Nat) (kd fo : Nat → Int32) (k : Nat) (hk : k < 72) (x : Int64) : zSem l G sX4_soil [.ref (ad 0), .int (nI k), .long x] (wSk G ad kd fo) (z0 (fun _ : Unit => True) (fun _ => wSk G ad kd (upd fo k (zSoil (fo k) x)))) := by
  refine zEnterV (L := [some (.ref (ad 0)), some (.int (nI k)), some (.long x), none]) (by decide) rfl (Nat.le_of_ble_eq_true rfl) rfl ?_
  refine a_aload_0 (pc := 0) dX4_soil_0 ?_
  refine a_getf (ci := 4) (j := 1) rfl win_X4 (by decide) (pc := 1) dX4_soil_1 kf_X4_15 rfl rfl ?_
  refine a_iload_1 (pc := 4) dX4_soil_4 ?_
  refine a_ldc2 (pc := 5) dX4_soil_5 kl_X4_27 ?_
  refine a_aload_0 (pc := 8) dX4_soil_8 ?_
  refine a_getf (ci := 4) (j := 1) rfl win_X4 (by decide) (pc := 9) dX4_soil_9 kf_X4_15 rfl rfl ?_
  refine a_iload_1 (pc := 12) dX4_soil_12 ?_
  refine a_ialdN (pc := 13) dX4_soil_13 rfl (by omega) (by decide) ?_
  refine a_i2l (pc := 14) dX4_soil_14 ?_
  refine a_lload_2 (pc := 15) dX4_soil_15 ?_
  refine a_ladd (pc := 16) dX4_soil_16 ?_
  refine a_minJ (pc := 17) dX4_soil_17 km_X4_29 (by decide) (Nat.le_of_ble_eq_true rfl) ?_
  refine a_l2i (pc := 20) dX4_soil_20 ?_
  refine a_iastN (pc := 21) dX4_soil_21 rfl (by omega) (by decide) ?_
  exact a_vret (pc := 22) dX4_soil_22 rfl rfl ⟨(), trivial, rfl, rfl⟩

set_option maxRecDepth 100000 in
set_option maxHeartbeats 4000000 in
/-- wash -/
theorem c_wash (l : Launch) (G : zG) (ad : Nat → Nat) (kd fo : Nat → Int32) (k : Nat) (hk : k < 72) : zSem l G sX4_wash [.ref (ad 0), .int (nI k)] (wSk G ad kd fo) (z0 (fun _ : Unit => True) (fun _ => wSk G ad kd (upd fo k (fo k / 2)))) := by
  refine zEnterV (L := [some (.ref (ad 0)), some (.int (nI k))]) (by decide) rfl (Nat.le_of_ble_eq_true rfl) rfl ?_
  refine a_aload_0 (pc := 0) dX4_wash_0 ?_
  refine a_getf (ci := 4) (j := 1) rfl win_X4 (by decide) (pc := 1) dX4_wash_1 kf_X4_15 rfl rfl ?_
  refine a_iload_1 (pc := 4) dX4_wash_4 ?_
  refine a_dup2 (pc := 5) dX4_wash_5 rfl rfl ?_
  refine a_ialdN (pc := 6) dX4_wash_6 rfl (by omega) (by decide) ?_
  refine a_iconst (v := 2) (pc := 7) dX4_wash_7 (by decide) ?_
  refine a_idiv (pc := 8) dX4_wash_8 (by decide) ?_
  refine a_iastN (pc := 9) dX4_wash_9 rfl (by omega) (by decide) ?_
  exact a_vret (pc := 10) dX4_wash_10 rfl rfl ⟨(), trivial, rfl, rfl⟩

def zfill (f : Nat → Int32) (m : Nat) (x : Int32) : Nat → Int32 := fun j => if j < m then x else f j
theorem zfill_0 (f : Nat → Int32) (x : Int32) : zfill f 0 x = f := by funext j; simp [zfill]
theorem zfill_s (f : Nat → Int32) (m : Nat) (x : Int32) : upd (zfill f m x) m x = zfill f (m + 1) x := by
  funext j
  simp only [upd, zfill]
  by_cases h1 : j = m
  · rw [if_pos h1, if_pos (by omega)]
  · rw [if_neg h1]
    by_cases h2 : j < m
    · rw [if_pos h2, if_pos (by omega)]
    · rw [if_neg h2, if_neg (by omega)]
set_option maxRecDepth 100000 in
set_option maxHeartbeats 4000000 in
theorem lp_fillI (l : Launch) (G : zG) (ad : Nat → Nat) (n : Nat) (hn : n < 2 ^ 31) (f : Nat → Int32) (x : Int32) : ∀ (q i : Nat), i + q = n → AV l G sJ7_fill_53178 ([(ad 0, .inl (zcI G, n, .inl (f)))]) (z0 (fun _ : Unit => True) (fun _ => [(ad 0, .inl (zcI G, n, .inl (zfill f n x)))])) 5 [some (.ref (ad 0)), some (.int x), some (.int (nI i)), some (.int (nI n))] [] ([(ad 0, .inl (zcI G, n, .inl (zfill f i x)))]) := by
  intro q_
  induction q_ using Nat.strongRecOn
  rename_i q_ ih_
  intro i hq_
  refine a_iload_2 (pc := 5) dJ7_fill_53178_5 ?_
  refine a_iload_3 (pc := 6) dJ7_fill_53178_6 ?_
  refine a_icmp_ge (tgt := 20) (pc := 7) dJ7_fill_53178_7 (by decide) (fun c_7 => ?_) (fun c_7 => ?_)
  · obtain rfl : i = n := by have := (zI_le (by omega) (by omega)).mp c_7; omega
    exact a_vret (pc := 20) dJ7_fill_53178_20 rfl rfl ⟨(), trivial, rfl, rfl⟩
  · have hi_ : i < n := by have := mt (zI_le (a := n) (b := i) (by omega) (by omega)).mpr c_7; omega
    refine a_aload_0 (pc := 10) dJ7_fill_53178_10 ?_
    refine a_iload_2 (pc := 11) dJ7_fill_53178_11 ?_
    refine a_iload_1 (pc := 12) dJ7_fill_53178_12 ?_
    refine a_iastN (pc := 13) dJ7_fill_53178_13 rfl hi_ hn ?_
    refine a_iinc_2 (cst := 1) (pc := 14) dJ7_fill_53178_14 rfl (by decide) (by decide) ?_
    refine a_goto (tgt := 5) (pc := 17) dJ7_fill_53178_17 (by decide) ?_
    have hw_ : upd (zfill f i x) i x = zfill f (i + 1) x := zfill_s f i x
    rw [← nI_succ]
    exact a_to (ih_ (q_ - 1) (by omega) (i + 1) (by omega)) rfl rfl rfl (by rw [← hw_]; rfl)

set_option maxRecDepth 100000 in
set_option maxHeartbeats 4000000 in
/-- fill -/
theorem c_fillI (l : Launch) (G : zG) (ad : Nat → Nat) (n : Nat) (hn : n < 2 ^ 31) (f : Nat → Int32) (x : Int32) : zSem l G sJ7_fill_53178 [.ref (ad 0), .int x] ([(ad 0, .inl (zcI G, n, .inl (f)))]) (z0 (fun _ : Unit => True) (fun _ => [(ad 0, .inl (zcI G, n, .inl (zfill f n x)))])) := by
  refine zEnterV (L := [some (.ref (ad 0)), some (.int x), none, none]) (by decide) rfl (Nat.le_of_ble_eq_true rfl) rfl ?_
  refine a_iconst (v := 0) (pc := 0) dJ7_fill_53178_0 (by decide) ?_
  refine a_istore_2 (pc := 1) dJ7_fill_53178_1 rfl (by decide) ?_
  refine a_aload_0 (pc := 2) dJ7_fill_53178_2 ?_
  refine a_alenI (pc := 3) dJ7_fill_53178_3 rfl rfl ?_
  refine a_istore_3 (pc := 4) dJ7_fill_53178_4 rfl (by decide) ?_
  exact a_to (lp_fillI l G ad n hn f x n 0 (by omega)) rfl rfl rfl (by rw [zfill_0])

set_option maxRecDepth 100000 in
set_option maxHeartbeats 4000000 in
theorem lp_fillS (l : Launch) (G : zG) (ad : Nat → Nat) (n : Nat) (hn : n < 2 ^ 31) (f : Nat → Int32) (x : Int32) (hx : vp_nar .short x = x) : ∀ (q i : Nat), i + q = n → AV l G sJ7_fill_fb410 ([(ad 0, .inl (zcS G, n, .inl (f)))]) (z0 (fun _ : Unit => True) (fun _ => [(ad 0, .inl (zcS G, n, .inl (zfill f n x)))])) 5 [some (.ref (ad 0)), some (.int x), some (.int (nI i)), some (.int (nI n))] [] ([(ad 0, .inl (zcS G, n, .inl (zfill f i x)))]) := by
  intro q_
  induction q_ using Nat.strongRecOn
  rename_i q_ ih_
  intro i hq_
  refine a_iload_2 (pc := 5) dJ7_fill_fb410_5 ?_
  refine a_iload_3 (pc := 6) dJ7_fill_fb410_6 ?_
  refine a_icmp_ge (tgt := 20) (pc := 7) dJ7_fill_fb410_7 (by decide) (fun c_7 => ?_) (fun c_7 => ?_)
  · obtain rfl : i = n := by have := (zI_le (by omega) (by omega)).mp c_7; omega
    exact a_vret (pc := 20) dJ7_fill_fb410_20 rfl rfl ⟨(), trivial, rfl, rfl⟩
  · have hi_ : i < n := by have := mt (zI_le (a := n) (b := i) (by omega) (by omega)).mpr c_7; omega
    refine a_aload_0 (pc := 10) dJ7_fill_fb410_10 ?_
    refine a_iload_2 (pc := 11) dJ7_fill_fb410_11 ?_
    refine a_iload_1 (pc := 12) dJ7_fill_fb410_12 ?_
    refine a_sastN (pc := 13) dJ7_fill_fb410_13 rfl hi_ hn ?_
    refine a_iinc_2 (cst := 1) (pc := 14) dJ7_fill_fb410_14 rfl (by decide) (by decide) ?_
    refine a_goto (tgt := 5) (pc := 17) dJ7_fill_fb410_17 (by decide) ?_
    have hw_ : upd (zfill f i x) i (vp_nar .short x) = zfill f (i + 1) x := by rw [hx]; exact zfill_s f i x
    rw [← nI_succ]
    exact a_to (ih_ (q_ - 1) (by omega) (i + 1) (by omega)) rfl rfl rfl (by rw [← hw_]; rfl)

set_option maxRecDepth 100000 in
set_option maxHeartbeats 4000000 in
/-- fill -/
theorem c_fillS (l : Launch) (G : zG) (ad : Nat → Nat) (n : Nat) (hn : n < 2 ^ 31) (f : Nat → Int32) (x : Int32) (hx : vp_nar .short x = x) : zSem l G sJ7_fill_fb410 [.ref (ad 0), .int x] ([(ad 0, .inl (zcS G, n, .inl (f)))]) (z0 (fun _ : Unit => True) (fun _ => [(ad 0, .inl (zcS G, n, .inl (zfill f n x)))])) := by
  refine zEnterV (L := [some (.ref (ad 0)), some (.int x), none, none]) (by decide) rfl (Nat.le_of_ble_eq_true rfl) rfl ?_
  refine a_iconst (v := 0) (pc := 0) dJ7_fill_fb410_0 (by decide) ?_
  refine a_istore_2 (pc := 1) dJ7_fill_fb410_1 rfl (by decide) ?_
  refine a_aload_0 (pc := 2) dJ7_fill_fb410_2 ?_
  refine a_alenS (pc := 3) dJ7_fill_fb410_3 rfl rfl ?_
  refine a_istore_3 (pc := 4) dJ7_fill_fb410_4 rfl (by decide) ?_
  exact a_to (lp_fillS l G ad n hn f x hx n 0 (by omega)) rfl rfl rfl (by rw [zfill_0])

abbrev wSh (G : zG) (ad : Nat → Nat) (f : Nat → Int32) (n : Int32) : va_W := [(ad 0, .inr (3, [.ref (ad 1), .int n])), (ad 1, .inl (zcS G, 24, .inl f))]
set_option maxRecDepth 100000 in
set_option maxHeartbeats 4000000 in
/-- isMissing -/
theorem c_isMissing (l : Launch) (G : zG) (ad : Nat → Nat) (f : Nat → Int32) (n : Int32) : zSem l G sX3_isMissing [.ref (ad 0)] (wSh G ad f n) (zP (.int (zB (n = -1))) (wSh G ad f n)) := by
  refine zEnterV (L := [some (.ref (ad 0))]) (by decide) rfl (Nat.le_of_ble_eq_true rfl) rfl ?_
  refine a_aload_0 (pc := 0) dX3_isMissing_0 ?_
  refine a_getf (ci := 3) (j := 1) rfl win_X3 (by decide) (pc := 1) dX3_isMissing_1 kf_X3_13 rfl rfl ?_
  refine a_iconst (v := -1) (pc := 4) dX3_isMissing_4 (by decide) ?_
  refine a_icmp_ne (tgt := 12) (pc := 5) dX3_isMissing_5 (by decide) (fun c_5 => ?_) (fun c_5 => ?_)
  · refine a_iconst (v := 0) (pc := 12) dX3_isMissing_12 (by decide) ?_
    exact a_zret (pc := 13) dX3_isMissing_13 rfl (by decide) rfl (by first | exact zPB1 c_5 | exact zPB0 c_5)
  · refine a_iconst (v := 1) (pc := 8) dX3_isMissing_8 (by decide) ?_
    refine a_goto (tgt := 13) (pc := 9) dX3_isMissing_9 (by decide) ?_
    exact a_zret (pc := 13) dX3_isMissing_13 rfl (by decide) rfl (by first | exact zPB1 c_5 | exact zPB0 c_5)

set_option maxRecDepth 100000 in
set_option maxHeartbeats 4000000 in
/-- has -/
theorem c_has (l : Launch) (G : zG) (ad : Nat → Nat) (f : Nat → Int32) (n : Int32) (x : Int32) : zSem l G sX3_has [.ref (ad 0), .int x] (wSh G ad f n) (zP (.int (zB (¬ x < 0 ∧ ¬ n ≤ x))) (wSh G ad f n)) := by
  refine zEnterV (L := [some (.ref (ad 0)), some (.int x)]) (by decide) rfl (Nat.le_of_ble_eq_true rfl) rfl ?_
  refine a_iload_1 (pc := 0) dX3_has_0 ?_
  refine a_if_lt (tgt := 16) (pc := 1) dX3_has_1 (by decide) (fun c_1 => ?_) (fun c_1 => ?_)
  · refine a_iconst (v := 0) (pc := 16) dX3_has_16 (by decide) ?_
    exact a_zret (pc := 17) dX3_has_17 rfl (by decide) rfl (by first | exact zPB1 ⟨c_1, c_9⟩ | exact zPB0 (fun h => h.2 c_9) | exact zPB0 (fun h => h.1 c_1))
  · refine a_iload_1 (pc := 4) dX3_has_4 ?_
    refine a_aload_0 (pc := 5) dX3_has_5 ?_
    refine a_getf (ci := 3) (j := 1) rfl win_X3 (by decide) (pc := 6) dX3_has_6 kf_X3_13 rfl rfl ?_
    refine a_icmp_ge (tgt := 16) (pc := 9) dX3_has_9 (by decide) (fun c_9 => ?_) (fun c_9 => ?_)
    · refine a_iconst (v := 0) (pc := 16) dX3_has_16 (by decide) ?_
      exact a_zret (pc := 17) dX3_has_17 rfl (by decide) rfl (by first | exact zPB1 ⟨c_1, c_9⟩ | exact zPB0 (fun h => h.2 c_9) | exact zPB0 (fun h => h.1 c_1))
    · refine a_iconst (v := 1) (pc := 12) dX3_has_12 (by decide) ?_
      refine a_goto (tgt := 17) (pc := 13) dX3_has_13 (by decide) ?_
      exact a_zret (pc := 17) dX3_has_17 rfl (by decide) rfl (by first | exact zPB1 ⟨c_1, c_9⟩ | exact zPB0 (fun h => h.2 c_9) | exact zPB0 (fun h => h.1 c_1))

set_option maxRecDepth 100000 in
set_option maxHeartbeats 4000000 in
/-- hasRun -/
theorem c_hasRun (l : Launch) (G : zG) (ad : Nat → Nat) (f : Nat → Int32) (n : Int32) (x y : Int32) : zSem l G sX3_hasRun [.ref (ad 0), .int x, .int y] (wSh G ad f n) (zP (.int (zB (¬ x < 0 ∧ ¬ y < 0 ∧ ¬ n - y < x))) (wSh G ad f n)) := by
  refine zEnterV (L := [some (.ref (ad 0)), some (.int x), some (.int y)]) (by decide) rfl (Nat.le_of_ble_eq_true rfl) rfl ?_
  refine a_iload_1 (pc := 0) dX3_hasRun_0 ?_
  refine a_if_lt (tgt := 22) (pc := 1) dX3_hasRun_1 (by decide) (fun c_1 => ?_) (fun c_1 => ?_)
  · refine a_iconst (v := 0) (pc := 22) dX3_hasRun_22 (by decide) ?_
    exact a_zret (pc := 23) dX3_hasRun_23 rfl (by decide) rfl (by first | exact zPB1 ⟨c_1, c_5, c_15⟩ | exact zPB0 (fun h => h.2.2 c_15) | exact zPB0 (fun h => h.2.1 c_5) | exact zPB0 (fun h => h.1 c_1))
  · refine a_iload_2 (pc := 4) dX3_hasRun_4 ?_
    refine a_if_lt (tgt := 22) (pc := 5) dX3_hasRun_5 (by decide) (fun c_5 => ?_) (fun c_5 => ?_)
    · refine a_iconst (v := 0) (pc := 22) dX3_hasRun_22 (by decide) ?_
      exact a_zret (pc := 23) dX3_hasRun_23 rfl (by decide) rfl (by first | exact zPB1 ⟨c_1, c_5, c_15⟩ | exact zPB0 (fun h => h.2.2 c_15) | exact zPB0 (fun h => h.2.1 c_5) | exact zPB0 (fun h => h.1 c_1))
    · refine a_iload_1 (pc := 8) dX3_hasRun_8 ?_
      refine a_aload_0 (pc := 9) dX3_hasRun_9 ?_
      refine a_getf (ci := 3) (j := 1) rfl win_X3 (by decide) (pc := 10) dX3_hasRun_10 kf_X3_13 rfl rfl ?_
      refine a_iload_2 (pc := 13) dX3_hasRun_13 ?_
      refine a_isub (pc := 14) dX3_hasRun_14 ?_
      refine a_icmp_gt (tgt := 22) (pc := 15) dX3_hasRun_15 (by decide) (fun c_15 => ?_) (fun c_15 => ?_)
      · refine a_iconst (v := 0) (pc := 22) dX3_hasRun_22 (by decide) ?_
        exact a_zret (pc := 23) dX3_hasRun_23 rfl (by decide) rfl (by first | exact zPB1 ⟨c_1, c_5, c_15⟩ | exact zPB0 (fun h => h.2.2 c_15) | exact zPB0 (fun h => h.2.1 c_5) | exact zPB0 (fun h => h.1 c_1))
      · refine a_iconst (v := 1) (pc := 18) dX3_hasRun_18 (by decide) ?_
        refine a_goto (tgt := 23) (pc := 19) dX3_hasRun_19 (by decide) ?_
        exact a_zret (pc := 23) dX3_hasRun_23 rfl (by decide) rfl (by first | exact zPB1 ⟨c_1, c_5, c_15⟩ | exact zPB0 (fun h => h.2.2 c_15) | exact zPB0 (fun h => h.2.1 c_5) | exact zPB0 (fun h => h.1 c_1))

set_option maxRecDepth 100000 in
set_option maxHeartbeats 4000000 in
/-- begin -/
theorem c_begin (l : Launch) (G : zG) (ad : Nat → Nat) (f : Nat → Int32) (n : Int32) (x : Int32) : zSem l G sX3_begin [.ref (ad 0), .int x] (wSh G ad f n) (z0 (fun _ : Unit => True) (fun _ => wSh G ad (zfill f 24 0) x)) := by
  refine zEnterV (L := [some (.ref (ad 0)), some (.int x)]) (by decide) rfl (Nat.le_of_ble_eq_true rfl) rfl ?_
  refine a_aload_0 (pc := 0) dX3_begin_0 ?_
  refine a_getf (ci := 3) (j := 0) rfl win_X3 (by decide) (pc := 1) dX3_begin_1 kf_X3_9 rfl rfl ?_
  refine a_iconst (v := 0) (pc := 4) dX3_begin_4 (by decide) ?_
  refine cS_0 (S2 := sJ7_fill_fb410) (c_fillS l G (zpk ad [1]) 24 (by decide) f 0 (by decide)) kc_J7_fill_fb410 km_X3_17 ks_J7_fill_fb410 kini_J7 ⟨kn_J7_fill_fb410, by decide, by decide⟩ (pc := 5) dX3_begin_5 [1] rfl rfl rfl rfl (Nat.le_of_ble_eq_true rfl) (fun _ => wSh G ad (zfill f 24 0) n) (fun _ => rfl) ?_
  intro _u _
  refine a_aload_0 (pc := 8) dX3_begin_8 ?_
  refine a_iload_1 (pc := 9) dX3_begin_9 ?_
  refine a_putf (ci := 3) (j := 1) rfl win_X3 tyX3_ok nmX3 (by decide) (pc := 10) dX3_begin_10 kf_X3_13 rfl rfl rfl rfl rfl (Nat.le_of_ble_eq_true rfl) ?_
  exact a_vret (pc := 13) dX3_begin_13 rfl rfl ⟨(), trivial, rfl, rfl⟩
end
section
/-! Flows. -/
abbrev wFl (G : zG) (ad : Nat → Nat) (pa le : Nat → Int32) (B : Nat → Nat → Int64) (J : Nat → Int64) : va_W := [(ad 0, .inr (0, [.ref (ad 1), .ref (ad 2), .ref (ad 3), .ref (ad 4), .ref (ad 5), .ref (ad 6), .ref (ad 7), .ref (ad 8), .long (J 0), .long (J 1), .long (J 2), .long (J 3), .long (J 4)])), (ad 1, .inl (zcI G, 72, .inl pa)), (ad 2, .inl (zcI G, 72, .inl le)), (ad 3, .inl (zcJ G, 72, .inr (.inl (B 0)))), (ad 4, .inl (zcJ G, 72, .inr (.inl (B 1)))), (ad 5, .inl (zcJ G, 72, .inr (.inl (B 2)))), (ad 6, .inl (zcJ G, 72, .inr (.inl (B 3)))), (ad 7, .inl (zcJ G, 72, .inr (.inl (B 4)))), (ad 8, .inl (zcJ G, 72, .inr (.inl (B 5))))]
def zSalt (w g : Int64) : Int64 := if w = 0 then 0 else g / w
def zPush (w g p : Int64) : Int64 := if p - zSalt w g / 100 < 0 then 0 else p - zSalt w g / 100
def zThr (pa : Int32) (w g p : Int64) : Int64 := if zPush w g p * pa.toInt64 / 100 < w then zPush w g p * pa.toInt64 / 100 else w
def zThS (le : Int32) (w g : Int64) : Int64 := zSalt w g * le.toInt64 / 1000
def zLess (p x : Int64) : Int64 := if p - x < 0 then 0 else p - x
abbrev zSt3 : Type := Int64 × Int64 × Int64
def zStep (pa le : Int32) (s : zSt3) : zSt3 := (s.1 - zThr pa s.1 s.2.1 s.2.2, s.2.1 - zThr pa s.1 s.2.1 s.2.2 * zThS le s.1 s.2.1, zLess s.2.2 2)
/-- what comes to the skin j of a vessel that begins at a place -/
def zVs (pa le : Nat → Int32) (f0 : Nat) (s : zSt3) : Nat → zSt3
  | 0 => s
  | j + 1 => zStep (pa (f0 + j)) (le (f0 + j)) (zVs pa le f0 s j)
/-- what the six rows hold of a skin -/
def zOut (pa le : Int32) (s : zSt3) (a : Nat) : Int64 := if a = 0 then s.1 else if a = 1 then s.2.1 else if a = 2 then s.2.2 else if a = 3 then zThr pa s.1 s.2.1 s.2.2 else if a = 4 then zThS le s.1 s.2.1 else zThr pa s.1 s.2.1 s.2.2 * zThS le s.1 s.2.1
def zup6 (B : Nat → Nat → Int64) (k : Nat) (v : Nat → Int64) : Nat → Nat → Int64 := fun a => vp_updL (B a) k (v a)
def zJ2 (J : Nat → Int64) (x y : Int64) : Nat → Int64 := fun a => if a = 0 then x else if a = 1 then y else J a
set_option maxRecDepth 100000 in
set_option maxHeartbeats 4000000 in
/-- saltOf -/
theorem c_saltOf (l : Launch) (G : zG) (w g : Int64) : zSem l G sX0_saltOf [.long w, .long g] ([]) (zP (.long (zSalt w g)) []) := by
  refine zEnterV (L := [some (.long w), none, some (.long g), none]) (by decide) rfl (Nat.le_of_ble_eq_true rfl) rfl ?_
  refine a_lload_0 (pc := 0) dX0_saltOf_0 ?_
  refine a_lconst (v := 0) (pc := 1) dX0_saltOf_1 (by decide) ?_
  refine a_lif_ne (tgt := 10) (pc := 2) dX0_saltOf_2 dX0_saltOf_3 (by decide) (fun c_2 => ?_) (fun c_2 => ?_)
  · refine a_lload_2 (pc := 10) dX0_saltOf_10 ?_
    refine a_lload_0 (pc := 11) dX0_saltOf_11 ?_
    refine a_ldiv (pc := 12) dX0_saltOf_12 c_2 ?_
    exact a_lret (pc := 13) dX0_saltOf_13 rfl rfl (by first | exact ⟨congrArg (fun z => some (Value.long z)) (if_pos c_2).symm, rfl⟩ | exact ⟨congrArg (fun z => some (Value.long z)) (if_neg c_2).symm, rfl⟩)
  · refine a_lconst (v := 0) (pc := 6) dX0_saltOf_6 (by decide) ?_
    refine a_goto (tgt := 13) (pc := 7) dX0_saltOf_7 (by decide) ?_
    exact a_lret (pc := 13) dX0_saltOf_13 rfl rfl (by first | exact ⟨congrArg (fun z => some (Value.long z)) (if_pos c_2).symm, rfl⟩ | exact ⟨congrArg (fun z => some (Value.long z)) (if_neg c_2).symm, rfl⟩)

abbrev wTk (G : zG) (ad : Nat → Nat) (pa le : Nat → Int32) (B : Nat → Nat → Int64) (J : Nat → Int64) (kd fo : Nat → Int32) : va_W := [(ad 0, .inr (0, [.ref (ad 1), .ref (ad 2), .ref (ad 3), .ref (ad 4), .ref (ad 5), .ref (ad 6), .ref (ad 7), .ref (ad 8), .long (J 0), .long (J 1), .long (J 2), .long (J 3), .long (J 4)])), (ad 1, .inl (zcI G, 72, .inl pa)), (ad 2, .inl (zcI G, 72, .inl le)), (ad 3, .inl (zcJ G, 72, .inr (.inl (B 0)))), (ad 4, .inl (zcJ G, 72, .inr (.inl (B 1)))), (ad 5, .inl (zcJ G, 72, .inr (.inl (B 2)))), (ad 6, .inl (zcJ G, 72, .inr (.inl (B 3)))), (ad 7, .inl (zcJ G, 72, .inr (.inl (B 4)))), (ad 8, .inl (zcJ G, 72, .inr (.inl (B 5)))), (ad 9, .inr (4, [.ref (ad 10), .ref (ad 11)])), (ad 10, .inl (zcI G, 72, .inl kd)), (ad 11, .inl (zcI G, 72, .inl fo))]
set_option maxRecDepth 100000 in
set_option maxHeartbeats 4000000 in
theorem lp_take (l : Launch) (G : zG) (ad : Nat → Nat) (pa0 le0 : Nat → Int32) (B : Nat → Nat → Int64) (J : Nat → Int64) (kd fo : Nat → Int32) (hv : ∀ k, k < 72 → vp_in (kd k) 4) : ∀ (q i : Nat) (pa le : Nat → Int32), i + q = 72 → (∀ k, k < i → pa k = zPass kd fo k) → (∀ k, k < i → le k = zLeak kd k) → AV l G sX0_take (wTk G ad pa0 le0 B J kd fo) (z0 (fun u : (Nat → Int32) × (Nat → Int32) => (∀ k, k < 72 → u.1 k = zPass kd fo k) ∧ ∀ k, k < 72 → u.2 k = zLeak kd k) (fun u => wTk G ad u.1 u.2 B J kd fo)) 2 [some (.ref (ad 0)), some (.ref (ad 9)), some (.int (nI i))] [] (wTk G ad pa le B J kd fo) := by
  intro q_
  induction q_ using Nat.strongRecOn
  rename_i q_ ih_
  intro i pa le hq_ hp_ hl_
  refine a_iload_2 (pc := 2) dX0_take_2 ?_
  refine a_bipush (v := 72) (pc := 3) dX0_take_3 (by decide) ?_
  refine a_icmp_ge (tgt := 36) (pc := 5) dX0_take_5 (by decide) (fun c_5 => ?_) (fun c_5 => ?_)
  · obtain rfl : i = 72 := by have := (zI_le (a := 72) (b := i) (by decide) (by omega)).mp c_5; omega
    exact a_vret (pc := 36) dX0_take_36 rfl rfl ⟨(pa, le), ⟨hp_, hl_⟩, rfl, rfl⟩
  · have hi_ : i < 72 := by have := mt (zI_le (a := 72) (b := i) (by decide) (by omega)).mpr c_5; omega
    refine a_aload_0 (pc := 8) dX0_take_8 ?_
    refine a_getf (ci := 0) (j := 0) rfl win_X0 (by decide) (pc := 9) dX0_take_9 kf_X0_9 rfl rfl ?_
    refine a_iload_2 (pc := 12) dX0_take_12 ?_
    refine a_aload_1 (pc := 13) dX0_take_13 ?_
    refine a_iload_2 (pc := 14) dX0_take_14 ?_
    refine cV_P (ad := ad) (q0 := 9) (S2 := sX4_passAt) (c_passAt l G (zpk ad [9, 10, 11]) kd fo i hi_ (hv i hi_)) kc_X4_passAt km_X0_53 ki_X4_passAt kv_X4_passAt kini_X4 ⟨kn_X4_passAt, by decide, by decide⟩ (pc := 15) dX0_take_15 [9, 10, 11] rfl rfl rfl rfl (Nat.le_of_ble_eq_true rfl) rfl rfl rfl ?_
    refine a_iastN (pc := 18) dX0_take_18 rfl (by omega) (by decide) ?_
    refine a_aload_0 (pc := 19) dX0_take_19 ?_
    refine a_getf (ci := 0) (j := 1) rfl win_X0 (by decide) (pc := 20) dX0_take_20 kf_X0_15 rfl rfl ?_
    refine a_iload_2 (pc := 23) dX0_take_23 ?_
    refine a_aload_1 (pc := 24) dX0_take_24 ?_
    refine a_iload_2 (pc := 25) dX0_take_25 ?_
    refine cV_P (ad := ad) (q0 := 9) (S2 := sX4_leakAt) (c_leakAt l G (zpk ad [9, 10, 11]) kd fo i hi_ (hv i hi_)) kc_X4_leakAt km_X0_59 ki_X4_leakAt kv_X4_leakAt kini_X4 ⟨kn_X4_leakAt, by decide, by decide⟩ (pc := 26) dX0_take_26 [9, 10, 11] rfl rfl rfl rfl (Nat.le_of_ble_eq_true rfl) rfl rfl rfl ?_
    refine a_iastN (pc := 29) dX0_take_29 rfl (by omega) (by decide) ?_
    refine a_iinc_2 (cst := 1) (pc := 30) dX0_take_30 rfl (by decide) (by decide) ?_
    refine a_goto (tgt := 2) (pc := 33) dX0_take_33 (by decide) ?_
    rw [← nI_succ]
    exact ih_ (q_ - 1) (by omega) (i + 1) (upd pa i (zPass kd fo i)) (upd le i (zLeak kd i)) (by omega) (fun k hk => by by_cases h : k = i; (subst h; exact upd_same _ _ _); rw [upd_ne _ _ h]; exact hp_ k (by omega)) (fun k hk => by by_cases h : k = i; (subst h; exact upd_same _ _ _); rw [upd_ne _ _ h]; exact hl_ k (by omega))

set_option maxRecDepth 100000 in
set_option maxHeartbeats 4000000 in
/-- take -/
theorem c_take (l : Launch) (G : zG) (ad : Nat → Nat) (pa0 le0 : Nat → Int32) (B : Nat → Nat → Int64) (J : Nat → Int64) (kd fo : Nat → Int32) (hv : ∀ k, k < 72 → vp_in (kd k) 4) : zSem l G sX0_take [.ref (ad 0), .ref (ad 9)] (wTk G ad pa0 le0 B J kd fo) (z0 (fun u : (Nat → Int32) × (Nat → Int32) => (∀ k, k < 72 → u.1 k = zPass kd fo k) ∧ ∀ k, k < 72 → u.2 k = zLeak kd k) (fun u => wTk G ad u.1 u.2 B J kd fo)) := by
  refine zEnterV (L := [some (.ref (ad 0)), some (.ref (ad 9)), none]) (by decide) rfl (Nat.le_of_ble_eq_true rfl) rfl ?_
  refine a_iconst (v := 0) (pc := 0) dX0_take_0 (by decide) ?_
  refine a_istore_2 (pc := 1) dX0_take_1 rfl (by decide) ?_
  exact lp_take l G ad pa0 le0 B J kd fo hv 72 0 pa0 le0 (by omega) (fun k hk => absurd hk (Nat.not_lt_zero k)) (fun k hk => absurd hk (Nat.not_lt_zero k))

set_option maxRecDepth 100000 in
set_option maxHeartbeats 4000000 in
/-- areAlike -/
theorem c_areAlike (l : Launch) (G : zG) (ad : Nat → Nat) (pa le : Nat → Int32) (B : Nat → Nat → Int64) (J : Nat → Int64) (k j : Nat) (hk : k < 72) (hj : j < 72) : zSem l G sX0_areAlike [.ref (ad 0), .int (nI k), .int (nI j)] (wFl G ad pa le B J) (zP (.int (zB (pa k = pa j ∧ le k = le j))) (wFl G ad pa le B J)) := by
  refine zEnterV (L := [some (.ref (ad 0)), some (.int (nI k)), some (.int (nI j))]) (by decide) rfl (Nat.le_of_ble_eq_true rfl) rfl ?_
  refine a_aload_0 (pc := 0) dX0_areAlike_0 ?_
  refine a_getf (ci := 0) (j := 0) rfl win_X0 (by decide) (pc := 1) dX0_areAlike_1 kf_X0_9 rfl rfl ?_
  refine a_iload_1 (pc := 4) dX0_areAlike_4 ?_
  refine a_ialdN (pc := 5) dX0_areAlike_5 rfl (by omega) (by decide) ?_
  refine a_aload_0 (pc := 6) dX0_areAlike_6 ?_
  refine a_getf (ci := 0) (j := 0) rfl win_X0 (by decide) (pc := 7) dX0_areAlike_7 kf_X0_9 rfl rfl ?_
  refine a_iload_2 (pc := 10) dX0_areAlike_10 ?_
  refine a_ialdN (pc := 11) dX0_areAlike_11 rfl (by omega) (by decide) ?_
  refine a_icmp_ne (tgt := 34) (pc := 12) dX0_areAlike_12 (by decide) (fun c_12 => ?_) (fun c_12 => ?_)
  · refine a_iconst (v := 0) (pc := 34) dX0_areAlike_34 (by decide) ?_
    exact a_zret (pc := 35) dX0_areAlike_35 rfl (by decide) rfl (by first | exact zPB1 ⟨c_12, c_27⟩ | exact zPB0 (fun h => c_27 h.2) | exact zPB0 (fun h => c_12 h.1))
  · refine a_aload_0 (pc := 15) dX0_areAlike_15 ?_
    refine a_getf (ci := 0) (j := 1) rfl win_X0 (by decide) (pc := 16) dX0_areAlike_16 kf_X0_15 rfl rfl ?_
    refine a_iload_1 (pc := 19) dX0_areAlike_19 ?_
    refine a_ialdN (pc := 20) dX0_areAlike_20 rfl (by omega) (by decide) ?_
    refine a_aload_0 (pc := 21) dX0_areAlike_21 ?_
    refine a_getf (ci := 0) (j := 1) rfl win_X0 (by decide) (pc := 22) dX0_areAlike_22 kf_X0_15 rfl rfl ?_
    refine a_iload_2 (pc := 25) dX0_areAlike_25 ?_
    refine a_ialdN (pc := 26) dX0_areAlike_26 rfl (by omega) (by decide) ?_
    refine a_icmp_ne (tgt := 34) (pc := 27) dX0_areAlike_27 (by decide) (fun c_27 => ?_) (fun c_27 => ?_)
    · refine a_iconst (v := 0) (pc := 34) dX0_areAlike_34 (by decide) ?_
      exact a_zret (pc := 35) dX0_areAlike_35 rfl (by decide) rfl (by first | exact zPB1 ⟨c_12, c_27⟩ | exact zPB0 (fun h => c_27 h.2) | exact zPB0 (fun h => c_12 h.1))
    · refine a_iconst (v := 1) (pc := 30) dX0_areAlike_30 (by decide) ?_
      refine a_goto (tgt := 35) (pc := 31) dX0_areAlike_31 (by decide) ?_
      exact a_zret (pc := 35) dX0_areAlike_35 rfl (by decide) rfl (by first | exact zPB1 ⟨c_12, c_27⟩ | exact zPB0 (fun h => c_27 h.2) | exact zPB0 (fun h => c_12 h.1))

set_option maxRecDepth 100000 in
set_option maxHeartbeats 4000000 in
/-- exchange of flows -/
theorem c_flExch (l : Launch) (G : zG) (ad : Nat → Nat) (pa le : Nat → Int32) (B : Nat → Nat → Int64) (J : Nat → Int64) (k j : Nat) (hk : k < 72) (hj : j < 72) : zSem l G sX0_exchange [.ref (ad 0), .int (nI k), .int (nI j)] (wFl G ad pa le B J) (z0 (fun _ : Unit => True) (fun _ => wFl G ad (zExch pa k j) (zExch le k j) B J)) := by
  refine zEnterV (L := [some (.ref (ad 0)), some (.int (nI k)), some (.int (nI j)), none, none]) (by decide) rfl (Nat.le_of_ble_eq_true rfl) rfl ?_
  refine a_aload_0 (pc := 0) dX0_exchange_0 ?_
  refine a_getf (ci := 0) (j := 0) rfl win_X0 (by decide) (pc := 1) dX0_exchange_1 kf_X0_9 rfl rfl ?_
  refine a_iload_1 (pc := 4) dX0_exchange_4 ?_
  refine a_ialdN (pc := 5) dX0_exchange_5 rfl (by omega) (by decide) ?_
  refine a_istore_3 (pc := 6) dX0_exchange_6 rfl (by decide) ?_
  refine a_aload_0 (pc := 7) dX0_exchange_7 ?_
  refine a_getf (ci := 0) (j := 1) rfl win_X0 (by decide) (pc := 8) dX0_exchange_8 kf_X0_15 rfl rfl ?_
  refine a_iload_1 (pc := 11) dX0_exchange_11 ?_
  refine a_ialdN (pc := 12) dX0_exchange_12 rfl (by omega) (by decide) ?_
  refine a_istore_4 (pc := 13) dX0_exchange_13 rfl (by decide) ?_
  refine a_aload_0 (pc := 15) dX0_exchange_15 ?_
  refine a_getf (ci := 0) (j := 0) rfl win_X0 (by decide) (pc := 16) dX0_exchange_16 kf_X0_9 rfl rfl ?_
  refine a_iload_1 (pc := 19) dX0_exchange_19 ?_
  refine a_aload_0 (pc := 20) dX0_exchange_20 ?_
  refine a_getf (ci := 0) (j := 0) rfl win_X0 (by decide) (pc := 21) dX0_exchange_21 kf_X0_9 rfl rfl ?_
  refine a_iload_2 (pc := 24) dX0_exchange_24 ?_
  refine a_ialdN (pc := 25) dX0_exchange_25 rfl (by omega) (by decide) ?_
  refine a_iastN (pc := 26) dX0_exchange_26 rfl (by omega) (by decide) ?_
  refine a_aload_0 (pc := 27) dX0_exchange_27 ?_
  refine a_getf (ci := 0) (j := 1) rfl win_X0 (by decide) (pc := 28) dX0_exchange_28 kf_X0_15 rfl rfl ?_
  refine a_iload_1 (pc := 31) dX0_exchange_31 ?_
  refine a_aload_0 (pc := 32) dX0_exchange_32 ?_
  refine a_getf (ci := 0) (j := 1) rfl win_X0 (by decide) (pc := 33) dX0_exchange_33 kf_X0_15 rfl rfl ?_
  refine a_iload_2 (pc := 36) dX0_exchange_36 ?_
  refine a_ialdN (pc := 37) dX0_exchange_37 rfl (by omega) (by decide) ?_
  refine a_iastN (pc := 38) dX0_exchange_38 rfl (by omega) (by decide) ?_
  refine a_aload_0 (pc := 39) dX0_exchange_39 ?_
  refine a_getf (ci := 0) (j := 0) rfl win_X0 (by decide) (pc := 40) dX0_exchange_40 kf_X0_9 rfl rfl ?_
  refine a_iload_2 (pc := 43) dX0_exchange_43 ?_
  refine a_iload_3 (pc := 44) dX0_exchange_44 ?_
  refine a_iastN (pc := 45) dX0_exchange_45 rfl (by omega) (by decide) ?_
  refine a_aload_0 (pc := 46) dX0_exchange_46 ?_
  refine a_getf (ci := 0) (j := 1) rfl win_X0 (by decide) (pc := 47) dX0_exchange_47 kf_X0_15 rfl rfl ?_
  refine a_iload_2 (pc := 50) dX0_exchange_50 ?_
  refine a_iload_4 (pc := 51) dX0_exchange_51 ?_
  refine a_iastN (pc := 53) dX0_exchange_53 rfl (by omega) (by decide) ?_
  exact a_vret (pc := 54) dX0_exchange_54 rfl rfl ⟨(), trivial, rfl, rfl⟩

theorem zup6_ok {pa le : Nat → Int32} {f0 : Nat} {s0 : zSt3} {B0 B : Nat → Nat → Int64} {i : Nat} (h1 : ∀ a k, ¬ (f0 ≤ k ∧ k < f0 + i) → B a k = B0 a k) (h2 : ∀ j, j < i → ∀ a, a < 6 → B a (f0 + j) = zOut (pa (f0 + j)) (le (f0 + j)) (zVs pa le f0 s0 j) a) :
    (∀ a k, ¬ (f0 ≤ k ∧ k < f0 + (i + 1)) → zup6 B (f0 + i) (zOut (pa (f0 + i)) (le (f0 + i)) (zVs pa le f0 s0 i)) a k = B0 a k) ∧ ∀ j, j < i + 1 → ∀ a, a < 6 → zup6 B (f0 + i) (zOut (pa (f0 + i)) (le (f0 + i)) (zVs pa le f0 s0 i)) a (f0 + j) = zOut (pa (f0 + j)) (le (f0 + j)) (zVs pa le f0 s0 j) a := by
  refine ⟨fun a k hk => ?_, fun j hj a ha => ?_⟩
  · unfold zup6
    rw [updL_ne _ _ (by omega)]
    exact h1 a k (by omega)
  · unfold zup6
    by_cases h : j = i
    · subst h; exact updL_same _ _ _
    · rw [updL_ne _ _ (by omega)]
      exact h2 j (by omega) a ha
set_option maxRecDepth 100000 in
set_option maxHeartbeats 4000000 in
theorem lp_runVessel (l : Launch) (G : zG) (ad : Nat → Nat) (pa le : Nat → Int32) (B0 : Nat → Nat → Int64) (J : Nat → Int64) (f0 n : Nat) (hn : f0 + n ≤ 72) (w g : Int64) : ∀ (q i : Nat) (B : Nat → Nat → Int64), i + q = n → ((∀ a k, ¬ (f0 ≤ k ∧ k < f0 + i) → B a k = B0 a k) ∧ ∀ j, j < i → ∀ a, a < 6 → B a (f0 + j) = zOut (pa (f0 + j)) (le (f0 + j)) (zVs pa le f0 (w, g, J 2) j) a) → AV l G sX0_runVessel (wFl G ad pa le B0 J) (z0 (fun u : Nat → Nat → Int64 => (∀ a k, ¬ (f0 ≤ k ∧ k < f0 + n) → u a k = B0 a k) ∧ ∀ j, j < n → ∀ a, a < 6 → u a (f0 + j) = zOut (pa (f0 + j)) (le (f0 + j)) (zVs pa le f0 (w, g, J 2) j) a) (fun u => wFl G ad pa le u (zJ2 J (J 0 + (zVs pa le f0 (w, g, J 2) n).1) (J 1 + (zVs pa le f0 (w, g, J 2) n).2.1)))) 16 [some (.ref (ad 0)), some (.int (nI f0)), some (.int (nI n)), some (.long w), none, some (.long g), none, some (.long (zVs pa le f0 (w, g, J 2) i).1), none, some (.long (zVs pa le f0 (w, g, J 2) i).2.1), none, some (.long (zVs pa le f0 (w, g, J 2) i).2.2), none, some (.int (nI (f0 + i))), none, none, none, none] [] (wFl G ad pa le B J) := by
  intro q_
  induction q_ using Nat.strongRecOn
  rename_i q_ ih_
  intro i B hq_ hB_
  refine a_iload_13 (pc := 16) dX0_runVessel_16 ?_
  refine a_iload_1 (pc := 18) dX0_runVessel_18 ?_
  refine a_iload_2 (pc := 19) dX0_runVessel_19 ?_
  refine a_iadd (pc := 20) dX0_runVessel_20 ?_
  refine a_icmp_ge (tgt := 195) (pc := 21) dX0_runVessel_21 (by decide) (fun c_21 => ?_) (fun c_21 => ?_)
  · obtain rfl : i = n := by rw [← zI_add] at c_21; have := (zI_le (by omega) (by omega)).mp c_21; omega
    refine a_aload_0 (pc := 195) dX0_runVessel_195 ?_
    refine a_dup (pc := 196) dX0_runVessel_196 rfl ?_
    refine a_getf (ci := 0) (j := 8) rfl win_X0 (by decide) (pc := 197) dX0_runVessel_197 kf_X0_37 rfl rfl ?_
    refine a_lload_7 (pc := 200) dX0_runVessel_200 ?_
    refine a_ladd (pc := 202) dX0_runVessel_202 ?_
    refine a_putf (ci := 0) (j := 8) rfl win_X0 tyX0_ok nmX0 (by decide) (pc := 203) dX0_runVessel_203 kf_X0_37 rfl rfl rfl rfl rfl (Nat.le_of_ble_eq_true rfl) ?_
    refine a_aload_0 (pc := 206) dX0_runVessel_206 ?_
    refine a_dup (pc := 207) dX0_runVessel_207 rfl ?_
    refine a_getf (ci := 0) (j := 9) rfl win_X0 (by decide) (pc := 208) dX0_runVessel_208 kf_X0_41 rfl rfl ?_
    refine a_lload_9 (pc := 211) dX0_runVessel_211 ?_
    refine a_ladd (pc := 213) dX0_runVessel_213 ?_
    refine a_putf (ci := 0) (j := 9) rfl win_X0 tyX0_ok nmX0 (by decide) (pc := 214) dX0_runVessel_214 kf_X0_41 rfl rfl rfl rfl rfl (Nat.le_of_ble_eq_true rfl) ?_
    exact a_vret (pc := 217) dX0_runVessel_217 rfl rfl ⟨B, hB_, rfl, rfl⟩
  · have hi_ : i < n := by rw [← zI_add] at c_21; have := mt (zI_le (a := f0 + n) (b := f0 + i) (by omega) (by omega)).mpr c_21; omega
    refine a_iload_13 (pc := 24) dX0_runVessel_24 ?_
    refine a_bipush (v := 72) (pc := 26) dX0_runVessel_26 (by decide) ?_
    refine a_icmp_ge (tgt := 195) (pc := 28) dX0_runVessel_28 (by decide) (fun c_28 => ?_) (fun c_28 => ?_)
    · exact absurd ((zI_le (a := 72) (b := f0 + i) (by decide) (by omega)).mp c_28) (by omega)
    · refine a_aload_0 (pc := 31) dX0_runVessel_31 ?_
      refine a_getf (ci := 0) (j := 2) rfl win_X0 (by decide) (pc := 32) dX0_runVessel_32 kf_X0_18 rfl rfl ?_
      refine a_iload_13 (pc := 35) dX0_runVessel_35 ?_
      refine a_lload_7 (pc := 37) dX0_runVessel_37 ?_
      refine a_lastN (pc := 39) dX0_runVessel_39 rfl (by omega) (by decide) ?_
      refine a_aload_0 (pc := 40) dX0_runVessel_40 ?_
      refine a_getf (ci := 0) (j := 3) rfl win_X0 (by decide) (pc := 41) dX0_runVessel_41 kf_X0_22 rfl rfl ?_
      refine a_iload_13 (pc := 44) dX0_runVessel_44 ?_
      refine a_lload_9 (pc := 46) dX0_runVessel_46 ?_
      refine a_lastN (pc := 48) dX0_runVessel_48 rfl (by omega) (by decide) ?_
      refine a_aload_0 (pc := 49) dX0_runVessel_49 ?_
      refine a_getf (ci := 0) (j := 4) rfl win_X0 (by decide) (pc := 50) dX0_runVessel_50 kf_X0_25 rfl rfl ?_
      refine a_iload_13 (pc := 53) dX0_runVessel_53 ?_
      refine a_lload_11 (pc := 55) dX0_runVessel_55 ?_
      refine a_lastN (pc := 57) dX0_runVessel_57 rfl (by omega) (by decide) ?_
      refine a_lload_7 (pc := 58) dX0_runVessel_58 ?_
      refine a_lload_9 (pc := 60) dX0_runVessel_60 ?_
      refine cS_P (S2 := sX0_saltOf) (c_saltOf l G _ _) kc_X0_saltOf km_X0_75 ks_X0_saltOf kini_X0 ⟨kn_X0_saltOf, by decide, by decide⟩ (pc := 62) dX0_runVessel_62 [] rfl rfl rfl rfl (Nat.le_of_ble_eq_true rfl) ?_
      refine a_lstore_14 (pc := 65) dX0_runVessel_65 rfl (by decide) ?_
      refine a_lconst (v := 0) (pc := 67) dX0_runVessel_67 (by decide) ?_
      refine a_lload_11 (pc := 68) dX0_runVessel_68 ?_
      refine a_lload_14 (pc := 70) dX0_runVessel_70 ?_
      refine a_ldc2 (pc := 72) dX0_runVessel_72 kl_X0_88 ?_
      refine a_ldiv (pc := 75) dX0_runVessel_75 (by decide) ?_
      refine a_lsub (pc := 76) dX0_runVessel_76 ?_
      refine a_maxJ (pc := 77) dX0_runVessel_77 km_X0_83 (by decide) (Nat.le_of_ble_eq_true rfl) ?_
      refine a_lstore_16 (pc := 80) dX0_runVessel_80 rfl (by decide) ?_
      refine a_aload_0 (pc := 82) dX0_runVessel_82 ?_
      refine a_getf (ci := 0) (j := 5) rfl win_X0 (by decide) (pc := 83) dX0_runVessel_83 kf_X0_28 rfl rfl ?_
      refine a_iload_13 (pc := 86) dX0_runVessel_86 ?_
      refine a_lload_7 (pc := 88) dX0_runVessel_88 ?_
      refine a_lload_16 (pc := 90) dX0_runVessel_90 ?_
      refine a_aload_0 (pc := 92) dX0_runVessel_92 ?_
      refine a_getf (ci := 0) (j := 0) rfl win_X0 (by decide) (pc := 93) dX0_runVessel_93 kf_X0_9 rfl rfl ?_
      refine a_iload_13 (pc := 96) dX0_runVessel_96 ?_
      refine a_ialdN (pc := 98) dX0_runVessel_98 rfl (by omega) (by decide) ?_
      refine a_i2l (pc := 99) dX0_runVessel_99 ?_
      refine a_lmul (pc := 100) dX0_runVessel_100 ?_
      refine a_ldc2 (pc := 101) dX0_runVessel_101 kl_X0_88 ?_
      refine a_ldiv (pc := 104) dX0_runVessel_104 (by decide) ?_
      refine a_minJ (pc := 105) dX0_runVessel_105 km_X0_90 (by decide) (Nat.le_of_ble_eq_true rfl) ?_
      refine a_lastN (pc := 108) dX0_runVessel_108 rfl (by omega) (by decide) ?_
      refine a_aload_0 (pc := 109) dX0_runVessel_109 ?_
      refine a_getf (ci := 0) (j := 6) rfl win_X0 (by decide) (pc := 110) dX0_runVessel_110 kf_X0_31 rfl rfl ?_
      refine a_iload_13 (pc := 113) dX0_runVessel_113 ?_
      refine a_lload_14 (pc := 115) dX0_runVessel_115 ?_
      refine a_aload_0 (pc := 117) dX0_runVessel_117 ?_
      refine a_getf (ci := 0) (j := 1) rfl win_X0 (by decide) (pc := 118) dX0_runVessel_118 kf_X0_15 rfl rfl ?_
      refine a_iload_13 (pc := 121) dX0_runVessel_121 ?_
      refine a_ialdN (pc := 123) dX0_runVessel_123 rfl (by omega) (by decide) ?_
      refine a_i2l (pc := 124) dX0_runVessel_124 ?_
      refine a_lmul (pc := 125) dX0_runVessel_125 ?_
      refine a_ldc2 (pc := 126) dX0_runVessel_126 kl_X0_93 ?_
      refine a_ldiv (pc := 129) dX0_runVessel_129 (by decide) ?_
      refine a_lastN (pc := 130) dX0_runVessel_130 rfl (by omega) (by decide) ?_
      refine a_aload_0 (pc := 131) dX0_runVessel_131 ?_
      refine a_getf (ci := 0) (j := 7) rfl win_X0 (by decide) (pc := 132) dX0_runVessel_132 kf_X0_34 rfl rfl ?_
      refine a_iload_13 (pc := 135) dX0_runVessel_135 ?_
      refine a_aload_0 (pc := 137) dX0_runVessel_137 ?_
      refine a_getf (ci := 0) (j := 5) rfl win_X0 (by decide) (pc := 138) dX0_runVessel_138 kf_X0_28 rfl rfl ?_
      refine a_iload_13 (pc := 141) dX0_runVessel_141 ?_
      refine a_laldN (pc := 143) dX0_runVessel_143 rfl (by omega) (by decide) ?_
      rw [updL_same]
      refine a_aload_0 (pc := 144) dX0_runVessel_144 ?_
      refine a_getf (ci := 0) (j := 6) rfl win_X0 (by decide) (pc := 145) dX0_runVessel_145 kf_X0_31 rfl rfl ?_
      refine a_iload_13 (pc := 148) dX0_runVessel_148 ?_
      refine a_laldN (pc := 150) dX0_runVessel_150 rfl (by omega) (by decide) ?_
      rw [updL_same]
      refine a_lmul (pc := 151) dX0_runVessel_151 ?_
      refine a_lastN (pc := 152) dX0_runVessel_152 rfl (by omega) (by decide) ?_
      refine a_lload_7 (pc := 153) dX0_runVessel_153 ?_
      refine a_aload_0 (pc := 155) dX0_runVessel_155 ?_
      refine a_getf (ci := 0) (j := 5) rfl win_X0 (by decide) (pc := 156) dX0_runVessel_156 kf_X0_28 rfl rfl ?_
      refine a_iload_13 (pc := 159) dX0_runVessel_159 ?_
      refine a_laldN (pc := 161) dX0_runVessel_161 rfl (by omega) (by decide) ?_
      rw [updL_same]
      refine a_lsub (pc := 162) dX0_runVessel_162 ?_
      refine a_lstore_7 (pc := 163) dX0_runVessel_163 rfl (by decide) ?_
      refine a_lload_9 (pc := 165) dX0_runVessel_165 ?_
      refine a_aload_0 (pc := 167) dX0_runVessel_167 ?_
      refine a_getf (ci := 0) (j := 7) rfl win_X0 (by decide) (pc := 168) dX0_runVessel_168 kf_X0_34 rfl rfl ?_
      refine a_iload_13 (pc := 171) dX0_runVessel_171 ?_
      refine a_laldN (pc := 173) dX0_runVessel_173 rfl (by omega) (by decide) ?_
      rw [updL_same]
      refine a_lsub (pc := 174) dX0_runVessel_174 ?_
      refine a_lstore_9 (pc := 175) dX0_runVessel_175 rfl (by decide) ?_
      refine a_lconst (v := 0) (pc := 177) dX0_runVessel_177 (by decide) ?_
      refine a_lload_11 (pc := 178) dX0_runVessel_178 ?_
      refine a_ldc2 (pc := 180) dX0_runVessel_180 kl_X0_95 ?_
      refine a_lsub (pc := 183) dX0_runVessel_183 ?_
      refine a_maxJ (pc := 184) dX0_runVessel_184 km_X0_83 (by decide) (Nat.le_of_ble_eq_true rfl) ?_
      refine a_lstore_11 (pc := 187) dX0_runVessel_187 rfl (by decide) ?_
      refine a_iinc_13 (cst := 1) (pc := 189) dX0_runVessel_189 rfl (by decide) (by decide) ?_
      refine a_goto (tgt := 16) (pc := 192) dX0_runVessel_192 (by decide) ?_
      rw [← nI_succ]
      refine a_forget_14 (a_forget_16 ?_)
      exact ih_ (q_ - 1) (by omega) (i + 1) (zup6 B (f0 + i) (zOut (pa (f0 + i)) (le (f0 + i)) (zVs pa le f0 (w, g, J 2) i))) (by omega) (zup6_ok hB_.1 hB_.2)

set_option maxRecDepth 100000 in
set_option maxHeartbeats 4000000 in
/-- runVessel -/
theorem c_runVessel (l : Launch) (G : zG) (ad : Nat → Nat) (pa le : Nat → Int32) (B0 : Nat → Nat → Int64) (J : Nat → Int64) (f0 n : Nat) (hn : f0 + n ≤ 72) (w g : Int64) : zSem l G sX0_runVessel [.ref (ad 0), .int (nI f0), .int (nI n), .long w, .long g] (wFl G ad pa le B0 J) (z0 (fun u : Nat → Nat → Int64 => (∀ a k, ¬ (f0 ≤ k ∧ k < f0 + n) → u a k = B0 a k) ∧ ∀ j, j < n → ∀ a, a < 6 → u a (f0 + j) = zOut (pa (f0 + j)) (le (f0 + j)) (zVs pa le f0 (w, g, J 2) j) a) (fun u => wFl G ad pa le u (zJ2 J (J 0 + (zVs pa le f0 (w, g, J 2) n).1) (J 1 + (zVs pa le f0 (w, g, J 2) n).2.1)))) := by
  refine zEnterV (L := [some (.ref (ad 0)), some (.int (nI f0)), some (.int (nI n)), some (.long w), none, some (.long g), none, none, none, none, none, none, none, none, none, none, none, none]) (by decide) rfl (Nat.le_of_ble_eq_true rfl) rfl ?_
  refine a_lload_3 (pc := 0) dX0_runVessel_0 ?_
  refine a_lstore_7 (pc := 1) dX0_runVessel_1 rfl (by decide) ?_
  refine a_lload_5 (pc := 3) dX0_runVessel_3 ?_
  refine a_lstore_9 (pc := 5) dX0_runVessel_5 rfl (by decide) ?_
  refine a_aload_0 (pc := 7) dX0_runVessel_7 ?_
  refine a_getf (ci := 0) (j := 10) rfl win_X0 (by decide) (pc := 8) dX0_runVessel_8 kf_X0_44 rfl rfl ?_
  refine a_lstore_11 (pc := 11) dX0_runVessel_11 rfl (by decide) ?_
  refine a_iload_1 (pc := 13) dX0_runVessel_13 ?_
  refine a_istore_13 (pc := 14) dX0_runVessel_14 rfl (by decide) ?_
  exact lp_runVessel l G ad pa le B0 J f0 n hn w g n 0 B0 (by omega) ⟨fun _ _ _ => rfl, fun j hj => absurd hj (Nat.not_lt_zero j)⟩
end
section
/-! Flows: a stage, the whole run, the first failure. -/
def zWv (W : Int64) (m v : Nat) : Int64 := if W - W / (nI m).toInt64 * (nI m).toInt64 ≤ (nI v).toInt64 then W / (nI m).toInt64 else W / (nI m).toInt64 + 1
def zGv (W g : Int64) (m v : Nat) : Int64 := if v = 0 then zWv W m v * zSalt W g + (g - W * zSalt W g) else zWv W m v * zSalt W g
def zIn (st : zSt3) (m v : Nat) : zSt3 := (zWv st.1 m v, zGv st.1 st.2.1 m v, st.2.2)
def zStg (pa le : Nat → Int32) (s m n : Nat) (st : zSt3) : Nat → Int64 × Int64
  | 0 => (0, 0)
  | v + 1 => ((zStg pa le s m n st v).1 + (zVs pa le (s * 24 + v * 6) (zIn st m v) n).1, (zStg pa le s m n st v).2 + (zVs pa le (s * 24 + v * 6) (zIn st m v) n).2.1)
def zStN (pa le : Nat → Int32) (s m n : Nat) (st : zSt3) : zSt3 := if m = 0 then st else ((zStg pa le s m n st m).1, (zStg pa le s m n st m).2, zLess st.2.2 (2 * nI n).toInt64)
theorem zStN_pos {pa le : Nat → Int32} {s m n : Nat} {st : zSt3} (h : 0 < m) : zStN pa le s m n st = ((zStg pa le s m n st m).1, (zStg pa le s m n st m).2, zLess st.2.2 (2 * nI n).toInt64) := if_neg (by omega)
def zJ3 (J : Nat → Int64) (st : zSt3) : Nat → Int64 := fun a => if a = 0 then st.1 else if a = 1 then st.2.1 else if a = 2 then st.2.2 else J a
/-- the rows hold what the skins of the first vessels of a stage got and let through -/
def zRow (pa le : Nat → Int32) (s m n : Nat) (st : zSt3) (B : Nat → Nat → Int64) (c : Nat) : Prop := ∀ v, v < c → ∀ j, j < n → ∀ a, a < 6 → B a (s * 24 + v * 6 + j) = zOut (pa (s * 24 + v * 6 + j)) (le (s * 24 + v * 6 + j)) (zVs pa le (s * 24 + v * 6) (zIn st m v) j) a
theorem zRow_s {pa le : Nat → Int32} {s m n c : Nat} {st : zSt3} {B u : Nat → Nat → Int64} (hn : n ≤ 6) (h : zRow pa le s m n st B c) (h1 : ∀ a k, ¬ (s * 24 + c * 6 ≤ k ∧ k < s * 24 + c * 6 + n) → u a k = B a k) (h2 : ∀ j, j < n → ∀ a, a < 6 → u a (s * 24 + c * 6 + j) = zOut (pa (s * 24 + c * 6 + j)) (le (s * 24 + c * 6 + j)) (zVs pa le (s * 24 + c * 6) (zIn st m c) j) a) : zRow pa le s m n st u (c + 1) := by
  intro v hv j hj a ha
  by_cases h : v = c
  · subst h; exact h2 j hj a ha
  · rw [h1 a _ (by omega)]
    exact ‹zRow pa le s m n st B c› v (by omega) j hj a ha
theorem zRow_k {pa le : Nat → Int32} {s m n c t : Nat} {st : zSt3} {B u : Nat → Nat → Int64} (hn : n ≤ 6) (hc : c ≤ 4) (hs : s < t) (h : zRow pa le s m n st B c) (h1 : ∀ a k, ¬ (t * 24 ≤ k ∧ k < t * 24 + 24) → u a k = B a k) : zRow pa le s m n st u c := by
  intro v hv j hj a ha
  rw [h1 a _ (by omega)]
  exact h v hv j hj a ha
set_option maxRecDepth 100000 in
set_option maxHeartbeats 4000000 in
theorem lp_runStage (l : Launch) (G : zG) (ad : Nat → Nat) (pa le : Nat → Int32) (B0 : Nat → Nat → Int64) (J : Nat → Int64) (s m n : Nat) (hs : s < 3) (hm : m ≤ 4) (hn : n ≤ 6) (hm0 : 0 < m) : ∀ (q v : Nat) (B : Nat → Nat → Int64), v + q = m → ((∀ a k, ¬ (s * 24 ≤ k ∧ k < s * 24 + v * 6) → B a k = B0 a k) ∧ zRow pa le s m n (J 0, J 1, J 2) B v) → AV l G sX0_runStage (wFl G ad pa le B0 J) (z0 (fun u : Nat → Nat → Int64 => (∀ a k, ¬ (s * 24 ≤ k ∧ k < s * 24 + m * 6) → u a k = B0 a k) ∧ zRow pa le s m n (J 0, J 1, J 2) u m) (fun u => wFl G ad pa le u (zJ3 J (zStN pa le s m n (J 0, J 1, J 2))))) 64 [some (.ref (ad 0)), some (.int (nI s)), some (.int (nI m)), some (.int (nI n)), some (.long (J 0 / (nI m).toInt64)), none, some (.long (J 0 - J 0 / (nI m).toInt64 * (nI m).toInt64)), none, some (.long (zSalt (J 0) (J 1))), none, some (.long (J 1 - J 0 * zSalt (J 0) (J 1))), none, some (.int (nI v)), none, none, none, none] [] (wFl G ad pa le B (zJ2 J (zStg pa le s m n (J 0, J 1, J 2) v).1 (zStg pa le s m n (J 0, J 1, J 2) v).2)) := by
  intro q_
  induction q_ using Nat.strongRecOn
  rename_i q_ ih_
  intro v B hq_ hB_
  refine a_iload_12 (pc := 64) dX0_runStage_64 ?_
  refine a_iload_2 (pc := 66) dX0_runStage_66 ?_
  refine a_icmp_ge (tgt := 138) (pc := 67) dX0_runStage_67 (by decide) (fun c_67 => ?_) (fun c_67 => ?_)
  · obtain rfl : v = m := by have := (zI_le (by omega) (by omega)).mp c_67; omega
    refine a_aload_0 (pc := 138) dX0_runStage_138 ?_
    refine a_lconst (v := 0) (pc := 139) dX0_runStage_139 (by decide) ?_
    refine a_aload_0 (pc := 140) dX0_runStage_140 ?_
    refine a_getf (ci := 0) (j := 10) rfl win_X0 (by decide) (pc := 141) dX0_runStage_141 kf_X0_44 rfl rfl ?_
    refine a_iconst (v := 2) (pc := 144) dX0_runStage_144 (by decide) ?_
    refine a_iload_3 (pc := 145) dX0_runStage_145 ?_
    refine a_imul (pc := 146) dX0_runStage_146 ?_
    refine a_i2l (pc := 147) dX0_runStage_147 ?_
    refine a_lsub (pc := 148) dX0_runStage_148 ?_
    refine a_maxJ (pc := 149) dX0_runStage_149 km_X0_83 (by decide) (Nat.le_of_ble_eq_true rfl) ?_
    refine a_putf (ci := 0) (j := 10) rfl win_X0 tyX0_ok nmX0 (by decide) (pc := 152) dX0_runStage_152 kf_X0_44 rfl rfl rfl rfl rfl (Nat.le_of_ble_eq_true rfl) ?_
    exact a_vret (pc := 155) dX0_runStage_155 rfl rfl ⟨B, hB_, rfl, by rw [zStN_pos hm0]; rfl⟩
  · have hi_ : v < m := by have := mt (zI_le (a := m) (b := v) (by omega) (by omega)).mpr c_67; omega
    have J88_ : ∀ x_ : Int64, x_ = zWv (J 0) m v → AV l G sX0_runStage (wFl G ad pa le B0 J) (z0 (fun u : Nat → Nat → Int64 => (∀ a k, ¬ (s * 24 ≤ k ∧ k < s * 24 + m * 6) → u a k = B0 a k) ∧ zRow pa le s m n (J 0, J 1, J 2) u m) (fun u => wFl G ad pa le u (zJ3 J (zStN pa le s m n (J 0, J 1, J 2))))) 88 [some (.ref (ad 0)), some (.int (nI s)), some (.int (nI m)), some (.int (nI n)), some (.long (J 0 / (nI m).toInt64)), none, some (.long (J 0 - J 0 / (nI m).toInt64 * (nI m).toInt64)), none, some (.long (zSalt (J 0) (J 1))), none, some (.long (J 1 - J 0 * zSalt (J 0) (J 1))), none, some (.int (nI v)), none, none, none, none] [.long x_] (wFl G ad pa le B (zJ2 J (zStg pa le s m n (J 0, J 1, J 2) v).1 (zStg pa le s m n (J 0, J 1, J 2) v).2)) := by
      intro x_ hx_; subst hx_
      refine a_lstore_13 (pc := 88) dX0_runStage_88 rfl (by decide) ?_
      have J111_ : ∀ x_ : Int64, x_ = zGv (J 0) (J 1) m v → AV l G sX0_runStage (wFl G ad pa le B0 J) (z0 (fun u : Nat → Nat → Int64 => (∀ a k, ¬ (s * 24 ≤ k ∧ k < s * 24 + m * 6) → u a k = B0 a k) ∧ zRow pa le s m n (J 0, J 1, J 2) u m) (fun u => wFl G ad pa le u (zJ3 J (zStN pa le s m n (J 0, J 1, J 2))))) 111 [some (.ref (ad 0)), some (.int (nI s)), some (.int (nI m)), some (.int (nI n)), some (.long (J 0 / (nI m).toInt64)), none, some (.long (J 0 - J 0 / (nI m).toInt64 * (nI m).toInt64)), none, some (.long (zSalt (J 0) (J 1))), none, some (.long (J 1 - J 0 * zSalt (J 0) (J 1))), none, some (.int (nI v)), some (.long (zWv (J 0) m v)), none, none, none] [.long x_] (wFl G ad pa le B (zJ2 J (zStg pa le s m n (J 0, J 1, J 2) v).1 (zStg pa le s m n (J 0, J 1, J 2) v).2)) := by
        intro x_ hx_; subst hx_
        refine a_lstore_15 (pc := 111) dX0_runStage_111 rfl (by decide) ?_
        refine a_aload_0 (pc := 113) dX0_runStage_113 ?_
        refine a_iload_1 (pc := 114) dX0_runStage_114 ?_
        refine a_bipush (v := 24) (pc := 115) dX0_runStage_115 (by decide) ?_
        refine a_imul (pc := 117) dX0_runStage_117 ?_
        refine a_iload_12 (pc := 118) dX0_runStage_118 ?_
        refine a_bipush (v := 6) (pc := 120) dX0_runStage_120 (by decide) ?_
        refine a_imul (pc := 122) dX0_runStage_122 ?_
        refine a_iadd (pc := 123) dX0_runStage_123 ?_
        rw [show (24 : Int32) = nI 24 from rfl, show (6 : Int32) = nI 6 from rfl, ← zI_mul, ← zI_mul, ← zI_add]
        refine a_iload_3 (pc := 124) dX0_runStage_124 ?_
        refine a_lload_13 (pc := 125) dX0_runStage_125 ?_
        refine a_lload_15 (pc := 127) dX0_runStage_127 ?_
        refine cV_0 (ad := ad) (q0 := 0) (S2 := sX0_runVessel) (c_runVessel l G ad pa le B (zJ2 J (zStg pa le s m n (J 0, J 1, J 2) v).1 (zStg pa le s m n (J 0, J 1, J 2) v).2) (s * 24 + v * 6) n (by omega) (zWv (J 0) m v) (zGv (J 0) (J 1) m v)) kc_X0_runVessel km_X0_79 ki_X0_runVessel kv_X0_runVessel kini_X0 ⟨kn_X0_runVessel, by decide, by decide⟩ (pc := 129) dX0_runStage_129 [0, 1, 2, 3, 4, 5, 6, 7, 8] rfl rfl rfl rfl (Nat.le_of_ble_eq_true rfl) rfl rfl rfl (fun u => wFl G ad pa le u (zJ2 J (zStg pa le s m n (J 0, J 1, J 2) (v + 1)).1 (zStg pa le s m n (J 0, J 1, J 2) (v + 1)).2)) (fun _ => rfl) ?_
        intro u_ hu_
        refine a_iinc_12 (cst := 1) (pc := 132) dX0_runStage_132 rfl (by decide) (by decide) ?_
        refine a_goto (tgt := 64) (pc := 135) dX0_runStage_135 (by decide) ?_
        rw [← nI_succ]
        refine a_forget_13 (a_forget_15 ?_)
        exact ih_ (q_ - 1) (by omega) (v + 1) u_ (by omega) ⟨fun a k hk => (hu_.1 a k (by omega)).trans (hB_.1 a k (by omega)), zRow_s hn hB_.2 hu_.1 hu_.2⟩
      refine a_iload_12 (pc := 90) dX0_runStage_90 ?_
      first | refine a_if_neB (tgt := 106) (pc := 92) dX0_runStage_92 (by decide) (fun c_92 => ?_) (fun c_92 => ?_) | refine a_if_ne (tgt := 106) (pc := 92) dX0_runStage_92 (by decide) (fun c_92 => ?_) (fun c_92 => ?_)
      · have g_ : ¬ v = 0 := mt (zI_eq (a := v) (b := 0) (by omega) (by decide)).mpr c_92
        refine a_lload_13 (pc := 106) dX0_runStage_106 ?_
        refine a_lload_8 (pc := 108) dX0_runStage_108 ?_
        refine a_lmul (pc := 110) dX0_runStage_110 ?_
        first | exact J111_ _ (if_pos g_).symm | exact J111_ _ (if_neg g_).symm
      · have g_ : v = 0 := (zI_eq (a := v) (b := 0) (by omega) (by decide)).mp c_92
        refine a_lload_13 (pc := 95) dX0_runStage_95 ?_
        refine a_lload_8 (pc := 97) dX0_runStage_97 ?_
        refine a_lmul (pc := 99) dX0_runStage_99 ?_
        refine a_lload_10 (pc := 100) dX0_runStage_100 ?_
        refine a_ladd (pc := 102) dX0_runStage_102 ?_
        refine a_goto (tgt := 111) (pc := 103) dX0_runStage_103 (by decide) ?_
        first | exact J111_ _ (if_pos g_).symm | exact J111_ _ (if_neg g_).symm
    refine a_iload_12 (pc := 70) dX0_runStage_70 ?_
    refine a_i2l (pc := 72) dX0_runStage_72 ?_
    refine a_lload_6 (pc := 73) dX0_runStage_73 ?_
    refine a_lif_ge (tgt := 86) (pc := 75) dX0_runStage_75 dX0_runStage_76 (by decide) (fun c_75 => ?_) (fun c_75 => ?_)
    · refine a_lload_4 (pc := 86) dX0_runStage_86 ?_
      first | exact J88_ _ (if_pos c_75).symm | exact J88_ _ (if_neg c_75).symm
    · refine a_lload_4 (pc := 79) dX0_runStage_79 ?_
      refine a_lconst (v := 1) (pc := 81) dX0_runStage_81 (by decide) ?_
      refine a_ladd (pc := 82) dX0_runStage_82 ?_
      refine a_goto (tgt := 88) (pc := 83) dX0_runStage_83 (by decide) ?_
      first | exact J88_ _ (if_pos c_75).symm | exact J88_ _ (if_neg c_75).symm

set_option maxRecDepth 100000 in
set_option maxHeartbeats 4000000 in
/-- runStage -/
theorem c_runStage (l : Launch) (G : zG) (ad : Nat → Nat) (pa le : Nat → Int32) (B0 : Nat → Nat → Int64) (J : Nat → Int64) (s m n : Nat) (hs : s < 3) (hm : m ≤ 4) (hn : n ≤ 6) : zSem l G sX0_runStage [.ref (ad 0), .int (nI s), .int (nI m), .int (nI n)] (wFl G ad pa le B0 J) (z0 (fun u : Nat → Nat → Int64 => (∀ a k, ¬ (s * 24 ≤ k ∧ k < s * 24 + m * 6) → u a k = B0 a k) ∧ zRow pa le s m n (J 0, J 1, J 2) u m) (fun u => wFl G ad pa le u (zJ3 J (zStN pa le s m n (J 0, J 1, J 2))))) := by
  refine zEnterV (L := [some (.ref (ad 0)), some (.int (nI s)), some (.int (nI m)), some (.int (nI n)), none, none, none, none, none, none, none, none, none, none, none, none, none]) (by decide) rfl (Nat.le_of_ble_eq_true rfl) rfl ?_
  refine a_iload_2 (pc := 0) dX0_runStage_0 ?_
  refine a_iconst (v := 1) (pc := 1) dX0_runStage_1 (by decide) ?_
  refine a_icmp_ge (tgt := 6) (pc := 2) dX0_runStage_2 (by decide) (fun c_2 => ?_) (fun c_2 => ?_)
  · have hm0_ : 0 < m := by have := (zI_le (a := 1) (b := m) (by decide) (by omega)).mp c_2; omega
    have hne_ : ¬ (nI m).toInt64 = 0 := fun h => by
      have := congrArg Int64.toInt h
      rw [Int32.toInt_toInt64, nI_toInt (by omega)] at this
      have h2 : (0 : Int64).toInt = 0 := by decide
      omega
    refine a_aload_0 (pc := 6) dX0_runStage_6 ?_
    refine a_getf (ci := 0) (j := 8) rfl win_X0 (by decide) (pc := 7) dX0_runStage_7 kf_X0_37 rfl rfl ?_
    refine a_iload_2 (pc := 10) dX0_runStage_10 ?_
    refine a_i2l (pc := 11) dX0_runStage_11 ?_
    refine a_ldiv (pc := 12) dX0_runStage_12 hne_ ?_
    refine a_lstore_4 (pc := 13) dX0_runStage_13 rfl (by decide) ?_
    refine a_aload_0 (pc := 15) dX0_runStage_15 ?_
    refine a_getf (ci := 0) (j := 8) rfl win_X0 (by decide) (pc := 16) dX0_runStage_16 kf_X0_37 rfl rfl ?_
    refine a_iload_2 (pc := 19) dX0_runStage_19 ?_
    refine a_i2l (pc := 20) dX0_runStage_20 ?_
    refine a_lrem (pc := 21) dX0_runStage_21 hne_ ?_
    refine a_lstore_6 (pc := 22) dX0_runStage_22 rfl (by decide) ?_
    refine a_aload_0 (pc := 24) dX0_runStage_24 ?_
    refine a_getf (ci := 0) (j := 8) rfl win_X0 (by decide) (pc := 25) dX0_runStage_25 kf_X0_37 rfl rfl ?_
    refine a_aload_0 (pc := 28) dX0_runStage_28 ?_
    refine a_getf (ci := 0) (j := 9) rfl win_X0 (by decide) (pc := 29) dX0_runStage_29 kf_X0_41 rfl rfl ?_
    refine cS_P (S2 := sX0_saltOf) (c_saltOf l G _ _) kc_X0_saltOf km_X0_75 ks_X0_saltOf kini_X0 ⟨kn_X0_saltOf, by decide, by decide⟩ (pc := 32) dX0_runStage_32 [] rfl rfl rfl rfl (Nat.le_of_ble_eq_true rfl) ?_
    refine a_lstore_8 (pc := 35) dX0_runStage_35 rfl (by decide) ?_
    refine a_aload_0 (pc := 37) dX0_runStage_37 ?_
    refine a_getf (ci := 0) (j := 9) rfl win_X0 (by decide) (pc := 38) dX0_runStage_38 kf_X0_41 rfl rfl ?_
    refine a_aload_0 (pc := 41) dX0_runStage_41 ?_
    refine a_getf (ci := 0) (j := 8) rfl win_X0 (by decide) (pc := 42) dX0_runStage_42 kf_X0_37 rfl rfl ?_
    refine a_lload_8 (pc := 45) dX0_runStage_45 ?_
    refine a_lmul (pc := 47) dX0_runStage_47 ?_
    refine a_lsub (pc := 48) dX0_runStage_48 ?_
    refine a_lstore_10 (pc := 49) dX0_runStage_49 rfl (by decide) ?_
    refine a_aload_0 (pc := 51) dX0_runStage_51 ?_
    refine a_lconst (v := 0) (pc := 52) dX0_runStage_52 (by decide) ?_
    refine a_putf (ci := 0) (j := 8) rfl win_X0 tyX0_ok nmX0 (by decide) (pc := 53) dX0_runStage_53 kf_X0_37 rfl rfl rfl rfl rfl (Nat.le_of_ble_eq_true rfl) ?_
    refine a_aload_0 (pc := 56) dX0_runStage_56 ?_
    refine a_lconst (v := 0) (pc := 57) dX0_runStage_57 (by decide) ?_
    refine a_putf (ci := 0) (j := 9) rfl win_X0 tyX0_ok nmX0 (by decide) (pc := 58) dX0_runStage_58 kf_X0_41 rfl rfl rfl rfl rfl (Nat.le_of_ble_eq_true rfl) ?_
    refine a_iconst (v := 0) (pc := 61) dX0_runStage_61 (by decide) ?_
    refine a_istore_12 (pc := 62) dX0_runStage_62 rfl (by decide) ?_
    exact lp_runStage l G ad pa le B0 J s m n hs hm hn hm0_ m 0 B0 (by omega) ⟨fun _ _ _ => rfl, fun v hv => absurd hv (Nat.not_lt_zero v)⟩
  · have hm0_ : m = 0 := by have := mt (zI_le (a := 1) (b := m) (by decide) (by omega)).mpr c_2; omega
    subst hm0_
    exact a_vret (pc := 5) dX0_runStage_5 rfl rfl ⟨B0, ⟨fun _ _ _ => rfl, fun v hv => absurd hv (Nat.not_lt_zero v)⟩, rfl, rfl⟩

abbrev wRn (G : zG) (ad : Nat → Nat) (pa le : Nat → Int32) (B : Nat → Nat → Int64) (J : Nat → Int64) (v : Nat → Int32) (n : Int32) : va_W := [(ad 0, .inr (0, [.ref (ad 1), .ref (ad 2), .ref (ad 3), .ref (ad 4), .ref (ad 5), .ref (ad 6), .ref (ad 7), .ref (ad 8), .long (J 0), .long (J 1), .long (J 2), .long (J 3), .long (J 4)])), (ad 1, .inl (zcI G, 72, .inl pa)), (ad 2, .inl (zcI G, 72, .inl le)), (ad 3, .inl (zcJ G, 72, .inr (.inl (B 0)))), (ad 4, .inl (zcJ G, 72, .inr (.inl (B 1)))), (ad 5, .inl (zcJ G, 72, .inr (.inl (B 2)))), (ad 6, .inl (zcJ G, 72, .inr (.inl (B 3)))), (ad 7, .inl (zcJ G, 72, .inr (.inl (B 4)))), (ad 8, .inl (zcJ G, 72, .inr (.inl (B 5)))), (ad 9, .inr (2, [.ref (ad 10), .int n])), (ad 10, .inl (zcI G, 3, .inl v))]
def zRn (pa le : Nat → Int32) (m : Nat → Nat) (n : Nat) (st : zSt3) : Nat → zSt3
  | 0 => st
  | s + 1 => zStN pa le s (m s) n (zRn pa le m n st s)
def zJ5 (J : Nat → Int64) (st : zSt3) (x y : Int64) : Nat → Int64 := fun a => if a = 0 then st.1 else if a = 1 then st.2.1 else if a = 2 then st.2.2 else if a = 3 then x else if a = 4 then y else J a
/-- all rows, behind the first stages -/
def zRows (pa le : Nat → Int32) (m : Nat → Nat) (n : Nat) (st : zSt3) (B : Nat → Nat → Int64) (c : Nat) : Prop := ∀ s, s < c → zRow pa le s (m s) n (zRn pa le m n st s) B (m s)
set_option maxRecDepth 100000 in
set_option maxHeartbeats 4000000 in
theorem lp_run (l : Launch) (G : zG) (ad : Nat → Nat) (pa le : Nat → Int32) (B0 : Nat → Nat → Int64) (J : Nat → Int64) (v : Nat → Int32) (m : Nat → Nat) (n : Nat) (hm : ∀ s, s < 3 → zVin v s = nI (m s) ∧ m s ≤ 4) (hn : n ≤ 6) (fw fs fp : Int64) : ∀ (q i : Nat) (B : Nat → Nat → Int64), i + q = 3 → zRows pa le m n (fw, fw * fs, fp) B i → AV l G sX0_run (wRn G ad pa le B0 J v (nI n)) (z0 (fun u : Nat → Nat → Int64 => zRows pa le m n (fw, fw * fs, fp) u 3) (fun u => wRn G ad pa le u (zJ5 J (zRn pa le m n (fw, fw * fs, fp) 3) (fw - (zRn pa le m n (fw, fw * fs, fp) 3).1) (fw * fs - (zRn pa le m n (fw, fw * fs, fp) 3).2.1)) v (nI n))) 22 [some (.ref (ad 0)), some (.ref (ad 9)), some (.long fw), none, some (.long fs), none, some (.long fp), none, some (.int (nI i))] [] (wRn G ad pa le B (zJ3 J (zRn pa le m n (fw, fw * fs, fp) i)) v (nI n)) := by
  intro q_
  induction q_ using Nat.strongRecOn
  rename_i q_ ih_
  intro i B hq_ hB_
  refine a_iload_8 (pc := 22) dX0_run_22 ?_
  refine a_iconst (v := 3) (pc := 24) dX0_run_24 (by decide) ?_
  refine a_icmp_ge (tgt := 50) (pc := 25) dX0_run_25 (by decide) (fun c_25 => ?_) (fun c_25 => ?_)
  · obtain rfl : i = 3 := by have := (zI_le (a := 3) (b := i) (by decide) (by omega)).mp c_25; omega
    refine a_aload_0 (pc := 50) dX0_run_50 ?_
    refine a_lload_2 (pc := 51) dX0_run_51 ?_
    refine a_aload_0 (pc := 52) dX0_run_52 ?_
    refine a_getf (ci := 0) (j := 8) rfl win_X0 (by decide) (pc := 53) dX0_run_53 kf_X0_37 rfl rfl ?_
    refine a_lsub (pc := 56) dX0_run_56 ?_
    refine a_putf (ci := 0) (j := 11) rfl win_X0 tyX0_ok nmX0 (by decide) (pc := 57) dX0_run_57 kf_X0_47 rfl rfl rfl rfl rfl (Nat.le_of_ble_eq_true rfl) ?_
    refine a_aload_0 (pc := 60) dX0_run_60 ?_
    refine a_lload_2 (pc := 61) dX0_run_61 ?_
    refine a_lload_4 (pc := 62) dX0_run_62 ?_
    refine a_lmul (pc := 64) dX0_run_64 ?_
    refine a_aload_0 (pc := 65) dX0_run_65 ?_
    refine a_getf (ci := 0) (j := 9) rfl win_X0 (by decide) (pc := 66) dX0_run_66 kf_X0_41 rfl rfl ?_
    refine a_lsub (pc := 69) dX0_run_69 ?_
    refine a_putf (ci := 0) (j := 12) rfl win_X0 tyX0_ok nmX0 (by decide) (pc := 70) dX0_run_70 kf_X0_50 rfl rfl rfl rfl rfl (Nat.le_of_ble_eq_true rfl) ?_
    exact a_vret (pc := 73) dX0_run_73 rfl rfl ⟨B, hB_, rfl, rfl⟩
  · have hi_ : i < 3 := by have := mt (zI_le (a := 3) (b := i) (by decide) (by omega)).mpr c_25; omega
    refine a_aload_0 (pc := 28) dX0_run_28 ?_
    refine a_iload_8 (pc := 29) dX0_run_29 ?_
    refine a_aload_1 (pc := 31) dX0_run_31 ?_
    refine a_iload_8 (pc := 32) dX0_run_32 ?_
    refine cV_P (ad := ad) (q0 := 9) (S2 := sX2_vesselsIn) (c_vesselsIn l G (zpk ad [9, 10]) v (nI n) i hi_) kc_X2_vesselsIn km_X0_62 ki_X2_vesselsIn kv_X2_vesselsIn kini_X2 ⟨kn_X2_vesselsIn, by decide, by decide⟩ (pc := 34) dX0_run_34 [9, 10] rfl rfl rfl rfl (Nat.le_of_ble_eq_true rfl) rfl rfl rfl ?_
    rw [(hm i hi_).1]
    refine a_aload_1 (pc := 37) dX0_run_37 ?_
    refine a_getfN (ci := 2) (j := 1) rfl win_X2 (by decide) (pc := 38) dX0_run_38 kf_X0_67 rfl rfl ?_
    refine cV_0 (ad := ad) (q0 := 0) (S2 := sX0_runStage) (c_runStage l G ad pa le B (zJ3 J (zRn pa le m n (fw, fw * fs, fp) i)) i (m i) n hi_ (hm i hi_).2 hn) kc_X0_runStage km_X0_71 ki_X0_runStage kv_X0_runStage kini_X0 ⟨kn_X0_runStage, by decide, by decide⟩ (pc := 41) dX0_run_41 [0, 1, 2, 3, 4, 5, 6, 7, 8] rfl rfl rfl rfl (Nat.le_of_ble_eq_true rfl) rfl rfl rfl (fun u => wRn G ad pa le u (zJ3 J (zRn pa le m n (fw, fw * fs, fp) (i + 1))) v (nI n)) (fun _ => rfl) ?_
    intro u_ hu_
    refine a_iinc_8 (cst := 1) (pc := 44) dX0_run_44 rfl (by decide) (by decide) ?_
    refine a_goto (tgt := 22) (pc := 47) dX0_run_47 (by decide) ?_
    rw [← nI_succ]
    exact ih_ (q_ - 1) (by omega) (i + 1) u_ (by omega) (fun s_ hs_ => by
      by_cases h : s_ = i
      · subst h; exact hu_.2
      · exact zRow_k hn (hm s_ (by omega)).2 (show s_ < i by omega) (hB_ s_ (by omega)) (fun a k hk => hu_.1 a k (by have := (hm i hi_).2; omega)))

set_option maxRecDepth 100000 in
set_option maxHeartbeats 4000000 in
/-- run -/
theorem c_run (l : Launch) (G : zG) (ad : Nat → Nat) (pa le : Nat → Int32) (B0 : Nat → Nat → Int64) (J : Nat → Int64) (v : Nat → Int32) (m : Nat → Nat) (n : Nat) (hm : ∀ s, s < 3 → zVin v s = nI (m s) ∧ m s ≤ 4) (hn : n ≤ 6) (fw fs fp : Int64) : zSem l G sX0_run [.ref (ad 0), .ref (ad 9), .long fw, .long fs, .long fp] (wRn G ad pa le B0 J v (nI n)) (z0 (fun u : Nat → Nat → Int64 => zRows pa le m n (fw, fw * fs, fp) u 3) (fun u => wRn G ad pa le u (zJ5 J (zRn pa le m n (fw, fw * fs, fp) 3) (fw - (zRn pa le m n (fw, fw * fs, fp) 3).1) (fw * fs - (zRn pa le m n (fw, fw * fs, fp) 3).2.1)) v (nI n))) := by
  refine zEnterV (L := [some (.ref (ad 0)), some (.ref (ad 9)), some (.long fw), none, some (.long fs), none, some (.long fp), none, none]) (by decide) rfl (Nat.le_of_ble_eq_true rfl) rfl ?_
  refine a_aload_0 (pc := 0) dX0_run_0 ?_
  refine a_lload_2 (pc := 1) dX0_run_1 ?_
  refine a_putf (ci := 0) (j := 8) rfl win_X0 tyX0_ok nmX0 (by decide) (pc := 2) dX0_run_2 kf_X0_37 rfl rfl rfl rfl rfl (Nat.le_of_ble_eq_true rfl) ?_
  refine a_aload_0 (pc := 5) dX0_run_5 ?_
  refine a_lload_2 (pc := 6) dX0_run_6 ?_
  refine a_lload_4 (pc := 7) dX0_run_7 ?_
  refine a_lmul (pc := 9) dX0_run_9 ?_
  refine a_putf (ci := 0) (j := 9) rfl win_X0 tyX0_ok nmX0 (by decide) (pc := 10) dX0_run_10 kf_X0_41 rfl rfl rfl rfl rfl (Nat.le_of_ble_eq_true rfl) ?_
  refine a_aload_0 (pc := 13) dX0_run_13 ?_
  refine a_lload_6 (pc := 14) dX0_run_14 ?_
  refine a_putf (ci := 0) (j := 10) rfl win_X0 tyX0_ok nmX0 (by decide) (pc := 16) dX0_run_16 kf_X0_44 rfl rfl rfl rfl rfl (Nat.le_of_ble_eq_true rfl) ?_
  refine a_iconst (v := 0) (pc := 19) dX0_run_19 (by decide) ?_
  refine a_istore_8 (pc := 20) dX0_run_20 rfl (by decide) ?_
  exact lp_run l G ad pa le B0 J v m n hm hn fw fs fp 3 0 B0 (by omega) (fun s_ hs_ => absurd hs_ (Nat.not_lt_zero s_))

abbrev zHd (v : Nat → Int32) (n : Int32) (k : Nat) : Prop := nI (k % 6) < n ∧ nI (k % 24 / 6) < zVin v (k / 24)
def zFf (v : Nat → Int32) (n : Int32) (W T : Nat → Int64) (least most : Int32) : Nat → Nat → Int64
  | 0, _ => -9000000000000000005
  | q + 1, i => if zHd v n i then (if least.toInt64 ≤ W i - T i then (if T i ≤ most.toInt64 then zFf v n W T least most q (i + 1) else 10 * (nI (zNum i)).toInt64 + 2) else 10 * (nI (zNum i)).toInt64 + 1) else zFf v n W T least most q (i + 1)
set_option maxRecDepth 100000 in
set_option maxHeartbeats 4000000 in
theorem lp_ff (l : Launch) (G : zG) (ad : Nat → Nat) (pa le : Nat → Int32) (B : Nat → Nat → Int64) (J : Nat → Int64) (v : Nat → Int32) (n : Int32) (least most : Int32) (r : Int64) : ∀ (q i : Nat), i + q = 72 → zFf v n (B 0) (B 3) least most q i = r → AV l G sX0_firstFailure (wRn G ad pa le B J v n) (zP (.long r) (wRn G ad pa le B J v n)) 3 [some (.ref (ad 0)), some (.ref (ad 9)), some (.int least), some (.int most), some (.int (nI i))] [] (wRn G ad pa le B J v n) := by
  intro q_
  induction q_ using Nat.strongRecOn
  rename_i q_ ih_
  intro i hq_ hz_
  refine a_iload_4 (pc := 3) dX0_firstFailure_3 ?_
  refine a_bipush (v := 72) (pc := 5) dX0_firstFailure_5 (by decide) ?_
  refine a_icmp_ge (tgt := 87) (pc := 7) dX0_firstFailure_7 (by decide) (fun c_7 => ?_) (fun c_7 => ?_)
  · obtain rfl : q_ = 0 := by have := (zI_le (a := 72) (b := i) (by decide) (by omega)).mp c_7; omega
    refine a_ldc2 (pc := 87) dX0_firstFailure_87 kl_X0_106 ?_
    exact a_lret (pc := 90) dX0_firstFailure_90 rfl rfl ⟨congrArg (fun z => some (Value.long z)) hz_, rfl⟩
  · have hi_ : i < 72 := by have := mt (zI_le (a := 72) (b := i) (by decide) (by omega)).mpr c_7; omega
    obtain ⟨q2_, rfl⟩ : ∃ z, q_ = z + 1 := ⟨q_ - 1, by omega⟩
    unfold zFf at hz_
    refine a_aload_1 (pc := 10) dX0_firstFailure_10 ?_
    refine a_iload_4 (pc := 11) dX0_firstFailure_11 ?_
    refine cV_P (ad := ad) (q0 := 9) (S2 := sX2_holdsSkin) (c_holdsSkin l G (zpk ad [9, 10]) v n i hi_) kc_X2_holdsSkin km_X0_97 ki_X2_holdsSkin kv_X2_holdsSkin kini_X2 ⟨kn_X2_holdsSkin, by decide, by decide⟩ (pc := 13) dX0_firstFailure_13 [9, 10] rfl rfl rfl rfl (Nat.le_of_ble_eq_true rfl) rfl rfl rfl ?_
    first | refine a_if_eqB (tgt := 81) (pc := 16) dX0_firstFailure_16 (by decide) (fun c_16 => ?_) (fun c_16 => ?_) | refine a_if_eq (tgt := 81) (pc := 16) dX0_firstFailure_16 (by decide) (fun c_16 => ?_) (fun c_16 => ?_)
    · rw [if_neg c_16] at hz_
      refine a_iinc_4 (cst := 1) (pc := 81) dX0_firstFailure_81 rfl (by decide) (by decide) ?_
      refine a_goto (tgt := 3) (pc := 84) dX0_firstFailure_84 (by decide) ?_
      rw [← nI_succ]
      exact ih_ q2_ (by omega) (i + 1) (by omega) hz_
    · rw [if_pos c_16] at hz_
      refine a_aload_0 (pc := 19) dX0_firstFailure_19 ?_
      refine a_getf (ci := 0) (j := 2) rfl win_X0 (by decide) (pc := 20) dX0_firstFailure_20 kf_X0_18 rfl rfl ?_
      refine a_iload_4 (pc := 23) dX0_firstFailure_23 ?_
      refine a_laldN (pc := 25) dX0_firstFailure_25 rfl (by omega) (by decide) ?_
      refine a_aload_0 (pc := 26) dX0_firstFailure_26 ?_
      refine a_getf (ci := 0) (j := 5) rfl win_X0 (by decide) (pc := 27) dX0_firstFailure_27 kf_X0_28 rfl rfl ?_
      refine a_iload_4 (pc := 30) dX0_firstFailure_30 ?_
      refine a_laldN (pc := 32) dX0_firstFailure_32 rfl (by omega) (by decide) ?_
      refine a_lsub (pc := 33) dX0_firstFailure_33 ?_
      refine a_iload_2 (pc := 34) dX0_firstFailure_34 ?_
      refine a_i2l (pc := 35) dX0_firstFailure_35 ?_
      refine a_lif_ge (tgt := 53) (pc := 36) dX0_firstFailure_36 dX0_firstFailure_37 (by decide) (fun c_36 => ?_) (fun c_36 => ?_)
      · rw [if_pos c_36] at hz_
        refine a_aload_0 (pc := 53) dX0_firstFailure_53 ?_
        refine a_getf (ci := 0) (j := 5) rfl win_X0 (by decide) (pc := 54) dX0_firstFailure_54 kf_X0_28 rfl rfl ?_
        refine a_iload_4 (pc := 57) dX0_firstFailure_57 ?_
        refine a_laldN (pc := 59) dX0_firstFailure_59 rfl (by omega) (by decide) ?_
        refine a_iload_3 (pc := 60) dX0_firstFailure_60 ?_
        refine a_i2l (pc := 61) dX0_firstFailure_61 ?_
        refine a_lif_le (tgt := 81) (pc := 62) dX0_firstFailure_62 dX0_firstFailure_63 (by decide) (fun c_62 => ?_) (fun c_62 => ?_)
        · rw [if_pos c_62] at hz_
          refine a_iinc_4 (cst := 1) (pc := 81) dX0_firstFailure_81 rfl (by decide) (by decide) ?_
          refine a_goto (tgt := 3) (pc := 84) dX0_firstFailure_84 (by decide) ?_
          rw [← nI_succ]
          exact ih_ q2_ (by omega) (i + 1) (by omega) hz_
        · rw [if_neg c_62] at hz_
          refine a_ldc2 (pc := 66) dX0_firstFailure_66 kl_X0_101 ?_
          refine a_iload_4 (pc := 69) dX0_firstFailure_69 ?_
          refine cSN_P (S2 := sX5_numberOf) (c_numberOf l G i hi_) kc_X5_numberOf km_X0_103 ks_X5_numberOf kini_X5 ⟨kn_X5_numberOf, by decide, by decide⟩ (pc := 71) dX0_firstFailure_71 [] rfl rfl rfl rfl (Nat.le_of_ble_eq_true rfl) ?_
          refine a_i2l (pc := 74) dX0_firstFailure_74 ?_
          refine a_lmul (pc := 75) dX0_firstFailure_75 ?_
          refine a_ldc2 (pc := 76) dX0_firstFailure_76 kl_X0_95 ?_
          refine a_ladd (pc := 79) dX0_firstFailure_79 ?_
          exact a_lret (pc := 80) dX0_firstFailure_80 rfl rfl ⟨congrArg (fun z => some (Value.long z)) hz_, rfl⟩
      · rw [if_neg c_36] at hz_
        refine a_ldc2 (pc := 40) dX0_firstFailure_40 kl_X0_101 ?_
        refine a_iload_4 (pc := 43) dX0_firstFailure_43 ?_
        refine cSN_P (S2 := sX5_numberOf) (c_numberOf l G i hi_) kc_X5_numberOf km_X0_103 ks_X5_numberOf kini_X5 ⟨kn_X5_numberOf, by decide, by decide⟩ (pc := 45) dX0_firstFailure_45 [] rfl rfl rfl rfl (Nat.le_of_ble_eq_true rfl) ?_
        refine a_i2l (pc := 48) dX0_firstFailure_48 ?_
        refine a_lmul (pc := 49) dX0_firstFailure_49 ?_
        refine a_lconst (v := 1) (pc := 50) dX0_firstFailure_50 (by decide) ?_
        refine a_ladd (pc := 51) dX0_firstFailure_51 ?_
        exact a_lret (pc := 52) dX0_firstFailure_52 rfl rfl ⟨congrArg (fun z => some (Value.long z)) hz_, rfl⟩

set_option maxRecDepth 100000 in
set_option maxHeartbeats 4000000 in
/-- firstFailure -/
theorem c_firstFailure (l : Launch) (G : zG) (ad : Nat → Nat) (pa le : Nat → Int32) (B : Nat → Nat → Int64) (J : Nat → Int64) (v : Nat → Int32) (n : Int32) (least most : Int32) : zSem l G sX0_firstFailure [.ref (ad 0), .ref (ad 9), .int least, .int most] (wRn G ad pa le B J v n) (zP (.long (zFf v n (B 0) (B 3) least most 72 0)) (wRn G ad pa le B J v n)) := by
  refine zEnterV (L := [some (.ref (ad 0)), some (.ref (ad 9)), some (.int least), some (.int most), none]) (by decide) rfl (Nat.le_of_ble_eq_true rfl) rfl ?_
  refine a_iconst (v := 0) (pc := 0) dX0_firstFailure_0 (by decide) ?_
  refine a_istore_4 (pc := 1) dX0_firstFailure_1 rfl (by decide) ?_
  exact lp_ff l G ad pa le B J v n least most _ 72 0 (by omega) rfl
end
section
/-! Hours. -/
abbrev wHr (G : zG) (ad : Nat → Nat) (pr nd nw lt : Nat → Int32) : va_W := [(ad 0, .inr (1, [.ref (ad 1), .ref (ad 2), .ref (ad 3), .ref (ad 4)])), (ad 1, .inl (zcI G, 12, .inl pr)), (ad 2, .inl (zcI G, 12, .inl nd)), (ad 3, .inl (zcI G, 201, .inl nw)), (ad 4, .inl (zcI G, 201, .inl lt))]
set_option maxRecDepth 100000 in
set_option maxHeartbeats 4000000 in
/-- mostOf -/
theorem c_mostOf (l : Launch) (G : zG) (x : Int32) : zSem l G sX1_mostOf [.int x] ([]) (zP (.int (if x = 0 then 99 else 999)) []) := by
  refine zEnterV (L := [some (.int x)]) (by decide) rfl (Nat.le_of_ble_eq_true rfl) rfl ?_
  refine a_iload_0 (pc := 0) dX1_mostOf_0 ?_
  first | refine a_if_neB (tgt := 9) (pc := 1) dX1_mostOf_1 (by decide) (fun c_1 => ?_) (fun c_1 => ?_) | refine a_if_ne (tgt := 9) (pc := 1) dX1_mostOf_1 (by decide) (fun c_1 => ?_) (fun c_1 => ?_)
  · refine a_sipush (v := 999) (pc := 9) dX1_mostOf_9 (by decide) ?_
    exact a_iret (pc := 12) dX1_mostOf_12 rfl rfl (by first | exact ⟨congrArg (fun z => some (Value.int z)) (if_pos c_1).symm, rfl⟩ | exact ⟨congrArg (fun z => some (Value.int z)) (if_neg c_1).symm, rfl⟩)
  · refine a_bipush (v := 99) (pc := 4) dX1_mostOf_4 (by decide) ?_
    refine a_goto (tgt := 12) (pc := 6) dX1_mostOf_6 (by decide) ?_
    exact a_iret (pc := 12) dX1_mostOf_12 rfl rfl (by first | exact ⟨congrArg (fun z => some (Value.int z)) (if_pos c_1).symm, rfl⟩ | exact ⟨congrArg (fun z => some (Value.int z)) (if_neg c_1).symm, rfl⟩)

set_option maxRecDepth 100000 in
set_option maxHeartbeats 4000000 in
/-- rowOf 0 -/
theorem c_rowOf0 (l : Launch) (G : zG) (ad : Nat → Nat) (pr nd nw lt : Nat → Int32) (x : Int32) (hx : x = 0) : zSem l G sX1_rowOf [.ref (ad 0), .int x] (wHr G ad pr nd nw lt) (zP (.ref (ad 1)) (wHr G ad pr nd nw lt)) := by
  refine zEnterV (L := [some (.ref (ad 0)), some (.int x)]) (by decide) rfl (Nat.le_of_ble_eq_true rfl) rfl ?_
  refine a_iload_1 (pc := 0) dX1_rowOf_0 ?_
  first | refine a_if_neB (tgt := 11) (pc := 1) dX1_rowOf_1 (by decide) (fun c_1 => ?_) (fun c_1 => ?_) | refine a_if_ne (tgt := 11) (pc := 1) dX1_rowOf_1 (by decide) (fun c_1 => ?_) (fun c_1 => ?_)
  · exact absurd hx c_1
  · refine a_aload_0 (pc := 4) dX1_rowOf_4 ?_
    refine a_getf (ci := 1) (j := 0) rfl win_X1 (by decide) (pc := 5) dX1_rowOf_5 kf_X1_9 rfl rfl ?_
    refine a_goto (tgt := 15) (pc := 8) dX1_rowOf_8 (by decide) ?_
    exact a_aret (pc := 15) dX1_rowOf_15 rfl rfl ⟨rfl, rfl⟩

set_option maxRecDepth 100000 in
set_option maxHeartbeats 4000000 in
/-- rowOf 1 -/
theorem c_rowOf1 (l : Launch) (G : zG) (ad : Nat → Nat) (pr nd nw lt : Nat → Int32) (x : Int32) (hx : ¬ x = 0) : zSem l G sX1_rowOf [.ref (ad 0), .int x] (wHr G ad pr nd nw lt) (zP (.ref (ad 2)) (wHr G ad pr nd nw lt)) := by
  refine zEnterV (L := [some (.ref (ad 0)), some (.int x)]) (by decide) rfl (Nat.le_of_ble_eq_true rfl) rfl ?_
  refine a_iload_1 (pc := 0) dX1_rowOf_0 ?_
  first | refine a_if_neB (tgt := 11) (pc := 1) dX1_rowOf_1 (by decide) (fun c_1 => ?_) (fun c_1 => ?_) | refine a_if_ne (tgt := 11) (pc := 1) dX1_rowOf_1 (by decide) (fun c_1 => ?_) (fun c_1 => ?_)
  · refine a_aload_0 (pc := 11) dX1_rowOf_11 ?_
    refine a_getf (ci := 1) (j := 1) rfl win_X1 (by decide) (pc := 12) dX1_rowOf_12 kf_X1_13 rfl rfl ?_
    exact a_aret (pc := 15) dX1_rowOf_15 rfl rfl ⟨rfl, rfl⟩
  · exact absurd c_1 hx

set_option maxRecDepth 100000 in
set_option maxHeartbeats 4000000 in
/-- isPlan -/
theorem c_isPlan (l : Launch) (G : zG) (x : Int32) : zSem l G sX1_isPlan [.int x] ([]) (zP (.int (zB (¬ 1073741824 ≤ x))) []) := by
  refine zEnterV (L := [some (.int x)]) (by decide) rfl (Nat.le_of_ble_eq_true rfl) rfl ?_
  refine a_iload_0 (pc := 0) dX1_isPlan_0 ?_
  refine a_ldc (pc := 1) dX1_isPlan_1 kl_X1_22 ?_
  refine a_icmp_ge (tgt := 10) (pc := 3) dX1_isPlan_3 (by decide) (fun c_3 => ?_) (fun c_3 => ?_)
  · refine a_iconst (v := 0) (pc := 10) dX1_isPlan_10 (by decide) ?_
    exact a_zret (pc := 11) dX1_isPlan_11 rfl (by decide) rfl (by first | exact zPB1 c_3 | exact zPB0 (fun h => h c_3))
  · refine a_iconst (v := 1) (pc := 6) dX1_isPlan_6 (by decide) ?_
    refine a_goto (tgt := 11) (pc := 7) dX1_isPlan_7 (by decide) ?_
    exact a_zret (pc := 11) dX1_isPlan_11 rfl (by decide) rfl (by first | exact zPB1 c_3 | exact zPB0 (fun h => h c_3))

set_option maxRecDepth 100000 in
set_option maxHeartbeats 4000000 in
/-- costOf -/
theorem c_costOf (l : Launch) (G : zG) (x : Int32) : zSem l G sX1_costOf [.int x] ([]) (zP (.int (x >>> (12 &&& 31))) []) := by
  refine zEnterV (L := [some (.int x)]) (by decide) rfl (Nat.le_of_ble_eq_true rfl) rfl ?_
  refine a_iload_0 (pc := 0) dX1_costOf_0 ?_
  refine a_bipush (v := 12) (pc := 1) dX1_costOf_1 (by decide) ?_
  refine a_ishr (pc := 3) dX1_costOf_3 ?_
  exact a_iret (pc := 4) dX1_costOf_4 rfl rfl ⟨rfl, rfl⟩

abbrev zRunsAt (x h : Int32) : Prop := x >>> ((11 - h) &&& 31) &&& 1 = 1
set_option maxRecDepth 100000 in
set_option maxHeartbeats 4000000 in
/-- runsAt -/
theorem c_runsAt (l : Launch) (G : zG) (x h : Int32) : zSem l G sX1_runsAt [.int x, .int h] ([]) (zP (.int (zB (zRunsAt x h))) []) := by
  refine zEnterV (L := [some (.int x), some (.int h)]) (by decide) rfl (Nat.le_of_ble_eq_true rfl) rfl ?_
  refine a_iload_0 (pc := 0) dX1_runsAt_0 ?_
  refine a_bipush (v := 11) (pc := 1) dX1_runsAt_1 (by decide) ?_
  refine a_iload_1 (pc := 3) dX1_runsAt_3 ?_
  refine a_isub (pc := 4) dX1_runsAt_4 ?_
  refine a_ishr (pc := 5) dX1_runsAt_5 ?_
  refine a_iconst (v := 1) (pc := 6) dX1_runsAt_6 (by decide) ?_
  refine a_iand (pc := 7) dX1_runsAt_7 ?_
  refine a_iconst (v := 1) (pc := 8) dX1_runsAt_8 (by decide) ?_
  refine a_icmp_ne (tgt := 16) (pc := 9) dX1_runsAt_9 (by decide) (fun c_9 => ?_) (fun c_9 => ?_)
  · refine a_iconst (v := 0) (pc := 16) dX1_runsAt_16 (by decide) ?_
    exact a_zret (pc := 17) dX1_runsAt_17 rfl (by decide) rfl (by first | exact zPB1 c_9 | exact zPB0 c_9)
  · refine a_iconst (v := 1) (pc := 12) dX1_runsAt_12 (by decide) ?_
    refine a_goto (tgt := 17) (pc := 13) dX1_runsAt_13 (by decide) ?_
    exact a_zret (pc := 17) dX1_runsAt_17 rfl (by decide) rfl (by first | exact zPB1 c_9 | exact zPB0 c_9)

def zBitsOf (x : Int32) : Nat → Int32
  | 0 => 0
  | h + 1 => zBitsOf x h ||| (if zRunsAt x (nI h) then 1 <<< (nI h &&& 31) else 0)
set_option maxRecDepth 100000 in
set_option maxHeartbeats 4000000 in
theorem lp_bitsOf (l : Launch) (G : zG) (x : Int32) : ∀ (q i : Nat), i + q = 12 → AV l G sX1_bitsOf ([]) (zP (.int (zBitsOf x 12)) []) 4 [some (.int x), some (.int (zBitsOf x i)), some (.int (nI i))] [] ([]) := by
  intro q_
  induction q_ using Nat.strongRecOn
  rename_i q_ ih_
  intro i hq_
  refine a_iload_2 (pc := 4) dX1_bitsOf_4 ?_
  refine a_bipush (v := 12) (pc := 5) dX1_bitsOf_5 (by decide) ?_
  refine a_icmp_ge (tgt := 34) (pc := 7) dX1_bitsOf_7 (by decide) (fun c_7 => ?_) (fun c_7 => ?_)
  · obtain rfl : i = 12 := by have := (zI_le (a := 12) (b := i) (by decide) (by omega)).mp c_7; omega
    refine a_iload_1 (pc := 34) dX1_bitsOf_34 ?_
    exact a_iret (pc := 35) dX1_bitsOf_35 rfl rfl ⟨rfl, rfl⟩
  · have hi_ : i < 12 := by have := mt (zI_le (a := 12) (b := i) (by decide) (by omega)).mpr c_7; omega
    refine a_iload_1 (pc := 10) dX1_bitsOf_10 ?_
    refine a_iload_0 (pc := 11) dX1_bitsOf_11 ?_
    refine a_iload_2 (pc := 12) dX1_bitsOf_12 ?_
    refine cS_P (S2 := sX1_runsAt) (c_runsAt l G x (nI i)) kc_X1_runsAt km_X1_23 ks_X1_runsAt kini_X1 ⟨kn_X1_runsAt, by decide, by decide⟩ (pc := 13) dX1_bitsOf_13 [] rfl rfl rfl rfl (Nat.le_of_ble_eq_true rfl) ?_
    first | refine a_if_eqB (tgt := 25) (pc := 16) dX1_bitsOf_16 (by decide) (fun c_16 => ?_) (fun c_16 => ?_) | refine a_if_eq (tgt := 25) (pc := 16) dX1_bitsOf_16 (by decide) (fun c_16 => ?_) (fun c_16 => ?_)
    · refine a_iconst (v := 0) (pc := 25) dX1_bitsOf_25 (by decide) ?_
      refine a_ior (pc := 26) dX1_bitsOf_26 ?_
      refine a_istore_1 (pc := 27) dX1_bitsOf_27 rfl (by decide) ?_
      refine a_iinc_2 (cst := 1) (pc := 28) dX1_bitsOf_28 rfl (by decide) (by decide) ?_
      refine a_goto (tgt := 4) (pc := 31) dX1_bitsOf_31 (by decide) ?_
      rw [← nI_succ]
      refine a_to (ih_ (q_ - 1) (by omega) (i + 1) (by omega)) rfl ?_ rfl rfl
      show [some (Value.int x), some (Value.int (zBitsOf x i ||| (if zRunsAt x (nI i) then 1 <<< (nI i &&& 31) else 0))), some (Value.int (nI (i + 1)))] = _
      first | rw [if_pos c_16] | rw [if_neg c_16]
    · refine a_iconst (v := 1) (pc := 19) dX1_bitsOf_19 (by decide) ?_
      refine a_iload_2 (pc := 20) dX1_bitsOf_20 ?_
      refine a_ishl (pc := 21) dX1_bitsOf_21 ?_
      refine a_goto (tgt := 26) (pc := 22) dX1_bitsOf_22 (by decide) ?_
      refine a_ior (pc := 26) dX1_bitsOf_26 ?_
      refine a_istore_1 (pc := 27) dX1_bitsOf_27 rfl (by decide) ?_
      refine a_iinc_2 (cst := 1) (pc := 28) dX1_bitsOf_28 rfl (by decide) (by decide) ?_
      refine a_goto (tgt := 4) (pc := 31) dX1_bitsOf_31 (by decide) ?_
      rw [← nI_succ]
      refine a_to (ih_ (q_ - 1) (by omega) (i + 1) (by omega)) rfl ?_ rfl rfl
      show [some (Value.int x), some (Value.int (zBitsOf x i ||| (if zRunsAt x (nI i) then 1 <<< (nI i &&& 31) else 0))), some (Value.int (nI (i + 1)))] = _
      first | rw [if_pos c_16] | rw [if_neg c_16]

set_option maxRecDepth 100000 in
set_option maxHeartbeats 4000000 in
/-- bitsOf -/
theorem c_bitsOf (l : Launch) (G : zG) (x : Int32) : zSem l G sX1_bitsOf [.int x] ([]) (zP (.int (zBitsOf x 12)) []) := by
  refine zEnterV (L := [some (.int x), none, none]) (by decide) rfl (Nat.le_of_ble_eq_true rfl) rfl ?_
  refine a_iconst (v := 0) (pc := 0) dX1_bitsOf_0 (by decide) ?_
  refine a_istore_1 (pc := 1) dX1_bitsOf_1 rfl (by decide) ?_
  refine a_iconst (v := 0) (pc := 2) dX1_bitsOf_2 (by decide) ?_
  refine a_istore_2 (pc := 3) dX1_bitsOf_3 rfl (by decide) ?_
  exact lp_bitsOf l G x 12 0 rfl

def zBh (nd : Int32) (x t : Int32) : Int32 := if x - nd < t then x - nd else t
def zLat (lt : Nat → Int32) (x : Int32) : Int32 := if x < 0 then 1073741824 else if x ≤ 200 then lt x.toNatClampNeg else 1073741824
set_option maxRecDepth 100000 in
set_option maxHeartbeats 4000000 in
/-- behind -/
theorem c_behind (l : Launch) (G : zG) (ad : Nat → Nat) (pr nd nw lt : Nat → Int32) (h : Nat) (hh : h < 12) (x t : Int32) : zSem l G sX1_behind [.ref (ad 0), .int (nI h), .int x, .int t] (wHr G ad pr nd nw lt) (zP (.int (zBh (nd h) x t)) (wHr G ad pr nd nw lt)) := by
  refine zEnterV (L := [some (.ref (ad 0)), some (.int (nI h)), some (.int x), some (.int t)]) (by decide) rfl (Nat.le_of_ble_eq_true rfl) rfl ?_
  refine a_iload_3 (pc := 0) dX1_behind_0 ?_
  refine a_iload_2 (pc := 1) dX1_behind_1 ?_
  refine a_aload_0 (pc := 2) dX1_behind_2 ?_
  refine a_getf (ci := 1) (j := 1) rfl win_X1 (by decide) (pc := 3) dX1_behind_3 kf_X1_13 rfl rfl ?_
  refine a_iload_1 (pc := 6) dX1_behind_6 ?_
  refine a_ialdN (pc := 7) dX1_behind_7 rfl (by omega) (by decide) ?_
  refine a_isub (pc := 8) dX1_behind_8 ?_
  refine a_minI (pc := 9) dX1_behind_9 km_X1_27 (by decide) (Nat.le_of_ble_eq_true rfl) ?_
  exact a_iret (pc := 12) dX1_behind_12 rfl rfl ⟨rfl, rfl⟩

set_option maxRecDepth 100000 in
set_option maxHeartbeats 4000000 in
/-- laterAt -/
theorem c_laterAt (l : Launch) (G : zG) (ad : Nat → Nat) (pr nd nw lt : Nat → Int32) (x : Int32) : zSem l G sX1_laterAt [.ref (ad 0), .int x] (wHr G ad pr nd nw lt) (zP (.int (zLat lt x)) (wHr G ad pr nd nw lt)) := by
  refine zEnterV (L := [some (.ref (ad 0)), some (.int x)]) (by decide) rfl (Nat.le_of_ble_eq_true rfl) rfl ?_
  refine a_iload_1 (pc := 0) dX1_laterAt_0 ?_
  refine a_if_lt (tgt := 11) (pc := 1) dX1_laterAt_1 (by decide) (fun c_1 => ?_) (fun c_1 => ?_)
  · refine a_ldc (pc := 11) dX1_laterAt_11 kl_X1_22 ?_
    refine a_goto (tgt := 22) (pc := 13) dX1_laterAt_13 (by decide) ?_
    exact a_iret (pc := 22) dX1_laterAt_22 rfl rfl (by
        refine ⟨congrArg (fun z => some (Value.int z)) ?_, rfl⟩
        unfold zLat
        first | rw [if_pos c_1] | rw [if_neg c_1, if_pos c_8] | rw [if_neg c_1, if_neg c_8])
  · refine a_iload_1 (pc := 4) dX1_laterAt_4 ?_
    refine a_sipush (v := 200) (pc := 5) dX1_laterAt_5 (by decide) ?_
    refine a_icmp_le (tgt := 16) (pc := 8) dX1_laterAt_8 (by decide) (fun c_8 => ?_) (fun c_8 => ?_)
    · refine a_aload_0 (pc := 16) dX1_laterAt_16 ?_
      refine a_getf (ci := 1) (j := 3) rfl win_X1 (by decide) (pc := 17) dX1_laterAt_17 kf_X1_19 rfl rfl ?_
      refine a_iload_1 (pc := 20) dX1_laterAt_20 ?_
      refine a_iald (pc := 21) dX1_laterAt_21 rfl (zin (by
          have := mt Int32.lt_iff_toInt_lt.mpr c_1
          have k0_ : (0:Int32).toInt = 0 := by decide
          omega) (by
          have := Int32.le_iff_toInt_le.mp c_8
          have k0_ : (200:Int32).toInt = 200 := by decide
          omega)) ?_
      exact a_iret (pc := 22) dX1_laterAt_22 rfl rfl (by
          refine ⟨congrArg (fun z => some (Value.int z)) ?_, rfl⟩
          unfold zLat
          first | rw [if_pos c_1] | rw [if_neg c_1, if_pos c_8] | rw [if_neg c_1, if_neg c_8])
    · refine a_ldc (pc := 11) dX1_laterAt_11 kl_X1_22 ?_
      refine a_goto (tgt := 22) (pc := 13) dX1_laterAt_13 (by decide) ?_
      exact a_iret (pc := 22) dX1_laterAt_22 rfl rfl (by
          refine ⟨congrArg (fun z => some (Value.int z)) ?_, rfl⟩
          unfold zLat
          first | rw [if_pos c_1] | rw [if_neg c_1, if_pos c_8] | rw [if_neg c_1, if_neg c_8])

/-- the least number of a plan for the last r hours: its cost above twelve bits; 2 ^ 30: none -/
def zIdl (N : Nat → Nat) (t nd x : Nat) : Nat := if x < nd then 1073741824 else N (min t (x - nd))
def zN (pr nd : Nat → Nat) (t o : Nat) : Nat → Nat → Nat
  | 0, _ => 0
  | r + 1, c => min 1073741824 (min (zIdl (zN pr nd t o r) t (nd (11 - r)) c) (zIdl (zN pr nd t o r) t (nd (11 - r)) (c + o) + (pr (11 - r) * 4096 + 2 ^ r)))
theorem zN_le (pr nd : Nat → Nat) (t o : Nat) : ∀ r c, zN pr nd t o r c ≤ 1073741824
  | 0, _ => by simp [zN]
  | r + 1, c => Nat.min_le_left _ _
theorem zIdl_le {N : Nat → Nat} (h : ∀ c, N c ≤ 1073741824) (t nd x : Nat) : zIdl N t nd x ≤ 1073741824 := by
  unfold zIdl; split
  · exact Nat.le_refl _
  · exact h _
theorem zmin_nI {a b : Nat} (ha : a < 2 ^ 31) (hb : b < 2 ^ 31) : (if nI b < nI a then nI b else nI a) = nI (min a b) := by
  by_cases h : b < a
  · rw [if_pos ((zI_lt hb ha).mpr h), Nat.min_eq_right (by omega)]
  · rw [if_neg (mt (zI_lt hb ha).mp h), Nat.min_eq_left (by omega)]
theorem zLat_bh {lt : Nat → Int32} {N : Nat → Nat} {t nd x : Nat} (ht : t ≤ 200) (hnd : nd ≤ 999) (hx : x ≤ 400) (hl : ∀ c, c ≤ t → lt c = nI (N c)) : zLat lt (zBh (nI nd) (nI x) (nI t)) = nI (zIdl N t nd x) := by
  have e1 : (nI x - nI nd).toInt = (x : Int) - nd := by
    rw [i_sub (by rw [nI_toInt (by omega), nI_toInt (by omega)]; omega) (by rw [nI_toInt (by omega), nI_toInt (by omega)]; omega), nI_toInt (by omega), nI_toInt (by omega)]
  have k0 : (0:Int32).toInt = 0 := by decide
  have k2 : (200:Int32).toInt = 200 := by decide
  unfold zIdl
  by_cases h : x < nd
  · rw [if_pos h]
    have : zBh (nI nd) (nI x) (nI t) = nI x - nI nd := if_pos (Int32.lt_iff_toInt_lt.mpr (by rw [e1, nI_toInt (by omega)]; omega))
    rw [this]
    exact if_pos (Int32.lt_iff_toInt_lt.mpr (by rw [e1]; omega))
  · rw [if_neg h]
    have e2 : zBh (nI nd) (nI x) (nI t) = nI (min t (x - nd)) := by
      have e3 : nI x - nI nd = nI (x - nd) := i_nI (by rw [e1]; omega)
      unfold zBh
      rw [e3]
      exact zmin_nI (by omega) (by omega)
    rw [e2]
    unfold zLat
    rw [if_neg (nI_pos (by omega)), if_pos (show nI (min t (x - nd)) ≤ (200 : Int32) from nI_le (b := 200) (by omega) (by decide)), nI_clamp (by omega)]
    exact hl _ (by omega)
theorem zshl : ∀ p, p < 100 → nI p <<< ((12 : Int32) &&& 31) = nI (p * 4096) := by decide +kernel
theorem zshl1 : ∀ r, r < 12 → (1 : Int32) <<< ((11 - nI (11 - r)) &&& 31) = nI (2 ^ r) := by decide +kernel
set_option maxRecDepth 100000 in
set_option maxHeartbeats 4000000 in
theorem lp_bestI (l : Launch) (G : zG) (ad : Nat → Nat) (pr nd : Nat → Int32) (nw0 lt0 : Nat → Int32) (price need : Nat → Nat) (hpr : ∀ h, h < 12 → pr h = nI (price h) ∧ price h ≤ 99) (hnd : ∀ h, h < 12 → nd h = nI (need h) ∧ need h ≤ 999) (t o : Nat) (ht : t ≤ 200) (ho : o ≤ 200) (c : Nat) (hc : c ≤ t) (r : Nat) (hr : r < 12) (lt : Nat → Int32) (hlt : ∀ x, x ≤ t → lt x = nI (zN price need t o r x)) (K_ : ∀ nw : Nat → Int32, (∀ x, x ≤ t → nw x = nI (zN price need t o (r + 1) x)) → AV l G sX1_best (wHr G ad pr nd nw0 lt0) (zV (fun _ : (Nat → Int32) × (Nat → Int32) => True) (fun _ => .int (nI (zN price need t o 12 c))) (fun u => wHr G ad pr nd u.1 u.2)) 114 [some (.ref (ad 0)), some (.int (nI c)), some (.int (nI t)), some (.int (nI o)), some (.int (nI (11 - r))), some (.int (nI (price (11 - r) * 4096 + 2 ^ r))), none, none, none] [] (wHr G ad pr nd nw lt)) : ∀ (q i : Nat) (nw : Nat → Int32), i + q = t + 1 → (∀ x, x < i → nw x = nI (zN price need t o (r + 1) x)) → AV l G sX1_best (wHr G ad pr nd nw0 lt0) (zV (fun _ : (Nat → Int32) × (Nat → Int32) => True) (fun _ => .int (nI (zN price need t o 12 c))) (fun u => wHr G ad pr nd u.1 u.2)) 40 [some (.ref (ad 0)), some (.int (nI c)), some (.int (nI t)), some (.int (nI o)), some (.int (nI (11 - r))), some (.int (nI (price (11 - r) * 4096 + 2 ^ r))), some (.int (nI i)), none, none] [] (wHr G ad pr nd nw lt) := by
  intro q_
  induction q_ using Nat.strongRecOn
  rename_i q_ ih_
  intro i nw hq_ hw_
  refine a_iload_6 (pc := 40) dX1_best_40 ?_
  refine a_iload_2 (pc := 42) dX1_best_42 ?_
  refine a_icmp_gt (tgt := 114) (pc := 43) dX1_best_43 (by decide) (fun c_43 => ?_) (fun c_43 => ?_)
  · have hi_ : t < i := (zI_lt (by omega) (by omega)).mp c_43
    exact a_forget_6 (K_ nw (fun x hx => hw_ x (by omega)))
  · have hi_ : i ≤ t := by have := mt (zI_lt (a := t) (b := i) (by omega) (by omega)).mpr c_43; omega
    refine a_iload_6 (pc := 46) dX1_best_46 ?_
    refine a_sipush (v := 200) (pc := 48) dX1_best_48 (by decide) ?_
    refine a_icmp_gt (tgt := 114) (pc := 51) dX1_best_51 (by decide) (fun c_51 => ?_) (fun c_51 => ?_)
    · exact absurd ((zI_lt (a := 200) (b := i) (by decide) (by omega)).mp c_51) (by omega)
    · refine a_aload_0 (pc := 54) dX1_best_54 ?_
      refine a_aload_0 (pc := 55) dX1_best_55 ?_
      refine a_iload_4 (pc := 56) dX1_best_56 ?_
      refine a_iload_6 (pc := 58) dX1_best_58 ?_
      refine a_iload_2 (pc := 60) dX1_best_60 ?_
      refine cV_P (ad := ad) (q0 := 0) (S2 := sX1_behind) (c_behind l G ad pr nd nw lt (11 - r) (by omega) (nI i) (nI t)) kc_X1_behind km_X1_39 ki_X1_behind kv_X1_behind kini_X1 ⟨kn_X1_behind, by decide, by decide⟩ (pc := 61) dX1_best_61 [0, 1, 2, 3, 4] rfl rfl rfl rfl (Nat.le_of_ble_eq_true rfl) rfl rfl rfl ?_
      refine cV_P (ad := ad) (q0 := 0) (S2 := sX1_laterAt) (c_laterAt l G ad pr nd nw lt _) kc_X1_laterAt km_X1_43 ki_X1_laterAt kv_X1_laterAt kini_X1 ⟨kn_X1_laterAt, by decide, by decide⟩ (pc := 64) dX1_best_64 [0, 1, 2, 3, 4] rfl rfl rfl rfl (Nat.le_of_ble_eq_true rfl) rfl rfl rfl ?_
      rw [(hnd (11 - r) (by omega)).1, zLat_bh ht (hnd (11 - r) (by omega)).2 (by omega) hlt]
      refine a_istore_7 (pc := 67) dX1_best_67 rfl (by decide) ?_
      refine a_aload_0 (pc := 69) dX1_best_69 ?_
      refine a_aload_0 (pc := 70) dX1_best_70 ?_
      refine a_iload_4 (pc := 71) dX1_best_71 ?_
      refine a_iload_6 (pc := 73) dX1_best_73 ?_
      refine a_iload_3 (pc := 75) dX1_best_75 ?_
      refine a_iadd (pc := 76) dX1_best_76 ?_
      rw [← zI_add]
      refine a_iload_2 (pc := 77) dX1_best_77 ?_
      refine cV_P (ad := ad) (q0 := 0) (S2 := sX1_behind) (c_behind l G ad pr nd nw lt (11 - r) (by omega) _ (nI t)) kc_X1_behind km_X1_39 ki_X1_behind kv_X1_behind kini_X1 ⟨kn_X1_behind, by decide, by decide⟩ (pc := 78) dX1_best_78 [0, 1, 2, 3, 4] rfl rfl rfl rfl (Nat.le_of_ble_eq_true rfl) rfl rfl rfl ?_
      refine cV_P (ad := ad) (q0 := 0) (S2 := sX1_laterAt) (c_laterAt l G ad pr nd nw lt _) kc_X1_laterAt km_X1_43 ki_X1_laterAt kv_X1_laterAt kini_X1 ⟨kn_X1_laterAt, by decide, by decide⟩ (pc := 81) dX1_best_81 [0, 1, 2, 3, 4] rfl rfl rfl rfl (Nat.le_of_ble_eq_true rfl) rfl rfl rfl ?_
      rw [(hnd (11 - r) (by omega)).1, zLat_bh ht (hnd (11 - r) (by omega)).2 (by omega) hlt]
      refine a_iload_5 (pc := 84) dX1_best_84 ?_
      refine a_iadd (pc := 86) dX1_best_86 ?_
      rw [← zI_add]
      refine a_istore_8 (pc := 87) dX1_best_87 rfl (by decide) ?_
      refine a_aload_0 (pc := 89) dX1_best_89 ?_
      refine a_getf (ci := 1) (j := 2) rfl win_X1 (by decide) (pc := 90) dX1_best_90 kf_X1_16 rfl rfl ?_
      refine a_iload_6 (pc := 93) dX1_best_93 ?_
      refine a_ldc (pc := 95) dX1_best_95 kl_X1_22 ?_
      refine a_iload_7 (pc := 97) dX1_best_97 ?_
      refine a_iload_8 (pc := 99) dX1_best_99 ?_
      refine a_minI (pc := 101) dX1_best_101 km_X1_27 (by decide) (Nat.le_of_ble_eq_true rfl) ?_
      have hA_ := zIdl_le (zN_le price need t o r) t (need (11 - r)) i
      have hB_ := zIdl_le (zN_le price need t o r) t (need (11 - r)) (i + o)
      have hP_ := (hpr (11 - r) (by omega)).2
      have h2_ : 2 ^ r ≤ 2 ^ 12 := Nat.pow_le_pow_right (by decide) (by omega)
      rw [zmin_nI (by omega) (by omega)]
      refine a_minI (pc := 104) dX1_best_104 km_X1_27 (by decide) (Nat.le_of_ble_eq_true rfl) ?_
      rw [show (1073741824 : Int32) = nI 1073741824 from rfl, zmin_nI (by decide) (by omega)]
      refine a_iastN (pc := 107) dX1_best_107 rfl (by omega) (by decide) ?_
      refine a_iinc_6 (cst := 1) (pc := 108) dX1_best_108 rfl (by decide) (by decide) ?_
      refine a_goto (tgt := 40) (pc := 111) dX1_best_111 (by decide) ?_
      rw [← nI_succ]
      refine a_forget_7 (a_forget_8 ?_)
      exact ih_ (q_ - 1) (by omega) (i + 1) (upd nw i (nI (zN price need t o (r + 1) i))) (by omega) (fun x hx => by by_cases h : x = i; (subst h; exact upd_same _ _ _); rw [upd_ne _ _ h]; exact hw_ x (by omega))

set_option maxRecDepth 100000 in
set_option maxHeartbeats 4000000 in
theorem lp_bestO (l : Launch) (G : zG) (ad : Nat → Nat) (pr nd : Nat → Int32) (nw0 lt0 : Nat → Int32) (price need : Nat → Nat) (hpr : ∀ h, h < 12 → pr h = nI (price h) ∧ price h ≤ 99) (hnd : ∀ h, h < 12 → nd h = nI (need h) ∧ need h ≤ 999) (t o : Nat) (ht : t ≤ 200) (ho : o ≤ 200) (c : Nat) (hc : c ≤ t) : ∀ (q r : Nat) (nw lt : Nat → Int32), r + q = 12 → (∀ x, x ≤ t → lt x = nI (zN price need t o r x)) → AV l G sX1_best (wHr G ad pr nd nw0 lt0) (zV (fun _ : (Nat → Int32) × (Nat → Int32) => True) (fun _ => .int (nI (zN price need t o 12 c))) (fun u => wHr G ad pr nd u.1 u.2)) 12 [some (.ref (ad 0)), some (.int (nI c)), some (.int (nI t)), some (.int (nI o)), some (.int (nI (12 - r) - 1)), none, none, none, none] [] (wHr G ad pr nd nw lt) := by
  intro q_
  induction q_ using Nat.strongRecOn
  rename_i q_ ih_
  intro r nw lt hq_ hl_
  refine a_iload_4 (pc := 12) dX1_best_12 ?_
  refine a_if_lt (tgt := 136) (pc := 14) dX1_best_14 (by decide) (fun c_14 => ?_) (fun c_14 => ?_)
  · obtain rfl : r = 12 := by
      apply Decidable.byContradiction; intro hne_
      have e_ : nI (12 - r) - 1 = nI (11 - r) := by rw [show 12 - r = (11 - r) + 1 by omega]; exact nI_pred _
      rw [e_] at c_14
      exact nI_pos (by omega) c_14
    refine a_aload_0 (pc := 136) dX1_best_136 ?_
    refine a_iload_1 (pc := 137) dX1_best_137 ?_
    refine cV_P (ad := ad) (q0 := 0) (S2 := sX1_laterAt) (c_laterAt l G ad pr nd nw lt _) kc_X1_laterAt km_X1_43 ki_X1_laterAt kv_X1_laterAt kini_X1 ⟨kn_X1_laterAt, by decide, by decide⟩ (pc := 138) dX1_best_138 [0, 1, 2, 3, 4] rfl rfl rfl rfl (Nat.le_of_ble_eq_true rfl) rfl rfl rfl ?_
    exact a_iret (pc := 141) dX1_best_141 rfl rfl ⟨(nw, lt), trivial, congrArg (fun z => some (Value.int z)) (by
        unfold zLat
        rw [if_neg (nI_pos (by omega)), if_pos (show nI c ≤ (200 : Int32) from nI_le (b := 200) (by omega) (by decide)), nI_clamp (by omega)]
        exact hl_ c hc), rfl⟩
  · have hr_ : r < 12 := by
      apply Decidable.byContradiction; intro hne_
      obtain rfl : r = 12 := by omega
      exact c_14 (by decide)
    have e_ : nI (12 - r) - 1 = nI (11 - r) := by rw [show 12 - r = (11 - r) + 1 by omega]; exact nI_pred _
    rw [e_]
    refine a_aload_0 (pc := 17) dX1_best_17 ?_
    refine a_getf (ci := 1) (j := 0) rfl win_X1 (by decide) (pc := 18) dX1_best_18 kf_X1_9 rfl rfl ?_
    refine a_iload_4 (pc := 21) dX1_best_21 ?_
    refine a_ialdN (pc := 23) dX1_best_23 rfl (by omega) (by decide) ?_
    refine a_bipush (v := 12) (pc := 24) dX1_best_24 (by decide) ?_
    refine a_ishl (pc := 26) dX1_best_26 ?_
    refine a_iconst (v := 1) (pc := 27) dX1_best_27 (by decide) ?_
    refine a_bipush (v := 11) (pc := 28) dX1_best_28 (by decide) ?_
    refine a_iload_4 (pc := 30) dX1_best_30 ?_
    refine a_isub (pc := 32) dX1_best_32 ?_
    refine a_ishl (pc := 33) dX1_best_33 ?_
    rw [(hpr (11 - r) (by omega)).1, zshl _ (by have := (hpr (11 - r) (by omega)).2; omega), zshl1 r hr_]
    refine a_iadd (pc := 34) dX1_best_34 ?_
    rw [← zI_add]
    refine a_istore_5 (pc := 35) dX1_best_35 rfl (by decide) ?_
    refine a_iconst (v := 0) (pc := 37) dX1_best_37 (by decide) ?_
    refine a_istore_6 (pc := 38) dX1_best_38 rfl (by decide) ?_
    refine lp_bestI l G ad pr nd nw0 lt0 price need hpr hnd t o ht ho c hc r hr_ lt hl_ (fun nw hw_ => ?_) (t + 1) 0 nw (by omega) (fun x hx => absurd hx (Nat.not_lt_zero x))
    refine a_aload_0 (pc := 114) dX1_best_114 ?_
    refine a_getf (ci := 1) (j := 2) rfl win_X1 (by decide) (pc := 115) dX1_best_115 kf_X1_16 rfl rfl ?_
    refine a_iconst (v := 0) (pc := 118) dX1_best_118 (by decide) ?_
    refine a_aload_0 (pc := 119) dX1_best_119 ?_
    refine a_getf (ci := 1) (j := 3) rfl win_X1 (by decide) (pc := 120) dX1_best_120 kf_X1_19 rfl rfl ?_
    refine a_iconst (v := 0) (pc := 123) dX1_best_123 (by decide) ?_
    refine a_sipush (v := 201) (pc := 124) dX1_best_124 (by decide) ?_
    refine a_copy (t0 := 0) (pc := 127) dX1_best_127 km_X1_47 knat_copy kstat_copy kini_J10 rfl rfl rfl rfl rfl (by decide) (by decide) (by decide) (by decide) (by decide) (fun _ _ => rfl) (by decide) (Nat.le_of_ble_eq_true (by decide)) ?_
    refine a_iinc_4 (cst := -1) (pc := 130) dX1_best_130 rfl (by decide) (by decide) ?_
    refine a_goto (tgt := 12) (pc := 133) dX1_best_133 (by decide) ?_
    refine a_forget_5 ?_
    refine a_to (ih_ (q_ - 1) (by omega) (r + 1) nw (va_cpy nw lt 0 0 201) (by omega) (fun x hx => by
      show (if 0 ≤ x ∧ x < 0 + 201 then nw (0 + (x - 0)) else lt x) = _
      rw [if_pos (by omega), show 0 + (x - 0) = x by omega]
      exact hw_ x hx)) rfl ?_ rfl rfl
    rw [show 12 - (r + 1) = 11 - r by omega, Int32.sub_eq_add_neg]

set_option maxRecDepth 100000 in
set_option maxHeartbeats 4000000 in
/-- best -/
theorem c_best (l : Launch) (G : zG) (ad : Nat → Nat) (pr nd : Nat → Int32) (nw0 lt0 : Nat → Int32) (price need : Nat → Nat) (hpr : ∀ h, h < 12 → pr h = nI (price h) ∧ price h ≤ 99) (hnd : ∀ h, h < 12 → nd h = nI (need h) ∧ need h ≤ 999) (t o : Nat) (ht : t ≤ 200) (ho : o ≤ 200) (c : Nat) (hc : c ≤ t) : zSem l G sX1_best [.ref (ad 0), .int (nI c), .int (nI t), .int (nI o)] (wHr G ad pr nd nw0 lt0) (zV (fun _ : (Nat → Int32) × (Nat → Int32) => True) (fun _ => .int (nI (zN price need t o 12 c))) (fun u => wHr G ad pr nd u.1 u.2)) := by
  refine zEnterV (L := [some (.ref (ad 0)), some (.int (nI c)), some (.int (nI t)), some (.int (nI o)), none, none, none, none, none]) (by decide) rfl (Nat.le_of_ble_eq_true rfl) rfl ?_
  refine a_aload_0 (pc := 0) dX1_best_0 ?_
  refine a_getf (ci := 1) (j := 3) rfl win_X1 (by decide) (pc := 1) dX1_best_1 kf_X1_19 rfl rfl ?_
  refine a_iconst (v := 0) (pc := 4) dX1_best_4 (by decide) ?_
  refine cS_0 (S2 := sJ7_fill_53178) (c_fillI l G (zpk ad [4]) 201 (by decide) lt0 0) kc_J7_fill_53178 km_X1_33 ks_J7_fill_53178 kini_J7 ⟨kn_J7_fill_53178, by decide, by decide⟩ (pc := 5) dX1_best_5 [4] rfl rfl rfl rfl (Nat.le_of_ble_eq_true rfl) (fun _ => wHr G ad pr nd nw0 (zfill lt0 201 0)) (fun _ => rfl) ?_
  intro _u _
  refine a_bipush (v := 11) (pc := 8) dX1_best_8 (by decide) ?_
  refine a_istore_4 (pc := 10) dX1_best_10 rfl (by decide) ?_
  exact a_to (lp_bestO l G ad pr nd nw0 lt0 price need hpr hnd t o ht ho c hc 12 0 nw0 (zfill lt0 201 0) (by omega) (fun x hx => if_pos (by omega))) rfl rfl rfl rfl
end
section
/-! The plant: its state, its world, the calls that need no flow. -/
abbrev zσ : Type := (Nat → Nat) × (Nat → Nat → Nat) × (Nat → Int32) × (Nat → Nat → Int32)
abbrev zX : Type := Int32 × (Nat → Int32) × (Nat → Int32) × (Nat → Int32) × (Nat → Nat → Int64) × (Nat → Int64) × (Nat → Int32) × (Nat → Int32)
/- scalars σ.1: 0 LONG, 1 WATER, 2 SALT, 3 PRESSURE, 4 DAYS; rows σ.2.1: 0 vessels, 1 KIND, 2 FOUL, 3 rules, 4 prices, 5 needs; σ.2.2.1: sizes of the sheets; σ.2.2.2: what they hold -/
abbrev wP (G : zG) (ad : Nat → Nat) (σ : zσ) (x : zX) : va_W := [
  (ad 0, .inr (5, [.ref (ad 1), .ref (ad 2), .ref (ad 4), .ref (ad 6), .ref (ad 9), .ref (ad 18), .ref (ad 23), .int (nI (σ.1 1)), .int (nI (σ.1 2)), .int (nI (σ.1 3)), .int (nI (σ.1 4))])),
  (ad 1, .inl (zcI G, 7, .inl (fun k => nI (σ.2.1 3 k)))),
  (ad 2, .inr (2, [.ref (ad 3), .int (nI (σ.1 0))])),
  (ad 3, .inl (zcI G, 3, .inl (fun k => nI (σ.2.1 0 k)))),
  (ad 4, .inr (2, [.ref (ad 5), .int x.1])),
  (ad 5, .inl (zcI G, 3, .inl x.2.1)),
  (ad 6, .inr (4, [.ref (ad 7), .ref (ad 8)])),
  (ad 7, .inl (zcI G, 72, .inl (fun k => nI (σ.2.1 1 k)))),
  (ad 8, .inl (zcI G, 72, .inl (fun k => nI (σ.2.1 2 k)))),
  (ad 9, .inr (0, [.ref (ad 10), .ref (ad 11), .ref (ad 12), .ref (ad 13), .ref (ad 14), .ref (ad 15), .ref (ad 16), .ref (ad 17), .long (x.2.2.2.2.2.1 0), .long (x.2.2.2.2.2.1 1), .long (x.2.2.2.2.2.1 2), .long (x.2.2.2.2.2.1 3), .long (x.2.2.2.2.2.1 4)])),
  (ad 10, .inl (zcI G, 72, .inl x.2.2.1)),
  (ad 11, .inl (zcI G, 72, .inl x.2.2.2.1)),
  (ad 12, .inl (zcJ G, 72, .inr (.inl (x.2.2.2.2.1 0)))),
  (ad 13, .inl (zcJ G, 72, .inr (.inl (x.2.2.2.2.1 1)))),
  (ad 14, .inl (zcJ G, 72, .inr (.inl (x.2.2.2.2.1 2)))),
  (ad 15, .inl (zcJ G, 72, .inr (.inl (x.2.2.2.2.1 3)))),
  (ad 16, .inl (zcJ G, 72, .inr (.inl (x.2.2.2.2.1 4)))),
  (ad 17, .inl (zcJ G, 72, .inr (.inl (x.2.2.2.2.1 5)))),
  (ad 18, .inr (1, [.ref (ad 19), .ref (ad 20), .ref (ad 21), .ref (ad 22)])),
  (ad 19, .inl (zcI G, 12, .inl (fun k => nI (σ.2.1 4 k)))),
  (ad 20, .inl (zcI G, 12, .inl (fun k => nI (σ.2.1 5 k)))),
  (ad 21, .inl (zcI G, 201, .inl x.2.2.2.2.2.2.1)),
  (ad 22, .inl (zcI G, 201, .inl x.2.2.2.2.2.2.2)),
  (ad 23, .inl (zcO G, 2, .inr (.inr (.inr (.inr (fun k => some (ad (24 + 2 * k)))))))),
  (ad 24, .inr (3, [.ref (ad 25), .int (σ.2.2.1 0)])),
  (ad 25, .inl (zcS G, 24, .inl (σ.2.2.2 0))),
  (ad 26, .inr (3, [.ref (ad 27), .int (σ.2.2.1 1)])),
  (ad 27, .inl (zcS G, 24, .inl (σ.2.2.2 1)))]
/-- the bounds that every state keeps -/
def zRuleHi : Nat → Nat := fun k => ([9999, 9999, 100, 1000, 30, 200, 200] : List Nat).getD k 0
def zRuleLo : Nat → Nat := fun k => ([0, 0, 0, 1, 0, 0, 0] : List Nat).getD k 0
def zOk (σ : zσ) : Prop := (1 ≤ σ.1 0 ∧ σ.1 0 ≤ 6) ∧ σ.1 1 ≤ 20000 ∧ σ.1 2 ≤ 60000 ∧ σ.1 3 ≤ 900 ∧ σ.1 4 ≤ 1000 ∧ (∀ k, k < 3 → σ.2.1 0 k ≤ 4) ∧ 1 ≤ σ.2.1 0 0 ∧ (∀ k, k < 72 → σ.2.1 1 k < 4) ∧ (∀ k, k < 72 → σ.2.1 2 k ≤ 90) ∧ (∀ k, k < 7 → zRuleLo k ≤ σ.2.1 3 k ∧ σ.2.1 3 k ≤ zRuleHi k) ∧ (∀ k, k < 12 → σ.2.1 4 k ≤ 99) ∧ (∀ k, k < 12 → σ.2.1 5 k ≤ 999) ∧ (∀ s, s < 2 → σ.2.2.1 s = -1 ∨ ∃ n, n ≤ 24 ∧ σ.2.2.1 s = nI n) ∧ ∀ s, s < 2 → ∀ k, k < 24 → fits .short (.int (σ.2.2.2 s k)) = true
abbrev zBAD : Int64 := -9000000000000000001
abbrev zNO : Int64 := -9000000000000000002
abbrev zNONE : Int64 := -9000000000000000005
abbrev zNOTH : Int64 := -9000000000000000011
abbrev zINDEX : Int64 := -9000000000000000013
abbrev zSIZE : Int64 := -9000000000000000014
def zPost (G : zG) (ad : Nat → Nat) (o : Int64 × zσ) : Option Value → va_W → Prop := zV (fun _ : zX => True) (fun _ => .long o.1) (fun u => wP G ad o.2 u)
theorem zret' {G : zG} {ad : Nat → Nat} {r : Int64} {σ' : zσ} {o : Int64 × zσ} (u : zX) {w : va_W} (e : o = (r, σ')) (hw : w = wP G ad σ' u) : zPost G ad o (some (.long r)) w := ⟨u, trivial, by rw [e], by rw [e]; exact hw⟩
def zuN (f : Nat → Nat) (k x : Nat) : Nat → Nat := fun j => if j = k then x else f j
def zu2 (F : Nat → Nat → Nat) (a : Nat) (f : Nat → Nat) : Nat → Nat → Nat := fun b => if b = a then f else F b
def zuZ (f : Nat → Int32) (k : Nat) (x : Int32) : Nat → Int32 := fun j => if j = k then x else f j
def zuC (F : Nat → Nat → Int32) (a : Nat) (f : Nat → Int32) : Nat → Nat → Int32 := fun b => if b = a then f else F b
theorem updN (f : Nat → Nat) (k x : Nat) : upd (fun j => nI (f j)) k (nI x) = fun j => nI (zuN f k x j) := by
  funext j; unfold upd zuN; split <;> rfl
abbrev zOR (x lo hi : Int32) : Prop := x < lo ∨ hi < x
theorem zrange {x hi : Int32} {n : Nat} (hn : n < 2 ^ 31) (hh : hi = nI n) (h : ¬ zOR x 0 hi) : ∃ k, k ≤ n ∧ x = nI k := by
  subst hh
  have h1 : ¬ x.toInt < 0 := fun q => h (Or.inl (Int32.lt_iff_toInt_lt.mpr (by simpa using q)))
  have h2 : ¬ (n : Int) < x.toInt := fun q => h (Or.inr (Int32.lt_iff_toInt_lt.mpr (by rw [nI_toInt hn]; exact q)))
  exact ⟨x.toInt.toNat, by omega, i_toNat (by omega)⟩
theorem zrange1 {x hi : Int32} {n : Nat} (hn : n < 2 ^ 31) (hh : hi = nI n) (h : ¬ zOR x 1 hi) : ∃ k, (1 ≤ k ∧ k ≤ n) ∧ x = nI k := by
  subst hh
  have h1 : ¬ x.toInt < 1 := fun q => h (Or.inl (Int32.lt_iff_toInt_lt.mpr (by simpa using q)))
  have h2 : ¬ (n : Int) < x.toInt := fun q => h (Or.inr (Int32.lt_iff_toInt_lt.mpr (by rw [nI_toInt hn]; exact q)))
  exact ⟨x.toInt.toNat, by omega, i_toNat (by omega)⟩
theorem zrange2 {x : Int32} (h : ¬ zOR x 0 1) : x = 0 ∨ x = 1 := by
  obtain ⟨k, hk, rfl⟩ := zrange (n := 1) (by decide) rfl h
  rcases (show k = 0 ∨ k = 1 by omega) with rfl | rfl
  · exact Or.inl rfl
  · exact Or.inr rfl
theorem zsw3 (x : Int32) : x = 0 ∨ x = 1 ∨ x = 2 ∨ x = 3 ∨ (x.toInt < 0 ∨ 3 < x.toInt) := by
  by_cases h : x.toInt < 0 ∨ 3 < x.toInt
  · exact Or.inr (Or.inr (Or.inr (Or.inr h)))
  · have h0 : 0 ≤ x.toInt := by omega
    have e := i_toNat h0
    have h3 : x.toInt.toNat < 4 := by omega
    generalize x.toInt.toNat = k at e h3
    subst e
    rcases (show k = 0 ∨ k = 1 ∨ k = 2 ∨ k = 3 by omega) with rfl | rfl | rfl | rfl
    · exact Or.inl rfl
    · exact Or.inr (Or.inl rfl)
    · exact Or.inr (Or.inr (Or.inl rfl))
    · exact Or.inr (Or.inr (Or.inr (Or.inl rfl)))
theorem zin4 {F : Nat → Nat → Nat} {k : Nat} (h : F 1 k < 4) : vp_in (nI (F 1 k)) 4 := zinN h (by decide)
abbrev zKd (σ : zσ) : Nat → Int32 := fun j => nI (σ.2.1 1 j)
abbrev zFo (σ : zσ) : Nat → Int32 := fun j => nI (σ.2.1 2 j)
def o_stage (σ : zσ) (x n : Int32) : Int64 × zσ := if zOR x 0 2 ∨ zOR n (if x = 0 then 1 else 0) 4 then (zBAD, σ) else ((nI (σ.2.1 0 x.toNatClampNeg)).toInt64, (σ.1, zu2 σ.2.1 0 (zuN (σ.2.1 0) x.toNatClampNeg n.toNatClampNeg), σ.2.2))
def o_length (σ : zσ) (n : Int32) : Int64 × zσ := if zOR n 1 6 then (zBAD, σ) else ((nI (σ.1 0)).toInt64, (zuN σ.1 0 n.toNatClampNeg, σ.2))
def o_fresh (σ : zσ) (x c : Int32) : Int64 × zσ := if zPl x = none ∨ zOR c 0 3 then (zBAD, σ) else ((nI (σ.2.1 2 ((zPl x).getD 0))).toInt64, (σ.1, zu2 (zu2 σ.2.1 1 (zuN (σ.2.1 1) ((zPl x).getD 0) c.toNatClampNeg)) 2 (zuN (σ.2.1 2) ((zPl x).getD 0) 0), σ.2.2))
def o_told (σ : zσ) (x c : Int32) : Int64 × zσ := (if zPl x = none then zBAD else if c = 0 then (nI (σ.2.1 1 ((zPl x).getD 0))).toInt64 else if c = 1 then (nI (σ.2.1 2 ((zPl x).getD 0))).toInt64 else if c = 2 then (zPass (zKd σ) (zFo σ) ((zPl x).getD 0)).toInt64 else if c = 3 then (zLeak (zKd σ) ((zPl x).getD 0)).toInt64 else zBAD, σ)
def o_isOf (σ : zσ) (x c : Int32) : Int64 × zσ := (if zPl x = none ∨ zOR c 0 3 then zBAD else if c = 0 ∨ c = zKd σ ((zPl x).getD 0) ∨ c = zAbove (zKd σ ((zPl x).getD 0)) then 1 else 0, σ)
def o_feed (σ : zσ) (w s p : Int32) : Int64 × zσ := if zOR w 0 20000 ∨ zOR s 0 60000 ∨ zOR p 0 900 then (zBAD, σ) else (0, (zuN (zuN (zuN σ.1 1 w.toNatClampNeg) 2 s.toNatClampNeg) 3 p.toNatClampNeg, σ.2))
def zExN (f : Nat → Nat) (a b : Nat) : Nat → Nat := zuN (zuN f a (f b)) b (f a)
def o_change (σ : zσ) (x y : Int32) : Int64 × zσ := if zPl x = none ∨ zPl y = none ∨ zPl x = zPl y then (zBAD, σ) else (0, (σ.1, zu2 (zu2 σ.2.1 1 (zExN (σ.2.1 1) ((zPl x).getD 0) ((zPl y).getD 0))) 2 (zExN (σ.2.1 2) ((zPl x).getD 0) ((zPl y).getD 0)), σ.2.2))
theorem zExch_N (f : Nat → Nat) (a b : Nat) : zExch (fun j => nI (f j)) a b = fun j => nI (zExN f a b j) := by unfold zExch zExN; rw [updN, updN]
def o_rule (σ : zσ) (x v : Int32) : Int64 × zσ := if zOR x 0 6 ∨ zOR v (nI (zRuleLo x.toNatClampNeg)) (nI (zRuleHi x.toNatClampNeg)) then (zBAD, σ) else ((nI (σ.2.1 3 x.toNatClampNeg)).toInt64, (σ.1, zu2 σ.2.1 3 (zuN (σ.2.1 3) x.toNatClampNeg v.toNatClampNeg), σ.2.2))
def o_hour (σ : zσ) (h w v : Int32) : Int64 × zσ := if zOR h 0 11 ∨ zOR w 0 1 ∨ zOR v 0 (if w = 0 then 99 else 999) then (zBAD, σ) else ((nI (σ.2.1 (if w = 0 then 4 else 5) h.toNatClampNeg)).toInt64, (σ.1, zu2 σ.2.1 (if w = 0 then 4 else 5) (zuN (σ.2.1 (if w = 0 then 4 else 5)) h.toNatClampNeg v.toNatClampNeg), σ.2.2))
end
section
/-! The plant: calls without flows. -/
set_option maxRecDepth 100000 in
set_option maxHeartbeats 4000000 in
theorem p_stage (l : Launch) (G : zG) (ad : Nat → Nat) (σ : zσ) (x0 : zX) (hσ : zOk σ) (x : Int32) (n : Int32) : zSem l G sX5_stage [.ref (ad 0), .int x, .int n] (wP G ad σ x0) (zPost G ad (o_stage σ x n)) := by
  refine zEnterV (L := [some (.ref (ad 0)), some (.int x), some (.int n), none]) (by decide) rfl (Nat.le_of_ble_eq_true rfl) rfl ?_
  refine a_iload_1 (pc := 0) dX5_stage_0 ?_
  refine a_iconst (v := 0) (pc := 1) dX5_stage_1 (by decide) ?_
  refine a_iconst (v := 2) (pc := 2) dX5_stage_2 (by decide) ?_
  refine cS_P (S2 := sX5_outside) (c_outside l G _ _ _) kc_X5_outside km_X5_64 ks_X5_outside kini_X5 ⟨kn_X5_outside, by decide, by decide⟩ (pc := 3) dX5_stage_3 [] rfl rfl rfl rfl (Nat.le_of_ble_eq_true rfl) ?_
  first | refine a_if_neB (tgt := 26) (pc := 6) dX5_stage_6 (by decide) (fun c_6 => ?_) (fun c_6 => ?_) | refine a_if_ne (tgt := 26) (pc := 6) dX5_stage_6 (by decide) (fun c_6 => ?_) (fun c_6 => ?_)
  · refine a_ldc2 (pc := 26) dX5_stage_26 kl_X5_68 ?_
    exact a_lret (pc := 29) dX5_stage_29 rfl rfl (by first | exact zret' x0 (if_pos (Or.inl c_6)) rfl | exact zret' x0 (if_pos (Or.inr (by first | rw [if_pos c_11]; exact c_23 | rw [if_neg c_11]; exact c_23))) rfl)
  · refine a_iload_2 (pc := 9) dX5_stage_9 ?_
    refine a_iload_1 (pc := 10) dX5_stage_10 ?_
    first | refine a_if_neB (tgt := 18) (pc := 11) dX5_stage_11 (by decide) (fun c_11 => ?_) (fun c_11 => ?_) | refine a_if_ne (tgt := 18) (pc := 11) dX5_stage_11 (by decide) (fun c_11 => ?_) (fun c_11 => ?_)
    · refine a_iconst (v := 0) (pc := 18) dX5_stage_18 (by decide) ?_
      refine a_iconst (v := 4) (pc := 19) dX5_stage_19 (by decide) ?_
      refine cS_P (S2 := sX5_outside) (c_outside l G _ _ _) kc_X5_outside km_X5_64 ks_X5_outside kini_X5 ⟨kn_X5_outside, by decide, by decide⟩ (pc := 20) dX5_stage_20 [] rfl rfl rfl rfl (Nat.le_of_ble_eq_true rfl) ?_
      first | refine a_if_eqB (tgt := 30) (pc := 23) dX5_stage_23 (by decide) (fun c_23 => ?_) (fun c_23 => ?_) | refine a_if_eq (tgt := 30) (pc := 23) dX5_stage_23 (by decide) (fun c_23 => ?_) (fun c_23 => ?_)
      · obtain ⟨k, hk_, rfl⟩ := zrange (n := 2) (by decide) rfl c_6
        obtain ⟨mm_, hm_, rfl⟩ : ∃ z, z ≤ 4 ∧ n = nI z := zrange (n := 4) (by decide) rfl (fun h => c_23 (h.elim (fun h => Or.inl (by first | exact h | exact Int32.lt_trans h (by decide))) Or.inr))
        refine a_aload_0 (pc := 30) dX5_stage_30 ?_
        refine a_getf (ci := 5) (j := 1) rfl win_X5 (by decide) (pc := 31) dX5_stage_31 kf_X5_16 rfl rfl ?_
        refine a_getfN (ci := 2) (j := 0) rfl win_X2 (by decide) (pc := 34) dX5_stage_34 kf_X5_70 rfl rfl ?_
        refine a_iload_1 (pc := 37) dX5_stage_37 ?_
        refine a_ialdN (pc := 38) dX5_stage_38 rfl (by omega) (by decide) ?_
        refine a_istore_3 (pc := 39) dX5_stage_39 rfl (by decide) ?_
        refine a_aload_0 (pc := 40) dX5_stage_40 ?_
        refine a_getf (ci := 5) (j := 1) rfl win_X5 (by decide) (pc := 41) dX5_stage_41 kf_X5_16 rfl rfl ?_
        refine a_getfN (ci := 2) (j := 0) rfl win_X2 (by decide) (pc := 44) dX5_stage_44 kf_X5_70 rfl rfl ?_
        refine a_iload_1 (pc := 47) dX5_stage_47 ?_
        refine a_iload_2 (pc := 48) dX5_stage_48 ?_
        refine a_iastN (pc := 49) dX5_stage_49 rfl (by omega) (by decide) ?_
        refine a_iload_3 (pc := 50) dX5_stage_50 ?_
        refine a_i2l (pc := 51) dX5_stage_51 ?_
        exact a_lret (pc := 52) dX5_stage_52 rfl rfl (by
            have e_ : o_stage σ (nI k) (nI mm_) = _ := if_neg (fun h => h.elim c_6 (fun h => c_23 (by first | rw [if_pos c_11] at h; exact h | rw [if_neg c_11] at h; exact h)))
            rw [nI_clamp (by omega), nI_clamp (by omega)] at e_
            exact zret' x0 e_ (by rw [updN]; rfl))
      · refine a_ldc2 (pc := 26) dX5_stage_26 kl_X5_68 ?_
        exact a_lret (pc := 29) dX5_stage_29 rfl rfl (by first | exact zret' x0 (if_pos (Or.inl c_6)) rfl | exact zret' x0 (if_pos (Or.inr (by first | rw [if_pos c_11]; exact c_23 | rw [if_neg c_11]; exact c_23))) rfl)
    · refine a_iconst (v := 1) (pc := 14) dX5_stage_14 (by decide) ?_
      refine a_goto (tgt := 19) (pc := 15) dX5_stage_15 (by decide) ?_
      refine a_iconst (v := 4) (pc := 19) dX5_stage_19 (by decide) ?_
      refine cS_P (S2 := sX5_outside) (c_outside l G _ _ _) kc_X5_outside km_X5_64 ks_X5_outside kini_X5 ⟨kn_X5_outside, by decide, by decide⟩ (pc := 20) dX5_stage_20 [] rfl rfl rfl rfl (Nat.le_of_ble_eq_true rfl) ?_
      first | refine a_if_eqB (tgt := 30) (pc := 23) dX5_stage_23 (by decide) (fun c_23 => ?_) (fun c_23 => ?_) | refine a_if_eq (tgt := 30) (pc := 23) dX5_stage_23 (by decide) (fun c_23 => ?_) (fun c_23 => ?_)
      · obtain ⟨k, hk_, rfl⟩ := zrange (n := 2) (by decide) rfl c_6
        obtain ⟨mm_, hm_, rfl⟩ : ∃ z, z ≤ 4 ∧ n = nI z := zrange (n := 4) (by decide) rfl (fun h => c_23 (h.elim (fun h => Or.inl (by first | exact h | exact Int32.lt_trans h (by decide))) Or.inr))
        refine a_aload_0 (pc := 30) dX5_stage_30 ?_
        refine a_getf (ci := 5) (j := 1) rfl win_X5 (by decide) (pc := 31) dX5_stage_31 kf_X5_16 rfl rfl ?_
        refine a_getfN (ci := 2) (j := 0) rfl win_X2 (by decide) (pc := 34) dX5_stage_34 kf_X5_70 rfl rfl ?_
        refine a_iload_1 (pc := 37) dX5_stage_37 ?_
        refine a_ialdN (pc := 38) dX5_stage_38 rfl (by omega) (by decide) ?_
        refine a_istore_3 (pc := 39) dX5_stage_39 rfl (by decide) ?_
        refine a_aload_0 (pc := 40) dX5_stage_40 ?_
        refine a_getf (ci := 5) (j := 1) rfl win_X5 (by decide) (pc := 41) dX5_stage_41 kf_X5_16 rfl rfl ?_
        refine a_getfN (ci := 2) (j := 0) rfl win_X2 (by decide) (pc := 44) dX5_stage_44 kf_X5_70 rfl rfl ?_
        refine a_iload_1 (pc := 47) dX5_stage_47 ?_
        refine a_iload_2 (pc := 48) dX5_stage_48 ?_
        refine a_iastN (pc := 49) dX5_stage_49 rfl (by omega) (by decide) ?_
        refine a_iload_3 (pc := 50) dX5_stage_50 ?_
        refine a_i2l (pc := 51) dX5_stage_51 ?_
        exact a_lret (pc := 52) dX5_stage_52 rfl rfl (by
            have e_ : o_stage σ (nI k) (nI mm_) = _ := if_neg (fun h => h.elim c_6 (fun h => c_23 (by first | rw [if_pos c_11] at h; exact h | rw [if_neg c_11] at h; exact h)))
            rw [nI_clamp (by omega), nI_clamp (by omega)] at e_
            exact zret' x0 e_ (by rw [updN]; rfl))
      · refine a_ldc2 (pc := 26) dX5_stage_26 kl_X5_68 ?_
        exact a_lret (pc := 29) dX5_stage_29 rfl rfl (by first | exact zret' x0 (if_pos (Or.inl c_6)) rfl | exact zret' x0 (if_pos (Or.inr (by first | rw [if_pos c_11]; exact c_23 | rw [if_neg c_11]; exact c_23))) rfl)

set_option maxRecDepth 100000 in
set_option maxHeartbeats 4000000 in
theorem p_length (l : Launch) (G : zG) (ad : Nat → Nat) (σ : zσ) (x0 : zX) (hσ : zOk σ) (n : Int32) : zSem l G sX5_length [.ref (ad 0), .int n] (wP G ad σ x0) (zPost G ad (o_length σ n)) := by
  refine zEnterV (L := [some (.ref (ad 0)), some (.int n), none]) (by decide) rfl (Nat.le_of_ble_eq_true rfl) rfl ?_
  refine a_iload_1 (pc := 0) dX5_length_0 ?_
  refine a_iconst (v := 1) (pc := 1) dX5_length_1 (by decide) ?_
  refine a_bipush (v := 6) (pc := 2) dX5_length_2 (by decide) ?_
  refine cS_P (S2 := sX5_outside) (c_outside l G _ _ _) kc_X5_outside km_X5_64 ks_X5_outside kini_X5 ⟨kn_X5_outside, by decide, by decide⟩ (pc := 4) dX5_length_4 [] rfl rfl rfl rfl (Nat.le_of_ble_eq_true rfl) ?_
  first | refine a_if_eqB (tgt := 14) (pc := 7) dX5_length_7 (by decide) (fun c_7 => ?_) (fun c_7 => ?_) | refine a_if_eq (tgt := 14) (pc := 7) dX5_length_7 (by decide) (fun c_7 => ?_) (fun c_7 => ?_)
  · obtain ⟨k, hk_, rfl⟩ := zrange1 (n := 6) (by decide) rfl c_7
    refine a_aload_0 (pc := 14) dX5_length_14 ?_
    refine a_getf (ci := 5) (j := 1) rfl win_X5 (by decide) (pc := 15) dX5_length_15 kf_X5_16 rfl rfl ?_
    refine a_getfN (ci := 2) (j := 1) rfl win_X2 (by decide) (pc := 18) dX5_length_18 kf_X5_73 rfl rfl ?_
    refine a_istore_2 (pc := 21) dX5_length_21 rfl (by decide) ?_
    refine a_aload_0 (pc := 22) dX5_length_22 ?_
    refine a_getf (ci := 5) (j := 1) rfl win_X5 (by decide) (pc := 23) dX5_length_23 kf_X5_16 rfl rfl ?_
    refine a_iload_1 (pc := 26) dX5_length_26 ?_
    refine a_putfN (ci := 2) (j := 1) rfl win_X2 tyX2_ok nmX2 (by decide) (pc := 27) dX5_length_27 kf_X5_73 rfl rfl rfl rfl rfl (Nat.le_of_ble_eq_true rfl) ?_
    refine a_iload_2 (pc := 30) dX5_length_30 ?_
    refine a_i2l (pc := 31) dX5_length_31 ?_
    exact a_lret (pc := 32) dX5_length_32 rfl rfl (by
        have e_ : o_length σ (nI k) = _ := if_neg c_7
        rw [nI_clamp (by omega)] at e_
        exact zret' x0 e_ rfl)
  · refine a_ldc2 (pc := 10) dX5_length_10 kl_X5_68 ?_
    exact a_lret (pc := 13) dX5_length_13 rfl rfl (zret' x0 (if_pos c_7) rfl)

set_option maxRecDepth 100000 in
set_option maxHeartbeats 4000000 in
theorem p_fresh (l : Launch) (G : zG) (ad : Nat → Nat) (σ : zσ) (x0 : zX) (hσ : zOk σ) (x : Int32) (c : Int32) : zSem l G sX5_fresh [.ref (ad 0), .int x, .int c] (wP G ad σ x0) (zPost G ad (o_fresh σ x c)) := by
  refine zEnterV (L := [some (.ref (ad 0)), some (.int x), some (.int c), none]) (by decide) rfl (Nat.le_of_ble_eq_true rfl) rfl ?_
  refine a_iload_1 (pc := 0) dX5_fresh_0 ?_
  refine cS_P (S2 := sX5_placeOf) (c_placeOf l G _) kc_X5_placeOf km_X5_76 ks_X5_placeOf kini_X5 ⟨kn_X5_placeOf, by decide, by decide⟩ (pc := 1) dX5_fresh_1 [] rfl rfl rfl rfl (Nat.le_of_ble_eq_true rfl) ?_
  refine a_istore_3 (pc := 4) dX5_fresh_4 rfl (by decide) ?_
  refine a_iload_3 (pc := 5) dX5_fresh_5 ?_
  rcases hp_ : zPl x with _ | k
  · refine a_if_lt (tgt := 18) (pc := 6) dX5_fresh_6 (by decide) (fun _ => ?_) (fun c_ => absurd (show zplace none < 0 by decide) c_)
    refine a_ldc2 (pc := 18) dX5_fresh_18 kl_X5_68 ?_
    exact a_lret (pc := 21) dX5_fresh_21 rfl rfl (by first | exact zret' x0 (if_pos (Or.inl hp_)) rfl | exact zret' x0 (if_pos (Or.inr c_15)) rfl)
  · have hk_ := zPl_lt hp_
    dsimp only [zplace]
    refine a_if_lt (tgt := 18) (pc := 6) dX5_fresh_6 (by decide) (fun c_ => absurd c_ (nI_pos (by omega))) (fun _ => ?_)
    refine a_iload_2 (pc := 9) dX5_fresh_9 ?_
    refine a_iconst (v := 0) (pc := 10) dX5_fresh_10 (by decide) ?_
    refine a_iconst (v := 3) (pc := 11) dX5_fresh_11 (by decide) ?_
    refine cS_P (S2 := sX5_outside) (c_outside l G _ _ _) kc_X5_outside km_X5_64 ks_X5_outside kini_X5 ⟨kn_X5_outside, by decide, by decide⟩ (pc := 12) dX5_fresh_12 [] rfl rfl rfl rfl (Nat.le_of_ble_eq_true rfl) ?_
    first | refine a_if_eqB (tgt := 22) (pc := 15) dX5_fresh_15 (by decide) (fun c_15 => ?_) (fun c_15 => ?_) | refine a_if_eq (tgt := 22) (pc := 15) dX5_fresh_15 (by decide) (fun c_15 => ?_) (fun c_15 => ?_)
    · obtain ⟨mm_, hm_, rfl⟩ := zrange (n := 3) (by decide) rfl c_15
      refine a_aload_0 (pc := 22) dX5_fresh_22 ?_
      refine a_getf (ci := 5) (j := 3) rfl win_X5 (by decide) (pc := 23) dX5_fresh_23 kf_X5_26 rfl rfl ?_
      refine a_iload_3 (pc := 26) dX5_fresh_26 ?_
      refine a_iload_2 (pc := 27) dX5_fresh_27 ?_
      refine cV_V (ad := ad) (q0 := 6) (S2 := sX4_renew) (c_renew l G (zpk ad [6, 7, 8]) (zKd σ) (zFo σ) k (zPl_lt hp_) _) kc_X4_renew km_X5_80 ki_X4_renew kv_X4_renew kini_X4 ⟨kn_X4_renew, by decide, by decide⟩ (pc := 28) dX5_fresh_28 [6, 7, 8] rfl rfl rfl rfl (Nat.le_of_ble_eq_true rfl) rfl rfl rfl (fun _ => wP G ad (σ.1, zu2 (zu2 σ.2.1 1 (zuN (σ.2.1 1) k mm_)) 2 (zuN (σ.2.1 2) k 0), σ.2.2) x0) (fun _ => by show _ = _; rw [updN, show (0 : Int32) = nI 0 from rfl, updN]; rfl) (fun _u _ => ?_)
      refine a_i2l (pc := 31) dX5_fresh_31 ?_
      exact a_lret (pc := 32) dX5_fresh_32 rfl rfl (by
          have e_ : o_fresh σ x (nI mm_) = _ := if_neg (fun h => h.elim (fun h => by rw [hp_] at h; cases h) c_15)
          rw [nI_clamp (by omega), hp_] at e_
          exact zret' x0 e_ rfl)
    · refine a_ldc2 (pc := 18) dX5_fresh_18 kl_X5_68 ?_
      exact a_lret (pc := 21) dX5_fresh_21 rfl rfl (by first | exact zret' x0 (if_pos (Or.inl hp_)) rfl | exact zret' x0 (if_pos (Or.inr c_15)) rfl)

set_option maxRecDepth 100000 in
set_option maxHeartbeats 4000000 in
theorem p_told (l : Launch) (G : zG) (ad : Nat → Nat) (σ : zσ) (x0 : zX) (hσ : zOk σ) (x : Int32) (c : Int32) : zSem l G sX5_told [.ref (ad 0), .int x, .int c] (wP G ad σ x0) (zPost G ad (o_told σ x c)) := by
  refine zEnterV (L := [some (.ref (ad 0)), some (.int x), some (.int c), none]) (by decide) rfl (Nat.le_of_ble_eq_true rfl) rfl ?_
  refine a_iload_1 (pc := 0) dX5_told_0 ?_
  refine cS_P (S2 := sX5_placeOf) (c_placeOf l G _) kc_X5_placeOf km_X5_76 ks_X5_placeOf kini_X5 ⟨kn_X5_placeOf, by decide, by decide⟩ (pc := 1) dX5_told_1 [] rfl rfl rfl rfl (Nat.le_of_ble_eq_true rfl) ?_
  refine a_istore_3 (pc := 4) dX5_told_4 rfl (by decide) ?_
  refine a_iload_3 (pc := 5) dX5_told_5 ?_
  rcases hp_ : zPl x with _ | k
  · refine a_if_ge (tgt := 13) (pc := 6) dX5_told_6 (by decide) (fun c_ => absurd c_ (show ¬ (0 : Int32) ≤ zplace none by decide)) (fun _ => ?_)
    refine a_ldc2 (pc := 9) dX5_told_9 kl_X5_68 ?_
    exact a_lret (pc := 12) dX5_told_12 rfl rfl (zret' x0 (by unfold o_told; rw [if_pos hp_]) rfl)
  · have hk_ := zPl_lt hp_
    have hne_ : ¬ zPl x = none := by rw [hp_]; exact fun h => by cases h
    dsimp only [zplace]
    refine a_if_ge (tgt := 13) (pc := 6) dX5_told_6 (by decide) (fun _ => ?_) (fun c_ => absurd (nI_pos' (by omega)) c_)
    refine a_iload_2 (pc := 13) dX5_told_13 ?_
    rcases zsw3 c with rfl | rfl | rfl | rfl | hc_
    · refine a_tableIn (off := 30) (tgt := 44) (pc := 14) dX5_told_14 (by decide) (by decide) (by decide) (by decide) ?_
      refine a_aload_0 (pc := 44) dX5_told_44 ?_
      refine a_getf (ci := 5) (j := 3) rfl win_X5 (by decide) (pc := 45) dX5_told_45 kf_X5_26 rfl rfl ?_
      refine a_getfN (ci := 4) (j := 0) rfl win_X4 (by decide) (pc := 48) dX5_told_48 kf_X5_84 rfl rfl ?_
      refine a_iload_3 (pc := 51) dX5_told_51 ?_
      refine a_ialdN (pc := 52) dX5_told_52 rfl (by omega) (by decide) ?_
      refine a_i2l (pc := 53) dX5_told_53 ?_
      exact a_lret (pc := 54) dX5_told_54 rfl rfl (zret' x0 (by unfold o_told; rw [if_neg hne_, if_pos rfl, hp_]; rfl) rfl)
    · refine a_tableIn (off := 41) (tgt := 55) (pc := 14) dX5_told_14 (by decide) (by decide) (by decide) (by decide) ?_
      refine a_aload_0 (pc := 55) dX5_told_55 ?_
      refine a_getf (ci := 5) (j := 3) rfl win_X5 (by decide) (pc := 56) dX5_told_56 kf_X5_26 rfl rfl ?_
      refine a_getfN (ci := 4) (j := 1) rfl win_X4 (by decide) (pc := 59) dX5_told_59 kf_X5_87 rfl rfl ?_
      refine a_iload_3 (pc := 62) dX5_told_62 ?_
      refine a_ialdN (pc := 63) dX5_told_63 rfl (by omega) (by decide) ?_
      refine a_i2l (pc := 64) dX5_told_64 ?_
      exact a_lret (pc := 65) dX5_told_65 rfl rfl (zret' x0 (by unfold o_told; rw [if_neg hne_, if_neg (by decide), if_pos rfl, hp_]; rfl) rfl)
    · refine a_tableIn (off := 52) (tgt := 66) (pc := 14) dX5_told_14 (by decide) (by decide) (by decide) (by decide) ?_
      refine a_aload_0 (pc := 66) dX5_told_66 ?_
      refine a_getf (ci := 5) (j := 3) rfl win_X5 (by decide) (pc := 67) dX5_told_67 kf_X5_26 rfl rfl ?_
      refine a_iload_3 (pc := 70) dX5_told_70 ?_
      refine cV_P (ad := ad) (q0 := 6) (S2 := sX4_passAt) (c_passAt l G (zpk ad [6, 7, 8]) (zKd σ) (zFo σ) k hk_ (zin4 (hσ.2.2.2.2.2.2.2.1 k hk_))) kc_X4_passAt km_X5_90 ki_X4_passAt kv_X4_passAt kini_X4 ⟨kn_X4_passAt, by decide, by decide⟩ (pc := 71) dX5_told_71 [6, 7, 8] rfl rfl rfl rfl (Nat.le_of_ble_eq_true rfl) rfl rfl rfl ?_
      refine a_i2l (pc := 74) dX5_told_74 ?_
      exact a_lret (pc := 75) dX5_told_75 rfl rfl (zret' x0 (by unfold o_told; rw [if_neg hne_, if_neg (by decide), if_neg (by decide), if_pos rfl, hp_]; rfl) rfl)
    · refine a_tableIn (off := 62) (tgt := 76) (pc := 14) dX5_told_14 (by decide) (by decide) (by decide) (by decide) ?_
      refine a_aload_0 (pc := 76) dX5_told_76 ?_
      refine a_getf (ci := 5) (j := 3) rfl win_X5 (by decide) (pc := 77) dX5_told_77 kf_X5_26 rfl rfl ?_
      refine a_iload_3 (pc := 80) dX5_told_80 ?_
      refine cV_P (ad := ad) (q0 := 6) (S2 := sX4_leakAt) (c_leakAt l G (zpk ad [6, 7, 8]) (zKd σ) (zFo σ) k hk_ (zin4 (hσ.2.2.2.2.2.2.2.1 k hk_))) kc_X4_leakAt km_X5_93 ki_X4_leakAt kv_X4_leakAt kini_X4 ⟨kn_X4_leakAt, by decide, by decide⟩ (pc := 81) dX5_told_81 [6, 7, 8] rfl rfl rfl rfl (Nat.le_of_ble_eq_true rfl) rfl rfl rfl ?_
      refine a_i2l (pc := 84) dX5_told_84 ?_
      exact a_lret (pc := 85) dX5_told_85 rfl rfl (zret' x0 (by unfold o_told; rw [if_neg hne_, if_neg (by decide), if_neg (by decide), if_neg (by decide), if_pos rfl, hp_]; rfl) rfl)
    · refine a_tableOut (tgt := 86) (pc := 14) dX5_told_14 hc_ (by decide) ?_
      refine a_ldc2 (pc := 86) dX5_told_86 kl_X5_68 ?_
      exact a_lret (pc := 89) dX5_told_89 rfl rfl (zret' x0 (by unfold o_told; rw [if_neg hne_, if_neg (fun h => by subst h; exact absurd hc_ (by decide)), if_neg (fun h => by subst h; exact absurd hc_ (by decide)), if_neg (fun h => by subst h; exact absurd hc_ (by decide)), if_neg (fun h => by subst h; exact absurd hc_ (by decide))]) rfl)

set_option maxRecDepth 100000 in
set_option maxHeartbeats 4000000 in
theorem p_isOf (l : Launch) (G : zG) (ad : Nat → Nat) (σ : zσ) (x0 : zX) (hσ : zOk σ) (x : Int32) (c : Int32) : zSem l G sX5_isOf [.ref (ad 0), .int x, .int c] (wP G ad σ x0) (zPost G ad (o_isOf σ x c)) := by
  refine zEnterV (L := [some (.ref (ad 0)), some (.int x), some (.int c), none]) (by decide) rfl (Nat.le_of_ble_eq_true rfl) rfl ?_
  refine a_iload_1 (pc := 0) dX5_isOf_0 ?_
  refine cS_P (S2 := sX5_placeOf) (c_placeOf l G _) kc_X5_placeOf km_X5_76 ks_X5_placeOf kini_X5 ⟨kn_X5_placeOf, by decide, by decide⟩ (pc := 1) dX5_isOf_1 [] rfl rfl rfl rfl (Nat.le_of_ble_eq_true rfl) ?_
  refine a_istore_3 (pc := 4) dX5_isOf_4 rfl (by decide) ?_
  refine a_iload_3 (pc := 5) dX5_isOf_5 ?_
  rcases hp_ : zPl x with _ | k
  · refine a_if_lt (tgt := 18) (pc := 6) dX5_isOf_6 (by decide) (fun _ => ?_) (fun c_ => absurd (show zplace none < 0 by decide) c_)
    refine a_ldc2 (pc := 18) dX5_isOf_18 kl_X5_68 ?_
    exact a_lret (pc := 21) dX5_isOf_21 rfl rfl (by first | exact zret' x0 (by unfold o_isOf; rw [if_pos (Or.inl hp_)]) rfl | exact zret' x0 (by unfold o_isOf; rw [if_pos (Or.inr c_15)]) rfl)
  · have hk_ := zPl_lt hp_
    have hne_ : ¬ zPl x = none := by rw [hp_]; exact fun h => by cases h
    dsimp only [zplace]
    refine a_if_lt (tgt := 18) (pc := 6) dX5_isOf_6 (by decide) (fun c_ => absurd c_ (nI_pos (by omega))) (fun _ => ?_)
    refine a_iload_2 (pc := 9) dX5_isOf_9 ?_
    refine a_iconst (v := 0) (pc := 10) dX5_isOf_10 (by decide) ?_
    refine a_iconst (v := 3) (pc := 11) dX5_isOf_11 (by decide) ?_
    refine cS_P (S2 := sX5_outside) (c_outside l G _ _ _) kc_X5_outside km_X5_64 ks_X5_outside kini_X5 ⟨kn_X5_outside, by decide, by decide⟩ (pc := 12) dX5_isOf_12 [] rfl rfl rfl rfl (Nat.le_of_ble_eq_true rfl) ?_
    first | refine a_if_eqB (tgt := 22) (pc := 15) dX5_isOf_15 (by decide) (fun c_15 => ?_) (fun c_15 => ?_) | refine a_if_eq (tgt := 22) (pc := 15) dX5_isOf_15 (by decide) (fun c_15 => ?_) (fun c_15 => ?_)
    · refine a_aload_0 (pc := 22) dX5_isOf_22 ?_
      refine a_getf (ci := 5) (j := 3) rfl win_X5 (by decide) (pc := 23) dX5_isOf_23 kf_X5_26 rfl rfl ?_
      refine a_iload_3 (pc := 26) dX5_isOf_26 ?_
      refine a_iload_2 (pc := 27) dX5_isOf_27 ?_
      refine cV_P (ad := ad) (q0 := 6) (S2 := sX4_isUnder) (c_isUnder l G (zpk ad [6, 7, 8]) (zKd σ) (zFo σ) k hk_ (zin4 (hσ.2.2.2.2.2.2.2.1 k hk_)) c) kc_X4_isUnder km_X5_96 ki_X4_isUnder kv_X4_isUnder kini_X4 ⟨kn_X4_isUnder, by decide, by decide⟩ (pc := 28) dX5_isOf_28 [6, 7, 8] rfl rfl rfl rfl (Nat.le_of_ble_eq_true rfl) rfl rfl rfl ?_
      first | refine a_if_eqB (tgt := 38) (pc := 31) dX5_isOf_31 (by decide) (fun c_31 => ?_) (fun c_31 => ?_) | refine a_if_eq (tgt := 38) (pc := 31) dX5_isOf_31 (by decide) (fun c_31 => ?_) (fun c_31 => ?_)
      · refine a_lconst (v := 0) (pc := 38) dX5_isOf_38 (by decide) ?_
        exact a_lret (pc := 39) dX5_isOf_39 rfl rfl (by first | exact zret' x0 (by unfold o_isOf; rw [if_neg (fun h => h.elim hne_ c_15), hp_, Option.getD_some, if_pos c_31]) rfl | exact zret' x0 (by unfold o_isOf; rw [if_neg (fun h => h.elim hne_ c_15), hp_, Option.getD_some, if_neg c_31]) rfl)
      · refine a_lconst (v := 1) (pc := 34) dX5_isOf_34 (by decide) ?_
        refine a_goto (tgt := 39) (pc := 35) dX5_isOf_35 (by decide) ?_
        exact a_lret (pc := 39) dX5_isOf_39 rfl rfl (by first | exact zret' x0 (by unfold o_isOf; rw [if_neg (fun h => h.elim hne_ c_15), hp_, Option.getD_some, if_pos c_31]) rfl | exact zret' x0 (by unfold o_isOf; rw [if_neg (fun h => h.elim hne_ c_15), hp_, Option.getD_some, if_neg c_31]) rfl)
    · refine a_ldc2 (pc := 18) dX5_isOf_18 kl_X5_68 ?_
      exact a_lret (pc := 21) dX5_isOf_21 rfl rfl (by first | exact zret' x0 (by unfold o_isOf; rw [if_pos (Or.inl hp_)]) rfl | exact zret' x0 (by unfold o_isOf; rw [if_pos (Or.inr c_15)]) rfl)

set_option maxRecDepth 100000 in
set_option maxHeartbeats 4000000 in
theorem p_feed (l : Launch) (G : zG) (ad : Nat → Nat) (σ : zσ) (x0 : zX) (hσ : zOk σ) (w : Int32) (s : Int32) (p : Int32) : zSem l G sX5_feed [.ref (ad 0), .int w, .int s, .int p] (wP G ad σ x0) (zPost G ad (o_feed σ w s p)) := by
  refine zEnterV (L := [some (.ref (ad 0)), some (.int w), some (.int s), some (.int p)]) (by decide) rfl (Nat.le_of_ble_eq_true rfl) rfl ?_
  refine a_iload_1 (pc := 0) dX5_feed_0 ?_
  refine a_iconst (v := 0) (pc := 1) dX5_feed_1 (by decide) ?_
  refine a_sipush (v := 20000) (pc := 2) dX5_feed_2 (by decide) ?_
  refine cS_P (S2 := sX5_outside) (c_outside l G _ _ _) kc_X5_outside km_X5_64 ks_X5_outside kini_X5 ⟨kn_X5_outside, by decide, by decide⟩ (pc := 5) dX5_feed_5 [] rfl rfl rfl rfl (Nat.le_of_ble_eq_true rfl) ?_
  first | refine a_if_neB (tgt := 32) (pc := 8) dX5_feed_8 (by decide) (fun c_8 => ?_) (fun c_8 => ?_) | refine a_if_ne (tgt := 32) (pc := 8) dX5_feed_8 (by decide) (fun c_8 => ?_) (fun c_8 => ?_)
  · refine a_ldc2 (pc := 32) dX5_feed_32 kl_X5_68 ?_
    exact a_lret (pc := 35) dX5_feed_35 rfl rfl (by first | exact zret' x0 (if_pos (Or.inl c_8)) rfl | exact zret' x0 (if_pos (Or.inr (Or.inl c_18))) rfl | exact zret' x0 (if_pos (Or.inr (Or.inr c_29))) rfl)
  · refine a_iload_2 (pc := 11) dX5_feed_11 ?_
    refine a_iconst (v := 0) (pc := 12) dX5_feed_12 (by decide) ?_
    refine a_ldc (pc := 13) dX5_feed_13 kl_X5_100 ?_
    refine cS_P (S2 := sX5_outside) (c_outside l G _ _ _) kc_X5_outside km_X5_64 ks_X5_outside kini_X5 ⟨kn_X5_outside, by decide, by decide⟩ (pc := 15) dX5_feed_15 [] rfl rfl rfl rfl (Nat.le_of_ble_eq_true rfl) ?_
    first | refine a_if_neB (tgt := 32) (pc := 18) dX5_feed_18 (by decide) (fun c_18 => ?_) (fun c_18 => ?_) | refine a_if_ne (tgt := 32) (pc := 18) dX5_feed_18 (by decide) (fun c_18 => ?_) (fun c_18 => ?_)
    · refine a_ldc2 (pc := 32) dX5_feed_32 kl_X5_68 ?_
      exact a_lret (pc := 35) dX5_feed_35 rfl rfl (by first | exact zret' x0 (if_pos (Or.inl c_8)) rfl | exact zret' x0 (if_pos (Or.inr (Or.inl c_18))) rfl | exact zret' x0 (if_pos (Or.inr (Or.inr c_29))) rfl)
    · refine a_iload_3 (pc := 21) dX5_feed_21 ?_
      refine a_iconst (v := 0) (pc := 22) dX5_feed_22 (by decide) ?_
      refine a_sipush (v := 900) (pc := 23) dX5_feed_23 (by decide) ?_
      refine cS_P (S2 := sX5_outside) (c_outside l G _ _ _) kc_X5_outside km_X5_64 ks_X5_outside kini_X5 ⟨kn_X5_outside, by decide, by decide⟩ (pc := 26) dX5_feed_26 [] rfl rfl rfl rfl (Nat.le_of_ble_eq_true rfl) ?_
      first | refine a_if_eqB (tgt := 36) (pc := 29) dX5_feed_29 (by decide) (fun c_29 => ?_) (fun c_29 => ?_) | refine a_if_eq (tgt := 36) (pc := 29) dX5_feed_29 (by decide) (fun c_29 => ?_) (fun c_29 => ?_)
      · obtain ⟨kw_, hw_, rfl⟩ := zrange (hi := 20000) (n := 20000) (by decide) (by decide +kernel) c_8
        obtain ⟨ks_, hs_, rfl⟩ := zrange (hi := 60000) (n := 60000) (by decide) (by decide +kernel) c_18
        obtain ⟨kp_, hp_, rfl⟩ := zrange (hi := 900) (n := 900) (by decide) (by decide +kernel) c_29
        refine a_aload_0 (pc := 36) dX5_feed_36 ?_
        refine a_iload_1 (pc := 37) dX5_feed_37 ?_
        refine a_putf (ci := 5) (j := 7) rfl win_X5 tyX5_ok nmX5 (by decide) (pc := 38) dX5_feed_38 kf_X5_51 rfl rfl rfl rfl rfl (Nat.le_of_ble_eq_true rfl) ?_
        refine a_aload_0 (pc := 41) dX5_feed_41 ?_
        refine a_iload_2 (pc := 42) dX5_feed_42 ?_
        refine a_putf (ci := 5) (j := 8) rfl win_X5 tyX5_ok nmX5 (by decide) (pc := 43) dX5_feed_43 kf_X5_55 rfl rfl rfl rfl rfl (Nat.le_of_ble_eq_true rfl) ?_
        refine a_aload_0 (pc := 46) dX5_feed_46 ?_
        refine a_iload_3 (pc := 47) dX5_feed_47 ?_
        refine a_putf (ci := 5) (j := 9) rfl win_X5 tyX5_ok nmX5 (by decide) (pc := 48) dX5_feed_48 kf_X5_58 rfl rfl rfl rfl rfl (Nat.le_of_ble_eq_true rfl) ?_
        refine a_lconst (v := 0) (pc := 51) dX5_feed_51 (by decide) ?_
        exact a_lret (pc := 52) dX5_feed_52 rfl rfl (by
            have e_ : o_feed σ (nI kw_) (nI ks_) (nI kp_) = _ := if_neg (fun h => h.elim c_8 (fun h => h.elim c_18 c_29))
            rw [nI_clamp (by omega), nI_clamp (by omega), nI_clamp (by omega)] at e_
            exact zret' x0 e_ rfl)
      · refine a_ldc2 (pc := 32) dX5_feed_32 kl_X5_68 ?_
        exact a_lret (pc := 35) dX5_feed_35 rfl rfl (by first | exact zret' x0 (if_pos (Or.inl c_8)) rfl | exact zret' x0 (if_pos (Or.inr (Or.inl c_18))) rfl | exact zret' x0 (if_pos (Or.inr (Or.inr c_29))) rfl)

set_option maxRecDepth 100000 in
set_option maxHeartbeats 4000000 in
theorem p_change (l : Launch) (G : zG) (ad : Nat → Nat) (σ : zσ) (x0 : zX) (hσ : zOk σ) (x : Int32) (y : Int32) : zSem l G sX5_change [.ref (ad 0), .int x, .int y] (wP G ad σ x0) (zPost G ad (o_change σ x y)) := by
  refine zEnterV (L := [some (.ref (ad 0)), some (.int x), some (.int y), none, none]) (by decide) rfl (Nat.le_of_ble_eq_true rfl) rfl ?_
  refine a_iload_1 (pc := 0) dX5_change_0 ?_
  refine cS_P (S2 := sX5_placeOf) (c_placeOf l G _) kc_X5_placeOf km_X5_76 ks_X5_placeOf kini_X5 ⟨kn_X5_placeOf, by decide, by decide⟩ (pc := 1) dX5_change_1 [] rfl rfl rfl rfl (Nat.le_of_ble_eq_true rfl) ?_
  refine a_istore_3 (pc := 4) dX5_change_4 rfl (by decide) ?_
  refine a_iload_2 (pc := 5) dX5_change_5 ?_
  refine cS_P (S2 := sX5_placeOf) (c_placeOf l G _) kc_X5_placeOf km_X5_76 ks_X5_placeOf kini_X5 ⟨kn_X5_placeOf, by decide, by decide⟩ (pc := 6) dX5_change_6 [] rfl rfl rfl rfl (Nat.le_of_ble_eq_true rfl) ?_
  refine a_istore_4 (pc := 9) dX5_change_9 rfl (by decide) ?_
  refine a_iload_3 (pc := 11) dX5_change_11 ?_
  rcases hp_ : zPl x with _ | k
  · refine a_if_lt (tgt := 26) (pc := 12) dX5_change_12 (by decide) (fun _ => ?_) (fun c_ => absurd (show zplace none < 0 by decide) c_)
    refine a_ldc2 (pc := 26) dX5_change_26 kl_X5_68 ?_
    exact a_lret (pc := 29) dX5_change_29 rfl rfl (by first | exact zret' x0 (if_pos (Or.inl hp_)) rfl | exact zret' x0 (if_pos (Or.inr (Or.inl hq_))) rfl | exact zret' x0 (if_pos (Or.inr (Or.inr (by rw [hp_, hq_, hkj_])))) rfl)
  · have hk_ := zPl_lt hp_
    have hne_ : ¬ zPl x = none := by rw [hp_]; exact fun h => by cases h
    dsimp only [zplace]
    refine a_if_lt (tgt := 26) (pc := 12) dX5_change_12 (by decide) (fun c_ => absurd c_ (nI_pos (by omega))) (fun _ => ?_)
    refine a_iload_4 (pc := 15) dX5_change_15 ?_
    rcases hq_ : zPl y with _ | j
    · refine a_if_lt (tgt := 26) (pc := 17) dX5_change_17 (by decide) (fun _ => ?_) (fun c_ => absurd (show zplace none < 0 by decide) c_)
      refine a_ldc2 (pc := 26) dX5_change_26 kl_X5_68 ?_
      exact a_lret (pc := 29) dX5_change_29 rfl rfl (by first | exact zret' x0 (if_pos (Or.inl hp_)) rfl | exact zret' x0 (if_pos (Or.inr (Or.inl hq_))) rfl | exact zret' x0 (if_pos (Or.inr (Or.inr (by rw [hp_, hq_, hkj_])))) rfl)
    · have hj_ := zPl_lt hq_
      have hne2_ : ¬ zPl y = none := by rw [hq_]; exact fun h => by cases h
      refine a_if_lt (tgt := 26) (pc := 17) dX5_change_17 (by decide) (fun c_ => absurd c_ (nI_pos (by omega))) (fun _ => ?_)
      dsimp only [zplace]
      refine a_iload_3 (pc := 20) dX5_change_20 ?_
      refine a_iload_4 (pc := 21) dX5_change_21 ?_
      refine a_icmp_ne (tgt := 30) (pc := 23) dX5_change_23 (by decide) (fun c_23 => ?_) (fun c_23 => ?_)
      · have hkj_ : ¬ k = j := fun h => c_23 (by rw [h])
        refine a_aload_0 (pc := 30) dX5_change_30 ?_
        refine a_getf (ci := 5) (j := 3) rfl win_X5 (by decide) (pc := 31) dX5_change_31 kf_X5_26 rfl rfl ?_
        refine a_iload_3 (pc := 34) dX5_change_34 ?_
        refine a_iload_4 (pc := 35) dX5_change_35 ?_
        refine cV_0 (ad := ad) (q0 := 6) (S2 := sX4_exchange) (c_skExch l G (zpk ad [6, 7, 8]) (zKd σ) (zFo σ) k j hk_ hj_) kc_X4_exchange km_X5_101 ki_X4_exchange kv_X4_exchange kini_X4 ⟨kn_X4_exchange, by decide, by decide⟩ (pc := 37) dX5_change_37 [6, 7, 8] rfl rfl rfl rfl (Nat.le_of_ble_eq_true rfl) rfl rfl rfl (fun _ => wP G ad (σ.1, zu2 (zu2 σ.2.1 1 (zExN (σ.2.1 1) k j)) 2 (zExN (σ.2.1 2) k j), σ.2.2) x0) (fun _ => by show _ = _; rw [zExch_N, zExch_N]; rfl) (fun _u _ => ?_)
        refine a_lconst (v := 0) (pc := 40) dX5_change_40 (by decide) ?_
        exact a_lret (pc := 41) dX5_change_41 rfl rfl (by
            have e_ : o_change σ x y = _ := if_neg (fun h => h.elim hne_ (fun h => h.elim hne2_ (fun h => by rw [hp_, hq_] at h; exact hkj_ (Option.some.inj h))))
            rw [hp_, hq_] at e_
            exact zret' x0 e_ rfl)
      · have hkj_ : k = j := zI_inj (by omega) (by omega) c_23
        refine a_ldc2 (pc := 26) dX5_change_26 kl_X5_68 ?_
        exact a_lret (pc := 29) dX5_change_29 rfl rfl (by first | exact zret' x0 (if_pos (Or.inl hp_)) rfl | exact zret' x0 (if_pos (Or.inr (Or.inl hq_))) rfl | exact zret' x0 (if_pos (Or.inr (Or.inr (by rw [hp_, hq_, hkj_])))) rfl)

theorem zrule_lo : ∀ k, k < 7 → ([0, 0, 0, 1, 0, 0, 0] : List Int32).getD k 0 = nI (zRuleLo k) := by decide +kernel
theorem zrule_hi : ∀ k, k < 7 → ([9999, 9999, 100, 1000, 30, 200, 200] : List Int32).getD k 0 = nI (zRuleHi k) := by decide +kernel
theorem zrule_hb : ∀ k, k < 7 → zRuleHi k < 2 ^ 31 ∧ (zRuleLo k = 0 ∨ zRuleLo k = 1) := by decide +kernel
theorem zrangeL {x : Int32} {lo n : Nat} (hl : lo < 2 ^ 31) (hn : n < 2 ^ 31) (h : ¬ zOR x (nI lo) (nI n)) : ∃ k, (lo ≤ k ∧ k ≤ n) ∧ x = nI k := by
  have h1 : ¬ x.toInt < lo := fun q => h (Or.inl (Int32.lt_iff_toInt_lt.mpr (by rw [nI_toInt hl]; exact q)))
  have h2 : ¬ (n : Int) < x.toInt := fun q => h (Or.inr (Int32.lt_iff_toInt_lt.mpr (by rw [nI_toInt hn]; exact q)))
  exact ⟨x.toInt.toNat, by omega, i_toNat (by omega)⟩
set_option maxRecDepth 100000 in
set_option maxHeartbeats 4000000 in
theorem p_rule (l : Launch) (G : zG) (ad : Nat → Nat) (σ : zσ) (x0 : zX) (hσ : zOk σ) (x : Int32) (v : Int32) : zSem l G sX5_rule [.ref (ad 0), .int x, .int v] (wP G ad σ x0) (zPost G ad (o_rule σ x v)) := by
  refine zEnterV (L := [some (.ref (ad 0)), some (.int x), some (.int v), none]) (by decide) rfl (Nat.le_of_ble_eq_true rfl) rfl ?_
  refine a_iload_1 (pc := 0) dX5_rule_0 ?_
  refine a_iconst (v := 0) (pc := 1) dX5_rule_1 (by decide) ?_
  refine a_bipush (v := 6) (pc := 2) dX5_rule_2 (by decide) ?_
  refine cS_P (S2 := sX5_outside) (c_outside l G _ _ _) kc_X5_outside km_X5_64 ks_X5_outside kini_X5 ⟨kn_X5_outside, by decide, by decide⟩ (pc := 4) dX5_rule_4 [] rfl rfl rfl rfl (Nat.le_of_ble_eq_true rfl) ?_
  first | refine a_if_neB (tgt := 27) (pc := 7) dX5_rule_7 (by decide) (fun c_7 => ?_) (fun c_7 => ?_) | refine a_if_ne (tgt := 27) (pc := 7) dX5_rule_7 (by decide) (fun c_7 => ?_) (fun c_7 => ?_)
  · refine a_ldc2 (pc := 27) dX5_rule_27 kl_X5_68 ?_
    exact a_lret (pc := 30) dX5_rule_30 rfl rfl (by first | exact zret' x0 (if_pos (Or.inl c_7)) rfl | exact zret' x0 (if_pos (Or.inr (by rw [nI_clamp (by omega)]; exact c_24))) rfl)
  · obtain ⟨k, hk_, rfl⟩ := zrange (n := 6) (by decide) rfl c_7
    refine a_iload_2 (pc := 10) dX5_rule_10 ?_
    refine a_gets (k := 3) (pc := 11) dX5_rule_11 rfl kf_X5_158 ?_
    refine a_iload_1 (pc := 14) dX5_rule_14 ?_
    refine a_staldN rfl (pc := 15) dX5_rule_15 (show k < 7 by omega) (by decide) ?_
    have e1_ := zrule_lo k (by omega)
    dsimp only at e1_ ⊢
    rw [e1_]
    refine a_gets (k := 4) (pc := 16) dX5_rule_16 rfl kf_X5_161 ?_
    refine a_iload_1 (pc := 19) dX5_rule_19 ?_
    refine a_staldN rfl (pc := 20) dX5_rule_20 (show k < 7 by omega) (by decide) ?_
    have e2_ := zrule_hi k (by omega)
    dsimp only at e2_ ⊢
    rw [e2_]
    refine cS_P (S2 := sX5_outside) (c_outside l G _ _ _) kc_X5_outside km_X5_64 ks_X5_outside kini_X5 ⟨kn_X5_outside, by decide, by decide⟩ (pc := 21) dX5_rule_21 [] rfl rfl rfl rfl (Nat.le_of_ble_eq_true rfl) ?_
    first | refine a_if_eqB (tgt := 31) (pc := 24) dX5_rule_24 (by decide) (fun c_24 => ?_) (fun c_24 => ?_) | refine a_if_eq (tgt := 31) (pc := 24) dX5_rule_24 (by decide) (fun c_24 => ?_) (fun c_24 => ?_)
    · obtain ⟨mm_, hm_, rfl⟩ := zrangeL (by have := zrule_hb k (by omega); omega) (zrule_hb k (by omega)).1 c_24
      refine a_aload_0 (pc := 31) dX5_rule_31 ?_
      refine a_getf (ci := 5) (j := 0) rfl win_X5 (by decide) (pc := 32) dX5_rule_32 kf_X5_9 rfl rfl ?_
      refine a_iload_1 (pc := 35) dX5_rule_35 ?_
      refine a_ialdN (pc := 36) dX5_rule_36 rfl (by omega) (by decide) ?_
      refine a_istore_3 (pc := 37) dX5_rule_37 rfl (by decide) ?_
      refine a_aload_0 (pc := 38) dX5_rule_38 ?_
      refine a_getf (ci := 5) (j := 0) rfl win_X5 (by decide) (pc := 39) dX5_rule_39 kf_X5_9 rfl rfl ?_
      refine a_iload_1 (pc := 42) dX5_rule_42 ?_
      refine a_iload_2 (pc := 43) dX5_rule_43 ?_
      refine a_iastN (pc := 44) dX5_rule_44 rfl (by omega) (by decide) ?_
      refine a_iload_3 (pc := 45) dX5_rule_45 ?_
      refine a_i2l (pc := 46) dX5_rule_46 ?_
      exact a_lret (pc := 47) dX5_rule_47 rfl rfl (by
          have hh_ := (zrule_hb k (by omega)).1
          have e_ : o_rule σ (nI k) (nI mm_) = _ := if_neg (fun h => h.elim c_7 (fun h => c_24 (by rw [nI_clamp (by omega)] at h; exact h)))
          rw [nI_clamp (by omega), nI_clamp (by omega)] at e_
          exact zret' x0 e_ (by rw [updN]; rfl))
    · refine a_ldc2 (pc := 27) dX5_rule_27 kl_X5_68 ?_
      exact a_lret (pc := 30) dX5_rule_30 rfl rfl (by first | exact zret' x0 (if_pos (Or.inl c_7)) rfl | exact zret' x0 (if_pos (Or.inr (by rw [nI_clamp (by omega)]; exact c_24))) rfl)
end
section
/-! The plant: hours, sheets, counts. -/
abbrev zVesf (σ : zσ) : Nat → Int32 := fun j => nI (σ.2.1 0 j)
def o_count (σ : zσ) (c : Int32) : Int64 × zσ := (if c = 0 then (zSum3 (zVesf σ) 3).toInt64 else if c = 1 then (zSum3 (zVesf σ) 3).toInt64 * (nI (σ.1 0)).toInt64 else if c = 2 then (nI (σ.1 4)).toInt64 else if c = 3 then ((if σ.2.2.1 0 = -1 then 0 else 1) + (if σ.2.2.1 1 = -1 then 0 else 1) : Int32).toInt64 else zBAD, σ)
def o_sheet (σ : zσ) (s n : Int32) : Int64 × zσ := if zOR s 0 1 ∨ ¬ n ≤ 24 then (zBAD, σ) else if ¬ 0 ≤ n then (zSIZE, σ) else (n.toInt64, (σ.1, σ.2.1, zuZ σ.2.2.1 s.toNatClampNeg n, zuC σ.2.2.2 s.toNatClampNeg (zfill (σ.2.2.2 s.toNatClampNeg) 24 0)))
def zShort (v : Int32) : Int32 := vp_nar .short v.toInt16.toInt32
def o_mark (σ : zσ) (s p v : Int32) : Int64 × zσ := if zOR s 0 1 then (zBAD, σ) else if σ.2.2.1 s.toNatClampNeg = -1 then (zNOTH, σ) else if ¬ (¬ p < 0 ∧ ¬ σ.2.2.1 s.toNatClampNeg ≤ p) then (zINDEX, σ) else ((σ.2.2.2 s.toNatClampNeg p.toNatClampNeg).toInt64, (σ.1, σ.2.1, σ.2.2.1, zuC σ.2.2.2 s.toNatClampNeg (upd (σ.2.2.2 s.toNatClampNeg) p.toNatClampNeg (zShort v))))
theorem zsize {σ : zσ} (hσ : zOk σ) {s : Nat} (hs : s < 2) {p : Int32} (h : ¬ p < 0 ∧ ¬ σ.2.2.1 s ≤ p) : ∃ k, k < 24 ∧ p = nI k := by
  have h1 : 0 ≤ p.toInt := by
    have := mt Int32.lt_iff_toInt_lt.mpr h.1
    have k0 : (0:Int32).toInt = 0 := by decide
    omega
  have h2 : p.toInt < (σ.2.2.1 s).toInt := by
    have := mt Int32.le_iff_toInt_le.mpr h.2
    omega
  have h3 : (σ.2.2.1 s).toInt ≤ 24 := by
    rcases hσ.2.2.2.2.2.2.2.2.2.2.2.2.1 s hs with h | ⟨n, hn, h⟩
    · rw [h]; decide
    · rw [h, nI_toInt (by omega)]; omega
  exact ⟨p.toInt.toNat, by omega, i_toNat h1⟩
set_option maxRecDepth 100000 in
set_option maxHeartbeats 4000000 in
theorem p_hour (l : Launch) (G : zG) (ad : Nat → Nat) (σ : zσ) (x0 : zX) (hσ : zOk σ) (h : Int32) (w : Int32) (v : Int32) : zSem l G sX5_hour [.ref (ad 0), .int h, .int w, .int v] (wP G ad σ x0) (zPost G ad (o_hour σ h w v)) := by
  refine zEnterV (L := [some (.ref (ad 0)), some (.int h), some (.int w), some (.int v), none, none]) (by decide) rfl (Nat.le_of_ble_eq_true rfl) rfl ?_
  refine a_iload_1 (pc := 0) dX5_hour_0 ?_
  refine a_iconst (v := 0) (pc := 1) dX5_hour_1 (by decide) ?_
  refine a_bipush (v := 11) (pc := 2) dX5_hour_2 (by decide) ?_
  refine cS_P (S2 := sX5_outside) (c_outside l G _ _ _) kc_X5_outside km_X5_64 ks_X5_outside kini_X5 ⟨kn_X5_outside, by decide, by decide⟩ (pc := 4) dX5_hour_4 [] rfl rfl rfl rfl (Nat.le_of_ble_eq_true rfl) ?_
  first | refine a_if_neB (tgt := 31) (pc := 7) dX5_hour_7 (by decide) (fun c_7 => ?_) (fun c_7 => ?_) | refine a_if_ne (tgt := 31) (pc := 7) dX5_hour_7 (by decide) (fun c_7 => ?_) (fun c_7 => ?_)
  · refine a_ldc2 (pc := 31) dX5_hour_31 kl_X5_68 ?_
    exact a_lret (pc := 34) dX5_hour_34 rfl rfl (by first | exact zret' x0 (if_pos (Or.inl c_7)) rfl | exact zret' x0 (if_pos (Or.inr (Or.inl c_16))) rfl | exact zret' x0 (if_pos (Or.inr (Or.inr c_28))) rfl)
  · refine a_iload_2 (pc := 10) dX5_hour_10 ?_
    refine a_iconst (v := 0) (pc := 11) dX5_hour_11 (by decide) ?_
    refine a_iconst (v := 1) (pc := 12) dX5_hour_12 (by decide) ?_
    refine cS_P (S2 := sX5_outside) (c_outside l G _ _ _) kc_X5_outside km_X5_64 ks_X5_outside kini_X5 ⟨kn_X5_outside, by decide, by decide⟩ (pc := 13) dX5_hour_13 [] rfl rfl rfl rfl (Nat.le_of_ble_eq_true rfl) ?_
    first | refine a_if_neB (tgt := 31) (pc := 16) dX5_hour_16 (by decide) (fun c_16 => ?_) (fun c_16 => ?_) | refine a_if_ne (tgt := 31) (pc := 16) dX5_hour_16 (by decide) (fun c_16 => ?_) (fun c_16 => ?_)
    · refine a_ldc2 (pc := 31) dX5_hour_31 kl_X5_68 ?_
      exact a_lret (pc := 34) dX5_hour_34 rfl rfl (by first | exact zret' x0 (if_pos (Or.inl c_7)) rfl | exact zret' x0 (if_pos (Or.inr (Or.inl c_16))) rfl | exact zret' x0 (if_pos (Or.inr (Or.inr c_28))) rfl)
    · refine a_iload_3 (pc := 19) dX5_hour_19 ?_
      refine a_iconst (v := 0) (pc := 20) dX5_hour_20 (by decide) ?_
      refine a_iload_2 (pc := 21) dX5_hour_21 ?_
      refine cS_P (S2 := sX1_mostOf) (c_mostOf l G _) kc_X1_mostOf km_X5_204 ks_X1_mostOf kini_X1 ⟨kn_X1_mostOf, by decide, by decide⟩ (pc := 22) dX5_hour_22 [] rfl rfl rfl rfl (Nat.le_of_ble_eq_true rfl) ?_
      refine cS_P (S2 := sX5_outside) (c_outside l G _ _ _) kc_X5_outside km_X5_64 ks_X5_outside kini_X5 ⟨kn_X5_outside, by decide, by decide⟩ (pc := 25) dX5_hour_25 [] rfl rfl rfl rfl (Nat.le_of_ble_eq_true rfl) ?_
      first | refine a_if_eqB (tgt := 35) (pc := 28) dX5_hour_28 (by decide) (fun c_28 => ?_) (fun c_28 => ?_) | refine a_if_eq (tgt := 35) (pc := 28) dX5_hour_28 (by decide) (fun c_28 => ?_) (fun c_28 => ?_)
      · obtain ⟨k, hk_, rfl⟩ := zrange (n := 11) (by decide) rfl c_7
        rcases zrange2 c_16 with rfl | rfl
        · obtain ⟨mm_, hm_, rfl⟩ : ∃ z, z ≤ 99 ∧ v = nI z := zrange (hi := if (0 : Int32) = 0 then 99 else 999) (n := 99) (by decide) (by decide +kernel) c_28
          refine a_aload_0 (pc := 35) dX5_hour_35 ?_
          refine a_getf (ci := 5) (j := 5) rfl win_X5 (by decide) (pc := 36) dX5_hour_36 kf_X5_40 rfl rfl ?_
          refine a_iload_2 (pc := 39) dX5_hour_39 ?_
          first
            | refine cV_P (ad := ad) (q0 := 18) (S2 := sX1_rowOf) (c_rowOf0 l G (zpk ad [18, 19, 20, 21, 22]) (fun k => nI (σ.2.1 4 k)) (fun k => nI (σ.2.1 5 k)) x0.2.2.2.2.2.2.1 x0.2.2.2.2.2.2.2 0 rfl) kc_X1_rowOf km_X5_207 ki_X1_rowOf kv_X1_rowOf kini_X1 ⟨kn_X1_rowOf, by decide, by decide⟩ (pc := 40) dX5_hour_40 [18, 19, 20, 21, 22] rfl rfl rfl rfl (Nat.le_of_ble_eq_true rfl) rfl rfl rfl ?_
            | refine cV_P (ad := ad) (q0 := 18) (S2 := sX1_rowOf) (c_rowOf1 l G (zpk ad [18, 19, 20, 21, 22]) (fun k => nI (σ.2.1 4 k)) (fun k => nI (σ.2.1 5 k)) x0.2.2.2.2.2.2.1 x0.2.2.2.2.2.2.2 1 (by decide)) kc_X1_rowOf km_X5_207 ki_X1_rowOf kv_X1_rowOf kini_X1 ⟨kn_X1_rowOf, by decide, by decide⟩ (pc := 40) dX5_hour_40 [18, 19, 20, 21, 22] rfl rfl rfl rfl (Nat.le_of_ble_eq_true rfl) rfl rfl rfl ?_
          simp only [zpk, List.getD_cons_succ, List.getD_cons_zero]
          refine a_astore_4 (pc := 43) dX5_hour_43 rfl (by decide) ?_
          refine a_aload_4 (pc := 45) dX5_hour_45 ?_
          refine a_iload_1 (pc := 47) dX5_hour_47 ?_
          refine a_ialdN (pc := 48) dX5_hour_48 rfl (by omega) (by decide) ?_
          refine a_istore_5 (pc := 49) dX5_hour_49 rfl (by decide) ?_
          refine a_aload_4 (pc := 51) dX5_hour_51 ?_
          refine a_iload_1 (pc := 53) dX5_hour_53 ?_
          refine a_iload_3 (pc := 54) dX5_hour_54 ?_
          refine a_iastN (pc := 55) dX5_hour_55 rfl (by omega) (by decide) ?_
          refine a_iload_5 (pc := 56) dX5_hour_56 ?_
          refine a_i2l (pc := 58) dX5_hour_58 ?_
          exact a_lret (pc := 59) dX5_hour_59 rfl rfl (by
              first
              | (have e_ : o_hour σ (nI k) 0 (nI mm_) = ((nI (σ.2.1 4 k)).toInt64, (σ.1, zu2 σ.2.1 4 (zuN (σ.2.1 4) k mm_), σ.2.2)) := by
                  unfold o_hour
                  rw [if_neg (fun h => h.elim c_7 (fun h => h.elim c_16 c_28)), nI_clamp (by omega), nI_clamp (by omega)]
                  rfl
                 exact zret' x0 e_ (by rw [updN]; rfl))
              | (have e_ : o_hour σ (nI k) 1 (nI mm_) = ((nI (σ.2.1 5 k)).toInt64, (σ.1, zu2 σ.2.1 5 (zuN (σ.2.1 5) k mm_), σ.2.2)) := by
                  unfold o_hour
                  rw [if_neg (fun h => h.elim c_7 (fun h => h.elim c_16 c_28)), nI_clamp (by omega), nI_clamp (by omega)]
                  rfl
                 exact zret' x0 e_ (by rw [updN]; rfl)))
        · obtain ⟨mm_, hm_, rfl⟩ : ∃ z, z ≤ 999 ∧ v = nI z := zrange (hi := if (1 : Int32) = 0 then 99 else 999) (n := 999) (by decide) (by decide +kernel) c_28
          refine a_aload_0 (pc := 35) dX5_hour_35 ?_
          refine a_getf (ci := 5) (j := 5) rfl win_X5 (by decide) (pc := 36) dX5_hour_36 kf_X5_40 rfl rfl ?_
          refine a_iload_2 (pc := 39) dX5_hour_39 ?_
          first
            | refine cV_P (ad := ad) (q0 := 18) (S2 := sX1_rowOf) (c_rowOf0 l G (zpk ad [18, 19, 20, 21, 22]) (fun k => nI (σ.2.1 4 k)) (fun k => nI (σ.2.1 5 k)) x0.2.2.2.2.2.2.1 x0.2.2.2.2.2.2.2 0 rfl) kc_X1_rowOf km_X5_207 ki_X1_rowOf kv_X1_rowOf kini_X1 ⟨kn_X1_rowOf, by decide, by decide⟩ (pc := 40) dX5_hour_40 [18, 19, 20, 21, 22] rfl rfl rfl rfl (Nat.le_of_ble_eq_true rfl) rfl rfl rfl ?_
            | refine cV_P (ad := ad) (q0 := 18) (S2 := sX1_rowOf) (c_rowOf1 l G (zpk ad [18, 19, 20, 21, 22]) (fun k => nI (σ.2.1 4 k)) (fun k => nI (σ.2.1 5 k)) x0.2.2.2.2.2.2.1 x0.2.2.2.2.2.2.2 1 (by decide)) kc_X1_rowOf km_X5_207 ki_X1_rowOf kv_X1_rowOf kini_X1 ⟨kn_X1_rowOf, by decide, by decide⟩ (pc := 40) dX5_hour_40 [18, 19, 20, 21, 22] rfl rfl rfl rfl (Nat.le_of_ble_eq_true rfl) rfl rfl rfl ?_
          simp only [zpk, List.getD_cons_succ, List.getD_cons_zero]
          refine a_astore_4 (pc := 43) dX5_hour_43 rfl (by decide) ?_
          refine a_aload_4 (pc := 45) dX5_hour_45 ?_
          refine a_iload_1 (pc := 47) dX5_hour_47 ?_
          refine a_ialdN (pc := 48) dX5_hour_48 rfl (by omega) (by decide) ?_
          refine a_istore_5 (pc := 49) dX5_hour_49 rfl (by decide) ?_
          refine a_aload_4 (pc := 51) dX5_hour_51 ?_
          refine a_iload_1 (pc := 53) dX5_hour_53 ?_
          refine a_iload_3 (pc := 54) dX5_hour_54 ?_
          refine a_iastN (pc := 55) dX5_hour_55 rfl (by omega) (by decide) ?_
          refine a_iload_5 (pc := 56) dX5_hour_56 ?_
          refine a_i2l (pc := 58) dX5_hour_58 ?_
          exact a_lret (pc := 59) dX5_hour_59 rfl rfl (by
              first
              | (have e_ : o_hour σ (nI k) 0 (nI mm_) = ((nI (σ.2.1 4 k)).toInt64, (σ.1, zu2 σ.2.1 4 (zuN (σ.2.1 4) k mm_), σ.2.2)) := by
                  unfold o_hour
                  rw [if_neg (fun h => h.elim c_7 (fun h => h.elim c_16 c_28)), nI_clamp (by omega), nI_clamp (by omega)]
                  rfl
                 exact zret' x0 e_ (by rw [updN]; rfl))
              | (have e_ : o_hour σ (nI k) 1 (nI mm_) = ((nI (σ.2.1 5 k)).toInt64, (σ.1, zu2 σ.2.1 5 (zuN (σ.2.1 5) k mm_), σ.2.2)) := by
                  unfold o_hour
                  rw [if_neg (fun h => h.elim c_7 (fun h => h.elim c_16 c_28)), nI_clamp (by omega), nI_clamp (by omega)]
                  rfl
                 exact zret' x0 e_ (by rw [updN]; rfl)))
      · refine a_ldc2 (pc := 31) dX5_hour_31 kl_X5_68 ?_
        exact a_lret (pc := 34) dX5_hour_34 rfl rfl (by first | exact zret' x0 (if_pos (Or.inl c_7)) rfl | exact zret' x0 (if_pos (Or.inr (Or.inl c_16))) rfl | exact zret' x0 (if_pos (Or.inr (Or.inr c_28))) rfl)

set_option maxRecDepth 100000 in
set_option maxHeartbeats 4000000 in
theorem p_count (l : Launch) (G : zG) (ad : Nat → Nat) (σ : zσ) (x0 : zX) (hσ : zOk σ) (c : Int32) : zSem l G sX5_count [.ref (ad 0), .int c] (wP G ad σ x0) (zPost G ad (o_count σ c)) := by
  refine zEnterV (L := [some (.ref (ad 0)), some (.int c)]) (by decide) rfl (Nat.le_of_ble_eq_true rfl) rfl ?_
  refine a_iload_1 (pc := 0) dX5_count_0 ?_
  rcases zsw3 c with rfl | rfl | rfl | rfl | hc_
  · refine a_tableIn (off := 31) (tgt := 32) (pc := 1) dX5_count_1 (by decide) (by decide) (by decide) (by decide) ?_
    refine a_aload_0 (pc := 32) dX5_count_32 ?_
    refine a_getf (ci := 5) (j := 1) rfl win_X5 (by decide) (pc := 33) dX5_count_33 kf_X5_16 rfl rfl ?_
    refine cV_P (ad := ad) (q0 := 2) (S2 := sX2_standing) (c_standing l G (zpk ad [2, 3]) (zVesf σ) (nI (σ.1 0))) kc_X2_standing km_X5_271 ki_X2_standing kv_X2_standing kini_X2 ⟨kn_X2_standing, by decide, by decide⟩ (pc := 36) dX5_count_36 [2, 3] rfl rfl rfl rfl (Nat.le_of_ble_eq_true rfl) rfl rfl rfl ?_
    refine a_i2l (pc := 39) dX5_count_39 ?_
    exact a_lret (pc := 40) dX5_count_40 rfl rfl (zret' x0 (by unfold o_count; rw [if_pos rfl]) rfl)
  · refine a_tableIn (off := 40) (tgt := 41) (pc := 1) dX5_count_1 (by decide) (by decide) (by decide) (by decide) ?_
    refine a_aload_0 (pc := 41) dX5_count_41 ?_
    refine a_getf (ci := 5) (j := 1) rfl win_X5 (by decide) (pc := 42) dX5_count_42 kf_X5_16 rfl rfl ?_
    refine cV_P (ad := ad) (q0 := 2) (S2 := sX2_standing) (c_standing l G (zpk ad [2, 3]) (zVesf σ) (nI (σ.1 0))) kc_X2_standing km_X5_271 ki_X2_standing kv_X2_standing kini_X2 ⟨kn_X2_standing, by decide, by decide⟩ (pc := 45) dX5_count_45 [2, 3] rfl rfl rfl rfl (Nat.le_of_ble_eq_true rfl) rfl rfl rfl ?_
    refine a_i2l (pc := 48) dX5_count_48 ?_
    refine a_aload_0 (pc := 49) dX5_count_49 ?_
    refine a_getf (ci := 5) (j := 1) rfl win_X5 (by decide) (pc := 50) dX5_count_50 kf_X5_16 rfl rfl ?_
    refine a_getfN (ci := 2) (j := 1) rfl win_X2 (by decide) (pc := 53) dX5_count_53 kf_X5_73 rfl rfl ?_
    refine a_i2l (pc := 56) dX5_count_56 ?_
    refine a_lmul (pc := 57) dX5_count_57 ?_
    exact a_lret (pc := 58) dX5_count_58 rfl rfl (zret' x0 (by unfold o_count; rw [if_neg (by decide), if_pos rfl]) rfl)
  · refine a_tableIn (off := 58) (tgt := 59) (pc := 1) dX5_count_1 (by decide) (by decide) (by decide) (by decide) ?_
    refine a_aload_0 (pc := 59) dX5_count_59 ?_
    refine a_getf (ci := 5) (j := 10) rfl win_X5 (by decide) (pc := 60) dX5_count_60 kf_X5_61 rfl rfl ?_
    refine a_i2l (pc := 63) dX5_count_63 ?_
    exact a_lret (pc := 64) dX5_count_64 rfl rfl (zret' x0 (by unfold o_count; rw [if_neg (by decide), if_neg (by decide), if_pos rfl]) rfl)
  · refine a_tableIn (off := 64) (tgt := 65) (pc := 1) dX5_count_1 (by decide) (by decide) (by decide) (by decide) ?_
    refine a_aload_0 (pc := 65) dX5_count_65 ?_
    refine a_getf (ci := 5) (j := 6) rfl win_X5 (by decide) (pc := 66) dX5_count_66 kf_X5_47 rfl rfl ?_
    refine a_iconst (v := 0) (pc := 69) dX5_count_69 (by decide) ?_
    refine a_aaldN (k := 0) (pc := 70) dX5_count_70 rfl (by omega) (by decide) rfl ?_
    first
      | refine cV_P (ad := ad) (q0 := 24) (S2 := sX3_isMissing) (c_isMissing l G (zpk ad [24, 25]) (σ.2.2.2 0) (σ.2.2.1 0)) kc_X3_isMissing km_X5_211 ki_X3_isMissing kv_X3_isMissing kini_X3 ⟨kn_X3_isMissing, by decide, by decide⟩ (pc := 71) dX5_count_71 [24, 25] rfl rfl rfl rfl (Nat.le_of_ble_eq_true rfl) rfl rfl rfl ?_
      | refine cV_P (ad := ad) (q0 := 26) (S2 := sX3_isMissing) (c_isMissing l G (zpk ad [26, 27]) (σ.2.2.2 1) (σ.2.2.1 1)) kc_X3_isMissing km_X5_211 ki_X3_isMissing kv_X3_isMissing kini_X3 ⟨kn_X3_isMissing, by decide, by decide⟩ (pc := 71) dX5_count_71 [26, 27] rfl rfl rfl rfl (Nat.le_of_ble_eq_true rfl) rfl rfl rfl ?_
    first | refine a_if_eqB (tgt := 81) (pc := 74) dX5_count_74 (by decide) (fun c_74 => ?_) (fun c_74 => ?_) | refine a_if_eq (tgt := 81) (pc := 74) dX5_count_74 (by decide) (fun c_74 => ?_) (fun c_74 => ?_)
    · refine a_iconst (v := 1) (pc := 81) dX5_count_81 (by decide) ?_
      refine a_aload_0 (pc := 82) dX5_count_82 ?_
      refine a_getf (ci := 5) (j := 6) rfl win_X5 (by decide) (pc := 83) dX5_count_83 kf_X5_47 rfl rfl ?_
      refine a_iconst (v := 1) (pc := 86) dX5_count_86 (by decide) ?_
      refine a_aaldN (k := 1) (pc := 87) dX5_count_87 rfl (by omega) (by decide) rfl ?_
      first
        | refine cV_P (ad := ad) (q0 := 24) (S2 := sX3_isMissing) (c_isMissing l G (zpk ad [24, 25]) (σ.2.2.2 0) (σ.2.2.1 0)) kc_X3_isMissing km_X5_211 ki_X3_isMissing kv_X3_isMissing kini_X3 ⟨kn_X3_isMissing, by decide, by decide⟩ (pc := 88) dX5_count_88 [24, 25] rfl rfl rfl rfl (Nat.le_of_ble_eq_true rfl) rfl rfl rfl ?_
        | refine cV_P (ad := ad) (q0 := 26) (S2 := sX3_isMissing) (c_isMissing l G (zpk ad [26, 27]) (σ.2.2.2 1) (σ.2.2.1 1)) kc_X3_isMissing km_X5_211 ki_X3_isMissing kv_X3_isMissing kini_X3 ⟨kn_X3_isMissing, by decide, by decide⟩ (pc := 88) dX5_count_88 [26, 27] rfl rfl rfl rfl (Nat.le_of_ble_eq_true rfl) rfl rfl rfl ?_
      first | refine a_if_eqB (tgt := 98) (pc := 91) dX5_count_91 (by decide) (fun c_91 => ?_) (fun c_91 => ?_) | refine a_if_eq (tgt := 98) (pc := 91) dX5_count_91 (by decide) (fun c_91 => ?_) (fun c_91 => ?_)
      · refine a_iconst (v := 1) (pc := 98) dX5_count_98 (by decide) ?_
        refine a_iadd (pc := 99) dX5_count_99 ?_
        refine a_i2l (pc := 100) dX5_count_100 ?_
        exact a_lret (pc := 101) dX5_count_101 rfl rfl (zret' x0 (by unfold o_count; rw [if_neg (by decide), if_neg (by decide), if_neg (by decide), if_pos rfl]; first | rw [if_pos c_74, if_pos c_91] | rw [if_pos c_74, if_neg c_91] | rw [if_neg c_74, if_pos c_91] | rw [if_neg c_74, if_neg c_91]) rfl)
      · refine a_iconst (v := 0) (pc := 94) dX5_count_94 (by decide) ?_
        refine a_goto (tgt := 99) (pc := 95) dX5_count_95 (by decide) ?_
        refine a_iadd (pc := 99) dX5_count_99 ?_
        refine a_i2l (pc := 100) dX5_count_100 ?_
        exact a_lret (pc := 101) dX5_count_101 rfl rfl (zret' x0 (by unfold o_count; rw [if_neg (by decide), if_neg (by decide), if_neg (by decide), if_pos rfl]; first | rw [if_pos c_74, if_pos c_91] | rw [if_pos c_74, if_neg c_91] | rw [if_neg c_74, if_pos c_91] | rw [if_neg c_74, if_neg c_91]) rfl)
    · refine a_iconst (v := 0) (pc := 77) dX5_count_77 (by decide) ?_
      refine a_goto (tgt := 82) (pc := 78) dX5_count_78 (by decide) ?_
      refine a_aload_0 (pc := 82) dX5_count_82 ?_
      refine a_getf (ci := 5) (j := 6) rfl win_X5 (by decide) (pc := 83) dX5_count_83 kf_X5_47 rfl rfl ?_
      refine a_iconst (v := 1) (pc := 86) dX5_count_86 (by decide) ?_
      refine a_aaldN (k := 1) (pc := 87) dX5_count_87 rfl (by omega) (by decide) rfl ?_
      first
        | refine cV_P (ad := ad) (q0 := 24) (S2 := sX3_isMissing) (c_isMissing l G (zpk ad [24, 25]) (σ.2.2.2 0) (σ.2.2.1 0)) kc_X3_isMissing km_X5_211 ki_X3_isMissing kv_X3_isMissing kini_X3 ⟨kn_X3_isMissing, by decide, by decide⟩ (pc := 88) dX5_count_88 [24, 25] rfl rfl rfl rfl (Nat.le_of_ble_eq_true rfl) rfl rfl rfl ?_
        | refine cV_P (ad := ad) (q0 := 26) (S2 := sX3_isMissing) (c_isMissing l G (zpk ad [26, 27]) (σ.2.2.2 1) (σ.2.2.1 1)) kc_X3_isMissing km_X5_211 ki_X3_isMissing kv_X3_isMissing kini_X3 ⟨kn_X3_isMissing, by decide, by decide⟩ (pc := 88) dX5_count_88 [26, 27] rfl rfl rfl rfl (Nat.le_of_ble_eq_true rfl) rfl rfl rfl ?_
      first | refine a_if_eqB (tgt := 98) (pc := 91) dX5_count_91 (by decide) (fun c_91 => ?_) (fun c_91 => ?_) | refine a_if_eq (tgt := 98) (pc := 91) dX5_count_91 (by decide) (fun c_91 => ?_) (fun c_91 => ?_)
      · refine a_iconst (v := 1) (pc := 98) dX5_count_98 (by decide) ?_
        refine a_iadd (pc := 99) dX5_count_99 ?_
        refine a_i2l (pc := 100) dX5_count_100 ?_
        exact a_lret (pc := 101) dX5_count_101 rfl rfl (zret' x0 (by unfold o_count; rw [if_neg (by decide), if_neg (by decide), if_neg (by decide), if_pos rfl]; first | rw [if_pos c_74, if_pos c_91] | rw [if_pos c_74, if_neg c_91] | rw [if_neg c_74, if_pos c_91] | rw [if_neg c_74, if_neg c_91]) rfl)
      · refine a_iconst (v := 0) (pc := 94) dX5_count_94 (by decide) ?_
        refine a_goto (tgt := 99) (pc := 95) dX5_count_95 (by decide) ?_
        refine a_iadd (pc := 99) dX5_count_99 ?_
        refine a_i2l (pc := 100) dX5_count_100 ?_
        exact a_lret (pc := 101) dX5_count_101 rfl rfl (zret' x0 (by unfold o_count; rw [if_neg (by decide), if_neg (by decide), if_neg (by decide), if_pos rfl]; first | rw [if_pos c_74, if_pos c_91] | rw [if_pos c_74, if_neg c_91] | rw [if_neg c_74, if_pos c_91] | rw [if_neg c_74, if_neg c_91]) rfl)
  · refine a_tableOut (tgt := 102) (pc := 1) dX5_count_1 hc_ (by decide) ?_
    refine a_ldc2 (pc := 102) dX5_count_102 kl_X5_68 ?_
    exact a_lret (pc := 105) dX5_count_105 rfl rfl (zret' x0 (by unfold o_count; rw [if_neg (fun h => by subst h; exact absurd hc_ (by decide)), if_neg (fun h => by subst h; exact absurd hc_ (by decide)), if_neg (fun h => by subst h; exact absurd hc_ (by decide)), if_neg (fun h => by subst h; exact absurd hc_ (by decide))]) rfl)

set_option maxRecDepth 100000 in
set_option maxHeartbeats 4000000 in
theorem p_sheet (l : Launch) (G : zG) (ad : Nat → Nat) (σ : zσ) (x0 : zX) (hσ : zOk σ) (s : Int32) (n : Int32) : zSem l G sX5_sheet [.ref (ad 0), .int s, .int n] (wP G ad σ x0) (zPost G ad (o_sheet σ s n)) := by
  refine zEnterV (L := [some (.ref (ad 0)), some (.int s), some (.int n)]) (by decide) rfl (Nat.le_of_ble_eq_true rfl) rfl ?_
  refine a_iload_1 (pc := 0) dX5_sheet_0 ?_
  refine a_iconst (v := 0) (pc := 1) dX5_sheet_1 (by decide) ?_
  refine a_iconst (v := 1) (pc := 2) dX5_sheet_2 (by decide) ?_
  refine cS_P (S2 := sX5_outside) (c_outside l G _ _ _) kc_X5_outside km_X5_64 ks_X5_outside kini_X5 ⟨kn_X5_outside, by decide, by decide⟩ (pc := 3) dX5_sheet_3 [] rfl rfl rfl rfl (Nat.le_of_ble_eq_true rfl) ?_
  first | refine a_if_neB (tgt := 15) (pc := 6) dX5_sheet_6 (by decide) (fun c_6 => ?_) (fun c_6 => ?_) | refine a_if_ne (tgt := 15) (pc := 6) dX5_sheet_6 (by decide) (fun c_6 => ?_) (fun c_6 => ?_)
  · refine a_ldc2 (pc := 15) dX5_sheet_15 kl_X5_68 ?_
    exact a_lret (pc := 18) dX5_sheet_18 rfl rfl (by first | exact zret' x0 (if_pos (Or.inl c_6)) rfl | exact zret' x0 (if_pos (Or.inr c_12)) rfl)
  · refine a_iload_2 (pc := 9) dX5_sheet_9 ?_
    refine a_bipush (v := 24) (pc := 10) dX5_sheet_10 (by decide) ?_
    refine a_icmp_le (tgt := 19) (pc := 12) dX5_sheet_12 (by decide) (fun c_12 => ?_) (fun c_12 => ?_)
    · refine a_iload_2 (pc := 19) dX5_sheet_19 ?_
      refine a_if_ge (tgt := 27) (pc := 20) dX5_sheet_20 (by decide) (fun c_20 => ?_) (fun c_20 => ?_)
      · rcases zrange2 c_6 with rfl | rfl
        · refine a_aload_0 (pc := 27) dX5_sheet_27 ?_
          refine a_getf (ci := 5) (j := 6) rfl win_X5 (by decide) (pc := 28) dX5_sheet_28 kf_X5_47 rfl rfl ?_
          refine a_iload_1 (pc := 31) dX5_sheet_31 ?_
          refine a_aaldN (k := 0) (pc := 32) dX5_sheet_32 rfl (by decide) (by decide) rfl ?_
          refine a_iload_2 (pc := 33) dX5_sheet_33 ?_
          first
            | refine cV_0 (ad := ad) (q0 := 24) (S2 := sX3_begin) (c_begin l G (zpk ad [24, 25]) (σ.2.2.2 0) (σ.2.2.1 0) n) kc_X3_begin km_X5_256 ki_X3_begin kv_X3_begin kini_X3 ⟨kn_X3_begin, by decide, by decide⟩ (pc := 34) dX5_sheet_34 [24, 25] rfl rfl rfl rfl (Nat.le_of_ble_eq_true rfl) rfl rfl rfl (fun _ => wP G ad (σ.1, σ.2.1, zuZ σ.2.2.1 0 n, zuC σ.2.2.2 0 (zfill (σ.2.2.2 0) 24 0)) x0) (fun _ => rfl) (fun _u _ => ?_)
            | refine cV_0 (ad := ad) (q0 := 26) (S2 := sX3_begin) (c_begin l G (zpk ad [26, 27]) (σ.2.2.2 1) (σ.2.2.1 1) n) kc_X3_begin km_X5_256 ki_X3_begin kv_X3_begin kini_X3 ⟨kn_X3_begin, by decide, by decide⟩ (pc := 34) dX5_sheet_34 [26, 27] rfl rfl rfl rfl (Nat.le_of_ble_eq_true rfl) rfl rfl rfl (fun _ => wP G ad (σ.1, σ.2.1, zuZ σ.2.2.1 1 n, zuC σ.2.2.2 1 (zfill (σ.2.2.2 1) 24 0)) x0) (fun _ => rfl) (fun _u _ => ?_)
          refine a_iload_2 (pc := 37) dX5_sheet_37 ?_
          refine a_i2l (pc := 38) dX5_sheet_38 ?_
          exact a_lret (pc := 39) dX5_sheet_39 rfl rfl (zret' x0 (by unfold o_sheet; rw [if_neg (fun h => h.elim c_6 (fun h => h c_12)), if_neg (fun h => h c_20)]; rfl) rfl)
        · refine a_aload_0 (pc := 27) dX5_sheet_27 ?_
          refine a_getf (ci := 5) (j := 6) rfl win_X5 (by decide) (pc := 28) dX5_sheet_28 kf_X5_47 rfl rfl ?_
          refine a_iload_1 (pc := 31) dX5_sheet_31 ?_
          refine a_aaldN (k := 1) (pc := 32) dX5_sheet_32 rfl (by decide) (by decide) rfl ?_
          refine a_iload_2 (pc := 33) dX5_sheet_33 ?_
          first
            | refine cV_0 (ad := ad) (q0 := 24) (S2 := sX3_begin) (c_begin l G (zpk ad [24, 25]) (σ.2.2.2 0) (σ.2.2.1 0) n) kc_X3_begin km_X5_256 ki_X3_begin kv_X3_begin kini_X3 ⟨kn_X3_begin, by decide, by decide⟩ (pc := 34) dX5_sheet_34 [24, 25] rfl rfl rfl rfl (Nat.le_of_ble_eq_true rfl) rfl rfl rfl (fun _ => wP G ad (σ.1, σ.2.1, zuZ σ.2.2.1 0 n, zuC σ.2.2.2 0 (zfill (σ.2.2.2 0) 24 0)) x0) (fun _ => rfl) (fun _u _ => ?_)
            | refine cV_0 (ad := ad) (q0 := 26) (S2 := sX3_begin) (c_begin l G (zpk ad [26, 27]) (σ.2.2.2 1) (σ.2.2.1 1) n) kc_X3_begin km_X5_256 ki_X3_begin kv_X3_begin kini_X3 ⟨kn_X3_begin, by decide, by decide⟩ (pc := 34) dX5_sheet_34 [26, 27] rfl rfl rfl rfl (Nat.le_of_ble_eq_true rfl) rfl rfl rfl (fun _ => wP G ad (σ.1, σ.2.1, zuZ σ.2.2.1 1 n, zuC σ.2.2.2 1 (zfill (σ.2.2.2 1) 24 0)) x0) (fun _ => rfl) (fun _u _ => ?_)
          refine a_iload_2 (pc := 37) dX5_sheet_37 ?_
          refine a_i2l (pc := 38) dX5_sheet_38 ?_
          exact a_lret (pc := 39) dX5_sheet_39 rfl rfl (zret' x0 (by unfold o_sheet; rw [if_neg (fun h => h.elim c_6 (fun h => h c_12)), if_neg (fun h => h c_20)]; rfl) rfl)
      · refine a_ldc2 (pc := 23) dX5_sheet_23 kl_X5_254 ?_
        exact a_lret (pc := 26) dX5_sheet_26 rfl rfl (zret' x0 (by unfold o_sheet; rw [if_neg (fun h => h.elim c_6 (fun h => h c_12)), if_pos c_20]) rfl)
    · refine a_ldc2 (pc := 15) dX5_sheet_15 kl_X5_68 ?_
      exact a_lret (pc := 18) dX5_sheet_18 rfl rfl (by first | exact zret' x0 (if_pos (Or.inl c_6)) rfl | exact zret' x0 (if_pos (Or.inr c_12)) rfl)

set_option maxRecDepth 100000 in
set_option maxHeartbeats 4000000 in
theorem p_mark (l : Launch) (G : zG) (ad : Nat → Nat) (σ : zσ) (x0 : zX) (hσ : zOk σ) (s : Int32) (p : Int32) (v : Int32) : zSem l G sX5_mark [.ref (ad 0), .int s, .int p, .int v] (wP G ad σ x0) (zPost G ad (o_mark σ s p v)) := by
  refine zEnterV (L := [some (.ref (ad 0)), some (.int s), some (.int p), some (.int v), none]) (by decide) rfl (Nat.le_of_ble_eq_true rfl) rfl ?_
  refine a_iload_1 (pc := 0) dX5_mark_0 ?_
  refine a_iconst (v := 0) (pc := 1) dX5_mark_1 (by decide) ?_
  refine a_iconst (v := 1) (pc := 2) dX5_mark_2 (by decide) ?_
  refine cS_P (S2 := sX5_outside) (c_outside l G _ _ _) kc_X5_outside km_X5_64 ks_X5_outside kini_X5 ⟨kn_X5_outside, by decide, by decide⟩ (pc := 3) dX5_mark_3 [] rfl rfl rfl rfl (Nat.le_of_ble_eq_true rfl) ?_
  first | refine a_if_eqB (tgt := 13) (pc := 6) dX5_mark_6 (by decide) (fun c_6 => ?_) (fun c_6 => ?_) | refine a_if_eq (tgt := 13) (pc := 6) dX5_mark_6 (by decide) (fun c_6 => ?_) (fun c_6 => ?_)
  · rcases zrange2 c_6 with rfl | rfl
    · refine a_aload_0 (pc := 13) dX5_mark_13 ?_
      refine a_getf (ci := 5) (j := 6) rfl win_X5 (by decide) (pc := 14) dX5_mark_14 kf_X5_47 rfl rfl ?_
      refine a_iload_1 (pc := 17) dX5_mark_17 ?_
      refine a_aaldN (k := 0) (pc := 18) dX5_mark_18 rfl (by decide) (by decide) rfl ?_
      first
        | refine cV_P (ad := ad) (q0 := 24) (S2 := sX3_isMissing) (c_isMissing l G (zpk ad [24, 25]) (σ.2.2.2 0) (σ.2.2.1 0)) kc_X3_isMissing km_X5_211 ki_X3_isMissing kv_X3_isMissing kini_X3 ⟨kn_X3_isMissing, by decide, by decide⟩ (pc := 19) dX5_mark_19 [24, 25] rfl rfl rfl rfl (Nat.le_of_ble_eq_true rfl) rfl rfl rfl ?_
        | refine cV_P (ad := ad) (q0 := 26) (S2 := sX3_isMissing) (c_isMissing l G (zpk ad [26, 27]) (σ.2.2.2 1) (σ.2.2.1 1)) kc_X3_isMissing km_X5_211 ki_X3_isMissing kv_X3_isMissing kini_X3 ⟨kn_X3_isMissing, by decide, by decide⟩ (pc := 19) dX5_mark_19 [26, 27] rfl rfl rfl rfl (Nat.le_of_ble_eq_true rfl) rfl rfl rfl ?_
      first | refine a_if_eqB (tgt := 29) (pc := 22) dX5_mark_22 (by decide) (fun c_22 => ?_) (fun c_22 => ?_) | refine a_if_eq (tgt := 29) (pc := 22) dX5_mark_22 (by decide) (fun c_22 => ?_) (fun c_22 => ?_)
      · refine a_aload_0 (pc := 29) dX5_mark_29 ?_
        refine a_getf (ci := 5) (j := 6) rfl win_X5 (by decide) (pc := 30) dX5_mark_30 kf_X5_47 rfl rfl ?_
        refine a_iload_1 (pc := 33) dX5_mark_33 ?_
        refine a_aaldN (k := 0) (pc := 34) dX5_mark_34 rfl (by decide) (by decide) rfl ?_
        refine a_iload_2 (pc := 35) dX5_mark_35 ?_
        first
          | refine cV_P (ad := ad) (q0 := 24) (S2 := sX3_has) (c_has l G (zpk ad [24, 25]) (σ.2.2.2 0) (σ.2.2.1 0) p) kc_X3_has km_X5_217 ki_X3_has kv_X3_has kini_X3 ⟨kn_X3_has, by decide, by decide⟩ (pc := 36) dX5_mark_36 [24, 25] rfl rfl rfl rfl (Nat.le_of_ble_eq_true rfl) rfl rfl rfl ?_
          | refine cV_P (ad := ad) (q0 := 26) (S2 := sX3_has) (c_has l G (zpk ad [26, 27]) (σ.2.2.2 1) (σ.2.2.1 1) p) kc_X3_has km_X5_217 ki_X3_has kv_X3_has kini_X3 ⟨kn_X3_has, by decide, by decide⟩ (pc := 36) dX5_mark_36 [26, 27] rfl rfl rfl rfl (Nat.le_of_ble_eq_true rfl) rfl rfl rfl ?_
        first | refine a_if_neB (tgt := 46) (pc := 39) dX5_mark_39 (by decide) (fun c_39 => ?_) (fun c_39 => ?_) | refine a_if_ne (tgt := 46) (pc := 39) dX5_mark_39 (by decide) (fun c_39 => ?_) (fun c_39 => ?_)
        · have hcc_ := c_39
          obtain ⟨k, hk_, rfl⟩ : ∃ k, k < 24 ∧ p = nI k := by first | exact zsize hσ (s := 0) (by decide) hcc_ | exact zsize hσ (s := 1) (by decide) hcc_
          refine a_aload_0 (pc := 46) dX5_mark_46 ?_
          refine a_getf (ci := 5) (j := 6) rfl win_X5 (by decide) (pc := 47) dX5_mark_47 kf_X5_47 rfl rfl ?_
          refine a_iload_1 (pc := 50) dX5_mark_50 ?_
          refine a_aaldN (k := 0) (pc := 51) dX5_mark_51 rfl (by decide) (by decide) rfl ?_
          refine a_getfN (ci := 3) (j := 0) rfl win_X3 (by decide) (pc := 52) dX5_mark_52 kf_X5_220 rfl rfl ?_
          refine a_iload_2 (pc := 55) dX5_mark_55 ?_
          refine a_saldN (pc := 56) dX5_mark_56 rfl (by omega) (by decide) ?_
          refine a_istore_4 (pc := 57) dX5_mark_57 rfl (by decide) ?_
          refine a_aload_0 (pc := 59) dX5_mark_59 ?_
          refine a_getf (ci := 5) (j := 6) rfl win_X5 (by decide) (pc := 60) dX5_mark_60 kf_X5_47 rfl rfl ?_
          refine a_iload_1 (pc := 63) dX5_mark_63 ?_
          refine a_aaldN (k := 0) (pc := 64) dX5_mark_64 rfl (by decide) (by decide) rfl ?_
          refine a_getfN (ci := 3) (j := 0) rfl win_X3 (by decide) (pc := 65) dX5_mark_65 kf_X5_220 rfl rfl ?_
          refine a_iload_2 (pc := 68) dX5_mark_68 ?_
          refine a_iload_3 (pc := 69) dX5_mark_69 ?_
          refine a_i2s (pc := 70) dX5_mark_70 ?_
          refine a_sastN (pc := 71) dX5_mark_71 rfl (by omega) (by decide) ?_
          refine a_iload_4 (pc := 72) dX5_mark_72 ?_
          refine a_i2l (pc := 74) dX5_mark_74 ?_
          exact a_lret (pc := 75) dX5_mark_75 rfl rfl (by
              first
              | exact zret' (σ' := (σ.1, σ.2.1, σ.2.2.1, zuC σ.2.2.2 0 (upd (σ.2.2.2 0) k (zShort v)))) x0 (by unfold o_mark; rw [if_neg c_6]; refine (if_neg c_22).trans ?_; refine (if_neg (fun h => h hcc_)).trans ?_; rw [nI_clamp (by omega)]; rfl) rfl
              | exact zret' (σ' := (σ.1, σ.2.1, σ.2.2.1, zuC σ.2.2.2 1 (upd (σ.2.2.2 1) k (zShort v)))) x0 (by unfold o_mark; rw [if_neg c_6]; refine (if_neg c_22).trans ?_; refine (if_neg (fun h => h hcc_)).trans ?_; rw [nI_clamp (by omega)]; rfl) rfl)
        · refine a_ldc2 (pc := 42) dX5_mark_42 kl_X5_260 ?_
          exact a_lret (pc := 45) dX5_mark_45 rfl rfl (zret' x0 (by unfold o_mark; rw [if_neg c_6]; refine (if_neg c_22).trans ?_; exact if_pos c_39) rfl)
      · refine a_ldc2 (pc := 25) dX5_mark_25 kl_X5_215 ?_
        exact a_lret (pc := 28) dX5_mark_28 rfl rfl (zret' x0 (by unfold o_mark; rw [if_neg c_6]; exact if_pos c_22) rfl)
    · refine a_aload_0 (pc := 13) dX5_mark_13 ?_
      refine a_getf (ci := 5) (j := 6) rfl win_X5 (by decide) (pc := 14) dX5_mark_14 kf_X5_47 rfl rfl ?_
      refine a_iload_1 (pc := 17) dX5_mark_17 ?_
      refine a_aaldN (k := 1) (pc := 18) dX5_mark_18 rfl (by decide) (by decide) rfl ?_
      first
        | refine cV_P (ad := ad) (q0 := 24) (S2 := sX3_isMissing) (c_isMissing l G (zpk ad [24, 25]) (σ.2.2.2 0) (σ.2.2.1 0)) kc_X3_isMissing km_X5_211 ki_X3_isMissing kv_X3_isMissing kini_X3 ⟨kn_X3_isMissing, by decide, by decide⟩ (pc := 19) dX5_mark_19 [24, 25] rfl rfl rfl rfl (Nat.le_of_ble_eq_true rfl) rfl rfl rfl ?_
        | refine cV_P (ad := ad) (q0 := 26) (S2 := sX3_isMissing) (c_isMissing l G (zpk ad [26, 27]) (σ.2.2.2 1) (σ.2.2.1 1)) kc_X3_isMissing km_X5_211 ki_X3_isMissing kv_X3_isMissing kini_X3 ⟨kn_X3_isMissing, by decide, by decide⟩ (pc := 19) dX5_mark_19 [26, 27] rfl rfl rfl rfl (Nat.le_of_ble_eq_true rfl) rfl rfl rfl ?_
      first | refine a_if_eqB (tgt := 29) (pc := 22) dX5_mark_22 (by decide) (fun c_22 => ?_) (fun c_22 => ?_) | refine a_if_eq (tgt := 29) (pc := 22) dX5_mark_22 (by decide) (fun c_22 => ?_) (fun c_22 => ?_)
      · refine a_aload_0 (pc := 29) dX5_mark_29 ?_
        refine a_getf (ci := 5) (j := 6) rfl win_X5 (by decide) (pc := 30) dX5_mark_30 kf_X5_47 rfl rfl ?_
        refine a_iload_1 (pc := 33) dX5_mark_33 ?_
        refine a_aaldN (k := 1) (pc := 34) dX5_mark_34 rfl (by decide) (by decide) rfl ?_
        refine a_iload_2 (pc := 35) dX5_mark_35 ?_
        first
          | refine cV_P (ad := ad) (q0 := 24) (S2 := sX3_has) (c_has l G (zpk ad [24, 25]) (σ.2.2.2 0) (σ.2.2.1 0) p) kc_X3_has km_X5_217 ki_X3_has kv_X3_has kini_X3 ⟨kn_X3_has, by decide, by decide⟩ (pc := 36) dX5_mark_36 [24, 25] rfl rfl rfl rfl (Nat.le_of_ble_eq_true rfl) rfl rfl rfl ?_
          | refine cV_P (ad := ad) (q0 := 26) (S2 := sX3_has) (c_has l G (zpk ad [26, 27]) (σ.2.2.2 1) (σ.2.2.1 1) p) kc_X3_has km_X5_217 ki_X3_has kv_X3_has kini_X3 ⟨kn_X3_has, by decide, by decide⟩ (pc := 36) dX5_mark_36 [26, 27] rfl rfl rfl rfl (Nat.le_of_ble_eq_true rfl) rfl rfl rfl ?_
        first | refine a_if_neB (tgt := 46) (pc := 39) dX5_mark_39 (by decide) (fun c_39 => ?_) (fun c_39 => ?_) | refine a_if_ne (tgt := 46) (pc := 39) dX5_mark_39 (by decide) (fun c_39 => ?_) (fun c_39 => ?_)
        · have hcc_ := c_39
          obtain ⟨k, hk_, rfl⟩ : ∃ k, k < 24 ∧ p = nI k := by first | exact zsize hσ (s := 0) (by decide) hcc_ | exact zsize hσ (s := 1) (by decide) hcc_
          refine a_aload_0 (pc := 46) dX5_mark_46 ?_
          refine a_getf (ci := 5) (j := 6) rfl win_X5 (by decide) (pc := 47) dX5_mark_47 kf_X5_47 rfl rfl ?_
          refine a_iload_1 (pc := 50) dX5_mark_50 ?_
          refine a_aaldN (k := 1) (pc := 51) dX5_mark_51 rfl (by decide) (by decide) rfl ?_
          refine a_getfN (ci := 3) (j := 0) rfl win_X3 (by decide) (pc := 52) dX5_mark_52 kf_X5_220 rfl rfl ?_
          refine a_iload_2 (pc := 55) dX5_mark_55 ?_
          refine a_saldN (pc := 56) dX5_mark_56 rfl (by omega) (by decide) ?_
          refine a_istore_4 (pc := 57) dX5_mark_57 rfl (by decide) ?_
          refine a_aload_0 (pc := 59) dX5_mark_59 ?_
          refine a_getf (ci := 5) (j := 6) rfl win_X5 (by decide) (pc := 60) dX5_mark_60 kf_X5_47 rfl rfl ?_
          refine a_iload_1 (pc := 63) dX5_mark_63 ?_
          refine a_aaldN (k := 1) (pc := 64) dX5_mark_64 rfl (by decide) (by decide) rfl ?_
          refine a_getfN (ci := 3) (j := 0) rfl win_X3 (by decide) (pc := 65) dX5_mark_65 kf_X5_220 rfl rfl ?_
          refine a_iload_2 (pc := 68) dX5_mark_68 ?_
          refine a_iload_3 (pc := 69) dX5_mark_69 ?_
          refine a_i2s (pc := 70) dX5_mark_70 ?_
          refine a_sastN (pc := 71) dX5_mark_71 rfl (by omega) (by decide) ?_
          refine a_iload_4 (pc := 72) dX5_mark_72 ?_
          refine a_i2l (pc := 74) dX5_mark_74 ?_
          exact a_lret (pc := 75) dX5_mark_75 rfl rfl (by
              first
              | exact zret' (σ' := (σ.1, σ.2.1, σ.2.2.1, zuC σ.2.2.2 0 (upd (σ.2.2.2 0) k (zShort v)))) x0 (by unfold o_mark; rw [if_neg c_6]; refine (if_neg c_22).trans ?_; refine (if_neg (fun h => h hcc_)).trans ?_; rw [nI_clamp (by omega)]; rfl) rfl
              | exact zret' (σ' := (σ.1, σ.2.1, σ.2.2.1, zuC σ.2.2.2 1 (upd (σ.2.2.2 1) k (zShort v)))) x0 (by unfold o_mark; rw [if_neg c_6]; refine (if_neg c_22).trans ?_; refine (if_neg (fun h => h hcc_)).trans ?_; rw [nI_clamp (by omega)]; rfl) rfl)
        · refine a_ldc2 (pc := 42) dX5_mark_42 kl_X5_260 ?_
          exact a_lret (pc := 45) dX5_mark_45 rfl rfl (zret' x0 (by unfold o_mark; rw [if_neg c_6]; refine (if_neg c_22).trans ?_; exact if_pos c_39) rfl)
      · refine a_ldc2 (pc := 25) dX5_mark_25 kl_X5_215 ?_
        exact a_lret (pc := 28) dX5_mark_28 rfl rfl (zret' x0 (by unfold o_mark; rw [if_neg c_6]; exact if_pos c_22) rfl)
  · refine a_ldc2 (pc := 9) dX5_mark_9 kl_X5_68 ?_
    exact a_lret (pc := 12) dX5_mark_12 rfl rfl (zret' x0 (if_pos c_6) rfl)
end
section
/-! The plant: flows. -/
def zMf (f : Nat → Nat) (s : Nat) : Nat := if ∀ j, j < s → ¬ f j = 0 then f s else 0
theorem zVin_N {f : Nat → Nat} (h : ∀ k, k < 3 → f k ≤ 4) {s : Nat} (hs : s < 3) : zVin (fun k => nI (f k)) s = nI (zMf f s) ∧ zMf f s ≤ 4 := by
  have key : (∀ j, j < s → ¬ nI (f j) = 0) ↔ ∀ j, j < s → ¬ f j = 0 := by
    constructor
    · intro q j hj e; exact q j hj (by rw [e]; rfl)
    · intro q j hj e; exact q j hj (zI_inj (by have := h j (by omega); omega) (by decide) e)
  unfold zVin zMf
  by_cases q : ∀ j, j < s → ¬ f j = 0
  · rw [if_pos (key.mpr q), if_pos q]; exact ⟨rfl, h s hs⟩
  · rw [if_neg (fun z => q (key.mp z)), if_neg q]; exact ⟨rfl, by omega⟩
abbrev zPaf (σ : zσ) : Nat → Int32 := zPass (zKd σ) (zFo σ)
abbrev zLef (σ : zσ) : Nat → Int32 := zLeak (zKd σ)
abbrev zMs (σ : zσ) : Nat → Nat := zMf (σ.2.1 0)
abbrev zS0p (σ : zσ) (p : Int32) : zSt3 := ((nI (σ.1 1)).toInt64, (nI (σ.1 1)).toInt64 * (nI (σ.1 2)).toInt64, p.toInt64)
theorem zVs_cg {pa le pa2 le2 : Nat → Int32} {f0 : Nat} {s : zSt3} : ∀ j, (∀ k, k < f0 + j → pa k = pa2 k ∧ le k = le2 k) → zVs pa le f0 s j = zVs pa2 le2 f0 s j
  | 0, _ => rfl
  | j + 1, h => by
    show zStep _ _ (zVs pa le f0 s j) = zStep _ _ (zVs pa2 le2 f0 s j)
    rw [zVs_cg j (fun k hk => h k (by omega)), (h (f0 + j) (by omega)).1, (h (f0 + j) (by omega)).2]
theorem zStg_cg {pa le pa2 le2 : Nat → Int32} (h : ∀ k, k < 72 → pa k = pa2 k ∧ le k = le2 k) {s m n : Nat} (hs : s < 3) (hn : n ≤ 6) {st : zSt3} : ∀ v, v ≤ 4 → zStg pa le s m n st v = zStg pa2 le2 s m n st v
  | 0, _ => rfl
  | v + 1, hv => by
    show (_, _) = (_, _)
    rw [zStg_cg h hs hn v (by omega), zVs_cg n (fun k hk => h k (by omega))]
theorem zStN_cg {pa le pa2 le2 : Nat → Int32} (h : ∀ k, k < 72 → pa k = pa2 k ∧ le k = le2 k) {s m n : Nat} (hs : s < 3) (hm : m ≤ 4) (hn : n ≤ 6) {st : zSt3} : zStN pa le s m n st = zStN pa2 le2 s m n st := by
  unfold zStN
  rw [zStg_cg h hs hn m hm]
theorem zRn_cg {pa le pa2 le2 : Nat → Int32} (h : ∀ k, k < 72 → pa k = pa2 k ∧ le k = le2 k) {m : Nat → Nat} {n : Nat} (hm : ∀ s, s < 3 → m s ≤ 4) (hn : n ≤ 6) {st : zSt3} : ∀ s, s ≤ 3 → zRn pa le m n st s = zRn pa2 le2 m n st s
  | 0, _ => rfl
  | s + 1, hs => by
    show zStN pa le s (m s) n (zRn pa le m n st s) = zStN pa2 le2 s (m s) n (zRn pa2 le2 m n st s)
    rw [zRn_cg h hm hn s (by omega), zStN_cg h (by omega) (hm s (by omega)) hn]
theorem zRows_cg {pa le pa2 le2 : Nat → Int32} (h : ∀ k, k < 72 → pa k = pa2 k ∧ le k = le2 k) {m : Nat → Nat} {n : Nat} (hm : ∀ s, s < 3 → m s ≤ 4) (hn : n ≤ 6) {st : zSt3} {B : Nat → Nat → Int64} (hR : zRows pa le m n st B 3) : zRows pa2 le2 m n st B 3 := by
  intro s hs v hv j hj a ha
  have hm' := hm s hs
  rw [← zRn_cg h hm hn s (by omega), hR s hs v hv j hj a ha, (h _ (by omega)).1, (h _ (by omega)).2, zVs_cg j (fun k hk => h k (by omega))]
/-- what a skin gets and lets through: a row and a place -/
def zCellp (σ : zσ) (p : Int32) (m : Nat → Nat) (a k : Nat) : Int64 := zOut (zPaf σ k) (zLef σ k) (zVs (zPaf σ) (zLef σ) (k / 24 * 24 + k % 24 / 6 * 6) (zIn (zRn (zPaf σ) (zLef σ) m (σ.1 0) (zS0p σ p) (k / 24)) (m (k / 24)) (k % 24 / 6)) (k % 6)) a
theorem zRows_at {σ : zσ} {p : Int32} {m : Nat → Nat} {B : Nat → Nat → Int64} (hR : zRows (zPaf σ) (zLef σ) m (σ.1 0) (zS0p σ p) B 3) {k : Nat} (hk : k < 72) (h1 : k % 6 < σ.1 0) (h2 : k % 24 / 6 < m (k / 24)) {a : Nat} (ha : a < 6) : B a k = zCellp σ p m a k := by
  have e := hR (k / 24) (by omega) (k % 24 / 6) h2 (k % 6) h1 a ha
  have ek : k / 24 * 24 + k % 24 / 6 * 6 + k % 6 = k := by omega
  rw [ek] at e
  exact e
theorem zHd_N {f : Nat → Nat} (h : ∀ k, k < 3 → f k ≤ 4) {n k : Nat} (hn : n ≤ 6) (hk : k < 72) : zHd (fun j => nI (f j)) (nI n) k ↔ (k % 6 < n ∧ k % 24 / 6 < zMf f (k / 24)) := by
  have e := zVin_N h (show k / 24 < 3 by omega)
  unfold zHd
  rw [e.1, zI_lt (by omega) (by omega), zI_lt (by omega) (by have := e.2; omega)]
def zFin (σ : zσ) (p : Int32) (m : Nat → Nat) : zSt3 := zRn (zPaf σ) (zLef σ) m (σ.1 0) (zS0p σ p) 3
/-- what the rows and the sums hold behind a run with a pressure and vessels -/
def zFlow (σ : zσ) (p : Int32) (m : Nat → Nat) (u : zX) : Prop := zRows (zPaf σ) (zLef σ) m (σ.1 0) (zS0p σ p) u.2.2.2.2.1 3 ∧ u.2.2.2.2.2.1 0 = (zFin σ p m).1 ∧ u.2.2.2.2.2.1 1 = (zFin σ p m).2.1 ∧ u.2.2.2.2.2.1 2 = (zFin σ p m).2.2 ∧ u.2.2.2.2.2.1 3 = (nI (σ.1 1)).toInt64 - (zFin σ p m).1 ∧ u.2.2.2.2.2.1 4 = (nI (σ.1 1)).toInt64 * (nI (σ.1 2)).toInt64 - (zFin σ p m).2.1
/-- PASS and LEAK as taken -/
def zTaken (σ : zσ) (u : zX) : Prop := ∀ k, k < 72 → u.2.2.1 k = zPaf σ k ∧ u.2.2.2.1 k = zLef σ k
theorem zFlow_of {σ : zσ} {p : Int32} {m : Nat → Nat} (hm : ∀ s, s < 3 → m s ≤ 4) (hn : σ.1 0 ≤ 6) {pa le : Nat → Int32} {B : Nat → Nat → Int64} {J : Nat → Int64} (h : ∀ k, k < 72 → pa k = zPaf σ k ∧ le k = zLef σ k) (hR : zRows pa le m (σ.1 0) (zS0p σ p) B 3) (q : Int32) (w1 nw lt : Nat → Int32) :
    zFlow σ p m (q, w1, pa, le, B, zJ5 J (zRn pa le m (σ.1 0) (zS0p σ p) 3) ((nI (σ.1 1)).toInt64 - (zRn pa le m (σ.1 0) (zS0p σ p) 3).1) ((nI (σ.1 1)).toInt64 * (nI (σ.1 2)).toInt64 - (zRn pa le m (σ.1 0) (zS0p σ p) 3).2.1), nw, lt) := by
  refine ⟨zRows_cg h hm hn hR, ?_⟩
  rw [zRn_cg h hm hn 3 (by omega)]
  exact ⟨rfl, rfl, rfl, rfl, rfl⟩
set_option maxRecDepth 100000 in
set_option maxHeartbeats 4000000 in
/-- letFlow -/
theorem p_letFlow (l : Launch) (G : zG) (ad : Nat → Nat) (σ : zσ) (x0 : zX) (hσ : zOk σ) : zSem l G sX5_letFlow [.ref (ad 0)] (wP G ad σ x0) (z0 (fun u : zX => zFlow σ (nI (σ.1 3)) (zMs σ) u ∧ zTaken σ u) (fun u => wP G ad σ u)) := by
  refine zEnterV (L := [some (.ref (ad 0))]) (by decide) rfl (Nat.le_of_ble_eq_true rfl) rfl ?_
  refine a_aload_0 (pc := 0) dX5_letFlow_0 ?_
  refine a_getf (ci := 5) (j := 4) rfl win_X5 (by decide) (pc := 1) dX5_letFlow_1 kf_X5_33 rfl rfl ?_
  refine a_aload_0 (pc := 4) dX5_letFlow_4 ?_
  refine a_getf (ci := 5) (j := 3) rfl win_X5 (by decide) (pc := 5) dX5_letFlow_5 kf_X5_26 rfl rfl ?_
  refine cV_0 (ad := ad) (q0 := 9) (S2 := sX0_take) (c_take l G (zpk ad [9, 10, 11, 12, 13, 14, 15, 16, 17, 6, 7, 8]) x0.2.2.1 x0.2.2.2.1 x0.2.2.2.2.1 x0.2.2.2.2.2.1 (zKd σ) (zFo σ) (fun k hk => zin4 (hσ.2.2.2.2.2.2.2.1 k hk))) kc_X0_take km_X5_182 ki_X0_take kv_X0_take kini_X0 ⟨kn_X0_take, by decide, by decide⟩ (pc := 8) dX5_letFlow_8 [9, 10, 11, 12, 13, 14, 15, 16, 17, 6, 7, 8] rfl rfl rfl rfl (Nat.le_of_ble_eq_true rfl) rfl rfl rfl (fun u => wP G ad σ (x0.1, x0.2.1, u.1, u.2, x0.2.2.2.2)) (fun _ => rfl) (fun u_ hu_ => ?_)
  refine a_aload_0 (pc := 11) dX5_letFlow_11 ?_
  refine a_getf (ci := 5) (j := 4) rfl win_X5 (by decide) (pc := 12) dX5_letFlow_12 kf_X5_33 rfl rfl ?_
  refine a_aload_0 (pc := 15) dX5_letFlow_15 ?_
  refine a_getf (ci := 5) (j := 1) rfl win_X5 (by decide) (pc := 16) dX5_letFlow_16 kf_X5_16 rfl rfl ?_
  refine a_aload_0 (pc := 19) dX5_letFlow_19 ?_
  refine a_getf (ci := 5) (j := 7) rfl win_X5 (by decide) (pc := 20) dX5_letFlow_20 kf_X5_51 rfl rfl ?_
  refine a_i2l (pc := 23) dX5_letFlow_23 ?_
  refine a_aload_0 (pc := 24) dX5_letFlow_24 ?_
  refine a_getf (ci := 5) (j := 8) rfl win_X5 (by decide) (pc := 25) dX5_letFlow_25 kf_X5_55 rfl rfl ?_
  refine a_i2l (pc := 28) dX5_letFlow_28 ?_
  refine a_aload_0 (pc := 29) dX5_letFlow_29 ?_
  refine a_getf (ci := 5) (j := 9) rfl win_X5 (by decide) (pc := 30) dX5_letFlow_30 kf_X5_58 rfl rfl ?_
  refine a_i2l (pc := 33) dX5_letFlow_33 ?_
  refine cV_0 (ad := ad) (q0 := 9) (S2 := sX0_run) (c_run l G (zpk ad [9, 10, 11, 12, 13, 14, 15, 16, 17, 2, 3]) u_.1 u_.2 x0.2.2.2.2.1 x0.2.2.2.2.2.1 (zVesf σ) (zMs σ) (σ.1 0) (fun s hs => zVin_N hσ.2.2.2.2.2.1 hs) hσ.1.2 (nI (σ.1 1)).toInt64 (nI (σ.1 2)).toInt64 (nI (σ.1 3)).toInt64) kc_X0_run km_X5_193 ki_X0_run kv_X0_run kini_X0 ⟨kn_X0_run, by decide, by decide⟩ (pc := 34) dX5_letFlow_34 [9, 10, 11, 12, 13, 14, 15, 16, 17, 2, 3] rfl rfl rfl rfl (Nat.le_of_ble_eq_true rfl) rfl rfl rfl (fun B_ => wP G ad σ (x0.1, x0.2.1, u_.1, u_.2, B_, (zJ5 x0.2.2.2.2.2.1 (zRn u_.1 u_.2 (zMs σ) (σ.1 0) (zS0p σ (nI (σ.1 3))) 3) ((nI (σ.1 1)).toInt64 - (zRn u_.1 u_.2 (zMs σ) (σ.1 0) (zS0p σ (nI (σ.1 3))) 3).1) ((nI (σ.1 1)).toInt64 * (nI (σ.1 2)).toInt64 - (zRn u_.1 u_.2 (zMs σ) (σ.1 0) (zS0p σ (nI (σ.1 3))) 3).2.1)), x0.2.2.2.2.2.2)) (fun _ => rfl) (fun B_ hB_ => ?_)
  exact a_vret (pc := 37) dX5_letFlow_37 rfl rfl ⟨(x0.1, x0.2.1, u_.1, u_.2, B_, (zJ5 x0.2.2.2.2.2.1 (zRn u_.1 u_.2 (zMs σ) (σ.1 0) (zS0p σ (nI (σ.1 3))) 3) ((nI (σ.1 1)).toInt64 - (zRn u_.1 u_.2 (zMs σ) (σ.1 0) (zS0p σ (nI (σ.1 3))) 3).1) ((nI (σ.1 1)).toInt64 * (nI (σ.1 2)).toInt64 - (zRn u_.1 u_.2 (zMs σ) (σ.1 0) (zS0p σ (nI (σ.1 3))) 3).2.1)), x0.2.2.2.2.2.2), ⟨zFlow_of (fun s hs => ((fun s hs => zVin_N hσ.2.2.2.2.2.1 hs) s hs).2) hσ.1.2 (fun k hk => ⟨hu_.1 k hk, hu_.2 k hk⟩) hB_ _ _ _ _, fun k hk => ⟨hu_.1 k hk, hu_.2 k hk⟩⟩, rfl, rfl⟩
end
section
/-! Calls whose world is all of the caller's. -/
theorem zput_rng : ∀ (w1 pre ws : va_W), ws.length = w1.length → zput (pre ++ ws) (List.range' pre.length w1.length) w1 = pre ++ w1 := by
  intro w1
  induction w1 with
  | nil =>
    intro pre ws h
    have : ws = [] := List.length_eq_zero_iff.mp h
    subst this
    rfl
  | cons q w1 ih =>
    intro pre ws h
    cases ws with
    | nil => cases h
    | cons a ws =>
      have e1 : (pre ++ a :: ws).set pre.length q = (pre ++ [q]) ++ ws := by
        rw [List.set_append_right _ _ (Nat.le_refl _), Nat.sub_self, List.append_assoc]
        rfl
      show zput ((pre ++ a :: ws).set pre.length q) (List.range' (pre.length + 1) w1.length) w1 = _
      rw [e1]
      have e2 := ih (pre ++ [q]) ws (Nat.succ.inj h)
      rw [List.length_append] at e2
      rw [show pre.length + 1 = pre.length + [q].length from rfl, e2, List.append_assoc]
      rfl
theorem zput_all {ws w1 : va_W} (h : ws.length = w1.length) : zput ws (List.range ws.length) w1 = w1 := by
  rw [h, List.range_eq_range']
  exact zput_rng w1 [] ws h
theorem zC_all (ws : va_W) : (List.range ws.length).map (fun i => ws[i]?) = ws.map some := by
  apply List.ext_getElem?
  intro k
  rw [List.getElem?_map, List.getElem?_map]
  by_cases h : k < ws.length
  · rw [List.getElem?_range h, List.getElem?_eq_getElem h]; exact congrArg some (List.getElem?_eq_getElem h)
  · rw [List.getElem?_eq_none (by rw [List.length_range]; omega), List.getElem?_eq_none (by omega)]; rfl
theorem znd28 : va_nd (List.range 28) = true := by decide +kernel
theorem znd18 : va_nd (List.range 18) = true := by decide +kernel
theorem znd_of {ws : va_W} {n : Nat} (h : ws.length = n) (h2 : va_nd (List.range n) = true) : va_nd (List.range ws.length) = true := by rw [h]; exact h2
section ZF
variable {l : Launch} {G : zG} {S S2 : zS} {wc : va_W} {post post2 : Option Value → va_W → Prop} {pc : Nat} {L : List (Option Value)} {st rest As : List Value} {ws : va_W}
theorem f_P {index n : Nat} {ad : Nat → Nat} {q0 : Nat} {v : Value} (hM : zSem l G S2 (.ref (ad q0) :: As) ws (zP v ws)) (hcode : zW S2 ∈ zT) (hlink : Cond.methodLink (zown S) index (zy S2) ∈ zT) (hin : Cond.instanceMethod (zy S2) ∈ zT) (hsel : Cond.selects (zy S2).cls (zy S2) (zy S2) ∈ zT) (hini : Cond.initialized (zy S2).cls ∈ zT) (hok : zOkY S S2 n) (hdg : decode (zcc S) pc = .ok (.invokevirtual index, 3)) (hnd : va_nd (List.range ws.length) = true) (hst : st = As.reverse ++ .ref (ad q0) :: rest) (hn : As.length = n) (hsum : (rest.map fun v => v.category).sum ≤ 8) {ci : Nat} {qc : vw_C} {fs : List Value} (hq0 : ws[q0]? = some (ad q0, .inr (ci, fs))) (hci : vwCl[ci]? = some qc) (hcl : qc.1 = (zy S2).cls)
    (kk : AV l G S wc post (pc + 3) L (v :: rest) ws) : AV l G S wc post pc L st ws :=
  cV_P hM hcode hlink hin hsel hini hok hdg (List.range ws.length) (zC_all ws) hnd hst hn hsum hq0 hci hcl kk
theorem f_V {index n : Nat} {ad : Nat → Nat} {q0 : Nat} {T : Type} {P : T → Prop} {v : T → Value} {g : T → va_W} (hM : zSem l G S2 (.ref (ad q0) :: As) ws (zV P v g)) (hcode : zW S2 ∈ zT) (hlink : Cond.methodLink (zown S) index (zy S2) ∈ zT) (hin : Cond.instanceMethod (zy S2) ∈ zT) (hsel : Cond.selects (zy S2).cls (zy S2) (zy S2) ∈ zT) (hini : Cond.initialized (zy S2).cls ∈ zT) (hok : zOkY S S2 n) (hdg : decode (zcc S) pc = .ok (.invokevirtual index, 3)) (hnd : va_nd (List.range ws.length) = true) (hst : st = As.reverse ++ .ref (ad q0) :: rest) (hn : As.length = n) (hsum : (rest.map fun v => v.category).sum ≤ 8) {ci : Nat} {qc : vw_C} {fs : List Value} (hq0 : ws[q0]? = some (ad q0, .inr (ci, fs))) (hci : vwCl[ci]? = some qc) (hcl : qc.1 = (zy S2).cls)
    (kk : ∀ u, P u → AV l G S wc post (pc + 3) L (v u :: rest) (g u)) : AV l G S wc post pc L st ws := by
  refine a_callV hM hcode hlink hin hsel hini hok hdg (List.range ws.length) (zC_all ws) hnd hst hn hsum hq0 hci hcl ?_
  rintro _ _ ⟨u_, hu_, rfl, rfl⟩ hf_
  have hlen : ws.length = (g u_).length := by
    have := congrArg List.length hf_
    simp only [List.length_map] at this
    omega
  rw [zput_all hlen]
  exact kk u_ hu_
theorem f_0 {index n : Nat} {ad : Nat → Nat} {q0 : Nat} {T : Type} {P : T → Prop} {g : T → va_W} (hM : zSem l G S2 (.ref (ad q0) :: As) ws (z0 P g)) (hcode : zW S2 ∈ zT) (hlink : Cond.methodLink (zown S) index (zy S2) ∈ zT) (hin : Cond.instanceMethod (zy S2) ∈ zT) (hsel : Cond.selects (zy S2).cls (zy S2) (zy S2) ∈ zT) (hini : Cond.initialized (zy S2).cls ∈ zT) (hok : zOkY S S2 n) (hdg : decode (zcc S) pc = .ok (.invokevirtual index, 3)) (hnd : va_nd (List.range ws.length) = true) (hst : st = As.reverse ++ .ref (ad q0) :: rest) (hn : As.length = n) (hsum : (rest.map fun v => v.category).sum ≤ 8) {ci : Nat} {qc : vw_C} {fs : List Value} (hq0 : ws[q0]? = some (ad q0, .inr (ci, fs))) (hci : vwCl[ci]? = some qc) (hcl : qc.1 = (zy S2).cls)
    (kk : ∀ u, P u → AV l G S wc post (pc + 3) L rest (g u)) : AV l G S wc post pc L st ws := by
  refine a_callV hM hcode hlink hin hsel hini hok hdg (List.range ws.length) (zC_all ws) hnd hst hn hsum hq0 hci hcl ?_
  rintro _ _ ⟨u_, hu_, rfl, rfl⟩ hf_
  have hlen : ws.length = (g u_).length := by
    have := congrArg List.length hf_
    simp only [List.length_map] at this
    omega
  rw [zput_all hlen]
  exact kk u_ hu_
end ZF
end
section
/-! The plant: what is asked of the flows; copy. -/
abbrev zP0 (σ : zσ) : Int32 := nI (σ.1 3)
abbrev zCell (σ : zσ) : Nat → Nat → Int64 := zCellp σ (zP0 σ) (zMs σ)
def o_flow (σ : zσ) (x c : Int32) : Int64 × zσ := (if zPl x = none ∨ zOR c 0 4 then zBAD else if ¬ zHd (zVesf σ) (nI (σ.1 0)) ((zPl x).getD 0) then zNO else if c = 0 then zCell σ 0 ((zPl x).getD 0) else if c = 1 then zCell σ 1 ((zPl x).getD 0) else if c = 2 then zCell σ 2 ((zPl x).getD 0) else if c = 3 then zCell σ 3 ((zPl x).getD 0) else zCell σ 5 ((zPl x).getD 0), σ)
abbrev zSwW (σ : zσ) : Int64 := (nI (σ.1 1)).toInt64 - (zFin σ (zP0 σ) (zMs σ)).1
abbrev zSwG (σ : zσ) : Int64 := (nI (σ.1 1)).toInt64 * (nI (σ.1 2)).toInt64 - (zFin σ (zP0 σ) (zMs σ)).2.1
def o_sweet (σ : zσ) (c : Int32) : Int64 × zσ := (if zOR c 0 2 then zBAD else if c = 0 then zSwW σ else if c = 1 then zSwG σ else zSalt (zSwW σ) (zSwG σ), σ)
def o_brine (σ : zσ) (c : Int32) : Int64 × zσ := (if zOR c 0 2 then zBAD else if c = 0 then (zFin σ (zP0 σ) (zMs σ)).1 else if c = 1 then (zFin σ (zP0 σ) (zMs σ)).2.1 else (zFin σ (zP0 σ) (zMs σ)).2.2, σ)
def zPow (σ : zσ) (p : Int32) (W P : Int64) : Int64 := p.toInt64 * (nI (σ.1 1)).toInt64 / 100 - (nI (σ.2.1 3 2)).toInt64 * (P * W / 100) / 100
def o_power (σ : zσ) : Int64 × zσ := (zPow σ (zP0 σ) (zFin σ (zP0 σ) (zMs σ)).1 (zFin σ (zP0 σ) (zMs σ)).2.2, σ)
theorem zFf_cg {v : Nat → Int32} {n : Int32} {W T W2 T2 : Nat → Int64} {least most : Int32} (h : ∀ k, k < 72 → zHd v n k → W k = W2 k ∧ T k = T2 k) : ∀ q i, i + q = 72 → zFf v n W T least most q i = zFf v n W2 T2 least most q i
  | 0, _, _ => rfl
  | q + 1, i, hq => by
    unfold zFf
    rw [zFf_cg h q (i + 1) (by omega)]
    by_cases hd : zHd v n i
    · rw [if_pos hd, if_pos hd, (h i (by omega) hd).1, (h i (by omega) hd).2]
    · rw [if_neg hd, if_neg hd]
def o_failure (σ : zσ) : Int64 × zσ := (zFf (zVesf σ) (nI (σ.1 0)) (zCell σ 0) (zCell σ 3) (nI (σ.2.1 3 0)) (nI (σ.2.1 3 1)) 72 0, σ)
theorem zFlow_at {σ : zσ} (hσ : zOk σ) {u : zX} (hu : zFlow σ (zP0 σ) (zMs σ) u) {k : Nat} (hk : k < 72) (hd : zHd (zVesf σ) (nI (σ.1 0)) k) {a : Nat} (ha : a < 6) : u.2.2.2.2.1 a k = zCell σ a k := by
  have e := (zHd_N hσ.2.2.2.2.2.1 hσ.1.2 hk).mp hd
  exact zRows_at hu.1 hk e.1 e.2 ha
theorem zsw5 {x : Int32} (h : ¬ zOR x 0 4) : x = 0 ∨ x = 1 ∨ x = 2 ∨ x = 3 ∨ x = 4 := by
  obtain ⟨k, hk, rfl⟩ := zrange (n := 4) (by decide) rfl h
  rcases (show k = 0 ∨ k = 1 ∨ k = 2 ∨ k = 3 ∨ k = 4 by omega) with rfl | rfl | rfl | rfl | rfl
  · exact Or.inl rfl
  · exact Or.inr (Or.inl rfl)
  · exact Or.inr (Or.inr (Or.inl rfl))
  · exact Or.inr (Or.inr (Or.inr (Or.inl rfl)))
  · exact Or.inr (Or.inr (Or.inr (Or.inr rfl)))
theorem zsw2 {x : Int32} (h : ¬ zOR x 0 2) : x = 0 ∨ x = 1 ∨ x = 2 := by
  obtain ⟨k, hk, rfl⟩ := zrange (n := 2) (by decide) rfl h
  rcases (show k = 0 ∨ k = 1 ∨ k = 2 by omega) with rfl | rfl | rfl
  · exact Or.inl rfl
  · exact Or.inr (Or.inl rfl)
  · exact Or.inr (Or.inr rfl)
set_option maxRecDepth 100000 in
set_option maxHeartbeats 4000000 in
theorem p_flow (l : Launch) (G : zG) (ad : Nat → Nat) (σ : zσ) (x0 : zX) (hσ : zOk σ) (x : Int32) (c : Int32) : zSem l G sX5_flow [.ref (ad 0), .int x, .int c] (wP G ad σ x0) (zPost G ad (o_flow σ x c)) := by
  refine zEnterV (L := [some (.ref (ad 0)), some (.int x), some (.int c), none]) (by decide) rfl (Nat.le_of_ble_eq_true rfl) rfl ?_
  refine a_iload_1 (pc := 0) dX5_flow_0 ?_
  refine cS_P (S2 := sX5_placeOf) (c_placeOf l G _) kc_X5_placeOf km_X5_76 ks_X5_placeOf kini_X5 ⟨kn_X5_placeOf, by decide, by decide⟩ (pc := 1) dX5_flow_1 [] rfl rfl rfl rfl (Nat.le_of_ble_eq_true rfl) ?_
  refine a_istore_3 (pc := 4) dX5_flow_4 rfl (by decide) ?_
  refine a_iload_3 (pc := 5) dX5_flow_5 ?_
  rcases hp_ : zPl x with _ | k
  · refine a_if_lt (tgt := 18) (pc := 6) dX5_flow_6 (by decide) (fun _ => ?_) (fun c_ => absurd (show zplace none < 0 by decide) c_)
    refine a_ldc2 (pc := 18) dX5_flow_18 kl_X5_68 ?_
    exact a_lret (pc := 21) dX5_flow_21 rfl rfl (by first | exact zret' x0 (by unfold o_flow; rw [if_pos (Or.inl hp_)]) rfl | exact zret' x0 (by unfold o_flow; rw [if_pos (Or.inr c_15)]) rfl)
  · have hk_ := zPl_lt hp_
    have hne_ : ¬ zPl x = none := by rw [hp_]; exact fun h => by cases h
    dsimp only [zplace]
    refine a_if_lt (tgt := 18) (pc := 6) dX5_flow_6 (by decide) (fun c_ => absurd c_ (nI_pos (by omega))) (fun _ => ?_)
    refine a_iload_2 (pc := 9) dX5_flow_9 ?_
    refine a_iconst (v := 0) (pc := 10) dX5_flow_10 (by decide) ?_
    refine a_iconst (v := 4) (pc := 11) dX5_flow_11 (by decide) ?_
    refine cS_P (S2 := sX5_outside) (c_outside l G _ _ _) kc_X5_outside km_X5_64 ks_X5_outside kini_X5 ⟨kn_X5_outside, by decide, by decide⟩ (pc := 12) dX5_flow_12 [] rfl rfl rfl rfl (Nat.le_of_ble_eq_true rfl) ?_
    first | refine a_if_eqB (tgt := 22) (pc := 15) dX5_flow_15 (by decide) (fun c_15 => ?_) (fun c_15 => ?_) | refine a_if_eq (tgt := 22) (pc := 15) dX5_flow_15 (by decide) (fun c_15 => ?_) (fun c_15 => ?_)
    · refine a_aload_0 (pc := 22) dX5_flow_22 ?_
      refine a_getf (ci := 5) (j := 1) rfl win_X5 (by decide) (pc := 23) dX5_flow_23 kf_X5_16 rfl rfl ?_
      refine a_iload_3 (pc := 26) dX5_flow_26 ?_
      refine cV_P (ad := ad) (q0 := 2) (S2 := sX2_holdsSkin) (c_holdsSkin l G (zpk ad [2, 3]) (zVesf σ) (nI (σ.1 0)) k hk_) kc_X2_holdsSkin km_X5_105 ki_X2_holdsSkin kv_X2_holdsSkin kini_X2 ⟨kn_X2_holdsSkin, by decide, by decide⟩ (pc := 27) dX5_flow_27 [2, 3] rfl rfl rfl rfl (Nat.le_of_ble_eq_true rfl) rfl rfl rfl ?_
      first | refine a_if_neB (tgt := 37) (pc := 30) dX5_flow_30 (by decide) (fun c_30 => ?_) (fun c_30 => ?_) | refine a_if_ne (tgt := 37) (pc := 30) dX5_flow_30 (by decide) (fun c_30 => ?_) (fun c_30 => ?_)
      · refine a_aload_0 (pc := 37) dX5_flow_37 ?_
        refine f_0 (ad := ad) (q0 := 0) (S2 := sX5_letFlow) (p_letFlow l G ad σ x0 hσ) kc_X5_letFlow km_X5_111 ki_X5_letFlow kv_X5_letFlow kini_X5 ⟨kn_X5_letFlow, by decide, by decide⟩ (pc := 38) dX5_flow_38 (znd_of rfl znd28) rfl rfl (Nat.le_of_ble_eq_true rfl) rfl rfl rfl (fun u_ hu_ => ?_)
        refine a_iload_2 (pc := 41) dX5_flow_41 ?_
        rcases zsw5 c_15 with rfl | rfl | rfl | rfl | rfl
        · refine a_tableIn (off := 30) (tgt := 72) (pc := 42) dX5_flow_42 (by decide) (by decide) (by decide) (by decide) ?_
          refine a_aload_0 (pc := 72) dX5_flow_72 ?_
          refine a_getf (ci := 5) (j := 4) rfl win_X5 (by decide) (pc := 73) dX5_flow_73 kf_X5_33 rfl rfl ?_
          refine a_getfN (ci := 0) (j := 2) rfl win_X0 (by decide) (pc := 76) dX5_flow_76 kf_X5_114 rfl rfl ?_
          refine a_iload_3 (pc := 79) dX5_flow_79 ?_
          refine a_laldN (pc := 80) dX5_flow_80 rfl (by omega) (by decide) ?_
          rw [zFlow_at hσ hu_.1 hk_ c_30 (a := 0) (by decide)]
          exact a_lret (pc := 81) dX5_flow_81 rfl rfl (zret' (r := zCell σ 0 k) u_ (by unfold o_flow; rw [if_neg (fun h => h.elim hne_ c_15), hp_, Option.getD_some, if_neg (fun h => h c_30), if_pos rfl]) rfl)
        · refine a_tableIn (off := 40) (tgt := 82) (pc := 42) dX5_flow_42 (by decide) (by decide) (by decide) (by decide) ?_
          refine a_aload_0 (pc := 82) dX5_flow_82 ?_
          refine a_getf (ci := 5) (j := 4) rfl win_X5 (by decide) (pc := 83) dX5_flow_83 kf_X5_33 rfl rfl ?_
          refine a_getfN (ci := 0) (j := 3) rfl win_X0 (by decide) (pc := 86) dX5_flow_86 kf_X5_118 rfl rfl ?_
          refine a_iload_3 (pc := 89) dX5_flow_89 ?_
          refine a_laldN (pc := 90) dX5_flow_90 rfl (by omega) (by decide) ?_
          rw [zFlow_at hσ hu_.1 hk_ c_30 (a := 1) (by decide)]
          exact a_lret (pc := 91) dX5_flow_91 rfl rfl (zret' (r := zCell σ 1 k) u_ (by unfold o_flow; rw [if_neg (fun h => h.elim hne_ c_15), hp_, Option.getD_some, if_neg (fun h => h c_30), if_neg (by decide), if_pos rfl]) rfl)
        · refine a_tableIn (off := 50) (tgt := 92) (pc := 42) dX5_flow_42 (by decide) (by decide) (by decide) (by decide) ?_
          refine a_aload_0 (pc := 92) dX5_flow_92 ?_
          refine a_getf (ci := 5) (j := 4) rfl win_X5 (by decide) (pc := 93) dX5_flow_93 kf_X5_33 rfl rfl ?_
          refine a_getfN (ci := 0) (j := 4) rfl win_X0 (by decide) (pc := 96) dX5_flow_96 kf_X5_121 rfl rfl ?_
          refine a_iload_3 (pc := 99) dX5_flow_99 ?_
          refine a_laldN (pc := 100) dX5_flow_100 rfl (by omega) (by decide) ?_
          rw [zFlow_at hσ hu_.1 hk_ c_30 (a := 2) (by decide)]
          exact a_lret (pc := 101) dX5_flow_101 rfl rfl (zret' (r := zCell σ 2 k) u_ (by unfold o_flow; rw [if_neg (fun h => h.elim hne_ c_15), hp_, Option.getD_some, if_neg (fun h => h c_30), if_neg (by decide), if_neg (by decide), if_pos rfl]) rfl)
        · refine a_tableIn (off := 60) (tgt := 102) (pc := 42) dX5_flow_42 (by decide) (by decide) (by decide) (by decide) ?_
          refine a_aload_0 (pc := 102) dX5_flow_102 ?_
          refine a_getf (ci := 5) (j := 4) rfl win_X5 (by decide) (pc := 103) dX5_flow_103 kf_X5_33 rfl rfl ?_
          refine a_getfN (ci := 0) (j := 5) rfl win_X0 (by decide) (pc := 106) dX5_flow_106 kf_X5_124 rfl rfl ?_
          refine a_iload_3 (pc := 109) dX5_flow_109 ?_
          refine a_laldN (pc := 110) dX5_flow_110 rfl (by omega) (by decide) ?_
          rw [zFlow_at hσ hu_.1 hk_ c_30 (a := 3) (by decide)]
          exact a_lret (pc := 111) dX5_flow_111 rfl rfl (zret' (r := zCell σ 3 k) u_ (by unfold o_flow; rw [if_neg (fun h => h.elim hne_ c_15), hp_, Option.getD_some, if_neg (fun h => h c_30), if_neg (by decide), if_neg (by decide), if_neg (by decide), if_pos rfl]) rfl)
        · refine a_tableOut (tgt := 112) (pc := 42) dX5_flow_42 (by decide) (by decide) ?_
          refine a_aload_0 (pc := 112) dX5_flow_112 ?_
          refine a_getf (ci := 5) (j := 4) rfl win_X5 (by decide) (pc := 113) dX5_flow_113 kf_X5_33 rfl rfl ?_
          refine a_getfN (ci := 0) (j := 7) rfl win_X0 (by decide) (pc := 116) dX5_flow_116 kf_X5_127 rfl rfl ?_
          refine a_iload_3 (pc := 119) dX5_flow_119 ?_
          refine a_laldN (pc := 120) dX5_flow_120 rfl (by omega) (by decide) ?_
          rw [zFlow_at hσ hu_.1 hk_ c_30 (a := 5) (by decide)]
          exact a_lret (pc := 121) dX5_flow_121 rfl rfl (zret' (r := zCell σ 5 k) u_ (by unfold o_flow; rw [if_neg (fun h => h.elim hne_ c_15), hp_, Option.getD_some, if_neg (fun h => h c_30), if_neg (by decide), if_neg (by decide), if_neg (by decide), if_neg (by decide)]) rfl)
      · refine a_ldc2 (pc := 33) dX5_flow_33 kl_X5_109 ?_
        exact a_lret (pc := 36) dX5_flow_36 rfl rfl (zret' x0 (by unfold o_flow; rw [if_neg (fun h => h.elim hne_ c_15), hp_, Option.getD_some, if_pos c_30]) rfl)
    · refine a_ldc2 (pc := 18) dX5_flow_18 kl_X5_68 ?_
      exact a_lret (pc := 21) dX5_flow_21 rfl rfl (by first | exact zret' x0 (by unfold o_flow; rw [if_pos (Or.inl hp_)]) rfl | exact zret' x0 (by unfold o_flow; rw [if_pos (Or.inr c_15)]) rfl)

set_option maxRecDepth 100000 in
set_option maxHeartbeats 4000000 in
theorem p_sweet (l : Launch) (G : zG) (ad : Nat → Nat) (σ : zσ) (x0 : zX) (hσ : zOk σ) (c : Int32) : zSem l G sX5_sweet [.ref (ad 0), .int c] (wP G ad σ x0) (zPost G ad (o_sweet σ c)) := by
  refine zEnterV (L := [some (.ref (ad 0)), some (.int c)]) (by decide) rfl (Nat.le_of_ble_eq_true rfl) rfl ?_
  refine a_iload_1 (pc := 0) dX5_sweet_0 ?_
  refine a_iconst (v := 0) (pc := 1) dX5_sweet_1 (by decide) ?_
  refine a_iconst (v := 2) (pc := 2) dX5_sweet_2 (by decide) ?_
  refine cS_P (S2 := sX5_outside) (c_outside l G _ _ _) kc_X5_outside km_X5_64 ks_X5_outside kini_X5 ⟨kn_X5_outside, by decide, by decide⟩ (pc := 3) dX5_sweet_3 [] rfl rfl rfl rfl (Nat.le_of_ble_eq_true rfl) ?_
  first | refine a_if_eqB (tgt := 13) (pc := 6) dX5_sweet_6 (by decide) (fun c_6 => ?_) (fun c_6 => ?_) | refine a_if_eq (tgt := 13) (pc := 6) dX5_sweet_6 (by decide) (fun c_6 => ?_) (fun c_6 => ?_)
  · refine a_aload_0 (pc := 13) dX5_sweet_13 ?_
    refine f_0 (ad := ad) (q0 := 0) (S2 := sX5_letFlow) (p_letFlow l G ad σ x0 hσ) kc_X5_letFlow km_X5_111 ki_X5_letFlow kv_X5_letFlow kini_X5 ⟨kn_X5_letFlow, by decide, by decide⟩ (pc := 14) dX5_sweet_14 (znd_of rfl znd28) rfl rfl (Nat.le_of_ble_eq_true rfl) rfl rfl rfl (fun u_ hu_ => ?_)
    refine a_iload_1 (pc := 17) dX5_sweet_17 ?_
    rcases zsw2 c_6 with rfl | rfl | rfl
    · refine a_lookup (off := 26) (tgt := 44) (pc := 18) dX5_sweet_18 (by decide) (by decide) (by decide) ?_
      refine a_aload_0 (pc := 44) dX5_sweet_44 ?_
      refine a_getf (ci := 5) (j := 4) rfl win_X5 (by decide) (pc := 45) dX5_sweet_45 kf_X5_33 rfl rfl ?_
      refine a_getfN (ci := 0) (j := 11) rfl win_X0 (by decide) (pc := 48) dX5_sweet_48 kf_X5_130 rfl rfl ?_
      rw [hu_.1.2.2.2.2.1]
      exact a_lret (pc := 51) dX5_sweet_51 rfl rfl (zret' u_ (by unfold o_sweet; rw [if_neg c_6, if_pos rfl]) rfl)
    · refine a_lookup (off := 34) (tgt := 52) (pc := 18) dX5_sweet_18 (by decide) (by decide) (by decide) ?_
      refine a_aload_0 (pc := 52) dX5_sweet_52 ?_
      refine a_getf (ci := 5) (j := 4) rfl win_X5 (by decide) (pc := 53) dX5_sweet_53 kf_X5_33 rfl rfl ?_
      refine a_getfN (ci := 0) (j := 12) rfl win_X0 (by decide) (pc := 56) dX5_sweet_56 kf_X5_134 rfl rfl ?_
      rw [hu_.1.2.2.2.2.2]
      exact a_lret (pc := 59) dX5_sweet_59 rfl rfl (zret' u_ (by unfold o_sweet; rw [if_neg c_6, if_neg (by decide), if_pos rfl]) rfl)
    · refine a_lookup (off := 42) (tgt := 60) (pc := 18) dX5_sweet_18 (by decide) (by decide) (by decide) ?_
      refine a_aload_0 (pc := 60) dX5_sweet_60 ?_
      refine a_getf (ci := 5) (j := 4) rfl win_X5 (by decide) (pc := 61) dX5_sweet_61 kf_X5_33 rfl rfl ?_
      refine a_getfN (ci := 0) (j := 11) rfl win_X0 (by decide) (pc := 64) dX5_sweet_64 kf_X5_130 rfl rfl ?_
      refine a_aload_0 (pc := 67) dX5_sweet_67 ?_
      refine a_getf (ci := 5) (j := 4) rfl win_X5 (by decide) (pc := 68) dX5_sweet_68 kf_X5_33 rfl rfl ?_
      refine a_getfN (ci := 0) (j := 12) rfl win_X0 (by decide) (pc := 71) dX5_sweet_71 kf_X5_134 rfl rfl ?_
      rw [hu_.1.2.2.2.2.1, hu_.1.2.2.2.2.2]
      refine cS_P (S2 := sX0_saltOf) (c_saltOf l G _ _) kc_X0_saltOf km_X5_137 ks_X0_saltOf kini_X0 ⟨kn_X0_saltOf, by decide, by decide⟩ (pc := 74) dX5_sweet_74 [] rfl rfl rfl rfl (Nat.le_of_ble_eq_true rfl) ?_
      exact a_lret (pc := 77) dX5_sweet_77 rfl rfl (zret' u_ (by unfold o_sweet; rw [if_neg c_6, if_neg (by decide), if_neg (by decide)]) rfl)
  · refine a_ldc2 (pc := 9) dX5_sweet_9 kl_X5_68 ?_
    exact a_lret (pc := 12) dX5_sweet_12 rfl rfl (zret' x0 (by unfold o_sweet; rw [if_pos c_6]) rfl)

set_option maxRecDepth 100000 in
set_option maxHeartbeats 4000000 in
theorem p_brine (l : Launch) (G : zG) (ad : Nat → Nat) (σ : zσ) (x0 : zX) (hσ : zOk σ) (c : Int32) : zSem l G sX5_brine [.ref (ad 0), .int c] (wP G ad σ x0) (zPost G ad (o_brine σ c)) := by
  refine zEnterV (L := [some (.ref (ad 0)), some (.int c)]) (by decide) rfl (Nat.le_of_ble_eq_true rfl) rfl ?_
  refine a_iload_1 (pc := 0) dX5_brine_0 ?_
  refine a_iconst (v := 0) (pc := 1) dX5_brine_1 (by decide) ?_
  refine a_iconst (v := 2) (pc := 2) dX5_brine_2 (by decide) ?_
  refine cS_P (S2 := sX5_outside) (c_outside l G _ _ _) kc_X5_outside km_X5_64 ks_X5_outside kini_X5 ⟨kn_X5_outside, by decide, by decide⟩ (pc := 3) dX5_brine_3 [] rfl rfl rfl rfl (Nat.le_of_ble_eq_true rfl) ?_
  first | refine a_if_eqB (tgt := 13) (pc := 6) dX5_brine_6 (by decide) (fun c_6 => ?_) (fun c_6 => ?_) | refine a_if_eq (tgt := 13) (pc := 6) dX5_brine_6 (by decide) (fun c_6 => ?_) (fun c_6 => ?_)
  · refine a_aload_0 (pc := 13) dX5_brine_13 ?_
    refine f_0 (ad := ad) (q0 := 0) (S2 := sX5_letFlow) (p_letFlow l G ad σ x0 hσ) kc_X5_letFlow km_X5_111 ki_X5_letFlow kv_X5_letFlow kini_X5 ⟨kn_X5_letFlow, by decide, by decide⟩ (pc := 14) dX5_brine_14 (znd_of rfl znd28) rfl rfl (Nat.le_of_ble_eq_true rfl) rfl rfl rfl (fun u_ hu_ => ?_)
    refine a_iload_1 (pc := 17) dX5_brine_17 ?_
    rcases zsw2 c_6 with rfl | rfl | rfl
    · refine a_lookup (off := 26) (tgt := 44) (pc := 18) dX5_brine_18 (by decide) (by decide) (by decide) ?_
      refine a_aload_0 (pc := 44) dX5_brine_44 ?_
      refine a_getf (ci := 5) (j := 4) rfl win_X5 (by decide) (pc := 45) dX5_brine_45 kf_X5_33 rfl rfl ?_
      refine a_getfN (ci := 0) (j := 8) rfl win_X0 (by decide) (pc := 48) dX5_brine_48 kf_X5_141 rfl rfl ?_
      rw [hu_.1.2.1]
      exact a_lret (pc := 51) dX5_brine_51 rfl rfl (zret' u_ (by unfold o_brine; rw [if_neg c_6, if_pos rfl]) rfl)
    · refine a_lookup (off := 34) (tgt := 52) (pc := 18) dX5_brine_18 (by decide) (by decide) (by decide) ?_
      refine a_aload_0 (pc := 52) dX5_brine_52 ?_
      refine a_getf (ci := 5) (j := 4) rfl win_X5 (by decide) (pc := 53) dX5_brine_53 kf_X5_33 rfl rfl ?_
      refine a_getfN (ci := 0) (j := 9) rfl win_X0 (by decide) (pc := 56) dX5_brine_56 kf_X5_144 rfl rfl ?_
      rw [hu_.1.2.2.1]
      exact a_lret (pc := 59) dX5_brine_59 rfl rfl (zret' u_ (by unfold o_brine; rw [if_neg c_6, if_neg (by decide), if_pos rfl]) rfl)
    · refine a_lookup (off := 42) (tgt := 60) (pc := 18) dX5_brine_18 (by decide) (by decide) (by decide) ?_
      refine a_aload_0 (pc := 60) dX5_brine_60 ?_
      refine a_getf (ci := 5) (j := 4) rfl win_X5 (by decide) (pc := 61) dX5_brine_61 kf_X5_33 rfl rfl ?_
      refine a_getfN (ci := 0) (j := 10) rfl win_X0 (by decide) (pc := 64) dX5_brine_64 kf_X5_147 rfl rfl ?_
      rw [hu_.1.2.2.2.1]
      exact a_lret (pc := 67) dX5_brine_67 rfl rfl (zret' u_ (by unfold o_brine; rw [if_neg c_6, if_neg (by decide), if_neg (by decide)]) rfl)
  · refine a_ldc2 (pc := 9) dX5_brine_9 kl_X5_68 ?_
    exact a_lret (pc := 12) dX5_brine_12 rfl rfl (zret' x0 (by unfold o_brine; rw [if_pos c_6]) rfl)

set_option maxRecDepth 100000 in
set_option maxHeartbeats 4000000 in
/-- powerAt -/
theorem p_powerAt (l : Launch) (G : zG) (ad : Nat → Nat) (σ : zσ) (x0 : zX) (p : Int32) : zSem l G sX5_powerAt [.ref (ad 0), .int p] (wP G ad σ x0) (zP (.long (zPow σ p (x0.2.2.2.2.2.1 0) (x0.2.2.2.2.2.1 2))) (wP G ad σ x0)) := by
  refine zEnterV (L := [some (.ref (ad 0)), some (.int p), none, none, none, none]) (by decide) rfl (Nat.le_of_ble_eq_true rfl) rfl ?_
  refine a_iload_1 (pc := 0) dX5_powerAt_0 ?_
  refine a_i2l (pc := 1) dX5_powerAt_1 ?_
  refine a_aload_0 (pc := 2) dX5_powerAt_2 ?_
  refine a_getf (ci := 5) (j := 7) rfl win_X5 (by decide) (pc := 3) dX5_powerAt_3 kf_X5_51 rfl rfl ?_
  refine a_i2l (pc := 6) dX5_powerAt_6 ?_
  refine a_lmul (pc := 7) dX5_powerAt_7 ?_
  refine a_ldc2 (pc := 8) dX5_powerAt_8 kl_X5_274 ?_
  refine a_ldiv (pc := 11) dX5_powerAt_11 (by decide) ?_
  refine a_lstore_2 (pc := 12) dX5_powerAt_12 rfl (by decide) ?_
  refine a_aload_0 (pc := 13) dX5_powerAt_13 ?_
  refine a_getf (ci := 5) (j := 4) rfl win_X5 (by decide) (pc := 14) dX5_powerAt_14 kf_X5_33 rfl rfl ?_
  refine a_getfN (ci := 0) (j := 10) rfl win_X0 (by decide) (pc := 17) dX5_powerAt_17 kf_X5_147 rfl rfl ?_
  refine a_aload_0 (pc := 20) dX5_powerAt_20 ?_
  refine a_getf (ci := 5) (j := 4) rfl win_X5 (by decide) (pc := 21) dX5_powerAt_21 kf_X5_33 rfl rfl ?_
  refine a_getfN (ci := 0) (j := 8) rfl win_X0 (by decide) (pc := 24) dX5_powerAt_24 kf_X5_141 rfl rfl ?_
  refine a_lmul (pc := 27) dX5_powerAt_27 ?_
  refine a_ldc2 (pc := 28) dX5_powerAt_28 kl_X5_274 ?_
  refine a_ldiv (pc := 31) dX5_powerAt_31 (by decide) ?_
  refine a_lstore_4 (pc := 32) dX5_powerAt_32 rfl (by decide) ?_
  refine a_lload_2 (pc := 34) dX5_powerAt_34 ?_
  refine a_aload_0 (pc := 35) dX5_powerAt_35 ?_
  refine a_getf (ci := 5) (j := 0) rfl win_X5 (by decide) (pc := 36) dX5_powerAt_36 kf_X5_9 rfl rfl ?_
  refine a_iconst (v := 2) (pc := 39) dX5_powerAt_39 (by decide) ?_
  refine a_ialdN (k := 2) (pc := 40) dX5_powerAt_40 rfl (by omega) (by decide) ?_
  refine a_i2l (pc := 41) dX5_powerAt_41 ?_
  refine a_lload_4 (pc := 42) dX5_powerAt_42 ?_
  refine a_lmul (pc := 44) dX5_powerAt_44 ?_
  refine a_ldc2 (pc := 45) dX5_powerAt_45 kl_X5_274 ?_
  refine a_ldiv (pc := 48) dX5_powerAt_48 (by decide) ?_
  refine a_lsub (pc := 49) dX5_powerAt_49 ?_
  exact a_lret (pc := 50) dX5_powerAt_50 rfl rfl ⟨rfl, rfl⟩

set_option maxRecDepth 100000 in
set_option maxHeartbeats 4000000 in
theorem p_power (l : Launch) (G : zG) (ad : Nat → Nat) (σ : zσ) (x0 : zX) (hσ : zOk σ)  : zSem l G sX5_power [.ref (ad 0)] (wP G ad σ x0) (zPost G ad (o_power σ)) := by
  refine zEnterV (L := [some (.ref (ad 0))]) (by decide) rfl (Nat.le_of_ble_eq_true rfl) rfl ?_
  refine a_aload_0 (pc := 0) dX5_power_0 ?_
  refine f_0 (ad := ad) (q0 := 0) (S2 := sX5_letFlow) (p_letFlow l G ad σ x0 hσ) kc_X5_letFlow km_X5_111 ki_X5_letFlow kv_X5_letFlow kini_X5 ⟨kn_X5_letFlow, by decide, by decide⟩ (pc := 1) dX5_power_1 (znd_of rfl znd28) rfl rfl (Nat.le_of_ble_eq_true rfl) rfl rfl rfl (fun u_ hu_ => ?_)
  refine a_aload_0 (pc := 4) dX5_power_4 ?_
  refine a_aload_0 (pc := 5) dX5_power_5 ?_
  refine a_getf (ci := 5) (j := 9) rfl win_X5 (by decide) (pc := 6) dX5_power_6 kf_X5_58 rfl rfl ?_
  refine f_P (ad := ad) (q0 := 0) (S2 := sX5_powerAt) (p_powerAt l G ad σ u_ _) kc_X5_powerAt km_X5_150 ki_X5_powerAt kv_X5_powerAt kini_X5 ⟨kn_X5_powerAt, by decide, by decide⟩ (pc := 9) dX5_power_9 (znd_of rfl znd28) rfl rfl (Nat.le_of_ble_eq_true rfl) rfl rfl rfl ?_
  rw [hu_.1.2.1, hu_.1.2.2.2.1]
  exact a_lret (pc := 12) dX5_power_12 rfl rfl (zret' u_ rfl rfl)

set_option maxRecDepth 100000 in
set_option maxHeartbeats 4000000 in
theorem p_failure (l : Launch) (G : zG) (ad : Nat → Nat) (σ : zσ) (x0 : zX) (hσ : zOk σ)  : zSem l G sX5_failure [.ref (ad 0)] (wP G ad σ x0) (zPost G ad (o_failure σ)) := by
  refine zEnterV (L := [some (.ref (ad 0))]) (by decide) rfl (Nat.le_of_ble_eq_true rfl) rfl ?_
  refine a_aload_0 (pc := 0) dX5_failure_0 ?_
  refine f_0 (ad := ad) (q0 := 0) (S2 := sX5_letFlow) (p_letFlow l G ad σ x0 hσ) kc_X5_letFlow km_X5_111 ki_X5_letFlow kv_X5_letFlow kini_X5 ⟨kn_X5_letFlow, by decide, by decide⟩ (pc := 1) dX5_failure_1 (znd_of rfl znd28) rfl rfl (Nat.le_of_ble_eq_true rfl) rfl rfl rfl (fun u_ hu_ => ?_)
  refine a_aload_0 (pc := 4) dX5_failure_4 ?_
  refine a_getf (ci := 5) (j := 4) rfl win_X5 (by decide) (pc := 5) dX5_failure_5 kf_X5_33 rfl rfl ?_
  refine a_aload_0 (pc := 8) dX5_failure_8 ?_
  refine a_getf (ci := 5) (j := 1) rfl win_X5 (by decide) (pc := 9) dX5_failure_9 kf_X5_16 rfl rfl ?_
  refine a_aload_0 (pc := 12) dX5_failure_12 ?_
  refine a_getf (ci := 5) (j := 0) rfl win_X5 (by decide) (pc := 13) dX5_failure_13 kf_X5_9 rfl rfl ?_
  refine a_iconst (v := 0) (pc := 16) dX5_failure_16 (by decide) ?_
  refine a_ialdN (k := 0) (pc := 17) dX5_failure_17 rfl (by omega) (by decide) ?_
  refine a_aload_0 (pc := 18) dX5_failure_18 ?_
  refine a_getf (ci := 5) (j := 0) rfl win_X5 (by decide) (pc := 19) dX5_failure_19 kf_X5_9 rfl rfl ?_
  refine a_iconst (v := 1) (pc := 22) dX5_failure_22 (by decide) ?_
  refine a_ialdN (k := 1) (pc := 23) dX5_failure_23 rfl (by omega) (by decide) ?_
  refine cV_P (ad := ad) (q0 := 9) (S2 := sX0_firstFailure) (c_firstFailure l G (zpk ad [9, 10, 11, 12, 13, 14, 15, 16, 17, 2, 3]) u_.2.2.1 u_.2.2.2.1 u_.2.2.2.2.1 u_.2.2.2.2.2.1 (zVesf σ) (nI (σ.1 0)) _ _) kc_X0_firstFailure km_X5_154 ki_X0_firstFailure kv_X0_firstFailure kini_X0 ⟨kn_X0_firstFailure, by decide, by decide⟩ (pc := 24) dX5_failure_24 [9, 10, 11, 12, 13, 14, 15, 16, 17, 2, 3] rfl rfl rfl rfl (Nat.le_of_ble_eq_true rfl) rfl rfl rfl ?_
  rw [zFf_cg (fun k hk hd => ⟨zFlow_at hσ hu_.1 hk hd (a := 0) (by decide), zFlow_at hσ hu_.1 hk hd (a := 3) (by decide)⟩) 72 0 rfl]
  exact a_lret (pc := 27) dX5_failure_27 rfl rfl (zret' u_ rfl rfl)

abbrev zHR (n x y : Int32) : Prop := ¬ x < 0 ∧ ¬ y < 0 ∧ ¬ n - y < x
def o_copy (σ : zσ) (f p t a m : Int32) : Int64 × zσ := if zOR f 0 1 ∨ zOR t 0 1 then (zBAD, σ) else if σ.2.2.1 f.toNatClampNeg = -1 ∨ σ.2.2.1 t.toNatClampNeg = -1 then (zNOTH, σ) else if ¬ zHR (σ.2.2.1 f.toNatClampNeg) p m ∨ ¬ zHR (σ.2.2.1 t.toNatClampNeg) a m then (zINDEX, σ) else (m.toInt64, (σ.1, σ.2.1, σ.2.2.1, zuC σ.2.2.2 t.toNatClampNeg (va_cpy (σ.2.2.2 f.toNatClampNeg) (σ.2.2.2 t.toNatClampNeg) p.toNatClampNeg a.toNatClampNeg m.toNatClampNeg)))
theorem zHR_le {σ : zσ} (hσ : zOk σ) {s : Nat} (hs : s < 2) {p m : Int32} (h : zHR (σ.2.2.1 s) p m) : p.toNatClampNeg + m.toNatClampNeg ≤ 24 := by
  have k0 : (0:Int32).toInt = 0 := by decide
  have h1 : 0 ≤ p.toInt := by have := mt Int32.lt_iff_toInt_lt.mpr h.1; omega
  have h2 : 0 ≤ m.toInt := by have := mt Int32.lt_iff_toInt_lt.mpr h.2.1; omega
  have hz : -1 ≤ (σ.2.2.1 s).toInt ∧ (σ.2.2.1 s).toInt ≤ 24 := by
    rcases hσ.2.2.2.2.2.2.2.2.2.2.2.2.1 s hs with h | ⟨n, hn, h⟩
    · rw [h]; decide
    · rw [h, nI_toInt (by omega)]; omega
  have hb := i_bd m
  have e : (σ.2.2.1 s - m).toInt = (σ.2.2.1 s).toInt - m.toInt := i_sub (by omega) (by omega)
  have h3 := mt Int32.lt_iff_toInt_lt.mpr h.2.2
  rw [e] at h3
  show p.toInt.toNat + m.toInt.toNat ≤ 24
  omega
set_option maxRecDepth 100000 in
set_option maxHeartbeats 4000000 in
theorem p_copy (l : Launch) (G : zG) (ad : Nat → Nat) (σ : zσ) (x0 : zX) (hσ : zOk σ) (f : Int32) (p : Int32) (t : Int32) (a : Int32) (m : Int32) : zSem l G sX5_copy [.ref (ad 0), .int f, .int p, .int t, .int a, .int m] (wP G ad σ x0) (zPost G ad (o_copy σ f p t a m)) := by
  refine zEnterV (L := [some (.ref (ad 0)), some (.int f), some (.int p), some (.int t), some (.int a), some (.int m)]) (by decide) rfl (Nat.le_of_ble_eq_true rfl) rfl ?_
  refine a_iload_1 (pc := 0) dX5_copy_0 ?_
  refine a_iconst (v := 0) (pc := 1) dX5_copy_1 (by decide) ?_
  refine a_iconst (v := 1) (pc := 2) dX5_copy_2 (by decide) ?_
  refine cS_P (S2 := sX5_outside) (c_outside l G _ _ _) kc_X5_outside km_X5_64 ks_X5_outside kini_X5 ⟨kn_X5_outside, by decide, by decide⟩ (pc := 3) dX5_copy_3 [] rfl rfl rfl rfl (Nat.le_of_ble_eq_true rfl) ?_
  first | refine a_if_neB (tgt := 18) (pc := 6) dX5_copy_6 (by decide) (fun c_6 => ?_) (fun c_6 => ?_) | refine a_if_ne (tgt := 18) (pc := 6) dX5_copy_6 (by decide) (fun c_6 => ?_) (fun c_6 => ?_)
  · refine a_ldc2 (pc := 18) dX5_copy_18 kl_X5_68 ?_
    exact a_lret (pc := 21) dX5_copy_21 rfl rfl (by first | exact zret' x0 (if_pos (Or.inl c_6)) rfl | exact zret' x0 (if_pos (Or.inr c_15)) rfl)
  · refine a_iload_3 (pc := 9) dX5_copy_9 ?_
    refine a_iconst (v := 0) (pc := 10) dX5_copy_10 (by decide) ?_
    refine a_iconst (v := 1) (pc := 11) dX5_copy_11 (by decide) ?_
    refine cS_P (S2 := sX5_outside) (c_outside l G _ _ _) kc_X5_outside km_X5_64 ks_X5_outside kini_X5 ⟨kn_X5_outside, by decide, by decide⟩ (pc := 12) dX5_copy_12 [] rfl rfl rfl rfl (Nat.le_of_ble_eq_true rfl) ?_
    first | refine a_if_eqB (tgt := 22) (pc := 15) dX5_copy_15 (by decide) (fun c_15 => ?_) (fun c_15 => ?_) | refine a_if_eq (tgt := 22) (pc := 15) dX5_copy_15 (by decide) (fun c_15 => ?_) (fun c_15 => ?_)
    · rcases zrange2 c_6 with rfl | rfl <;> rcases zrange2 c_15 with rfl | rfl
      · refine a_aload_0 (pc := 22) dX5_copy_22 ?_
        refine a_getf (ci := 5) (j := 6) rfl win_X5 (by decide) (pc := 23) dX5_copy_23 kf_X5_47 rfl rfl ?_
        refine a_iload_1 (pc := 26) dX5_copy_26 ?_
        refine a_aaldN (k := 0) (pc := 27) dX5_copy_27 rfl (by decide) (by decide) rfl ?_
        first
          | refine cV_P (ad := ad) (q0 := 24) (S2 := sX3_isMissing) (c_isMissing l G (zpk ad [24, 25]) (σ.2.2.2 0) (σ.2.2.1 0)) kc_X3_isMissing km_X5_211 ki_X3_isMissing kv_X3_isMissing kini_X3 ⟨kn_X3_isMissing, by decide, by decide⟩ (pc := 28) dX5_copy_28 [24, 25] rfl rfl rfl rfl (Nat.le_of_ble_eq_true rfl) rfl rfl rfl ?_
          | refine cV_P (ad := ad) (q0 := 26) (S2 := sX3_isMissing) (c_isMissing l G (zpk ad [26, 27]) (σ.2.2.2 1) (σ.2.2.1 1)) kc_X3_isMissing km_X5_211 ki_X3_isMissing kv_X3_isMissing kini_X3 ⟨kn_X3_isMissing, by decide, by decide⟩ (pc := 28) dX5_copy_28 [26, 27] rfl rfl rfl rfl (Nat.le_of_ble_eq_true rfl) rfl rfl rfl ?_
        first | refine a_if_neB (tgt := 46) (pc := 31) dX5_copy_31 (by decide) (fun c_31 => ?_) (fun c_31 => ?_) | refine a_if_ne (tgt := 46) (pc := 31) dX5_copy_31 (by decide) (fun c_31 => ?_) (fun c_31 => ?_)
        · refine a_ldc2 (pc := 46) dX5_copy_46 kl_X5_215 ?_
          exact a_lret (pc := 49) dX5_copy_49 rfl rfl (by unfold o_copy; rw [if_neg (fun h => h.elim c_6 c_15)]; first | exact zret' x0 (if_pos (Or.inl c_31)) rfl | exact zret' x0 (if_pos (Or.inr c_43)) rfl)
        · refine a_aload_0 (pc := 34) dX5_copy_34 ?_
          refine a_getf (ci := 5) (j := 6) rfl win_X5 (by decide) (pc := 35) dX5_copy_35 kf_X5_47 rfl rfl ?_
          refine a_iload_3 (pc := 38) dX5_copy_38 ?_
          refine a_aaldN (k := 0) (pc := 39) dX5_copy_39 rfl (by decide) (by decide) rfl ?_
          first
            | refine cV_P (ad := ad) (q0 := 24) (S2 := sX3_isMissing) (c_isMissing l G (zpk ad [24, 25]) (σ.2.2.2 0) (σ.2.2.1 0)) kc_X3_isMissing km_X5_211 ki_X3_isMissing kv_X3_isMissing kini_X3 ⟨kn_X3_isMissing, by decide, by decide⟩ (pc := 40) dX5_copy_40 [24, 25] rfl rfl rfl rfl (Nat.le_of_ble_eq_true rfl) rfl rfl rfl ?_
            | refine cV_P (ad := ad) (q0 := 26) (S2 := sX3_isMissing) (c_isMissing l G (zpk ad [26, 27]) (σ.2.2.2 1) (σ.2.2.1 1)) kc_X3_isMissing km_X5_211 ki_X3_isMissing kv_X3_isMissing kini_X3 ⟨kn_X3_isMissing, by decide, by decide⟩ (pc := 40) dX5_copy_40 [26, 27] rfl rfl rfl rfl (Nat.le_of_ble_eq_true rfl) rfl rfl rfl ?_
          first | refine a_if_eqB (tgt := 50) (pc := 43) dX5_copy_43 (by decide) (fun c_43 => ?_) (fun c_43 => ?_) | refine a_if_eq (tgt := 50) (pc := 43) dX5_copy_43 (by decide) (fun c_43 => ?_) (fun c_43 => ?_)
          · refine a_aload_0 (pc := 50) dX5_copy_50 ?_
            refine a_getf (ci := 5) (j := 6) rfl win_X5 (by decide) (pc := 51) dX5_copy_51 kf_X5_47 rfl rfl ?_
            refine a_iload_1 (pc := 54) dX5_copy_54 ?_
            refine a_aaldN (k := 0) (pc := 55) dX5_copy_55 rfl (by decide) (by decide) rfl ?_
            refine a_iload_2 (pc := 56) dX5_copy_56 ?_
            refine a_iload_5 (pc := 57) dX5_copy_57 ?_
            first
              | refine cV_P (ad := ad) (q0 := 24) (S2 := sX3_hasRun) (c_hasRun l G (zpk ad [24, 25]) (σ.2.2.2 0) (σ.2.2.1 0) p m) kc_X3_hasRun km_X5_262 ki_X3_hasRun kv_X3_hasRun kini_X3 ⟨kn_X3_hasRun, by decide, by decide⟩ (pc := 59) dX5_copy_59 [24, 25] rfl rfl rfl rfl (Nat.le_of_ble_eq_true rfl) rfl rfl rfl ?_
              | refine cV_P (ad := ad) (q0 := 26) (S2 := sX3_hasRun) (c_hasRun l G (zpk ad [26, 27]) (σ.2.2.2 1) (σ.2.2.1 1) p m) kc_X3_hasRun km_X5_262 ki_X3_hasRun kv_X3_hasRun kini_X3 ⟨kn_X3_hasRun, by decide, by decide⟩ (pc := 59) dX5_copy_59 [26, 27] rfl rfl rfl rfl (Nat.le_of_ble_eq_true rfl) rfl rfl rfl ?_
            first | refine a_if_eqB (tgt := 81) (pc := 62) dX5_copy_62 (by decide) (fun c_62 => ?_) (fun c_62 => ?_) | refine a_if_eq (tgt := 81) (pc := 62) dX5_copy_62 (by decide) (fun c_62 => ?_) (fun c_62 => ?_)
            · refine a_ldc2 (pc := 81) dX5_copy_81 kl_X5_260 ?_
              exact a_lret (pc := 84) dX5_copy_84 rfl rfl (by unfold o_copy; rw [if_neg (fun h => h.elim c_6 c_15)]; first | exact zret' x0 ((if_neg (fun h => h.elim c_31 c_43)).trans (if_pos (Or.inl c_62))) rfl | exact zret' x0 ((if_neg (fun h => h.elim c_31 c_43)).trans (if_pos (Or.inr c_78))) rfl)
            · refine a_aload_0 (pc := 65) dX5_copy_65 ?_
              refine a_getf (ci := 5) (j := 6) rfl win_X5 (by decide) (pc := 66) dX5_copy_66 kf_X5_47 rfl rfl ?_
              refine a_iload_3 (pc := 69) dX5_copy_69 ?_
              refine a_aaldN (k := 0) (pc := 70) dX5_copy_70 rfl (by decide) (by decide) rfl ?_
              refine a_iload_4 (pc := 71) dX5_copy_71 ?_
              refine a_iload_5 (pc := 73) dX5_copy_73 ?_
              first
                | refine cV_P (ad := ad) (q0 := 24) (S2 := sX3_hasRun) (c_hasRun l G (zpk ad [24, 25]) (σ.2.2.2 0) (σ.2.2.1 0) a m) kc_X3_hasRun km_X5_262 ki_X3_hasRun kv_X3_hasRun kini_X3 ⟨kn_X3_hasRun, by decide, by decide⟩ (pc := 75) dX5_copy_75 [24, 25] rfl rfl rfl rfl (Nat.le_of_ble_eq_true rfl) rfl rfl rfl ?_
                | refine cV_P (ad := ad) (q0 := 26) (S2 := sX3_hasRun) (c_hasRun l G (zpk ad [26, 27]) (σ.2.2.2 1) (σ.2.2.1 1) a m) kc_X3_hasRun km_X5_262 ki_X3_hasRun kv_X3_hasRun kini_X3 ⟨kn_X3_hasRun, by decide, by decide⟩ (pc := 75) dX5_copy_75 [26, 27] rfl rfl rfl rfl (Nat.le_of_ble_eq_true rfl) rfl rfl rfl ?_
              first | refine a_if_neB (tgt := 85) (pc := 78) dX5_copy_78 (by decide) (fun c_78 => ?_) (fun c_78 => ?_) | refine a_if_ne (tgt := 85) (pc := 78) dX5_copy_78 (by decide) (fun c_78 => ?_) (fun c_78 => ?_)
              · refine a_aload_0 (pc := 85) dX5_copy_85 ?_
                refine a_getf (ci := 5) (j := 6) rfl win_X5 (by decide) (pc := 86) dX5_copy_86 kf_X5_47 rfl rfl ?_
                refine a_iload_1 (pc := 89) dX5_copy_89 ?_
                refine a_aaldN (k := 0) (pc := 90) dX5_copy_90 rfl (by decide) (by decide) rfl ?_
                refine a_getfN (ci := 3) (j := 0) rfl win_X3 (by decide) (pc := 91) dX5_copy_91 kf_X5_220 rfl rfl ?_
                refine a_iload_2 (pc := 94) dX5_copy_94 ?_
                refine a_aload_0 (pc := 95) dX5_copy_95 ?_
                refine a_getf (ci := 5) (j := 6) rfl win_X5 (by decide) (pc := 96) dX5_copy_96 kf_X5_47 rfl rfl ?_
                refine a_iload_3 (pc := 99) dX5_copy_99 ?_
                refine a_aaldN (k := 0) (pc := 100) dX5_copy_100 rfl (by decide) (by decide) rfl ?_
                refine a_getfN (ci := 3) (j := 0) rfl win_X3 (by decide) (pc := 101) dX5_copy_101 kf_X5_220 rfl rfl ?_
                refine a_iload_4 (pc := 104) dX5_copy_104 ?_
                refine a_iload_5 (pc := 106) dX5_copy_106 ?_
                refine a_copy (t0 := 2) (pc := 108) dX5_copy_108 km_X5_265 knat_copy kstat_copy kini_J10 rfl rfl rfl rfl rfl c_62.1 c_78.1 c_62.2.1 (by first | exact zHR_le hσ (s := 0) (by decide) c_62 | exact zHR_le hσ (s := 1) (by decide) c_62) (by first | exact zHR_le hσ (s := 0) (by decide) c_78 | exact zHR_le hσ (s := 1) (by decide) c_78) (fun i_ hi_ => by first | exact hσ.2.2.2.2.2.2.2.2.2.2.2.2.2 0 (by decide) _ (by have := zHR_le hσ (s := 0) (by decide) c_62; omega) | exact hσ.2.2.2.2.2.2.2.2.2.2.2.2.2 1 (by decide) _ (by have := zHR_le hσ (s := 1) (by decide) c_62; omega)) (by decide) (Nat.le_of_ble_eq_true (by decide)) ?_
                refine a_iload_5 (pc := 111) dX5_copy_111 ?_
                refine a_i2l (pc := 113) dX5_copy_113 ?_
                exact a_lret (pc := 114) dX5_copy_114 rfl rfl (by unfold o_copy; rw [if_neg (fun h => h.elim c_6 c_15)]; exact zret' x0 ((if_neg (fun h => h.elim c_31 c_43)).trans (if_neg (fun h => h.elim (fun h => h c_62) (fun h => h c_78)))) rfl)
              · refine a_ldc2 (pc := 81) dX5_copy_81 kl_X5_260 ?_
                exact a_lret (pc := 84) dX5_copy_84 rfl rfl (by unfold o_copy; rw [if_neg (fun h => h.elim c_6 c_15)]; first | exact zret' x0 ((if_neg (fun h => h.elim c_31 c_43)).trans (if_pos (Or.inl c_62))) rfl | exact zret' x0 ((if_neg (fun h => h.elim c_31 c_43)).trans (if_pos (Or.inr c_78))) rfl)
          · refine a_ldc2 (pc := 46) dX5_copy_46 kl_X5_215 ?_
            exact a_lret (pc := 49) dX5_copy_49 rfl rfl (by unfold o_copy; rw [if_neg (fun h => h.elim c_6 c_15)]; first | exact zret' x0 (if_pos (Or.inl c_31)) rfl | exact zret' x0 (if_pos (Or.inr c_43)) rfl)
      · refine a_aload_0 (pc := 22) dX5_copy_22 ?_
        refine a_getf (ci := 5) (j := 6) rfl win_X5 (by decide) (pc := 23) dX5_copy_23 kf_X5_47 rfl rfl ?_
        refine a_iload_1 (pc := 26) dX5_copy_26 ?_
        refine a_aaldN (k := 0) (pc := 27) dX5_copy_27 rfl (by decide) (by decide) rfl ?_
        first
          | refine cV_P (ad := ad) (q0 := 24) (S2 := sX3_isMissing) (c_isMissing l G (zpk ad [24, 25]) (σ.2.2.2 0) (σ.2.2.1 0)) kc_X3_isMissing km_X5_211 ki_X3_isMissing kv_X3_isMissing kini_X3 ⟨kn_X3_isMissing, by decide, by decide⟩ (pc := 28) dX5_copy_28 [24, 25] rfl rfl rfl rfl (Nat.le_of_ble_eq_true rfl) rfl rfl rfl ?_
          | refine cV_P (ad := ad) (q0 := 26) (S2 := sX3_isMissing) (c_isMissing l G (zpk ad [26, 27]) (σ.2.2.2 1) (σ.2.2.1 1)) kc_X3_isMissing km_X5_211 ki_X3_isMissing kv_X3_isMissing kini_X3 ⟨kn_X3_isMissing, by decide, by decide⟩ (pc := 28) dX5_copy_28 [26, 27] rfl rfl rfl rfl (Nat.le_of_ble_eq_true rfl) rfl rfl rfl ?_
        first | refine a_if_neB (tgt := 46) (pc := 31) dX5_copy_31 (by decide) (fun c_31 => ?_) (fun c_31 => ?_) | refine a_if_ne (tgt := 46) (pc := 31) dX5_copy_31 (by decide) (fun c_31 => ?_) (fun c_31 => ?_)
        · refine a_ldc2 (pc := 46) dX5_copy_46 kl_X5_215 ?_
          exact a_lret (pc := 49) dX5_copy_49 rfl rfl (by unfold o_copy; rw [if_neg (fun h => h.elim c_6 c_15)]; first | exact zret' x0 (if_pos (Or.inl c_31)) rfl | exact zret' x0 (if_pos (Or.inr c_43)) rfl)
        · refine a_aload_0 (pc := 34) dX5_copy_34 ?_
          refine a_getf (ci := 5) (j := 6) rfl win_X5 (by decide) (pc := 35) dX5_copy_35 kf_X5_47 rfl rfl ?_
          refine a_iload_3 (pc := 38) dX5_copy_38 ?_
          refine a_aaldN (k := 1) (pc := 39) dX5_copy_39 rfl (by decide) (by decide) rfl ?_
          first
            | refine cV_P (ad := ad) (q0 := 24) (S2 := sX3_isMissing) (c_isMissing l G (zpk ad [24, 25]) (σ.2.2.2 0) (σ.2.2.1 0)) kc_X3_isMissing km_X5_211 ki_X3_isMissing kv_X3_isMissing kini_X3 ⟨kn_X3_isMissing, by decide, by decide⟩ (pc := 40) dX5_copy_40 [24, 25] rfl rfl rfl rfl (Nat.le_of_ble_eq_true rfl) rfl rfl rfl ?_
            | refine cV_P (ad := ad) (q0 := 26) (S2 := sX3_isMissing) (c_isMissing l G (zpk ad [26, 27]) (σ.2.2.2 1) (σ.2.2.1 1)) kc_X3_isMissing km_X5_211 ki_X3_isMissing kv_X3_isMissing kini_X3 ⟨kn_X3_isMissing, by decide, by decide⟩ (pc := 40) dX5_copy_40 [26, 27] rfl rfl rfl rfl (Nat.le_of_ble_eq_true rfl) rfl rfl rfl ?_
          first | refine a_if_eqB (tgt := 50) (pc := 43) dX5_copy_43 (by decide) (fun c_43 => ?_) (fun c_43 => ?_) | refine a_if_eq (tgt := 50) (pc := 43) dX5_copy_43 (by decide) (fun c_43 => ?_) (fun c_43 => ?_)
          · refine a_aload_0 (pc := 50) dX5_copy_50 ?_
            refine a_getf (ci := 5) (j := 6) rfl win_X5 (by decide) (pc := 51) dX5_copy_51 kf_X5_47 rfl rfl ?_
            refine a_iload_1 (pc := 54) dX5_copy_54 ?_
            refine a_aaldN (k := 0) (pc := 55) dX5_copy_55 rfl (by decide) (by decide) rfl ?_
            refine a_iload_2 (pc := 56) dX5_copy_56 ?_
            refine a_iload_5 (pc := 57) dX5_copy_57 ?_
            first
              | refine cV_P (ad := ad) (q0 := 24) (S2 := sX3_hasRun) (c_hasRun l G (zpk ad [24, 25]) (σ.2.2.2 0) (σ.2.2.1 0) p m) kc_X3_hasRun km_X5_262 ki_X3_hasRun kv_X3_hasRun kini_X3 ⟨kn_X3_hasRun, by decide, by decide⟩ (pc := 59) dX5_copy_59 [24, 25] rfl rfl rfl rfl (Nat.le_of_ble_eq_true rfl) rfl rfl rfl ?_
              | refine cV_P (ad := ad) (q0 := 26) (S2 := sX3_hasRun) (c_hasRun l G (zpk ad [26, 27]) (σ.2.2.2 1) (σ.2.2.1 1) p m) kc_X3_hasRun km_X5_262 ki_X3_hasRun kv_X3_hasRun kini_X3 ⟨kn_X3_hasRun, by decide, by decide⟩ (pc := 59) dX5_copy_59 [26, 27] rfl rfl rfl rfl (Nat.le_of_ble_eq_true rfl) rfl rfl rfl ?_
            first | refine a_if_eqB (tgt := 81) (pc := 62) dX5_copy_62 (by decide) (fun c_62 => ?_) (fun c_62 => ?_) | refine a_if_eq (tgt := 81) (pc := 62) dX5_copy_62 (by decide) (fun c_62 => ?_) (fun c_62 => ?_)
            · refine a_ldc2 (pc := 81) dX5_copy_81 kl_X5_260 ?_
              exact a_lret (pc := 84) dX5_copy_84 rfl rfl (by unfold o_copy; rw [if_neg (fun h => h.elim c_6 c_15)]; first | exact zret' x0 ((if_neg (fun h => h.elim c_31 c_43)).trans (if_pos (Or.inl c_62))) rfl | exact zret' x0 ((if_neg (fun h => h.elim c_31 c_43)).trans (if_pos (Or.inr c_78))) rfl)
            · refine a_aload_0 (pc := 65) dX5_copy_65 ?_
              refine a_getf (ci := 5) (j := 6) rfl win_X5 (by decide) (pc := 66) dX5_copy_66 kf_X5_47 rfl rfl ?_
              refine a_iload_3 (pc := 69) dX5_copy_69 ?_
              refine a_aaldN (k := 1) (pc := 70) dX5_copy_70 rfl (by decide) (by decide) rfl ?_
              refine a_iload_4 (pc := 71) dX5_copy_71 ?_
              refine a_iload_5 (pc := 73) dX5_copy_73 ?_
              first
                | refine cV_P (ad := ad) (q0 := 24) (S2 := sX3_hasRun) (c_hasRun l G (zpk ad [24, 25]) (σ.2.2.2 0) (σ.2.2.1 0) a m) kc_X3_hasRun km_X5_262 ki_X3_hasRun kv_X3_hasRun kini_X3 ⟨kn_X3_hasRun, by decide, by decide⟩ (pc := 75) dX5_copy_75 [24, 25] rfl rfl rfl rfl (Nat.le_of_ble_eq_true rfl) rfl rfl rfl ?_
                | refine cV_P (ad := ad) (q0 := 26) (S2 := sX3_hasRun) (c_hasRun l G (zpk ad [26, 27]) (σ.2.2.2 1) (σ.2.2.1 1) a m) kc_X3_hasRun km_X5_262 ki_X3_hasRun kv_X3_hasRun kini_X3 ⟨kn_X3_hasRun, by decide, by decide⟩ (pc := 75) dX5_copy_75 [26, 27] rfl rfl rfl rfl (Nat.le_of_ble_eq_true rfl) rfl rfl rfl ?_
              first | refine a_if_neB (tgt := 85) (pc := 78) dX5_copy_78 (by decide) (fun c_78 => ?_) (fun c_78 => ?_) | refine a_if_ne (tgt := 85) (pc := 78) dX5_copy_78 (by decide) (fun c_78 => ?_) (fun c_78 => ?_)
              · refine a_aload_0 (pc := 85) dX5_copy_85 ?_
                refine a_getf (ci := 5) (j := 6) rfl win_X5 (by decide) (pc := 86) dX5_copy_86 kf_X5_47 rfl rfl ?_
                refine a_iload_1 (pc := 89) dX5_copy_89 ?_
                refine a_aaldN (k := 0) (pc := 90) dX5_copy_90 rfl (by decide) (by decide) rfl ?_
                refine a_getfN (ci := 3) (j := 0) rfl win_X3 (by decide) (pc := 91) dX5_copy_91 kf_X5_220 rfl rfl ?_
                refine a_iload_2 (pc := 94) dX5_copy_94 ?_
                refine a_aload_0 (pc := 95) dX5_copy_95 ?_
                refine a_getf (ci := 5) (j := 6) rfl win_X5 (by decide) (pc := 96) dX5_copy_96 kf_X5_47 rfl rfl ?_
                refine a_iload_3 (pc := 99) dX5_copy_99 ?_
                refine a_aaldN (k := 1) (pc := 100) dX5_copy_100 rfl (by decide) (by decide) rfl ?_
                refine a_getfN (ci := 3) (j := 0) rfl win_X3 (by decide) (pc := 101) dX5_copy_101 kf_X5_220 rfl rfl ?_
                refine a_iload_4 (pc := 104) dX5_copy_104 ?_
                refine a_iload_5 (pc := 106) dX5_copy_106 ?_
                refine a_copy (t0 := 2) (pc := 108) dX5_copy_108 km_X5_265 knat_copy kstat_copy kini_J10 rfl rfl rfl rfl rfl c_62.1 c_78.1 c_62.2.1 (by first | exact zHR_le hσ (s := 0) (by decide) c_62 | exact zHR_le hσ (s := 1) (by decide) c_62) (by first | exact zHR_le hσ (s := 0) (by decide) c_78 | exact zHR_le hσ (s := 1) (by decide) c_78) (fun i_ hi_ => by first | exact hσ.2.2.2.2.2.2.2.2.2.2.2.2.2 0 (by decide) _ (by have := zHR_le hσ (s := 0) (by decide) c_62; omega) | exact hσ.2.2.2.2.2.2.2.2.2.2.2.2.2 1 (by decide) _ (by have := zHR_le hσ (s := 1) (by decide) c_62; omega)) (by decide) (Nat.le_of_ble_eq_true (by decide)) ?_
                refine a_iload_5 (pc := 111) dX5_copy_111 ?_
                refine a_i2l (pc := 113) dX5_copy_113 ?_
                exact a_lret (pc := 114) dX5_copy_114 rfl rfl (by unfold o_copy; rw [if_neg (fun h => h.elim c_6 c_15)]; exact zret' x0 ((if_neg (fun h => h.elim c_31 c_43)).trans (if_neg (fun h => h.elim (fun h => h c_62) (fun h => h c_78)))) rfl)
              · refine a_ldc2 (pc := 81) dX5_copy_81 kl_X5_260 ?_
                exact a_lret (pc := 84) dX5_copy_84 rfl rfl (by unfold o_copy; rw [if_neg (fun h => h.elim c_6 c_15)]; first | exact zret' x0 ((if_neg (fun h => h.elim c_31 c_43)).trans (if_pos (Or.inl c_62))) rfl | exact zret' x0 ((if_neg (fun h => h.elim c_31 c_43)).trans (if_pos (Or.inr c_78))) rfl)
          · refine a_ldc2 (pc := 46) dX5_copy_46 kl_X5_215 ?_
            exact a_lret (pc := 49) dX5_copy_49 rfl rfl (by unfold o_copy; rw [if_neg (fun h => h.elim c_6 c_15)]; first | exact zret' x0 (if_pos (Or.inl c_31)) rfl | exact zret' x0 (if_pos (Or.inr c_43)) rfl)
      · refine a_aload_0 (pc := 22) dX5_copy_22 ?_
        refine a_getf (ci := 5) (j := 6) rfl win_X5 (by decide) (pc := 23) dX5_copy_23 kf_X5_47 rfl rfl ?_
        refine a_iload_1 (pc := 26) dX5_copy_26 ?_
        refine a_aaldN (k := 1) (pc := 27) dX5_copy_27 rfl (by decide) (by decide) rfl ?_
        first
          | refine cV_P (ad := ad) (q0 := 24) (S2 := sX3_isMissing) (c_isMissing l G (zpk ad [24, 25]) (σ.2.2.2 0) (σ.2.2.1 0)) kc_X3_isMissing km_X5_211 ki_X3_isMissing kv_X3_isMissing kini_X3 ⟨kn_X3_isMissing, by decide, by decide⟩ (pc := 28) dX5_copy_28 [24, 25] rfl rfl rfl rfl (Nat.le_of_ble_eq_true rfl) rfl rfl rfl ?_
          | refine cV_P (ad := ad) (q0 := 26) (S2 := sX3_isMissing) (c_isMissing l G (zpk ad [26, 27]) (σ.2.2.2 1) (σ.2.2.1 1)) kc_X3_isMissing km_X5_211 ki_X3_isMissing kv_X3_isMissing kini_X3 ⟨kn_X3_isMissing, by decide, by decide⟩ (pc := 28) dX5_copy_28 [26, 27] rfl rfl rfl rfl (Nat.le_of_ble_eq_true rfl) rfl rfl rfl ?_
        first | refine a_if_neB (tgt := 46) (pc := 31) dX5_copy_31 (by decide) (fun c_31 => ?_) (fun c_31 => ?_) | refine a_if_ne (tgt := 46) (pc := 31) dX5_copy_31 (by decide) (fun c_31 => ?_) (fun c_31 => ?_)
        · refine a_ldc2 (pc := 46) dX5_copy_46 kl_X5_215 ?_
          exact a_lret (pc := 49) dX5_copy_49 rfl rfl (by unfold o_copy; rw [if_neg (fun h => h.elim c_6 c_15)]; first | exact zret' x0 (if_pos (Or.inl c_31)) rfl | exact zret' x0 (if_pos (Or.inr c_43)) rfl)
        · refine a_aload_0 (pc := 34) dX5_copy_34 ?_
          refine a_getf (ci := 5) (j := 6) rfl win_X5 (by decide) (pc := 35) dX5_copy_35 kf_X5_47 rfl rfl ?_
          refine a_iload_3 (pc := 38) dX5_copy_38 ?_
          refine a_aaldN (k := 0) (pc := 39) dX5_copy_39 rfl (by decide) (by decide) rfl ?_
          first
            | refine cV_P (ad := ad) (q0 := 24) (S2 := sX3_isMissing) (c_isMissing l G (zpk ad [24, 25]) (σ.2.2.2 0) (σ.2.2.1 0)) kc_X3_isMissing km_X5_211 ki_X3_isMissing kv_X3_isMissing kini_X3 ⟨kn_X3_isMissing, by decide, by decide⟩ (pc := 40) dX5_copy_40 [24, 25] rfl rfl rfl rfl (Nat.le_of_ble_eq_true rfl) rfl rfl rfl ?_
            | refine cV_P (ad := ad) (q0 := 26) (S2 := sX3_isMissing) (c_isMissing l G (zpk ad [26, 27]) (σ.2.2.2 1) (σ.2.2.1 1)) kc_X3_isMissing km_X5_211 ki_X3_isMissing kv_X3_isMissing kini_X3 ⟨kn_X3_isMissing, by decide, by decide⟩ (pc := 40) dX5_copy_40 [26, 27] rfl rfl rfl rfl (Nat.le_of_ble_eq_true rfl) rfl rfl rfl ?_
          first | refine a_if_eqB (tgt := 50) (pc := 43) dX5_copy_43 (by decide) (fun c_43 => ?_) (fun c_43 => ?_) | refine a_if_eq (tgt := 50) (pc := 43) dX5_copy_43 (by decide) (fun c_43 => ?_) (fun c_43 => ?_)
          · refine a_aload_0 (pc := 50) dX5_copy_50 ?_
            refine a_getf (ci := 5) (j := 6) rfl win_X5 (by decide) (pc := 51) dX5_copy_51 kf_X5_47 rfl rfl ?_
            refine a_iload_1 (pc := 54) dX5_copy_54 ?_
            refine a_aaldN (k := 1) (pc := 55) dX5_copy_55 rfl (by decide) (by decide) rfl ?_
            refine a_iload_2 (pc := 56) dX5_copy_56 ?_
            refine a_iload_5 (pc := 57) dX5_copy_57 ?_
            first
              | refine cV_P (ad := ad) (q0 := 24) (S2 := sX3_hasRun) (c_hasRun l G (zpk ad [24, 25]) (σ.2.2.2 0) (σ.2.2.1 0) p m) kc_X3_hasRun km_X5_262 ki_X3_hasRun kv_X3_hasRun kini_X3 ⟨kn_X3_hasRun, by decide, by decide⟩ (pc := 59) dX5_copy_59 [24, 25] rfl rfl rfl rfl (Nat.le_of_ble_eq_true rfl) rfl rfl rfl ?_
              | refine cV_P (ad := ad) (q0 := 26) (S2 := sX3_hasRun) (c_hasRun l G (zpk ad [26, 27]) (σ.2.2.2 1) (σ.2.2.1 1) p m) kc_X3_hasRun km_X5_262 ki_X3_hasRun kv_X3_hasRun kini_X3 ⟨kn_X3_hasRun, by decide, by decide⟩ (pc := 59) dX5_copy_59 [26, 27] rfl rfl rfl rfl (Nat.le_of_ble_eq_true rfl) rfl rfl rfl ?_
            first | refine a_if_eqB (tgt := 81) (pc := 62) dX5_copy_62 (by decide) (fun c_62 => ?_) (fun c_62 => ?_) | refine a_if_eq (tgt := 81) (pc := 62) dX5_copy_62 (by decide) (fun c_62 => ?_) (fun c_62 => ?_)
            · refine a_ldc2 (pc := 81) dX5_copy_81 kl_X5_260 ?_
              exact a_lret (pc := 84) dX5_copy_84 rfl rfl (by unfold o_copy; rw [if_neg (fun h => h.elim c_6 c_15)]; first | exact zret' x0 ((if_neg (fun h => h.elim c_31 c_43)).trans (if_pos (Or.inl c_62))) rfl | exact zret' x0 ((if_neg (fun h => h.elim c_31 c_43)).trans (if_pos (Or.inr c_78))) rfl)
            · refine a_aload_0 (pc := 65) dX5_copy_65 ?_
              refine a_getf (ci := 5) (j := 6) rfl win_X5 (by decide) (pc := 66) dX5_copy_66 kf_X5_47 rfl rfl ?_
              refine a_iload_3 (pc := 69) dX5_copy_69 ?_
              refine a_aaldN (k := 0) (pc := 70) dX5_copy_70 rfl (by decide) (by decide) rfl ?_
              refine a_iload_4 (pc := 71) dX5_copy_71 ?_
              refine a_iload_5 (pc := 73) dX5_copy_73 ?_
              first
                | refine cV_P (ad := ad) (q0 := 24) (S2 := sX3_hasRun) (c_hasRun l G (zpk ad [24, 25]) (σ.2.2.2 0) (σ.2.2.1 0) a m) kc_X3_hasRun km_X5_262 ki_X3_hasRun kv_X3_hasRun kini_X3 ⟨kn_X3_hasRun, by decide, by decide⟩ (pc := 75) dX5_copy_75 [24, 25] rfl rfl rfl rfl (Nat.le_of_ble_eq_true rfl) rfl rfl rfl ?_
                | refine cV_P (ad := ad) (q0 := 26) (S2 := sX3_hasRun) (c_hasRun l G (zpk ad [26, 27]) (σ.2.2.2 1) (σ.2.2.1 1) a m) kc_X3_hasRun km_X5_262 ki_X3_hasRun kv_X3_hasRun kini_X3 ⟨kn_X3_hasRun, by decide, by decide⟩ (pc := 75) dX5_copy_75 [26, 27] rfl rfl rfl rfl (Nat.le_of_ble_eq_true rfl) rfl rfl rfl ?_
              first | refine a_if_neB (tgt := 85) (pc := 78) dX5_copy_78 (by decide) (fun c_78 => ?_) (fun c_78 => ?_) | refine a_if_ne (tgt := 85) (pc := 78) dX5_copy_78 (by decide) (fun c_78 => ?_) (fun c_78 => ?_)
              · refine a_aload_0 (pc := 85) dX5_copy_85 ?_
                refine a_getf (ci := 5) (j := 6) rfl win_X5 (by decide) (pc := 86) dX5_copy_86 kf_X5_47 rfl rfl ?_
                refine a_iload_1 (pc := 89) dX5_copy_89 ?_
                refine a_aaldN (k := 1) (pc := 90) dX5_copy_90 rfl (by decide) (by decide) rfl ?_
                refine a_getfN (ci := 3) (j := 0) rfl win_X3 (by decide) (pc := 91) dX5_copy_91 kf_X5_220 rfl rfl ?_
                refine a_iload_2 (pc := 94) dX5_copy_94 ?_
                refine a_aload_0 (pc := 95) dX5_copy_95 ?_
                refine a_getf (ci := 5) (j := 6) rfl win_X5 (by decide) (pc := 96) dX5_copy_96 kf_X5_47 rfl rfl ?_
                refine a_iload_3 (pc := 99) dX5_copy_99 ?_
                refine a_aaldN (k := 0) (pc := 100) dX5_copy_100 rfl (by decide) (by decide) rfl ?_
                refine a_getfN (ci := 3) (j := 0) rfl win_X3 (by decide) (pc := 101) dX5_copy_101 kf_X5_220 rfl rfl ?_
                refine a_iload_4 (pc := 104) dX5_copy_104 ?_
                refine a_iload_5 (pc := 106) dX5_copy_106 ?_
                refine a_copy (t0 := 2) (pc := 108) dX5_copy_108 km_X5_265 knat_copy kstat_copy kini_J10 rfl rfl rfl rfl rfl c_62.1 c_78.1 c_62.2.1 (by first | exact zHR_le hσ (s := 0) (by decide) c_62 | exact zHR_le hσ (s := 1) (by decide) c_62) (by first | exact zHR_le hσ (s := 0) (by decide) c_78 | exact zHR_le hσ (s := 1) (by decide) c_78) (fun i_ hi_ => by first | exact hσ.2.2.2.2.2.2.2.2.2.2.2.2.2 0 (by decide) _ (by have := zHR_le hσ (s := 0) (by decide) c_62; omega) | exact hσ.2.2.2.2.2.2.2.2.2.2.2.2.2 1 (by decide) _ (by have := zHR_le hσ (s := 1) (by decide) c_62; omega)) (by decide) (Nat.le_of_ble_eq_true (by decide)) ?_
                refine a_iload_5 (pc := 111) dX5_copy_111 ?_
                refine a_i2l (pc := 113) dX5_copy_113 ?_
                exact a_lret (pc := 114) dX5_copy_114 rfl rfl (by unfold o_copy; rw [if_neg (fun h => h.elim c_6 c_15)]; exact zret' x0 ((if_neg (fun h => h.elim c_31 c_43)).trans (if_neg (fun h => h.elim (fun h => h c_62) (fun h => h c_78)))) rfl)
              · refine a_ldc2 (pc := 81) dX5_copy_81 kl_X5_260 ?_
                exact a_lret (pc := 84) dX5_copy_84 rfl rfl (by unfold o_copy; rw [if_neg (fun h => h.elim c_6 c_15)]; first | exact zret' x0 ((if_neg (fun h => h.elim c_31 c_43)).trans (if_pos (Or.inl c_62))) rfl | exact zret' x0 ((if_neg (fun h => h.elim c_31 c_43)).trans (if_pos (Or.inr c_78))) rfl)
          · refine a_ldc2 (pc := 46) dX5_copy_46 kl_X5_215 ?_
            exact a_lret (pc := 49) dX5_copy_49 rfl rfl (by unfold o_copy; rw [if_neg (fun h => h.elim c_6 c_15)]; first | exact zret' x0 (if_pos (Or.inl c_31)) rfl | exact zret' x0 (if_pos (Or.inr c_43)) rfl)
      · refine a_aload_0 (pc := 22) dX5_copy_22 ?_
        refine a_getf (ci := 5) (j := 6) rfl win_X5 (by decide) (pc := 23) dX5_copy_23 kf_X5_47 rfl rfl ?_
        refine a_iload_1 (pc := 26) dX5_copy_26 ?_
        refine a_aaldN (k := 1) (pc := 27) dX5_copy_27 rfl (by decide) (by decide) rfl ?_
        first
          | refine cV_P (ad := ad) (q0 := 24) (S2 := sX3_isMissing) (c_isMissing l G (zpk ad [24, 25]) (σ.2.2.2 0) (σ.2.2.1 0)) kc_X3_isMissing km_X5_211 ki_X3_isMissing kv_X3_isMissing kini_X3 ⟨kn_X3_isMissing, by decide, by decide⟩ (pc := 28) dX5_copy_28 [24, 25] rfl rfl rfl rfl (Nat.le_of_ble_eq_true rfl) rfl rfl rfl ?_
          | refine cV_P (ad := ad) (q0 := 26) (S2 := sX3_isMissing) (c_isMissing l G (zpk ad [26, 27]) (σ.2.2.2 1) (σ.2.2.1 1)) kc_X3_isMissing km_X5_211 ki_X3_isMissing kv_X3_isMissing kini_X3 ⟨kn_X3_isMissing, by decide, by decide⟩ (pc := 28) dX5_copy_28 [26, 27] rfl rfl rfl rfl (Nat.le_of_ble_eq_true rfl) rfl rfl rfl ?_
        first | refine a_if_neB (tgt := 46) (pc := 31) dX5_copy_31 (by decide) (fun c_31 => ?_) (fun c_31 => ?_) | refine a_if_ne (tgt := 46) (pc := 31) dX5_copy_31 (by decide) (fun c_31 => ?_) (fun c_31 => ?_)
        · refine a_ldc2 (pc := 46) dX5_copy_46 kl_X5_215 ?_
          exact a_lret (pc := 49) dX5_copy_49 rfl rfl (by unfold o_copy; rw [if_neg (fun h => h.elim c_6 c_15)]; first | exact zret' x0 (if_pos (Or.inl c_31)) rfl | exact zret' x0 (if_pos (Or.inr c_43)) rfl)
        · refine a_aload_0 (pc := 34) dX5_copy_34 ?_
          refine a_getf (ci := 5) (j := 6) rfl win_X5 (by decide) (pc := 35) dX5_copy_35 kf_X5_47 rfl rfl ?_
          refine a_iload_3 (pc := 38) dX5_copy_38 ?_
          refine a_aaldN (k := 1) (pc := 39) dX5_copy_39 rfl (by decide) (by decide) rfl ?_
          first
            | refine cV_P (ad := ad) (q0 := 24) (S2 := sX3_isMissing) (c_isMissing l G (zpk ad [24, 25]) (σ.2.2.2 0) (σ.2.2.1 0)) kc_X3_isMissing km_X5_211 ki_X3_isMissing kv_X3_isMissing kini_X3 ⟨kn_X3_isMissing, by decide, by decide⟩ (pc := 40) dX5_copy_40 [24, 25] rfl rfl rfl rfl (Nat.le_of_ble_eq_true rfl) rfl rfl rfl ?_
            | refine cV_P (ad := ad) (q0 := 26) (S2 := sX3_isMissing) (c_isMissing l G (zpk ad [26, 27]) (σ.2.2.2 1) (σ.2.2.1 1)) kc_X3_isMissing km_X5_211 ki_X3_isMissing kv_X3_isMissing kini_X3 ⟨kn_X3_isMissing, by decide, by decide⟩ (pc := 40) dX5_copy_40 [26, 27] rfl rfl rfl rfl (Nat.le_of_ble_eq_true rfl) rfl rfl rfl ?_
          first | refine a_if_eqB (tgt := 50) (pc := 43) dX5_copy_43 (by decide) (fun c_43 => ?_) (fun c_43 => ?_) | refine a_if_eq (tgt := 50) (pc := 43) dX5_copy_43 (by decide) (fun c_43 => ?_) (fun c_43 => ?_)
          · refine a_aload_0 (pc := 50) dX5_copy_50 ?_
            refine a_getf (ci := 5) (j := 6) rfl win_X5 (by decide) (pc := 51) dX5_copy_51 kf_X5_47 rfl rfl ?_
            refine a_iload_1 (pc := 54) dX5_copy_54 ?_
            refine a_aaldN (k := 1) (pc := 55) dX5_copy_55 rfl (by decide) (by decide) rfl ?_
            refine a_iload_2 (pc := 56) dX5_copy_56 ?_
            refine a_iload_5 (pc := 57) dX5_copy_57 ?_
            first
              | refine cV_P (ad := ad) (q0 := 24) (S2 := sX3_hasRun) (c_hasRun l G (zpk ad [24, 25]) (σ.2.2.2 0) (σ.2.2.1 0) p m) kc_X3_hasRun km_X5_262 ki_X3_hasRun kv_X3_hasRun kini_X3 ⟨kn_X3_hasRun, by decide, by decide⟩ (pc := 59) dX5_copy_59 [24, 25] rfl rfl rfl rfl (Nat.le_of_ble_eq_true rfl) rfl rfl rfl ?_
              | refine cV_P (ad := ad) (q0 := 26) (S2 := sX3_hasRun) (c_hasRun l G (zpk ad [26, 27]) (σ.2.2.2 1) (σ.2.2.1 1) p m) kc_X3_hasRun km_X5_262 ki_X3_hasRun kv_X3_hasRun kini_X3 ⟨kn_X3_hasRun, by decide, by decide⟩ (pc := 59) dX5_copy_59 [26, 27] rfl rfl rfl rfl (Nat.le_of_ble_eq_true rfl) rfl rfl rfl ?_
            first | refine a_if_eqB (tgt := 81) (pc := 62) dX5_copy_62 (by decide) (fun c_62 => ?_) (fun c_62 => ?_) | refine a_if_eq (tgt := 81) (pc := 62) dX5_copy_62 (by decide) (fun c_62 => ?_) (fun c_62 => ?_)
            · refine a_ldc2 (pc := 81) dX5_copy_81 kl_X5_260 ?_
              exact a_lret (pc := 84) dX5_copy_84 rfl rfl (by unfold o_copy; rw [if_neg (fun h => h.elim c_6 c_15)]; first | exact zret' x0 ((if_neg (fun h => h.elim c_31 c_43)).trans (if_pos (Or.inl c_62))) rfl | exact zret' x0 ((if_neg (fun h => h.elim c_31 c_43)).trans (if_pos (Or.inr c_78))) rfl)
            · refine a_aload_0 (pc := 65) dX5_copy_65 ?_
              refine a_getf (ci := 5) (j := 6) rfl win_X5 (by decide) (pc := 66) dX5_copy_66 kf_X5_47 rfl rfl ?_
              refine a_iload_3 (pc := 69) dX5_copy_69 ?_
              refine a_aaldN (k := 1) (pc := 70) dX5_copy_70 rfl (by decide) (by decide) rfl ?_
              refine a_iload_4 (pc := 71) dX5_copy_71 ?_
              refine a_iload_5 (pc := 73) dX5_copy_73 ?_
              first
                | refine cV_P (ad := ad) (q0 := 24) (S2 := sX3_hasRun) (c_hasRun l G (zpk ad [24, 25]) (σ.2.2.2 0) (σ.2.2.1 0) a m) kc_X3_hasRun km_X5_262 ki_X3_hasRun kv_X3_hasRun kini_X3 ⟨kn_X3_hasRun, by decide, by decide⟩ (pc := 75) dX5_copy_75 [24, 25] rfl rfl rfl rfl (Nat.le_of_ble_eq_true rfl) rfl rfl rfl ?_
                | refine cV_P (ad := ad) (q0 := 26) (S2 := sX3_hasRun) (c_hasRun l G (zpk ad [26, 27]) (σ.2.2.2 1) (σ.2.2.1 1) a m) kc_X3_hasRun km_X5_262 ki_X3_hasRun kv_X3_hasRun kini_X3 ⟨kn_X3_hasRun, by decide, by decide⟩ (pc := 75) dX5_copy_75 [26, 27] rfl rfl rfl rfl (Nat.le_of_ble_eq_true rfl) rfl rfl rfl ?_
              first | refine a_if_neB (tgt := 85) (pc := 78) dX5_copy_78 (by decide) (fun c_78 => ?_) (fun c_78 => ?_) | refine a_if_ne (tgt := 85) (pc := 78) dX5_copy_78 (by decide) (fun c_78 => ?_) (fun c_78 => ?_)
              · refine a_aload_0 (pc := 85) dX5_copy_85 ?_
                refine a_getf (ci := 5) (j := 6) rfl win_X5 (by decide) (pc := 86) dX5_copy_86 kf_X5_47 rfl rfl ?_
                refine a_iload_1 (pc := 89) dX5_copy_89 ?_
                refine a_aaldN (k := 1) (pc := 90) dX5_copy_90 rfl (by decide) (by decide) rfl ?_
                refine a_getfN (ci := 3) (j := 0) rfl win_X3 (by decide) (pc := 91) dX5_copy_91 kf_X5_220 rfl rfl ?_
                refine a_iload_2 (pc := 94) dX5_copy_94 ?_
                refine a_aload_0 (pc := 95) dX5_copy_95 ?_
                refine a_getf (ci := 5) (j := 6) rfl win_X5 (by decide) (pc := 96) dX5_copy_96 kf_X5_47 rfl rfl ?_
                refine a_iload_3 (pc := 99) dX5_copy_99 ?_
                refine a_aaldN (k := 1) (pc := 100) dX5_copy_100 rfl (by decide) (by decide) rfl ?_
                refine a_getfN (ci := 3) (j := 0) rfl win_X3 (by decide) (pc := 101) dX5_copy_101 kf_X5_220 rfl rfl ?_
                refine a_iload_4 (pc := 104) dX5_copy_104 ?_
                refine a_iload_5 (pc := 106) dX5_copy_106 ?_
                refine a_copy (t0 := 2) (pc := 108) dX5_copy_108 km_X5_265 knat_copy kstat_copy kini_J10 rfl rfl rfl rfl rfl c_62.1 c_78.1 c_62.2.1 (by first | exact zHR_le hσ (s := 0) (by decide) c_62 | exact zHR_le hσ (s := 1) (by decide) c_62) (by first | exact zHR_le hσ (s := 0) (by decide) c_78 | exact zHR_le hσ (s := 1) (by decide) c_78) (fun i_ hi_ => by first | exact hσ.2.2.2.2.2.2.2.2.2.2.2.2.2 0 (by decide) _ (by have := zHR_le hσ (s := 0) (by decide) c_62; omega) | exact hσ.2.2.2.2.2.2.2.2.2.2.2.2.2 1 (by decide) _ (by have := zHR_le hσ (s := 1) (by decide) c_62; omega)) (by decide) (Nat.le_of_ble_eq_true (by decide)) ?_
                refine a_iload_5 (pc := 111) dX5_copy_111 ?_
                refine a_i2l (pc := 113) dX5_copy_113 ?_
                exact a_lret (pc := 114) dX5_copy_114 rfl rfl (by unfold o_copy; rw [if_neg (fun h => h.elim c_6 c_15)]; exact zret' x0 ((if_neg (fun h => h.elim c_31 c_43)).trans (if_neg (fun h => h.elim (fun h => h c_62) (fun h => h c_78)))) rfl)
              · refine a_ldc2 (pc := 81) dX5_copy_81 kl_X5_260 ?_
                exact a_lret (pc := 84) dX5_copy_84 rfl rfl (by unfold o_copy; rw [if_neg (fun h => h.elim c_6 c_15)]; first | exact zret' x0 ((if_neg (fun h => h.elim c_31 c_43)).trans (if_pos (Or.inl c_62))) rfl | exact zret' x0 ((if_neg (fun h => h.elim c_31 c_43)).trans (if_pos (Or.inr c_78))) rfl)
          · refine a_ldc2 (pc := 46) dX5_copy_46 kl_X5_215 ?_
            exact a_lret (pc := 49) dX5_copy_49 rfl rfl (by unfold o_copy; rw [if_neg (fun h => h.elim c_6 c_15)]; first | exact zret' x0 (if_pos (Or.inl c_31)) rfl | exact zret' x0 (if_pos (Or.inr c_43)) rfl)
    · refine a_ldc2 (pc := 18) dX5_copy_18 kl_X5_68 ?_
      exact a_lret (pc := 21) dX5_copy_21 rfl rfl (by first | exact zret' x0 (if_pos (Or.inl c_6)) rfl | exact zret' x0 (if_pos (Or.inr c_15)) rfl)
end
section
/-! The plant: plans, the tank. -/
abbrev zNσ (σ : zσ) (c : Nat) : Nat := zN (σ.2.1 4) (σ.2.1 5) (σ.2.1 3 5) (σ.2.1 3 6) 12 c
abbrev zIsP (σ : zσ) (c : Nat) : Prop := ¬ (1073741824 : Int32) ≤ nI (zNσ σ c)
def o_plan (σ : zσ) (x : Int32) : Int64 × zσ := (if zOR x 0 (nI (σ.2.1 3 5)) then zBAD else if zIsP σ x.toNatClampNeg then (nI (zNσ σ x.toNatClampNeg) >>> (12 &&& 31)).toInt64 else zNO, σ)
def o_runs (σ : zσ) (x : Int32) : Int64 × zσ := (if zOR x 0 (nI (σ.2.1 3 5)) then zBAD else if zIsP σ x.toNatClampNeg then (zBitsOf (nI (zNσ σ x.toNatClampNeg)) 12).toInt64 else zNO, σ)
def zHeld (σ : zσ) (c : Nat) : Nat → Int32
  | 0 => nI c
  | i + 1 => zBh (nI (σ.2.1 5 i)) (zHeld σ c i + (if zRunsAt (nI (zNσ σ c)) (nI i) then nI (σ.2.1 3 6) else 0)) (nI (σ.2.1 3 5))
def o_tank (σ : zσ) (x h : Int32) : Int64 × zσ := (if zOR x 0 (nI (σ.2.1 3 5)) ∨ zOR h 0 11 then zBAD else if ¬ zIsP σ x.toNatClampNeg then zNO else (zHeld σ x.toNatClampNeg (h.toNatClampNeg + 1)).toInt64, σ)
theorem zrangeT {σ : zσ} (hσ : zOk σ) {x : Int32} (h : ¬ zOR x 0 (nI (σ.2.1 3 5))) : ∃ k, k ≤ σ.2.1 3 5 ∧ x = nI k := by
  have h5 : σ.2.1 3 5 ≤ 200 := (hσ.2.2.2.2.2.2.2.2.2.1 5 (by decide)).2
  exact zrange (by omega) rfl h
set_option maxRecDepth 100000 in
set_option maxHeartbeats 4000000 in
theorem p_plan (l : Launch) (G : zG) (ad : Nat → Nat) (σ : zσ) (x0 : zX) (hσ : zOk σ) (x : Int32) : zSem l G sX5_plan [.ref (ad 0), .int x] (wP G ad σ x0) (zPost G ad (o_plan σ x)) := by
  refine zEnterV (L := [some (.ref (ad 0)), some (.int x), none]) (by decide) rfl (Nat.le_of_ble_eq_true rfl) rfl ?_
  refine a_iload_1 (pc := 0) dX5_plan_0 ?_
  refine a_iconst (v := 0) (pc := 1) dX5_plan_1 (by decide) ?_
  refine a_aload_0 (pc := 2) dX5_plan_2 ?_
  refine a_getf (ci := 5) (j := 0) rfl win_X5 (by decide) (pc := 3) dX5_plan_3 kf_X5_9 rfl rfl ?_
  refine a_iconst (v := 5) (pc := 6) dX5_plan_6 (by decide) ?_
  refine a_ialdN (k := 5) (pc := 7) dX5_plan_7 rfl (by omega) (by decide) ?_
  refine cS_P (S2 := sX5_outside) (c_outside l G _ _ _) kc_X5_outside km_X5_64 ks_X5_outside kini_X5 ⟨kn_X5_outside, by decide, by decide⟩ (pc := 8) dX5_plan_8 [] rfl rfl rfl rfl (Nat.le_of_ble_eq_true rfl) ?_
  first | refine a_if_eqB (tgt := 18) (pc := 11) dX5_plan_11 (by decide) (fun c_11 => ?_) (fun c_11 => ?_) | refine a_if_eq (tgt := 18) (pc := 11) dX5_plan_11 (by decide) (fun c_11 => ?_) (fun c_11 => ?_)
  · obtain ⟨k, hk_, rfl⟩ := zrangeT hσ c_11
    have h5_ : σ.2.1 3 5 ≤ 200 := (hσ.2.2.2.2.2.2.2.2.2.1 5 (by decide)).2
    refine a_aload_0 (pc := 18) dX5_plan_18 ?_
    refine a_getf (ci := 5) (j := 5) rfl win_X5 (by decide) (pc := 19) dX5_plan_19 kf_X5_40 rfl rfl ?_
    refine a_iload_1 (pc := 22) dX5_plan_22 ?_
    refine a_aload_0 (pc := 23) dX5_plan_23 ?_
    refine a_getf (ci := 5) (j := 0) rfl win_X5 (by decide) (pc := 24) dX5_plan_24 kf_X5_9 rfl rfl ?_
    refine a_iconst (v := 5) (pc := 27) dX5_plan_27 (by decide) ?_
    refine a_ialdN (k := 5) (pc := 28) dX5_plan_28 rfl (by omega) (by decide) ?_
    refine a_aload_0 (pc := 29) dX5_plan_29 ?_
    refine a_getf (ci := 5) (j := 0) rfl win_X5 (by decide) (pc := 30) dX5_plan_30 kf_X5_9 rfl rfl ?_
    refine a_bipush (v := 6) (pc := 33) dX5_plan_33 (by decide) ?_
    refine a_ialdN (k := 6) (pc := 35) dX5_plan_35 rfl (by omega) (by decide) ?_
    refine cV_V (ad := ad) (q0 := 18) (S2 := sX1_best) (c_best l G (zpk ad [18, 19, 20, 21, 22]) (fun k => nI (σ.2.1 4 k)) (fun k => nI (σ.2.1 5 k)) x0.2.2.2.2.2.2.1 x0.2.2.2.2.2.2.2 (σ.2.1 4) (σ.2.1 5) (fun h hh => ⟨rfl, hσ.2.2.2.2.2.2.2.2.2.2.1 h hh⟩) (fun h hh => ⟨rfl, hσ.2.2.2.2.2.2.2.2.2.2.2.1 h hh⟩) (σ.2.1 3 5) (σ.2.1 3 6) (hσ.2.2.2.2.2.2.2.2.2.1 5 (by decide)).2 (hσ.2.2.2.2.2.2.2.2.2.1 6 (by decide)).2 k hk_) kc_X1_best km_X5_232 ki_X1_best kv_X1_best kini_X1 ⟨kn_X1_best, by decide, by decide⟩ (pc := 36) dX5_plan_36 [18, 19, 20, 21, 22] rfl rfl rfl rfl (Nat.le_of_ble_eq_true rfl) rfl rfl rfl (fun u => wP G ad σ (x0.1, x0.2.1, x0.2.2.1, x0.2.2.2.1, x0.2.2.2.2.1, x0.2.2.2.2.2.1, u.1, u.2)) (fun _ => rfl) (fun u_ _ => ?_)
    refine a_istore_2 (pc := 39) dX5_plan_39 rfl (by decide) ?_
    refine a_iload_2 (pc := 40) dX5_plan_40 ?_
    refine cS_P (S2 := sX1_isPlan) (c_isPlan l G _) kc_X1_isPlan km_X5_236 ks_X1_isPlan kini_X1 ⟨kn_X1_isPlan, by decide, by decide⟩ (pc := 41) dX5_plan_41 [] rfl rfl rfl rfl (Nat.le_of_ble_eq_true rfl) ?_
    first | refine a_if_eqB (tgt := 55) (pc := 44) dX5_plan_44 (by decide) (fun c_44 => ?_) (fun c_44 => ?_) | refine a_if_eq (tgt := 55) (pc := 44) dX5_plan_44 (by decide) (fun c_44 => ?_) (fun c_44 => ?_)
    · refine a_ldc2 (pc := 55) dX5_plan_55 kl_X5_109 ?_
      exact a_lret (pc := 58) dX5_plan_58 rfl rfl (by first | exact zret' (x0.1, x0.2.1, x0.2.2.1, x0.2.2.2.1, x0.2.2.2.2.1, x0.2.2.2.2.2.1, u_.1, u_.2) (by unfold o_plan; rw [if_neg c_11, nI_clamp (by omega), if_pos c_44]) rfl | exact zret' (x0.1, x0.2.1, x0.2.2.1, x0.2.2.2.1, x0.2.2.2.2.1, x0.2.2.2.2.2.1, u_.1, u_.2) (by unfold o_plan; rw [if_neg c_11, nI_clamp (by omega), if_neg c_44]) rfl)
    · refine a_iload_2 (pc := 47) dX5_plan_47 ?_
      refine cS_P (S2 := sX1_costOf) (c_costOf l G _) kc_X1_costOf km_X5_239 ks_X1_costOf kini_X1 ⟨kn_X1_costOf, by decide, by decide⟩ (pc := 48) dX5_plan_48 [] rfl rfl rfl rfl (Nat.le_of_ble_eq_true rfl) ?_
      refine a_i2l (pc := 51) dX5_plan_51 ?_
      refine a_goto (tgt := 58) (pc := 52) dX5_plan_52 (by decide) ?_
      exact a_lret (pc := 58) dX5_plan_58 rfl rfl (by first | exact zret' (x0.1, x0.2.1, x0.2.2.1, x0.2.2.2.1, x0.2.2.2.2.1, x0.2.2.2.2.2.1, u_.1, u_.2) (by unfold o_plan; rw [if_neg c_11, nI_clamp (by omega), if_pos c_44]) rfl | exact zret' (x0.1, x0.2.1, x0.2.2.1, x0.2.2.2.1, x0.2.2.2.2.1, x0.2.2.2.2.2.1, u_.1, u_.2) (by unfold o_plan; rw [if_neg c_11, nI_clamp (by omega), if_neg c_44]) rfl)
  · refine a_ldc2 (pc := 14) dX5_plan_14 kl_X5_68 ?_
    exact a_lret (pc := 17) dX5_plan_17 rfl rfl (zret' x0 (by unfold o_plan; rw [if_pos c_11]) rfl)

set_option maxRecDepth 100000 in
set_option maxHeartbeats 4000000 in
theorem p_runs (l : Launch) (G : zG) (ad : Nat → Nat) (σ : zσ) (x0 : zX) (hσ : zOk σ) (x : Int32) : zSem l G sX5_runs [.ref (ad 0), .int x] (wP G ad σ x0) (zPost G ad (o_runs σ x)) := by
  refine zEnterV (L := [some (.ref (ad 0)), some (.int x), none]) (by decide) rfl (Nat.le_of_ble_eq_true rfl) rfl ?_
  refine a_iload_1 (pc := 0) dX5_runs_0 ?_
  refine a_iconst (v := 0) (pc := 1) dX5_runs_1 (by decide) ?_
  refine a_aload_0 (pc := 2) dX5_runs_2 ?_
  refine a_getf (ci := 5) (j := 0) rfl win_X5 (by decide) (pc := 3) dX5_runs_3 kf_X5_9 rfl rfl ?_
  refine a_iconst (v := 5) (pc := 6) dX5_runs_6 (by decide) ?_
  refine a_ialdN (k := 5) (pc := 7) dX5_runs_7 rfl (by omega) (by decide) ?_
  refine cS_P (S2 := sX5_outside) (c_outside l G _ _ _) kc_X5_outside km_X5_64 ks_X5_outside kini_X5 ⟨kn_X5_outside, by decide, by decide⟩ (pc := 8) dX5_runs_8 [] rfl rfl rfl rfl (Nat.le_of_ble_eq_true rfl) ?_
  first | refine a_if_eqB (tgt := 18) (pc := 11) dX5_runs_11 (by decide) (fun c_11 => ?_) (fun c_11 => ?_) | refine a_if_eq (tgt := 18) (pc := 11) dX5_runs_11 (by decide) (fun c_11 => ?_) (fun c_11 => ?_)
  · obtain ⟨k, hk_, rfl⟩ := zrangeT hσ c_11
    have h5_ : σ.2.1 3 5 ≤ 200 := (hσ.2.2.2.2.2.2.2.2.2.1 5 (by decide)).2
    refine a_aload_0 (pc := 18) dX5_runs_18 ?_
    refine a_getf (ci := 5) (j := 5) rfl win_X5 (by decide) (pc := 19) dX5_runs_19 kf_X5_40 rfl rfl ?_
    refine a_iload_1 (pc := 22) dX5_runs_22 ?_
    refine a_aload_0 (pc := 23) dX5_runs_23 ?_
    refine a_getf (ci := 5) (j := 0) rfl win_X5 (by decide) (pc := 24) dX5_runs_24 kf_X5_9 rfl rfl ?_
    refine a_iconst (v := 5) (pc := 27) dX5_runs_27 (by decide) ?_
    refine a_ialdN (k := 5) (pc := 28) dX5_runs_28 rfl (by omega) (by decide) ?_
    refine a_aload_0 (pc := 29) dX5_runs_29 ?_
    refine a_getf (ci := 5) (j := 0) rfl win_X5 (by decide) (pc := 30) dX5_runs_30 kf_X5_9 rfl rfl ?_
    refine a_bipush (v := 6) (pc := 33) dX5_runs_33 (by decide) ?_
    refine a_ialdN (k := 6) (pc := 35) dX5_runs_35 rfl (by omega) (by decide) ?_
    refine cV_V (ad := ad) (q0 := 18) (S2 := sX1_best) (c_best l G (zpk ad [18, 19, 20, 21, 22]) (fun k => nI (σ.2.1 4 k)) (fun k => nI (σ.2.1 5 k)) x0.2.2.2.2.2.2.1 x0.2.2.2.2.2.2.2 (σ.2.1 4) (σ.2.1 5) (fun h hh => ⟨rfl, hσ.2.2.2.2.2.2.2.2.2.2.1 h hh⟩) (fun h hh => ⟨rfl, hσ.2.2.2.2.2.2.2.2.2.2.2.1 h hh⟩) (σ.2.1 3 5) (σ.2.1 3 6) (hσ.2.2.2.2.2.2.2.2.2.1 5 (by decide)).2 (hσ.2.2.2.2.2.2.2.2.2.1 6 (by decide)).2 k hk_) kc_X1_best km_X5_232 ki_X1_best kv_X1_best kini_X1 ⟨kn_X1_best, by decide, by decide⟩ (pc := 36) dX5_runs_36 [18, 19, 20, 21, 22] rfl rfl rfl rfl (Nat.le_of_ble_eq_true rfl) rfl rfl rfl (fun u => wP G ad σ (x0.1, x0.2.1, x0.2.2.1, x0.2.2.2.1, x0.2.2.2.2.1, x0.2.2.2.2.2.1, u.1, u.2)) (fun _ => rfl) (fun u_ _ => ?_)
    refine a_istore_2 (pc := 39) dX5_runs_39 rfl (by decide) ?_
    refine a_iload_2 (pc := 40) dX5_runs_40 ?_
    refine cS_P (S2 := sX1_isPlan) (c_isPlan l G _) kc_X1_isPlan km_X5_236 ks_X1_isPlan kini_X1 ⟨kn_X1_isPlan, by decide, by decide⟩ (pc := 41) dX5_runs_41 [] rfl rfl rfl rfl (Nat.le_of_ble_eq_true rfl) ?_
    first | refine a_if_eqB (tgt := 55) (pc := 44) dX5_runs_44 (by decide) (fun c_44 => ?_) (fun c_44 => ?_) | refine a_if_eq (tgt := 55) (pc := 44) dX5_runs_44 (by decide) (fun c_44 => ?_) (fun c_44 => ?_)
    · refine a_ldc2 (pc := 55) dX5_runs_55 kl_X5_109 ?_
      exact a_lret (pc := 58) dX5_runs_58 rfl rfl (by first | exact zret' (x0.1, x0.2.1, x0.2.2.1, x0.2.2.2.1, x0.2.2.2.2.1, x0.2.2.2.2.2.1, u_.1, u_.2) (by unfold o_runs; rw [if_neg c_11, nI_clamp (by omega), if_pos c_44]) rfl | exact zret' (x0.1, x0.2.1, x0.2.2.1, x0.2.2.2.1, x0.2.2.2.2.1, x0.2.2.2.2.2.1, u_.1, u_.2) (by unfold o_runs; rw [if_neg c_11, nI_clamp (by omega), if_neg c_44]) rfl)
    · refine a_iload_2 (pc := 47) dX5_runs_47 ?_
      refine cS_P (S2 := sX1_bitsOf) (c_bitsOf l G _) kc_X1_bitsOf km_X5_242 ks_X1_bitsOf kini_X1 ⟨kn_X1_bitsOf, by decide, by decide⟩ (pc := 48) dX5_runs_48 [] rfl rfl rfl rfl (Nat.le_of_ble_eq_true rfl) ?_
      refine a_i2l (pc := 51) dX5_runs_51 ?_
      refine a_goto (tgt := 58) (pc := 52) dX5_runs_52 (by decide) ?_
      exact a_lret (pc := 58) dX5_runs_58 rfl rfl (by first | exact zret' (x0.1, x0.2.1, x0.2.2.1, x0.2.2.2.1, x0.2.2.2.2.1, x0.2.2.2.2.2.1, u_.1, u_.2) (by unfold o_runs; rw [if_neg c_11, nI_clamp (by omega), if_pos c_44]) rfl | exact zret' (x0.1, x0.2.1, x0.2.2.1, x0.2.2.2.1, x0.2.2.2.2.1, x0.2.2.2.2.2.1, u_.1, u_.2) (by unfold o_runs; rw [if_neg c_11, nI_clamp (by omega), if_neg c_44]) rfl)
  · refine a_ldc2 (pc := 14) dX5_runs_14 kl_X5_68 ?_
    exact a_lret (pc := 17) dX5_runs_17 rfl rfl (zret' x0 (by unfold o_runs; rw [if_pos c_11]) rfl)

set_option maxRecDepth 100000 in
set_option maxHeartbeats 4000000 in
theorem lp_tank (l : Launch) (G : zG) (ad : Nat → Nat) (σ : zσ) (hσ : zOk σ) (x0 x1 : zX) (k h : Nat) (hk : k ≤ σ.2.1 3 5) (hh : h ≤ 11) : ∀ (q i : Nat), i + q = h + 1 → AV l G sX5_tank (wP G ad σ x0) (zPost G ad ((zHeld σ k (h + 1)).toInt64, σ)) 67 [some (.ref (ad 0)), some (.int (nI k)), some (.int (nI h)), some (.int (nI (zNσ σ k))), some (.int (zHeld σ k i)), some (.int (nI i))] [] (wP G ad σ x1) := by
  have h5_ : σ.2.1 3 5 ≤ 200 := (hσ.2.2.2.2.2.2.2.2.2.1 5 (by decide)).2
  intro q_
  induction q_ using Nat.strongRecOn
  rename_i q_ ih_
  intro i hq_
  refine a_iload_5 (pc := 67) dX5_tank_67 ?_
  refine a_iload_2 (pc := 69) dX5_tank_69 ?_
  refine a_icmp_gt (tgt := 119) (pc := 70) dX5_tank_70 (by decide) (fun c_70 => ?_) (fun c_70 => ?_)
  · obtain rfl : i = h + 1 := by have := (zI_lt (by omega) (by omega)).mp c_70; omega
    refine a_iload_4 (pc := 119) dX5_tank_119 ?_
    refine a_i2l (pc := 121) dX5_tank_121 ?_
    exact a_lret (pc := 122) dX5_tank_122 rfl rfl (zret' x1 rfl rfl)
  · have hi_ : i ≤ h := by have := mt (zI_lt (a := h) (b := i) (by omega) (by omega)).mpr c_70; omega
    refine a_aload_0 (pc := 73) dX5_tank_73 ?_
    refine a_getf (ci := 5) (j := 5) rfl win_X5 (by decide) (pc := 74) dX5_tank_74 kf_X5_40 rfl rfl ?_
    refine a_iload_5 (pc := 77) dX5_tank_77 ?_
    refine a_iload_4 (pc := 79) dX5_tank_79 ?_
    refine a_iload_3 (pc := 81) dX5_tank_81 ?_
    refine a_iload_5 (pc := 82) dX5_tank_82 ?_
    refine cS_P (S2 := sX1_runsAt) (c_runsAt l G _ _) kc_X1_runsAt km_X5_245 ks_X1_runsAt kini_X1 ⟨kn_X1_runsAt, by decide, by decide⟩ (pc := 84) dX5_tank_84 [] rfl rfl rfl rfl (Nat.le_of_ble_eq_true rfl) ?_
    first | refine a_if_eqB (tgt := 100) (pc := 87) dX5_tank_87 (by decide) (fun c_87 => ?_) (fun c_87 => ?_) | refine a_if_eq (tgt := 100) (pc := 87) dX5_tank_87 (by decide) (fun c_87 => ?_) (fun c_87 => ?_)
    · refine a_iconst (v := 0) (pc := 100) dX5_tank_100 (by decide) ?_
      refine a_iadd (pc := 101) dX5_tank_101 ?_
      refine a_aload_0 (pc := 102) dX5_tank_102 ?_
      refine a_getf (ci := 5) (j := 0) rfl win_X5 (by decide) (pc := 103) dX5_tank_103 kf_X5_9 rfl rfl ?_
      refine a_iconst (v := 5) (pc := 106) dX5_tank_106 (by decide) ?_
      refine a_ialdN (k := 5) (pc := 107) dX5_tank_107 rfl (by omega) (by decide) ?_
      refine cV_P (ad := ad) (q0 := 18) (S2 := sX1_behind) (c_behind l G (zpk ad [18, 19, 20, 21, 22]) (fun k => nI (σ.2.1 4 k)) (fun k => nI (σ.2.1 5 k)) x1.2.2.2.2.2.2.1 x1.2.2.2.2.2.2.2 i (by omega) _ _) kc_X1_behind km_X5_248 ki_X1_behind kv_X1_behind kini_X1 ⟨kn_X1_behind, by decide, by decide⟩ (pc := 108) dX5_tank_108 [18, 19, 20, 21, 22] rfl rfl rfl rfl (Nat.le_of_ble_eq_true rfl) rfl rfl rfl ?_
      refine a_istore_4 (pc := 111) dX5_tank_111 rfl (by decide) ?_
      refine a_iinc_5 (cst := 1) (pc := 113) dX5_tank_113 rfl (by decide) (by decide) ?_
      refine a_goto (tgt := 67) (pc := 116) dX5_tank_116 (by decide) ?_
      rw [← nI_succ]
      refine a_to (ih_ (q_ - 1) (by omega) (i + 1) (by omega)) rfl ?_ rfl rfl
      show [some (Value.ref (ad 0)), some (Value.int (nI k)), some (Value.int (nI h)), some (Value.int (nI (zNσ σ k))), some (Value.int (zBh (nI (σ.2.1 5 i)) (zHeld σ k i + (if zRunsAt (nI (zNσ σ k)) (nI i) then nI (σ.2.1 3 6) else 0)) (nI (σ.2.1 3 5)))), some (Value.int (nI (i + 1)))] = _
      first | rw [if_pos c_87] | rw [if_neg c_87]
    · refine a_aload_0 (pc := 90) dX5_tank_90 ?_
      refine a_getf (ci := 5) (j := 0) rfl win_X5 (by decide) (pc := 91) dX5_tank_91 kf_X5_9 rfl rfl ?_
      refine a_bipush (v := 6) (pc := 94) dX5_tank_94 (by decide) ?_
      refine a_ialdN (k := 6) (pc := 96) dX5_tank_96 rfl (by omega) (by decide) ?_
      refine a_goto (tgt := 101) (pc := 97) dX5_tank_97 (by decide) ?_
      refine a_iadd (pc := 101) dX5_tank_101 ?_
      refine a_aload_0 (pc := 102) dX5_tank_102 ?_
      refine a_getf (ci := 5) (j := 0) rfl win_X5 (by decide) (pc := 103) dX5_tank_103 kf_X5_9 rfl rfl ?_
      refine a_iconst (v := 5) (pc := 106) dX5_tank_106 (by decide) ?_
      refine a_ialdN (k := 5) (pc := 107) dX5_tank_107 rfl (by omega) (by decide) ?_
      refine cV_P (ad := ad) (q0 := 18) (S2 := sX1_behind) (c_behind l G (zpk ad [18, 19, 20, 21, 22]) (fun k => nI (σ.2.1 4 k)) (fun k => nI (σ.2.1 5 k)) x1.2.2.2.2.2.2.1 x1.2.2.2.2.2.2.2 i (by omega) _ _) kc_X1_behind km_X5_248 ki_X1_behind kv_X1_behind kini_X1 ⟨kn_X1_behind, by decide, by decide⟩ (pc := 108) dX5_tank_108 [18, 19, 20, 21, 22] rfl rfl rfl rfl (Nat.le_of_ble_eq_true rfl) rfl rfl rfl ?_
      refine a_istore_4 (pc := 111) dX5_tank_111 rfl (by decide) ?_
      refine a_iinc_5 (cst := 1) (pc := 113) dX5_tank_113 rfl (by decide) (by decide) ?_
      refine a_goto (tgt := 67) (pc := 116) dX5_tank_116 (by decide) ?_
      rw [← nI_succ]
      refine a_to (ih_ (q_ - 1) (by omega) (i + 1) (by omega)) rfl ?_ rfl rfl
      show [some (Value.ref (ad 0)), some (Value.int (nI k)), some (Value.int (nI h)), some (Value.int (nI (zNσ σ k))), some (Value.int (zBh (nI (σ.2.1 5 i)) (zHeld σ k i + (if zRunsAt (nI (zNσ σ k)) (nI i) then nI (σ.2.1 3 6) else 0)) (nI (σ.2.1 3 5)))), some (Value.int (nI (i + 1)))] = _
      first | rw [if_pos c_87] | rw [if_neg c_87]

set_option maxRecDepth 100000 in
set_option maxHeartbeats 4000000 in
theorem p_tank (l : Launch) (G : zG) (ad : Nat → Nat) (σ : zσ) (x0 : zX) (hσ : zOk σ) (x : Int32) (hh : Int32) : zSem l G sX5_tank [.ref (ad 0), .int x, .int hh] (wP G ad σ x0) (zPost G ad (o_tank σ x hh)) := by
  refine zEnterV (L := [some (.ref (ad 0)), some (.int x), some (.int hh), none, none, none]) (by decide) rfl (Nat.le_of_ble_eq_true rfl) rfl ?_
  refine a_iload_1 (pc := 0) dX5_tank_0 ?_
  refine a_iconst (v := 0) (pc := 1) dX5_tank_1 (by decide) ?_
  refine a_aload_0 (pc := 2) dX5_tank_2 ?_
  refine a_getf (ci := 5) (j := 0) rfl win_X5 (by decide) (pc := 3) dX5_tank_3 kf_X5_9 rfl rfl ?_
  refine a_iconst (v := 5) (pc := 6) dX5_tank_6 (by decide) ?_
  refine a_ialdN (k := 5) (pc := 7) dX5_tank_7 rfl (by omega) (by decide) ?_
  refine cS_P (S2 := sX5_outside) (c_outside l G _ _ _) kc_X5_outside km_X5_64 ks_X5_outside kini_X5 ⟨kn_X5_outside, by decide, by decide⟩ (pc := 8) dX5_tank_8 [] rfl rfl rfl rfl (Nat.le_of_ble_eq_true rfl) ?_
  first | refine a_if_neB (tgt := 24) (pc := 11) dX5_tank_11 (by decide) (fun c_11 => ?_) (fun c_11 => ?_) | refine a_if_ne (tgt := 24) (pc := 11) dX5_tank_11 (by decide) (fun c_11 => ?_) (fun c_11 => ?_)
  · refine a_ldc2 (pc := 24) dX5_tank_24 kl_X5_68 ?_
    exact a_lret (pc := 27) dX5_tank_27 rfl rfl (by first | exact zret' x0 (by unfold o_tank; rw [if_pos (Or.inl c_11)]) rfl | exact zret' x0 (by unfold o_tank; rw [if_pos (Or.inr c_21)]) rfl)
  · refine a_iload_2 (pc := 14) dX5_tank_14 ?_
    refine a_iconst (v := 0) (pc := 15) dX5_tank_15 (by decide) ?_
    refine a_bipush (v := 11) (pc := 16) dX5_tank_16 (by decide) ?_
    refine cS_P (S2 := sX5_outside) (c_outside l G _ _ _) kc_X5_outside km_X5_64 ks_X5_outside kini_X5 ⟨kn_X5_outside, by decide, by decide⟩ (pc := 18) dX5_tank_18 [] rfl rfl rfl rfl (Nat.le_of_ble_eq_true rfl) ?_
    first | refine a_if_eqB (tgt := 28) (pc := 21) dX5_tank_21 (by decide) (fun c_21 => ?_) (fun c_21 => ?_) | refine a_if_eq (tgt := 28) (pc := 21) dX5_tank_21 (by decide) (fun c_21 => ?_) (fun c_21 => ?_)
    · obtain ⟨k, hk_, rfl⟩ := zrangeT hσ c_11
      obtain ⟨h, hhh_, rfl⟩ := zrange (n := 11) (by decide) rfl c_21
      have h5_ : σ.2.1 3 5 ≤ 200 := (hσ.2.2.2.2.2.2.2.2.2.1 5 (by decide)).2
      refine a_aload_0 (pc := 28) dX5_tank_28 ?_
      refine a_getf (ci := 5) (j := 5) rfl win_X5 (by decide) (pc := 29) dX5_tank_29 kf_X5_40 rfl rfl ?_
      refine a_iload_1 (pc := 32) dX5_tank_32 ?_
      refine a_aload_0 (pc := 33) dX5_tank_33 ?_
      refine a_getf (ci := 5) (j := 0) rfl win_X5 (by decide) (pc := 34) dX5_tank_34 kf_X5_9 rfl rfl ?_
      refine a_iconst (v := 5) (pc := 37) dX5_tank_37 (by decide) ?_
      refine a_ialdN (k := 5) (pc := 38) dX5_tank_38 rfl (by omega) (by decide) ?_
      refine a_aload_0 (pc := 39) dX5_tank_39 ?_
      refine a_getf (ci := 5) (j := 0) rfl win_X5 (by decide) (pc := 40) dX5_tank_40 kf_X5_9 rfl rfl ?_
      refine a_bipush (v := 6) (pc := 43) dX5_tank_43 (by decide) ?_
      refine a_ialdN (k := 6) (pc := 45) dX5_tank_45 rfl (by omega) (by decide) ?_
      refine cV_V (ad := ad) (q0 := 18) (S2 := sX1_best) (c_best l G (zpk ad [18, 19, 20, 21, 22]) (fun k => nI (σ.2.1 4 k)) (fun k => nI (σ.2.1 5 k)) x0.2.2.2.2.2.2.1 x0.2.2.2.2.2.2.2 (σ.2.1 4) (σ.2.1 5) (fun h hh => ⟨rfl, hσ.2.2.2.2.2.2.2.2.2.2.1 h hh⟩) (fun h hh => ⟨rfl, hσ.2.2.2.2.2.2.2.2.2.2.2.1 h hh⟩) (σ.2.1 3 5) (σ.2.1 3 6) (hσ.2.2.2.2.2.2.2.2.2.1 5 (by decide)).2 (hσ.2.2.2.2.2.2.2.2.2.1 6 (by decide)).2 k hk_) kc_X1_best km_X5_232 ki_X1_best kv_X1_best kini_X1 ⟨kn_X1_best, by decide, by decide⟩ (pc := 46) dX5_tank_46 [18, 19, 20, 21, 22] rfl rfl rfl rfl (Nat.le_of_ble_eq_true rfl) rfl rfl rfl (fun u => wP G ad σ (x0.1, x0.2.1, x0.2.2.1, x0.2.2.2.1, x0.2.2.2.2.1, x0.2.2.2.2.2.1, u.1, u.2)) (fun _ => rfl) (fun u_ _ => ?_)
      refine a_istore_3 (pc := 49) dX5_tank_49 rfl (by decide) ?_
      refine a_iload_3 (pc := 50) dX5_tank_50 ?_
      refine cS_P (S2 := sX1_isPlan) (c_isPlan l G _) kc_X1_isPlan km_X5_236 ks_X1_isPlan kini_X1 ⟨kn_X1_isPlan, by decide, by decide⟩ (pc := 51) dX5_tank_51 [] rfl rfl rfl rfl (Nat.le_of_ble_eq_true rfl) ?_
      first | refine a_if_neB (tgt := 61) (pc := 54) dX5_tank_54 (by decide) (fun c_54 => ?_) (fun c_54 => ?_) | refine a_if_ne (tgt := 61) (pc := 54) dX5_tank_54 (by decide) (fun c_54 => ?_) (fun c_54 => ?_)
      · refine a_iload_1 (pc := 61) dX5_tank_61 ?_
        refine a_istore_4 (pc := 62) dX5_tank_62 rfl (by decide) ?_
        refine a_iconst (v := 0) (pc := 64) dX5_tank_64 (by decide) ?_
        refine a_istore_5 (pc := 65) dX5_tank_65 rfl (by decide) ?_
        have e_ : o_tank σ (nI k) (nI h) = ((zHeld σ k (h + 1)).toInt64, σ) := by unfold o_tank; rw [if_neg (fun h => h.elim c_11 c_21), nI_clamp (by omega), if_neg (fun h => h c_54), nI_clamp (by omega)]
        rw [e_]
        exact lp_tank l G ad σ hσ x0 (x0.1, x0.2.1, x0.2.2.1, x0.2.2.2.1, x0.2.2.2.2.1, x0.2.2.2.2.2.1, u_.1, u_.2) k h hk_ hhh_ (h + 1) 0 (by omega)
      · refine a_ldc2 (pc := 57) dX5_tank_57 kl_X5_109 ?_
        exact a_lret (pc := 60) dX5_tank_60 rfl rfl (zret' (x0.1, x0.2.1, x0.2.2.1, x0.2.2.2.1, x0.2.2.2.2.1, x0.2.2.2.2.2.1, u_.1, u_.2) (by unfold o_tank; rw [if_neg (fun h => h.elim c_11 c_21), nI_clamp (by omega), if_pos c_54]) rfl)
    · refine a_ldc2 (pc := 24) dX5_tank_24 kl_X5_68 ?_
      exact a_lret (pc := 27) dX5_tank_27 rfl rfl (by first | exact zret' x0 (by unfold o_tank; rw [if_pos (Or.inl c_11)]) rfl | exact zret' x0 (by unfold o_tank; rw [if_pos (Or.inr c_21)]) rfl)
end
section
/-! The plant: foul, the best change. -/
def zFs (v : Nat → Int32) (n : Int32) (f : Nat → Nat) : Nat → Int64 × Nat
  | 0 => (0, 0)
  | i + 1 => if zHd v n i then ((zFs v n f i).1 + (nI (f i)).toInt64, if nI (f i) ≤ nI (f (zFs v n f i).2) then (zFs v n f i).2 else i) else zFs v n f i
theorem zFs_lt (v : Nat → Int32) (n : Int32) (f : Nat → Nat) : ∀ i, i ≤ 72 → (zFs v n f i).2 < 72
  | 0, _ => Nat.succ_pos 71
  | i + 1, h => by
    have := zFs_lt v n f i (by omega)
    unfold zFs
    split
    · show (if _ then _ else _) < 72
      split <;> omega
    · exact this
abbrev zFsσ (σ : zσ) : Nat → Int64 × Nat := zFs (zVesf σ) (nI (σ.1 0)) (σ.2.1 2)
def o_foul (σ : zσ) (c : Int32) : Int64 × zσ := (if zOR c 0 2 then zBAD else if c = 0 then (zFsσ σ 72).1 else if c = 1 then (nI (σ.2.1 2 (zFsσ σ 72).2)).toInt64 else (nI (zNum (zFsσ σ 72).2)).toInt64, σ)
set_option maxRecDepth 100000 in
set_option maxHeartbeats 4000000 in
theorem lp_foul (l : Launch) (G : zG) (ad : Nat → Nat) (σ : zσ) (x0 : zX) (c : Int32) (hc : ¬ zOR c 0 2) : ∀ (q i : Nat), i + q = 72 → AV l G sX5_foul (wP G ad σ x0) (zPost G ad (o_foul σ c)) 21 [some (.ref (ad 0)), some (.int c), some (.long (zFsσ σ i).1), none, some (.int (nI (zFsσ σ i).2)), some (.int (nI i))] [] (wP G ad σ x0) := by
  intro q_
  induction q_ using Nat.strongRecOn
  rename_i q_ ih_
  intro i hq_
  refine a_iload_5 (pc := 21) dX5_foul_21 ?_
  refine a_bipush (v := 72) (pc := 23) dX5_foul_23 (by decide) ?_
  refine a_icmp_ge (tgt := 92) (pc := 25) dX5_foul_25 (by decide) (fun c_25 => ?_) (fun c_25 => ?_)
  · obtain rfl : i = 72 := by have := (zI_le (a := 72) (b := i) (by decide) (by omega)).mp c_25; omega
    refine a_iload_1 (pc := 92) dX5_foul_92 ?_
    first | refine a_if_neB (tgt := 98) (pc := 93) dX5_foul_93 (by decide) (fun c_93 => ?_) (fun c_93 => ?_) | refine a_if_ne (tgt := 98) (pc := 93) dX5_foul_93 (by decide) (fun c_93 => ?_) (fun c_93 => ?_)
    · have hlt_ := zFs_lt (zVesf σ) (nI (σ.1 0)) (σ.2.1 2) 72 (by omega)
      refine a_iload_1 (pc := 98) dX5_foul_98 ?_
      refine a_iconst (v := 1) (pc := 99) dX5_foul_99 (by decide) ?_
      refine a_icmp_ne (tgt := 117) (pc := 100) dX5_foul_100 (by decide) (fun c_100 => ?_) (fun c_100 => ?_)
      · refine a_iload_4 (pc := 117) dX5_foul_117 ?_
        refine cS_P (S2 := sX5_numberOf) (c_numberOf l G _ hlt_) kc_X5_numberOf km_X5_167 ks_X5_numberOf kini_X5 ⟨kn_X5_numberOf, by decide, by decide⟩ (pc := 119) dX5_foul_119 [] rfl rfl rfl rfl (Nat.le_of_ble_eq_true rfl) ?_
        refine a_i2l (pc := 122) dX5_foul_122 ?_
        exact a_lret (pc := 123) dX5_foul_123 rfl rfl (by first | exact zret' x0 (by unfold o_foul; rw [if_neg hc, if_neg c_93, if_pos c_100]) rfl | exact zret' x0 (by unfold o_foul; rw [if_neg hc, if_neg c_93, if_neg c_100]) rfl)
      · refine a_aload_0 (pc := 103) dX5_foul_103 ?_
        refine a_getf (ci := 5) (j := 3) rfl win_X5 (by decide) (pc := 104) dX5_foul_104 kf_X5_26 rfl rfl ?_
        refine a_getfN (ci := 4) (j := 1) rfl win_X4 (by decide) (pc := 107) dX5_foul_107 kf_X5_87 rfl rfl ?_
        refine a_iload_4 (pc := 110) dX5_foul_110 ?_
        refine a_ialdN (pc := 112) dX5_foul_112 rfl (by omega) (by decide) ?_
        refine a_i2l (pc := 113) dX5_foul_113 ?_
        refine a_goto (tgt := 123) (pc := 114) dX5_foul_114 (by decide) ?_
        exact a_lret (pc := 123) dX5_foul_123 rfl rfl (by first | exact zret' x0 (by unfold o_foul; rw [if_neg hc, if_neg c_93, if_pos c_100]) rfl | exact zret' x0 (by unfold o_foul; rw [if_neg hc, if_neg c_93, if_neg c_100]) rfl)
    · refine a_lload_2 (pc := 96) dX5_foul_96 ?_
      exact a_lret (pc := 97) dX5_foul_97 rfl rfl (zret' x0 (by unfold o_foul; rw [if_neg hc, if_pos c_93]) rfl)
  · have hi_ : i < 72 := by have := mt (zI_le (a := 72) (b := i) (by decide) (by omega)).mpr c_25; omega
    have hlt_ := zFs_lt (zVesf σ) (nI (σ.1 0)) (σ.2.1 2) i (by omega)
    refine a_aload_0 (pc := 28) dX5_foul_28 ?_
    refine a_getf (ci := 5) (j := 1) rfl win_X5 (by decide) (pc := 29) dX5_foul_29 kf_X5_16 rfl rfl ?_
    refine a_iload_5 (pc := 32) dX5_foul_32 ?_
    refine cV_P (ad := ad) (q0 := 2) (S2 := sX2_holdsSkin) (c_holdsSkin l G (zpk ad [2, 3]) (zVesf σ) (nI (σ.1 0)) i hi_) kc_X2_holdsSkin km_X5_105 ki_X2_holdsSkin kv_X2_holdsSkin kini_X2 ⟨kn_X2_holdsSkin, by decide, by decide⟩ (pc := 34) dX5_foul_34 [2, 3] rfl rfl rfl rfl (Nat.le_of_ble_eq_true rfl) rfl rfl rfl ?_
    first | refine a_if_eqB (tgt := 86) (pc := 37) dX5_foul_37 (by decide) (fun c_37 => ?_) (fun c_37 => ?_) | refine a_if_eq (tgt := 86) (pc := 37) dX5_foul_37 (by decide) (fun c_37 => ?_) (fun c_37 => ?_)
    · refine a_iinc_5 (cst := 1) (pc := 86) dX5_foul_86 rfl (by decide) (by decide) ?_
      refine a_goto (tgt := 21) (pc := 89) dX5_foul_89 (by decide) ?_
      rw [← nI_succ]
      refine a_to (ih_ (q_ - 1) (by omega) (i + 1) (by omega)) rfl ?_ rfl rfl
      have e_ : zFsσ σ (i + 1) = if zHd (zVesf σ) (nI (σ.1 0)) i then ((zFsσ σ i).1 + (nI (σ.2.1 2 i)).toInt64, if nI (σ.2.1 2 i) ≤ nI (σ.2.1 2 (zFsσ σ i).2) then (zFsσ σ i).2 else i) else zFsσ σ i := rfl
      rw [e_]
      first | rw [if_neg c_37] | rw [if_pos c_37, if_pos c_74] | rw [if_pos c_37, if_neg c_74]
    · refine a_lload_2 (pc := 40) dX5_foul_40 ?_
      refine a_aload_0 (pc := 41) dX5_foul_41 ?_
      refine a_getf (ci := 5) (j := 3) rfl win_X5 (by decide) (pc := 42) dX5_foul_42 kf_X5_26 rfl rfl ?_
      refine a_getfN (ci := 4) (j := 1) rfl win_X4 (by decide) (pc := 45) dX5_foul_45 kf_X5_87 rfl rfl ?_
      refine a_iload_5 (pc := 48) dX5_foul_48 ?_
      refine a_ialdN (pc := 50) dX5_foul_50 rfl (by omega) (by decide) ?_
      refine a_i2l (pc := 51) dX5_foul_51 ?_
      refine a_ladd (pc := 52) dX5_foul_52 ?_
      refine a_lstore_2 (pc := 53) dX5_foul_53 rfl (by decide) ?_
      refine a_aload_0 (pc := 54) dX5_foul_54 ?_
      refine a_getf (ci := 5) (j := 3) rfl win_X5 (by decide) (pc := 55) dX5_foul_55 kf_X5_26 rfl rfl ?_
      refine a_getfN (ci := 4) (j := 1) rfl win_X4 (by decide) (pc := 58) dX5_foul_58 kf_X5_87 rfl rfl ?_
      refine a_iload_5 (pc := 61) dX5_foul_61 ?_
      refine a_ialdN (pc := 63) dX5_foul_63 rfl (by omega) (by decide) ?_
      refine a_aload_0 (pc := 64) dX5_foul_64 ?_
      refine a_getf (ci := 5) (j := 3) rfl win_X5 (by decide) (pc := 65) dX5_foul_65 kf_X5_26 rfl rfl ?_
      refine a_getfN (ci := 4) (j := 1) rfl win_X4 (by decide) (pc := 68) dX5_foul_68 kf_X5_87 rfl rfl ?_
      refine a_iload_4 (pc := 71) dX5_foul_71 ?_
      refine a_ialdN (pc := 73) dX5_foul_73 rfl (by omega) (by decide) ?_
      refine a_icmp_le (tgt := 82) (pc := 74) dX5_foul_74 (by decide) (fun c_74 => ?_) (fun c_74 => ?_)
      · refine a_iload_4 (pc := 82) dX5_foul_82 ?_
        refine a_istore_4 (pc := 84) dX5_foul_84 rfl (by decide) ?_
        refine a_iinc_5 (cst := 1) (pc := 86) dX5_foul_86 rfl (by decide) (by decide) ?_
        refine a_goto (tgt := 21) (pc := 89) dX5_foul_89 (by decide) ?_
        rw [← nI_succ]
        refine a_to (ih_ (q_ - 1) (by omega) (i + 1) (by omega)) rfl ?_ rfl rfl
        have e_ : zFsσ σ (i + 1) = if zHd (zVesf σ) (nI (σ.1 0)) i then ((zFsσ σ i).1 + (nI (σ.2.1 2 i)).toInt64, if nI (σ.2.1 2 i) ≤ nI (σ.2.1 2 (zFsσ σ i).2) then (zFsσ σ i).2 else i) else zFsσ σ i := rfl
        rw [e_]
        first | rw [if_neg c_37] | rw [if_pos c_37, if_pos c_74] | rw [if_pos c_37, if_neg c_74]
      · refine a_iload_5 (pc := 77) dX5_foul_77 ?_
        refine a_goto (tgt := 84) (pc := 79) dX5_foul_79 (by decide) ?_
        refine a_istore_4 (pc := 84) dX5_foul_84 rfl (by decide) ?_
        refine a_iinc_5 (cst := 1) (pc := 86) dX5_foul_86 rfl (by decide) (by decide) ?_
        refine a_goto (tgt := 21) (pc := 89) dX5_foul_89 (by decide) ?_
        rw [← nI_succ]
        refine a_to (ih_ (q_ - 1) (by omega) (i + 1) (by omega)) rfl ?_ rfl rfl
        have e_ : zFsσ σ (i + 1) = if zHd (zVesf σ) (nI (σ.1 0)) i then ((zFsσ σ i).1 + (nI (σ.2.1 2 i)).toInt64, if nI (σ.2.1 2 i) ≤ nI (σ.2.1 2 (zFsσ σ i).2) then (zFsσ σ i).2 else i) else zFsσ σ i := rfl
        rw [e_]
        first | rw [if_neg c_37] | rw [if_pos c_37, if_pos c_74] | rw [if_pos c_37, if_neg c_74]

set_option maxRecDepth 100000 in
set_option maxHeartbeats 4000000 in
theorem p_foul (l : Launch) (G : zG) (ad : Nat → Nat) (σ : zσ) (x0 : zX) (hσ : zOk σ) (c : Int32) : zSem l G sX5_foul [.ref (ad 0), .int c] (wP G ad σ x0) (zPost G ad (o_foul σ c)) := by
  refine zEnterV (L := [some (.ref (ad 0)), some (.int c), none, none, none, none]) (by decide) rfl (Nat.le_of_ble_eq_true rfl) rfl ?_
  refine a_iload_1 (pc := 0) dX5_foul_0 ?_
  refine a_iconst (v := 0) (pc := 1) dX5_foul_1 (by decide) ?_
  refine a_iconst (v := 2) (pc := 2) dX5_foul_2 (by decide) ?_
  refine cS_P (S2 := sX5_outside) (c_outside l G _ _ _) kc_X5_outside km_X5_64 ks_X5_outside kini_X5 ⟨kn_X5_outside, by decide, by decide⟩ (pc := 3) dX5_foul_3 [] rfl rfl rfl rfl (Nat.le_of_ble_eq_true rfl) ?_
  first | refine a_if_eqB (tgt := 13) (pc := 6) dX5_foul_6 (by decide) (fun c_6 => ?_) (fun c_6 => ?_) | refine a_if_eq (tgt := 13) (pc := 6) dX5_foul_6 (by decide) (fun c_6 => ?_) (fun c_6 => ?_)
  · refine a_lconst (v := 0) (pc := 13) dX5_foul_13 (by decide) ?_
    refine a_lstore_2 (pc := 14) dX5_foul_14 rfl (by decide) ?_
    refine a_iconst (v := 0) (pc := 15) dX5_foul_15 (by decide) ?_
    refine a_istore_4 (pc := 16) dX5_foul_16 rfl (by decide) ?_
    refine a_iconst (v := 0) (pc := 18) dX5_foul_18 (by decide) ?_
    refine a_istore_5 (pc := 19) dX5_foul_19 rfl (by decide) ?_
    exact lp_foul l G ad σ x0 c c_6 72 0 (by omega)
  · refine a_ldc2 (pc := 9) dX5_foul_9 kl_X5_68 ?_
    exact a_lret (pc := 12) dX5_foul_12 rfl rfl (zret' x0 (by unfold o_foul; rw [if_pos c_6]) rfl)

abbrev zHσ (σ : zσ) (k : Nat) : Prop := zHd (zVesf σ) (nI (σ.1 0)) k
abbrev zPairσ (σ : zσ) (k j : Nat) : Prop := zHσ σ k ∧ zHσ σ j ∧ ¬ (zPaf σ k = zPaf σ j ∧ zLef σ k = zLef σ j)
theorem zExch_at {f g : Nat → Int32} (h : ∀ k, k < 72 → f k = g k) {a b : Nat} (ha : a < 72) (hb : b < 72) : ∀ k, k < 72 → zExch f a b k = zExch g a b k := by
  intro k hk
  unfold zExch upd
  rw [h a ha, h b hb, h k hk]
theorem zExch_inv (f : Nat → Int32) {a b : Nat} (h : ¬ a = b) : zExch (zExch f a b) a b = f := by
  funext k
  have e1 : zExch f a b a = f b := by unfold zExch upd; rw [if_neg h, if_pos rfl]
  have e2 : zExch f a b b = f a := by unfold zExch upd; rw [if_pos rfl]
  show upd (upd (zExch f a b) a (zExch f a b b)) b (zExch f a b a) k = f k
  rw [e1, e2]
  unfold upd
  by_cases h1 : k = b
  · rw [if_pos h1, h1]
  · rw [if_neg h1]
    by_cases h2 : k = a
    · rw [if_pos h2, h2]
    · rw [if_neg h2]
      unfold zExch upd
      rw [if_neg h1, if_neg h2]
/-- sweet water if two skins were changed -/
def zSwp (σ : zσ) (a b : Nat) : Int64 := (nI (σ.1 1)).toInt64 - (zRn (zExch (zPaf σ) a b) (zExch (zLef σ) a b) (zMs σ) (σ.1 0) (zS0p σ (zP0 σ)) 3).1
set_option maxRecDepth 100000 in
set_option maxHeartbeats 4000000 in
/-- isPair -/
theorem p_isPair (l : Launch) (G : zG) (ad : Nat → Nat) (σ : zσ) (x0 : zX) (hT : zTaken σ x0) (k j : Nat) (hk : k < 72) (hj : j < 72) : zSem l G sX5_isPair [.ref (ad 0), .int (nI k), .int (nI j)] (wP G ad σ x0) (zP (.int (zB (zPairσ σ k j))) (wP G ad σ x0)) := by
  refine zEnterV (L := [some (.ref (ad 0)), some (.int (nI k)), some (.int (nI j))]) (by decide) rfl (Nat.le_of_ble_eq_true rfl) rfl ?_
  refine a_aload_0 (pc := 0) dX5_isPair_0 ?_
  refine a_getf (ci := 5) (j := 1) rfl win_X5 (by decide) (pc := 1) dX5_isPair_1 kf_X5_16 rfl rfl ?_
  refine a_iload_1 (pc := 4) dX5_isPair_4 ?_
  refine cV_P (ad := ad) (q0 := 2) (S2 := sX2_holdsSkin) (c_holdsSkin l G (zpk ad [2, 3]) (zVesf σ) (nI (σ.1 0)) k hk) kc_X2_holdsSkin km_X5_105 ki_X2_holdsSkin kv_X2_holdsSkin kini_X2 ⟨kn_X2_holdsSkin, by decide, by decide⟩ (pc := 5) dX5_isPair_5 [2, 3] rfl rfl rfl rfl (Nat.le_of_ble_eq_true rfl) rfl rfl rfl ?_
  first | refine a_if_eqB (tgt := 38) (pc := 8) dX5_isPair_8 (by decide) (fun c_8 => ?_) (fun c_8 => ?_) | refine a_if_eq (tgt := 38) (pc := 8) dX5_isPair_8 (by decide) (fun c_8 => ?_) (fun c_8 => ?_)
  · refine a_iconst (v := 0) (pc := 38) dX5_isPair_38 (by decide) ?_
    exact a_zret (pc := 39) dX5_isPair_39 rfl (by decide) rfl (by first | exact zPB1 ⟨c_8, c_19, c_31⟩ | exact zPB0 (fun h => h.2.2 c_31) | exact zPB0 (fun h => c_19 h.2.1) | exact zPB0 (fun h => c_8 h.1))
  · refine a_aload_0 (pc := 11) dX5_isPair_11 ?_
    refine a_getf (ci := 5) (j := 1) rfl win_X5 (by decide) (pc := 12) dX5_isPair_12 kf_X5_16 rfl rfl ?_
    refine a_iload_2 (pc := 15) dX5_isPair_15 ?_
    refine cV_P (ad := ad) (q0 := 2) (S2 := sX2_holdsSkin) (c_holdsSkin l G (zpk ad [2, 3]) (zVesf σ) (nI (σ.1 0)) j hj) kc_X2_holdsSkin km_X5_105 ki_X2_holdsSkin kv_X2_holdsSkin kini_X2 ⟨kn_X2_holdsSkin, by decide, by decide⟩ (pc := 16) dX5_isPair_16 [2, 3] rfl rfl rfl rfl (Nat.le_of_ble_eq_true rfl) rfl rfl rfl ?_
    first | refine a_if_eqB (tgt := 38) (pc := 19) dX5_isPair_19 (by decide) (fun c_19 => ?_) (fun c_19 => ?_) | refine a_if_eq (tgt := 38) (pc := 19) dX5_isPair_19 (by decide) (fun c_19 => ?_) (fun c_19 => ?_)
    · refine a_iconst (v := 0) (pc := 38) dX5_isPair_38 (by decide) ?_
      exact a_zret (pc := 39) dX5_isPair_39 rfl (by decide) rfl (by first | exact zPB1 ⟨c_8, c_19, c_31⟩ | exact zPB0 (fun h => h.2.2 c_31) | exact zPB0 (fun h => c_19 h.2.1) | exact zPB0 (fun h => c_8 h.1))
    · refine a_aload_0 (pc := 22) dX5_isPair_22 ?_
      refine a_getf (ci := 5) (j := 4) rfl win_X5 (by decide) (pc := 23) dX5_isPair_23 kf_X5_33 rfl rfl ?_
      refine a_iload_1 (pc := 26) dX5_isPair_26 ?_
      refine a_iload_2 (pc := 27) dX5_isPair_27 ?_
      refine cV_P (ad := ad) (q0 := 9) (S2 := sX0_areAlike) (c_areAlike l G (zpk ad [9, 10, 11, 12, 13, 14, 15, 16, 17]) x0.2.2.1 x0.2.2.2.1 x0.2.2.2.2.1 x0.2.2.2.2.2.1 k j hk hj) kc_X0_areAlike km_X5_286 ki_X0_areAlike kv_X0_areAlike kini_X0 ⟨kn_X0_areAlike, by decide, by decide⟩ (pc := 28) dX5_isPair_28 [9, 10, 11, 12, 13, 14, 15, 16, 17] rfl rfl rfl rfl (Nat.le_of_ble_eq_true rfl) rfl rfl rfl ?_
      first | refine a_if_neB (tgt := 38) (pc := 31) dX5_isPair_31 (by decide) (fun c_31 => ?_) (fun c_31 => ?_) | refine a_if_ne (tgt := 38) (pc := 31) dX5_isPair_31 (by decide) (fun c_31 => ?_) (fun c_31 => ?_)
      · rw [(hT k hk).1, (hT k hk).2, (hT j hj).1, (hT j hj).2] at c_31
        refine a_iconst (v := 0) (pc := 38) dX5_isPair_38 (by decide) ?_
        exact a_zret (pc := 39) dX5_isPair_39 rfl (by decide) rfl (by first | exact zPB1 ⟨c_8, c_19, c_31⟩ | exact zPB0 (fun h => h.2.2 c_31) | exact zPB0 (fun h => c_19 h.2.1) | exact zPB0 (fun h => c_8 h.1))
      · rw [(hT k hk).1, (hT k hk).2, (hT j hj).1, (hT j hj).2] at c_31
        refine a_iconst (v := 1) (pc := 34) dX5_isPair_34 (by decide) ?_
        refine a_goto (tgt := 39) (pc := 35) dX5_isPair_35 (by decide) ?_
        exact a_zret (pc := 39) dX5_isPair_39 rfl (by decide) rfl (by first | exact zPB1 ⟨c_8, c_19, c_31⟩ | exact zPB0 (fun h => h.2.2 c_31) | exact zPB0 (fun h => c_19 h.2.1) | exact zPB0 (fun h => c_8 h.1))

set_option maxRecDepth 100000 in
set_option maxHeartbeats 4000000 in
/-- sweetWaterIfChanged -/
theorem p_swic (l : Launch) (G : zG) (ad : Nat → Nat) (σ : zσ) (hσ : zOk σ) (x0 : zX) (hT : zTaken σ x0) (k j : Nat) (hk : k < 72) (hj : j < 72) (hkj : ¬ k = j) : zSem l G sX5_sweetWaterIfChanged [.ref (ad 0), .int (nI k), .int (nI j)] (wP G ad σ x0) (zV (fun u : zX => zTaken σ u) (fun _ => .long (zSwp σ k j)) (fun u => wP G ad σ u)) := by
  refine zEnterV (L := [some (.ref (ad 0)), some (.int (nI k)), some (.int (nI j))]) (by decide) rfl (Nat.le_of_ble_eq_true rfl) rfl ?_
  refine a_aload_0 (pc := 0) dX5_sweetWaterIfChanged_0 ?_
  refine a_getf (ci := 5) (j := 4) rfl win_X5 (by decide) (pc := 1) dX5_sweetWaterIfChanged_1 kf_X5_33 rfl rfl ?_
  refine a_iload_1 (pc := 4) dX5_sweetWaterIfChanged_4 ?_
  refine a_iload_2 (pc := 5) dX5_sweetWaterIfChanged_5 ?_
  refine cV_0 (ad := ad) (q0 := 9) (S2 := sX0_exchange) (c_flExch l G (zpk ad [9, 10, 11, 12, 13, 14, 15, 16, 17]) x0.2.2.1 x0.2.2.2.1 x0.2.2.2.2.1 x0.2.2.2.2.2.1 k j hk hj) kc_X0_exchange km_X5_289 ki_X0_exchange kv_X0_exchange kini_X0 ⟨kn_X0_exchange, by decide, by decide⟩ (pc := 6) dX5_sweetWaterIfChanged_6 [9, 10, 11, 12, 13, 14, 15, 16, 17] rfl rfl rfl rfl (Nat.le_of_ble_eq_true rfl) rfl rfl rfl (fun _ => wP G ad σ (x0.1, x0.2.1, zExch x0.2.2.1 k j, zExch x0.2.2.2.1 k j, x0.2.2.2.2.1, x0.2.2.2.2.2.1, x0.2.2.2.2.2.2)) (fun _ => rfl) (fun _u _ => ?_)
  refine a_aload_0 (pc := 9) dX5_sweetWaterIfChanged_9 ?_
  refine a_getf (ci := 5) (j := 4) rfl win_X5 (by decide) (pc := 10) dX5_sweetWaterIfChanged_10 kf_X5_33 rfl rfl ?_
  refine a_aload_0 (pc := 13) dX5_sweetWaterIfChanged_13 ?_
  refine a_getf (ci := 5) (j := 1) rfl win_X5 (by decide) (pc := 14) dX5_sweetWaterIfChanged_14 kf_X5_16 rfl rfl ?_
  refine a_aload_0 (pc := 17) dX5_sweetWaterIfChanged_17 ?_
  refine a_getf (ci := 5) (j := 7) rfl win_X5 (by decide) (pc := 18) dX5_sweetWaterIfChanged_18 kf_X5_51 rfl rfl ?_
  refine a_i2l (pc := 21) dX5_sweetWaterIfChanged_21 ?_
  refine a_aload_0 (pc := 22) dX5_sweetWaterIfChanged_22 ?_
  refine a_getf (ci := 5) (j := 8) rfl win_X5 (by decide) (pc := 23) dX5_sweetWaterIfChanged_23 kf_X5_55 rfl rfl ?_
  refine a_i2l (pc := 26) dX5_sweetWaterIfChanged_26 ?_
  refine a_aload_0 (pc := 27) dX5_sweetWaterIfChanged_27 ?_
  refine a_getf (ci := 5) (j := 9) rfl win_X5 (by decide) (pc := 28) dX5_sweetWaterIfChanged_28 kf_X5_58 rfl rfl ?_
  refine a_i2l (pc := 31) dX5_sweetWaterIfChanged_31 ?_
  refine cV_0 (ad := ad) (q0 := 9) (S2 := sX0_run) (c_run l G (zpk ad [9, 10, 11, 12, 13, 14, 15, 16, 17, 2, 3]) (zExch x0.2.2.1 k j) (zExch x0.2.2.2.1 k j) x0.2.2.2.2.1 x0.2.2.2.2.2.1 (zVesf σ) (zMs σ) (σ.1 0) (fun s hs => zVin_N hσ.2.2.2.2.2.1 hs) hσ.1.2 (nI (σ.1 1)).toInt64 (nI (σ.1 2)).toInt64 (nI (σ.1 3)).toInt64) kc_X0_run km_X5_193 ki_X0_run kv_X0_run kini_X0 ⟨kn_X0_run, by decide, by decide⟩ (pc := 32) dX5_sweetWaterIfChanged_32 [9, 10, 11, 12, 13, 14, 15, 16, 17, 2, 3] rfl rfl rfl rfl (Nat.le_of_ble_eq_true rfl) rfl rfl rfl (fun B_ => wP G ad σ (x0.1, x0.2.1, zExch x0.2.2.1 k j, zExch x0.2.2.2.1 k j, B_, (zJ5 x0.2.2.2.2.2.1 (zRn (zExch x0.2.2.1 k j) (zExch x0.2.2.2.1 k j) (zMs σ) (σ.1 0) (zS0p σ (nI (σ.1 3))) 3) ((nI (σ.1 1)).toInt64 - (zRn (zExch x0.2.2.1 k j) (zExch x0.2.2.2.1 k j) (zMs σ) (σ.1 0) (zS0p σ (nI (σ.1 3))) 3).1) ((nI (σ.1 1)).toInt64 * (nI (σ.1 2)).toInt64 - (zRn (zExch x0.2.2.1 k j) (zExch x0.2.2.2.1 k j) (zMs σ) (σ.1 0) (zS0p σ (nI (σ.1 3))) 3).2.1)), x0.2.2.2.2.2.2)) (fun _ => rfl) (fun B_ hB_ => ?_)
  refine a_aload_0 (pc := 35) dX5_sweetWaterIfChanged_35 ?_
  refine a_getf (ci := 5) (j := 4) rfl win_X5 (by decide) (pc := 36) dX5_sweetWaterIfChanged_36 kf_X5_33 rfl rfl ?_
  refine a_iload_1 (pc := 39) dX5_sweetWaterIfChanged_39 ?_
  refine a_iload_2 (pc := 40) dX5_sweetWaterIfChanged_40 ?_
  refine cV_0 (ad := ad) (q0 := 9) (S2 := sX0_exchange) (c_flExch l G (zpk ad [9, 10, 11, 12, 13, 14, 15, 16, 17]) (zExch x0.2.2.1 k j) (zExch x0.2.2.2.1 k j) B_ (zJ5 x0.2.2.2.2.2.1 (zRn (zExch x0.2.2.1 k j) (zExch x0.2.2.2.1 k j) (zMs σ) (σ.1 0) (zS0p σ (nI (σ.1 3))) 3) ((nI (σ.1 1)).toInt64 - (zRn (zExch x0.2.2.1 k j) (zExch x0.2.2.2.1 k j) (zMs σ) (σ.1 0) (zS0p σ (nI (σ.1 3))) 3).1) ((nI (σ.1 1)).toInt64 * (nI (σ.1 2)).toInt64 - (zRn (zExch x0.2.2.1 k j) (zExch x0.2.2.2.1 k j) (zMs σ) (σ.1 0) (zS0p σ (nI (σ.1 3))) 3).2.1)) k j hk hj) kc_X0_exchange km_X5_289 ki_X0_exchange kv_X0_exchange kini_X0 ⟨kn_X0_exchange, by decide, by decide⟩ (pc := 41) dX5_sweetWaterIfChanged_41 [9, 10, 11, 12, 13, 14, 15, 16, 17] rfl rfl rfl rfl (Nat.le_of_ble_eq_true rfl) rfl rfl rfl (fun _ => wP G ad σ (x0.1, x0.2.1, zExch (zExch x0.2.2.1 k j) k j, zExch (zExch x0.2.2.2.1 k j) k j, B_, (zJ5 x0.2.2.2.2.2.1 (zRn (zExch x0.2.2.1 k j) (zExch x0.2.2.2.1 k j) (zMs σ) (σ.1 0) (zS0p σ (nI (σ.1 3))) 3) ((nI (σ.1 1)).toInt64 - (zRn (zExch x0.2.2.1 k j) (zExch x0.2.2.2.1 k j) (zMs σ) (σ.1 0) (zS0p σ (nI (σ.1 3))) 3).1) ((nI (σ.1 1)).toInt64 * (nI (σ.1 2)).toInt64 - (zRn (zExch x0.2.2.1 k j) (zExch x0.2.2.2.1 k j) (zMs σ) (σ.1 0) (zS0p σ (nI (σ.1 3))) 3).2.1)), x0.2.2.2.2.2.2)) (fun _ => rfl) (fun _u2 _ => ?_)
  refine a_aload_0 (pc := 44) dX5_sweetWaterIfChanged_44 ?_
  refine a_getf (ci := 5) (j := 4) rfl win_X5 (by decide) (pc := 45) dX5_sweetWaterIfChanged_45 kf_X5_33 rfl rfl ?_
  refine a_getfN (ci := 0) (j := 11) rfl win_X0 (by decide) (pc := 48) dX5_sweetWaterIfChanged_48 kf_X5_130 rfl rfl ?_
  exact a_lret (pc := 51) dX5_sweetWaterIfChanged_51 rfl rfl ⟨(x0.1, x0.2.1, zExch (zExch x0.2.2.1 k j) k j, zExch (zExch x0.2.2.2.1 k j) k j, B_, (zJ5 x0.2.2.2.2.2.1 (zRn (zExch x0.2.2.1 k j) (zExch x0.2.2.2.1 k j) (zMs σ) (σ.1 0) (zS0p σ (nI (σ.1 3))) 3) ((nI (σ.1 1)).toInt64 - (zRn (zExch x0.2.2.1 k j) (zExch x0.2.2.2.1 k j) (zMs σ) (σ.1 0) (zS0p σ (nI (σ.1 3))) 3).1) ((nI (σ.1 1)).toInt64 * (nI (σ.1 2)).toInt64 - (zRn (zExch x0.2.2.1 k j) (zExch x0.2.2.2.1 k j) (zMs σ) (σ.1 0) (zS0p σ (nI (σ.1 3))) 3).2.1)), x0.2.2.2.2.2.2), (fun q hq => by dsimp only; rw [zExch_inv _ hkj, zExch_inv _ hkj]; exact hT q hq), congrArg (fun z => some (Value.long z)) (by show (nI (σ.1 1)).toInt64 - (zRn (zExch x0.2.2.1 k j) (zExch x0.2.2.2.1 k j) (zMs σ) (σ.1 0) (zS0p σ (nI (σ.1 3))) 3).1 = _; unfold zSwp; rw [zRn_cg (fun q hq => ⟨zExch_at (fun q hq => (hT q hq).1) hk hj q hq, zExch_at (fun q hq => (hT q hq).2) hk hj q hq⟩) (fun s hs => (zVin_N hσ.2.2.2.2.2.1 hs).2) hσ.1.2 3 (by omega)]), rfl⟩

def zSwS (σ : zσ) (a b : Nat) (s : Int64 × Int64) : Int64 × Int64 := if zPairσ σ a b then (if zSwp σ a b ≤ s.2 then s else (1000 * (nI (zNum a)).toInt64 + (nI (zNum b)).toInt64, zSwp σ a b)) else s
def zSw2 (σ : zσ) (a : Nat) : Nat → Nat → Int64 × Int64 → Int64 × Int64
  | 0, _, s => s
  | q + 1, b, s => zSw2 σ a q (b + 1) (zSwS σ a b s)
def zSw1 (σ : zσ) : Nat → Nat → Int64 × Int64 → Int64 × Int64
  | 0, _, s => s
  | q + 1, a, s => zSw1 σ q (a + 1) (zSw2 σ a (71 - a) (a + 1) s)
def o_swap (σ : zσ) : Int64 × zσ := ((zSw1 σ 72 0 (zNONE, zSwW σ)).1, σ)
set_option maxRecDepth 100000 in
set_option maxHeartbeats 4000000 in
theorem lp_swapI (l : Launch) (G : zG) (ad : Nat → Nat) (σ : zσ) (hσ : zOk σ) (x0 : zX) (r : Int64) (a : Nat) (ha : a < 72) (s2 : Int64 × Int64) (K_ : ∀ u : zX, zTaken σ u → AV l G sX5_swap (wP G ad σ x0) (zPost G ad (r, σ)) 94 [some (.ref (ad 0)), some (.long s2.1), none, some (.long s2.2), none, some (.int (nI a)), none, none, none] [] (wP G ad σ u)) : ∀ (q b : Nat) (s : Int64 × Int64) (u : zX), b + q = 72 → a < b → zSw2 σ a q b s = s2 → zTaken σ u → AV l G sX5_swap (wP G ad σ x0) (zPost G ad (r, σ)) 32 [some (.ref (ad 0)), some (.long s.1), none, some (.long s.2), none, some (.int (nI a)), some (.int (nI b)), none, none] [] (wP G ad σ u) := by
  intro q_
  induction q_ using Nat.strongRecOn
  rename_i q_ ih_
  intro b s u hq_ hab_ hz_ hT_
  refine a_iload_6 (pc := 32) dX5_swap_32 ?_
  refine a_bipush (v := 72) (pc := 34) dX5_swap_34 (by decide) ?_
  refine a_icmp_ge (tgt := 94) (pc := 36) dX5_swap_36 (by decide) (fun c_36 => ?_) (fun c_36 => ?_)
  · obtain rfl : q_ = 0 := by have := (zI_le (a := 72) (b := b) (by decide) (by omega)).mp c_36; omega
    obtain rfl : s = s2 := hz_
    exact a_forget_6 (K_ u hT_)
  · have hi_ : b < 72 := by have := mt (zI_le (a := 72) (b := b) (by decide) (by omega)).mpr c_36; omega
    obtain ⟨q2_, rfl⟩ : ∃ z, q_ = z + 1 := ⟨q_ - 1, by omega⟩
    have hz2_ : zSw2 σ a q2_ (b + 1) (zSwS σ a b s) = s2 := hz_
    unfold zSwS at hz2_
    refine a_aload_0 (pc := 39) dX5_swap_39 ?_
    refine a_iload_5 (pc := 40) dX5_swap_40 ?_
    refine a_iload_6 (pc := 42) dX5_swap_42 ?_
    refine f_P (ad := ad) (q0 := 0) (S2 := sX5_isPair) (p_isPair l G ad σ u hT_ a b ha hi_) kc_X5_isPair km_X5_172 ki_X5_isPair kv_X5_isPair kini_X5 ⟨kn_X5_isPair, by decide, by decide⟩ (pc := 44) dX5_swap_44 (znd_of rfl znd28) rfl rfl (Nat.le_of_ble_eq_true rfl) rfl rfl rfl ?_
    first | refine a_if_eqB (tgt := 88) (pc := 47) dX5_swap_47 (by decide) (fun c_47 => ?_) (fun c_47 => ?_) | refine a_if_eq (tgt := 88) (pc := 47) dX5_swap_47 (by decide) (fun c_47 => ?_) (fun c_47 => ?_)
    · rw [if_neg c_47] at hz2_
      refine a_iinc_6 (cst := 1) (pc := 88) dX5_swap_88 rfl (by decide) (by decide) ?_
      refine a_goto (tgt := 32) (pc := 91) dX5_swap_91 (by decide) ?_
      rw [← nI_succ]
      first | exact a_forget_7 (ih_ q2_ (by omega) (b + 1) _ u2_ (by omega) (by omega) hz2_ hT2_) | exact ih_ q2_ (by omega) (b + 1) _ u (by omega) (by omega) hz2_ hT_
    · rw [if_pos c_47] at hz2_
      refine a_aload_0 (pc := 50) dX5_swap_50 ?_
      refine a_iload_5 (pc := 51) dX5_swap_51 ?_
      refine a_iload_6 (pc := 53) dX5_swap_53 ?_
      refine f_V (ad := ad) (q0 := 0) (S2 := sX5_sweetWaterIfChanged) (p_swic l G ad σ hσ u hT_ a b ha hi_ (by omega)) kc_X5_sweetWaterIfChanged km_X5_175 ki_X5_sweetWaterIfChanged kv_X5_sweetWaterIfChanged kini_X5 ⟨kn_X5_sweetWaterIfChanged, by decide, by decide⟩ (pc := 55) dX5_swap_55 (znd_of rfl znd28) rfl rfl (Nat.le_of_ble_eq_true rfl) rfl rfl rfl (fun u2_ hT2_ => ?_)
      refine a_lstore_7 (pc := 58) dX5_swap_58 rfl (by decide) ?_
      refine a_lload_7 (pc := 60) dX5_swap_60 ?_
      refine a_lload_3 (pc := 62) dX5_swap_62 ?_
      refine a_lif_le (tgt := 88) (pc := 63) dX5_swap_63 dX5_swap_64 (by decide) (fun c_63 => ?_) (fun c_63 => ?_)
      · rw [if_pos c_63] at hz2_
        refine a_iinc_6 (cst := 1) (pc := 88) dX5_swap_88 rfl (by decide) (by decide) ?_
        refine a_goto (tgt := 32) (pc := 91) dX5_swap_91 (by decide) ?_
        rw [← nI_succ]
        first | exact a_forget_7 (ih_ q2_ (by omega) (b + 1) _ u2_ (by omega) (by omega) hz2_ hT2_) | exact ih_ q2_ (by omega) (b + 1) _ u (by omega) (by omega) hz2_ hT_
      · rw [if_neg c_63] at hz2_
        refine a_lload_7 (pc := 67) dX5_swap_67 ?_
        refine a_lstore_3 (pc := 69) dX5_swap_69 rfl (by decide) ?_
        refine a_ldc2 (pc := 70) dX5_swap_70 kl_X5_179 ?_
        refine a_iload_5 (pc := 73) dX5_swap_73 ?_
        refine cS_P (S2 := sX5_numberOf) (c_numberOf l G a ha) kc_X5_numberOf km_X5_167 ks_X5_numberOf kini_X5 ⟨kn_X5_numberOf, by decide, by decide⟩ (pc := 75) dX5_swap_75 [] rfl rfl rfl rfl (Nat.le_of_ble_eq_true rfl) ?_
        refine a_i2l (pc := 78) dX5_swap_78 ?_
        refine a_lmul (pc := 79) dX5_swap_79 ?_
        refine a_iload_6 (pc := 80) dX5_swap_80 ?_
        refine cS_P (S2 := sX5_numberOf) (c_numberOf l G b hi_) kc_X5_numberOf km_X5_167 ks_X5_numberOf kini_X5 ⟨kn_X5_numberOf, by decide, by decide⟩ (pc := 82) dX5_swap_82 [] rfl rfl rfl rfl (Nat.le_of_ble_eq_true rfl) ?_
        refine a_i2l (pc := 85) dX5_swap_85 ?_
        refine a_ladd (pc := 86) dX5_swap_86 ?_
        refine a_lstore_1 (pc := 87) dX5_swap_87 rfl (by decide) ?_
        refine a_iinc_6 (cst := 1) (pc := 88) dX5_swap_88 rfl (by decide) (by decide) ?_
        refine a_goto (tgt := 32) (pc := 91) dX5_swap_91 (by decide) ?_
        rw [← nI_succ]
        first | exact a_forget_7 (ih_ q2_ (by omega) (b + 1) _ u2_ (by omega) (by omega) hz2_ hT2_) | exact ih_ q2_ (by omega) (b + 1) _ u (by omega) (by omega) hz2_ hT_

set_option maxRecDepth 100000 in
set_option maxHeartbeats 4000000 in
theorem lp_swapO (l : Launch) (G : zG) (ad : Nat → Nat) (σ : zσ) (hσ : zOk σ) (x0 : zX) (r : Int64) : ∀ (q a : Nat) (s : Int64 × Int64) (u : zX), a + q = 72 → (zSw1 σ q a s).1 = r → zTaken σ u → AV l G sX5_swap (wP G ad σ x0) (zPost G ad (r, σ)) 19 [some (.ref (ad 0)), some (.long s.1), none, some (.long s.2), none, some (.int (nI a)), none, none, none] [] (wP G ad σ u) := by
  intro q_
  induction q_ using Nat.strongRecOn
  rename_i q_ ih_
  intro a s u hq_ hz_ hT_
  refine a_iload_5 (pc := 19) dX5_swap_19 ?_
  refine a_bipush (v := 72) (pc := 21) dX5_swap_21 (by decide) ?_
  refine a_icmp_ge (tgt := 100) (pc := 23) dX5_swap_23 (by decide) (fun c_23 => ?_) (fun c_23 => ?_)
  · obtain rfl : q_ = 0 := by have := (zI_le (a := 72) (b := a) (by decide) (by omega)).mp c_23; omega
    refine a_lload_1 (pc := 100) dX5_swap_100 ?_
    exact a_lret (pc := 101) dX5_swap_101 rfl rfl (zret' u (by rw [← hz_]; rfl) rfl)
  · have hi_ : a < 72 := by have := mt (zI_le (a := 72) (b := a) (by decide) (by omega)).mpr c_23; omega
    obtain ⟨q2_, rfl⟩ : ∃ z, q_ = z + 1 := ⟨q_ - 1, by omega⟩
    refine a_iload_5 (pc := 26) dX5_swap_26 ?_
    refine a_iconst (v := 1) (pc := 28) dX5_swap_28 (by decide) ?_
    refine a_iadd (pc := 29) dX5_swap_29 ?_
    refine a_istore_6 (pc := 30) dX5_swap_30 rfl (by decide) ?_
    rw [← nI_succ]
    refine lp_swapI l G ad σ hσ x0 r a hi_ _ (fun u3_ hT3_ => ?_) (71 - a) (a + 1) s u (by omega) (by omega) rfl hT_
    refine a_iinc_5 (cst := 1) (pc := 94) dX5_swap_94 rfl (by decide) (by decide) ?_
    refine a_goto (tgt := 19) (pc := 97) dX5_swap_97 (by decide) ?_
    rw [← nI_succ]
    exact ih_ q2_ (by omega) (a + 1) _ u3_ (by omega) hz_ hT3_

set_option maxRecDepth 100000 in
set_option maxHeartbeats 4000000 in
theorem p_swap (l : Launch) (G : zG) (ad : Nat → Nat) (σ : zσ) (x0 : zX) (hσ : zOk σ)  : zSem l G sX5_swap [.ref (ad 0)] (wP G ad σ x0) (zPost G ad (o_swap σ)) := by
  refine zEnterV (L := [some (.ref (ad 0)), none, none, none, none, none, none, none, none]) (by decide) rfl (Nat.le_of_ble_eq_true rfl) rfl ?_
  refine a_aload_0 (pc := 0) dX5_swap_0 ?_
  refine f_0 (ad := ad) (q0 := 0) (S2 := sX5_letFlow) (p_letFlow l G ad σ x0 hσ) kc_X5_letFlow km_X5_111 ki_X5_letFlow kv_X5_letFlow kini_X5 ⟨kn_X5_letFlow, by decide, by decide⟩ (pc := 1) dX5_swap_1 (znd_of rfl znd28) rfl rfl (Nat.le_of_ble_eq_true rfl) rfl rfl rfl (fun u_ hu_ => ?_)
  refine a_ldc2 (pc := 4) dX5_swap_4 kl_X5_170 ?_
  refine a_lstore_1 (pc := 7) dX5_swap_7 rfl (by decide) ?_
  refine a_aload_0 (pc := 8) dX5_swap_8 ?_
  refine a_getf (ci := 5) (j := 4) rfl win_X5 (by decide) (pc := 9) dX5_swap_9 kf_X5_33 rfl rfl ?_
  refine a_getfN (ci := 0) (j := 11) rfl win_X0 (by decide) (pc := 12) dX5_swap_12 kf_X5_130 rfl rfl ?_
  rw [hu_.1.2.2.2.2.1]
  refine a_lstore_3 (pc := 15) dX5_swap_15 rfl (by decide) ?_
  refine a_iconst (v := 0) (pc := 16) dX5_swap_16 (by decide) ?_
  refine a_istore_5 (pc := 17) dX5_swap_17 rfl (by decide) ?_
  exact lp_swapO l G ad σ hσ x0 _ 72 0 (zNONE, zSwW σ) u_ (by omega) rfl hu_.2
end
section
/-! The plant: the array. -/
def zBm (i : Nat) : Nat → Nat := fun s => if s = 0 then 1 + i / 25 else if s = 1 then i / 5 % 5 else i % 5
theorem zBm_le {i : Nat} (hi : i < 100) : ∀ k, k < 3 → zBm i k ≤ 4 := by
  intro k hk
  unfold zBm
  split
  · omega
  · split <;> omega
theorem zBec_at (v : Nat → Int32) (i : Nat) : ∀ k, k < 3 → zBec v i k = nI (zBm i k) := by
  intro k hk
  unfold zBec zBm upd
  rcases (show k = 0 ∨ k = 1 ∨ k = 2 by omega) with rfl | rfl | rfl
  · rfl
  · rfl
  · rfl
theorem zVin_cg {v w : Nat → Int32} {s : Nat} (h : ∀ k, k ≤ s → v k = w k) : zVin v s = zVin w s := by
  unfold zVin
  rw [h s (Nat.le_refl _)]
  by_cases q : ∀ j, j < s → ¬ w j = 0
  · rw [if_pos q, if_pos (fun j hj => by rw [h j (by omega)]; exact q j hj)]
  · rw [if_neg q, if_neg (fun z => q (fun j hj => by rw [← h j (by omega)]; exact z j hj))]
theorem zVin_B {v : Nat → Int32} {i : Nat} (hi : i < 100) {s : Nat} (hs : s < 3) : zVin (zBec v i) s = nI (zMf (zBm i) s) ∧ zMf (zBm i) s ≤ 4 := by
  rw [zVin_cg (w := fun k => nI (zBm i k)) (fun k hk => zBec_at v i k (by omega))]
  exact zVin_N (zBm_le hi) hs
theorem zFf_cg2 {v w : Nat → Int32} {n : Int32} {W T W2 T2 : Nat → Int64} {least most : Int32} (hv : ∀ s, s < 3 → zVin v s = zVin w s) (h : ∀ k, k < 72 → zHd w n k → W k = W2 k ∧ T k = T2 k) : ∀ q i, i + q = 72 → zFf v n W T least most q i = zFf w n W2 T2 least most q i
  | 0, _, _ => rfl
  | q + 1, i, hq => by
    have e : zHd v n i ↔ zHd w n i := by unfold zHd; rw [hv (i / 24) (by omega)]
    unfold zFf
    rw [zFf_cg2 hv h q (i + 1) (by omega)]
    by_cases hd : zHd w n i
    · rw [if_pos hd, if_pos (e.mpr hd), (h i (by omega) hd).1, (h i (by omega) hd).2]
    · rw [if_neg hd, if_neg (fun z => hd (e.mp z))]
abbrev zAm (i : Nat) : Nat → Nat := zMf (zBm i)
abbrev zAW (σ : zσ) (p i : Nat) : Int64 := (nI (σ.1 1)).toInt64 - (zFin σ (nI p) (zAm i)).1
abbrev zAG (σ : zσ) (p i : Nat) : Int64 := (nI (σ.1 1)).toInt64 * (nI (σ.1 2)).toInt64 - (zFin σ (nI p) (zAm i)).2.1
abbrev zSuits (σ : zσ) (w q : Int32) (p i : Nat) : Prop := ¬ zAW σ p i < w.toInt64 ∧ ¬ q.toInt64 * zAW σ p i < zAG σ p i ∧ zFf (fun k => nI (zBm i k)) (nI (σ.1 0)) (zCellp σ (nI p) (zAm i) 0) (zCellp σ (nI p) (zAm i) 3) (nI (σ.2.1 3 0)) (nI (σ.2.1 3 1)) 72 0 = zNONE
abbrev zAP (σ : zσ) (p i : Nat) : Int64 := zPow σ (nI p) (zFin σ (nI p) (zAm i)).1 (zFin σ (nI p) (zAm i)).2.2
def zArS (σ : zσ) (w q : Int32) (p i : Nat) (s : Int64 × Int64) : Int64 × Int64 := if 0 < i / 5 % 5 ∨ i % 5 = 0 then (if s.2 ≤ zAP σ p i then s else if zSuits σ w q p i then (1000 * (nI p).toInt64 + (100 * nI (1 + i / 25) + 10 * nI (i / 5 % 5) + nI (i % 5)).toInt64, zAP σ p i) else s) else s
def zAr2 (σ : zσ) (w q : Int32) (p : Nat) : Nat → Nat → Int64 × Int64 → Int64 × Int64
  | 0, _, s => s
  | r + 1, i, s => zAr2 σ w q p r (i + 1) (zArS σ w q p i s)
def zAr1 (σ : zσ) (w q : Int32) : Nat → Nat → Int64 × Int64 → Int64 × Int64
  | 0, _, s => s
  | r + 1, t, s => zAr1 σ w q r (t + 1) (zAr2 σ w q (100 * t) 100 0 s)
def o_array (σ : zσ) (w q : Int32) : Int64 × zσ := (if zOR w 0 99999 ∨ zOR q 0 60000 then zBAD else (zAr1 σ w q 9 1 (zNO, 9223372036854775807)).1, σ)
set_option maxRecDepth 100000 in
set_option maxHeartbeats 4000000 in
/-- suits -/
theorem p_suits (l : Launch) (G : zG) (ad : Nat → Nat) (σ : zσ) (x0 : zX) (w q : Int32) : zSem l G sX5_suits [.ref (ad 0), .int w, .int q] (wP G ad σ x0) (zP (.int (zB (¬ x0.2.2.2.2.2.1 3 < w.toInt64 ∧ ¬ q.toInt64 * x0.2.2.2.2.2.1 3 < x0.2.2.2.2.2.1 4 ∧ zFf x0.2.1 x0.1 (x0.2.2.2.2.1 0) (x0.2.2.2.2.1 3) (nI (σ.2.1 3 0)) (nI (σ.2.1 3 1)) 72 0 = zNONE))) (wP G ad σ x0)) := by
  refine zEnterV (L := [some (.ref (ad 0)), some (.int w), some (.int q)]) (by decide) rfl (Nat.le_of_ble_eq_true rfl) rfl ?_
  refine a_aload_0 (pc := 0) dX5_suits_0 ?_
  refine a_getf (ci := 5) (j := 4) rfl win_X5 (by decide) (pc := 1) dX5_suits_1 kf_X5_33 rfl rfl ?_
  refine a_getfN (ci := 0) (j := 11) rfl win_X0 (by decide) (pc := 4) dX5_suits_4 kf_X5_130 rfl rfl ?_
  refine a_iload_1 (pc := 7) dX5_suits_7 ?_
  refine a_i2l (pc := 8) dX5_suits_8 ?_
  refine a_lif_lt (tgt := 68) (pc := 9) dX5_suits_9 dX5_suits_10 (by decide) (fun c_9 => ?_) (fun c_9 => ?_)
  · refine a_iconst (v := 0) (pc := 68) dX5_suits_68 (by decide) ?_
    exact a_zret (pc := 69) dX5_suits_69 rfl (by decide) rfl (by first | exact zPB1 ⟨c_9, c_30, c_60⟩ | exact zPB0 (fun h => c_60 h.2.2) | exact zPB0 (fun h => h.2.1 c_30) | exact zPB0 (fun h => h.1 c_9))
  · refine a_aload_0 (pc := 13) dX5_suits_13 ?_
    refine a_getf (ci := 5) (j := 4) rfl win_X5 (by decide) (pc := 14) dX5_suits_14 kf_X5_33 rfl rfl ?_
    refine a_getfN (ci := 0) (j := 12) rfl win_X0 (by decide) (pc := 17) dX5_suits_17 kf_X5_134 rfl rfl ?_
    refine a_iload_2 (pc := 20) dX5_suits_20 ?_
    refine a_i2l (pc := 21) dX5_suits_21 ?_
    refine a_aload_0 (pc := 22) dX5_suits_22 ?_
    refine a_getf (ci := 5) (j := 4) rfl win_X5 (by decide) (pc := 23) dX5_suits_23 kf_X5_33 rfl rfl ?_
    refine a_getfN (ci := 0) (j := 11) rfl win_X0 (by decide) (pc := 26) dX5_suits_26 kf_X5_130 rfl rfl ?_
    refine a_lmul (pc := 29) dX5_suits_29 ?_
    refine a_lif_gt (tgt := 68) (pc := 30) dX5_suits_30 dX5_suits_31 (by decide) (fun c_30 => ?_) (fun c_30 => ?_)
    · refine a_iconst (v := 0) (pc := 68) dX5_suits_68 (by decide) ?_
      exact a_zret (pc := 69) dX5_suits_69 rfl (by decide) rfl (by first | exact zPB1 ⟨c_9, c_30, c_60⟩ | exact zPB0 (fun h => c_60 h.2.2) | exact zPB0 (fun h => h.2.1 c_30) | exact zPB0 (fun h => h.1 c_9))
    · refine a_aload_0 (pc := 34) dX5_suits_34 ?_
      refine a_getf (ci := 5) (j := 4) rfl win_X5 (by decide) (pc := 35) dX5_suits_35 kf_X5_33 rfl rfl ?_
      refine a_aload_0 (pc := 38) dX5_suits_38 ?_
      refine a_getf (ci := 5) (j := 2) rfl win_X5 (by decide) (pc := 39) dX5_suits_39 kf_X5_20 rfl rfl ?_
      refine a_aload_0 (pc := 42) dX5_suits_42 ?_
      refine a_getf (ci := 5) (j := 0) rfl win_X5 (by decide) (pc := 43) dX5_suits_43 kf_X5_9 rfl rfl ?_
      refine a_iconst (v := 0) (pc := 46) dX5_suits_46 (by decide) ?_
      refine a_ialdN (k := 0) (pc := 47) dX5_suits_47 rfl (by omega) (by decide) ?_
      refine a_aload_0 (pc := 48) dX5_suits_48 ?_
      refine a_getf (ci := 5) (j := 0) rfl win_X5 (by decide) (pc := 49) dX5_suits_49 kf_X5_9 rfl rfl ?_
      refine a_iconst (v := 1) (pc := 52) dX5_suits_52 (by decide) ?_
      refine a_ialdN (k := 1) (pc := 53) dX5_suits_53 rfl (by omega) (by decide) ?_
      refine cV_P (ad := ad) (q0 := 9) (S2 := sX0_firstFailure) (c_firstFailure l G (zpk ad [9, 10, 11, 12, 13, 14, 15, 16, 17, 4, 5]) x0.2.2.1 x0.2.2.2.1 x0.2.2.2.2.1 x0.2.2.2.2.2.1 x0.2.1 x0.1 _ _) kc_X0_firstFailure km_X5_154 ki_X0_firstFailure kv_X0_firstFailure kini_X0 ⟨kn_X0_firstFailure, by decide, by decide⟩ (pc := 54) dX5_suits_54 [9, 10, 11, 12, 13, 14, 15, 16, 17, 4, 5] rfl rfl rfl rfl (Nat.le_of_ble_eq_true rfl) rfl rfl rfl ?_
      refine a_ldc2 (pc := 57) dX5_suits_57 kl_X5_170 ?_
      refine a_lif_ne (tgt := 68) (pc := 60) dX5_suits_60 dX5_suits_61 (by decide) (fun c_60 => ?_) (fun c_60 => ?_)
      · refine a_iconst (v := 0) (pc := 68) dX5_suits_68 (by decide) ?_
        exact a_zret (pc := 69) dX5_suits_69 rfl (by decide) rfl (by first | exact zPB1 ⟨c_9, c_30, c_60⟩ | exact zPB0 (fun h => c_60 h.2.2) | exact zPB0 (fun h => h.2.1 c_30) | exact zPB0 (fun h => h.1 c_9))
      · refine a_iconst (v := 1) (pc := 64) dX5_suits_64 (by decide) ?_
        refine a_goto (tgt := 69) (pc := 65) dX5_suits_65 (by decide) ?_
        exact a_zret (pc := 69) dX5_suits_69 rfl (by decide) rfl (by first | exact zPB1 ⟨c_9, c_30, c_60⟩ | exact zPB0 (fun h => c_60 h.2.2) | exact zPB0 (fun h => h.2.1 c_30) | exact zPB0 (fun h => h.1 c_9))

set_option maxRecDepth 100000 in
set_option maxHeartbeats 4000000 in
theorem lp_arrayI (l : Launch) (G : zG) (ad : Nat → Nat) (σ : zσ) (hσ : zOk σ) (x0 : zX) (w q : Int32) (r : Int64) (p : Nat) (hp : p ≤ 900) (s2 : Int64 × Int64) (K_ : ∀ u : zX, zTaken σ u → u.1 = nI (σ.1 0) → AV l G sX5_array (wP G ad σ x0) (zPost G ad (r, σ)) 171 [some (.ref (ad 0)), some (.int w), some (.int q), some (.long s2.1), none, some (.long s2.2), none, some (.int (nI p)), none, none, none] [] (wP G ad σ u)) : ∀ (r2 i : Nat) (s : Int64 × Int64) (u : zX), i + r2 = 100 → zAr2 σ w q p r2 i s = s2 → zTaken σ u → u.1 = nI (σ.1 0) → AV l G sX5_array (wP G ad σ x0) (zPost G ad (r, σ)) 73 [some (.ref (ad 0)), some (.int w), some (.int q), some (.long s.1), none, some (.long s.2), none, some (.int (nI p)), some (.int (nI i)), none, none] [] (wP G ad σ u) := by
  intro q_
  induction q_ using Nat.strongRecOn
  rename_i q_ ih_
  intro i s u hq_ hz_ hT_ hL_
  refine a_iload_8 (pc := 73) dX5_array_73 ?_
  refine a_bipush (v := 100) (pc := 75) dX5_array_75 (by decide) ?_
  refine a_icmp_ge (tgt := 171) (pc := 77) dX5_array_77 (by decide) (fun c_77 => ?_) (fun c_77 => ?_)
  · obtain rfl : q_ = 0 := by have := (zI_le (a := 100) (b := i) (by decide) (by omega)).mp c_77; omega
    obtain rfl : s = s2 := hz_
    exact a_forget_8 (K_ u hT_ hL_)
  · have hi_ : i < 100 := by have := mt (zI_le (a := 100) (b := i) (by decide) (by omega)).mpr c_77; omega
    obtain ⟨q2_, rfl⟩ : ∃ z, q_ = z + 1 := ⟨q_ - 1, by omega⟩
    have hz2_ : zAr2 σ w q p q2_ (i + 1) (zArS σ w q p i s) = s2 := hz_
    unfold zArS at hz2_
    refine a_aload_0 (pc := 80) dX5_array_80 ?_
    refine a_getf (ci := 5) (j := 2) rfl win_X5 (by decide) (pc := 81) dX5_array_81 kf_X5_20 rfl rfl ?_
    refine a_iload_8 (pc := 84) dX5_array_84 ?_
    refine cV_V (ad := ad) (q0 := 4) (S2 := sX2_become) (c_become l G (zpk ad [4, 5]) u.2.1 u.1 i hi_) kc_X2_become km_X5_190 ki_X2_become kv_X2_become kini_X2 ⟨kn_X2_become, by decide, by decide⟩ (pc := 86) dX5_array_86 [4, 5] rfl rfl rfl rfl (Nat.le_of_ble_eq_true rfl) rfl rfl rfl (fun _ => wP G ad σ (u.1, zBec u.2.1 i, u.2.2)) (fun _ => rfl) (fun _u _ => ?_)
    first | refine a_if_neB (tgt := 95) (pc := 89) dX5_array_89 (by decide) (fun c_89 => ?_) (fun c_89 => ?_) | refine a_if_ne (tgt := 95) (pc := 89) dX5_array_89 (by decide) (fun c_89 => ?_) (fun c_89 => ?_)
    · rw [if_pos c_89] at hz2_
      rw [hL_]
      refine a_aload_0 (pc := 95) dX5_array_95 ?_
      refine a_getf (ci := 5) (j := 4) rfl win_X5 (by decide) (pc := 96) dX5_array_96 kf_X5_33 rfl rfl ?_
      refine a_aload_0 (pc := 99) dX5_array_99 ?_
      refine a_getf (ci := 5) (j := 2) rfl win_X5 (by decide) (pc := 100) dX5_array_100 kf_X5_20 rfl rfl ?_
      refine a_aload_0 (pc := 103) dX5_array_103 ?_
      refine a_getf (ci := 5) (j := 7) rfl win_X5 (by decide) (pc := 104) dX5_array_104 kf_X5_51 rfl rfl ?_
      refine a_i2l (pc := 107) dX5_array_107 ?_
      refine a_aload_0 (pc := 108) dX5_array_108 ?_
      refine a_getf (ci := 5) (j := 8) rfl win_X5 (by decide) (pc := 109) dX5_array_109 kf_X5_55 rfl rfl ?_
      refine a_i2l (pc := 112) dX5_array_112 ?_
      refine a_iload_7 (pc := 113) dX5_array_113 ?_
      refine a_i2l (pc := 115) dX5_array_115 ?_
      refine cV_0 (ad := ad) (q0 := 9) (S2 := sX0_run) (c_run l G (zpk ad [9, 10, 11, 12, 13, 14, 15, 16, 17, 4, 5]) u.2.2.1 u.2.2.2.1 u.2.2.2.2.1 u.2.2.2.2.2.1 (zBec u.2.1 i) (zAm i) (σ.1 0) (fun s hs => zVin_B hi_ hs) hσ.1.2 (nI (σ.1 1)).toInt64 (nI (σ.1 2)).toInt64 (nI p).toInt64) kc_X0_run km_X5_193 ki_X0_run kv_X0_run kini_X0 ⟨kn_X0_run, by decide, by decide⟩ (pc := 116) dX5_array_116 [9, 10, 11, 12, 13, 14, 15, 16, 17, 4, 5] rfl rfl rfl rfl (Nat.le_of_ble_eq_true rfl) rfl rfl rfl (fun B_ => wP G ad σ (nI (σ.1 0), zBec u.2.1 i, u.2.2.1, u.2.2.2.1, B_, (zJ5 u.2.2.2.2.2.1 (zRn u.2.2.1 u.2.2.2.1 (zAm i) (σ.1 0) (zS0p σ (nI p)) 3) ((nI (σ.1 1)).toInt64 - (zRn u.2.2.1 u.2.2.2.1 (zAm i) (σ.1 0) (zS0p σ (nI p)) 3).1) ((nI (σ.1 1)).toInt64 * (nI (σ.1 2)).toInt64 - (zRn u.2.2.1 u.2.2.2.1 (zAm i) (σ.1 0) (zS0p σ (nI p)) 3).2.1)), u.2.2.2.2.2.2)) (fun _ => rfl) (fun B_ hB_ => ?_)
      have hF_ : zFlow σ (nI p) (zAm i) (nI (σ.1 0), zBec u.2.1 i, u.2.2.1, u.2.2.2.1, B_, (zJ5 u.2.2.2.2.2.1 (zRn u.2.2.1 u.2.2.2.1 (zAm i) (σ.1 0) (zS0p σ (nI p)) 3) ((nI (σ.1 1)).toInt64 - (zRn u.2.2.1 u.2.2.2.1 (zAm i) (σ.1 0) (zS0p σ (nI p)) 3).1) ((nI (σ.1 1)).toInt64 * (nI (σ.1 2)).toInt64 - (zRn u.2.2.1 u.2.2.2.1 (zAm i) (σ.1 0) (zS0p σ (nI p)) 3).2.1)), u.2.2.2.2.2.2) := zFlow_of (fun s hs => (zVin_B (v := u.2.1) hi_ hs).2) hσ.1.2 hT_ hB_ _ _ _ _
      refine a_aload_0 (pc := 119) dX5_array_119 ?_
      refine a_iload_7 (pc := 120) dX5_array_120 ?_
      refine f_P (ad := ad) (q0 := 0) (S2 := sX5_powerAt) (p_powerAt l G ad σ (nI (σ.1 0), zBec u.2.1 i, u.2.2.1, u.2.2.2.1, B_, (zJ5 u.2.2.2.2.2.1 (zRn u.2.2.1 u.2.2.2.1 (zAm i) (σ.1 0) (zS0p σ (nI p)) 3) ((nI (σ.1 1)).toInt64 - (zRn u.2.2.1 u.2.2.2.1 (zAm i) (σ.1 0) (zS0p σ (nI p)) 3).1) ((nI (σ.1 1)).toInt64 * (nI (σ.1 2)).toInt64 - (zRn u.2.2.1 u.2.2.2.1 (zAm i) (σ.1 0) (zS0p σ (nI p)) 3).2.1)), u.2.2.2.2.2.2) (nI p)) kc_X5_powerAt km_X5_150 ki_X5_powerAt kv_X5_powerAt kini_X5 ⟨kn_X5_powerAt, by decide, by decide⟩ (pc := 122) dX5_array_122 (znd_of rfl znd28) rfl rfl (Nat.le_of_ble_eq_true rfl) rfl rfl rfl ?_
      rw [hF_.2.1, hF_.2.2.2.1]
      have hff_ : zFf (zBec u.2.1 i) (nI (σ.1 0)) (B_ 0) (B_ 3) (nI (σ.2.1 3 0)) (nI (σ.2.1 3 1)) 72 0 = zFf (fun k => nI (zBm i k)) (nI (σ.1 0)) (zCellp σ (nI p) (zAm i) 0) (zCellp σ (nI p) (zAm i) 3) (nI (σ.2.1 3 0)) (nI (σ.2.1 3 1)) 72 0 := by
        refine zFf_cg2 (fun s hs => zVin_cg (fun k hk => zBec_at _ i k (by omega))) (fun k hk hd => ?_) 72 0 rfl
        have e_ := (zHd_N (zBm_le hi_) hσ.1.2 hk).mp hd
        exact ⟨zRows_at hF_.1 hk e_.1 e_.2 (a := 0) (by decide), zRows_at hF_.1 hk e_.1 e_.2 (a := 3) (by decide)⟩
      have hsu_ : (¬ (zJ5 u.2.2.2.2.2.1 (zRn u.2.2.1 u.2.2.2.1 (zAm i) (σ.1 0) (zS0p σ (nI p)) 3) ((nI (σ.1 1)).toInt64 - (zRn u.2.2.1 u.2.2.2.1 (zAm i) (σ.1 0) (zS0p σ (nI p)) 3).1) ((nI (σ.1 1)).toInt64 * (nI (σ.1 2)).toInt64 - (zRn u.2.2.1 u.2.2.2.1 (zAm i) (σ.1 0) (zS0p σ (nI p)) 3).2.1)) 3 < w.toInt64 ∧ ¬ q.toInt64 * (zJ5 u.2.2.2.2.2.1 (zRn u.2.2.1 u.2.2.2.1 (zAm i) (σ.1 0) (zS0p σ (nI p)) 3) ((nI (σ.1 1)).toInt64 - (zRn u.2.2.1 u.2.2.2.1 (zAm i) (σ.1 0) (zS0p σ (nI p)) 3).1) ((nI (σ.1 1)).toInt64 * (nI (σ.1 2)).toInt64 - (zRn u.2.2.1 u.2.2.2.1 (zAm i) (σ.1 0) (zS0p σ (nI p)) 3).2.1)) 3 < (zJ5 u.2.2.2.2.2.1 (zRn u.2.2.1 u.2.2.2.1 (zAm i) (σ.1 0) (zS0p σ (nI p)) 3) ((nI (σ.1 1)).toInt64 - (zRn u.2.2.1 u.2.2.2.1 (zAm i) (σ.1 0) (zS0p σ (nI p)) 3).1) ((nI (σ.1 1)).toInt64 * (nI (σ.1 2)).toInt64 - (zRn u.2.2.1 u.2.2.2.1 (zAm i) (σ.1 0) (zS0p σ (nI p)) 3).2.1)) 4 ∧ zFf (zBec u.2.1 i) (nI (σ.1 0)) (B_ 0) (B_ 3) (nI (σ.2.1 3 0)) (nI (σ.2.1 3 1)) 72 0 = zNONE) ↔ zSuits σ w q p i := by
        rw [hff_, show (zJ5 u.2.2.2.2.2.1 (zRn u.2.2.1 u.2.2.2.1 (zAm i) (σ.1 0) (zS0p σ (nI p)) 3) ((nI (σ.1 1)).toInt64 - (zRn u.2.2.1 u.2.2.2.1 (zAm i) (σ.1 0) (zS0p σ (nI p)) 3).1) ((nI (σ.1 1)).toInt64 * (nI (σ.1 2)).toInt64 - (zRn u.2.2.1 u.2.2.2.1 (zAm i) (σ.1 0) (zS0p σ (nI p)) 3).2.1)) 3 = zAW σ p i from hF_.2.2.2.2.1, show (zJ5 u.2.2.2.2.2.1 (zRn u.2.2.1 u.2.2.2.1 (zAm i) (σ.1 0) (zS0p σ (nI p)) 3) ((nI (σ.1 1)).toInt64 - (zRn u.2.2.1 u.2.2.2.1 (zAm i) (σ.1 0) (zS0p σ (nI p)) 3).1) ((nI (σ.1 1)).toInt64 * (nI (σ.1 2)).toInt64 - (zRn u.2.2.1 u.2.2.2.1 (zAm i) (σ.1 0) (zS0p σ (nI p)) 3).2.1)) 4 = zAG σ p i from hF_.2.2.2.2.2]
      refine a_lstore_9 (pc := 125) dX5_array_125 rfl (by decide) ?_
      refine a_lload_9 (pc := 127) dX5_array_127 ?_
      refine a_lload_5 (pc := 129) dX5_array_129 ?_
      refine a_lif_ge (tgt := 165) (pc := 131) dX5_array_131 dX5_array_132 (by decide) (fun c_131 => ?_) (fun c_131 => ?_)
      · rw [if_pos c_131] at hz2_
        refine a_iinc_8 (cst := 1) (pc := 165) dX5_array_165 rfl (by decide) (by decide) ?_
        refine a_goto (tgt := 73) (pc := 168) dX5_array_168 (by decide) ?_
        rw [← nI_succ]
        first
          | exact a_forget_9 (ih_ q2_ (by omega) (i + 1) _ (nI (σ.1 0), zBec u.2.1 i, u.2.2.1, u.2.2.2.1, B_, (zJ5 u.2.2.2.2.2.1 (zRn u.2.2.1 u.2.2.2.1 (zAm i) (σ.1 0) (zS0p σ (nI p)) 3) ((nI (σ.1 1)).toInt64 - (zRn u.2.2.1 u.2.2.2.1 (zAm i) (σ.1 0) (zS0p σ (nI p)) 3).1) ((nI (σ.1 1)).toInt64 * (nI (σ.1 2)).toInt64 - (zRn u.2.2.1 u.2.2.2.1 (zAm i) (σ.1 0) (zS0p σ (nI p)) 3).2.1)), u.2.2.2.2.2.2) (by omega) hz2_ hT_ rfl)
          | exact ih_ q2_ (by omega) (i + 1) _ (u.1, zBec u.2.1 i, u.2.2) (by omega) hz2_ hT_ hL_
      · rw [if_neg c_131] at hz2_
        refine a_aload_0 (pc := 135) dX5_array_135 ?_
        refine a_iload_1 (pc := 136) dX5_array_136 ?_
        refine a_iload_2 (pc := 137) dX5_array_137 ?_
        refine f_P (ad := ad) (q0 := 0) (S2 := sX5_suits) (p_suits l G ad σ (nI (σ.1 0), zBec u.2.1 i, u.2.2.1, u.2.2.2.1, B_, (zJ5 u.2.2.2.2.2.1 (zRn u.2.2.1 u.2.2.2.1 (zAm i) (σ.1 0) (zS0p σ (nI p)) 3) ((nI (σ.1 1)).toInt64 - (zRn u.2.2.1 u.2.2.2.1 (zAm i) (σ.1 0) (zS0p σ (nI p)) 3).1) ((nI (σ.1 1)).toInt64 * (nI (σ.1 2)).toInt64 - (zRn u.2.2.1 u.2.2.2.1 (zAm i) (σ.1 0) (zS0p σ (nI p)) 3).2.1)), u.2.2.2.2.2.2) w q) kc_X5_suits km_X5_197 ki_X5_suits kv_X5_suits kini_X5 ⟨kn_X5_suits, by decide, by decide⟩ (pc := 138) dX5_array_138 (znd_of rfl znd28) rfl rfl (Nat.le_of_ble_eq_true rfl) rfl rfl rfl ?_
        first | refine a_if_eqB (tgt := 165) (pc := 141) dX5_array_141 (by decide) (fun c_141 => ?_) (fun c_141 => ?_) | refine a_if_eq (tgt := 165) (pc := 141) dX5_array_141 (by decide) (fun c_141 => ?_) (fun c_141 => ?_)
        · rw [if_neg (fun h => c_141 (hsu_.mpr h))] at hz2_
          refine a_iinc_8 (cst := 1) (pc := 165) dX5_array_165 rfl (by decide) (by decide) ?_
          refine a_goto (tgt := 73) (pc := 168) dX5_array_168 (by decide) ?_
          rw [← nI_succ]
          first
            | exact a_forget_9 (ih_ q2_ (by omega) (i + 1) _ (nI (σ.1 0), zBec u.2.1 i, u.2.2.1, u.2.2.2.1, B_, (zJ5 u.2.2.2.2.2.1 (zRn u.2.2.1 u.2.2.2.1 (zAm i) (σ.1 0) (zS0p σ (nI p)) 3) ((nI (σ.1 1)).toInt64 - (zRn u.2.2.1 u.2.2.2.1 (zAm i) (σ.1 0) (zS0p σ (nI p)) 3).1) ((nI (σ.1 1)).toInt64 * (nI (σ.1 2)).toInt64 - (zRn u.2.2.1 u.2.2.2.1 (zAm i) (σ.1 0) (zS0p σ (nI p)) 3).2.1)), u.2.2.2.2.2.2) (by omega) hz2_ hT_ rfl)
            | exact ih_ q2_ (by omega) (i + 1) _ (u.1, zBec u.2.1 i, u.2.2) (by omega) hz2_ hT_ hL_
        · rw [if_pos (hsu_.mp c_141)] at hz2_
          refine a_lload_9 (pc := 144) dX5_array_144 ?_
          refine a_lstore_5 (pc := 146) dX5_array_146 rfl (by decide) ?_
          refine a_ldc2 (pc := 148) dX5_array_148 kl_X5_179 ?_
          refine a_iload_7 (pc := 151) dX5_array_151 ?_
          refine a_i2l (pc := 153) dX5_array_153 ?_
          refine a_lmul (pc := 154) dX5_array_154 ?_
          refine a_aload_0 (pc := 155) dX5_array_155 ?_
          refine a_getf (ci := 5) (j := 2) rfl win_X5 (by decide) (pc := 156) dX5_array_156 kf_X5_20 rfl rfl ?_
          refine cV_P (ad := ad) (q0 := 4) (S2 := sX2_digits) (c_digits l G (zpk ad [4, 5]) (zBec u.2.1 i) (nI (σ.1 0))) kc_X2_digits km_X5_200 ki_X2_digits kv_X2_digits kini_X2 ⟨kn_X2_digits, by decide, by decide⟩ (pc := 159) dX5_array_159 [4, 5] rfl rfl rfl rfl (Nat.le_of_ble_eq_true rfl) rfl rfl rfl ?_
          rw [zBec_at _ i 0 (by decide), zBec_at _ i 1 (by decide), zBec_at _ i 2 (by decide)]
          refine a_i2l (pc := 162) dX5_array_162 ?_
          refine a_ladd (pc := 163) dX5_array_163 ?_
          refine a_lstore_3 (pc := 164) dX5_array_164 rfl (by decide) ?_
          refine a_iinc_8 (cst := 1) (pc := 165) dX5_array_165 rfl (by decide) (by decide) ?_
          refine a_goto (tgt := 73) (pc := 168) dX5_array_168 (by decide) ?_
          rw [← nI_succ]
          first
            | exact a_forget_9 (ih_ q2_ (by omega) (i + 1) _ (nI (σ.1 0), zBec u.2.1 i, u.2.2.1, u.2.2.2.1, B_, (zJ5 u.2.2.2.2.2.1 (zRn u.2.2.1 u.2.2.2.1 (zAm i) (σ.1 0) (zS0p σ (nI p)) 3) ((nI (σ.1 1)).toInt64 - (zRn u.2.2.1 u.2.2.2.1 (zAm i) (σ.1 0) (zS0p σ (nI p)) 3).1) ((nI (σ.1 1)).toInt64 * (nI (σ.1 2)).toInt64 - (zRn u.2.2.1 u.2.2.2.1 (zAm i) (σ.1 0) (zS0p σ (nI p)) 3).2.1)), u.2.2.2.2.2.2) (by omega) hz2_ hT_ rfl)
            | exact ih_ q2_ (by omega) (i + 1) _ (u.1, zBec u.2.1 i, u.2.2) (by omega) hz2_ hT_ hL_
    · rw [if_neg c_89] at hz2_
      refine a_goto (tgt := 165) (pc := 92) dX5_array_92 (by decide) ?_
      refine a_iinc_8 (cst := 1) (pc := 165) dX5_array_165 rfl (by decide) (by decide) ?_
      refine a_goto (tgt := 73) (pc := 168) dX5_array_168 (by decide) ?_
      rw [← nI_succ]
      first
        | exact a_forget_9 (ih_ q2_ (by omega) (i + 1) _ (nI (σ.1 0), zBec u.2.1 i, u.2.2.1, u.2.2.2.1, B_, (zJ5 u.2.2.2.2.2.1 (zRn u.2.2.1 u.2.2.2.1 (zAm i) (σ.1 0) (zS0p σ (nI p)) 3) ((nI (σ.1 1)).toInt64 - (zRn u.2.2.1 u.2.2.2.1 (zAm i) (σ.1 0) (zS0p σ (nI p)) 3).1) ((nI (σ.1 1)).toInt64 * (nI (σ.1 2)).toInt64 - (zRn u.2.2.1 u.2.2.2.1 (zAm i) (σ.1 0) (zS0p σ (nI p)) 3).2.1)), u.2.2.2.2.2.2) (by omega) hz2_ hT_ rfl)
        | exact ih_ q2_ (by omega) (i + 1) _ (u.1, zBec u.2.1 i, u.2.2) (by omega) hz2_ hT_ hL_

set_option maxRecDepth 100000 in
set_option maxHeartbeats 4000000 in
theorem lp_arrayO (l : Launch) (G : zG) (ad : Nat → Nat) (σ : zσ) (hσ : zOk σ) (x0 : zX) (w q : Int32) (r : Int64) : ∀ (r2 t : Nat) (s : Int64 × Int64) (u : zX), t + r2 = 10 → (zAr1 σ w q r2 t s).1 = r → zTaken σ u → u.1 = nI (σ.1 0) → AV l G sX5_array (wP G ad σ x0) (zPost G ad (r, σ)) 62 [some (.ref (ad 0)), some (.int w), some (.int q), some (.long s.1), none, some (.long s.2), none, some (.int (nI (100 * t))), none, none, none] [] (wP G ad σ u) := by
  intro q_
  induction q_ using Nat.strongRecOn
  rename_i q_ ih_
  intro t s u hq_ hz_ hT_ hL_
  refine a_iload_7 (pc := 62) dX5_array_62 ?_
  refine a_sipush (v := 900) (pc := 64) dX5_array_64 (by decide) ?_
  refine a_icmp_gt (tgt := 177) (pc := 67) dX5_array_67 (by decide) (fun c_67 => ?_) (fun c_67 => ?_)
  · obtain rfl : q_ = 0 := by have := (zI_lt (a := 900) (b := 100 * t) (by decide) (by omega)).mp c_67; omega
    refine a_lload_3 (pc := 177) dX5_array_177 ?_
    exact a_lret (pc := 178) dX5_array_178 rfl rfl (zret' u (by rw [← hz_]; rfl) rfl)
  · have hi_ : t < 10 := by have := mt (zI_lt (a := 900) (b := 100 * t) (by decide) (by omega)).mpr c_67; omega
    obtain ⟨q2_, rfl⟩ : ∃ z, q_ = z + 1 := ⟨q_ - 1, by omega⟩
    refine a_iconst (v := 0) (pc := 70) dX5_array_70 (by decide) ?_
    refine a_istore_8 (pc := 71) dX5_array_71 rfl (by decide) ?_
    refine lp_arrayI l G ad σ hσ x0 w q r (100 * t) (by omega) _ (fun u3_ hT3_ hL3_ => ?_) 100 0 s u (by omega) rfl hT_ hL_
    refine a_iinc_7 (cst := 100) (pc := 171) dX5_array_171 rfl (by decide) (by decide) ?_
    refine a_goto (tgt := 62) (pc := 174) dX5_array_174 (by decide) ?_
    rw [show nI (100 * t) + (100 : Int32) = nI (100 * (t + 1)) by rw [Nat.mul_add, zI_add]; rfl]
    exact ih_ q2_ (by omega) (t + 1) _ u3_ (by omega) hz_ hT3_ hL3_

set_option maxRecDepth 100000 in
set_option maxHeartbeats 4000000 in
theorem p_array (l : Launch) (G : zG) (ad : Nat → Nat) (σ : zσ) (x0 : zX) (hσ : zOk σ) (w : Int32) (q : Int32) : zSem l G sX5_array [.ref (ad 0), .int w, .int q] (wP G ad σ x0) (zPost G ad (o_array σ w q)) := by
  refine zEnterV (L := [some (.ref (ad 0)), some (.int w), some (.int q), none, none, none, none, none, none, none, none]) (by decide) rfl (Nat.le_of_ble_eq_true rfl) rfl ?_
  refine a_iload_1 (pc := 0) dX5_array_0 ?_
  refine a_iconst (v := 0) (pc := 1) dX5_array_1 (by decide) ?_
  refine a_ldc (pc := 2) dX5_array_2 kl_X5_181 ?_
  refine cS_P (S2 := sX5_outside) (c_outside l G _ _ _) kc_X5_outside km_X5_64 ks_X5_outside kini_X5 ⟨kn_X5_outside, by decide, by decide⟩ (pc := 4) dX5_array_4 [] rfl rfl rfl rfl (Nat.le_of_ble_eq_true rfl) ?_
  first | refine a_if_neB (tgt := 20) (pc := 7) dX5_array_7 (by decide) (fun c_7 => ?_) (fun c_7 => ?_) | refine a_if_ne (tgt := 20) (pc := 7) dX5_array_7 (by decide) (fun c_7 => ?_) (fun c_7 => ?_)
  · refine a_ldc2 (pc := 20) dX5_array_20 kl_X5_68 ?_
    exact a_lret (pc := 23) dX5_array_23 rfl rfl (by first | exact zret' x0 (by unfold o_array; rw [if_pos (Or.inl c_7)]) rfl | exact zret' x0 (by unfold o_array; rw [if_pos (Or.inr c_17)]) rfl)
  · refine a_iload_2 (pc := 10) dX5_array_10 ?_
    refine a_iconst (v := 0) (pc := 11) dX5_array_11 (by decide) ?_
    refine a_ldc (pc := 12) dX5_array_12 kl_X5_100 ?_
    refine cS_P (S2 := sX5_outside) (c_outside l G _ _ _) kc_X5_outside km_X5_64 ks_X5_outside kini_X5 ⟨kn_X5_outside, by decide, by decide⟩ (pc := 14) dX5_array_14 [] rfl rfl rfl rfl (Nat.le_of_ble_eq_true rfl) ?_
    first | refine a_if_eqB (tgt := 24) (pc := 17) dX5_array_17 (by decide) (fun c_17 => ?_) (fun c_17 => ?_) | refine a_if_eq (tgt := 24) (pc := 17) dX5_array_17 (by decide) (fun c_17 => ?_) (fun c_17 => ?_)
    · refine a_aload_0 (pc := 24) dX5_array_24 ?_
      refine a_getf (ci := 5) (j := 4) rfl win_X5 (by decide) (pc := 25) dX5_array_25 kf_X5_33 rfl rfl ?_
      refine a_aload_0 (pc := 28) dX5_array_28 ?_
      refine a_getf (ci := 5) (j := 3) rfl win_X5 (by decide) (pc := 29) dX5_array_29 kf_X5_26 rfl rfl ?_
      refine cV_0 (ad := ad) (q0 := 9) (S2 := sX0_take) (c_take l G (zpk ad [9, 10, 11, 12, 13, 14, 15, 16, 17, 6, 7, 8]) x0.2.2.1 x0.2.2.2.1 x0.2.2.2.2.1 x0.2.2.2.2.2.1 (zKd σ) (zFo σ) (fun k hk => zin4 (hσ.2.2.2.2.2.2.2.1 k hk))) kc_X0_take km_X5_182 ki_X0_take kv_X0_take kini_X0 ⟨kn_X0_take, by decide, by decide⟩ (pc := 32) dX5_array_32 [9, 10, 11, 12, 13, 14, 15, 16, 17, 6, 7, 8] rfl rfl rfl rfl (Nat.le_of_ble_eq_true rfl) rfl rfl rfl (fun u => wP G ad σ (x0.1, x0.2.1, u.1, u.2, x0.2.2.2.2)) (fun _ => rfl) (fun u_ hu_ => ?_)
      refine a_aload_0 (pc := 35) dX5_array_35 ?_
      refine a_getf (ci := 5) (j := 2) rfl win_X5 (by decide) (pc := 36) dX5_array_36 kf_X5_20 rfl rfl ?_
      refine a_aload_0 (pc := 39) dX5_array_39 ?_
      refine a_getf (ci := 5) (j := 1) rfl win_X5 (by decide) (pc := 40) dX5_array_40 kf_X5_16 rfl rfl ?_
      refine a_getfN (ci := 2) (j := 1) rfl win_X2 (by decide) (pc := 43) dX5_array_43 kf_X5_73 rfl rfl ?_
      refine a_putfN (ci := 2) (j := 1) rfl win_X2 tyX2_ok nmX2 (by decide) (pc := 46) dX5_array_46 kf_X5_73 rfl rfl rfl rfl rfl (Nat.le_of_ble_eq_true rfl) ?_
      refine a_ldc2 (pc := 49) dX5_array_49 kl_X5_109 ?_
      refine a_lstore_3 (pc := 52) dX5_array_52 rfl (by decide) ?_
      refine a_ldc2 (pc := 53) dX5_array_53 kl_X5_188 ?_
      refine a_lstore_5 (pc := 56) dX5_array_56 rfl (by decide) ?_
      refine a_bipush (v := 100) (pc := 58) dX5_array_58 (by decide) ?_
      refine a_istore_7 (pc := 60) dX5_array_60 rfl (by decide) ?_
      have e_ : o_array σ w q = ((zAr1 σ w q 9 1 (zNO, 9223372036854775807)).1, σ) := by unfold o_array; rw [if_neg (fun h => h.elim c_7 c_17)]
      rw [e_]
      exact a_to (lp_arrayO l G ad σ hσ x0 w q _ 9 1 (zNO, 9223372036854775807) (nI (σ.1 0), x0.2.1, u_.1, u_.2, x0.2.2.2.2) (by omega) rfl (fun k hk => ⟨hu_.1 k hk, hu_.2 k hk⟩) rfl) rfl rfl rfl rfl
    · refine a_ldc2 (pc := 20) dX5_array_20 kl_X5_68 ?_
      exact a_lret (pc := 23) dX5_array_23 rfl rfl (by first | exact zret' x0 (by unfold o_array; rw [if_pos (Or.inl c_7)]) rfl | exact zret' x0 (by unfold o_array; rw [if_pos (Or.inr c_17)]) rfl)
end
section
/-! The plant: lay, joint. -/
def zMost (w : Nat) : Int32 := if w = 0 then 99 else 999
abbrev zHas (σ : zσ) (s : Nat) (x : Int32) : Prop := ¬ x < 0 ∧ ¬ σ.2.2.1 s ≤ x
def zLay1 (σ : zσ) (s i : Nat) : Int32 := if zHas σ s (nI i) then σ.2.2.2 s i else 0
def zLayV (σ : zσ) (w s i : Nat) : Nat := if zOR (zLay1 σ s i) 0 (zMost w) then 0 else (zLay1 σ s i).toNatClampNeg
def zfilN (f : Nat → Nat) (m : Nat) (g : Nat → Nat) : Nat → Nat := fun j => if j < m then g j else f j
theorem zfilN_s (f g : Nat → Nat) (i : Nat) : upd (fun j => nI (zfilN f i g j)) i (nI (g i)) = fun j => nI (zfilN f (i + 1) g j) := by
  rw [updN]
  funext j
  congr 1
  unfold zuN zfilN
  by_cases h : j = i
  · subst h; rw [if_pos rfl, if_pos (by omega)]
  · rw [if_neg h]
    by_cases h2 : j < i
    · rw [if_pos h2, if_pos (by omega)]
    · rw [if_neg h2, if_neg (by omega)]
theorem zfilN_0 (f g : Nat → Nat) : zfilN f 0 g = f := by funext j; exact if_neg (by omega)
theorem zu2_self (F : Nat → Nat → Nat) (a : Nat) : zu2 F a (F a) = F := by
  funext b; unfold zu2; split
  · rename_i h; rw [h]
  · rfl
def zLayσ (σ : zσ) (w s i : Nat) : zσ := (σ.1, zu2 σ.2.1 (4 + w) (zfilN (σ.2.1 (4 + w)) i (zLayV σ w s)), σ.2.2)
def o_lay (σ : zσ) (w s : Int32) : Int64 × zσ := if zOR w 0 1 ∨ zOR s 0 1 then (zBAD, σ) else if σ.2.2.1 s.toNatClampNeg = -1 then (zNOTH, σ) else ((if (12 : Int32) < σ.2.2.1 s.toNatClampNeg then 12 else σ.2.2.1 s.toNatClampNeg).toInt64, zLayσ σ w.toNatClampNeg s.toNatClampNeg 12)
theorem zLayV_v (σ : zσ) (w s i : Nat) : nI (zLayV σ w s i) = if zOR (zLay1 σ s i) 0 (zMost w) then 0 else zLay1 σ s i := by
  unfold zLayV
  by_cases h : zOR (zLay1 σ s i) 0 (zMost w)
  · rw [if_pos h, if_pos h]; rfl
  · rw [if_neg h, if_neg h]
    have h1 : 0 ≤ (zLay1 σ s i).toInt := by
      have k0 : (0:Int32).toInt = 0 := by decide
      have := mt Int32.lt_iff_toInt_lt.mpr (fun q => h (Or.inl q))
      omega
    exact (i_toNat h1).symm
set_option maxRecDepth 100000 in
set_option maxHeartbeats 4000000 in
theorem lp_lay00 (l : Launch) (G : zG) (ad : Nat → Nat) (σ : zσ) (x0 : zX) : ∀ (q i : Nat), i + q = 12 → AV l G sX5_lay (wP G ad σ x0) (zPost G ad ((if (12 : Int32) < σ.2.2.1 0 then 12 else σ.2.2.1 0).toInt64, zLayσ σ 0 0 12)) 59 [some (.ref (ad 0)), some (.int 0), some (.int 0), some (.ref (ad 24)), some (.ref (ad 19)), some (.int (zMost 0)), some (.int (nI i)), none] [] (wP G ad (zLayσ σ 0 0 i) x0) := by
  intro q_
  induction q_ using Nat.strongRecOn
  rename_i q_ ih_
  intro i hq_
  refine a_iload_6 (pc := 59) dX5_lay_59 ?_
  refine a_bipush (v := 12) (pc := 61) dX5_lay_61 (by decide) ?_
  refine a_icmp_ge (tgt := 116) (pc := 63) dX5_lay_63 (by decide) (fun c_63 => ?_) (fun c_63 => ?_)
  · obtain rfl : i = 12 := by have := (zI_le (a := 12) (b := i) (by decide) (by omega)).mp c_63; omega
    refine a_aload_3 (pc := 116) dX5_lay_116 ?_
    refine a_getfN (ci := 3) (j := 1) rfl win_X3 (by decide) (pc := 117) dX5_lay_117 kf_X5_224 rfl rfl ?_
    refine a_bipush (v := 12) (pc := 120) dX5_lay_120 (by decide) ?_
    refine a_minI (pc := 122) dX5_lay_122 km_X5_227 (by decide) (Nat.le_of_ble_eq_true rfl) ?_
    refine a_i2l (pc := 125) dX5_lay_125 ?_
    exact a_lret (pc := 126) dX5_lay_126 rfl rfl (zret' x0 rfl rfl)
  · have hi_ : i < 12 := by have := mt (zI_le (a := 12) (b := i) (by decide) (by omega)).mpr c_63; omega
    have J86_ : ∀ x_ : Int32, x_ = zLay1 σ 0 i → AV l G sX5_lay (wP G ad σ x0) (zPost G ad ((if (12 : Int32) < σ.2.2.1 0 then 12 else σ.2.2.1 0).toInt64, zLayσ σ 0 0 12)) 86 [some (.ref (ad 0)), some (.int 0), some (.int 0), some (.ref (ad 24)), some (.ref (ad 19)), some (.int (zMost 0)), some (.int (nI i)), none] [.int x_] (wP G ad (zLayσ σ 0 0 i) x0) := by
      intro x_ hx_; subst hx_
      refine a_istore_7 (pc := 86) dX5_lay_86 rfl (by decide) ?_
      refine a_aload_4 (pc := 88) dX5_lay_88 ?_
      refine a_iload_6 (pc := 90) dX5_lay_90 ?_
      refine a_iload_7 (pc := 92) dX5_lay_92 ?_
      refine a_iconst (v := 0) (pc := 94) dX5_lay_94 (by decide) ?_
      refine a_iload_5 (pc := 95) dX5_lay_95 ?_
      refine cS_P (S2 := sX5_outside) (c_outside l G _ _ _) kc_X5_outside km_X5_64 ks_X5_outside kini_X5 ⟨kn_X5_outside, by decide, by decide⟩ (pc := 97) dX5_lay_97 [] rfl rfl rfl rfl (Nat.le_of_ble_eq_true rfl) ?_
      first | refine a_if_eqB (tgt := 107) (pc := 100) dX5_lay_100 (by decide) (fun c_100 => ?_) (fun c_100 => ?_) | refine a_if_eq (tgt := 107) (pc := 100) dX5_lay_100 (by decide) (fun c_100 => ?_) (fun c_100 => ?_)
      · refine a_iload_7 (pc := 107) dX5_lay_107 ?_
        refine a_iastN (pc := 109) dX5_lay_109 rfl (by omega) (by decide) ?_
        refine a_iinc_6 (cst := 1) (pc := 110) dX5_lay_110 rfl (by decide) (by decide) ?_
        refine a_goto (tgt := 59) (pc := 113) dX5_lay_113 (by decide) ?_
        rw [← nI_succ]
        refine a_forget_7 (a_to (ih_ (q_ - 1) (by omega) (i + 1) (by omega)) rfl rfl rfl ?_)
        have hv_ := zLayV_v σ 0 0 i
        first | rw [if_pos c_100] at hv_ | rw [if_neg c_100] at hv_
        rw [← hv_]
        show wP G ad (zLayσ σ 0 0 (i + 1)) x0 = (wP G ad (zLayσ σ 0 0 i) x0).set 19 (ad 19, .inl (zcI G, 12, .inl (upd (fun j => nI (zfilN (σ.2.1 4) i (zLayV σ 0 0) j)) i (nI (zLayV σ 0 0 i)))))
        rw [zfilN_s]
        rfl
      · refine a_iconst (v := 0) (pc := 103) dX5_lay_103 (by decide) ?_
        refine a_goto (tgt := 109) (pc := 104) dX5_lay_104 (by decide) ?_
        refine a_iastN (pc := 109) dX5_lay_109 rfl (by omega) (by decide) ?_
        refine a_iinc_6 (cst := 1) (pc := 110) dX5_lay_110 rfl (by decide) (by decide) ?_
        refine a_goto (tgt := 59) (pc := 113) dX5_lay_113 (by decide) ?_
        rw [← nI_succ]
        refine a_forget_7 (a_to (ih_ (q_ - 1) (by omega) (i + 1) (by omega)) rfl rfl rfl ?_)
        have hv_ := zLayV_v σ 0 0 i
        first | rw [if_pos c_100] at hv_ | rw [if_neg c_100] at hv_
        rw [← hv_]
        show wP G ad (zLayσ σ 0 0 (i + 1)) x0 = (wP G ad (zLayσ σ 0 0 i) x0).set 19 (ad 19, .inl (zcI G, 12, .inl (upd (fun j => nI (zfilN (σ.2.1 4) i (zLayV σ 0 0) j)) i (nI (zLayV σ 0 0 i)))))
        rw [zfilN_s]
        rfl
    refine a_aload_3 (pc := 66) dX5_lay_66 ?_
    refine a_iload_6 (pc := 67) dX5_lay_67 ?_
    refine cV_P (ad := ad) (q0 := 24) (S2 := sX3_has) (c_has l G (zpk ad [24, 25]) (σ.2.2.2 0) (σ.2.2.1 0) (nI i)) kc_X3_has km_X5_217 ki_X3_has kv_X3_has kini_X3 ⟨kn_X3_has, by decide, by decide⟩ (pc := 69) dX5_lay_69 [24, 25] rfl rfl rfl rfl (Nat.le_of_ble_eq_true rfl) rfl rfl rfl ?_
    first | refine a_if_eqB (tgt := 85) (pc := 72) dX5_lay_72 (by decide) (fun c_72 => ?_) (fun c_72 => ?_) | refine a_if_eq (tgt := 85) (pc := 72) dX5_lay_72 (by decide) (fun c_72 => ?_) (fun c_72 => ?_)
    · refine a_iconst (v := 0) (pc := 85) dX5_lay_85 (by decide) ?_
      first | exact J86_ _ (if_pos c_72).symm | exact J86_ _ (if_neg c_72).symm
    · refine a_aload_3 (pc := 75) dX5_lay_75 ?_
      refine a_getfN (ci := 3) (j := 0) rfl win_X3 (by decide) (pc := 76) dX5_lay_76 kf_X5_220 rfl rfl ?_
      refine a_iload_6 (pc := 79) dX5_lay_79 ?_
      refine a_saldN (pc := 81) dX5_lay_81 rfl (by omega) (by decide) ?_
      refine a_goto (tgt := 86) (pc := 82) dX5_lay_82 (by decide) ?_
      first | exact J86_ _ (if_pos c_72).symm | exact J86_ _ (if_neg c_72).symm

set_option maxRecDepth 100000 in
set_option maxHeartbeats 4000000 in
theorem lp_lay01 (l : Launch) (G : zG) (ad : Nat → Nat) (σ : zσ) (x0 : zX) : ∀ (q i : Nat), i + q = 12 → AV l G sX5_lay (wP G ad σ x0) (zPost G ad ((if (12 : Int32) < σ.2.2.1 1 then 12 else σ.2.2.1 1).toInt64, zLayσ σ 0 1 12)) 59 [some (.ref (ad 0)), some (.int 0), some (.int 1), some (.ref (ad 26)), some (.ref (ad 19)), some (.int (zMost 0)), some (.int (nI i)), none] [] (wP G ad (zLayσ σ 0 1 i) x0) := by
  intro q_
  induction q_ using Nat.strongRecOn
  rename_i q_ ih_
  intro i hq_
  refine a_iload_6 (pc := 59) dX5_lay_59 ?_
  refine a_bipush (v := 12) (pc := 61) dX5_lay_61 (by decide) ?_
  refine a_icmp_ge (tgt := 116) (pc := 63) dX5_lay_63 (by decide) (fun c_63 => ?_) (fun c_63 => ?_)
  · obtain rfl : i = 12 := by have := (zI_le (a := 12) (b := i) (by decide) (by omega)).mp c_63; omega
    refine a_aload_3 (pc := 116) dX5_lay_116 ?_
    refine a_getfN (ci := 3) (j := 1) rfl win_X3 (by decide) (pc := 117) dX5_lay_117 kf_X5_224 rfl rfl ?_
    refine a_bipush (v := 12) (pc := 120) dX5_lay_120 (by decide) ?_
    refine a_minI (pc := 122) dX5_lay_122 km_X5_227 (by decide) (Nat.le_of_ble_eq_true rfl) ?_
    refine a_i2l (pc := 125) dX5_lay_125 ?_
    exact a_lret (pc := 126) dX5_lay_126 rfl rfl (zret' x0 rfl rfl)
  · have hi_ : i < 12 := by have := mt (zI_le (a := 12) (b := i) (by decide) (by omega)).mpr c_63; omega
    have J86_ : ∀ x_ : Int32, x_ = zLay1 σ 1 i → AV l G sX5_lay (wP G ad σ x0) (zPost G ad ((if (12 : Int32) < σ.2.2.1 1 then 12 else σ.2.2.1 1).toInt64, zLayσ σ 0 1 12)) 86 [some (.ref (ad 0)), some (.int 0), some (.int 1), some (.ref (ad 26)), some (.ref (ad 19)), some (.int (zMost 0)), some (.int (nI i)), none] [.int x_] (wP G ad (zLayσ σ 0 1 i) x0) := by
      intro x_ hx_; subst hx_
      refine a_istore_7 (pc := 86) dX5_lay_86 rfl (by decide) ?_
      refine a_aload_4 (pc := 88) dX5_lay_88 ?_
      refine a_iload_6 (pc := 90) dX5_lay_90 ?_
      refine a_iload_7 (pc := 92) dX5_lay_92 ?_
      refine a_iconst (v := 0) (pc := 94) dX5_lay_94 (by decide) ?_
      refine a_iload_5 (pc := 95) dX5_lay_95 ?_
      refine cS_P (S2 := sX5_outside) (c_outside l G _ _ _) kc_X5_outside km_X5_64 ks_X5_outside kini_X5 ⟨kn_X5_outside, by decide, by decide⟩ (pc := 97) dX5_lay_97 [] rfl rfl rfl rfl (Nat.le_of_ble_eq_true rfl) ?_
      first | refine a_if_eqB (tgt := 107) (pc := 100) dX5_lay_100 (by decide) (fun c_100 => ?_) (fun c_100 => ?_) | refine a_if_eq (tgt := 107) (pc := 100) dX5_lay_100 (by decide) (fun c_100 => ?_) (fun c_100 => ?_)
      · refine a_iload_7 (pc := 107) dX5_lay_107 ?_
        refine a_iastN (pc := 109) dX5_lay_109 rfl (by omega) (by decide) ?_
        refine a_iinc_6 (cst := 1) (pc := 110) dX5_lay_110 rfl (by decide) (by decide) ?_
        refine a_goto (tgt := 59) (pc := 113) dX5_lay_113 (by decide) ?_
        rw [← nI_succ]
        refine a_forget_7 (a_to (ih_ (q_ - 1) (by omega) (i + 1) (by omega)) rfl rfl rfl ?_)
        have hv_ := zLayV_v σ 0 1 i
        first | rw [if_pos c_100] at hv_ | rw [if_neg c_100] at hv_
        rw [← hv_]
        show wP G ad (zLayσ σ 0 1 (i + 1)) x0 = (wP G ad (zLayσ σ 0 1 i) x0).set 19 (ad 19, .inl (zcI G, 12, .inl (upd (fun j => nI (zfilN (σ.2.1 4) i (zLayV σ 0 1) j)) i (nI (zLayV σ 0 1 i)))))
        rw [zfilN_s]
        rfl
      · refine a_iconst (v := 0) (pc := 103) dX5_lay_103 (by decide) ?_
        refine a_goto (tgt := 109) (pc := 104) dX5_lay_104 (by decide) ?_
        refine a_iastN (pc := 109) dX5_lay_109 rfl (by omega) (by decide) ?_
        refine a_iinc_6 (cst := 1) (pc := 110) dX5_lay_110 rfl (by decide) (by decide) ?_
        refine a_goto (tgt := 59) (pc := 113) dX5_lay_113 (by decide) ?_
        rw [← nI_succ]
        refine a_forget_7 (a_to (ih_ (q_ - 1) (by omega) (i + 1) (by omega)) rfl rfl rfl ?_)
        have hv_ := zLayV_v σ 0 1 i
        first | rw [if_pos c_100] at hv_ | rw [if_neg c_100] at hv_
        rw [← hv_]
        show wP G ad (zLayσ σ 0 1 (i + 1)) x0 = (wP G ad (zLayσ σ 0 1 i) x0).set 19 (ad 19, .inl (zcI G, 12, .inl (upd (fun j => nI (zfilN (σ.2.1 4) i (zLayV σ 0 1) j)) i (nI (zLayV σ 0 1 i)))))
        rw [zfilN_s]
        rfl
    refine a_aload_3 (pc := 66) dX5_lay_66 ?_
    refine a_iload_6 (pc := 67) dX5_lay_67 ?_
    refine cV_P (ad := ad) (q0 := 26) (S2 := sX3_has) (c_has l G (zpk ad [26, 27]) (σ.2.2.2 1) (σ.2.2.1 1) (nI i)) kc_X3_has km_X5_217 ki_X3_has kv_X3_has kini_X3 ⟨kn_X3_has, by decide, by decide⟩ (pc := 69) dX5_lay_69 [26, 27] rfl rfl rfl rfl (Nat.le_of_ble_eq_true rfl) rfl rfl rfl ?_
    first | refine a_if_eqB (tgt := 85) (pc := 72) dX5_lay_72 (by decide) (fun c_72 => ?_) (fun c_72 => ?_) | refine a_if_eq (tgt := 85) (pc := 72) dX5_lay_72 (by decide) (fun c_72 => ?_) (fun c_72 => ?_)
    · refine a_iconst (v := 0) (pc := 85) dX5_lay_85 (by decide) ?_
      first | exact J86_ _ (if_pos c_72).symm | exact J86_ _ (if_neg c_72).symm
    · refine a_aload_3 (pc := 75) dX5_lay_75 ?_
      refine a_getfN (ci := 3) (j := 0) rfl win_X3 (by decide) (pc := 76) dX5_lay_76 kf_X5_220 rfl rfl ?_
      refine a_iload_6 (pc := 79) dX5_lay_79 ?_
      refine a_saldN (pc := 81) dX5_lay_81 rfl (by omega) (by decide) ?_
      refine a_goto (tgt := 86) (pc := 82) dX5_lay_82 (by decide) ?_
      first | exact J86_ _ (if_pos c_72).symm | exact J86_ _ (if_neg c_72).symm

set_option maxRecDepth 100000 in
set_option maxHeartbeats 4000000 in
theorem lp_lay10 (l : Launch) (G : zG) (ad : Nat → Nat) (σ : zσ) (x0 : zX) : ∀ (q i : Nat), i + q = 12 → AV l G sX5_lay (wP G ad σ x0) (zPost G ad ((if (12 : Int32) < σ.2.2.1 0 then 12 else σ.2.2.1 0).toInt64, zLayσ σ 1 0 12)) 59 [some (.ref (ad 0)), some (.int 1), some (.int 0), some (.ref (ad 24)), some (.ref (ad 20)), some (.int (zMost 1)), some (.int (nI i)), none] [] (wP G ad (zLayσ σ 1 0 i) x0) := by
  intro q_
  induction q_ using Nat.strongRecOn
  rename_i q_ ih_
  intro i hq_
  refine a_iload_6 (pc := 59) dX5_lay_59 ?_
  refine a_bipush (v := 12) (pc := 61) dX5_lay_61 (by decide) ?_
  refine a_icmp_ge (tgt := 116) (pc := 63) dX5_lay_63 (by decide) (fun c_63 => ?_) (fun c_63 => ?_)
  · obtain rfl : i = 12 := by have := (zI_le (a := 12) (b := i) (by decide) (by omega)).mp c_63; omega
    refine a_aload_3 (pc := 116) dX5_lay_116 ?_
    refine a_getfN (ci := 3) (j := 1) rfl win_X3 (by decide) (pc := 117) dX5_lay_117 kf_X5_224 rfl rfl ?_
    refine a_bipush (v := 12) (pc := 120) dX5_lay_120 (by decide) ?_
    refine a_minI (pc := 122) dX5_lay_122 km_X5_227 (by decide) (Nat.le_of_ble_eq_true rfl) ?_
    refine a_i2l (pc := 125) dX5_lay_125 ?_
    exact a_lret (pc := 126) dX5_lay_126 rfl rfl (zret' x0 rfl rfl)
  · have hi_ : i < 12 := by have := mt (zI_le (a := 12) (b := i) (by decide) (by omega)).mpr c_63; omega
    have J86_ : ∀ x_ : Int32, x_ = zLay1 σ 0 i → AV l G sX5_lay (wP G ad σ x0) (zPost G ad ((if (12 : Int32) < σ.2.2.1 0 then 12 else σ.2.2.1 0).toInt64, zLayσ σ 1 0 12)) 86 [some (.ref (ad 0)), some (.int 1), some (.int 0), some (.ref (ad 24)), some (.ref (ad 20)), some (.int (zMost 1)), some (.int (nI i)), none] [.int x_] (wP G ad (zLayσ σ 1 0 i) x0) := by
      intro x_ hx_; subst hx_
      refine a_istore_7 (pc := 86) dX5_lay_86 rfl (by decide) ?_
      refine a_aload_4 (pc := 88) dX5_lay_88 ?_
      refine a_iload_6 (pc := 90) dX5_lay_90 ?_
      refine a_iload_7 (pc := 92) dX5_lay_92 ?_
      refine a_iconst (v := 0) (pc := 94) dX5_lay_94 (by decide) ?_
      refine a_iload_5 (pc := 95) dX5_lay_95 ?_
      refine cS_P (S2 := sX5_outside) (c_outside l G _ _ _) kc_X5_outside km_X5_64 ks_X5_outside kini_X5 ⟨kn_X5_outside, by decide, by decide⟩ (pc := 97) dX5_lay_97 [] rfl rfl rfl rfl (Nat.le_of_ble_eq_true rfl) ?_
      first | refine a_if_eqB (tgt := 107) (pc := 100) dX5_lay_100 (by decide) (fun c_100 => ?_) (fun c_100 => ?_) | refine a_if_eq (tgt := 107) (pc := 100) dX5_lay_100 (by decide) (fun c_100 => ?_) (fun c_100 => ?_)
      · refine a_iload_7 (pc := 107) dX5_lay_107 ?_
        refine a_iastN (pc := 109) dX5_lay_109 rfl (by omega) (by decide) ?_
        refine a_iinc_6 (cst := 1) (pc := 110) dX5_lay_110 rfl (by decide) (by decide) ?_
        refine a_goto (tgt := 59) (pc := 113) dX5_lay_113 (by decide) ?_
        rw [← nI_succ]
        refine a_forget_7 (a_to (ih_ (q_ - 1) (by omega) (i + 1) (by omega)) rfl rfl rfl ?_)
        have hv_ := zLayV_v σ 1 0 i
        first | rw [if_pos c_100] at hv_ | rw [if_neg c_100] at hv_
        rw [← hv_]
        show wP G ad (zLayσ σ 1 0 (i + 1)) x0 = (wP G ad (zLayσ σ 1 0 i) x0).set 20 (ad 20, .inl (zcI G, 12, .inl (upd (fun j => nI (zfilN (σ.2.1 5) i (zLayV σ 1 0) j)) i (nI (zLayV σ 1 0 i)))))
        rw [zfilN_s]
        rfl
      · refine a_iconst (v := 0) (pc := 103) dX5_lay_103 (by decide) ?_
        refine a_goto (tgt := 109) (pc := 104) dX5_lay_104 (by decide) ?_
        refine a_iastN (pc := 109) dX5_lay_109 rfl (by omega) (by decide) ?_
        refine a_iinc_6 (cst := 1) (pc := 110) dX5_lay_110 rfl (by decide) (by decide) ?_
        refine a_goto (tgt := 59) (pc := 113) dX5_lay_113 (by decide) ?_
        rw [← nI_succ]
        refine a_forget_7 (a_to (ih_ (q_ - 1) (by omega) (i + 1) (by omega)) rfl rfl rfl ?_)
        have hv_ := zLayV_v σ 1 0 i
        first | rw [if_pos c_100] at hv_ | rw [if_neg c_100] at hv_
        rw [← hv_]
        show wP G ad (zLayσ σ 1 0 (i + 1)) x0 = (wP G ad (zLayσ σ 1 0 i) x0).set 20 (ad 20, .inl (zcI G, 12, .inl (upd (fun j => nI (zfilN (σ.2.1 5) i (zLayV σ 1 0) j)) i (nI (zLayV σ 1 0 i)))))
        rw [zfilN_s]
        rfl
    refine a_aload_3 (pc := 66) dX5_lay_66 ?_
    refine a_iload_6 (pc := 67) dX5_lay_67 ?_
    refine cV_P (ad := ad) (q0 := 24) (S2 := sX3_has) (c_has l G (zpk ad [24, 25]) (σ.2.2.2 0) (σ.2.2.1 0) (nI i)) kc_X3_has km_X5_217 ki_X3_has kv_X3_has kini_X3 ⟨kn_X3_has, by decide, by decide⟩ (pc := 69) dX5_lay_69 [24, 25] rfl rfl rfl rfl (Nat.le_of_ble_eq_true rfl) rfl rfl rfl ?_
    first | refine a_if_eqB (tgt := 85) (pc := 72) dX5_lay_72 (by decide) (fun c_72 => ?_) (fun c_72 => ?_) | refine a_if_eq (tgt := 85) (pc := 72) dX5_lay_72 (by decide) (fun c_72 => ?_) (fun c_72 => ?_)
    · refine a_iconst (v := 0) (pc := 85) dX5_lay_85 (by decide) ?_
      first | exact J86_ _ (if_pos c_72).symm | exact J86_ _ (if_neg c_72).symm
    · refine a_aload_3 (pc := 75) dX5_lay_75 ?_
      refine a_getfN (ci := 3) (j := 0) rfl win_X3 (by decide) (pc := 76) dX5_lay_76 kf_X5_220 rfl rfl ?_
      refine a_iload_6 (pc := 79) dX5_lay_79 ?_
      refine a_saldN (pc := 81) dX5_lay_81 rfl (by omega) (by decide) ?_
      refine a_goto (tgt := 86) (pc := 82) dX5_lay_82 (by decide) ?_
      first | exact J86_ _ (if_pos c_72).symm | exact J86_ _ (if_neg c_72).symm

set_option maxRecDepth 100000 in
set_option maxHeartbeats 4000000 in
theorem lp_lay11 (l : Launch) (G : zG) (ad : Nat → Nat) (σ : zσ) (x0 : zX) : ∀ (q i : Nat), i + q = 12 → AV l G sX5_lay (wP G ad σ x0) (zPost G ad ((if (12 : Int32) < σ.2.2.1 1 then 12 else σ.2.2.1 1).toInt64, zLayσ σ 1 1 12)) 59 [some (.ref (ad 0)), some (.int 1), some (.int 1), some (.ref (ad 26)), some (.ref (ad 20)), some (.int (zMost 1)), some (.int (nI i)), none] [] (wP G ad (zLayσ σ 1 1 i) x0) := by
  intro q_
  induction q_ using Nat.strongRecOn
  rename_i q_ ih_
  intro i hq_
  refine a_iload_6 (pc := 59) dX5_lay_59 ?_
  refine a_bipush (v := 12) (pc := 61) dX5_lay_61 (by decide) ?_
  refine a_icmp_ge (tgt := 116) (pc := 63) dX5_lay_63 (by decide) (fun c_63 => ?_) (fun c_63 => ?_)
  · obtain rfl : i = 12 := by have := (zI_le (a := 12) (b := i) (by decide) (by omega)).mp c_63; omega
    refine a_aload_3 (pc := 116) dX5_lay_116 ?_
    refine a_getfN (ci := 3) (j := 1) rfl win_X3 (by decide) (pc := 117) dX5_lay_117 kf_X5_224 rfl rfl ?_
    refine a_bipush (v := 12) (pc := 120) dX5_lay_120 (by decide) ?_
    refine a_minI (pc := 122) dX5_lay_122 km_X5_227 (by decide) (Nat.le_of_ble_eq_true rfl) ?_
    refine a_i2l (pc := 125) dX5_lay_125 ?_
    exact a_lret (pc := 126) dX5_lay_126 rfl rfl (zret' x0 rfl rfl)
  · have hi_ : i < 12 := by have := mt (zI_le (a := 12) (b := i) (by decide) (by omega)).mpr c_63; omega
    have J86_ : ∀ x_ : Int32, x_ = zLay1 σ 1 i → AV l G sX5_lay (wP G ad σ x0) (zPost G ad ((if (12 : Int32) < σ.2.2.1 1 then 12 else σ.2.2.1 1).toInt64, zLayσ σ 1 1 12)) 86 [some (.ref (ad 0)), some (.int 1), some (.int 1), some (.ref (ad 26)), some (.ref (ad 20)), some (.int (zMost 1)), some (.int (nI i)), none] [.int x_] (wP G ad (zLayσ σ 1 1 i) x0) := by
      intro x_ hx_; subst hx_
      refine a_istore_7 (pc := 86) dX5_lay_86 rfl (by decide) ?_
      refine a_aload_4 (pc := 88) dX5_lay_88 ?_
      refine a_iload_6 (pc := 90) dX5_lay_90 ?_
      refine a_iload_7 (pc := 92) dX5_lay_92 ?_
      refine a_iconst (v := 0) (pc := 94) dX5_lay_94 (by decide) ?_
      refine a_iload_5 (pc := 95) dX5_lay_95 ?_
      refine cS_P (S2 := sX5_outside) (c_outside l G _ _ _) kc_X5_outside km_X5_64 ks_X5_outside kini_X5 ⟨kn_X5_outside, by decide, by decide⟩ (pc := 97) dX5_lay_97 [] rfl rfl rfl rfl (Nat.le_of_ble_eq_true rfl) ?_
      first | refine a_if_eqB (tgt := 107) (pc := 100) dX5_lay_100 (by decide) (fun c_100 => ?_) (fun c_100 => ?_) | refine a_if_eq (tgt := 107) (pc := 100) dX5_lay_100 (by decide) (fun c_100 => ?_) (fun c_100 => ?_)
      · refine a_iload_7 (pc := 107) dX5_lay_107 ?_
        refine a_iastN (pc := 109) dX5_lay_109 rfl (by omega) (by decide) ?_
        refine a_iinc_6 (cst := 1) (pc := 110) dX5_lay_110 rfl (by decide) (by decide) ?_
        refine a_goto (tgt := 59) (pc := 113) dX5_lay_113 (by decide) ?_
        rw [← nI_succ]
        refine a_forget_7 (a_to (ih_ (q_ - 1) (by omega) (i + 1) (by omega)) rfl rfl rfl ?_)
        have hv_ := zLayV_v σ 1 1 i
        first | rw [if_pos c_100] at hv_ | rw [if_neg c_100] at hv_
        rw [← hv_]
        show wP G ad (zLayσ σ 1 1 (i + 1)) x0 = (wP G ad (zLayσ σ 1 1 i) x0).set 20 (ad 20, .inl (zcI G, 12, .inl (upd (fun j => nI (zfilN (σ.2.1 5) i (zLayV σ 1 1) j)) i (nI (zLayV σ 1 1 i)))))
        rw [zfilN_s]
        rfl
      · refine a_iconst (v := 0) (pc := 103) dX5_lay_103 (by decide) ?_
        refine a_goto (tgt := 109) (pc := 104) dX5_lay_104 (by decide) ?_
        refine a_iastN (pc := 109) dX5_lay_109 rfl (by omega) (by decide) ?_
        refine a_iinc_6 (cst := 1) (pc := 110) dX5_lay_110 rfl (by decide) (by decide) ?_
        refine a_goto (tgt := 59) (pc := 113) dX5_lay_113 (by decide) ?_
        rw [← nI_succ]
        refine a_forget_7 (a_to (ih_ (q_ - 1) (by omega) (i + 1) (by omega)) rfl rfl rfl ?_)
        have hv_ := zLayV_v σ 1 1 i
        first | rw [if_pos c_100] at hv_ | rw [if_neg c_100] at hv_
        rw [← hv_]
        show wP G ad (zLayσ σ 1 1 (i + 1)) x0 = (wP G ad (zLayσ σ 1 1 i) x0).set 20 (ad 20, .inl (zcI G, 12, .inl (upd (fun j => nI (zfilN (σ.2.1 5) i (zLayV σ 1 1) j)) i (nI (zLayV σ 1 1 i)))))
        rw [zfilN_s]
        rfl
    refine a_aload_3 (pc := 66) dX5_lay_66 ?_
    refine a_iload_6 (pc := 67) dX5_lay_67 ?_
    refine cV_P (ad := ad) (q0 := 26) (S2 := sX3_has) (c_has l G (zpk ad [26, 27]) (σ.2.2.2 1) (σ.2.2.1 1) (nI i)) kc_X3_has km_X5_217 ki_X3_has kv_X3_has kini_X3 ⟨kn_X3_has, by decide, by decide⟩ (pc := 69) dX5_lay_69 [26, 27] rfl rfl rfl rfl (Nat.le_of_ble_eq_true rfl) rfl rfl rfl ?_
    first | refine a_if_eqB (tgt := 85) (pc := 72) dX5_lay_72 (by decide) (fun c_72 => ?_) (fun c_72 => ?_) | refine a_if_eq (tgt := 85) (pc := 72) dX5_lay_72 (by decide) (fun c_72 => ?_) (fun c_72 => ?_)
    · refine a_iconst (v := 0) (pc := 85) dX5_lay_85 (by decide) ?_
      first | exact J86_ _ (if_pos c_72).symm | exact J86_ _ (if_neg c_72).symm
    · refine a_aload_3 (pc := 75) dX5_lay_75 ?_
      refine a_getfN (ci := 3) (j := 0) rfl win_X3 (by decide) (pc := 76) dX5_lay_76 kf_X5_220 rfl rfl ?_
      refine a_iload_6 (pc := 79) dX5_lay_79 ?_
      refine a_saldN (pc := 81) dX5_lay_81 rfl (by omega) (by decide) ?_
      refine a_goto (tgt := 86) (pc := 82) dX5_lay_82 (by decide) ?_
      first | exact J86_ _ (if_pos c_72).symm | exact J86_ _ (if_neg c_72).symm

set_option maxRecDepth 100000 in
set_option maxHeartbeats 4000000 in
theorem p_lay (l : Launch) (G : zG) (ad : Nat → Nat) (σ : zσ) (x0 : zX) (hσ : zOk σ) (w : Int32) (s : Int32) : zSem l G sX5_lay [.ref (ad 0), .int w, .int s] (wP G ad σ x0) (zPost G ad (o_lay σ w s)) := by
  refine zEnterV (L := [some (.ref (ad 0)), some (.int w), some (.int s), none, none, none, none, none]) (by decide) rfl (Nat.le_of_ble_eq_true rfl) rfl ?_
  refine a_iload_1 (pc := 0) dX5_lay_0 ?_
  refine a_iconst (v := 0) (pc := 1) dX5_lay_1 (by decide) ?_
  refine a_iconst (v := 1) (pc := 2) dX5_lay_2 (by decide) ?_
  refine cS_P (S2 := sX5_outside) (c_outside l G _ _ _) kc_X5_outside km_X5_64 ks_X5_outside kini_X5 ⟨kn_X5_outside, by decide, by decide⟩ (pc := 3) dX5_lay_3 [] rfl rfl rfl rfl (Nat.le_of_ble_eq_true rfl) ?_
  first | refine a_if_neB (tgt := 18) (pc := 6) dX5_lay_6 (by decide) (fun c_6 => ?_) (fun c_6 => ?_) | refine a_if_ne (tgt := 18) (pc := 6) dX5_lay_6 (by decide) (fun c_6 => ?_) (fun c_6 => ?_)
  · refine a_ldc2 (pc := 18) dX5_lay_18 kl_X5_68 ?_
    exact a_lret (pc := 21) dX5_lay_21 rfl rfl (by first | exact zret' x0 (if_pos (Or.inl c_6)) rfl | exact zret' x0 (if_pos (Or.inr c_15)) rfl)
  · refine a_iload_2 (pc := 9) dX5_lay_9 ?_
    refine a_iconst (v := 0) (pc := 10) dX5_lay_10 (by decide) ?_
    refine a_iconst (v := 1) (pc := 11) dX5_lay_11 (by decide) ?_
    refine cS_P (S2 := sX5_outside) (c_outside l G _ _ _) kc_X5_outside km_X5_64 ks_X5_outside kini_X5 ⟨kn_X5_outside, by decide, by decide⟩ (pc := 12) dX5_lay_12 [] rfl rfl rfl rfl (Nat.le_of_ble_eq_true rfl) ?_
    first | refine a_if_eqB (tgt := 22) (pc := 15) dX5_lay_15 (by decide) (fun c_15 => ?_) (fun c_15 => ?_) | refine a_if_eq (tgt := 22) (pc := 15) dX5_lay_15 (by decide) (fun c_15 => ?_) (fun c_15 => ?_)
    · rcases zrange2 c_6 with rfl | rfl <;> rcases zrange2 c_15 with rfl | rfl
      · refine a_aload_0 (pc := 22) dX5_lay_22 ?_
        refine a_getf (ci := 5) (j := 6) rfl win_X5 (by decide) (pc := 23) dX5_lay_23 kf_X5_47 rfl rfl ?_
        refine a_iload_2 (pc := 26) dX5_lay_26 ?_
        refine a_aaldN (k := 0) (pc := 27) dX5_lay_27 rfl (by decide) (by decide) rfl ?_
        refine a_astore_3 (pc := 28) dX5_lay_28 rfl (by decide) ?_
        refine a_aload_3 (pc := 29) dX5_lay_29 ?_
        first
          | refine cV_P (ad := ad) (q0 := 24) (S2 := sX3_isMissing) (c_isMissing l G (zpk ad [24, 25]) (σ.2.2.2 0) (σ.2.2.1 0)) kc_X3_isMissing km_X5_211 ki_X3_isMissing kv_X3_isMissing kini_X3 ⟨kn_X3_isMissing, by decide, by decide⟩ (pc := 30) dX5_lay_30 [24, 25] rfl rfl rfl rfl (Nat.le_of_ble_eq_true rfl) rfl rfl rfl ?_
          | refine cV_P (ad := ad) (q0 := 26) (S2 := sX3_isMissing) (c_isMissing l G (zpk ad [26, 27]) (σ.2.2.2 1) (σ.2.2.1 1)) kc_X3_isMissing km_X5_211 ki_X3_isMissing kv_X3_isMissing kini_X3 ⟨kn_X3_isMissing, by decide, by decide⟩ (pc := 30) dX5_lay_30 [26, 27] rfl rfl rfl rfl (Nat.le_of_ble_eq_true rfl) rfl rfl rfl ?_
        first | refine a_if_eqB (tgt := 40) (pc := 33) dX5_lay_33 (by decide) (fun c_33 => ?_) (fun c_33 => ?_) | refine a_if_eq (tgt := 40) (pc := 33) dX5_lay_33 (by decide) (fun c_33 => ?_) (fun c_33 => ?_)
        · refine a_aload_0 (pc := 40) dX5_lay_40 ?_
          refine a_getf (ci := 5) (j := 5) rfl win_X5 (by decide) (pc := 41) dX5_lay_41 kf_X5_40 rfl rfl ?_
          refine a_iload_1 (pc := 44) dX5_lay_44 ?_
          first
            | refine cV_P (ad := ad) (q0 := 18) (S2 := sX1_rowOf) (c_rowOf0 l G (zpk ad [18, 19, 20, 21, 22]) (fun k => nI (σ.2.1 4 k)) (fun k => nI (σ.2.1 5 k)) x0.2.2.2.2.2.2.1 x0.2.2.2.2.2.2.2 0 rfl) kc_X1_rowOf km_X5_207 ki_X1_rowOf kv_X1_rowOf kini_X1 ⟨kn_X1_rowOf, by decide, by decide⟩ (pc := 45) dX5_lay_45 [18, 19, 20, 21, 22] rfl rfl rfl rfl (Nat.le_of_ble_eq_true rfl) rfl rfl rfl ?_
            | refine cV_P (ad := ad) (q0 := 18) (S2 := sX1_rowOf) (c_rowOf1 l G (zpk ad [18, 19, 20, 21, 22]) (fun k => nI (σ.2.1 4 k)) (fun k => nI (σ.2.1 5 k)) x0.2.2.2.2.2.2.1 x0.2.2.2.2.2.2.2 1 (by decide)) kc_X1_rowOf km_X5_207 ki_X1_rowOf kv_X1_rowOf kini_X1 ⟨kn_X1_rowOf, by decide, by decide⟩ (pc := 45) dX5_lay_45 [18, 19, 20, 21, 22] rfl rfl rfl rfl (Nat.le_of_ble_eq_true rfl) rfl rfl rfl ?_
          simp only [zpk, List.getD_cons_succ, List.getD_cons_zero]
          refine a_astore_4 (pc := 48) dX5_lay_48 rfl (by decide) ?_
          refine a_iload_1 (pc := 50) dX5_lay_50 ?_
          refine cS_P (S2 := sX1_mostOf) (c_mostOf l G _) kc_X1_mostOf km_X5_204 ks_X1_mostOf kini_X1 ⟨kn_X1_mostOf, by decide, by decide⟩ (pc := 51) dX5_lay_51 [] rfl rfl rfl rfl (Nat.le_of_ble_eq_true rfl) ?_
          refine a_istore_5 (pc := 54) dX5_lay_54 rfl (by decide) ?_
          refine a_iconst (v := 0) (pc := 56) dX5_lay_56 (by decide) ?_
          refine a_istore_6 (pc := 57) dX5_lay_57 rfl (by decide) ?_
          first
            | (have e_ : o_lay σ 0 0 = ((if (12 : Int32) < σ.2.2.1 0 then 12 else σ.2.2.1 0).toInt64, zLayσ σ 0 0 12) := by
                 unfold o_lay
                 rw [if_neg (fun h => h.elim c_6 c_15)]
                 exact if_neg c_33
               rw [e_]
               exact a_to (lp_lay00 l G ad σ x0 12 0 (by omega)) rfl rfl rfl (by unfold zLayσ; rw [zfilN_0, zu2_self]))
            | (have e_ : o_lay σ 0 1 = ((if (12 : Int32) < σ.2.2.1 1 then 12 else σ.2.2.1 1).toInt64, zLayσ σ 0 1 12) := by
                 unfold o_lay
                 rw [if_neg (fun h => h.elim c_6 c_15)]
                 exact if_neg c_33
               rw [e_]
               exact a_to (lp_lay01 l G ad σ x0 12 0 (by omega)) rfl rfl rfl (by unfold zLayσ; rw [zfilN_0, zu2_self]))
            | (have e_ : o_lay σ 1 0 = ((if (12 : Int32) < σ.2.2.1 0 then 12 else σ.2.2.1 0).toInt64, zLayσ σ 1 0 12) := by
                 unfold o_lay
                 rw [if_neg (fun h => h.elim c_6 c_15)]
                 exact if_neg c_33
               rw [e_]
               exact a_to (lp_lay10 l G ad σ x0 12 0 (by omega)) rfl rfl rfl (by unfold zLayσ; rw [zfilN_0, zu2_self]))
            | (have e_ : o_lay σ 1 1 = ((if (12 : Int32) < σ.2.2.1 1 then 12 else σ.2.2.1 1).toInt64, zLayσ σ 1 1 12) := by
                 unfold o_lay
                 rw [if_neg (fun h => h.elim c_6 c_15)]
                 exact if_neg c_33
               rw [e_]
               exact a_to (lp_lay11 l G ad σ x0 12 0 (by omega)) rfl rfl rfl (by unfold zLayσ; rw [zfilN_0, zu2_self]))
        · refine a_ldc2 (pc := 36) dX5_lay_36 kl_X5_215 ?_
          exact a_lret (pc := 39) dX5_lay_39 rfl rfl (zret' x0 (by unfold o_lay; rw [if_neg (fun h => h.elim c_6 c_15)]; exact if_pos c_33) rfl)
      · refine a_aload_0 (pc := 22) dX5_lay_22 ?_
        refine a_getf (ci := 5) (j := 6) rfl win_X5 (by decide) (pc := 23) dX5_lay_23 kf_X5_47 rfl rfl ?_
        refine a_iload_2 (pc := 26) dX5_lay_26 ?_
        refine a_aaldN (k := 1) (pc := 27) dX5_lay_27 rfl (by decide) (by decide) rfl ?_
        refine a_astore_3 (pc := 28) dX5_lay_28 rfl (by decide) ?_
        refine a_aload_3 (pc := 29) dX5_lay_29 ?_
        first
          | refine cV_P (ad := ad) (q0 := 24) (S2 := sX3_isMissing) (c_isMissing l G (zpk ad [24, 25]) (σ.2.2.2 0) (σ.2.2.1 0)) kc_X3_isMissing km_X5_211 ki_X3_isMissing kv_X3_isMissing kini_X3 ⟨kn_X3_isMissing, by decide, by decide⟩ (pc := 30) dX5_lay_30 [24, 25] rfl rfl rfl rfl (Nat.le_of_ble_eq_true rfl) rfl rfl rfl ?_
          | refine cV_P (ad := ad) (q0 := 26) (S2 := sX3_isMissing) (c_isMissing l G (zpk ad [26, 27]) (σ.2.2.2 1) (σ.2.2.1 1)) kc_X3_isMissing km_X5_211 ki_X3_isMissing kv_X3_isMissing kini_X3 ⟨kn_X3_isMissing, by decide, by decide⟩ (pc := 30) dX5_lay_30 [26, 27] rfl rfl rfl rfl (Nat.le_of_ble_eq_true rfl) rfl rfl rfl ?_
        first | refine a_if_eqB (tgt := 40) (pc := 33) dX5_lay_33 (by decide) (fun c_33 => ?_) (fun c_33 => ?_) | refine a_if_eq (tgt := 40) (pc := 33) dX5_lay_33 (by decide) (fun c_33 => ?_) (fun c_33 => ?_)
        · refine a_aload_0 (pc := 40) dX5_lay_40 ?_
          refine a_getf (ci := 5) (j := 5) rfl win_X5 (by decide) (pc := 41) dX5_lay_41 kf_X5_40 rfl rfl ?_
          refine a_iload_1 (pc := 44) dX5_lay_44 ?_
          first
            | refine cV_P (ad := ad) (q0 := 18) (S2 := sX1_rowOf) (c_rowOf0 l G (zpk ad [18, 19, 20, 21, 22]) (fun k => nI (σ.2.1 4 k)) (fun k => nI (σ.2.1 5 k)) x0.2.2.2.2.2.2.1 x0.2.2.2.2.2.2.2 0 rfl) kc_X1_rowOf km_X5_207 ki_X1_rowOf kv_X1_rowOf kini_X1 ⟨kn_X1_rowOf, by decide, by decide⟩ (pc := 45) dX5_lay_45 [18, 19, 20, 21, 22] rfl rfl rfl rfl (Nat.le_of_ble_eq_true rfl) rfl rfl rfl ?_
            | refine cV_P (ad := ad) (q0 := 18) (S2 := sX1_rowOf) (c_rowOf1 l G (zpk ad [18, 19, 20, 21, 22]) (fun k => nI (σ.2.1 4 k)) (fun k => nI (σ.2.1 5 k)) x0.2.2.2.2.2.2.1 x0.2.2.2.2.2.2.2 1 (by decide)) kc_X1_rowOf km_X5_207 ki_X1_rowOf kv_X1_rowOf kini_X1 ⟨kn_X1_rowOf, by decide, by decide⟩ (pc := 45) dX5_lay_45 [18, 19, 20, 21, 22] rfl rfl rfl rfl (Nat.le_of_ble_eq_true rfl) rfl rfl rfl ?_
          simp only [zpk, List.getD_cons_succ, List.getD_cons_zero]
          refine a_astore_4 (pc := 48) dX5_lay_48 rfl (by decide) ?_
          refine a_iload_1 (pc := 50) dX5_lay_50 ?_
          refine cS_P (S2 := sX1_mostOf) (c_mostOf l G _) kc_X1_mostOf km_X5_204 ks_X1_mostOf kini_X1 ⟨kn_X1_mostOf, by decide, by decide⟩ (pc := 51) dX5_lay_51 [] rfl rfl rfl rfl (Nat.le_of_ble_eq_true rfl) ?_
          refine a_istore_5 (pc := 54) dX5_lay_54 rfl (by decide) ?_
          refine a_iconst (v := 0) (pc := 56) dX5_lay_56 (by decide) ?_
          refine a_istore_6 (pc := 57) dX5_lay_57 rfl (by decide) ?_
          first
            | (have e_ : o_lay σ 0 0 = ((if (12 : Int32) < σ.2.2.1 0 then 12 else σ.2.2.1 0).toInt64, zLayσ σ 0 0 12) := by
                 unfold o_lay
                 rw [if_neg (fun h => h.elim c_6 c_15)]
                 exact if_neg c_33
               rw [e_]
               exact a_to (lp_lay00 l G ad σ x0 12 0 (by omega)) rfl rfl rfl (by unfold zLayσ; rw [zfilN_0, zu2_self]))
            | (have e_ : o_lay σ 0 1 = ((if (12 : Int32) < σ.2.2.1 1 then 12 else σ.2.2.1 1).toInt64, zLayσ σ 0 1 12) := by
                 unfold o_lay
                 rw [if_neg (fun h => h.elim c_6 c_15)]
                 exact if_neg c_33
               rw [e_]
               exact a_to (lp_lay01 l G ad σ x0 12 0 (by omega)) rfl rfl rfl (by unfold zLayσ; rw [zfilN_0, zu2_self]))
            | (have e_ : o_lay σ 1 0 = ((if (12 : Int32) < σ.2.2.1 0 then 12 else σ.2.2.1 0).toInt64, zLayσ σ 1 0 12) := by
                 unfold o_lay
                 rw [if_neg (fun h => h.elim c_6 c_15)]
                 exact if_neg c_33
               rw [e_]
               exact a_to (lp_lay10 l G ad σ x0 12 0 (by omega)) rfl rfl rfl (by unfold zLayσ; rw [zfilN_0, zu2_self]))
            | (have e_ : o_lay σ 1 1 = ((if (12 : Int32) < σ.2.2.1 1 then 12 else σ.2.2.1 1).toInt64, zLayσ σ 1 1 12) := by
                 unfold o_lay
                 rw [if_neg (fun h => h.elim c_6 c_15)]
                 exact if_neg c_33
               rw [e_]
               exact a_to (lp_lay11 l G ad σ x0 12 0 (by omega)) rfl rfl rfl (by unfold zLayσ; rw [zfilN_0, zu2_self]))
        · refine a_ldc2 (pc := 36) dX5_lay_36 kl_X5_215 ?_
          exact a_lret (pc := 39) dX5_lay_39 rfl rfl (zret' x0 (by unfold o_lay; rw [if_neg (fun h => h.elim c_6 c_15)]; exact if_pos c_33) rfl)
      · refine a_aload_0 (pc := 22) dX5_lay_22 ?_
        refine a_getf (ci := 5) (j := 6) rfl win_X5 (by decide) (pc := 23) dX5_lay_23 kf_X5_47 rfl rfl ?_
        refine a_iload_2 (pc := 26) dX5_lay_26 ?_
        refine a_aaldN (k := 0) (pc := 27) dX5_lay_27 rfl (by decide) (by decide) rfl ?_
        refine a_astore_3 (pc := 28) dX5_lay_28 rfl (by decide) ?_
        refine a_aload_3 (pc := 29) dX5_lay_29 ?_
        first
          | refine cV_P (ad := ad) (q0 := 24) (S2 := sX3_isMissing) (c_isMissing l G (zpk ad [24, 25]) (σ.2.2.2 0) (σ.2.2.1 0)) kc_X3_isMissing km_X5_211 ki_X3_isMissing kv_X3_isMissing kini_X3 ⟨kn_X3_isMissing, by decide, by decide⟩ (pc := 30) dX5_lay_30 [24, 25] rfl rfl rfl rfl (Nat.le_of_ble_eq_true rfl) rfl rfl rfl ?_
          | refine cV_P (ad := ad) (q0 := 26) (S2 := sX3_isMissing) (c_isMissing l G (zpk ad [26, 27]) (σ.2.2.2 1) (σ.2.2.1 1)) kc_X3_isMissing km_X5_211 ki_X3_isMissing kv_X3_isMissing kini_X3 ⟨kn_X3_isMissing, by decide, by decide⟩ (pc := 30) dX5_lay_30 [26, 27] rfl rfl rfl rfl (Nat.le_of_ble_eq_true rfl) rfl rfl rfl ?_
        first | refine a_if_eqB (tgt := 40) (pc := 33) dX5_lay_33 (by decide) (fun c_33 => ?_) (fun c_33 => ?_) | refine a_if_eq (tgt := 40) (pc := 33) dX5_lay_33 (by decide) (fun c_33 => ?_) (fun c_33 => ?_)
        · refine a_aload_0 (pc := 40) dX5_lay_40 ?_
          refine a_getf (ci := 5) (j := 5) rfl win_X5 (by decide) (pc := 41) dX5_lay_41 kf_X5_40 rfl rfl ?_
          refine a_iload_1 (pc := 44) dX5_lay_44 ?_
          first
            | refine cV_P (ad := ad) (q0 := 18) (S2 := sX1_rowOf) (c_rowOf0 l G (zpk ad [18, 19, 20, 21, 22]) (fun k => nI (σ.2.1 4 k)) (fun k => nI (σ.2.1 5 k)) x0.2.2.2.2.2.2.1 x0.2.2.2.2.2.2.2 0 rfl) kc_X1_rowOf km_X5_207 ki_X1_rowOf kv_X1_rowOf kini_X1 ⟨kn_X1_rowOf, by decide, by decide⟩ (pc := 45) dX5_lay_45 [18, 19, 20, 21, 22] rfl rfl rfl rfl (Nat.le_of_ble_eq_true rfl) rfl rfl rfl ?_
            | refine cV_P (ad := ad) (q0 := 18) (S2 := sX1_rowOf) (c_rowOf1 l G (zpk ad [18, 19, 20, 21, 22]) (fun k => nI (σ.2.1 4 k)) (fun k => nI (σ.2.1 5 k)) x0.2.2.2.2.2.2.1 x0.2.2.2.2.2.2.2 1 (by decide)) kc_X1_rowOf km_X5_207 ki_X1_rowOf kv_X1_rowOf kini_X1 ⟨kn_X1_rowOf, by decide, by decide⟩ (pc := 45) dX5_lay_45 [18, 19, 20, 21, 22] rfl rfl rfl rfl (Nat.le_of_ble_eq_true rfl) rfl rfl rfl ?_
          simp only [zpk, List.getD_cons_succ, List.getD_cons_zero]
          refine a_astore_4 (pc := 48) dX5_lay_48 rfl (by decide) ?_
          refine a_iload_1 (pc := 50) dX5_lay_50 ?_
          refine cS_P (S2 := sX1_mostOf) (c_mostOf l G _) kc_X1_mostOf km_X5_204 ks_X1_mostOf kini_X1 ⟨kn_X1_mostOf, by decide, by decide⟩ (pc := 51) dX5_lay_51 [] rfl rfl rfl rfl (Nat.le_of_ble_eq_true rfl) ?_
          refine a_istore_5 (pc := 54) dX5_lay_54 rfl (by decide) ?_
          refine a_iconst (v := 0) (pc := 56) dX5_lay_56 (by decide) ?_
          refine a_istore_6 (pc := 57) dX5_lay_57 rfl (by decide) ?_
          first
            | (have e_ : o_lay σ 0 0 = ((if (12 : Int32) < σ.2.2.1 0 then 12 else σ.2.2.1 0).toInt64, zLayσ σ 0 0 12) := by
                 unfold o_lay
                 rw [if_neg (fun h => h.elim c_6 c_15)]
                 exact if_neg c_33
               rw [e_]
               exact a_to (lp_lay00 l G ad σ x0 12 0 (by omega)) rfl rfl rfl (by unfold zLayσ; rw [zfilN_0, zu2_self]))
            | (have e_ : o_lay σ 0 1 = ((if (12 : Int32) < σ.2.2.1 1 then 12 else σ.2.2.1 1).toInt64, zLayσ σ 0 1 12) := by
                 unfold o_lay
                 rw [if_neg (fun h => h.elim c_6 c_15)]
                 exact if_neg c_33
               rw [e_]
               exact a_to (lp_lay01 l G ad σ x0 12 0 (by omega)) rfl rfl rfl (by unfold zLayσ; rw [zfilN_0, zu2_self]))
            | (have e_ : o_lay σ 1 0 = ((if (12 : Int32) < σ.2.2.1 0 then 12 else σ.2.2.1 0).toInt64, zLayσ σ 1 0 12) := by
                 unfold o_lay
                 rw [if_neg (fun h => h.elim c_6 c_15)]
                 exact if_neg c_33
               rw [e_]
               exact a_to (lp_lay10 l G ad σ x0 12 0 (by omega)) rfl rfl rfl (by unfold zLayσ; rw [zfilN_0, zu2_self]))
            | (have e_ : o_lay σ 1 1 = ((if (12 : Int32) < σ.2.2.1 1 then 12 else σ.2.2.1 1).toInt64, zLayσ σ 1 1 12) := by
                 unfold o_lay
                 rw [if_neg (fun h => h.elim c_6 c_15)]
                 exact if_neg c_33
               rw [e_]
               exact a_to (lp_lay11 l G ad σ x0 12 0 (by omega)) rfl rfl rfl (by unfold zLayσ; rw [zfilN_0, zu2_self]))
        · refine a_ldc2 (pc := 36) dX5_lay_36 kl_X5_215 ?_
          exact a_lret (pc := 39) dX5_lay_39 rfl rfl (zret' x0 (by unfold o_lay; rw [if_neg (fun h => h.elim c_6 c_15)]; exact if_pos c_33) rfl)
      · refine a_aload_0 (pc := 22) dX5_lay_22 ?_
        refine a_getf (ci := 5) (j := 6) rfl win_X5 (by decide) (pc := 23) dX5_lay_23 kf_X5_47 rfl rfl ?_
        refine a_iload_2 (pc := 26) dX5_lay_26 ?_
        refine a_aaldN (k := 1) (pc := 27) dX5_lay_27 rfl (by decide) (by decide) rfl ?_
        refine a_astore_3 (pc := 28) dX5_lay_28 rfl (by decide) ?_
        refine a_aload_3 (pc := 29) dX5_lay_29 ?_
        first
          | refine cV_P (ad := ad) (q0 := 24) (S2 := sX3_isMissing) (c_isMissing l G (zpk ad [24, 25]) (σ.2.2.2 0) (σ.2.2.1 0)) kc_X3_isMissing km_X5_211 ki_X3_isMissing kv_X3_isMissing kini_X3 ⟨kn_X3_isMissing, by decide, by decide⟩ (pc := 30) dX5_lay_30 [24, 25] rfl rfl rfl rfl (Nat.le_of_ble_eq_true rfl) rfl rfl rfl ?_
          | refine cV_P (ad := ad) (q0 := 26) (S2 := sX3_isMissing) (c_isMissing l G (zpk ad [26, 27]) (σ.2.2.2 1) (σ.2.2.1 1)) kc_X3_isMissing km_X5_211 ki_X3_isMissing kv_X3_isMissing kini_X3 ⟨kn_X3_isMissing, by decide, by decide⟩ (pc := 30) dX5_lay_30 [26, 27] rfl rfl rfl rfl (Nat.le_of_ble_eq_true rfl) rfl rfl rfl ?_
        first | refine a_if_eqB (tgt := 40) (pc := 33) dX5_lay_33 (by decide) (fun c_33 => ?_) (fun c_33 => ?_) | refine a_if_eq (tgt := 40) (pc := 33) dX5_lay_33 (by decide) (fun c_33 => ?_) (fun c_33 => ?_)
        · refine a_aload_0 (pc := 40) dX5_lay_40 ?_
          refine a_getf (ci := 5) (j := 5) rfl win_X5 (by decide) (pc := 41) dX5_lay_41 kf_X5_40 rfl rfl ?_
          refine a_iload_1 (pc := 44) dX5_lay_44 ?_
          first
            | refine cV_P (ad := ad) (q0 := 18) (S2 := sX1_rowOf) (c_rowOf0 l G (zpk ad [18, 19, 20, 21, 22]) (fun k => nI (σ.2.1 4 k)) (fun k => nI (σ.2.1 5 k)) x0.2.2.2.2.2.2.1 x0.2.2.2.2.2.2.2 0 rfl) kc_X1_rowOf km_X5_207 ki_X1_rowOf kv_X1_rowOf kini_X1 ⟨kn_X1_rowOf, by decide, by decide⟩ (pc := 45) dX5_lay_45 [18, 19, 20, 21, 22] rfl rfl rfl rfl (Nat.le_of_ble_eq_true rfl) rfl rfl rfl ?_
            | refine cV_P (ad := ad) (q0 := 18) (S2 := sX1_rowOf) (c_rowOf1 l G (zpk ad [18, 19, 20, 21, 22]) (fun k => nI (σ.2.1 4 k)) (fun k => nI (σ.2.1 5 k)) x0.2.2.2.2.2.2.1 x0.2.2.2.2.2.2.2 1 (by decide)) kc_X1_rowOf km_X5_207 ki_X1_rowOf kv_X1_rowOf kini_X1 ⟨kn_X1_rowOf, by decide, by decide⟩ (pc := 45) dX5_lay_45 [18, 19, 20, 21, 22] rfl rfl rfl rfl (Nat.le_of_ble_eq_true rfl) rfl rfl rfl ?_
          simp only [zpk, List.getD_cons_succ, List.getD_cons_zero]
          refine a_astore_4 (pc := 48) dX5_lay_48 rfl (by decide) ?_
          refine a_iload_1 (pc := 50) dX5_lay_50 ?_
          refine cS_P (S2 := sX1_mostOf) (c_mostOf l G _) kc_X1_mostOf km_X5_204 ks_X1_mostOf kini_X1 ⟨kn_X1_mostOf, by decide, by decide⟩ (pc := 51) dX5_lay_51 [] rfl rfl rfl rfl (Nat.le_of_ble_eq_true rfl) ?_
          refine a_istore_5 (pc := 54) dX5_lay_54 rfl (by decide) ?_
          refine a_iconst (v := 0) (pc := 56) dX5_lay_56 (by decide) ?_
          refine a_istore_6 (pc := 57) dX5_lay_57 rfl (by decide) ?_
          first
            | (have e_ : o_lay σ 0 0 = ((if (12 : Int32) < σ.2.2.1 0 then 12 else σ.2.2.1 0).toInt64, zLayσ σ 0 0 12) := by
                 unfold o_lay
                 rw [if_neg (fun h => h.elim c_6 c_15)]
                 exact if_neg c_33
               rw [e_]
               exact a_to (lp_lay00 l G ad σ x0 12 0 (by omega)) rfl rfl rfl (by unfold zLayσ; rw [zfilN_0, zu2_self]))
            | (have e_ : o_lay σ 0 1 = ((if (12 : Int32) < σ.2.2.1 1 then 12 else σ.2.2.1 1).toInt64, zLayσ σ 0 1 12) := by
                 unfold o_lay
                 rw [if_neg (fun h => h.elim c_6 c_15)]
                 exact if_neg c_33
               rw [e_]
               exact a_to (lp_lay01 l G ad σ x0 12 0 (by omega)) rfl rfl rfl (by unfold zLayσ; rw [zfilN_0, zu2_self]))
            | (have e_ : o_lay σ 1 0 = ((if (12 : Int32) < σ.2.2.1 0 then 12 else σ.2.2.1 0).toInt64, zLayσ σ 1 0 12) := by
                 unfold o_lay
                 rw [if_neg (fun h => h.elim c_6 c_15)]
                 exact if_neg c_33
               rw [e_]
               exact a_to (lp_lay10 l G ad σ x0 12 0 (by omega)) rfl rfl rfl (by unfold zLayσ; rw [zfilN_0, zu2_self]))
            | (have e_ : o_lay σ 1 1 = ((if (12 : Int32) < σ.2.2.1 1 then 12 else σ.2.2.1 1).toInt64, zLayσ σ 1 1 12) := by
                 unfold o_lay
                 rw [if_neg (fun h => h.elim c_6 c_15)]
                 exact if_neg c_33
               rw [e_]
               exact a_to (lp_lay11 l G ad σ x0 12 0 (by omega)) rfl rfl rfl (by unfold zLayσ; rw [zfilN_0, zu2_self]))
        · refine a_ldc2 (pc := 36) dX5_lay_36 kl_X5_215 ?_
          exact a_lret (pc := 39) dX5_lay_39 rfl rfl (zret' x0 (by unfold o_lay; rw [if_neg (fun h => h.elim c_6 c_15)]; exact if_pos c_33) rfl)
    · refine a_ldc2 (pc := 18) dX5_lay_18 kl_X5_68 ?_
      exact a_lret (pc := 21) dX5_lay_21 rfl rfl (by first | exact zret' x0 (if_pos (Or.inl c_6)) rfl | exact zret' x0 (if_pos (Or.inr c_15)) rfl)
end
section
/-! The plant: joint. -/
def zJp (x : Int32) : Option Nat := if zOR x 0 30 then none else zPl (10 * x)
theorem zJp_6 {x : Int32} {k : Nat} (h : zJp x = some k) : k < 72 ∧ k % 6 = 0 := by
  unfold zJp at h
  split at h
  · cases h
  · rename_i hr
    obtain ⟨n, hn, rfl⟩ := zrange (n := 30) (by decide) rfl hr
    refine ⟨zPl_lt h, ?_⟩
    rw [show (10 : Int32) = nI 10 from rfl, ← zI_mul] at h
    unfold zPl at h
    rw [nI_toInt (by omega)] at h
    split at h
    · have := Option.some.inj h
      omega
    · cases h
theorem zH_next {σ : zσ} (hσ : zOk σ) {k i : Nat} (hk : k < 72) (h6 : k % 6 = 0) (hi : i < σ.1 0) (h : zHσ σ k) : k + i < 72 ∧ zHσ σ (k + i) := by
  have hn := hσ.1.2
  have e := (zHd_N hσ.2.2.2.2.2.1 hσ.1.2 hk).mp h
  have hk2 : k + i < 72 := by omega
  refine ⟨hk2, (zHd_N hσ.2.2.2.2.2.1 hσ.1.2 hk2).mpr ⟨by omega, ?_⟩⟩
  rw [show (k + i) % 24 / 6 = k % 24 / 6 by omega, show (k + i) / 24 = k / 24 by omega]
  exact e.2
def zJo (σ : zσ) (s k : Nat) (off : Int32) : Nat → Nat → Int64
  | 0, _ => zNONE
  | q + 1, i => if zHas σ s (nI i) then (if (σ.2.2.2 s i).toInt64 - zCell σ 4 (k + i) ≤ off.toInt64 then zJo σ s k off q (i + 1) else (nI i).toInt64) else zNONE
def o_joint (σ : zσ) (x s off : Int32) : Int64 × zσ := (if zJp x = none ∨ zOR s 0 1 ∨ zOR off 0 9999 then zBAD else if ¬ zHσ σ ((zJp x).getD 0) then zNO else if σ.2.2.1 s.toNatClampNeg = -1 then zNOTH else zJo σ s.toNatClampNeg ((zJp x).getD 0) off (σ.1 0) 0, σ)
set_option maxRecDepth 100000 in
set_option maxHeartbeats 4000000 in
theorem lp_joint0 (l : Launch) (G : zG) (ad : Nat → Nat) (σ : zσ) (hσ : zOk σ) (x0 u : zX) (hu : zFlow σ (nI (σ.1 3)) (zMs σ) u) (x off : Int32) (k : Nat) (hk : k < 72) (h6 : k % 6 = 0) (hH : zHσ σ k) (r : Int64) : ∀ (q i : Nat), i + q = σ.1 0 → zJo σ 0 k off q i = r → AV l G sX5_joint (wP G ad σ x0) (zPost G ad (r, σ)) 95 [some (.ref (ad 0)), some (.int x), some (.int 0), some (.int off), some (.int (nI k)), some (.ref (ad 24)), some (.int (nI i))] [] (wP G ad σ u) := by
  have hn_ := hσ.1.2
  intro q_
  induction q_ using Nat.strongRecOn
  rename_i q_ ih_
  intro i hq_ hz_
  refine a_iload_6 (pc := 95) dX5_joint_95 ?_
  refine a_aload_0 (pc := 97) dX5_joint_97 ?_
  refine a_getf (ci := 5) (j := 1) rfl win_X5 (by decide) (pc := 98) dX5_joint_98 kf_X5_16 rfl rfl ?_
  refine a_getfN (ci := 2) (j := 1) rfl win_X2 (by decide) (pc := 101) dX5_joint_101 kf_X5_73 rfl rfl ?_
  refine a_icmp_ge (tgt := 156) (pc := 104) dX5_joint_104 (by decide) (fun c_104 => ?_) (fun c_104 => ?_)
  · obtain rfl : q_ = 0 := by have := (zI_le (by omega) (by omega)).mp c_104; omega
    refine a_ldc2 (pc := 156) dX5_joint_156 kl_X5_170 ?_
    exact a_lret (pc := 159) dX5_joint_159 rfl rfl (zret' u (by rw [← hz_] <;> rfl) rfl)
  · have hi_ : i < σ.1 0 := by have := mt (zI_le (a := σ.1 0) (b := i) (by omega) (by omega)).mpr c_104; omega
    obtain ⟨q2_, rfl⟩ : ∃ z, q_ = z + 1 := ⟨q_ - 1, by omega⟩
    have hnx_ := zH_next hσ hk h6 hi_ hH
    unfold zJo at hz_
    refine a_aload_5 (pc := 107) dX5_joint_107 ?_
    refine a_iload_6 (pc := 109) dX5_joint_109 ?_
    refine cV_P (ad := ad) (q0 := 24) (S2 := sX3_has) (c_has l G (zpk ad [24, 25]) (σ.2.2.2 0) (σ.2.2.1 0) (nI i)) kc_X3_has km_X5_217 ki_X3_has kv_X3_has kini_X3 ⟨kn_X3_has, by decide, by decide⟩ (pc := 111) dX5_joint_111 [24, 25] rfl rfl rfl rfl (Nat.le_of_ble_eq_true rfl) rfl rfl rfl ?_
    first | refine a_if_eqB (tgt := 156) (pc := 114) dX5_joint_114 (by decide) (fun c_114 => ?_) (fun c_114 => ?_) | refine a_if_eq (tgt := 156) (pc := 114) dX5_joint_114 (by decide) (fun c_114 => ?_) (fun c_114 => ?_)
    · rw [if_neg c_114] at hz_
      refine a_ldc2 (pc := 156) dX5_joint_156 kl_X5_170 ?_
      exact a_lret (pc := 159) dX5_joint_159 rfl rfl (zret' u (by rw [← hz_] <;> rfl) rfl)
    · rw [if_pos c_114] at hz_
      refine a_aload_5 (pc := 117) dX5_joint_117 ?_
      refine a_getfN (ci := 3) (j := 0) rfl win_X3 (by decide) (pc := 119) dX5_joint_119 kf_X5_220 rfl rfl ?_
      refine a_iload_6 (pc := 122) dX5_joint_122 ?_
      refine a_saldN (pc := 124) dX5_joint_124 rfl (by omega) (by decide) ?_
      refine a_i2l (pc := 125) dX5_joint_125 ?_
      refine a_aload_0 (pc := 126) dX5_joint_126 ?_
      refine a_getf (ci := 5) (j := 4) rfl win_X5 (by decide) (pc := 127) dX5_joint_127 kf_X5_33 rfl rfl ?_
      refine a_getfN (ci := 0) (j := 6) rfl win_X0 (by decide) (pc := 130) dX5_joint_130 kf_X5_251 rfl rfl ?_
      refine a_iload_4 (pc := 133) dX5_joint_133 ?_
      refine a_iload_6 (pc := 135) dX5_joint_135 ?_
      refine a_iadd (pc := 137) dX5_joint_137 ?_
      rw [← zI_add]
      refine a_laldN (pc := 138) dX5_joint_138 rfl hnx_.1 (by decide) ?_
      rw [zFlow_at hσ hu hnx_.1 hnx_.2 (a := 4) (by decide)]
      refine a_lsub (pc := 139) dX5_joint_139 ?_
      refine a_iload_3 (pc := 140) dX5_joint_140 ?_
      refine a_i2l (pc := 141) dX5_joint_141 ?_
      refine a_lif_le (tgt := 150) (pc := 142) dX5_joint_142 dX5_joint_143 (by decide) (fun c_142 => ?_) (fun c_142 => ?_)
      · rw [if_pos c_142] at hz_
        refine a_iinc_6 (cst := 1) (pc := 150) dX5_joint_150 rfl (by decide) (by decide) ?_
        refine a_goto (tgt := 95) (pc := 153) dX5_joint_153 (by decide) ?_
        rw [← nI_succ]
        exact ih_ q2_ (by omega) (i + 1) (by omega) hz_
      · rw [if_neg c_142] at hz_
        refine a_iload_6 (pc := 146) dX5_joint_146 ?_
        refine a_i2l (pc := 148) dX5_joint_148 ?_
        exact a_lret (pc := 149) dX5_joint_149 rfl rfl (zret' u (by rw [← hz_]) rfl)

set_option maxRecDepth 100000 in
set_option maxHeartbeats 4000000 in
theorem lp_joint1 (l : Launch) (G : zG) (ad : Nat → Nat) (σ : zσ) (hσ : zOk σ) (x0 u : zX) (hu : zFlow σ (nI (σ.1 3)) (zMs σ) u) (x off : Int32) (k : Nat) (hk : k < 72) (h6 : k % 6 = 0) (hH : zHσ σ k) (r : Int64) : ∀ (q i : Nat), i + q = σ.1 0 → zJo σ 1 k off q i = r → AV l G sX5_joint (wP G ad σ x0) (zPost G ad (r, σ)) 95 [some (.ref (ad 0)), some (.int x), some (.int 1), some (.int off), some (.int (nI k)), some (.ref (ad 26)), some (.int (nI i))] [] (wP G ad σ u) := by
  have hn_ := hσ.1.2
  intro q_
  induction q_ using Nat.strongRecOn
  rename_i q_ ih_
  intro i hq_ hz_
  refine a_iload_6 (pc := 95) dX5_joint_95 ?_
  refine a_aload_0 (pc := 97) dX5_joint_97 ?_
  refine a_getf (ci := 5) (j := 1) rfl win_X5 (by decide) (pc := 98) dX5_joint_98 kf_X5_16 rfl rfl ?_
  refine a_getfN (ci := 2) (j := 1) rfl win_X2 (by decide) (pc := 101) dX5_joint_101 kf_X5_73 rfl rfl ?_
  refine a_icmp_ge (tgt := 156) (pc := 104) dX5_joint_104 (by decide) (fun c_104 => ?_) (fun c_104 => ?_)
  · obtain rfl : q_ = 0 := by have := (zI_le (by omega) (by omega)).mp c_104; omega
    refine a_ldc2 (pc := 156) dX5_joint_156 kl_X5_170 ?_
    exact a_lret (pc := 159) dX5_joint_159 rfl rfl (zret' u (by rw [← hz_] <;> rfl) rfl)
  · have hi_ : i < σ.1 0 := by have := mt (zI_le (a := σ.1 0) (b := i) (by omega) (by omega)).mpr c_104; omega
    obtain ⟨q2_, rfl⟩ : ∃ z, q_ = z + 1 := ⟨q_ - 1, by omega⟩
    have hnx_ := zH_next hσ hk h6 hi_ hH
    unfold zJo at hz_
    refine a_aload_5 (pc := 107) dX5_joint_107 ?_
    refine a_iload_6 (pc := 109) dX5_joint_109 ?_
    refine cV_P (ad := ad) (q0 := 26) (S2 := sX3_has) (c_has l G (zpk ad [26, 27]) (σ.2.2.2 1) (σ.2.2.1 1) (nI i)) kc_X3_has km_X5_217 ki_X3_has kv_X3_has kini_X3 ⟨kn_X3_has, by decide, by decide⟩ (pc := 111) dX5_joint_111 [26, 27] rfl rfl rfl rfl (Nat.le_of_ble_eq_true rfl) rfl rfl rfl ?_
    first | refine a_if_eqB (tgt := 156) (pc := 114) dX5_joint_114 (by decide) (fun c_114 => ?_) (fun c_114 => ?_) | refine a_if_eq (tgt := 156) (pc := 114) dX5_joint_114 (by decide) (fun c_114 => ?_) (fun c_114 => ?_)
    · rw [if_neg c_114] at hz_
      refine a_ldc2 (pc := 156) dX5_joint_156 kl_X5_170 ?_
      exact a_lret (pc := 159) dX5_joint_159 rfl rfl (zret' u (by rw [← hz_] <;> rfl) rfl)
    · rw [if_pos c_114] at hz_
      refine a_aload_5 (pc := 117) dX5_joint_117 ?_
      refine a_getfN (ci := 3) (j := 0) rfl win_X3 (by decide) (pc := 119) dX5_joint_119 kf_X5_220 rfl rfl ?_
      refine a_iload_6 (pc := 122) dX5_joint_122 ?_
      refine a_saldN (pc := 124) dX5_joint_124 rfl (by omega) (by decide) ?_
      refine a_i2l (pc := 125) dX5_joint_125 ?_
      refine a_aload_0 (pc := 126) dX5_joint_126 ?_
      refine a_getf (ci := 5) (j := 4) rfl win_X5 (by decide) (pc := 127) dX5_joint_127 kf_X5_33 rfl rfl ?_
      refine a_getfN (ci := 0) (j := 6) rfl win_X0 (by decide) (pc := 130) dX5_joint_130 kf_X5_251 rfl rfl ?_
      refine a_iload_4 (pc := 133) dX5_joint_133 ?_
      refine a_iload_6 (pc := 135) dX5_joint_135 ?_
      refine a_iadd (pc := 137) dX5_joint_137 ?_
      rw [← zI_add]
      refine a_laldN (pc := 138) dX5_joint_138 rfl hnx_.1 (by decide) ?_
      rw [zFlow_at hσ hu hnx_.1 hnx_.2 (a := 4) (by decide)]
      refine a_lsub (pc := 139) dX5_joint_139 ?_
      refine a_iload_3 (pc := 140) dX5_joint_140 ?_
      refine a_i2l (pc := 141) dX5_joint_141 ?_
      refine a_lif_le (tgt := 150) (pc := 142) dX5_joint_142 dX5_joint_143 (by decide) (fun c_142 => ?_) (fun c_142 => ?_)
      · rw [if_pos c_142] at hz_
        refine a_iinc_6 (cst := 1) (pc := 150) dX5_joint_150 rfl (by decide) (by decide) ?_
        refine a_goto (tgt := 95) (pc := 153) dX5_joint_153 (by decide) ?_
        rw [← nI_succ]
        exact ih_ q2_ (by omega) (i + 1) (by omega) hz_
      · rw [if_neg c_142] at hz_
        refine a_iload_6 (pc := 146) dX5_joint_146 ?_
        refine a_i2l (pc := 148) dX5_joint_148 ?_
        exact a_lret (pc := 149) dX5_joint_149 rfl rfl (zret' u (by rw [← hz_]) rfl)

set_option maxRecDepth 100000 in
set_option maxHeartbeats 4000000 in
theorem p_joint (l : Launch) (G : zG) (ad : Nat → Nat) (σ : zσ) (x0 : zX) (hσ : zOk σ) (x : Int32) (s : Int32) (off : Int32) : zSem l G sX5_joint [.ref (ad 0), .int x, .int s, .int off] (wP G ad σ x0) (zPost G ad (o_joint σ x s off)) := by
  refine zEnterV (L := [some (.ref (ad 0)), some (.int x), some (.int s), some (.int off), none, none, none]) (by decide) rfl (Nat.le_of_ble_eq_true rfl) rfl ?_
  have J21_ : ∀ y_ : Int32, y_ = zplace (zJp x) → AV l G sX5_joint (wP G ad σ x0) (zPost G ad (o_joint σ x s off)) 21 [some (.ref (ad 0)), some (.int x), some (.int s), some (.int off), none, none, none] [.int y_] (wP G ad σ x0) := by
    intro y_ hy_; subst hy_
    refine a_istore_4 (pc := 21) dX5_joint_21 rfl (by decide) ?_
    refine a_iload_4 (pc := 23) dX5_joint_23 ?_
    rcases hp_ : zJp x with _ | k
    · refine a_if_lt (tgt := 48) (pc := 25) dX5_joint_25 (by decide) (fun _ => ?_) (fun c_ => absurd (show zplace none < 0 by decide) c_)
      refine a_ldc2 (pc := 48) dX5_joint_48 kl_X5_68 ?_
      exact a_lret (pc := 51) dX5_joint_51 rfl rfl (by first | exact zret' x0 (by unfold o_joint; rw [if_pos (Or.inl hp_)]) rfl | exact zret' x0 (by unfold o_joint; rw [if_pos (Or.inr (Or.inl c_34))]) rfl | exact zret' x0 (by unfold o_joint; rw [if_pos (Or.inr (Or.inr c_45))]) rfl)
    · have hk_ := zJp_6 hp_
      have hne_ : ¬ zJp x = none := by rw [hp_]; exact fun h => by cases h
      dsimp only [zplace]
      refine a_if_lt (tgt := 48) (pc := 25) dX5_joint_25 (by decide) (fun c_ => absurd c_ (nI_pos (by omega))) (fun _ => ?_)
      refine a_iload_2 (pc := 28) dX5_joint_28 ?_
      refine a_iconst (v := 0) (pc := 29) dX5_joint_29 (by decide) ?_
      refine a_iconst (v := 1) (pc := 30) dX5_joint_30 (by decide) ?_
      refine cS_P (S2 := sX5_outside) (c_outside l G _ _ _) kc_X5_outside km_X5_64 ks_X5_outside kini_X5 ⟨kn_X5_outside, by decide, by decide⟩ (pc := 31) dX5_joint_31 [] rfl rfl rfl rfl (Nat.le_of_ble_eq_true rfl) ?_
      first | refine a_if_neB (tgt := 48) (pc := 34) dX5_joint_34 (by decide) (fun c_34 => ?_) (fun c_34 => ?_) | refine a_if_ne (tgt := 48) (pc := 34) dX5_joint_34 (by decide) (fun c_34 => ?_) (fun c_34 => ?_)
      · refine a_ldc2 (pc := 48) dX5_joint_48 kl_X5_68 ?_
        exact a_lret (pc := 51) dX5_joint_51 rfl rfl (by first | exact zret' x0 (by unfold o_joint; rw [if_pos (Or.inl hp_)]) rfl | exact zret' x0 (by unfold o_joint; rw [if_pos (Or.inr (Or.inl c_34))]) rfl | exact zret' x0 (by unfold o_joint; rw [if_pos (Or.inr (Or.inr c_45))]) rfl)
      · refine a_iload_3 (pc := 37) dX5_joint_37 ?_
        refine a_iconst (v := 0) (pc := 38) dX5_joint_38 (by decide) ?_
        refine a_sipush (v := 9999) (pc := 39) dX5_joint_39 (by decide) ?_
        refine cS_P (S2 := sX5_outside) (c_outside l G _ _ _) kc_X5_outside km_X5_64 ks_X5_outside kini_X5 ⟨kn_X5_outside, by decide, by decide⟩ (pc := 42) dX5_joint_42 [] rfl rfl rfl rfl (Nat.le_of_ble_eq_true rfl) ?_
        first | refine a_if_eqB (tgt := 52) (pc := 45) dX5_joint_45 (by decide) (fun c_45 => ?_) (fun c_45 => ?_) | refine a_if_eq (tgt := 52) (pc := 45) dX5_joint_45 (by decide) (fun c_45 => ?_) (fun c_45 => ?_)
        · refine a_aload_0 (pc := 52) dX5_joint_52 ?_
          refine a_getf (ci := 5) (j := 1) rfl win_X5 (by decide) (pc := 53) dX5_joint_53 kf_X5_16 rfl rfl ?_
          refine a_iload_4 (pc := 56) dX5_joint_56 ?_
          refine cV_P (ad := ad) (q0 := 2) (S2 := sX2_holdsSkin) (c_holdsSkin l G (zpk ad [2, 3]) (zVesf σ) (nI (σ.1 0)) k hk_.1) kc_X2_holdsSkin km_X5_105 ki_X2_holdsSkin kv_X2_holdsSkin kini_X2 ⟨kn_X2_holdsSkin, by decide, by decide⟩ (pc := 58) dX5_joint_58 [2, 3] rfl rfl rfl rfl (Nat.le_of_ble_eq_true rfl) rfl rfl rfl ?_
          first | refine a_if_neB (tgt := 68) (pc := 61) dX5_joint_61 (by decide) (fun c_61 => ?_) (fun c_61 => ?_) | refine a_if_ne (tgt := 68) (pc := 61) dX5_joint_61 (by decide) (fun c_61 => ?_) (fun c_61 => ?_)
          · rcases zrange2 c_34 with rfl | rfl
            · refine a_aload_0 (pc := 68) dX5_joint_68 ?_
              refine a_getf (ci := 5) (j := 6) rfl win_X5 (by decide) (pc := 69) dX5_joint_69 kf_X5_47 rfl rfl ?_
              refine a_iload_2 (pc := 72) dX5_joint_72 ?_
              refine a_aaldN (k := 0) (pc := 73) dX5_joint_73 rfl (by decide) (by decide) rfl ?_
              refine a_astore_5 (pc := 74) dX5_joint_74 rfl (by decide) ?_
              refine a_aload_5 (pc := 76) dX5_joint_76 ?_
              first
                | refine cV_P (ad := ad) (q0 := 24) (S2 := sX3_isMissing) (c_isMissing l G (zpk ad [24, 25]) (σ.2.2.2 0) (σ.2.2.1 0)) kc_X3_isMissing km_X5_211 ki_X3_isMissing kv_X3_isMissing kini_X3 ⟨kn_X3_isMissing, by decide, by decide⟩ (pc := 78) dX5_joint_78 [24, 25] rfl rfl rfl rfl (Nat.le_of_ble_eq_true rfl) rfl rfl rfl ?_
                | refine cV_P (ad := ad) (q0 := 26) (S2 := sX3_isMissing) (c_isMissing l G (zpk ad [26, 27]) (σ.2.2.2 1) (σ.2.2.1 1)) kc_X3_isMissing km_X5_211 ki_X3_isMissing kv_X3_isMissing kini_X3 ⟨kn_X3_isMissing, by decide, by decide⟩ (pc := 78) dX5_joint_78 [26, 27] rfl rfl rfl rfl (Nat.le_of_ble_eq_true rfl) rfl rfl rfl ?_
              first | refine a_if_eqB (tgt := 88) (pc := 81) dX5_joint_81 (by decide) (fun c_81 => ?_) (fun c_81 => ?_) | refine a_if_eq (tgt := 88) (pc := 81) dX5_joint_81 (by decide) (fun c_81 => ?_) (fun c_81 => ?_)
              · refine a_aload_0 (pc := 88) dX5_joint_88 ?_
                refine f_0 (ad := ad) (q0 := 0) (S2 := sX5_letFlow) (p_letFlow l G ad σ x0 hσ) kc_X5_letFlow km_X5_111 ki_X5_letFlow kv_X5_letFlow kini_X5 ⟨kn_X5_letFlow, by decide, by decide⟩ (pc := 89) dX5_joint_89 (znd_of rfl znd28) rfl rfl (Nat.le_of_ble_eq_true rfl) rfl rfl rfl (fun u_ hu_ => ?_)
                refine a_iconst (v := 0) (pc := 92) dX5_joint_92 (by decide) ?_
                refine a_istore_6 (pc := 93) dX5_joint_93 rfl (by decide) ?_
                first
                  | (have e_ : o_joint σ x 0 off = (zJo σ 0 k off (σ.1 0) 0, σ) := by
                       unfold o_joint
                       rw [if_neg (fun h => h.elim hne_ (fun h => h.elim c_34 c_45)), hp_, Option.getD_some, if_neg (fun h => h c_61)]
                       exact congrArg (fun z => (z, σ)) (if_neg c_81)
                     rw [e_]
                     exact lp_joint0 l G ad σ hσ x0 u_ hu_.1 x off k hk_.1 hk_.2 c_61 _ (σ.1 0) 0 (by omega) rfl)
                  | (have e_ : o_joint σ x 1 off = (zJo σ 1 k off (σ.1 0) 0, σ) := by
                       unfold o_joint
                       rw [if_neg (fun h => h.elim hne_ (fun h => h.elim c_34 c_45)), hp_, Option.getD_some, if_neg (fun h => h c_61)]
                       exact congrArg (fun z => (z, σ)) (if_neg c_81)
                     rw [e_]
                     exact lp_joint1 l G ad σ hσ x0 u_ hu_.1 x off k hk_.1 hk_.2 c_61 _ (σ.1 0) 0 (by omega) rfl)
              · refine a_ldc2 (pc := 84) dX5_joint_84 kl_X5_215 ?_
                exact a_lret (pc := 87) dX5_joint_87 rfl rfl (zret' x0 (by unfold o_joint; rw [if_neg (fun h => h.elim hne_ (fun h => h.elim c_34 c_45)), hp_, Option.getD_some, if_neg (fun h => h c_61)]; exact congrArg (fun z => (z, σ)) (if_pos c_81)) rfl)
            · refine a_aload_0 (pc := 68) dX5_joint_68 ?_
              refine a_getf (ci := 5) (j := 6) rfl win_X5 (by decide) (pc := 69) dX5_joint_69 kf_X5_47 rfl rfl ?_
              refine a_iload_2 (pc := 72) dX5_joint_72 ?_
              refine a_aaldN (k := 1) (pc := 73) dX5_joint_73 rfl (by decide) (by decide) rfl ?_
              refine a_astore_5 (pc := 74) dX5_joint_74 rfl (by decide) ?_
              refine a_aload_5 (pc := 76) dX5_joint_76 ?_
              first
                | refine cV_P (ad := ad) (q0 := 24) (S2 := sX3_isMissing) (c_isMissing l G (zpk ad [24, 25]) (σ.2.2.2 0) (σ.2.2.1 0)) kc_X3_isMissing km_X5_211 ki_X3_isMissing kv_X3_isMissing kini_X3 ⟨kn_X3_isMissing, by decide, by decide⟩ (pc := 78) dX5_joint_78 [24, 25] rfl rfl rfl rfl (Nat.le_of_ble_eq_true rfl) rfl rfl rfl ?_
                | refine cV_P (ad := ad) (q0 := 26) (S2 := sX3_isMissing) (c_isMissing l G (zpk ad [26, 27]) (σ.2.2.2 1) (σ.2.2.1 1)) kc_X3_isMissing km_X5_211 ki_X3_isMissing kv_X3_isMissing kini_X3 ⟨kn_X3_isMissing, by decide, by decide⟩ (pc := 78) dX5_joint_78 [26, 27] rfl rfl rfl rfl (Nat.le_of_ble_eq_true rfl) rfl rfl rfl ?_
              first | refine a_if_eqB (tgt := 88) (pc := 81) dX5_joint_81 (by decide) (fun c_81 => ?_) (fun c_81 => ?_) | refine a_if_eq (tgt := 88) (pc := 81) dX5_joint_81 (by decide) (fun c_81 => ?_) (fun c_81 => ?_)
              · refine a_aload_0 (pc := 88) dX5_joint_88 ?_
                refine f_0 (ad := ad) (q0 := 0) (S2 := sX5_letFlow) (p_letFlow l G ad σ x0 hσ) kc_X5_letFlow km_X5_111 ki_X5_letFlow kv_X5_letFlow kini_X5 ⟨kn_X5_letFlow, by decide, by decide⟩ (pc := 89) dX5_joint_89 (znd_of rfl znd28) rfl rfl (Nat.le_of_ble_eq_true rfl) rfl rfl rfl (fun u_ hu_ => ?_)
                refine a_iconst (v := 0) (pc := 92) dX5_joint_92 (by decide) ?_
                refine a_istore_6 (pc := 93) dX5_joint_93 rfl (by decide) ?_
                first
                  | (have e_ : o_joint σ x 0 off = (zJo σ 0 k off (σ.1 0) 0, σ) := by
                       unfold o_joint
                       rw [if_neg (fun h => h.elim hne_ (fun h => h.elim c_34 c_45)), hp_, Option.getD_some, if_neg (fun h => h c_61)]
                       exact congrArg (fun z => (z, σ)) (if_neg c_81)
                     rw [e_]
                     exact lp_joint0 l G ad σ hσ x0 u_ hu_.1 x off k hk_.1 hk_.2 c_61 _ (σ.1 0) 0 (by omega) rfl)
                  | (have e_ : o_joint σ x 1 off = (zJo σ 1 k off (σ.1 0) 0, σ) := by
                       unfold o_joint
                       rw [if_neg (fun h => h.elim hne_ (fun h => h.elim c_34 c_45)), hp_, Option.getD_some, if_neg (fun h => h c_61)]
                       exact congrArg (fun z => (z, σ)) (if_neg c_81)
                     rw [e_]
                     exact lp_joint1 l G ad σ hσ x0 u_ hu_.1 x off k hk_.1 hk_.2 c_61 _ (σ.1 0) 0 (by omega) rfl)
              · refine a_ldc2 (pc := 84) dX5_joint_84 kl_X5_215 ?_
                exact a_lret (pc := 87) dX5_joint_87 rfl rfl (zret' x0 (by unfold o_joint; rw [if_neg (fun h => h.elim hne_ (fun h => h.elim c_34 c_45)), hp_, Option.getD_some, if_neg (fun h => h c_61)]; exact congrArg (fun z => (z, σ)) (if_pos c_81)) rfl)
          · refine a_ldc2 (pc := 64) dX5_joint_64 kl_X5_109 ?_
            exact a_lret (pc := 67) dX5_joint_67 rfl rfl (zret' x0 (by unfold o_joint; rw [if_neg (fun h => h.elim hne_ (fun h => h.elim c_34 c_45)), hp_, Option.getD_some, if_pos c_61]) rfl)
        · refine a_ldc2 (pc := 48) dX5_joint_48 kl_X5_68 ?_
          exact a_lret (pc := 51) dX5_joint_51 rfl rfl (by first | exact zret' x0 (by unfold o_joint; rw [if_pos (Or.inl hp_)]) rfl | exact zret' x0 (by unfold o_joint; rw [if_pos (Or.inr (Or.inl c_34))]) rfl | exact zret' x0 (by unfold o_joint; rw [if_pos (Or.inr (Or.inr c_45))]) rfl)
  refine a_iload_1 (pc := 0) dX5_joint_0 ?_
  refine a_iconst (v := 0) (pc := 1) dX5_joint_1 (by decide) ?_
  refine a_bipush (v := 30) (pc := 2) dX5_joint_2 (by decide) ?_
  refine cS_P (S2 := sX5_outside) (c_outside l G _ _ _) kc_X5_outside km_X5_64 ks_X5_outside kini_X5 ⟨kn_X5_outside, by decide, by decide⟩ (pc := 4) dX5_joint_4 [] rfl rfl rfl rfl (Nat.le_of_ble_eq_true rfl) ?_
  first | refine a_if_eqB (tgt := 14) (pc := 7) dX5_joint_7 (by decide) (fun c_7 => ?_) (fun c_7 => ?_) | refine a_if_eq (tgt := 14) (pc := 7) dX5_joint_7 (by decide) (fun c_7 => ?_) (fun c_7 => ?_)
  · refine a_bipush (v := 10) (pc := 14) dX5_joint_14 (by decide) ?_
    refine a_iload_1 (pc := 16) dX5_joint_16 ?_
    refine a_imul (pc := 17) dX5_joint_17 ?_
    refine cS_P (S2 := sX5_placeOf) (c_placeOf l G _) kc_X5_placeOf km_X5_76 ks_X5_placeOf kini_X5 ⟨kn_X5_placeOf, by decide, by decide⟩ (pc := 18) dX5_joint_18 [] rfl rfl rfl rfl (Nat.le_of_ble_eq_true rfl) ?_
    first | exact J21_ _ (by unfold zJp; rw [if_pos c_7]; rfl) | exact J21_ _ (by unfold zJp; rw [if_neg c_7])
  · refine a_iconst (v := -1) (pc := 10) dX5_joint_10 (by decide) ?_
    refine a_goto (tgt := 21) (pc := 11) dX5_joint_11 (by decide) ?_
    first | exact J21_ _ (by unfold zJp; rw [if_pos c_7]; rfl) | exact J21_ _ (by unfold zJp; rw [if_neg c_7])
end
section
/-! Bounds of the flows: nothing falls below 0, nothing leaves the numbers. -/
def zB3 (A B : Int) (s : zSt3) : Prop := (0 ≤ s.1.toInt ∧ s.1.toInt ≤ A) ∧ (0 ≤ s.2.1.toInt ∧ s.2.1.toInt ≤ B) ∧ (0 ≤ s.2.2.toInt ∧ s.2.2.toInt ≤ 900)
theorem j_0 : (0 : Int64).toInt = 0 := by decide
theorem j_100 : (100 : Int64).toInt = 100 := by decide
theorem j_1000 : (1000 : Int64).toInt = 1000 := by decide
theorem j_2 : (2 : Int64).toInt = 2 := by decide
theorem j_1 : (1 : Int64).toInt = 1 := by decide
theorem zSalt_b {w g : Int64} (hw : 0 ≤ w.toInt) (hg : 0 ≤ g.toInt) : 0 ≤ (zSalt w g).toInt ∧ (zSalt w g).toInt ≤ g.toInt ∧ w.toInt * (zSalt w g).toInt ≤ g.toInt := by
  unfold zSalt
  by_cases h : w = 0
  · rw [if_pos h, j_0, Int.mul_zero]
    omega
  · rw [if_neg h]
    have hw1 : ¬ w.toInt = 0 := fun e => h (Int64.toInt_inj.mp (by rw [e, j_0]))
    rw [j_div hg (by omega)]
    exact ⟨Int.ediv_nonneg hg hw, Int.ediv_le_self _ hg, Int.mul_ediv_self_le hw1⟩
theorem zLess_b {p x : Int64} (hp : 0 ≤ p.toInt ∧ p.toInt ≤ 900) (hx : 0 ≤ x.toInt ∧ x.toInt ≤ 1000000000000000) : (zLess p x).toInt = max 0 (p.toInt - x.toInt) := by
  have e : (p - x).toInt = p.toInt - x.toInt := j_sub (by omega) (by omega)
  unfold zLess
  by_cases h : p - x < 0
  · have h2 := Int64.lt_iff_toInt_lt.mp h
    rw [e, j_0] at h2
    rw [if_pos h, j_0]
    omega
  · have h2 := mt Int64.lt_iff_toInt_lt.mpr h
    rw [e, j_0] at h2
    rw [if_neg h, e]
    omega
theorem zPush_b {w g p : Int64} (hw : 0 ≤ w.toInt) (hg : 0 ≤ g.toInt ∧ g.toInt ≤ 1000000000000000) (hp : 0 ≤ p.toInt ∧ p.toInt ≤ 900) : 0 ≤ (zPush w g p).toInt ∧ (zPush w g p).toInt ≤ 900 := by
  have hs := zSalt_b hw hg.1
  have e : (zSalt w g / 100).toInt = (zSalt w g).toInt / 100 := by rw [j_div hs.1 (by rw [j_100]; decide), j_100]
  have := zLess_b (x := zSalt w g / 100) hp (by rw [e]; omega)
  show 0 ≤ (zLess p (zSalt w g / 100)).toInt ∧ (zLess p (zSalt w g / 100)).toInt ≤ 900
  rw [this, e]
  omega
theorem zThr_b {pa : Int32} (hpa : 0 ≤ pa.toInt ∧ pa.toInt ≤ 60) {w g p : Int64} (hw : 0 ≤ w.toInt) (hg : 0 ≤ g.toInt ∧ g.toInt ≤ 1000000000000000) (hp : 0 ≤ p.toInt ∧ p.toInt ≤ 900) : 0 ≤ (zThr pa w g p).toInt ∧ (zThr pa w g p).toInt ≤ w.toInt := by
  have h1 := zPush_b hw hg hp
  have e0 : pa.toInt64.toInt = pa.toInt := Int32.toInt_toInt64 pa
  have h2 : (zPush w g p).toInt * pa.toInt ≤ 900 * 60 := Int.mul_le_mul h1.2 hpa.2 hpa.1 (by decide)
  have h3 : 0 ≤ (zPush w g p).toInt * pa.toInt := Int.mul_nonneg h1.1 hpa.1
  have e1 : (zPush w g p * pa.toInt64).toInt = (zPush w g p).toInt * pa.toInt := by rw [j_mul (by rw [e0]; omega) (by rw [e0]; omega), e0]
  have e2 : (zPush w g p * pa.toInt64 / 100).toInt = (zPush w g p).toInt * pa.toInt / 100 := by rw [j_div (by rw [e1]; exact h3) (by rw [j_100]; decide), e1, j_100]
  have h4 : 0 ≤ (zPush w g p).toInt * pa.toInt / 100 := Int.ediv_nonneg h3 (by decide)
  unfold zThr
  by_cases h : zPush w g p * pa.toInt64 / 100 < w
  · have h5 := Int64.lt_iff_toInt_lt.mp h
    rw [if_pos h, e2]
    rw [e2] at h5
    omega
  · rw [if_neg h]
    omega
theorem zThS_b {le : Int32} (hle : 0 ≤ le.toInt ∧ le.toInt ≤ 25) {w g : Int64} (hw : 0 ≤ w.toInt) (hg : 0 ≤ g.toInt ∧ g.toInt ≤ 1000000000000000) : 0 ≤ (zThS le w g).toInt ∧ (zThS le w g).toInt ≤ (zSalt w g).toInt := by
  have hs := zSalt_b hw hg.1
  have e0 : le.toInt64.toInt = le.toInt := Int32.toInt_toInt64 le
  have h2 : (zSalt w g).toInt * le.toInt ≤ (zSalt w g).toInt * 25 := Int.mul_le_mul_of_nonneg_left hle.2 hs.1
  have h3 : 0 ≤ (zSalt w g).toInt * le.toInt := Int.mul_nonneg hs.1 hle.1
  have e1 : (zSalt w g * le.toInt64).toInt = (zSalt w g).toInt * le.toInt := by rw [j_mul (by rw [e0]; omega) (by rw [e0]; omega), e0]
  unfold zThS
  rw [j_div (by rw [e1]; exact h3) (by rw [j_1000]; decide), e1, j_1000]
  omega
theorem zTG_b {pa le : Int32} (hpa : 0 ≤ pa.toInt ∧ pa.toInt ≤ 60) (hle : 0 ≤ le.toInt ∧ le.toInt ≤ 25) {w g p : Int64} (hw : 0 ≤ w.toInt) (hg : 0 ≤ g.toInt ∧ g.toInt ≤ 1000000000000000) (hp : 0 ≤ p.toInt ∧ p.toInt ≤ 900) : (zThr pa w g p * zThS le w g).toInt = (zThr pa w g p).toInt * (zThS le w g).toInt ∧ 0 ≤ (zThr pa w g p).toInt * (zThS le w g).toInt ∧ (zThr pa w g p).toInt * (zThS le w g).toInt ≤ g.toInt := by
  have h1 := zThr_b hpa hw hg hp
  have h2 := zThS_b hle hw hg
  have hs := zSalt_b hw hg.1
  have h3 : (zThr pa w g p).toInt * (zThS le w g).toInt ≤ w.toInt * (zSalt w g).toInt := Int.mul_le_mul h1.2 h2.2 h2.1 hw
  have h4 : 0 ≤ (zThr pa w g p).toInt * (zThS le w g).toInt := Int.mul_nonneg h1.1 h2.1
  exact ⟨j_mul (by omega) (by omega), h4, by omega⟩
theorem zStep_b {pa le : Int32} (hpa : 0 ≤ pa.toInt ∧ pa.toInt ≤ 60) (hle : 0 ≤ le.toInt ∧ le.toInt ≤ 25) {A B : Int} (hA : A ≤ 10000000) (hB : B ≤ 1000000000000000) {s : zSt3} (h : zB3 A B s) : zB3 A B (zStep pa le s) := by
  obtain ⟨hw, hg, hp⟩ := h
  have h1 := zThr_b hpa hw.1 ⟨hg.1, by omega⟩ hp
  have h2 := zTG_b hpa hle hw.1 ⟨hg.1, by omega⟩ hp
  have e1 : (s.1 - zThr pa s.1 s.2.1 s.2.2).toInt = s.1.toInt - (zThr pa s.1 s.2.1 s.2.2).toInt := j_sub (by omega) (by omega)
  have e2 : (s.2.1 - zThr pa s.1 s.2.1 s.2.2 * zThS le s.1 s.2.1).toInt = s.2.1.toInt - (zThr pa s.1 s.2.1 s.2.2).toInt * (zThS le s.1 s.2.1).toInt := by rw [j_sub (by rw [h2.1]; omega) (by rw [h2.1]; omega), h2.1]
  have e3 := zLess_b (x := 2) hp (by rw [j_2]; omega)
  refine ⟨?_, ?_, ?_⟩
  · show 0 ≤ (s.1 - zThr pa s.1 s.2.1 s.2.2).toInt ∧ (s.1 - zThr pa s.1 s.2.1 s.2.2).toInt ≤ A
    rw [e1]; omega
  · show 0 ≤ (s.2.1 - zThr pa s.1 s.2.1 s.2.2 * zThS le s.1 s.2.1).toInt ∧ (s.2.1 - zThr pa s.1 s.2.1 s.2.2 * zThS le s.1 s.2.1).toInt ≤ B
    rw [e2]; omega
  · show 0 ≤ (zLess s.2.2 2).toInt ∧ (zLess s.2.2 2).toInt ≤ 900
    rw [e3, j_2]; omega
/-- PASS and LEAK are in their bounds -/
def zPL (pa le : Nat → Int32) : Prop := ∀ k, k < 72 → (0 ≤ (pa k).toInt ∧ (pa k).toInt ≤ 60) ∧ (0 ≤ (le k).toInt ∧ (le k).toInt ≤ 25)
theorem zVs_b {pa le : Nat → Int32} (hP : zPL pa le) {A B : Int} (hA : A ≤ 10000000) (hB : B ≤ 1000000000000000) {f0 : Nat} {s : zSt3} (h : zB3 A B s) : ∀ j, f0 + j ≤ 72 → zB3 A B (zVs pa le f0 s j)
  | 0, _ => h
  | j + 1, hj => zStep_b (hP (f0 + j) (by omega)).1 (hP (f0 + j) (by omega)).2 hA hB (zVs_b hP hA hB h j (by omega))
theorem nI64 {n : Nat} (h : n < 2 ^ 31) : (nI n).toInt64.toInt = n := by rw [Int32.toInt_toInt64, nI_toInt h]
theorem zWv_b {W : Int64} {m v : Nat} (hW : 0 ≤ W.toInt ∧ W.toInt ≤ 10000000) (hm : 0 < m ∧ m ≤ 4) (hv : v < 4) : (zWv W m v).toInt = W.toInt / m + (if W.toInt % m ≤ v then 0 else 1) := by
  have em := nI64 (n := m) (by omega)
  have ev := nI64 (n := v) (by omega)
  have ed : (W / (nI m).toInt64).toInt = W.toInt / m := by rw [j_div hW.1 (by rw [em]; omega), em]
  have er : (W - W / (nI m).toInt64 * (nI m).toInt64).toInt = W.toInt % m := by rw [j_rem hW.1 (by rw [em]; omega), em]
  have hd : W.toInt / m ≤ W.toInt := Int.ediv_le_self _ hW.1
  have hd0 : 0 ≤ W.toInt / m := Int.ediv_nonneg hW.1 (by omega)
  unfold zWv
  by_cases h : W - W / (nI m).toInt64 * (nI m).toInt64 ≤ (nI v).toInt64
  · have h2 := Int64.le_iff_toInt_le.mp h
    rw [er, ev] at h2
    rw [if_pos h, if_pos h2, ed]
    omega
  · have h2 := mt Int64.le_iff_toInt_le.mpr h
    rw [er, ev] at h2
    rw [if_neg h, if_neg h2, j_add (by rw [ed, j_1]; omega) (by rw [ed, j_1]; omega), ed, j_1]
end
section
/-! Bounds of the stages; of what a skin lets through. -/
theorem zIn_b {st : zSt3} {A B : Int} (hA : A ≤ 9000000) (hB : B ≤ 100000000000000) (h : zB3 A B st) {m v : Nat} (hm : 0 < m ∧ m ≤ 4) (hv : v < 4) : zB3 (A + 1) (3 * B) (zIn st m v) := by
  obtain ⟨hw, hg, hp⟩ := h
  have e := zWv_b (m := m) (v := v) ⟨hw.1, by omega⟩ hm hv
  have hs := zSalt_b hw.1 hg.1
  have hd : st.1.toInt / m ≤ st.1.toInt := Int.ediv_le_self _ hw.1
  have hd0 : 0 ≤ st.1.toInt / m := Int.ediv_nonneg hw.1 (by omega)
  have hW : 0 ≤ (zWv st.1 m v).toInt ∧ (zWv st.1 m v).toInt ≤ st.1.toInt + 1 := by
    rw [e]; split <;> omega
  have h3 : (zWv st.1 m v).toInt * (zSalt st.1 st.2.1).toInt ≤ (st.1.toInt + 1) * (zSalt st.1 st.2.1).toInt := Int.mul_le_mul_of_nonneg_right hW.2 hs.1
  have h4 : (st.1.toInt + 1) * (zSalt st.1 st.2.1).toInt = st.1.toInt * (zSalt st.1 st.2.1).toInt + (zSalt st.1 st.2.1).toInt := by rw [Int.add_mul, Int.one_mul]
  have h5 : 0 ≤ (zWv st.1 m v).toInt * (zSalt st.1 st.2.1).toInt := Int.mul_nonneg hW.1 hs.1
  have h6 : 0 ≤ st.1.toInt * (zSalt st.1 st.2.1).toInt := Int.mul_nonneg hw.1 hs.1
  have e1 : (zWv st.1 m v * zSalt st.1 st.2.1).toInt = (zWv st.1 m v).toInt * (zSalt st.1 st.2.1).toInt := j_mul (by omega) (by omega)
  have e2 : (st.1 * zSalt st.1 st.2.1).toInt = st.1.toInt * (zSalt st.1 st.2.1).toInt := j_mul (by omega) (by omega)
  have e3 : (st.2.1 - st.1 * zSalt st.1 st.2.1).toInt = st.2.1.toInt - st.1.toInt * (zSalt st.1 st.2.1).toInt := by rw [j_sub (by rw [e2]; omega) (by rw [e2]; omega), e2]
  refine ⟨?_, ?_, hp⟩
  · show 0 ≤ (zWv st.1 m v).toInt ∧ (zWv st.1 m v).toInt ≤ A + 1
    omega
  · show 0 ≤ (zGv st.1 st.2.1 m v).toInt ∧ (zGv st.1 st.2.1 m v).toInt ≤ 3 * B
    unfold zGv
    by_cases h : v = 0
    · rw [if_pos h, j_add (by rw [e1, e3]; omega) (by rw [e1, e3]; omega), e1, e3]
      omega
    · rw [if_neg h, e1]
      omega
theorem zStg_b {pa le : Nat → Int32} (hP : zPL pa le) {A B : Int} (hA0 : 0 ≤ A) (hB0 : 0 ≤ B) (hA : A ≤ 2000000) (hB : B ≤ 10000000000000) {st : zSt3} (h : zB3 A B st) {s m n : Nat} (hs : s < 3) (hm : 0 < m ∧ m ≤ 4) (hn : n ≤ 6) : ∀ v, v ≤ m → (0 ≤ (zStg pa le s m n st v).1.toInt ∧ (zStg pa le s m n st v).1.toInt ≤ v * (A + 1)) ∧ (0 ≤ (zStg pa le s m n st v).2.toInt ∧ (zStg pa le s m n st v).2.toInt ≤ v * (3 * B))
  | 0, _ => by
    show (0 ≤ (0 : Int64).toInt ∧ (0 : Int64).toInt ≤ _) ∧ (0 ≤ (0 : Int64).toInt ∧ (0 : Int64).toInt ≤ _)
    rw [j_0]; omega
  | v + 1, hv => by
    obtain ⟨i1, i2⟩ := zStg_b hP hA0 hB0 hA hB h hs hm hn v (by omega)
    obtain ⟨b1, b2, b3⟩ := zVs_b (A := A + 1) (B := 3 * B) hP (by omega) (by omega) (f0 := s * 24 + v * 6) (zIn_b (by omega) (by omega) h hm (show v < 4 by omega)) n (by omega)
    have hv4 : (v : Int) ≤ 3 := by omega
    have e4 : ((v + 1 : Nat) : Int) * (A + 1) = (v : Int) * (A + 1) + (A + 1) := by rw [show ((v + 1 : Nat) : Int) = (v : Int) + 1 from rfl, Int.add_mul, Int.one_mul]
    have e5 : ((v + 1 : Nat) : Int) * (3 * B) = (v : Int) * (3 * B) + 3 * B := by rw [show ((v + 1 : Nat) : Int) = (v : Int) + 1 from rfl, Int.add_mul, Int.one_mul]
    have u1 : (v : Int) * (A + 1) ≤ 3 * (A + 1) := Int.mul_le_mul_of_nonneg_right hv4 (by omega)
    have u2 : (v : Int) * (3 * B) ≤ 3 * (3 * B) := Int.mul_le_mul_of_nonneg_right hv4 (by omega)
    show (0 ≤ ((zStg pa le s m n st v).1 + (zVs pa le (s * 24 + v * 6) (zIn st m v) n).1).toInt ∧ _) ∧ (0 ≤ ((zStg pa le s m n st v).2 + (zVs pa le (s * 24 + v * 6) (zIn st m v) n).2.1).toInt ∧ _)
    rw [e4, e5]
    have g1 : ((zStg pa le s m n st v).1 + (zVs pa le (s * 24 + v * 6) (zIn st m v) n).1).toInt = (zStg pa le s m n st v).1.toInt + (zVs pa le (s * 24 + v * 6) (zIn st m v) n).1.toInt := j_add (by omega) (by omega)
    have g2 : ((zStg pa le s m n st v).2 + (zVs pa le (s * 24 + v * 6) (zIn st m v) n).2.1).toInt = (zStg pa le s m n st v).2.toInt + (zVs pa le (s * 24 + v * 6) (zIn st m v) n).2.1.toInt := j_add (by omega) (by omega)
    refine ⟨⟨by rw [g1]; omega, ?_⟩, ⟨by rw [g2]; omega, ?_⟩⟩
    · show ((zStg pa le s m n st v).1 + (zVs pa le (s * 24 + v * 6) (zIn st m v) n).1).toInt ≤ _
      rw [g1]; omega
    · show ((zStg pa le s m n st v).2 + (zVs pa le (s * 24 + v * 6) (zIn st m v) n).2.1).toInt ≤ _
      rw [g2]; omega
theorem z2n {n : Nat} (hn : n ≤ 6) : (2 * nI n).toInt64.toInt = 2 * n := by
  rw [show (2 : Int32) = nI 2 from rfl, ← zI_mul, nI64 (by omega)]
  rfl
theorem zStN_b {pa le : Nat → Int32} (hP : zPL pa le) {A B : Int} (hA0 : 0 ≤ A) (hB0 : 0 ≤ B) (hA : A ≤ 2000000) (hB : B ≤ 10000000000000) {st : zSt3} (h : zB3 A B st) {s m n : Nat} (hs : s < 3) (hm : m ≤ 4) (hn : n ≤ 6) : zB3 (4 * (A + 1)) (12 * B) (zStN pa le s m n st) := by
  by_cases h0 : m = 0
  · have e : zStN pa le s m n st = st := if_pos h0
    rw [e]
    obtain ⟨b1, b2, b3⟩ := h
    exact ⟨⟨b1.1, by omega⟩, ⟨b2.1, by omega⟩, b3⟩
  · rw [zStN_pos (by omega)]
    obtain ⟨i1, i2⟩ := zStg_b hP hA0 hB0 hA hB h hs ⟨by omega, hm⟩ hn m (Nat.le_refl _)
    have u1 : (m : Int) * (A + 1) ≤ 4 * (A + 1) := Int.mul_le_mul_of_nonneg_right (by omega) (by omega)
    have u2 : (m : Int) * (3 * B) ≤ 4 * (3 * B) := Int.mul_le_mul_of_nonneg_right (by omega) (by omega)
    have e3 := zLess_b (x := (2 * nI n).toInt64) h.2.2 (by rw [z2n hn]; omega)
    refine ⟨⟨i1.1, ?_⟩, ⟨i2.1, ?_⟩, ?_⟩
    · show (zStg pa le s m n st m).1.toInt ≤ _
      omega
    · show (zStg pa le s m n st m).2.toInt ≤ _
      omega
    · show 0 ≤ (zLess st.2.2 (2 * nI n).toInt64).toInt ∧ (zLess st.2.2 (2 * nI n).toInt64).toInt ≤ 900
      rw [e3, z2n hn]
      have := h.2.2
      omega
def zBA : Nat → Int := fun s => ([20000, 80004, 320020, 1280084] : List Int).getD s 0
def zBB : Nat → Int := fun s => ([1200000000, 14400000000, 172800000000, 2073600000000] : List Int).getD s 0
theorem zRn_b {pa le : Nat → Int32} (hP : zPL pa le) {st : zSt3} (h : zB3 20000 1200000000 st) {m : Nat → Nat} {n : Nat} (hm : ∀ s, s < 3 → m s ≤ 4) (hn : n ≤ 6) : ∀ s, s ≤ 3 → zB3 (zBA s) (zBB s) (zRn pa le m n st s)
  | 0, _ => h
  | 1, _ => zStN_b hP (by decide) (by decide) (by decide) (by decide) (zRn_b hP h hm hn 0 (by omega)) (by decide) (hm 0 (by decide)) hn
  | 2, _ => zStN_b hP (by decide) (by decide) (by decide) (by decide) (zRn_b hP h hm hn 1 (by omega)) (by decide) (hm 1 (by decide)) hn
  | 3, _ => zStN_b hP (by decide) (by decide) (by decide) (by decide) (zRn_b hP h hm hn 2 (by omega)) (by decide) (hm 2 (by decide)) hn
theorem zpass_d : ∀ c, c < 4 → ∀ f, f < 91 → 0 ≤ (zPassOf (nI c) - zPassOf (nI c) * nI f / 100).toInt ∧ (zPassOf (nI c) - zPassOf (nI c) * nI f / 100).toInt ≤ 60 := by decide +kernel
theorem zleak_d : ∀ c, c < 4 → 0 ≤ (zLeakOf (nI c)).toInt ∧ (zLeakOf (nI c)).toInt ≤ 25 := by decide +kernel
theorem zPLσ {σ : zσ} (hσ : zOk σ) : zPL (zPaf σ) (zLef σ) := fun k hk => ⟨zpass_d _ (hσ.2.2.2.2.2.2.2.1 k hk) _ (by have := hσ.2.2.2.2.2.2.2.2.1 k hk; omega), zleak_d _ (hσ.2.2.2.2.2.2.2.1 k hk)⟩
theorem zS0_b {σ : zσ} (hσ : zOk σ) {p : Nat} (hp : p ≤ 900) : zB3 20000 1200000000 (zS0p σ (nI p)) := by
  have h1 := hσ.2.1
  have h2 := hσ.2.2.1
  have e1 := nI64 (n := σ.1 1) (by omega)
  have e2 := nI64 (n := σ.1 2) (by omega)
  have e3 := nI64 (n := p) (by omega)
  have hm : ((σ.1 1 : Nat) : Int) * ((σ.1 2 : Nat) : Int) ≤ 20000 * 60000 := Int.mul_le_mul (by omega) (by omega) (by omega) (by decide)
  have hm0 : 0 ≤ ((σ.1 1 : Nat) : Int) * ((σ.1 2 : Nat) : Int) := Int.mul_nonneg (by omega) (by omega)
  have e4 : ((nI (σ.1 1)).toInt64 * (nI (σ.1 2)).toInt64).toInt = ((σ.1 1 : Nat) : Int) * ((σ.1 2 : Nat) : Int) := by rw [j_mul (by rw [e1, e2]; omega) (by rw [e1, e2]; omega), e1, e2]
  refine ⟨?_, ?_, ?_⟩
  · show 0 ≤ (nI (σ.1 1)).toInt64.toInt ∧ (nI (σ.1 1)).toInt64.toInt ≤ 20000
    rw [e1]; omega
  · show 0 ≤ ((nI (σ.1 1)).toInt64 * (nI (σ.1 2)).toInt64).toInt ∧ ((nI (σ.1 1)).toInt64 * (nI (σ.1 2)).toInt64).toInt ≤ 1200000000
    rw [e4]; omega
  · show 0 ≤ (nI p).toInt64.toInt ∧ (nI p).toInt64.toInt ≤ 900
    rw [e3]; omega
/-- what a standing skin gets is in bounds; what it lets through isn't below 0 -/
theorem zAt_b {σ : zσ} (hσ : zOk σ) {p : Nat} (hp : p ≤ 900) {m : Nat → Nat} (hm : ∀ s, s < 3 → m s ≤ 4) {k : Nat} (hk : k < 72) (h2 : k % 24 / 6 < m (k / 24)) : zB3 10000000 1000000000000000 (zVs (zPaf σ) (zLef σ) (k / 24 * 24 + k % 24 / 6 * 6) (zIn (zRn (zPaf σ) (zLef σ) m (σ.1 0) (zS0p σ (nI p)) (k / 24)) (m (k / 24)) (k % 24 / 6)) (k % 6)) := by
  have hr := zRn_b (zPLσ hσ) (zS0_b hσ hp) hm hσ.1.2 (k / 24) (by omega)
  have hA : zBA (k / 24) ≤ 1280084 ∧ 0 ≤ zBA (k / 24) ∧ zBB (k / 24) ≤ 2073600000000 ∧ 0 ≤ zBB (k / 24) := by
    rcases (show k / 24 = 0 ∨ k / 24 = 1 ∨ k / 24 = 2 by omega) with e | e | e <;> rw [e] <;> decide
  have hi := zIn_b (by omega) (by omega) hr (m := m (k / 24)) (v := k % 24 / 6) ⟨by omega, hm _ (by omega)⟩ (by omega)
  obtain ⟨b1, b2, b3⟩ := zVs_b (zPLσ hσ) (by omega) (by omega) (f0 := k / 24 * 24 + k % 24 / 6 * 6) hi (k % 6) (by omega)
  exact ⟨⟨b1.1, by omega⟩, ⟨b2.1, by omega⟩, b3⟩
theorem zCell3_b {σ : zσ} (hσ : zOk σ) {p : Nat} (hp : p ≤ 900) {m : Nat → Nat} (hm : ∀ s, s < 3 → m s ≤ 4) {k : Nat} (hk : k < 72) (h2 : k % 24 / 6 < m (k / 24)) : 0 ≤ (zCellp σ (nI p) m 3 k).toInt ∧ (zCellp σ (nI p) m 3 k).toInt ≤ 10000000 := by
  obtain ⟨b1, b2, b3⟩ := zAt_b hσ hp hm hk h2
  have := zThr_b (zPLσ hσ k hk).1 b1.1 b2 b3
  exact ⟨this.1, Int.le_trans this.2 b1.2⟩
end
section
/-! The plant: days. -/
abbrev zWsh (σ : zσ) : Prop := 0 < σ.2.1 3 4 ∧ (σ.1 4 + 1) % σ.2.1 3 4 = 0
def zSoN (σ : zσ) (k : Nat) : Nat := min 90 (σ.2.1 2 k + (zCell σ 3 k).toInt.toNat / σ.2.1 3 3)
def zNewF (σ : zσ) (k : Nat) : Nat := if zHσ σ k then (if zWsh σ then zSoN σ k / 2 else zSoN σ k) else σ.2.1 2 k
def zDay (σ : zσ) : zσ := (zuN σ.1 4 (σ.1 4 + 1), zu2 σ.2.1 2 (zfilN (σ.2.1 2) 72 (zNewF σ)), σ.2.2)
theorem zfilN_sN (f g : Nat → Nat) (i : Nat) : zuN (zfilN f i g) i (g i) = zfilN f (i + 1) g := by
  funext j
  unfold zuN zfilN
  by_cases h : j = i
  · subst h; rw [if_pos rfl, if_pos (by omega)]
  · rw [if_neg h]
    by_cases h2 : j < i
    · rw [if_pos h2, if_pos (by omega)]
    · rw [if_neg h2, if_neg (by omega)]
theorem zfilN_k (f g : Nat → Nat) (i : Nat) (h : g i = f i) : zfilN f i g = zfilN f (i + 1) g := by
  funext j
  unfold zfilN
  by_cases h2 : j < i
  · rw [if_pos h2, if_pos (by omega)]
  · rw [if_neg h2]
    by_cases h3 : j = i
    · subst h3; rw [if_pos (by omega), h]
    · rw [if_neg (by omega)]
theorem zfilN_i (f g : Nat → Nat) (i : Nat) : zfilN f i g i = f i := if_neg (by omega)
theorem zuN_i (f : Nat → Nat) (i x : Nat) : zuN f i x i = x := if_pos rfl
theorem zuN_2 (f : Nat → Nat) (i x y : Nat) : zuN (zuN f i x) i y = zuN f i y := by
  funext j; unfold zuN; split <;> rfl
theorem zHσ_m {σ : zσ} (hσ : zOk σ) {k : Nat} (hk : k < 72) (h : zHσ σ k) : k % 24 / 6 < zMs σ (k / 24) := ((zHd_N hσ.2.2.2.2.2.1 hσ.1.2 hk).mp h).2
theorem zSoil_N {f r : Nat} {t : Int64} (hf : f ≤ 90) (hr : 1 ≤ r ∧ r ≤ 1000) (ht : 0 ≤ t.toInt ∧ t.toInt ≤ 10000000) : zSoil (nI f) (t / (nI r).toInt64) = nI (min 90 (f + t.toInt.toNat / r)) := by
  have er := nI64 (n := r) (by omega)
  have ef := nI64 (n := f) (by omega)
  have ed : (t / (nI r).toInt64).toInt = t.toInt / r := by rw [j_div ht.1 (by rw [er]; omega), er]
  have hd : t.toInt / r ≤ t.toInt := Int.ediv_le_self _ ht.1
  have hd0 : 0 ≤ t.toInt / r := Int.ediv_nonneg ht.1 (by omega)
  have ea : ((nI f).toInt64 + t / (nI r).toInt64).toInt = (f : Int) + t.toInt / r := by rw [j_add (by rw [ed, ef]; omega) (by rw [ed, ef]; omega), ed, ef]
  have k90 : (90 : Int64).toInt = 90 := by decide
  have en : ((t.toInt.toNat / r : Nat) : Int) = t.toInt / r := by
    have : ((t.toInt.toNat : Nat) : Int) = t.toInt := by omega
    rw [Int.natCast_ediv, this]
  apply i_nI
  unfold zSoil
  by_cases h : (nI f).toInt64 + t / (nI r).toInt64 < 90
  · have h2 := Int64.lt_iff_toInt_lt.mp h
    rw [ea, k90] at h2
    rw [if_pos h, Int64.toInt_toInt32, ea, i_bm (by omega) (by omega)]
    omega
  · have h2 := mt Int64.lt_iff_toInt_lt.mpr h
    rw [ea, k90] at h2
    rw [if_neg h, Int64.toInt_toInt32, k90, i_bm (by omega) (by omega)]
    omega
theorem zSoil_σ {σ : zσ} (hσ : zOk σ) {k : Nat} (hk : k < 72) (h : zHσ σ k) : zSoil (nI (σ.2.1 2 k)) (zCell σ 3 k / (nI (σ.2.1 3 3)).toInt64) = nI (zSoN σ k) :=
  zSoil_N (hσ.2.2.2.2.2.2.2.2.1 k hk) (hσ.2.2.2.2.2.2.2.2.2.1 3 (by decide)) (zCell3_b hσ hσ.2.2.2.1 (fun s hs => (zVin_N hσ.2.2.2.2.2.1 hs).2) hk (zHσ_m hσ hk h))
theorem zSoN_le (σ : zσ) (k : Nat) : zSoN σ k ≤ 90 := Nat.min_le_left _ _
theorem zNewF_le {σ : zσ} (hσ : zOk σ) {k : Nat} (hk : k < 72) : zNewF σ k ≤ 90 := by
  have h1 := zSoN_le σ k
  have h2 := hσ.2.2.2.2.2.2.2.2.1 k hk
  unfold zNewF
  split
  · split <;> omega
  · exact h2
theorem zOk_day {σ : zσ} (hσ : zOk σ) (h : σ.1 4 + 1 ≤ 1000) : zOk (zDay σ) := by
  obtain ⟨a1, a2, a3, a4, a5, a6, a7, a8, a9, a10, a11, a12, a13, a14⟩ := hσ
  refine ⟨a1, a2, a3, a4, h, a6, a7, a8, fun k hk => ?_, a10, a11, a12, a13, a14⟩
  show zfilN (σ.2.1 2) 72 (zNewF σ) k ≤ 90
  unfold zfilN
  rw [if_pos hk]
  exact zNewF_le ⟨a1, a2, a3, a4, a5, a6, a7, a8, a9, a10, a11, a12, a13, a14⟩ hk
def zDays (σ : zσ) : Nat → zσ
  | 0 => σ
  | i + 1 => zDay (zDays σ i)
theorem zDays_4 (σ : zσ) : ∀ i, (zDays σ i).1 4 = σ.1 4 + i
  | 0 => rfl
  | i + 1 => by
    show (zDays σ i).1 4 + 1 = σ.1 4 + (i + 1)
    rw [zDays_4 σ i]; omega
theorem zDays_ok {σ : zσ} (hσ : zOk σ) : ∀ i, σ.1 4 + i ≤ 1000 → zOk (zDays σ i)
  | 0, _ => hσ
  | i + 1, h => zOk_day (zDays_ok hσ i (by omega)) (by rw [zDays_4]; omega)
def o_days (σ : zσ) (n : Int32) : Int64 × zσ := if zOR n 1 60 ∨ ¬ nI (σ.1 4) + n ≤ 1000 then (zBAD, σ) else ((nI (σ.1 4 + n.toNatClampNeg)).toInt64, zDays σ n.toNatClampNeg)
set_option maxRecDepth 100000 in
set_option maxHeartbeats 4000000 in
theorem lp_day (l : Launch) (G : zG) (ad : Nat → Nat) (σ : zσ) (hσ : zOk σ) (x0 u : zX) (hu : zFlow σ (nI (σ.1 3)) (zMs σ) u) : ∀ (q i : Nat), i + q = 72 → AV l G sX5_passDay (wP G ad σ x0) (z0 (fun _ : zX => True) (fun u => wP G ad (zDay σ) u)) 54 [some (.ref (ad 0)), some (.int (nI (σ.2.1 3 3))), some (.int (nI (σ.2.1 3 4))), some (.int (zB (zWsh σ))), some (.int (nI i))] [] (wP G ad (zuN σ.1 4 (σ.1 4 + 1), zu2 σ.2.1 2 (zfilN (σ.2.1 2) i (zNewF σ)), σ.2.2) u) := by
  intro q_
  induction q_ using Nat.strongRecOn
  rename_i q_ ih_
  intro i hq_
  refine a_iload_4 (pc := 54) dX5_passDay_54 ?_
  refine a_bipush (v := 72) (pc := 56) dX5_passDay_56 (by decide) ?_
  refine a_icmp_ge (tgt := 114) (pc := 58) dX5_passDay_58 (by decide) (fun c_58 => ?_) (fun c_58 => ?_)
  · obtain rfl : i = 72 := by have := (zI_le (a := 72) (b := i) (by decide) (by omega)).mp c_58; omega
    exact a_vret (pc := 114) dX5_passDay_114 rfl rfl ⟨u, trivial, rfl, rfl⟩
  · have hi_ : i < 72 := by have := mt (zI_le (a := 72) (b := i) (by decide) (by omega)).mpr c_58; omega
    refine a_aload_0 (pc := 61) dX5_passDay_61 ?_
    refine a_getf (ci := 5) (j := 1) rfl win_X5 (by decide) (pc := 62) dX5_passDay_62 kf_X5_16 rfl rfl ?_
    refine a_iload_4 (pc := 65) dX5_passDay_65 ?_
    refine cV_P (ad := ad) (q0 := 2) (S2 := sX2_holdsSkin) (c_holdsSkin l G (zpk ad [2, 3]) (zVesf σ) (nI (σ.1 0)) i hi_) kc_X2_holdsSkin km_X5_105 ki_X2_holdsSkin kv_X2_holdsSkin kini_X2 ⟨kn_X2_holdsSkin, by decide, by decide⟩ (pc := 67) dX5_passDay_67 [2, 3] rfl rfl rfl rfl (Nat.le_of_ble_eq_true rfl) rfl rfl rfl ?_
    first | refine a_if_eqB (tgt := 108) (pc := 70) dX5_passDay_70 (by decide) (fun c_70 => ?_) (fun c_70 => ?_) | refine a_if_eq (tgt := 108) (pc := 70) dX5_passDay_70 (by decide) (fun c_70 => ?_) (fun c_70 => ?_)
    · refine a_iinc_4 (cst := 1) (pc := 108) dX5_passDay_108 rfl (by decide) (by decide) ?_
      refine a_goto (tgt := 54) (pc := 111) dX5_passDay_111 (by decide) ?_
      rw [← nI_succ]
      refine a_to (ih_ (q_ - 1) (by omega) (i + 1) (by omega)) rfl rfl rfl ?_
      first
        | rw [← zfilN_k (σ.2.1 2) (zNewF σ) i (by unfold zNewF; rw [if_neg c_70])]
        | rw [← zfilN_sN (σ.2.1 2) (zNewF σ) i, show zNewF σ i = zSoN σ i by unfold zNewF; rw [if_pos c_70, if_neg c_96]]
        | rw [← zfilN_sN (σ.2.1 2) (zNewF σ) i, show zNewF σ i = zSoN σ i / 2 by unfold zNewF; rw [if_pos c_70, if_pos c_96], zuN_2]
    · have hs_ := zSoil_σ hσ hi_ c_70
      have hne_ : ¬ (nI (σ.2.1 3 3)).toInt64 = 0 := fun h => by
        have h3_ := hσ.2.2.2.2.2.2.2.2.2.1 3 (by decide)
        have h4_ : 1 ≤ σ.2.1 3 3 ∧ σ.2.1 3 3 ≤ 1000 := h3_
        have := congrArg Int64.toInt h
        rw [nI64 (by omega), j_0] at this
        omega
      refine a_aload_0 (pc := 73) dX5_passDay_73 ?_
      refine a_getf (ci := 5) (j := 3) rfl win_X5 (by decide) (pc := 74) dX5_passDay_74 kf_X5_26 rfl rfl ?_
      refine a_iload_4 (pc := 77) dX5_passDay_77 ?_
      refine a_aload_0 (pc := 79) dX5_passDay_79 ?_
      refine a_getf (ci := 5) (j := 4) rfl win_X5 (by decide) (pc := 80) dX5_passDay_80 kf_X5_33 rfl rfl ?_
      refine a_getfN (ci := 0) (j := 5) rfl win_X0 (by decide) (pc := 83) dX5_passDay_83 kf_X5_124 rfl rfl ?_
      refine a_iload_4 (pc := 86) dX5_passDay_86 ?_
      refine a_laldN (pc := 88) dX5_passDay_88 rfl (by omega) (by decide) ?_
      rw [zFlow_at hσ hu hi_ c_70 (a := 3) (by decide)]
      refine a_iload_1 (pc := 89) dX5_passDay_89 ?_
      refine a_i2l (pc := 90) dX5_passDay_90 ?_
      refine a_ldiv (pc := 91) dX5_passDay_91 hne_ ?_
      refine cV_0 (ad := ad) (q0 := 6) (S2 := sX4_soil) (c_soil l G (zpk ad [6, 7, 8]) (zKd σ) (fun j => nI (zfilN (σ.2.1 2) i (zNewF σ) j)) i hi_ _) kc_X4_soil km_X5_279 ki_X4_soil kv_X4_soil kini_X4 ⟨kn_X4_soil, by decide, by decide⟩ (pc := 92) dX5_passDay_92 [6, 7, 8] rfl rfl rfl rfl (Nat.le_of_ble_eq_true rfl) rfl rfl rfl (fun _ => wP G ad (zuN σ.1 4 (σ.1 4 + 1), zu2 σ.2.1 2 (zuN (zfilN (σ.2.1 2) i (zNewF σ)) i (zSoN σ i)), σ.2.2) u) (fun _ => by show _ = _; rw [zfilN_i, hs_, updN]; rfl) (fun _u _ => ?_)
      refine a_iload_3 (pc := 95) dX5_passDay_95 ?_
      first | refine a_if_eqB (tgt := 108) (pc := 96) dX5_passDay_96 (by decide) (fun c_96 => ?_) (fun c_96 => ?_) | refine a_if_eq (tgt := 108) (pc := 96) dX5_passDay_96 (by decide) (fun c_96 => ?_) (fun c_96 => ?_)
      · refine a_iinc_4 (cst := 1) (pc := 108) dX5_passDay_108 rfl (by decide) (by decide) ?_
        refine a_goto (tgt := 54) (pc := 111) dX5_passDay_111 (by decide) ?_
        rw [← nI_succ]
        refine a_to (ih_ (q_ - 1) (by omega) (i + 1) (by omega)) rfl rfl rfl ?_
        first
          | rw [← zfilN_k (σ.2.1 2) (zNewF σ) i (by unfold zNewF; rw [if_neg c_70])]
          | rw [← zfilN_sN (σ.2.1 2) (zNewF σ) i, show zNewF σ i = zSoN σ i by unfold zNewF; rw [if_pos c_70, if_neg c_96]]
          | rw [← zfilN_sN (σ.2.1 2) (zNewF σ) i, show zNewF σ i = zSoN σ i / 2 by unfold zNewF; rw [if_pos c_70, if_pos c_96], zuN_2]
      · refine a_aload_0 (pc := 99) dX5_passDay_99 ?_
        refine a_getf (ci := 5) (j := 3) rfl win_X5 (by decide) (pc := 100) dX5_passDay_100 kf_X5_26 rfl rfl ?_
        refine a_iload_4 (pc := 103) dX5_passDay_103 ?_
        refine cV_0 (ad := ad) (q0 := 6) (S2 := sX4_wash) (c_wash l G (zpk ad [6, 7, 8]) (zKd σ) (fun j => nI (zuN (zfilN (σ.2.1 2) i (zNewF σ)) i (zSoN σ i) j)) i hi_) kc_X4_wash km_X5_283 ki_X4_wash kv_X4_wash kini_X4 ⟨kn_X4_wash, by decide, by decide⟩ (pc := 105) dX5_passDay_105 [6, 7, 8] rfl rfl rfl rfl (Nat.le_of_ble_eq_true rfl) rfl rfl rfl (fun _ => wP G ad (zuN σ.1 4 (σ.1 4 + 1), zu2 σ.2.1 2 (zuN (zuN (zfilN (σ.2.1 2) i (zNewF σ)) i (zSoN σ i)) i (zSoN σ i / 2)), σ.2.2) u) (fun _ => by show _ = _; rw [zuN_i, show (2 : Int32) = nI 2 from rfl, zI_div (by have := zSoN_le σ i; omega) (by decide) (by decide), updN]; rfl) (fun _u2 _ => ?_)
        refine a_iinc_4 (cst := 1) (pc := 108) dX5_passDay_108 rfl (by decide) (by decide) ?_
        refine a_goto (tgt := 54) (pc := 111) dX5_passDay_111 (by decide) ?_
        rw [← nI_succ]
        refine a_to (ih_ (q_ - 1) (by omega) (i + 1) (by omega)) rfl rfl rfl ?_
        first
          | rw [← zfilN_k (σ.2.1 2) (zNewF σ) i (by unfold zNewF; rw [if_neg c_70])]
          | rw [← zfilN_sN (σ.2.1 2) (zNewF σ) i, show zNewF σ i = zSoN σ i by unfold zNewF; rw [if_pos c_70, if_neg c_96]]
          | rw [← zfilN_sN (σ.2.1 2) (zNewF σ) i, show zNewF σ i = zSoN σ i / 2 by unfold zNewF; rw [if_pos c_70, if_pos c_96], zuN_2]

set_option maxRecDepth 100000 in
set_option maxHeartbeats 4000000 in
/-- passDay -/
theorem p_passDay (l : Launch) (G : zG) (ad : Nat → Nat) (σ : zσ) (hσ : zOk σ) (x0 : zX) : zSem l G sX5_passDay [.ref (ad 0)] (wP G ad σ x0) (z0 (fun _ : zX => True) (fun u => wP G ad (zDay σ) u)) := by
  refine zEnterV (L := [some (.ref (ad 0)), none, none, none, none]) (by decide) rfl (Nat.le_of_ble_eq_true rfl) rfl ?_
  refine a_aload_0 (pc := 0) dX5_passDay_0 ?_
  refine f_0 (ad := ad) (q0 := 0) (S2 := sX5_letFlow) (p_letFlow l G ad σ x0 hσ) kc_X5_letFlow km_X5_111 ki_X5_letFlow kv_X5_letFlow kini_X5 ⟨kn_X5_letFlow, by decide, by decide⟩ (pc := 1) dX5_passDay_1 (znd_of rfl znd28) rfl rfl (Nat.le_of_ble_eq_true rfl) rfl rfl rfl (fun u_ hu_ => ?_)
  refine a_aload_0 (pc := 4) dX5_passDay_4 ?_
  refine a_dup (pc := 5) dX5_passDay_5 rfl ?_
  refine a_getf (ci := 5) (j := 10) rfl win_X5 (by decide) (pc := 6) dX5_passDay_6 kf_X5_61 rfl rfl ?_
  refine a_iconst (v := 1) (pc := 9) dX5_passDay_9 (by decide) ?_
  refine a_iadd (pc := 10) dX5_passDay_10 ?_
  rw [← nI_succ]
  refine a_putf (ci := 5) (j := 10) rfl win_X5 tyX5_ok nmX5 (by decide) (pc := 11) dX5_passDay_11 kf_X5_61 rfl rfl rfl rfl rfl (Nat.le_of_ble_eq_true rfl) ?_
  refine a_iconst (v := 1) (pc := 14) dX5_passDay_14 (by decide) ?_
  refine a_aload_0 (pc := 15) dX5_passDay_15 ?_
  refine a_getf (ci := 5) (j := 0) rfl win_X5 (by decide) (pc := 16) dX5_passDay_16 kf_X5_9 rfl rfl ?_
  refine a_iconst (v := 3) (pc := 19) dX5_passDay_19 (by decide) ?_
  refine a_ialdN (k := 3) (pc := 20) dX5_passDay_20 rfl (by omega) (by decide) ?_
  refine a_maxI (pc := 21) dX5_passDay_21 km_X5_276 (by decide) (Nat.le_of_ble_eq_true rfl) ?_
  have h3_ : 1 ≤ σ.2.1 3 3 ∧ σ.2.1 3 3 ≤ 1000 := hσ.2.2.2.2.2.2.2.2.2.1 3 (by decide)
  have h4_ : 0 ≤ σ.2.1 3 4 ∧ σ.2.1 3 4 ≤ 30 := hσ.2.2.2.2.2.2.2.2.2.1 4 (by decide)
  have hd_ := hσ.2.2.2.2.1
  rw [show (if (1 : Int32) < nI (σ.2.1 3 3) then nI (σ.2.1 3 3) else 1) = nI (σ.2.1 3 3) by
    by_cases h : (1 : Int32) < nI (σ.2.1 3 3)
    · rw [if_pos h]
    · rw [if_neg h]
      have := mt (zI_lt (a := 1) (b := σ.2.1 3 3) (by decide) (by omega)).mpr h
      rw [show σ.2.1 3 3 = 1 by omega]; rfl]
  refine a_istore_1 (pc := 24) dX5_passDay_24 rfl (by decide) ?_
  refine a_aload_0 (pc := 25) dX5_passDay_25 ?_
  refine a_getf (ci := 5) (j := 0) rfl win_X5 (by decide) (pc := 26) dX5_passDay_26 kf_X5_9 rfl rfl ?_
  refine a_iconst (v := 4) (pc := 29) dX5_passDay_29 (by decide) ?_
  refine a_ialdN (k := 4) (pc := 30) dX5_passDay_30 rfl (by omega) (by decide) ?_
  refine a_istore_2 (pc := 31) dX5_passDay_31 rfl (by decide) ?_
  have J50_ : ∀ y_ : Int32, y_ = zB (zWsh σ) → AV l G sX5_passDay (wP G ad σ x0) (z0 (fun _ : zX => True) (fun u => wP G ad (zDay σ) u)) 50 [some (.ref (ad 0)), some (.int (nI (σ.2.1 3 3))), some (.int (nI (σ.2.1 3 4))), none, none] [.int y_] (wP G ad (zuN σ.1 4 (σ.1 4 + 1), σ.2) u_) := by
    intro y_ hy_; subst hy_
    refine a_istore_3 (pc := 50) dX5_passDay_50 rfl (by decide) ?_
    refine a_iconst (v := 0) (pc := 51) dX5_passDay_51 (by decide) ?_
    refine a_istore_4 (pc := 52) dX5_passDay_52 rfl (by decide) ?_
    exact a_to (lp_day l G ad σ hσ x0 u_ hu_.1 72 0 (by omega)) rfl rfl rfl (by rw [zfilN_0, zu2_self])
  refine a_iload_2 (pc := 32) dX5_passDay_32 ?_
  refine a_if_le (tgt := 49) (pc := 33) dX5_passDay_33 (by decide) (fun c_33 => ?_) (fun c_33 => ?_)
  · have h0_ : ¬ 0 < σ.2.1 3 4 := by have := (zI_le (a := σ.2.1 3 4) (b := 0) (by omega) (by decide)).mp c_33; omega
    refine a_iconst (v := 0) (pc := 49) dX5_passDay_49 (by decide) ?_
    first | exact J50_ _ (zB_1 ⟨h0_, hr_⟩).symm | exact J50_ _ (zB_0 (fun h => hr_ h.2)).symm | exact J50_ _ (zB_0 (fun h => h0_ h.1)).symm
  · have h0_ : 0 < σ.2.1 3 4 := by have := mt (zI_le (a := σ.2.1 3 4) (b := 0) (by omega) (by decide)).mpr c_33; omega
    refine a_aload_0 (pc := 36) dX5_passDay_36 ?_
    refine a_getf (ci := 5) (j := 10) rfl win_X5 (by decide) (pc := 37) dX5_passDay_37 kf_X5_61 rfl rfl ?_
    refine a_iload_2 (pc := 40) dX5_passDay_40 ?_
    refine a_irem (pc := 41) dX5_passDay_41 (fun h => absurd (zI_inj (b := 0) (by omega) (by decide) h) (by omega)) ?_
    rw [zI_rem (by omega) (by omega) (by omega)]
    first | refine a_if_neB (tgt := 49) (pc := 42) dX5_passDay_42 (by decide) (fun c_42 => ?_) (fun c_42 => ?_) | refine a_if_ne (tgt := 49) (pc := 42) dX5_passDay_42 (by decide) (fun c_42 => ?_) (fun c_42 => ?_)
    · have hr_ : ¬ (σ.1 4 + 1) % σ.2.1 3 4 = 0 := fun h => c_42 (by rw [h]; rfl)
      refine a_iconst (v := 0) (pc := 49) dX5_passDay_49 (by decide) ?_
      first | exact J50_ _ (zB_1 ⟨h0_, hr_⟩).symm | exact J50_ _ (zB_0 (fun h => hr_ h.2)).symm | exact J50_ _ (zB_0 (fun h => h0_ h.1)).symm
    · have hr_ : (σ.1 4 + 1) % σ.2.1 3 4 = 0 := zI_inj (b := 0) (by have := Nat.mod_lt (σ.1 4 + 1) h0_; omega) (by decide) c_42
      refine a_iconst (v := 1) (pc := 45) dX5_passDay_45 (by decide) ?_
      refine a_goto (tgt := 50) (pc := 46) dX5_passDay_46 (by decide) ?_
      first | exact J50_ _ (zB_1 ⟨h0_, hr_⟩).symm | exact J50_ _ (zB_0 (fun h => hr_ h.2)).symm | exact J50_ _ (zB_0 (fun h => h0_ h.1)).symm

set_option maxRecDepth 100000 in
set_option maxHeartbeats 4000000 in
theorem lp_days (l : Launch) (G : zG) (ad : Nat → Nat) (σ : zσ) (hσ : zOk σ) (x0 : zX) (n : Nat) (hn : n ≤ 60) (hd : σ.1 4 + n ≤ 1000) : ∀ (q i : Nat) (u : zX), i + q = n → AV l G sX5_days (wP G ad σ x0) (zPost G ad ((nI (σ.1 4 + n)).toInt64, zDays σ n)) 28 [some (.ref (ad 0)), some (.int (nI n)), some (.int (nI i))] [] (wP G ad (zDays σ i) u) := by
  intro q_
  induction q_ using Nat.strongRecOn
  rename_i q_ ih_
  intro i u hq_
  refine a_iload_2 (pc := 28) dX5_days_28 ?_
  refine a_iload_1 (pc := 29) dX5_days_29 ?_
  refine a_icmp_ge (tgt := 43) (pc := 30) dX5_days_30 (by decide) (fun c_30 => ?_) (fun c_30 => ?_)
  · obtain rfl : i = n := by have := (zI_le (by omega) (by omega)).mp c_30; omega
    refine a_aload_0 (pc := 43) dX5_days_43 ?_
    refine a_getf (ci := 5) (j := 10) rfl win_X5 (by decide) (pc := 44) dX5_days_44 kf_X5_61 rfl rfl ?_
    rw [zDays_4]
    refine a_i2l (pc := 47) dX5_days_47 ?_
    exact a_lret (pc := 48) dX5_days_48 rfl rfl (zret' u rfl rfl)
  · have hi_ : i < n := by have := mt (zI_le (a := n) (b := i) (by omega) (by omega)).mpr c_30; omega
    refine a_aload_0 (pc := 33) dX5_days_33 ?_
    refine f_0 (ad := ad) (q0 := 0) (S2 := sX5_passDay) (p_passDay l G ad (zDays σ i) (zDays_ok hσ i (by omega)) u) kc_X5_passDay km_X5_164 ki_X5_passDay kv_X5_passDay kini_X5 ⟨kn_X5_passDay, by decide, by decide⟩ (pc := 34) dX5_days_34 (znd_of rfl znd28) rfl rfl (Nat.le_of_ble_eq_true rfl) rfl rfl rfl (fun u2_ _ => ?_)
    refine a_iinc_2 (cst := 1) (pc := 37) dX5_days_37 rfl (by decide) (by decide) ?_
    refine a_goto (tgt := 28) (pc := 40) dX5_days_40 (by decide) ?_
    rw [← nI_succ]
    exact ih_ (q_ - 1) (by omega) (i + 1) u2_ (by omega)

set_option maxRecDepth 100000 in
set_option maxHeartbeats 4000000 in
theorem p_days (l : Launch) (G : zG) (ad : Nat → Nat) (σ : zσ) (x0 : zX) (hσ : zOk σ) (n : Int32) : zSem l G sX5_days [.ref (ad 0), .int n] (wP G ad σ x0) (zPost G ad (o_days σ n)) := by
  refine zEnterV (L := [some (.ref (ad 0)), some (.int n), none]) (by decide) rfl (Nat.le_of_ble_eq_true rfl) rfl ?_
  refine a_iload_1 (pc := 0) dX5_days_0 ?_
  refine a_iconst (v := 1) (pc := 1) dX5_days_1 (by decide) ?_
  refine a_bipush (v := 60) (pc := 2) dX5_days_2 (by decide) ?_
  refine cS_P (S2 := sX5_outside) (c_outside l G _ _ _) kc_X5_outside km_X5_64 ks_X5_outside kini_X5 ⟨kn_X5_outside, by decide, by decide⟩ (pc := 4) dX5_days_4 [] rfl rfl rfl rfl (Nat.le_of_ble_eq_true rfl) ?_
  first | refine a_if_neB (tgt := 22) (pc := 7) dX5_days_7 (by decide) (fun c_7 => ?_) (fun c_7 => ?_) | refine a_if_ne (tgt := 22) (pc := 7) dX5_days_7 (by decide) (fun c_7 => ?_) (fun c_7 => ?_)
  · refine a_ldc2 (pc := 22) dX5_days_22 kl_X5_68 ?_
    exact a_lret (pc := 25) dX5_days_25 rfl rfl (by first | exact zret' x0 (if_pos (Or.inl c_7)) rfl | exact zret' x0 (if_pos (Or.inr c_19)) rfl)
  · refine a_aload_0 (pc := 10) dX5_days_10 ?_
    refine a_getf (ci := 5) (j := 10) rfl win_X5 (by decide) (pc := 11) dX5_days_11 kf_X5_61 rfl rfl ?_
    refine a_iload_1 (pc := 14) dX5_days_14 ?_
    refine a_iadd (pc := 15) dX5_days_15 ?_
    refine a_sipush (v := 1000) (pc := 16) dX5_days_16 (by decide) ?_
    refine a_icmp_le (tgt := 26) (pc := 19) dX5_days_19 (by decide) (fun c_19 => ?_) (fun c_19 => ?_)
    · obtain ⟨k, hk_, rfl⟩ := zrange1 (n := 60) (by decide) rfl c_7
      have hd_ := hσ.2.2.2.2.1
      have hle_ : σ.1 4 + k ≤ 1000 := by
        rw [← zI_add] at c_19
        exact (zI_le (b := 1000) (by omega) (by decide)).mp c_19
      refine a_iconst (v := 0) (pc := 26) dX5_days_26 (by decide) ?_
      refine a_istore_2 (pc := 27) dX5_days_27 rfl (by decide) ?_
      have e_ : o_days σ (nI k) = ((nI (σ.1 4 + k)).toInt64, zDays σ k) := by
        unfold o_days
        rw [if_neg (fun h => h.elim c_7 (fun h => h c_19)), nI_clamp (by omega)]
      rw [e_]
      exact lp_days l G ad σ hσ x0 k hk_.2 hle_ k 0 x0 (by omega)
    · refine a_ldc2 (pc := 22) dX5_days_22 kl_X5_68 ?_
      exact a_lret (pc := 25) dX5_days_25 rfl rfl (by first | exact zret' x0 (if_pos (Or.inl c_7)) rfl | exact zret' x0 (if_pos (Or.inr c_19)) rfl)
end
section
/-! Every call keeps the bounds. -/
theorem zuN_p {P : Nat → Nat → Prop} {f : Nat → Nat} {k x N : Nat} (h : ∀ j, j < N → P j (f j)) (hx : P k x) : ∀ j, j < N → P j (zuN f k x j) := by
  intro j hj
  unfold zuN
  split
  · rename_i e; subst e; exact hx
  · exact h j hj
theorem zclamp {x : Int32} {k : Nat} (hk : k < 2 ^ 31) (h : x = nI k) : x.toNatClampNeg = k := by rw [h, nI_clamp hk]
theorem zOk_stage {σ : zσ} (hσ : zOk σ) (x n : Int32) : zOk (o_stage σ x n).2 := by
  by_cases h : zOR x 0 2 ∨ zOR n (if x = 0 then 1 else 0) 4
  · unfold o_stage; rw [if_pos h]; exact hσ
  · unfold o_stage
    rw [if_neg h]
    obtain ⟨k, hk, rfl⟩ := zrange (n := 2) (by decide) rfl (fun q => h (Or.inl q))
    obtain ⟨m, hm, rfl⟩ : ∃ z, z ≤ 4 ∧ n = nI z := zrange (n := 4) (by decide) rfl (fun q => h (Or.inr (q.elim (fun q => Or.inl (by split <;> first | exact q | exact Int32.lt_trans q (by decide))) Or.inr)))
    obtain ⟨a1, a2, a3, a4, a5, a6, a7, a8, a9, a10, a11, a12, a13, a14⟩ := hσ
    rw [nI_clamp (by omega), nI_clamp (by omega)]
    refine ⟨a1, a2, a3, a4, a5, zuN_p (P := fun _ z => z ≤ 4) a6 hm, ?_, a8, a9, a10, a11, a12, a13, a14⟩
    show 1 ≤ zuN (σ.2.1 0) k m 0
    unfold zuN
    split
    · rename_i e
      subst e
      apply Decidable.byContradiction
      intro q
      obtain rfl : m = 0 := by omega
      exact h (Or.inr (Or.inl (by decide)))
    · exact a7
theorem zOk_length {σ : zσ} (hσ : zOk σ) (n : Int32) : zOk (o_length σ n).2 := by
  unfold o_length
  split
  · exact hσ
  · rename_i h
    obtain ⟨k, hk, rfl⟩ := zrange1 (n := 6) (by decide) rfl h
    obtain ⟨a1, a2⟩ := hσ
    rw [nI_clamp (by omega)]
    exact ⟨hk, a2⟩
theorem zOk_fresh {σ : zσ} (hσ : zOk σ) (x c : Int32) : zOk (o_fresh σ x c).2 := by
  unfold o_fresh
  split
  · exact hσ
  · rename_i h
    obtain ⟨m, hm, rfl⟩ := zrange (n := 3) (by decide) rfl (fun q => h (Or.inr q))
    obtain ⟨a1, a2, a3, a4, a5, a6, a7, a8, a9, a10, a11, a12, a13, a14⟩ := hσ
    rw [nI_clamp (by omega)]
    exact ⟨a1, a2, a3, a4, a5, a6, a7, zuN_p (P := fun _ z => z < 4) a8 (by omega), zuN_p (P := fun _ z => z ≤ 90) a9 (by omega), a10, a11, a12, a13, a14⟩
theorem zOk_feed {σ : zσ} (hσ : zOk σ) (w s p : Int32) : zOk (o_feed σ w s p).2 := by
  unfold o_feed
  split
  · exact hσ
  · rename_i h
    obtain ⟨kw, hw, rfl⟩ := zrange (hi := 20000) (n := 20000) (by decide) (by decide +kernel) (fun q => h (Or.inl q))
    obtain ⟨ks, hs, rfl⟩ := zrange (hi := 60000) (n := 60000) (by decide) (by decide +kernel) (fun q => h (Or.inr (Or.inl q)))
    obtain ⟨kp, hp, rfl⟩ := zrange (hi := 900) (n := 900) (by decide) (by decide +kernel) (fun q => h (Or.inr (Or.inr q)))
    obtain ⟨a1, a2, a3, a4, a5, a6⟩ := hσ
    rw [nI_clamp (by omega), nI_clamp (by omega), nI_clamp (by omega)]
    exact ⟨a1, hw, hs, hp, a5, a6⟩
theorem zExN_p {P : Nat → Prop} {f : Nat → Nat} {a b : Nat} (h : ∀ j, j < 72 → P (f j)) (ha : a < 72) (hb : b < 72) : ∀ j, j < 72 → P (zExN f a b j) :=
  zuN_p (P := fun _ z => P z) (zuN_p (P := fun _ z => P z) h (h b hb)) (h a ha)
theorem zOk_change {σ : zσ} (hσ : zOk σ) (x y : Int32) : zOk (o_change σ x y).2 := by
  unfold o_change
  split
  · exact hσ
  · rename_i h
    obtain ⟨a1, a2, a3, a4, a5, a6, a7, a8, a9, a10, a11, a12, a13, a14⟩ := hσ
    rcases hx : zPl x with _ | a
    · exact absurd (Or.inl hx) h
    · rcases hy : zPl y with _ | b
      · exact absurd (Or.inr (Or.inl hy)) h
      · exact ⟨a1, a2, a3, a4, a5, a6, a7, zExN_p (P := fun z => z < 4) a8 (zPl_lt hx) (zPl_lt hy), zExN_p (P := fun z => z ≤ 90) a9 (zPl_lt hx) (zPl_lt hy), a10, a11, a12, a13, a14⟩
theorem zOk_rule {σ : zσ} (hσ : zOk σ) (x v : Int32) : zOk (o_rule σ x v).2 := by
  unfold o_rule
  split
  · exact hσ
  · rename_i h
    obtain ⟨k, hk, rfl⟩ := zrange (n := 6) (by decide) rfl (fun q => h (Or.inl q))
    have hb := zrule_hb k (by omega)
    have hv : ¬ zOR v (nI (zRuleLo k)) (nI (zRuleHi k)) := fun q => h (Or.inr (by rw [nI_clamp (by omega)]; exact q))
    obtain ⟨m, hm, rfl⟩ := zrangeL (by omega) hb.1 hv
    obtain ⟨a1, a2, a3, a4, a5, a6, a7, a8, a9, a10, a11, a12, a13, a14⟩ := hσ
    rw [nI_clamp (by omega), nI_clamp (by omega)]
    exact ⟨a1, a2, a3, a4, a5, a6, a7, a8, a9, zuN_p (P := fun j z => zRuleLo j ≤ z ∧ z ≤ zRuleHi j) a10 hm, a11, a12, a13, a14⟩
theorem zOk_days {σ : zσ} (hσ : zOk σ) (n : Int32) : zOk (o_days σ n).2 := by
  unfold o_days
  split
  · exact hσ
  · rename_i h
    obtain ⟨k, hk, rfl⟩ := zrange1 (n := 60) (by decide) rfl (fun q => h (Or.inl q))
    have hd := hσ.2.2.2.2.1
    have c : nI (σ.1 4) + nI k ≤ 1000 := Decidable.byContradiction fun q => h (Or.inr q)
    rw [← zI_add] at c
    have := (zI_le (b := 1000) (by omega) (by decide)).mp c
    rw [nI_clamp (by omega)]
    exact zDays_ok hσ k this
theorem zOk_hour {σ : zσ} (hσ : zOk σ) (h w v : Int32) : zOk (o_hour σ h w v).2 := by
  by_cases q : zOR h 0 11 ∨ zOR w 0 1 ∨ zOR v 0 (if w = 0 then 99 else 999)
  · unfold o_hour; rw [if_pos q]; exact hσ
  · unfold o_hour
    rw [if_neg q]
    obtain ⟨k, hk, rfl⟩ := zrange (n := 11) (by decide) rfl (fun z => q (Or.inl z))
    obtain ⟨a1, a2, a3, a4, a5, a6, a7, a8, a9, a10, a11, a12, a13, a14⟩ := hσ
    rcases zrange2 (fun z => q (Or.inr (Or.inl z))) with rfl | rfl
    · obtain ⟨m, hm, rfl⟩ : ∃ z, z ≤ 99 ∧ v = nI z := zrange (hi := if (0 : Int32) = 0 then 99 else 999) (n := 99) (by decide) (by decide +kernel) (fun z => q (Or.inr (Or.inr z)))
      rw [nI_clamp (by omega), nI_clamp (by omega)]
      exact ⟨a1, a2, a3, a4, a5, a6, a7, a8, a9, a10, zuN_p (P := fun _ z => z ≤ 99) a11 hm, a12, a13, a14⟩
    · obtain ⟨m, hm, rfl⟩ : ∃ z, z ≤ 999 ∧ v = nI z := zrange (hi := if (1 : Int32) = 0 then 99 else 999) (n := 999) (by decide) (by decide +kernel) (fun z => q (Or.inr (Or.inr z)))
      rw [nI_clamp (by omega), nI_clamp (by omega)]
      exact ⟨a1, a2, a3, a4, a5, a6, a7, a8, a9, a10, a11, zuN_p (P := fun _ z => z ≤ 999) a12 hm, a13, a14⟩
theorem zLayV_le (σ : zσ) (w s i : Nat) (hw : w < 2) : zLayV σ w s i ≤ (if w = 0 then 99 else 999) := by
  unfold zLayV
  split
  · omega
  · rename_i h
    rcases (show w = 0 ∨ w = 1 by omega) with rfl | rfl
    · obtain ⟨k, hk, e⟩ := zrange (hi := zMost 0) (n := 99) (by decide) (by decide +kernel) h
      rw [e, nI_clamp (by omega)]; exact hk
    · obtain ⟨k, hk, e⟩ := zrange (hi := zMost 1) (n := 999) (by decide) (by decide +kernel) h
      rw [e, nI_clamp (by omega)]; exact hk
theorem zfilN_p {P : Nat → Prop} {f g : Nat → Nat} {m N : Nat} (h : ∀ j, j < N → P (f j)) (hg : ∀ j, P (g j)) : ∀ j, j < N → P (zfilN f m g j) := by
  intro j hj
  unfold zfilN
  split
  · exact hg j
  · exact h j hj
theorem zOk_lay {σ : zσ} (hσ : zOk σ) (w s : Int32) : zOk (o_lay σ w s).2 := by
  unfold o_lay
  split
  · exact hσ
  · rename_i h
    split
    · exact hσ
    · obtain ⟨a1, a2, a3, a4, a5, a6, a7, a8, a9, a10, a11, a12, a13, a14⟩ := hσ
      rcases zrange2 (fun q => h (Or.inl q)) with rfl | rfl
      · exact ⟨a1, a2, a3, a4, a5, a6, a7, a8, a9, a10, zfilN_p (P := fun z => z ≤ 99) a11 (fun j => zLayV_le σ 0 _ j (by decide)), a12, a13, a14⟩
      · exact ⟨a1, a2, a3, a4, a5, a6, a7, a8, a9, a10, a11, zfilN_p (P := fun z => z ≤ 999) a12 (fun j => zLayV_le σ 1 _ j (by decide)), a13, a14⟩
end

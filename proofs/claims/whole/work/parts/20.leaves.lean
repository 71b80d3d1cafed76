/-! Leaves: the static helpers, Math, Layout. -/
set_option maxRecDepth 100000 in
set_option maxHeartbeats 4000000 in
/-- outside -/
theorem c_outside (l : Launch) (G : zG) (v lo hi : Int32) : zSem l G sX5_outside [.int v, .int lo, .int hi] ([]) (zP (.int (zB (v < lo ∨ hi < v))) []) := by
  refine zEnterV (L := [some (.int v), some (.int lo), some (.int hi)]) (by decide) rfl (Nat.le_of_ble_eq_true rfl) rfl ?_
  refine a_iload_0 (pc := 0) dX5_outside_0 ?_
  refine a_iload_1 (pc := 1) dX5_outside_1 ?_
  refine a_icmp_lt (tgt := 10) (pc := 2) dX5_outside_2 (by decide) (fun c_2 => ?_) (fun c_2 => ?_)
  · refine a_iconst (v := 1) (pc := 10) dX5_outside_10 (by decide) ?_
    refine a_goto (tgt := 15) (pc := 11) dX5_outside_11 (by decide) ?_
    exact a_zret (pc := 15) dX5_outside_15 rfl (by decide) rfl (by first | exact zPB1 (by simp only [Int32.lt_iff_toInt_lt, Int32.le_iff_toInt_le, Int32.not_lt, Int32.not_le] at *; omega) | exact zPB0 (by simp only [Int32.lt_iff_toInt_lt, Int32.le_iff_toInt_le, Int32.not_lt, Int32.not_le] at *; omega))
  · refine a_iload_0 (pc := 5) dX5_outside_5 ?_
    refine a_iload_2 (pc := 6) dX5_outside_6 ?_
    refine a_icmp_le (tgt := 14) (pc := 7) dX5_outside_7 (by decide) (fun c_7 => ?_) (fun c_7 => ?_)
    · refine a_iconst (v := 0) (pc := 14) dX5_outside_14 (by decide) ?_
      exact a_zret (pc := 15) dX5_outside_15 rfl (by decide) rfl (by first | exact zPB1 (by simp only [Int32.lt_iff_toInt_lt, Int32.le_iff_toInt_le, Int32.not_lt, Int32.not_le] at *; omega) | exact zPB0 (by simp only [Int32.lt_iff_toInt_lt, Int32.le_iff_toInt_le, Int32.not_lt, Int32.not_le] at *; omega))
    · refine a_iconst (v := 1) (pc := 10) dX5_outside_10 (by decide) ?_
      refine a_goto (tgt := 15) (pc := 11) dX5_outside_11 (by decide) ?_
      exact a_zret (pc := 15) dX5_outside_15 rfl (by decide) rfl (by first | exact zPB1 (by simp only [Int32.lt_iff_toInt_lt, Int32.le_iff_toInt_le, Int32.not_lt, Int32.not_le] at *; omega) | exact zPB0 (by simp only [Int32.lt_iff_toInt_lt, Int32.le_iff_toInt_le, Int32.not_lt, Int32.not_le] at *; omega))

def zplace (k : Option Nat) : Int32 := match k with
  | none => -1
  | some k => nI k
/-- the place of a skin that is called so, by stages, vessels, skins -/
def zPl (x : Int32) : Option Nat := if 0 ≤ x.toInt ∧ x.toInt / 100 < 3 ∧ x.toInt / 10 % 10 < 4 ∧ x.toInt % 10 < 6 then some (24 * (x.toInt.toNat / 100) + 6 * (x.toInt.toNat / 10 % 10) + x.toInt.toNat % 10) else none
theorem zPl_lt {x : Int32} {k : Nat} (h : zPl x = some k) : k < 72 := by
  unfold zPl at h
  split at h
  · have := Option.some.inj h; omega
  · cases h
theorem zPl_i {x : Int32} (h0 : 0 ≤ x.toInt) : (x / 100).toInt = x.toInt / 100 ∧ (x / 10 - x / 10 / 10 * 10).toInt = x.toInt / 10 % 10 ∧ (x - x / 10 * 10).toInt = x.toInt % 10 := by
  have e1 : (x / 10).toInt = x.toInt / 10 := i_div h0 (by decide)
  refine ⟨i_div h0 (by decide), ?_, i_rem h0 (by decide)⟩
  rw [i_rem (by rw [e1]; omega) (by decide), e1]
  rfl
theorem zPl_no {x : Int32} (h : ¬ (0 ≤ x.toInt ∧ x.toInt / 100 < 3 ∧ x.toInt / 10 % 10 < 4 ∧ x.toInt % 10 < 6)) : zplace (zPl x) = -1 := by
  unfold zPl; rw [if_neg h]; rfl
theorem zPl_yes {x : Int32} (h : 0 ≤ x.toInt ∧ x.toInt / 100 < 3 ∧ x.toInt / 10 % 10 < 4 ∧ x.toInt % 10 < 6) : (zplace (zPl x)).toInt = 24 * (x.toInt / 100) + 6 * (x.toInt / 10 % 10) + x.toInt % 10 := by
  unfold zPl; rw [if_pos h]
  show (nI _).toInt = _
  rw [nI_toInt (by omega)]
  omega
set_option maxRecDepth 100000 in
set_option maxHeartbeats 4000000 in
/-- placeOf -/
theorem c_placeOf (l : Launch) (G : zG) (x : Int32) : zSem l G sX5_placeOf [.int x] ([]) (zP (.int (zplace (zPl x))) []) := by
  refine zEnterV (L := [some (.int x), none, none, none]) (by decide) rfl (Nat.le_of_ble_eq_true rfl) rfl ?_
  refine a_iload_0 (pc := 0) dX5_placeOf_0 ?_
  refine a_if_ge (tgt := 6) (pc := 1) dX5_placeOf_1 (by decide) (fun c_1 => ?_) (fun c_1 => ?_)
  · have h0_ : 0 ≤ x.toInt := Int32.le_iff_toInt_le.mp c_1
    obtain ⟨e1_, e2_, e3_⟩ := zPl_i h0_
    have k3_ : (3:Int32).toInt = 3 := by decide
    have k4_ : (4:Int32).toInt = 4 := by decide
    have k6_ : (6:Int32).toInt = 6 := by decide
    have k24_ : (24:Int32).toInt = 24 := by decide
    refine a_iload_0 (pc := 6) dX5_placeOf_6 ?_
    refine a_bipush (v := 100) (pc := 7) dX5_placeOf_7 (by decide) ?_
    refine a_idiv (pc := 9) dX5_placeOf_9 (by decide) ?_
    refine a_istore_1 (pc := 10) dX5_placeOf_10 rfl (by decide) ?_
    refine a_iload_0 (pc := 11) dX5_placeOf_11 ?_
    refine a_bipush (v := 10) (pc := 12) dX5_placeOf_12 (by decide) ?_
    refine a_idiv (pc := 14) dX5_placeOf_14 (by decide) ?_
    refine a_bipush (v := 10) (pc := 15) dX5_placeOf_15 (by decide) ?_
    refine a_irem (pc := 17) dX5_placeOf_17 (by decide) ?_
    refine a_istore_2 (pc := 18) dX5_placeOf_18 rfl (by decide) ?_
    refine a_iload_0 (pc := 19) dX5_placeOf_19 ?_
    refine a_bipush (v := 10) (pc := 20) dX5_placeOf_20 (by decide) ?_
    refine a_irem (pc := 22) dX5_placeOf_22 (by decide) ?_
    refine a_istore_3 (pc := 23) dX5_placeOf_23 rfl (by decide) ?_
    refine a_iload_1 (pc := 24) dX5_placeOf_24 ?_
    refine a_iconst (v := 3) (pc := 25) dX5_placeOf_25 (by decide) ?_
    refine a_icmp_ge (tgt := 40) (pc := 26) dX5_placeOf_26 (by decide) (fun c_26 => ?_) (fun c_26 => ?_)
    · have f26_ := Int32.le_iff_toInt_le.mp c_26
      rw [e1_, k3_] at f26_
      refine a_iconst (v := -1) (pc := 40) dX5_placeOf_40 (by decide) ?_
      exact a_iret (pc := 41) dX5_placeOf_41 rfl rfl (by
          refine ⟨congrArg (fun z => some (Value.int z)) (zPl_no ?_).symm, rfl⟩
          omega)
    · have f26_ := mt Int32.le_iff_toInt_le.mpr c_26
      rw [e1_, k3_] at f26_
      refine a_iload_2 (pc := 29) dX5_placeOf_29 ?_
      refine a_iconst (v := 4) (pc := 30) dX5_placeOf_30 (by decide) ?_
      refine a_icmp_ge (tgt := 40) (pc := 31) dX5_placeOf_31 (by decide) (fun c_31 => ?_) (fun c_31 => ?_)
      · have f31_ := Int32.le_iff_toInt_le.mp c_31
        rw [e2_, k4_] at f31_
        refine a_iconst (v := -1) (pc := 40) dX5_placeOf_40 (by decide) ?_
        exact a_iret (pc := 41) dX5_placeOf_41 rfl rfl (by
            refine ⟨congrArg (fun z => some (Value.int z)) (zPl_no ?_).symm, rfl⟩
            omega)
      · have f31_ := mt Int32.le_iff_toInt_le.mpr c_31
        rw [e2_, k4_] at f31_
        refine a_iload_3 (pc := 34) dX5_placeOf_34 ?_
        refine a_bipush (v := 6) (pc := 35) dX5_placeOf_35 (by decide) ?_
        refine a_icmp_lt (tgt := 42) (pc := 37) dX5_placeOf_37 (by decide) (fun c_37 => ?_) (fun c_37 => ?_)
        · have f37_ := Int32.lt_iff_toInt_lt.mp c_37
          rw [e3_, k6_] at f37_
          refine a_iload_1 (pc := 42) dX5_placeOf_42 ?_
          refine a_bipush (v := 24) (pc := 43) dX5_placeOf_43 (by decide) ?_
          refine a_imul (pc := 45) dX5_placeOf_45 ?_
          refine a_iload_2 (pc := 46) dX5_placeOf_46 ?_
          refine a_bipush (v := 6) (pc := 47) dX5_placeOf_47 (by decide) ?_
          refine a_imul (pc := 49) dX5_placeOf_49 ?_
          refine a_iadd (pc := 50) dX5_placeOf_50 ?_
          refine a_iload_3 (pc := 51) dX5_placeOf_51 ?_
          refine a_iadd (pc := 52) dX5_placeOf_52 ?_
          exact a_iret (pc := 53) dX5_placeOf_53 rfl rfl (by
              refine ⟨congrArg (fun z => some (Value.int z)) ?_, rfl⟩
              apply Int32.toInt_inj.mp
              rw [zPl_yes (by omega)]
              have m1_ : (x / 100 * 24).toInt = x.toInt / 100 * 24 := by rw [i_mul (by rw [e1_, k24_]; omega) (by rw [e1_, k24_]; omega), e1_, k24_]
              have m2_ : ((x / 10 - x / 10 / 10 * 10) * 6).toInt = x.toInt / 10 % 10 * 6 := by rw [i_mul (by rw [e2_, k6_]; omega) (by rw [e2_, k6_]; omega), e2_, k6_]
              have m3_ : (x / 100 * 24 + (x / 10 - x / 10 / 10 * 10) * 6).toInt = x.toInt / 100 * 24 + x.toInt / 10 % 10 * 6 := by rw [i_add (by rw [m1_, m2_]; omega) (by rw [m1_, m2_]; omega), m1_, m2_]
              rw [i_add (by rw [m3_, e3_]; omega) (by rw [m3_, e3_]; omega), m3_, e3_]
              omega)
        · have f37_ := mt Int32.lt_iff_toInt_lt.mpr c_37
          rw [e3_, k6_] at f37_
          refine a_iconst (v := -1) (pc := 40) dX5_placeOf_40 (by decide) ?_
          exact a_iret (pc := 41) dX5_placeOf_41 rfl rfl (by
              refine ⟨congrArg (fun z => some (Value.int z)) (zPl_no ?_).symm, rfl⟩
              omega)
  · refine a_iconst (v := -1) (pc := 4) dX5_placeOf_4 (by decide) ?_
    exact a_iret (pc := 5) dX5_placeOf_5 rfl rfl (by
        refine ⟨congrArg (fun z => some (Value.int z)) (zPl_no ?_).symm, rfl⟩
        have hc_ : ¬ (0:Int32).toInt ≤ x.toInt := fun q => c_1 (Int32.le_iff_toInt_le.mpr q)
        have h0_ : (0:Int32).toInt = 0 := by decide
        omega)

/-- what a place is called -/
def zNum (k : Nat) : Nat := 100 * (k / 24) + 10 * (k % 24 / 6) + k % 6
theorem zNum_lt {k : Nat} (h : k < 72) : zNum k < 300 := by unfold zNum; omega
set_option maxRecDepth 100000 in
set_option maxHeartbeats 4000000 in
/-- numberOf -/
theorem c_numberOf (l : Launch) (G : zG) (k : Nat) (hk : k < 72) : zSem l G sX5_numberOf [.int (nI k)] ([]) (zP (.int (nI (zNum k))) []) := by
  refine zEnterV (L := [some (.int (nI k))]) (by decide) rfl (Nat.le_of_ble_eq_true rfl) rfl ?_
  refine a_bipush (v := 100) (pc := 0) dX5_numberOf_0 (by decide) ?_
  refine a_iload_0 (pc := 2) dX5_numberOf_2 ?_
  refine a_bipush (v := 24) (pc := 3) dX5_numberOf_3 (by decide) ?_
  refine a_idiv (pc := 5) dX5_numberOf_5 (by decide) ?_
  refine a_imul (pc := 6) dX5_numberOf_6 ?_
  refine a_bipush (v := 10) (pc := 7) dX5_numberOf_7 (by decide) ?_
  refine a_iload_0 (pc := 9) dX5_numberOf_9 ?_
  refine a_bipush (v := 24) (pc := 10) dX5_numberOf_10 (by decide) ?_
  refine a_irem (pc := 12) dX5_numberOf_12 (by decide) ?_
  refine a_bipush (v := 6) (pc := 13) dX5_numberOf_13 (by decide) ?_
  refine a_idiv (pc := 15) dX5_numberOf_15 (by decide) ?_
  refine a_imul (pc := 16) dX5_numberOf_16 ?_
  refine a_iadd (pc := 17) dX5_numberOf_17 ?_
  refine a_iload_0 (pc := 18) dX5_numberOf_18 ?_
  refine a_bipush (v := 6) (pc := 19) dX5_numberOf_19 (by decide) ?_
  refine a_irem (pc := 21) dX5_numberOf_21 (by decide) ?_
  refine a_iadd (pc := 22) dX5_numberOf_22 ?_
  exact a_iret (pc := 23) dX5_numberOf_23 rfl rfl (by
      refine ⟨congrArg (fun z => some (Value.int z)) ?_, rfl⟩
      rw [show (24 : Int32) = nI 24 from rfl, show (6 : Int32) = nI 6 from rfl, show (100 : Int32) = nI 100 from rfl, show (10 : Int32) = nI 10 from rfl]
      rw [zI_rem (a := k) (b := 24) (by omega) (by decide) (by decide), zI_rem (a := k) (b := 6) (by omega) (by decide) (by decide), zI_div (a := k) (b := 24) (by omega) (by decide) (by decide), zI_div (a := k % 24) (b := 6) (by omega) (by decide) (by decide), ← zI_mul, ← zI_mul, ← zI_add, ← zI_add]
      rfl)

abbrev wLay (G : zG) (ad : Nat → Nat) (v : Nat → Int32) (n : Int32) : va_W := [(ad 0, .inr (2, [.ref (ad 1), .int n])), (ad 1, .inl (zcI G, 3, .inl v))]
/-- the vessels that there are in a stage -/
def zVin (v : Nat → Int32) (k : Nat) : Int32 := if ∀ j, j < k → ¬ v j = 0 then v k else 0
set_option maxRecDepth 100000 in
set_option maxHeartbeats 4000000 in
theorem lp_vesselsIn (l : Launch) (G : zG) (ad : Nat → Nat) (v : Nat → Int32) (n : Int32) (k : Nat) (hk : k < 3) : ∀ (q i : Nat), i + q = k → (∀ j, j < i → ¬ v j = 0) → AV l G sX2_vesselsIn (wLay G ad v n) (zP (.int (zVin v k)) (wLay G ad v n)) 2 [some (.ref (ad 0)), some (.int (nI k)), some (.int (nI i))] [] (wLay G ad v n) := by
  intro q_
  induction q_ using Nat.strongRecOn
  rename_i q_ ih_
  intro i hq_ ha_
  refine a_iload_2 (pc := 2) dX2_vesselsIn_2 ?_
  refine a_iload_1 (pc := 3) dX2_vesselsIn_3 ?_
  refine a_icmp_ge (tgt := 29) (pc := 4) dX2_vesselsIn_4 (by decide) (fun c_4 => ?_) (fun c_4 => ?_)
  · have hi_ : i = k := by have := (zI_le (by omega) (by omega)).mp c_4; omega
    subst hi_
    refine a_iload_1 (pc := 29) dX2_vesselsIn_29 ?_
    refine a_if_lt (tgt := 38) (pc := 30) dX2_vesselsIn_30 (by decide) (fun c_30 => ?_) (fun c_30 => ?_)
    · exact absurd c_30 (nI_pos (by omega))
    · refine a_iload_1 (pc := 33) dX2_vesselsIn_33 ?_
      refine a_iconst (v := 3) (pc := 34) dX2_vesselsIn_34 (by decide) ?_
      refine a_icmp_lt (tgt := 42) (pc := 35) dX2_vesselsIn_35 (by decide) (fun c_35 => ?_) (fun c_35 => ?_)
      · refine a_aload_0 (pc := 42) dX2_vesselsIn_42 ?_
        refine a_getf (ci := 2) (j := 0) rfl win_X2 (by decide) (pc := 43) dX2_vesselsIn_43 kf_X2_11 rfl rfl ?_
        refine a_iload_1 (pc := 46) dX2_vesselsIn_46 ?_
        refine a_ialdN (pc := 47) dX2_vesselsIn_47 rfl (by omega) (by decide) ?_
        exact a_iret (pc := 48) dX2_vesselsIn_48 rfl rfl ⟨congrArg (fun z => some (Value.int z)) (if_pos ha_).symm, rfl⟩
      · exact absurd (nI_lt hk (by decide)) c_35
  · have hi_ : i < k := by have := mt (zI_le (by omega) (by omega)).mpr c_4; omega
    refine a_iload_2 (pc := 7) dX2_vesselsIn_7 ?_
    refine a_iconst (v := 3) (pc := 8) dX2_vesselsIn_8 (by decide) ?_
    refine a_icmp_ge (tgt := 29) (pc := 9) dX2_vesselsIn_9 (by decide) (fun c_9 => ?_) (fun c_9 => ?_)
    · exact absurd ((zI_le (b := i) (a := 3) (by decide) (by omega)).mp c_9) (by omega)
    · refine a_aload_0 (pc := 12) dX2_vesselsIn_12 ?_
      refine a_getf (ci := 2) (j := 0) rfl win_X2 (by decide) (pc := 13) dX2_vesselsIn_13 kf_X2_11 rfl rfl ?_
      refine a_iload_2 (pc := 16) dX2_vesselsIn_16 ?_
      refine a_ialdN (pc := 17) dX2_vesselsIn_17 rfl (by omega) (by decide) ?_
      first | refine a_if_neB (tgt := 23) (pc := 18) dX2_vesselsIn_18 (by decide) (fun c_18 => ?_) (fun c_18 => ?_) | refine a_if_ne (tgt := 23) (pc := 18) dX2_vesselsIn_18 (by decide) (fun c_18 => ?_) (fun c_18 => ?_)
      · refine a_iinc_2 (cst := 1) (pc := 23) dX2_vesselsIn_23 rfl (by decide) (by decide) ?_
        refine a_goto (tgt := 2) (pc := 26) dX2_vesselsIn_26 (by decide) ?_
        rw [← nI_succ]
        exact ih_ (q_ - 1) (by omega) (i + 1) (by omega) (fun j hj => by rcases Nat.lt_succ_iff_lt_or_eq.mp hj with h | h; exact ha_ j h; subst h; exact c_18)
      · refine a_iconst (v := 0) (pc := 21) dX2_vesselsIn_21 (by decide) ?_
        exact a_iret (pc := 22) dX2_vesselsIn_22 rfl rfl ⟨congrArg (fun z => some (Value.int z)) (if_neg (fun h => h i hi_ c_18)).symm, rfl⟩

set_option maxRecDepth 100000 in
set_option maxHeartbeats 4000000 in
/-- vesselsIn -/
theorem c_vesselsIn (l : Launch) (G : zG) (ad : Nat → Nat) (v : Nat → Int32) (n : Int32) (k : Nat) (hk : k < 3) : zSem l G sX2_vesselsIn [.ref (ad 0), .int (nI k)] (wLay G ad v n) (zP (.int (zVin v k)) (wLay G ad v n)) := by
  refine zEnterV (L := [some (.ref (ad 0)), some (.int (nI k)), none]) (by decide) rfl (Nat.le_of_ble_eq_true rfl) rfl ?_
  refine a_iconst (v := 0) (pc := 0) dX2_vesselsIn_0 (by decide) ?_
  refine a_istore_2 (pc := 1) dX2_vesselsIn_1 rfl (by decide) ?_
  exact lp_vesselsIn l G ad v n k hk k 0 (by omega) (fun j hj => absurd hj (Nat.not_lt_zero j))

def zHolds (v : Nat → Int32) (n : Int32) (k : Nat) : Prop := nI (k % 6) < n ∧ nI (k % 24 / 6) < zVin v (k / 24)
set_option maxRecDepth 100000 in
set_option maxHeartbeats 4000000 in
/-- holdsSkin -/
theorem c_holdsSkin (l : Launch) (G : zG) (ad : Nat → Nat) (v : Nat → Int32) (n : Int32) (k : Nat) (hk : k < 72) : zSem l G sX2_holdsSkin [.ref (ad 0), .int (nI k)] (wLay G ad v n) (zP (.int (zB (nI (k % 6) < n ∧ nI (k % 24 / 6) < zVin v (k / 24)))) (wLay G ad v n)) := by
  refine zEnterV (L := [some (.ref (ad 0)), some (.int (nI k))]) (by decide) rfl (Nat.le_of_ble_eq_true rfl) rfl ?_
  refine a_iload_1 (pc := 0) dX2_holdsSkin_0 ?_
  refine a_bipush (v := 6) (pc := 1) dX2_holdsSkin_1 (by decide) ?_
  refine a_irem (pc := 3) dX2_holdsSkin_3 (by decide) ?_
  rw [show (6 : Int32) = nI 6 from rfl, zI_rem (by omega) (by decide) (by decide)]
  refine a_aload_0 (pc := 4) dX2_holdsSkin_4 ?_
  refine a_getf (ci := 2) (j := 1) rfl win_X2 (by decide) (pc := 5) dX2_holdsSkin_5 kf_X2_15 rfl rfl ?_
  refine a_icmp_ge (tgt := 33) (pc := 8) dX2_holdsSkin_8 (by decide) (fun c_8 => ?_) (fun c_8 => ?_)
  · refine a_iconst (v := 0) (pc := 33) dX2_holdsSkin_33 (by decide) ?_
    exact a_zret (pc := 34) dX2_holdsSkin_34 rfl (by decide) rfl (by first | exact zPB1 ⟨Int32.not_le.mp c_8, Int32.not_le.mp c_26⟩ | exact zPB0 (fun q => absurd q.2 (Int32.not_lt.mpr c_26)) | exact zPB0 (fun q => absurd q.1 (Int32.not_lt.mpr c_8)))
  · refine a_iload_1 (pc := 11) dX2_holdsSkin_11 ?_
    refine a_bipush (v := 24) (pc := 12) dX2_holdsSkin_12 (by decide) ?_
    refine a_irem (pc := 14) dX2_holdsSkin_14 (by decide) ?_
    refine a_bipush (v := 6) (pc := 15) dX2_holdsSkin_15 (by decide) ?_
    refine a_idiv (pc := 17) dX2_holdsSkin_17 (by decide) ?_
    rw [show (24 : Int32) = nI 24 from rfl, show (6 : Int32) = nI 6 from rfl, zI_rem (by omega) (by decide) (by decide), zI_div (by omega) (by decide) (by decide)]
    refine a_aload_0 (pc := 18) dX2_holdsSkin_18 ?_
    refine a_iload_1 (pc := 19) dX2_holdsSkin_19 ?_
    refine a_bipush (v := 24) (pc := 20) dX2_holdsSkin_20 (by decide) ?_
    refine a_idiv (pc := 22) dX2_holdsSkin_22 (by decide) ?_
    rw [show (24 : Int32) = nI 24 from rfl, zI_div (by omega) (by decide) (by decide)]
    refine cV_P (ad := ad) (q0 := 0) (S2 := sX2_vesselsIn) (c_vesselsIn l G ad v n (k / 24) (by omega)) kc_X2_vesselsIn km_X2_19 ki_X2_vesselsIn kv_X2_vesselsIn kini_X2 ⟨kn_X2_vesselsIn, by decide, by decide⟩ (pc := 23) dX2_holdsSkin_23 [0, 1] rfl rfl rfl rfl (Nat.le_of_ble_eq_true rfl) rfl rfl rfl ?_
    refine a_icmp_ge (tgt := 33) (pc := 26) dX2_holdsSkin_26 (by decide) (fun c_26 => ?_) (fun c_26 => ?_)
    · refine a_iconst (v := 0) (pc := 33) dX2_holdsSkin_33 (by decide) ?_
      exact a_zret (pc := 34) dX2_holdsSkin_34 rfl (by decide) rfl (by first | exact zPB1 ⟨Int32.not_le.mp c_8, Int32.not_le.mp c_26⟩ | exact zPB0 (fun q => absurd q.2 (Int32.not_lt.mpr c_26)) | exact zPB0 (fun q => absurd q.1 (Int32.not_lt.mpr c_8)))
    · refine a_iconst (v := 1) (pc := 29) dX2_holdsSkin_29 (by decide) ?_
      refine a_goto (tgt := 34) (pc := 30) dX2_holdsSkin_30 (by decide) ?_
      exact a_zret (pc := 34) dX2_holdsSkin_34 rfl (by decide) rfl (by first | exact zPB1 ⟨Int32.not_le.mp c_8, Int32.not_le.mp c_26⟩ | exact zPB0 (fun q => absurd q.2 (Int32.not_lt.mpr c_26)) | exact zPB0 (fun q => absurd q.1 (Int32.not_lt.mpr c_8)))

def zSum3 (v : Nat → Int32) : Nat → Int32
  | 0 => 0
  | k + 1 => zSum3 v k + zVin v k
set_option maxRecDepth 100000 in
set_option maxHeartbeats 4000000 in
theorem lp_standing (l : Launch) (G : zG) (ad : Nat → Nat) (v : Nat → Int32) (n : Int32) : ∀ (q i : Nat), i + q = 3 → AV l G sX2_standing (wLay G ad v n) (zP (.int (zSum3 v 3)) (wLay G ad v n)) 4 [some (.ref (ad 0)), some (.int (zSum3 v i)), some (.int (nI i))] [] (wLay G ad v n) := by
  intro q_
  induction q_ using Nat.strongRecOn
  rename_i q_ ih_
  intro i hq_
  refine a_iload_2 (pc := 4) dX2_standing_4 ?_
  refine a_iconst (v := 3) (pc := 5) dX2_standing_5 (by decide) ?_
  refine a_icmp_ge (tgt := 23) (pc := 6) dX2_standing_6 (by decide) (fun c_6 => ?_) (fun c_6 => ?_)
  · obtain rfl : i = 3 := by have := (zI_le (a := 3) (by decide) (by omega)).mp c_6; omega
    refine a_iload_1 (pc := 23) dX2_standing_23 ?_
    exact a_iret (pc := 24) dX2_standing_24 rfl rfl ⟨rfl, rfl⟩
  · have hi_ : i < 3 := by have := mt (zI_le (a := 3) (b := i) (by decide) (by omega)).mpr c_6; omega
    refine a_iload_1 (pc := 9) dX2_standing_9 ?_
    refine a_aload_0 (pc := 10) dX2_standing_10 ?_
    refine a_iload_2 (pc := 11) dX2_standing_11 ?_
    refine cV_P (ad := ad) (q0 := 0) (S2 := sX2_vesselsIn) (c_vesselsIn l G ad v n i hi_) kc_X2_vesselsIn km_X2_19 ki_X2_vesselsIn kv_X2_vesselsIn kini_X2 ⟨kn_X2_vesselsIn, by decide, by decide⟩ (pc := 12) dX2_standing_12 [0, 1] rfl rfl rfl rfl (Nat.le_of_ble_eq_true rfl) rfl rfl rfl ?_
    refine a_iadd (pc := 15) dX2_standing_15 ?_
    refine a_istore_1 (pc := 16) dX2_standing_16 rfl (by decide) ?_
    refine a_iinc_2 (cst := 1) (pc := 17) dX2_standing_17 rfl (by decide) (by decide) ?_
    refine a_goto (tgt := 4) (pc := 20) dX2_standing_20 (by decide) ?_
    rw [← nI_succ]
    exact ih_ (q_ - 1) (by omega) (i + 1) (by omega)

set_option maxRecDepth 100000 in
set_option maxHeartbeats 4000000 in
/-- standing -/
theorem c_standing (l : Launch) (G : zG) (ad : Nat → Nat) (v : Nat → Int32) (n : Int32) : zSem l G sX2_standing [.ref (ad 0)] (wLay G ad v n) (zP (.int (zSum3 v 3)) (wLay G ad v n)) := by
  refine zEnterV (L := [some (.ref (ad 0)), none, none]) (by decide) rfl (Nat.le_of_ble_eq_true rfl) rfl ?_
  refine a_iconst (v := 0) (pc := 0) dX2_standing_0 (by decide) ?_
  refine a_istore_1 (pc := 1) dX2_standing_1 rfl (by decide) ?_
  refine a_iconst (v := 0) (pc := 2) dX2_standing_2 (by decide) ?_
  refine a_istore_2 (pc := 3) dX2_standing_3 rfl (by decide) ?_
  exact lp_standing l G ad v n 3 0 rfl

def zBec (v : Nat → Int32) (k : Nat) : Nat → Int32 := upd (upd (upd v 0 (nI (1 + k / 25))) 1 (nI (k / 5 % 5))) 2 (nI (k % 5))
set_option maxRecDepth 100000 in
set_option maxHeartbeats 4000000 in
/-- become -/
theorem c_become (l : Launch) (G : zG) (ad : Nat → Nat) (v : Nat → Int32) (n : Int32) (k : Nat) (hk : k < 100) : zSem l G sX2_become [.ref (ad 0), .int (nI k)] (wLay G ad v n) (zV (fun _ : Unit => True) (fun _ => .int (zB (0 < k / 5 % 5 ∨ k % 5 = 0))) (fun _ => wLay G ad (zBec v k) n)) := by
  refine zEnterV (L := [some (.ref (ad 0)), some (.int (nI k))]) (by decide) rfl (Nat.le_of_ble_eq_true rfl) rfl ?_
  refine a_aload_0 (pc := 0) dX2_become_0 ?_
  refine a_getf (ci := 2) (j := 0) rfl win_X2 (by decide) (pc := 1) dX2_become_1 kf_X2_11 rfl rfl ?_
  refine a_iconst (v := 0) (pc := 4) dX2_become_4 (by decide) ?_
  refine a_iconst (v := 1) (pc := 5) dX2_become_5 (by decide) ?_
  refine a_iload_1 (pc := 6) dX2_become_6 ?_
  refine a_bipush (v := 25) (pc := 7) dX2_become_7 (by decide) ?_
  refine a_idiv (pc := 9) dX2_become_9 (by decide) ?_
  refine a_iadd (pc := 10) dX2_become_10 ?_
  rw [show (25 : Int32) = nI 25 from rfl, show (1 : Int32) = nI 1 from rfl, zI_div (by omega) (by decide) (by decide), ← zI_add]
  refine a_iastN (k := 0) (pc := 11) dX2_become_11 rfl (by omega) (by decide) ?_
  refine a_aload_0 (pc := 12) dX2_become_12 ?_
  refine a_getf (ci := 2) (j := 0) rfl win_X2 (by decide) (pc := 13) dX2_become_13 kf_X2_11 rfl rfl ?_
  refine a_iconst (v := 1) (pc := 16) dX2_become_16 (by decide) ?_
  refine a_iload_1 (pc := 17) dX2_become_17 ?_
  refine a_iconst (v := 5) (pc := 18) dX2_become_18 (by decide) ?_
  refine a_idiv (pc := 19) dX2_become_19 (by decide) ?_
  refine a_iconst (v := 5) (pc := 20) dX2_become_20 (by decide) ?_
  refine a_irem (pc := 21) dX2_become_21 (by decide) ?_
  rw [show (5 : Int32) = nI 5 from rfl, zI_div (by omega) (by decide) (by decide), zI_rem (by omega) (by decide) (by decide)]
  refine a_iastN (k := 1) (pc := 22) dX2_become_22 rfl (by omega) (by decide) ?_
  refine a_aload_0 (pc := 23) dX2_become_23 ?_
  refine a_getf (ci := 2) (j := 0) rfl win_X2 (by decide) (pc := 24) dX2_become_24 kf_X2_11 rfl rfl ?_
  refine a_iconst (v := 2) (pc := 27) dX2_become_27 (by decide) ?_
  refine a_iload_1 (pc := 28) dX2_become_28 ?_
  refine a_iconst (v := 5) (pc := 29) dX2_become_29 (by decide) ?_
  refine a_irem (pc := 30) dX2_become_30 (by decide) ?_
  rw [show (5 : Int32) = nI 5 from rfl, zI_rem (by omega) (by decide) (by decide)]
  refine a_iastN (k := 2) (pc := 31) dX2_become_31 rfl (by omega) (by decide) ?_
  refine a_aload_0 (pc := 32) dX2_become_32 ?_
  refine a_getf (ci := 2) (j := 0) rfl win_X2 (by decide) (pc := 33) dX2_become_33 kf_X2_11 rfl rfl ?_
  refine a_iconst (v := 1) (pc := 36) dX2_become_36 (by decide) ?_
  refine a_ialdN (k := 1) (pc := 37) dX2_become_37 rfl (by omega) (by decide) ?_
  refine a_if_gt (tgt := 50) (pc := 38) dX2_become_38 (by decide) (fun c_38 => ?_) (fun c_38 => ?_)
  · have f_ : 0 < k / 5 % 5 := (zI_lt (a := 0) (b := k / 5 % 5) (by decide) (by omega)).mp c_38
    refine a_iconst (v := 1) (pc := 50) dX2_become_50 (by decide) ?_
    refine a_goto (tgt := 55) (pc := 51) dX2_become_51 (by decide) ?_
    exact a_zret (pc := 55) dX2_become_55 rfl (by decide) rfl ⟨(), trivial, (by first | exact congrArg (fun z => some (Value.int z)) (zB_1 (by omega)).symm | exact congrArg (fun z => some (Value.int z)) (zB_0 (by omega)).symm), rfl⟩
  · have f_ : ¬ 0 < k / 5 % 5 := mt (zI_lt (a := 0) (b := k / 5 % 5) (by decide) (by omega)).mpr c_38
    refine a_aload_0 (pc := 41) dX2_become_41 ?_
    refine a_getf (ci := 2) (j := 0) rfl win_X2 (by decide) (pc := 42) dX2_become_42 kf_X2_11 rfl rfl ?_
    refine a_iconst (v := 2) (pc := 45) dX2_become_45 (by decide) ?_
    refine a_ialdN (k := 2) (pc := 46) dX2_become_46 rfl (by omega) (by decide) ?_
    first | refine a_if_neB (tgt := 54) (pc := 47) dX2_become_47 (by decide) (fun c_47 => ?_) (fun c_47 => ?_) | refine a_if_ne (tgt := 54) (pc := 47) dX2_become_47 (by decide) (fun c_47 => ?_) (fun c_47 => ?_)
    · have g_ : ¬ k % 5 = 0 := mt (zI_eq (a := k % 5) (b := 0) (by omega) (by decide)).mpr c_47
      refine a_iconst (v := 0) (pc := 54) dX2_become_54 (by decide) ?_
      exact a_zret (pc := 55) dX2_become_55 rfl (by decide) rfl ⟨(), trivial, (by first | exact congrArg (fun z => some (Value.int z)) (zB_1 (by omega)).symm | exact congrArg (fun z => some (Value.int z)) (zB_0 (by omega)).symm), rfl⟩
    · have g_ : k % 5 = 0 := (zI_eq (a := k % 5) (b := 0) (by omega) (by decide)).mp c_47
      refine a_iconst (v := 1) (pc := 50) dX2_become_50 (by decide) ?_
      refine a_goto (tgt := 55) (pc := 51) dX2_become_51 (by decide) ?_
      exact a_zret (pc := 55) dX2_become_55 rfl (by decide) rfl ⟨(), trivial, (by first | exact congrArg (fun z => some (Value.int z)) (zB_1 (by omega)).symm | exact congrArg (fun z => some (Value.int z)) (zB_0 (by omega)).symm), rfl⟩

set_option maxRecDepth 100000 in
set_option maxHeartbeats 4000000 in
/-- digits -/
theorem c_digits (l : Launch) (G : zG) (ad : Nat → Nat) (v : Nat → Int32) (n : Int32) : zSem l G sX2_digits [.ref (ad 0)] (wLay G ad v n) (zP (.int (100 * v 0 + 10 * v 1 + v 2)) (wLay G ad v n)) := by
  refine zEnterV (L := [some (.ref (ad 0))]) (by decide) rfl (Nat.le_of_ble_eq_true rfl) rfl ?_
  refine a_bipush (v := 100) (pc := 0) dX2_digits_0 (by decide) ?_
  refine a_aload_0 (pc := 2) dX2_digits_2 ?_
  refine a_getf (ci := 2) (j := 0) rfl win_X2 (by decide) (pc := 3) dX2_digits_3 kf_X2_11 rfl rfl ?_
  refine a_iconst (v := 0) (pc := 6) dX2_digits_6 (by decide) ?_
  refine a_ialdN (k := 0) (pc := 7) dX2_digits_7 rfl (by omega) (by decide) ?_
  refine a_imul (pc := 8) dX2_digits_8 ?_
  refine a_bipush (v := 10) (pc := 9) dX2_digits_9 (by decide) ?_
  refine a_aload_0 (pc := 11) dX2_digits_11 ?_
  refine a_getf (ci := 2) (j := 0) rfl win_X2 (by decide) (pc := 12) dX2_digits_12 kf_X2_11 rfl rfl ?_
  refine a_iconst (v := 1) (pc := 15) dX2_digits_15 (by decide) ?_
  refine a_ialdN (k := 1) (pc := 16) dX2_digits_16 rfl (by omega) (by decide) ?_
  refine a_imul (pc := 17) dX2_digits_17 ?_
  refine a_iadd (pc := 18) dX2_digits_18 ?_
  refine a_aload_0 (pc := 19) dX2_digits_19 ?_
  refine a_getf (ci := 2) (j := 0) rfl win_X2 (by decide) (pc := 20) dX2_digits_20 kf_X2_11 rfl rfl ?_
  refine a_iconst (v := 2) (pc := 23) dX2_digits_23 (by decide) ?_
  refine a_ialdN (k := 2) (pc := 24) dX2_digits_24 rfl (by omega) (by decide) ?_
  refine a_iadd (pc := 25) dX2_digits_25 ?_
  exact a_iret (pc := 26) dX2_digits_26 rfl rfl ⟨rfl, rfl⟩


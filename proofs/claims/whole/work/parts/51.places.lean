/-! The model: places, stages, skins told. -/
set_option maxRecDepth 100000 in
set_option maxHeartbeats 4000000 in
/-- placeOf -/
theorem m_placeOf (l : Launch) (G : zG) (x : Int32) : zSem l G sX6_placeOf [.int x] ([]) (zP (.int (zplace (zPl x))) []) := by
  refine zEnterV (L := [some (.int x), none]) (by decide) rfl (Nat.le_of_ble_eq_true rfl) rfl ?_
  have J37_ : ∀ y_ : Int32, y_ = zB (0 ≤ x.toInt ∧ x.toInt / 100 < 3 ∧ x.toInt / 10 % 10 < 4 ∧ x.toInt % 10 < 6) → AV l G sX6_placeOf ([]) (zP (.int (zplace (zPl x))) []) 37 [some (.int x), none] [.int y_] ([]) := by
    intro y_ hy_; subst hy_
    refine a_istore_1 (pc := 37) dX6_placeOf_37 rfl (by decide) ?_
    refine a_iload_1 (pc := 38) dX6_placeOf_38 ?_
    first | refine a_if_eqB (tgt := 68) (pc := 39) dX6_placeOf_39 (by decide) (fun c_39 => ?_) (fun c_39 => ?_) | refine a_if_eq (tgt := 68) (pc := 39) dX6_placeOf_39 (by decide) (fun c_39 => ?_) (fun c_39 => ?_)
    · refine a_iconst (v := -1) (pc := 68) dX6_placeOf_68 (by decide) ?_
      exact a_iret (pc := 69) dX6_placeOf_69 rfl rfl (by
          refine ⟨congrArg (fun z => some (Value.int z)) ?_, rfl⟩
          by_cases hc_ : 0 ≤ x.toInt ∧ x.toInt / 100 < 3 ∧ x.toInt / 10 % 10 < 4 ∧ x.toInt % 10 < 6
          · apply Int32.toInt_inj.mp
            first
            | (rw [zPl_yes hc_]
               have m1_ : (24 * (x / 100)).toInt = 24 * (x.toInt / 100) := by rw [i_mul (by rw [e1_, k24_]; omega) (by rw [e1_, k24_]; omega), e1_, k24_]
               have m2_ : (6 * (x / 10 - x / 10 / 10 * 10)).toInt = 6 * (x.toInt / 10 % 10) := by rw [i_mul (by rw [e2_, k6_]; omega) (by rw [e2_, k6_]; omega), e2_, k6_]
               have m3_ : (24 * (x / 100) + 6 * (x / 10 - x / 10 / 10 * 10)).toInt = 24 * (x.toInt / 100) + 6 * (x.toInt / 10 % 10) := by rw [i_add (by rw [m1_, m2_]; omega) (by rw [m1_, m2_]; omega), m1_, m2_]
               rw [i_add (by rw [m3_, e3_]; omega) (by rw [m3_, e3_]; omega), m3_, e3_])
            | exact absurd hc_ c_39
          · exact (zPl_no hc_).symm ▸ (by first | rfl | exact absurd c_39 hc_))
    · have h0_ : 0 ≤ x.toInt := c_39.1
      obtain ⟨e1_, e2_, e3_⟩ := zPl_i h0_
      have k6_ : (6:Int32).toInt = 6 := by decide
      have k24_ : (24:Int32).toInt = 24 := by decide
      refine a_bipush (v := 24) (pc := 42) dX6_placeOf_42 (by decide) ?_
      refine a_iload_0 (pc := 44) dX6_placeOf_44 ?_
      refine a_bipush (v := 100) (pc := 45) dX6_placeOf_45 (by decide) ?_
      refine a_idiv (pc := 47) dX6_placeOf_47 (by decide) ?_
      refine a_imul (pc := 48) dX6_placeOf_48 ?_
      refine a_bipush (v := 6) (pc := 49) dX6_placeOf_49 (by decide) ?_
      refine a_iload_0 (pc := 51) dX6_placeOf_51 ?_
      refine a_bipush (v := 10) (pc := 52) dX6_placeOf_52 (by decide) ?_
      refine a_idiv (pc := 54) dX6_placeOf_54 (by decide) ?_
      refine a_bipush (v := 10) (pc := 55) dX6_placeOf_55 (by decide) ?_
      refine a_irem (pc := 57) dX6_placeOf_57 (by decide) ?_
      refine a_imul (pc := 58) dX6_placeOf_58 ?_
      refine a_iadd (pc := 59) dX6_placeOf_59 ?_
      refine a_iload_0 (pc := 60) dX6_placeOf_60 ?_
      refine a_bipush (v := 10) (pc := 61) dX6_placeOf_61 (by decide) ?_
      refine a_irem (pc := 63) dX6_placeOf_63 (by decide) ?_
      refine a_iadd (pc := 64) dX6_placeOf_64 ?_
      refine a_goto (tgt := 69) (pc := 65) dX6_placeOf_65 (by decide) ?_
      exact a_iret (pc := 69) dX6_placeOf_69 rfl rfl (by
          refine ⟨congrArg (fun z => some (Value.int z)) ?_, rfl⟩
          by_cases hc_ : 0 ≤ x.toInt ∧ x.toInt / 100 < 3 ∧ x.toInt / 10 % 10 < 4 ∧ x.toInt % 10 < 6
          · apply Int32.toInt_inj.mp
            first
            | (rw [zPl_yes hc_]
               have m1_ : (24 * (x / 100)).toInt = 24 * (x.toInt / 100) := by rw [i_mul (by rw [e1_, k24_]; omega) (by rw [e1_, k24_]; omega), e1_, k24_]
               have m2_ : (6 * (x / 10 - x / 10 / 10 * 10)).toInt = 6 * (x.toInt / 10 % 10) := by rw [i_mul (by rw [e2_, k6_]; omega) (by rw [e2_, k6_]; omega), e2_, k6_]
               have m3_ : (24 * (x / 100) + 6 * (x / 10 - x / 10 / 10 * 10)).toInt = 24 * (x.toInt / 100) + 6 * (x.toInt / 10 % 10) := by rw [i_add (by rw [m1_, m2_]; omega) (by rw [m1_, m2_]; omega), m1_, m2_]
               rw [i_add (by rw [m3_, e3_]; omega) (by rw [m3_, e3_]; omega), m3_, e3_])
            | exact absurd hc_ c_39
          · exact (zPl_no hc_).symm ▸ (by first | rfl | exact absurd c_39 hc_))
  refine a_iload_0 (pc := 0) dX6_placeOf_0 ?_
  refine a_if_lt (tgt := 36) (pc := 1) dX6_placeOf_1 (by decide) (fun c_1 => ?_) (fun c_1 => ?_)
  · have hno_ : ¬ (0 ≤ x.toInt ∧ x.toInt / 100 < 3 ∧ x.toInt / 10 % 10 < 4 ∧ x.toInt % 10 < 6) := fun h => by
      have := Int32.lt_iff_toInt_lt.mp c_1
      have k0_ : (0:Int32).toInt = 0 := by decide
      omega
    refine a_iconst (v := 0) (pc := 36) dX6_placeOf_36 (by decide) ?_
    first | exact J37_ _ (zB_0 hno_).symm | exact J37_ _ (zB_0 (by omega)).symm | exact J37_ _ (zB_1 (by omega)).symm
  · have h0_ : 0 ≤ x.toInt := by
      have := mt Int32.lt_iff_toInt_lt.mpr c_1
      have k0_ : (0:Int32).toInt = 0 := by decide
      omega
    obtain ⟨e1_, e2_, e3_⟩ := zPl_i h0_
    have k3_ : (3:Int32).toInt = 3 := by decide
    have k4_ : (4:Int32).toInt = 4 := by decide
    have k6_ : (6:Int32).toInt = 6 := by decide
    have k24_ : (24:Int32).toInt = 24 := by decide
    refine a_iload_0 (pc := 4) dX6_placeOf_4 ?_
    refine a_bipush (v := 100) (pc := 5) dX6_placeOf_5 (by decide) ?_
    refine a_idiv (pc := 7) dX6_placeOf_7 (by decide) ?_
    refine a_iconst (v := 3) (pc := 8) dX6_placeOf_8 (by decide) ?_
    refine a_icmp_ge (tgt := 36) (pc := 9) dX6_placeOf_9 (by decide) (fun c_9 => ?_) (fun c_9 => ?_)
    · have f9_ := Int32.le_iff_toInt_le.mp c_9
      rw [e1_, k3_] at f9_
      refine a_iconst (v := 0) (pc := 36) dX6_placeOf_36 (by decide) ?_
      first | exact J37_ _ (zB_0 hno_).symm | exact J37_ _ (zB_0 (by omega)).symm | exact J37_ _ (zB_1 (by omega)).symm
    · have f9_ := mt Int32.le_iff_toInt_le.mpr c_9
      rw [e1_, k3_] at f9_
      refine a_iload_0 (pc := 12) dX6_placeOf_12 ?_
      refine a_bipush (v := 10) (pc := 13) dX6_placeOf_13 (by decide) ?_
      refine a_idiv (pc := 15) dX6_placeOf_15 (by decide) ?_
      refine a_bipush (v := 10) (pc := 16) dX6_placeOf_16 (by decide) ?_
      refine a_irem (pc := 18) dX6_placeOf_18 (by decide) ?_
      refine a_iconst (v := 4) (pc := 19) dX6_placeOf_19 (by decide) ?_
      refine a_icmp_ge (tgt := 36) (pc := 20) dX6_placeOf_20 (by decide) (fun c_20 => ?_) (fun c_20 => ?_)
      · have f20_ := Int32.le_iff_toInt_le.mp c_20
        rw [e2_, k4_] at f20_
        refine a_iconst (v := 0) (pc := 36) dX6_placeOf_36 (by decide) ?_
        first | exact J37_ _ (zB_0 hno_).symm | exact J37_ _ (zB_0 (by omega)).symm | exact J37_ _ (zB_1 (by omega)).symm
      · have f20_ := mt Int32.le_iff_toInt_le.mpr c_20
        rw [e2_, k4_] at f20_
        refine a_iload_0 (pc := 23) dX6_placeOf_23 ?_
        refine a_bipush (v := 10) (pc := 24) dX6_placeOf_24 (by decide) ?_
        refine a_irem (pc := 26) dX6_placeOf_26 (by decide) ?_
        refine a_bipush (v := 6) (pc := 27) dX6_placeOf_27 (by decide) ?_
        refine a_icmp_ge (tgt := 36) (pc := 29) dX6_placeOf_29 (by decide) (fun c_29 => ?_) (fun c_29 => ?_)
        · have f29_ := Int32.le_iff_toInt_le.mp c_29
          rw [e3_, k6_] at f29_
          refine a_iconst (v := 0) (pc := 36) dX6_placeOf_36 (by decide) ?_
          first | exact J37_ _ (zB_0 hno_).symm | exact J37_ _ (zB_0 (by omega)).symm | exact J37_ _ (zB_1 (by omega)).symm
        · have f29_ := mt Int32.le_iff_toInt_le.mpr c_29
          rw [e3_, k6_] at f29_
          refine a_iconst (v := 1) (pc := 32) dX6_placeOf_32 (by decide) ?_
          refine a_goto (tgt := 37) (pc := 33) dX6_placeOf_33 (by decide) ?_
          first | exact J37_ _ (zB_0 hno_).symm | exact J37_ _ (zB_0 (by omega)).symm | exact J37_ _ (zB_1 (by omega)).symm

set_option maxRecDepth 100000 in
set_option maxHeartbeats 4000000 in
theorem lm_isStage (l : Launch) (G : zG) (ad : Nat → Nat) (σ : zσ) (hσ : zOk σ) (x0 : zY) (k : Nat) (hk : k < 3) : ∀ (q i : Nat), i + q = k + 1 → AV l G sX6_isStage (wM G ad σ x0) (zP (.int (zB (∀ j, j < k + 1 → ¬ σ.2.1 0 j = 0))) (wM G ad σ x0)) 4 [some (.ref (ad 0)), some (.int (nI k)), some (.int (zB (∀ j, j < i → ¬ σ.2.1 0 j = 0))), some (.int (nI i))] [] (wM G ad σ x0) := by
  intro q_
  induction q_ using Nat.strongRecOn
  rename_i q_ ih_
  intro i hq_
  refine a_iload_3 (pc := 4) dX6_isStage_4 ?_
  refine a_iload_1 (pc := 5) dX6_isStage_5 ?_
  refine a_icmp_gt (tgt := 34) (pc := 6) dX6_isStage_6 (by decide) (fun c_6 => ?_) (fun c_6 => ?_)
  · obtain rfl : i = k + 1 := by have := (zI_lt (by omega) (by omega)).mp c_6; omega
    refine a_iload_2 (pc := 34) dX6_isStage_34 ?_
    exact a_zret (pc := 35) dX6_isStage_35 rfl (zB_or _) rfl ⟨rfl, rfl⟩
  · have hi_ : i ≤ k := by have := mt (zI_lt (a := k) (b := i) (by omega) (by omega)).mpr c_6; omega
    have h4_ := hσ.2.2.2.2.2.1 i (by omega)
    refine a_iload_2 (pc := 9) dX6_isStage_9 ?_
    first | refine a_if_eqB (tgt := 26) (pc := 10) dX6_isStage_10 (by decide) (fun c_10 => ?_) (fun c_10 => ?_) | refine a_if_eq (tgt := 26) (pc := 10) dX6_isStage_10 (by decide) (fun c_10 => ?_) (fun c_10 => ?_)
    · have hB_ : ¬ ∀ j, j < i + 1 → ¬ σ.2.1 0 j = 0 := fun h => c_10 (fun j hj => h j (by omega))
      refine a_iconst (v := 0) (pc := 26) dX6_isStage_26 (by decide) ?_
      refine a_istore_2 (pc := 27) dX6_isStage_27 rfl (by decide) ?_
      refine a_iinc_3 (cst := 1) (pc := 28) dX6_isStage_28 rfl (by decide) (by decide) ?_
      refine a_goto (tgt := 4) (pc := 31) dX6_isStage_31 (by decide) ?_
      rw [← nI_succ]
      refine a_to (ih_ (q_ - 1) (by omega) (i + 1) (by omega)) rfl ?_ rfl rfl
      first | rw [zB_0 hB_] | rw [zB_1 hA_]
    · refine a_aload_0 (pc := 13) dX6_isStage_13 ?_
      refine a_getf (ci := 6) (j := 0) rfl win_X6 (by decide) (pc := 14) dX6_isStage_14 kf_X6_7 rfl rfl ?_
      refine a_iload_3 (pc := 17) dX6_isStage_17 ?_
      refine a_ialdN (pc := 18) dX6_isStage_18 rfl (by omega) (by decide) ?_
      refine a_if_le (tgt := 26) (pc := 19) dX6_isStage_19 (by decide) (fun c_19 => ?_) (fun c_19 => ?_)
      · have hB_ : ¬ ∀ j, j < i + 1 → ¬ σ.2.1 0 j = 0 := fun h => h i (by omega) (by have := (zI_le (a := σ.2.1 0 i) (b := 0) (by omega) (by decide)).mp c_19; omega)
        refine a_iconst (v := 0) (pc := 26) dX6_isStage_26 (by decide) ?_
        refine a_istore_2 (pc := 27) dX6_isStage_27 rfl (by decide) ?_
        refine a_iinc_3 (cst := 1) (pc := 28) dX6_isStage_28 rfl (by decide) (by decide) ?_
        refine a_goto (tgt := 4) (pc := 31) dX6_isStage_31 (by decide) ?_
        rw [← nI_succ]
        refine a_to (ih_ (q_ - 1) (by omega) (i + 1) (by omega)) rfl ?_ rfl rfl
        first | rw [zB_0 hB_] | rw [zB_1 hA_]
      · have hA_ : ∀ j, j < i + 1 → ¬ σ.2.1 0 j = 0 := fun j hj => by
          rcases Nat.lt_succ_iff_lt_or_eq.mp hj with h | h
          · exact c_10 j h
          · subst h; intro e; exact c_19 (by rw [e]; decide)
        refine a_iconst (v := 1) (pc := 22) dX6_isStage_22 (by decide) ?_
        refine a_goto (tgt := 27) (pc := 23) dX6_isStage_23 (by decide) ?_
        refine a_istore_2 (pc := 27) dX6_isStage_27 rfl (by decide) ?_
        refine a_iinc_3 (cst := 1) (pc := 28) dX6_isStage_28 rfl (by decide) (by decide) ?_
        refine a_goto (tgt := 4) (pc := 31) dX6_isStage_31 (by decide) ?_
        rw [← nI_succ]
        refine a_to (ih_ (q_ - 1) (by omega) (i + 1) (by omega)) rfl ?_ rfl rfl
        first | rw [zB_0 hB_] | rw [zB_1 hA_]

set_option maxRecDepth 100000 in
set_option maxHeartbeats 4000000 in
/-- isStage -/
theorem m_isStage (l : Launch) (G : zG) (ad : Nat → Nat) (σ : zσ) (hσ : zOk σ) (x0 : zY) (k : Nat) (hk : k < 3) : zSem l G sX6_isStage [.ref (ad 0), .int (nI k)] (wM G ad σ x0) (zP (.int (zB (∀ j, j < k + 1 → ¬ σ.2.1 0 j = 0))) (wM G ad σ x0)) := by
  refine zEnterV (L := [some (.ref (ad 0)), some (.int (nI k)), none, none]) (by decide) rfl (Nat.le_of_ble_eq_true rfl) rfl ?_
  refine a_iconst (v := 1) (pc := 0) dX6_isStage_0 (by decide) ?_
  refine a_istore_2 (pc := 1) dX6_isStage_1 rfl (by decide) ?_
  refine a_iconst (v := 0) (pc := 2) dX6_isStage_2 (by decide) ?_
  refine a_istore_3 (pc := 3) dX6_isStage_3 rfl (by decide) ?_
  exact a_to (lm_isStage l G ad σ hσ x0 k hk (k + 1) 0 (by omega)) rfl (by rw [zB_1 (fun j hj => absurd hj (Nat.not_lt_zero j))]; rfl) rfl rfl


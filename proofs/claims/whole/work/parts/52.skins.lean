/-! The model: skins that stand, fresh, told, isOf, change. -/
theorem zHσ_iff {σ : zσ} (hσ : zOk σ) {k : Nat} (hk : k < 72) : zHσ σ k ↔ ((∀ j, j < k / 24 + 1 → ¬ σ.2.1 0 j = 0) ∧ k / 6 % 4 < σ.2.1 0 (k / 24) ∧ k % 6 < σ.1 0) := by
  rw [show zHσ σ k ↔ _ from zHd_N hσ.2.2.2.2.2.1 hσ.1.2 hk]
  rw [show k % 24 / 6 = k / 6 % 4 by omega]
  unfold zMf
  by_cases h : ∀ j, j < k / 24 → ¬ σ.2.1 0 j = 0
  · rw [if_pos h]
    constructor
    · rintro ⟨h1, h2⟩
      refine ⟨fun j hj => ?_, h2, h1⟩
      rcases Nat.lt_succ_iff_lt_or_eq.mp hj with h3 | h3
      · exact h j h3
      · subst h3; omega
    · rintro ⟨-, h2, h1⟩; exact ⟨h1, h2⟩
  · rw [if_neg h]
    constructor
    · rintro ⟨-, h2⟩; omega
    · rintro ⟨h3, -⟩; exact absurd (fun j hj => h3 j (by omega)) h
set_option maxRecDepth 100000 in
set_option maxHeartbeats 4000000 in
/-- isThere -/
theorem m_isThere (l : Launch) (G : zG) (ad : Nat → Nat) (σ : zσ) (hσ : zOk σ) (x0 : zY) (k : Nat) (hk : k < 72) : zSem l G sX6_isThere [.ref (ad 0), .int (nI k)] (wM G ad σ x0) (zP (.int (zB (zHσ σ k))) (wM G ad σ x0)) := by
  refine zEnterV (L := [some (.ref (ad 0)), some (.int (nI k))]) (by decide) rfl (Nat.le_of_ble_eq_true rfl) rfl ?_
  refine a_aload_0 (pc := 0) dX6_isThere_0 ?_
  refine a_iload_1 (pc := 1) dX6_isThere_1 ?_
  refine a_bipush (v := 24) (pc := 2) dX6_isThere_2 (by decide) ?_
  refine a_idiv (pc := 4) dX6_isThere_4 (by decide) ?_
  have h4_ := hσ.2.2.2.2.2.1 (k / 24) (by omega)
  have h6_ := hσ.1.2
  rw [show (24 : Int32) = nI 24 from rfl, zI_div (by omega) (by decide) (by decide)]
  refine f_P (ad := ad) (q0 := 0) (S2 := sX6_isStage) (m_isStage l G ad σ hσ x0 (k / 24) (by omega)) kc_X6_isStage km_X6_81 ki_X6_isStage kv_X6_isStage kini_X6 ⟨kn_X6_isStage, by decide, by decide⟩ (pc := 5) dX6_isThere_5 (znd_of rfl znd18) rfl rfl (Nat.le_of_ble_eq_true rfl) rfl rfl rfl ?_
  first | refine a_if_eqB (tgt := 44) (pc := 8) dX6_isThere_8 (by decide) (fun c_8 => ?_) (fun c_8 => ?_) | refine a_if_eq (tgt := 44) (pc := 8) dX6_isThere_8 (by decide) (fun c_8 => ?_) (fun c_8 => ?_)
  · have hB_ : ¬ zHσ σ k := fun h => c_8 ((zHσ_iff hσ hk).mp h).1
    refine a_iconst (v := 0) (pc := 44) dX6_isThere_44 (by decide) ?_
    exact a_zret (pc := 45) dX6_isThere_45 rfl (by decide) rfl (by first | exact zPB0 hB_ | exact zPB1 hA_)
  · refine a_iload_1 (pc := 11) dX6_isThere_11 ?_
    refine a_bipush (v := 6) (pc := 12) dX6_isThere_12 (by decide) ?_
    refine a_idiv (pc := 14) dX6_isThere_14 (by decide) ?_
    refine a_iconst (v := 4) (pc := 15) dX6_isThere_15 (by decide) ?_
    refine a_irem (pc := 16) dX6_isThere_16 (by decide) ?_
    rw [show (6 : Int32) = nI 6 from rfl, show (4 : Int32) = nI 4 from rfl, zI_div (by omega) (by decide) (by decide), zI_rem (by omega) (by decide) (by decide)]
    refine a_aload_0 (pc := 17) dX6_isThere_17 ?_
    refine a_getf (ci := 6) (j := 0) rfl win_X6 (by decide) (pc := 18) dX6_isThere_18 kf_X6_7 rfl rfl ?_
    refine a_iload_1 (pc := 21) dX6_isThere_21 ?_
    refine a_bipush (v := 24) (pc := 22) dX6_isThere_22 (by decide) ?_
    refine a_idiv (pc := 24) dX6_isThere_24 (by decide) ?_
    rw [show (24 : Int32) = nI 24 from rfl, zI_div (by omega) (by decide) (by decide)]
    refine a_ialdN (pc := 25) dX6_isThere_25 rfl (by omega) (by decide) ?_
    refine a_icmp_ge (tgt := 44) (pc := 26) dX6_isThere_26 (by decide) (fun c_26 => ?_) (fun c_26 => ?_)
    · have hB_ : ¬ zHσ σ k := fun h => by have h1_ := ((zHσ_iff hσ hk).mp h).2.1; have := (zI_le (by omega) (by omega)).mp c_26; omega
      refine a_iconst (v := 0) (pc := 44) dX6_isThere_44 (by decide) ?_
      exact a_zret (pc := 45) dX6_isThere_45 rfl (by decide) rfl (by first | exact zPB0 hB_ | exact zPB1 hA_)
    · have f26_ := mt (zI_le (a := σ.2.1 0 (k / 24)) (b := k / 6 % 4) (by omega) (by omega)).mpr c_26
      refine a_iload_1 (pc := 29) dX6_isThere_29 ?_
      refine a_bipush (v := 6) (pc := 30) dX6_isThere_30 (by decide) ?_
      refine a_irem (pc := 32) dX6_isThere_32 (by decide) ?_
      rw [show (6 : Int32) = nI 6 from rfl, zI_rem (by omega) (by decide) (by decide)]
      refine a_aload_0 (pc := 33) dX6_isThere_33 ?_
      refine a_getf (ci := 6) (j := 1) rfl win_X6 (by decide) (pc := 34) dX6_isThere_34 kf_X6_13 rfl rfl ?_
      refine a_icmp_ge (tgt := 44) (pc := 37) dX6_isThere_37 (by decide) (fun c_37 => ?_) (fun c_37 => ?_)
      · have hB_ : ¬ zHσ σ k := fun h => by have h1_ := ((zHσ_iff hσ hk).mp h).2.2; have := (zI_le (by omega) (by omega)).mp c_37; omega
        refine a_iconst (v := 0) (pc := 44) dX6_isThere_44 (by decide) ?_
        exact a_zret (pc := 45) dX6_isThere_45 rfl (by decide) rfl (by first | exact zPB0 hB_ | exact zPB1 hA_)
      · have f37_ := mt (zI_le (a := σ.1 0) (b := k % 6) (by omega) (by omega)).mpr c_37
        have hA_ : zHσ σ k := (zHσ_iff hσ hk).mpr ⟨c_8, by omega, by omega⟩
        refine a_iconst (v := 1) (pc := 40) dX6_isThere_40 (by decide) ?_
        refine a_goto (tgt := 45) (pc := 41) dX6_isThere_41 (by decide) ?_
        exact a_zret (pc := 45) dX6_isThere_45 rfl (by decide) rfl (by first | exact zPB0 hB_ | exact zPB1 hA_)

set_option maxRecDepth 100000 in
set_option maxHeartbeats 4000000 in
theorem m_fresh (l : Launch) (G : zG) (ad : Nat → Nat) (σ : zσ) (x0 : zY) (hσ : zOk σ) (hN : zNb σ x0.1) (x : Int32) (c : Int32) : zSem l G sX6_fresh [.ref (ad 0), .int x, .int c] (wM G ad σ x0) (zPostM G ad (o_fresh σ x c)) := by
  refine zEnterV (L := [some (.ref (ad 0)), some (.int x), some (.int c), none, none]) (by decide) rfl (Nat.le_of_ble_eq_true rfl) rfl ?_
  refine a_iload_1 (pc := 0) dX6_fresh_0 ?_
  refine cS_P (S2 := sX6_placeOf) (m_placeOf l G _) kc_X6_placeOf km_X6_85 ks_X6_placeOf kini_X6 ⟨kn_X6_placeOf, by decide, by decide⟩ (pc := 1) dX6_fresh_1 [] rfl rfl rfl rfl (Nat.le_of_ble_eq_true rfl) ?_
  refine a_istore_3 (pc := 4) dX6_fresh_4 rfl (by decide) ?_
  refine a_iload_3 (pc := 5) dX6_fresh_5 ?_
  rcases hp_ : zPl x with _ | k
  · refine a_if_lt (tgt := 18) (pc := 6) dX6_fresh_6 (by decide) (fun _ => ?_) (fun c_ => absurd (show zplace none < 0 by decide) c_)
    refine a_ldc2 (pc := 18) dX6_fresh_18 kl_X6_79 ?_
    exact a_lret (pc := 21) dX6_fresh_21 rfl rfl (by first | exact mret x0 (if_pos (Or.inl hp_)) hN rfl | exact mret x0 (if_pos (Or.inr (Decidable.not_not.mp c_15))) hN rfl)
  · have hk_ := zPl_lt hp_
    have hne_ : ¬ zPl x = none := by rw [hp_]; exact fun h => by cases h
    dsimp only [zplace]
    refine a_if_lt (tgt := 18) (pc := 6) dX6_fresh_6 (by decide) (fun c_ => absurd c_ (nI_pos (by omega))) (fun _ => ?_)
    refine a_iload_2 (pc := 9) dX6_fresh_9 ?_
    refine a_iconst (v := 0) (pc := 10) dX6_fresh_10 (by decide) ?_
    refine a_iconst (v := 3) (pc := 11) dX6_fresh_11 (by decide) ?_
    refine cS_P (S2 := sX6_isIn) (m_isIn l G _ _ _) kc_X6_isIn km_X6_75 ks_X6_isIn kini_X6 ⟨kn_X6_isIn, by decide, by decide⟩ (pc := 12) dX6_fresh_12 [] rfl rfl rfl rfl (Nat.le_of_ble_eq_true rfl) ?_
    first | refine a_if_neB (tgt := 22) (pc := 15) dX6_fresh_15 (by decide) (fun c_15 => ?_) (fun c_15 => ?_) | refine a_if_ne (tgt := 22) (pc := 15) dX6_fresh_15 (by decide) (fun c_15 => ?_) (fun c_15 => ?_)
    · obtain ⟨mm_, hm_, rfl⟩ := zrange (n := 3) (by decide) rfl c_15
      refine a_aload_0 (pc := 22) dX6_fresh_22 ?_
      refine a_getf (ci := 6) (j := 3) rfl win_X6 (by decide) (pc := 23) dX6_fresh_23 kf_X6_20 rfl rfl ?_
      refine a_iload_3 (pc := 26) dX6_fresh_26 ?_
      refine a_ialdN (pc := 27) dX6_fresh_27 rfl (by omega) (by decide) ?_
      refine a_istore_4 (pc := 28) dX6_fresh_28 rfl (by decide) ?_
      refine a_aload_0 (pc := 30) dX6_fresh_30 ?_
      refine a_getf (ci := 6) (j := 3) rfl win_X6 (by decide) (pc := 31) dX6_fresh_31 kf_X6_20 rfl rfl ?_
      refine a_iload_3 (pc := 34) dX6_fresh_34 ?_
      refine a_iconst (v := 0) (pc := 35) dX6_fresh_35 (by decide) ?_
      refine a_iastN (pc := 36) dX6_fresh_36 rfl (by omega) (by decide) ?_
      refine a_aload_0 (pc := 37) dX6_fresh_37 ?_
      refine a_getf (ci := 6) (j := 2) rfl win_X6 (by decide) (pc := 38) dX6_fresh_38 kf_X6_17 rfl rfl ?_
      refine a_iload_3 (pc := 41) dX6_fresh_41 ?_
      refine a_iload_2 (pc := 42) dX6_fresh_42 ?_
      refine a_iastN (pc := 43) dX6_fresh_43 rfl (by omega) (by decide) ?_
      refine a_iload_4 (pc := 44) dX6_fresh_44 ?_
      refine a_i2l (pc := 46) dX6_fresh_46 ?_
      exact a_lret (pc := 47) dX6_fresh_47 rfl rfl (by
          have e_ : o_fresh σ x (nI mm_) = _ := if_neg (fun h => h.elim hne_ c_15)
          rw [nI_clamp (by omega), hp_] at e_
          exact mret x0 e_ hN (by rw [show (0 : Int32) = nI 0 from rfl, updN, updN]; rfl))
    · refine a_ldc2 (pc := 18) dX6_fresh_18 kl_X6_79 ?_
      exact a_lret (pc := 21) dX6_fresh_21 rfl rfl (by first | exact mret x0 (if_pos (Or.inl hp_)) hN rfl | exact mret x0 (if_pos (Or.inr (Decidable.not_not.mp c_15))) hN rfl)

theorem zAbove_iff {d : Nat} (hd : d < 4) (c : Int32) : (c = 0 ∨ c = nI d ∨ c = zAbove (nI d)) ↔ (c = 0 ∨ nI d = c ∨ (c = 1 ∧ nI d = 3)) := by
  rcases (show d = 0 ∨ d = 1 ∨ d = 2 ∨ d = 3 by omega) with rfl | rfl | rfl | rfl
  · rw [show zAbove (nI 0) = 0 by decide +kernel]
    constructor
    · rintro (h | h | h)
      · exact Or.inl h
      · exact Or.inr (Or.inl h.symm)
      · exact Or.inl h
    · rintro (h | h | h)
      · exact Or.inl h
      · exact Or.inr (Or.inl h.symm)
      · exact absurd h.2 (by decide)
  · rw [show zAbove (nI 1) = 0 by decide +kernel]
    constructor
    · rintro (h | h | h)
      · exact Or.inl h
      · exact Or.inr (Or.inl h.symm)
      · exact Or.inl h
    · rintro (h | h | h)
      · exact Or.inl h
      · exact Or.inr (Or.inl h.symm)
      · exact absurd h.2 (by decide)
  · rw [show zAbove (nI 2) = 0 by decide +kernel]
    constructor
    · rintro (h | h | h)
      · exact Or.inl h
      · exact Or.inr (Or.inl h.symm)
      · exact Or.inl h
    · rintro (h | h | h)
      · exact Or.inl h
      · exact Or.inr (Or.inl h.symm)
      · exact absurd h.2 (by decide)
  · rw [show zAbove (nI 3) = 1 by decide +kernel]
    constructor
    · rintro (h | h | h)
      · exact Or.inl h
      · exact Or.inr (Or.inl h.symm)
      · exact Or.inr (Or.inr ⟨h, rfl⟩)
    · rintro (h | h | h)
      · exact Or.inl h
      · exact Or.inr (Or.inl h.symm)
      · exact Or.inr (Or.inr h.1)
set_option maxRecDepth 100000 in
set_option maxHeartbeats 4000000 in
theorem m_isOf (l : Launch) (G : zG) (ad : Nat → Nat) (σ : zσ) (x0 : zY) (hσ : zOk σ) (hN : zNb σ x0.1) (x : Int32) (c : Int32) : zSem l G sX6_isOf [.ref (ad 0), .int x, .int c] (wM G ad σ x0) (zPostM G ad (o_isOf σ x c)) := by
  refine zEnterV (L := [some (.ref (ad 0)), some (.int x), some (.int c), none]) (by decide) rfl (Nat.le_of_ble_eq_true rfl) rfl ?_
  refine a_iload_1 (pc := 0) dX6_isOf_0 ?_
  refine cS_P (S2 := sX6_placeOf) (m_placeOf l G _) kc_X6_placeOf km_X6_85 ks_X6_placeOf kini_X6 ⟨kn_X6_placeOf, by decide, by decide⟩ (pc := 1) dX6_isOf_1 [] rfl rfl rfl rfl (Nat.le_of_ble_eq_true rfl) ?_
  refine a_istore_3 (pc := 4) dX6_isOf_4 rfl (by decide) ?_
  refine a_iload_3 (pc := 5) dX6_isOf_5 ?_
  rcases hp_ : zPl x with _ | k
  · refine a_if_lt (tgt := 18) (pc := 6) dX6_isOf_6 (by decide) (fun _ => ?_) (fun c_ => absurd (show zplace none < 0 by decide) c_)
    refine a_ldc2 (pc := 18) dX6_isOf_18 kl_X6_79 ?_
    exact a_lret (pc := 21) dX6_isOf_21 rfl rfl (by first | exact mret x0 (by unfold o_isOf; rw [if_pos (Or.inl hp_)]) hN rfl | exact mret x0 (by unfold o_isOf; rw [if_pos (Or.inr (Decidable.not_not.mp c_15))]) hN rfl)
  · have hk_ := zPl_lt hp_
    have hne_ : ¬ zPl x = none := by rw [hp_]; exact fun h => by cases h
    dsimp only [zplace]
    refine a_if_lt (tgt := 18) (pc := 6) dX6_isOf_6 (by decide) (fun c_ => absurd c_ (nI_pos (by omega))) (fun _ => ?_)
    refine a_iload_2 (pc := 9) dX6_isOf_9 ?_
    refine a_iconst (v := 0) (pc := 10) dX6_isOf_10 (by decide) ?_
    refine a_iconst (v := 3) (pc := 11) dX6_isOf_11 (by decide) ?_
    refine cS_P (S2 := sX6_isIn) (m_isIn l G _ _ _) kc_X6_isIn km_X6_75 ks_X6_isIn kini_X6 ⟨kn_X6_isIn, by decide, by decide⟩ (pc := 12) dX6_isOf_12 [] rfl rfl rfl rfl (Nat.le_of_ble_eq_true rfl) ?_
    first | refine a_if_neB (tgt := 22) (pc := 15) dX6_isOf_15 (by decide) (fun c_15 => ?_) (fun c_15 => ?_) | refine a_if_ne (tgt := 22) (pc := 15) dX6_isOf_15 (by decide) (fun c_15 => ?_) (fun c_15 => ?_)
    · refine a_iload_2 (pc := 22) dX6_isOf_22 ?_
      first | refine a_if_eqB (tgt := 51) (pc := 23) dX6_isOf_23 (by decide) (fun c_23 => ?_) (fun c_23 => ?_) | refine a_if_eq (tgt := 51) (pc := 23) dX6_isOf_23 (by decide) (fun c_23 => ?_) (fun c_23 => ?_)
      · have hA_ := (zAbove_iff (hσ.2.2.2.2.2.2.2.1 k hk_) c).mpr (Or.inl c_23)
        refine a_lconst (v := 1) (pc := 51) dX6_isOf_51 (by decide) ?_
        refine a_goto (tgt := 56) (pc := 52) dX6_isOf_52 (by decide) ?_
        exact a_lret (pc := 56) dX6_isOf_56 rfl rfl (by first | exact mret x0 (by unfold o_isOf; rw [if_neg (fun h => h.elim hne_ c_15), hp_, Option.getD_some, if_pos hA_]) hN rfl | exact mret x0 (by unfold o_isOf; rw [if_neg (fun h => h.elim hne_ c_15), hp_, Option.getD_some, if_neg hB_]) hN rfl)
      · refine a_aload_0 (pc := 26) dX6_isOf_26 ?_
        refine a_getf (ci := 6) (j := 2) rfl win_X6 (by decide) (pc := 27) dX6_isOf_27 kf_X6_17 rfl rfl ?_
        refine a_iload_3 (pc := 30) dX6_isOf_30 ?_
        refine a_ialdN (pc := 31) dX6_isOf_31 rfl (by omega) (by decide) ?_
        refine a_iload_2 (pc := 32) dX6_isOf_32 ?_
        refine a_icmp_eq (tgt := 51) (pc := 33) dX6_isOf_33 (by decide) (fun c_33 => ?_) (fun c_33 => ?_)
        · have hA_ := (zAbove_iff (hσ.2.2.2.2.2.2.2.1 k hk_) c).mpr (Or.inr (Or.inl c_33))
          refine a_lconst (v := 1) (pc := 51) dX6_isOf_51 (by decide) ?_
          refine a_goto (tgt := 56) (pc := 52) dX6_isOf_52 (by decide) ?_
          exact a_lret (pc := 56) dX6_isOf_56 rfl rfl (by first | exact mret x0 (by unfold o_isOf; rw [if_neg (fun h => h.elim hne_ c_15), hp_, Option.getD_some, if_pos hA_]) hN rfl | exact mret x0 (by unfold o_isOf; rw [if_neg (fun h => h.elim hne_ c_15), hp_, Option.getD_some, if_neg hB_]) hN rfl)
        · refine a_iload_2 (pc := 36) dX6_isOf_36 ?_
          refine a_iconst (v := 1) (pc := 37) dX6_isOf_37 (by decide) ?_
          refine a_icmp_ne (tgt := 55) (pc := 38) dX6_isOf_38 (by decide) (fun c_38 => ?_) (fun c_38 => ?_)
          · have hB_ := mt (zAbove_iff (hσ.2.2.2.2.2.2.2.1 k hk_) c).mp (fun h => h.elim c_23 (fun h => h.elim c_33 (fun h => c_38 h.1)))
            refine a_lconst (v := 0) (pc := 55) dX6_isOf_55 (by decide) ?_
            exact a_lret (pc := 56) dX6_isOf_56 rfl rfl (by first | exact mret x0 (by unfold o_isOf; rw [if_neg (fun h => h.elim hne_ c_15), hp_, Option.getD_some, if_pos hA_]) hN rfl | exact mret x0 (by unfold o_isOf; rw [if_neg (fun h => h.elim hne_ c_15), hp_, Option.getD_some, if_neg hB_]) hN rfl)
          · refine a_aload_0 (pc := 41) dX6_isOf_41 ?_
            refine a_getf (ci := 6) (j := 2) rfl win_X6 (by decide) (pc := 42) dX6_isOf_42 kf_X6_17 rfl rfl ?_
            refine a_iload_3 (pc := 45) dX6_isOf_45 ?_
            refine a_ialdN (pc := 46) dX6_isOf_46 rfl (by omega) (by decide) ?_
            refine a_iconst (v := 3) (pc := 47) dX6_isOf_47 (by decide) ?_
            refine a_icmp_ne (tgt := 55) (pc := 48) dX6_isOf_48 (by decide) (fun c_48 => ?_) (fun c_48 => ?_)
            · have hB_ := mt (zAbove_iff (hσ.2.2.2.2.2.2.2.1 k hk_) c).mp (fun h => h.elim c_23 (fun h => h.elim c_33 (fun h => c_48 h.2)))
              refine a_lconst (v := 0) (pc := 55) dX6_isOf_55 (by decide) ?_
              exact a_lret (pc := 56) dX6_isOf_56 rfl rfl (by first | exact mret x0 (by unfold o_isOf; rw [if_neg (fun h => h.elim hne_ c_15), hp_, Option.getD_some, if_pos hA_]) hN rfl | exact mret x0 (by unfold o_isOf; rw [if_neg (fun h => h.elim hne_ c_15), hp_, Option.getD_some, if_neg hB_]) hN rfl)
            · have hA_ := (zAbove_iff (hσ.2.2.2.2.2.2.2.1 k hk_) c).mpr (Or.inr (Or.inr ⟨c_38, c_48⟩))
              refine a_lconst (v := 1) (pc := 51) dX6_isOf_51 (by decide) ?_
              refine a_goto (tgt := 56) (pc := 52) dX6_isOf_52 (by decide) ?_
              exact a_lret (pc := 56) dX6_isOf_56 rfl rfl (by first | exact mret x0 (by unfold o_isOf; rw [if_neg (fun h => h.elim hne_ c_15), hp_, Option.getD_some, if_pos hA_]) hN rfl | exact mret x0 (by unfold o_isOf; rw [if_neg (fun h => h.elim hne_ c_15), hp_, Option.getD_some, if_neg hB_]) hN rfl)
    · refine a_ldc2 (pc := 18) dX6_isOf_18 kl_X6_79 ?_
      exact a_lret (pc := 21) dX6_isOf_21 rfl rfl (by first | exact mret x0 (by unfold o_isOf; rw [if_pos (Or.inl hp_)]) hN rfl | exact mret x0 (by unfold o_isOf; rw [if_pos (Or.inr (Decidable.not_not.mp c_15))]) hN rfl)

set_option maxRecDepth 100000 in
set_option maxHeartbeats 4000000 in
theorem m_change (l : Launch) (G : zG) (ad : Nat → Nat) (σ : zσ) (x0 : zY) (hσ : zOk σ) (hN : zNb σ x0.1) (x : Int32) (y : Int32) : zSem l G sX6_change [.ref (ad 0), .int x, .int y] (wM G ad σ x0) (zPostM G ad (o_change σ x y)) := by
  refine zEnterV (L := [some (.ref (ad 0)), some (.int x), some (.int y), none, none]) (by decide) rfl (Nat.le_of_ble_eq_true rfl) rfl ?_
  refine a_iload_1 (pc := 0) dX6_change_0 ?_
  refine cS_P (S2 := sX6_placeOf) (m_placeOf l G _) kc_X6_placeOf km_X6_85 ks_X6_placeOf kini_X6 ⟨kn_X6_placeOf, by decide, by decide⟩ (pc := 1) dX6_change_1 [] rfl rfl rfl rfl (Nat.le_of_ble_eq_true rfl) ?_
  refine a_istore_3 (pc := 4) dX6_change_4 rfl (by decide) ?_
  refine a_iload_2 (pc := 5) dX6_change_5 ?_
  refine cS_P (S2 := sX6_placeOf) (m_placeOf l G _) kc_X6_placeOf km_X6_85 ks_X6_placeOf kini_X6 ⟨kn_X6_placeOf, by decide, by decide⟩ (pc := 6) dX6_change_6 [] rfl rfl rfl rfl (Nat.le_of_ble_eq_true rfl) ?_
  refine a_istore_4 (pc := 9) dX6_change_9 rfl (by decide) ?_
  refine a_iload_3 (pc := 11) dX6_change_11 ?_
  rcases hp_ : zPl x with _ | k
  · refine a_if_lt (tgt := 26) (pc := 12) dX6_change_12 (by decide) (fun _ => ?_) (fun c_ => absurd (show zplace none < 0 by decide) c_)
    refine a_ldc2 (pc := 26) dX6_change_26 kl_X6_79 ?_
    exact a_lret (pc := 29) dX6_change_29 rfl rfl (by first | exact mret x0 (if_pos (Or.inl hp_)) hN rfl | exact mret x0 (if_pos (Or.inr (Or.inl hq_))) hN rfl | exact mret x0 (if_pos (Or.inr (Or.inr (by rw [hp_, hq_, hkj_])))) hN rfl)
  · have hk_ := zPl_lt hp_
    have hne_ : ¬ zPl x = none := by rw [hp_]; exact fun h => by cases h
    dsimp only [zplace]
    refine a_if_lt (tgt := 26) (pc := 12) dX6_change_12 (by decide) (fun c_ => absurd c_ (nI_pos (by omega))) (fun _ => ?_)
    refine a_iload_4 (pc := 15) dX6_change_15 ?_
    rcases hq_ : zPl y with _ | j
    · refine a_if_lt (tgt := 26) (pc := 17) dX6_change_17 (by decide) (fun _ => ?_) (fun c_ => absurd (show zplace none < 0 by decide) c_)
      refine a_ldc2 (pc := 26) dX6_change_26 kl_X6_79 ?_
      exact a_lret (pc := 29) dX6_change_29 rfl rfl (by first | exact mret x0 (if_pos (Or.inl hp_)) hN rfl | exact mret x0 (if_pos (Or.inr (Or.inl hq_))) hN rfl | exact mret x0 (if_pos (Or.inr (Or.inr (by rw [hp_, hq_, hkj_])))) hN rfl)
    · have hj_ := zPl_lt hq_
      have hne2_ : ¬ zPl y = none := by rw [hq_]; exact fun h => by cases h
      refine a_if_lt (tgt := 26) (pc := 17) dX6_change_17 (by decide) (fun c_ => absurd c_ (nI_pos (by omega))) (fun _ => ?_)
      dsimp only [zplace]
      refine a_iload_3 (pc := 20) dX6_change_20 ?_
      refine a_iload_4 (pc := 21) dX6_change_21 ?_
      refine a_icmp_ne (tgt := 30) (pc := 23) dX6_change_23 (by decide) (fun c_23 => ?_) (fun c_23 => ?_)
      · have hkj_ : ¬ k = j := fun h => c_23 (by rw [h])
        refine a_aload_0 (pc := 30) dX6_change_30 ?_
        refine a_iload_3 (pc := 31) dX6_change_31 ?_
        refine a_iload_4 (pc := 32) dX6_change_32 ?_
        refine f_0 (ad := ad) (q0 := 0) (S2 := sX6_exchange) (m_exchange l G ad σ x0 k j hk_ hj_) kc_X6_exchange km_X6_96 ki_X6_exchange kv_X6_exchange kini_X6 ⟨kn_X6_exchange, by decide, by decide⟩ (pc := 34) dX6_change_34 (znd_of rfl znd18) rfl rfl (Nat.le_of_ble_eq_true rfl) rfl rfl rfl (fun _u _ => ?_)
        refine a_lconst (v := 0) (pc := 37) dX6_change_37 (by decide) ?_
        exact a_lret (pc := 38) dX6_change_38 rfl rfl (by
            have e_ : o_change σ x y = _ := if_neg (fun h => h.elim hne_ (fun h => h.elim hne2_ (fun h => by rw [hp_, hq_] at h; exact hkj_ (Option.some.inj h))))
            rw [hp_, hq_] at e_
            exact mret x0 e_ hN rfl)
      · have hkj_ : k = j := zI_inj (by omega) (by omega) c_23
        refine a_ldc2 (pc := 26) dX6_change_26 kl_X6_79 ?_
        exact a_lret (pc := 29) dX6_change_29 rfl rfl (by first | exact mret x0 (if_pos (Or.inl hp_)) hN rfl | exact mret x0 (if_pos (Or.inr (Or.inl hq_))) hN rfl | exact mret x0 (if_pos (Or.inr (Or.inr (by rw [hp_, hq_, hkj_])))) hN rfl)


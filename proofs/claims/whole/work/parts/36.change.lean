/-! The plant: foul, the best change. -/
def zFs (v : Nat → Int32) (n : Int32) (f : Nat → Nat) : Nat → Int64 × Nat
  | 0 => (0, 0)
  | i + 1 => if zHd v n i then ((zFs v n f i).1 + (nI (f i)).toInt64, if nI (f i) ≤ nI (f (zFs v n f i).2) then (zFs v n f i).2 else i) else zFs v n f i
theorem zFs_lt (v : Nat → Int32) (n : Int32) (f : Nat → Nat) : ∀ i, i ≤ 72 → (zFs v n f i).2 < 72
  | 0, _ => Nat.succ_pos 71
  | i + 1, h => by
    have := zFs_lt v n f i (by omega)
    unfold zFs
    split
    · show (if _ then _ else _) < 72
      split <;> omega
    · exact this
abbrev zFsσ (σ : zσ) : Nat → Int64 × Nat := zFs (zVesf σ) (nI (σ.1 0)) (σ.2.1 2)
def o_foul (σ : zσ) (c : Int32) : Int64 × zσ := (if zOR c 0 2 then zBAD else if c = 0 then (zFsσ σ 72).1 else if c = 1 then (nI (σ.2.1 2 (zFsσ σ 72).2)).toInt64 else (nI (zNum (zFsσ σ 72).2)).toInt64, σ)
set_option maxRecDepth 100000 in
set_option maxHeartbeats 4000000 in
theorem lp_foul (l : Launch) (G : zG) (ad : Nat → Nat) (σ : zσ) (x0 : zX) (c : Int32) (hc : ¬ zOR c 0 2) : ∀ (q i : Nat), i + q = 72 → AV l G sX5_foul (wP G ad σ x0) (zPost G ad (o_foul σ c)) 21 [some (.ref (ad 0)), some (.int c), some (.long (zFsσ σ i).1), none, some (.int (nI (zFsσ σ i).2)), some (.int (nI i))] [] (wP G ad σ x0) := by
  intro q_
  induction q_ using Nat.strongRecOn
  rename_i q_ ih_
  intro i hq_
  refine a_iload_5 (pc := 21) dX5_foul_21 ?_
  refine a_bipush (v := 72) (pc := 23) dX5_foul_23 (by decide) ?_
  refine a_icmp_ge (tgt := 92) (pc := 25) dX5_foul_25 (by decide) (fun c_25 => ?_) (fun c_25 => ?_)
  · obtain rfl : i = 72 := by have := (zI_le (a := 72) (b := i) (by decide) (by omega)).mp c_25; omega
    refine a_iload_1 (pc := 92) dX5_foul_92 ?_
    first | refine a_if_neB (tgt := 98) (pc := 93) dX5_foul_93 (by decide) (fun c_93 => ?_) (fun c_93 => ?_) | refine a_if_ne (tgt := 98) (pc := 93) dX5_foul_93 (by decide) (fun c_93 => ?_) (fun c_93 => ?_)
    · have hlt_ := zFs_lt (zVesf σ) (nI (σ.1 0)) (σ.2.1 2) 72 (by omega)
      refine a_iload_1 (pc := 98) dX5_foul_98 ?_
      refine a_iconst (v := 1) (pc := 99) dX5_foul_99 (by decide) ?_
      refine a_icmp_ne (tgt := 117) (pc := 100) dX5_foul_100 (by decide) (fun c_100 => ?_) (fun c_100 => ?_)
      · refine a_iload_4 (pc := 117) dX5_foul_117 ?_
        refine cS_P (S2 := sX5_numberOf) (c_numberOf l G _ hlt_) kc_X5_numberOf km_X5_167 ks_X5_numberOf kini_X5 ⟨kn_X5_numberOf, by decide, by decide⟩ (pc := 119) dX5_foul_119 [] rfl rfl rfl rfl (Nat.le_of_ble_eq_true rfl) ?_
        refine a_i2l (pc := 122) dX5_foul_122 ?_
        exact a_lret (pc := 123) dX5_foul_123 rfl rfl (by first | exact zret' x0 (by unfold o_foul; rw [if_neg hc, if_neg c_93, if_pos c_100]) rfl | exact zret' x0 (by unfold o_foul; rw [if_neg hc, if_neg c_93, if_neg c_100]) rfl)
      · refine a_aload_0 (pc := 103) dX5_foul_103 ?_
        refine a_getf (ci := 5) (j := 3) rfl win_X5 (by decide) (pc := 104) dX5_foul_104 kf_X5_26 rfl rfl ?_
        refine a_getfN (ci := 4) (j := 1) rfl win_X4 (by decide) (pc := 107) dX5_foul_107 kf_X5_87 rfl rfl ?_
        refine a_iload_4 (pc := 110) dX5_foul_110 ?_
        refine a_ialdN (pc := 112) dX5_foul_112 rfl (by omega) (by decide) ?_
        refine a_i2l (pc := 113) dX5_foul_113 ?_
        refine a_goto (tgt := 123) (pc := 114) dX5_foul_114 (by decide) ?_
        exact a_lret (pc := 123) dX5_foul_123 rfl rfl (by first | exact zret' x0 (by unfold o_foul; rw [if_neg hc, if_neg c_93, if_pos c_100]) rfl | exact zret' x0 (by unfold o_foul; rw [if_neg hc, if_neg c_93, if_neg c_100]) rfl)
    · refine a_lload_2 (pc := 96) dX5_foul_96 ?_
      exact a_lret (pc := 97) dX5_foul_97 rfl rfl (zret' x0 (by unfold o_foul; rw [if_neg hc, if_pos c_93]) rfl)
  · have hi_ : i < 72 := by have := mt (zI_le (a := 72) (b := i) (by decide) (by omega)).mpr c_25; omega
    have hlt_ := zFs_lt (zVesf σ) (nI (σ.1 0)) (σ.2.1 2) i (by omega)
    refine a_aload_0 (pc := 28) dX5_foul_28 ?_
    refine a_getf (ci := 5) (j := 1) rfl win_X5 (by decide) (pc := 29) dX5_foul_29 kf_X5_16 rfl rfl ?_
    refine a_iload_5 (pc := 32) dX5_foul_32 ?_
    refine cV_P (ad := ad) (q0 := 2) (S2 := sX2_holdsSkin) (c_holdsSkin l G (zpk ad [2, 3]) (zVesf σ) (nI (σ.1 0)) i hi_) kc_X2_holdsSkin km_X5_105 ki_X2_holdsSkin kv_X2_holdsSkin kini_X2 ⟨kn_X2_holdsSkin, by decide, by decide⟩ (pc := 34) dX5_foul_34 [2, 3] rfl rfl rfl rfl (Nat.le_of_ble_eq_true rfl) rfl rfl rfl ?_
    first | refine a_if_eqB (tgt := 86) (pc := 37) dX5_foul_37 (by decide) (fun c_37 => ?_) (fun c_37 => ?_) | refine a_if_eq (tgt := 86) (pc := 37) dX5_foul_37 (by decide) (fun c_37 => ?_) (fun c_37 => ?_)
    · refine a_iinc_5 (cst := 1) (pc := 86) dX5_foul_86 rfl (by decide) (by decide) ?_
      refine a_goto (tgt := 21) (pc := 89) dX5_foul_89 (by decide) ?_
      rw [← nI_succ]
      refine a_to (ih_ (q_ - 1) (by omega) (i + 1) (by omega)) rfl ?_ rfl rfl
      have e_ : zFsσ σ (i + 1) = if zHd (zVesf σ) (nI (σ.1 0)) i then ((zFsσ σ i).1 + (nI (σ.2.1 2 i)).toInt64, if nI (σ.2.1 2 i) ≤ nI (σ.2.1 2 (zFsσ σ i).2) then (zFsσ σ i).2 else i) else zFsσ σ i := rfl
      rw [e_]
      first | rw [if_neg c_37] | rw [if_pos c_37, if_pos c_74] | rw [if_pos c_37, if_neg c_74]
    · refine a_lload_2 (pc := 40) dX5_foul_40 ?_
      refine a_aload_0 (pc := 41) dX5_foul_41 ?_
      refine a_getf (ci := 5) (j := 3) rfl win_X5 (by decide) (pc := 42) dX5_foul_42 kf_X5_26 rfl rfl ?_
      refine a_getfN (ci := 4) (j := 1) rfl win_X4 (by decide) (pc := 45) dX5_foul_45 kf_X5_87 rfl rfl ?_
      refine a_iload_5 (pc := 48) dX5_foul_48 ?_
      refine a_ialdN (pc := 50) dX5_foul_50 rfl (by omega) (by decide) ?_
      refine a_i2l (pc := 51) dX5_foul_51 ?_
      refine a_ladd (pc := 52) dX5_foul_52 ?_
      refine a_lstore_2 (pc := 53) dX5_foul_53 rfl (by decide) ?_
      refine a_aload_0 (pc := 54) dX5_foul_54 ?_
      refine a_getf (ci := 5) (j := 3) rfl win_X5 (by decide) (pc := 55) dX5_foul_55 kf_X5_26 rfl rfl ?_
      refine a_getfN (ci := 4) (j := 1) rfl win_X4 (by decide) (pc := 58) dX5_foul_58 kf_X5_87 rfl rfl ?_
      refine a_iload_5 (pc := 61) dX5_foul_61 ?_
      refine a_ialdN (pc := 63) dX5_foul_63 rfl (by omega) (by decide) ?_
      refine a_aload_0 (pc := 64) dX5_foul_64 ?_
      refine a_getf (ci := 5) (j := 3) rfl win_X5 (by decide) (pc := 65) dX5_foul_65 kf_X5_26 rfl rfl ?_
      refine a_getfN (ci := 4) (j := 1) rfl win_X4 (by decide) (pc := 68) dX5_foul_68 kf_X5_87 rfl rfl ?_
      refine a_iload_4 (pc := 71) dX5_foul_71 ?_
      refine a_ialdN (pc := 73) dX5_foul_73 rfl (by omega) (by decide) ?_
      refine a_icmp_le (tgt := 82) (pc := 74) dX5_foul_74 (by decide) (fun c_74 => ?_) (fun c_74 => ?_)
      · refine a_iload_4 (pc := 82) dX5_foul_82 ?_
        refine a_istore_4 (pc := 84) dX5_foul_84 rfl (by decide) ?_
        refine a_iinc_5 (cst := 1) (pc := 86) dX5_foul_86 rfl (by decide) (by decide) ?_
        refine a_goto (tgt := 21) (pc := 89) dX5_foul_89 (by decide) ?_
        rw [← nI_succ]
        refine a_to (ih_ (q_ - 1) (by omega) (i + 1) (by omega)) rfl ?_ rfl rfl
        have e_ : zFsσ σ (i + 1) = if zHd (zVesf σ) (nI (σ.1 0)) i then ((zFsσ σ i).1 + (nI (σ.2.1 2 i)).toInt64, if nI (σ.2.1 2 i) ≤ nI (σ.2.1 2 (zFsσ σ i).2) then (zFsσ σ i).2 else i) else zFsσ σ i := rfl
        rw [e_]
        first | rw [if_neg c_37] | rw [if_pos c_37, if_pos c_74] | rw [if_pos c_37, if_neg c_74]
      · refine a_iload_5 (pc := 77) dX5_foul_77 ?_
        refine a_goto (tgt := 84) (pc := 79) dX5_foul_79 (by decide) ?_
        refine a_istore_4 (pc := 84) dX5_foul_84 rfl (by decide) ?_
        refine a_iinc_5 (cst := 1) (pc := 86) dX5_foul_86 rfl (by decide) (by decide) ?_
        refine a_goto (tgt := 21) (pc := 89) dX5_foul_89 (by decide) ?_
        rw [← nI_succ]
        refine a_to (ih_ (q_ - 1) (by omega) (i + 1) (by omega)) rfl ?_ rfl rfl
        have e_ : zFsσ σ (i + 1) = if zHd (zVesf σ) (nI (σ.1 0)) i then ((zFsσ σ i).1 + (nI (σ.2.1 2 i)).toInt64, if nI (σ.2.1 2 i) ≤ nI (σ.2.1 2 (zFsσ σ i).2) then (zFsσ σ i).2 else i) else zFsσ σ i := rfl
        rw [e_]
        first | rw [if_neg c_37] | rw [if_pos c_37, if_pos c_74] | rw [if_pos c_37, if_neg c_74]

set_option maxRecDepth 100000 in
set_option maxHeartbeats 4000000 in
theorem p_foul (l : Launch) (G : zG) (ad : Nat → Nat) (σ : zσ) (x0 : zX) (hσ : zOk σ) (c : Int32) : zSem l G sX5_foul [.ref (ad 0), .int c] (wP G ad σ x0) (zPost G ad (o_foul σ c)) := by
  refine zEnterV (L := [some (.ref (ad 0)), some (.int c), none, none, none, none]) (by decide) rfl (Nat.le_of_ble_eq_true rfl) rfl ?_
  refine a_iload_1 (pc := 0) dX5_foul_0 ?_
  refine a_iconst (v := 0) (pc := 1) dX5_foul_1 (by decide) ?_
  refine a_iconst (v := 2) (pc := 2) dX5_foul_2 (by decide) ?_
  refine cS_P (S2 := sX5_outside) (c_outside l G _ _ _) kc_X5_outside km_X5_64 ks_X5_outside kini_X5 ⟨kn_X5_outside, by decide, by decide⟩ (pc := 3) dX5_foul_3 [] rfl rfl rfl rfl (Nat.le_of_ble_eq_true rfl) ?_
  first | refine a_if_eqB (tgt := 13) (pc := 6) dX5_foul_6 (by decide) (fun c_6 => ?_) (fun c_6 => ?_) | refine a_if_eq (tgt := 13) (pc := 6) dX5_foul_6 (by decide) (fun c_6 => ?_) (fun c_6 => ?_)
  · refine a_lconst (v := 0) (pc := 13) dX5_foul_13 (by decide) ?_
    refine a_lstore_2 (pc := 14) dX5_foul_14 rfl (by decide) ?_
    refine a_iconst (v := 0) (pc := 15) dX5_foul_15 (by decide) ?_
    refine a_istore_4 (pc := 16) dX5_foul_16 rfl (by decide) ?_
    refine a_iconst (v := 0) (pc := 18) dX5_foul_18 (by decide) ?_
    refine a_istore_5 (pc := 19) dX5_foul_19 rfl (by decide) ?_
    exact lp_foul l G ad σ x0 c c_6 72 0 (by omega)
  · refine a_ldc2 (pc := 9) dX5_foul_9 kl_X5_68 ?_
    exact a_lret (pc := 12) dX5_foul_12 rfl rfl (zret' x0 (by unfold o_foul; rw [if_pos c_6]) rfl)

abbrev zHσ (σ : zσ) (k : Nat) : Prop := zHd (zVesf σ) (nI (σ.1 0)) k
abbrev zPairσ (σ : zσ) (k j : Nat) : Prop := zHσ σ k ∧ zHσ σ j ∧ ¬ (zPaf σ k = zPaf σ j ∧ zLef σ k = zLef σ j)
theorem zExch_at {f g : Nat → Int32} (h : ∀ k, k < 72 → f k = g k) {a b : Nat} (ha : a < 72) (hb : b < 72) : ∀ k, k < 72 → zExch f a b k = zExch g a b k := by
  intro k hk
  unfold zExch upd
  rw [h a ha, h b hb, h k hk]
theorem zExch_inv (f : Nat → Int32) {a b : Nat} (h : ¬ a = b) : zExch (zExch f a b) a b = f := by
  funext k
  have e1 : zExch f a b a = f b := by unfold zExch upd; rw [if_neg h, if_pos rfl]
  have e2 : zExch f a b b = f a := by unfold zExch upd; rw [if_pos rfl]
  show upd (upd (zExch f a b) a (zExch f a b b)) b (zExch f a b a) k = f k
  rw [e1, e2]
  unfold upd
  by_cases h1 : k = b
  · rw [if_pos h1, h1]
  · rw [if_neg h1]
    by_cases h2 : k = a
    · rw [if_pos h2, h2]
    · rw [if_neg h2]
      unfold zExch upd
      rw [if_neg h1, if_neg h2]
/-- sweet water if two skins were changed -/
def zSwp (σ : zσ) (a b : Nat) : Int64 := (nI (σ.1 1)).toInt64 - (zRn (zExch (zPaf σ) a b) (zExch (zLef σ) a b) (zMs σ) (σ.1 0) (zS0p σ (zP0 σ)) 3).1
set_option maxRecDepth 100000 in
set_option maxHeartbeats 4000000 in
/-- isPair -/
theorem p_isPair (l : Launch) (G : zG) (ad : Nat → Nat) (σ : zσ) (x0 : zX) (hT : zTaken σ x0) (k j : Nat) (hk : k < 72) (hj : j < 72) : zSem l G sX5_isPair [.ref (ad 0), .int (nI k), .int (nI j)] (wP G ad σ x0) (zP (.int (zB (zPairσ σ k j))) (wP G ad σ x0)) := by
  refine zEnterV (L := [some (.ref (ad 0)), some (.int (nI k)), some (.int (nI j))]) (by decide) rfl (Nat.le_of_ble_eq_true rfl) rfl ?_
  refine a_aload_0 (pc := 0) dX5_isPair_0 ?_
  refine a_getf (ci := 5) (j := 1) rfl win_X5 (by decide) (pc := 1) dX5_isPair_1 kf_X5_16 rfl rfl ?_
  refine a_iload_1 (pc := 4) dX5_isPair_4 ?_
  refine cV_P (ad := ad) (q0 := 2) (S2 := sX2_holdsSkin) (c_holdsSkin l G (zpk ad [2, 3]) (zVesf σ) (nI (σ.1 0)) k hk) kc_X2_holdsSkin km_X5_105 ki_X2_holdsSkin kv_X2_holdsSkin kini_X2 ⟨kn_X2_holdsSkin, by decide, by decide⟩ (pc := 5) dX5_isPair_5 [2, 3] rfl rfl rfl rfl (Nat.le_of_ble_eq_true rfl) rfl rfl rfl ?_
  first | refine a_if_eqB (tgt := 38) (pc := 8) dX5_isPair_8 (by decide) (fun c_8 => ?_) (fun c_8 => ?_) | refine a_if_eq (tgt := 38) (pc := 8) dX5_isPair_8 (by decide) (fun c_8 => ?_) (fun c_8 => ?_)
  · refine a_iconst (v := 0) (pc := 38) dX5_isPair_38 (by decide) ?_
    exact a_zret (pc := 39) dX5_isPair_39 rfl (by decide) rfl (by first | exact zPB1 ⟨c_8, c_19, c_31⟩ | exact zPB0 (fun h => h.2.2 c_31) | exact zPB0 (fun h => c_19 h.2.1) | exact zPB0 (fun h => c_8 h.1))
  · refine a_aload_0 (pc := 11) dX5_isPair_11 ?_
    refine a_getf (ci := 5) (j := 1) rfl win_X5 (by decide) (pc := 12) dX5_isPair_12 kf_X5_16 rfl rfl ?_
    refine a_iload_2 (pc := 15) dX5_isPair_15 ?_
    refine cV_P (ad := ad) (q0 := 2) (S2 := sX2_holdsSkin) (c_holdsSkin l G (zpk ad [2, 3]) (zVesf σ) (nI (σ.1 0)) j hj) kc_X2_holdsSkin km_X5_105 ki_X2_holdsSkin kv_X2_holdsSkin kini_X2 ⟨kn_X2_holdsSkin, by decide, by decide⟩ (pc := 16) dX5_isPair_16 [2, 3] rfl rfl rfl rfl (Nat.le_of_ble_eq_true rfl) rfl rfl rfl ?_
    first | refine a_if_eqB (tgt := 38) (pc := 19) dX5_isPair_19 (by decide) (fun c_19 => ?_) (fun c_19 => ?_) | refine a_if_eq (tgt := 38) (pc := 19) dX5_isPair_19 (by decide) (fun c_19 => ?_) (fun c_19 => ?_)
    · refine a_iconst (v := 0) (pc := 38) dX5_isPair_38 (by decide) ?_
      exact a_zret (pc := 39) dX5_isPair_39 rfl (by decide) rfl (by first | exact zPB1 ⟨c_8, c_19, c_31⟩ | exact zPB0 (fun h => h.2.2 c_31) | exact zPB0 (fun h => c_19 h.2.1) | exact zPB0 (fun h => c_8 h.1))
    · refine a_aload_0 (pc := 22) dX5_isPair_22 ?_
      refine a_getf (ci := 5) (j := 4) rfl win_X5 (by decide) (pc := 23) dX5_isPair_23 kf_X5_33 rfl rfl ?_
      refine a_iload_1 (pc := 26) dX5_isPair_26 ?_
      refine a_iload_2 (pc := 27) dX5_isPair_27 ?_
      refine cV_P (ad := ad) (q0 := 9) (S2 := sX0_areAlike) (c_areAlike l G (zpk ad [9, 10, 11, 12, 13, 14, 15, 16, 17]) x0.2.2.1 x0.2.2.2.1 x0.2.2.2.2.1 x0.2.2.2.2.2.1 k j hk hj) kc_X0_areAlike km_X5_286 ki_X0_areAlike kv_X0_areAlike kini_X0 ⟨kn_X0_areAlike, by decide, by decide⟩ (pc := 28) dX5_isPair_28 [9, 10, 11, 12, 13, 14, 15, 16, 17] rfl rfl rfl rfl (Nat.le_of_ble_eq_true rfl) rfl rfl rfl ?_
      first | refine a_if_neB (tgt := 38) (pc := 31) dX5_isPair_31 (by decide) (fun c_31 => ?_) (fun c_31 => ?_) | refine a_if_ne (tgt := 38) (pc := 31) dX5_isPair_31 (by decide) (fun c_31 => ?_) (fun c_31 => ?_)
      · rw [(hT k hk).1, (hT k hk).2, (hT j hj).1, (hT j hj).2] at c_31
        refine a_iconst (v := 0) (pc := 38) dX5_isPair_38 (by decide) ?_
        exact a_zret (pc := 39) dX5_isPair_39 rfl (by decide) rfl (by first | exact zPB1 ⟨c_8, c_19, c_31⟩ | exact zPB0 (fun h => h.2.2 c_31) | exact zPB0 (fun h => c_19 h.2.1) | exact zPB0 (fun h => c_8 h.1))
      · rw [(hT k hk).1, (hT k hk).2, (hT j hj).1, (hT j hj).2] at c_31
        refine a_iconst (v := 1) (pc := 34) dX5_isPair_34 (by decide) ?_
        refine a_goto (tgt := 39) (pc := 35) dX5_isPair_35 (by decide) ?_
        exact a_zret (pc := 39) dX5_isPair_39 rfl (by decide) rfl (by first | exact zPB1 ⟨c_8, c_19, c_31⟩ | exact zPB0 (fun h => h.2.2 c_31) | exact zPB0 (fun h => c_19 h.2.1) | exact zPB0 (fun h => c_8 h.1))

set_option maxRecDepth 100000 in
set_option maxHeartbeats 4000000 in
/-- sweetWaterIfChanged -/
theorem p_swic (l : Launch) (G : zG) (ad : Nat → Nat) (σ : zσ) (hσ : zOk σ) (x0 : zX) (hT : zTaken σ x0) (k j : Nat) (hk : k < 72) (hj : j < 72) (hkj : ¬ k = j) : zSem l G sX5_sweetWaterIfChanged [.ref (ad 0), .int (nI k), .int (nI j)] (wP G ad σ x0) (zV (fun u : zX => zTaken σ u) (fun _ => .long (zSwp σ k j)) (fun u => wP G ad σ u)) := by
  refine zEnterV (L := [some (.ref (ad 0)), some (.int (nI k)), some (.int (nI j))]) (by decide) rfl (Nat.le_of_ble_eq_true rfl) rfl ?_
  refine a_aload_0 (pc := 0) dX5_sweetWaterIfChanged_0 ?_
  refine a_getf (ci := 5) (j := 4) rfl win_X5 (by decide) (pc := 1) dX5_sweetWaterIfChanged_1 kf_X5_33 rfl rfl ?_
  refine a_iload_1 (pc := 4) dX5_sweetWaterIfChanged_4 ?_
  refine a_iload_2 (pc := 5) dX5_sweetWaterIfChanged_5 ?_
  refine cV_0 (ad := ad) (q0 := 9) (S2 := sX0_exchange) (c_flExch l G (zpk ad [9, 10, 11, 12, 13, 14, 15, 16, 17]) x0.2.2.1 x0.2.2.2.1 x0.2.2.2.2.1 x0.2.2.2.2.2.1 k j hk hj) kc_X0_exchange km_X5_289 ki_X0_exchange kv_X0_exchange kini_X0 ⟨kn_X0_exchange, by decide, by decide⟩ (pc := 6) dX5_sweetWaterIfChanged_6 [9, 10, 11, 12, 13, 14, 15, 16, 17] rfl rfl rfl rfl (Nat.le_of_ble_eq_true rfl) rfl rfl rfl (fun _ => wP G ad σ (x0.1, x0.2.1, zExch x0.2.2.1 k j, zExch x0.2.2.2.1 k j, x0.2.2.2.2.1, x0.2.2.2.2.2.1, x0.2.2.2.2.2.2)) (fun _ => rfl) (fun _u _ => ?_)
  refine a_aload_0 (pc := 9) dX5_sweetWaterIfChanged_9 ?_
  refine a_getf (ci := 5) (j := 4) rfl win_X5 (by decide) (pc := 10) dX5_sweetWaterIfChanged_10 kf_X5_33 rfl rfl ?_
  refine a_aload_0 (pc := 13) dX5_sweetWaterIfChanged_13 ?_
  refine a_getf (ci := 5) (j := 1) rfl win_X5 (by decide) (pc := 14) dX5_sweetWaterIfChanged_14 kf_X5_16 rfl rfl ?_
  refine a_aload_0 (pc := 17) dX5_sweetWaterIfChanged_17 ?_
  refine a_getf (ci := 5) (j := 7) rfl win_X5 (by decide) (pc := 18) dX5_sweetWaterIfChanged_18 kf_X5_51 rfl rfl ?_
  refine a_i2l (pc := 21) dX5_sweetWaterIfChanged_21 ?_
  refine a_aload_0 (pc := 22) dX5_sweetWaterIfChanged_22 ?_
  refine a_getf (ci := 5) (j := 8) rfl win_X5 (by decide) (pc := 23) dX5_sweetWaterIfChanged_23 kf_X5_55 rfl rfl ?_
  refine a_i2l (pc := 26) dX5_sweetWaterIfChanged_26 ?_
  refine a_aload_0 (pc := 27) dX5_sweetWaterIfChanged_27 ?_
  refine a_getf (ci := 5) (j := 9) rfl win_X5 (by decide) (pc := 28) dX5_sweetWaterIfChanged_28 kf_X5_58 rfl rfl ?_
  refine a_i2l (pc := 31) dX5_sweetWaterIfChanged_31 ?_
  refine cV_0 (ad := ad) (q0 := 9) (S2 := sX0_run) (c_run l G (zpk ad [9, 10, 11, 12, 13, 14, 15, 16, 17, 2, 3]) (zExch x0.2.2.1 k j) (zExch x0.2.2.2.1 k j) x0.2.2.2.2.1 x0.2.2.2.2.2.1 (zVesf σ) (zMs σ) (σ.1 0) (fun s hs => zVin_N hσ.2.2.2.2.2.1 hs) hσ.1.2 (nI (σ.1 1)).toInt64 (nI (σ.1 2)).toInt64 (nI (σ.1 3)).toInt64) kc_X0_run km_X5_193 ki_X0_run kv_X0_run kini_X0 ⟨kn_X0_run, by decide, by decide⟩ (pc := 32) dX5_sweetWaterIfChanged_32 [9, 10, 11, 12, 13, 14, 15, 16, 17, 2, 3] rfl rfl rfl rfl (Nat.le_of_ble_eq_true rfl) rfl rfl rfl (fun B_ => wP G ad σ (x0.1, x0.2.1, zExch x0.2.2.1 k j, zExch x0.2.2.2.1 k j, B_, (zJ5 x0.2.2.2.2.2.1 (zRn (zExch x0.2.2.1 k j) (zExch x0.2.2.2.1 k j) (zMs σ) (σ.1 0) (zS0p σ (nI (σ.1 3))) 3) ((nI (σ.1 1)).toInt64 - (zRn (zExch x0.2.2.1 k j) (zExch x0.2.2.2.1 k j) (zMs σ) (σ.1 0) (zS0p σ (nI (σ.1 3))) 3).1) ((nI (σ.1 1)).toInt64 * (nI (σ.1 2)).toInt64 - (zRn (zExch x0.2.2.1 k j) (zExch x0.2.2.2.1 k j) (zMs σ) (σ.1 0) (zS0p σ (nI (σ.1 3))) 3).2.1)), x0.2.2.2.2.2.2)) (fun _ => rfl) (fun B_ hB_ => ?_)
  refine a_aload_0 (pc := 35) dX5_sweetWaterIfChanged_35 ?_
  refine a_getf (ci := 5) (j := 4) rfl win_X5 (by decide) (pc := 36) dX5_sweetWaterIfChanged_36 kf_X5_33 rfl rfl ?_
  refine a_iload_1 (pc := 39) dX5_sweetWaterIfChanged_39 ?_
  refine a_iload_2 (pc := 40) dX5_sweetWaterIfChanged_40 ?_
  refine cV_0 (ad := ad) (q0 := 9) (S2 := sX0_exchange) (c_flExch l G (zpk ad [9, 10, 11, 12, 13, 14, 15, 16, 17]) (zExch x0.2.2.1 k j) (zExch x0.2.2.2.1 k j) B_ (zJ5 x0.2.2.2.2.2.1 (zRn (zExch x0.2.2.1 k j) (zExch x0.2.2.2.1 k j) (zMs σ) (σ.1 0) (zS0p σ (nI (σ.1 3))) 3) ((nI (σ.1 1)).toInt64 - (zRn (zExch x0.2.2.1 k j) (zExch x0.2.2.2.1 k j) (zMs σ) (σ.1 0) (zS0p σ (nI (σ.1 3))) 3).1) ((nI (σ.1 1)).toInt64 * (nI (σ.1 2)).toInt64 - (zRn (zExch x0.2.2.1 k j) (zExch x0.2.2.2.1 k j) (zMs σ) (σ.1 0) (zS0p σ (nI (σ.1 3))) 3).2.1)) k j hk hj) kc_X0_exchange km_X5_289 ki_X0_exchange kv_X0_exchange kini_X0 ⟨kn_X0_exchange, by decide, by decide⟩ (pc := 41) dX5_sweetWaterIfChanged_41 [9, 10, 11, 12, 13, 14, 15, 16, 17] rfl rfl rfl rfl (Nat.le_of_ble_eq_true rfl) rfl rfl rfl (fun _ => wP G ad σ (x0.1, x0.2.1, zExch (zExch x0.2.2.1 k j) k j, zExch (zExch x0.2.2.2.1 k j) k j, B_, (zJ5 x0.2.2.2.2.2.1 (zRn (zExch x0.2.2.1 k j) (zExch x0.2.2.2.1 k j) (zMs σ) (σ.1 0) (zS0p σ (nI (σ.1 3))) 3) ((nI (σ.1 1)).toInt64 - (zRn (zExch x0.2.2.1 k j) (zExch x0.2.2.2.1 k j) (zMs σ) (σ.1 0) (zS0p σ (nI (σ.1 3))) 3).1) ((nI (σ.1 1)).toInt64 * (nI (σ.1 2)).toInt64 - (zRn (zExch x0.2.2.1 k j) (zExch x0.2.2.2.1 k j) (zMs σ) (σ.1 0) (zS0p σ (nI (σ.1 3))) 3).2.1)), x0.2.2.2.2.2.2)) (fun _ => rfl) (fun _u2 _ => ?_)
  refine a_aload_0 (pc := 44) dX5_sweetWaterIfChanged_44 ?_
  refine a_getf (ci := 5) (j := 4) rfl win_X5 (by decide) (pc := 45) dX5_sweetWaterIfChanged_45 kf_X5_33 rfl rfl ?_
  refine a_getfN (ci := 0) (j := 11) rfl win_X0 (by decide) (pc := 48) dX5_sweetWaterIfChanged_48 kf_X5_130 rfl rfl ?_
  exact a_lret (pc := 51) dX5_sweetWaterIfChanged_51 rfl rfl ⟨(x0.1, x0.2.1, zExch (zExch x0.2.2.1 k j) k j, zExch (zExch x0.2.2.2.1 k j) k j, B_, (zJ5 x0.2.2.2.2.2.1 (zRn (zExch x0.2.2.1 k j) (zExch x0.2.2.2.1 k j) (zMs σ) (σ.1 0) (zS0p σ (nI (σ.1 3))) 3) ((nI (σ.1 1)).toInt64 - (zRn (zExch x0.2.2.1 k j) (zExch x0.2.2.2.1 k j) (zMs σ) (σ.1 0) (zS0p σ (nI (σ.1 3))) 3).1) ((nI (σ.1 1)).toInt64 * (nI (σ.1 2)).toInt64 - (zRn (zExch x0.2.2.1 k j) (zExch x0.2.2.2.1 k j) (zMs σ) (σ.1 0) (zS0p σ (nI (σ.1 3))) 3).2.1)), x0.2.2.2.2.2.2), (fun q hq => by dsimp only; rw [zExch_inv _ hkj, zExch_inv _ hkj]; exact hT q hq), congrArg (fun z => some (Value.long z)) (by show (nI (σ.1 1)).toInt64 - (zRn (zExch x0.2.2.1 k j) (zExch x0.2.2.2.1 k j) (zMs σ) (σ.1 0) (zS0p σ (nI (σ.1 3))) 3).1 = _; unfold zSwp; rw [zRn_cg (fun q hq => ⟨zExch_at (fun q hq => (hT q hq).1) hk hj q hq, zExch_at (fun q hq => (hT q hq).2) hk hj q hq⟩) (fun s hs => (zVin_N hσ.2.2.2.2.2.1 hs).2) hσ.1.2 3 (by omega)]), rfl⟩

def zSwS (σ : zσ) (a b : Nat) (s : Int64 × Int64) : Int64 × Int64 := if zPairσ σ a b then (if zSwp σ a b ≤ s.2 then s else (1000 * (nI (zNum a)).toInt64 + (nI (zNum b)).toInt64, zSwp σ a b)) else s
def zSw2 (σ : zσ) (a : Nat) : Nat → Nat → Int64 × Int64 → Int64 × Int64
  | 0, _, s => s
  | q + 1, b, s => zSw2 σ a q (b + 1) (zSwS σ a b s)
def zSw1 (σ : zσ) : Nat → Nat → Int64 × Int64 → Int64 × Int64
  | 0, _, s => s
  | q + 1, a, s => zSw1 σ q (a + 1) (zSw2 σ a (71 - a) (a + 1) s)
def o_swap (σ : zσ) : Int64 × zσ := ((zSw1 σ 72 0 (zNONE, zSwW σ)).1, σ)
set_option maxRecDepth 100000 in
set_option maxHeartbeats 4000000 in
theorem lp_swapI (l : Launch) (G : zG) (ad : Nat → Nat) (σ : zσ) (hσ : zOk σ) (x0 : zX) (r : Int64) (a : Nat) (ha : a < 72) (s2 : Int64 × Int64) (K_ : ∀ u : zX, zTaken σ u → AV l G sX5_swap (wP G ad σ x0) (zPost G ad (r, σ)) 94 [some (.ref (ad 0)), some (.long s2.1), none, some (.long s2.2), none, some (.int (nI a)), none, none, none] [] (wP G ad σ u)) : ∀ (q b : Nat) (s : Int64 × Int64) (u : zX), b + q = 72 → a < b → zSw2 σ a q b s = s2 → zTaken σ u → AV l G sX5_swap (wP G ad σ x0) (zPost G ad (r, σ)) 32 [some (.ref (ad 0)), some (.long s.1), none, some (.long s.2), none, some (.int (nI a)), some (.int (nI b)), none, none] [] (wP G ad σ u) := by
  intro q_
  induction q_ using Nat.strongRecOn
  rename_i q_ ih_
  intro b s u hq_ hab_ hz_ hT_
  refine a_iload_6 (pc := 32) dX5_swap_32 ?_
  refine a_bipush (v := 72) (pc := 34) dX5_swap_34 (by decide) ?_
  refine a_icmp_ge (tgt := 94) (pc := 36) dX5_swap_36 (by decide) (fun c_36 => ?_) (fun c_36 => ?_)
  · obtain rfl : q_ = 0 := by have := (zI_le (a := 72) (b := b) (by decide) (by omega)).mp c_36; omega
    obtain rfl : s = s2 := hz_
    exact a_forget_6 (K_ u hT_)
  · have hi_ : b < 72 := by have := mt (zI_le (a := 72) (b := b) (by decide) (by omega)).mpr c_36; omega
    obtain ⟨q2_, rfl⟩ : ∃ z, q_ = z + 1 := ⟨q_ - 1, by omega⟩
    have hz2_ : zSw2 σ a q2_ (b + 1) (zSwS σ a b s) = s2 := hz_
    unfold zSwS at hz2_
    refine a_aload_0 (pc := 39) dX5_swap_39 ?_
    refine a_iload_5 (pc := 40) dX5_swap_40 ?_
    refine a_iload_6 (pc := 42) dX5_swap_42 ?_
    refine f_P (ad := ad) (q0 := 0) (S2 := sX5_isPair) (p_isPair l G ad σ u hT_ a b ha hi_) kc_X5_isPair km_X5_172 ki_X5_isPair kv_X5_isPair kini_X5 ⟨kn_X5_isPair, by decide, by decide⟩ (pc := 44) dX5_swap_44 (znd_of rfl znd28) rfl rfl (Nat.le_of_ble_eq_true rfl) rfl rfl rfl ?_
    first | refine a_if_eqB (tgt := 88) (pc := 47) dX5_swap_47 (by decide) (fun c_47 => ?_) (fun c_47 => ?_) | refine a_if_eq (tgt := 88) (pc := 47) dX5_swap_47 (by decide) (fun c_47 => ?_) (fun c_47 => ?_)
    · rw [if_neg c_47] at hz2_
      refine a_iinc_6 (cst := 1) (pc := 88) dX5_swap_88 rfl (by decide) (by decide) ?_
      refine a_goto (tgt := 32) (pc := 91) dX5_swap_91 (by decide) ?_
      rw [← nI_succ]
      first | exact a_forget_7 (ih_ q2_ (by omega) (b + 1) _ u2_ (by omega) (by omega) hz2_ hT2_) | exact ih_ q2_ (by omega) (b + 1) _ u (by omega) (by omega) hz2_ hT_
    · rw [if_pos c_47] at hz2_
      refine a_aload_0 (pc := 50) dX5_swap_50 ?_
      refine a_iload_5 (pc := 51) dX5_swap_51 ?_
      refine a_iload_6 (pc := 53) dX5_swap_53 ?_
      refine f_V (ad := ad) (q0 := 0) (S2 := sX5_sweetWaterIfChanged) (p_swic l G ad σ hσ u hT_ a b ha hi_ (by omega)) kc_X5_sweetWaterIfChanged km_X5_175 ki_X5_sweetWaterIfChanged kv_X5_sweetWaterIfChanged kini_X5 ⟨kn_X5_sweetWaterIfChanged, by decide, by decide⟩ (pc := 55) dX5_swap_55 (znd_of rfl znd28) rfl rfl (Nat.le_of_ble_eq_true rfl) rfl rfl rfl (fun u2_ hT2_ => ?_)
      refine a_lstore_7 (pc := 58) dX5_swap_58 rfl (by decide) ?_
      refine a_lload_7 (pc := 60) dX5_swap_60 ?_
      refine a_lload_3 (pc := 62) dX5_swap_62 ?_
      refine a_lif_le (tgt := 88) (pc := 63) dX5_swap_63 dX5_swap_64 (by decide) (fun c_63 => ?_) (fun c_63 => ?_)
      · rw [if_pos c_63] at hz2_
        refine a_iinc_6 (cst := 1) (pc := 88) dX5_swap_88 rfl (by decide) (by decide) ?_
        refine a_goto (tgt := 32) (pc := 91) dX5_swap_91 (by decide) ?_
        rw [← nI_succ]
        first | exact a_forget_7 (ih_ q2_ (by omega) (b + 1) _ u2_ (by omega) (by omega) hz2_ hT2_) | exact ih_ q2_ (by omega) (b + 1) _ u (by omega) (by omega) hz2_ hT_
      · rw [if_neg c_63] at hz2_
        refine a_lload_7 (pc := 67) dX5_swap_67 ?_
        refine a_lstore_3 (pc := 69) dX5_swap_69 rfl (by decide) ?_
        refine a_ldc2 (pc := 70) dX5_swap_70 kl_X5_179 ?_
        refine a_iload_5 (pc := 73) dX5_swap_73 ?_
        refine cS_P (S2 := sX5_numberOf) (c_numberOf l G a ha) kc_X5_numberOf km_X5_167 ks_X5_numberOf kini_X5 ⟨kn_X5_numberOf, by decide, by decide⟩ (pc := 75) dX5_swap_75 [] rfl rfl rfl rfl (Nat.le_of_ble_eq_true rfl) ?_
        refine a_i2l (pc := 78) dX5_swap_78 ?_
        refine a_lmul (pc := 79) dX5_swap_79 ?_
        refine a_iload_6 (pc := 80) dX5_swap_80 ?_
        refine cS_P (S2 := sX5_numberOf) (c_numberOf l G b hi_) kc_X5_numberOf km_X5_167 ks_X5_numberOf kini_X5 ⟨kn_X5_numberOf, by decide, by decide⟩ (pc := 82) dX5_swap_82 [] rfl rfl rfl rfl (Nat.le_of_ble_eq_true rfl) ?_
        refine a_i2l (pc := 85) dX5_swap_85 ?_
        refine a_ladd (pc := 86) dX5_swap_86 ?_
        refine a_lstore_1 (pc := 87) dX5_swap_87 rfl (by decide) ?_
        refine a_iinc_6 (cst := 1) (pc := 88) dX5_swap_88 rfl (by decide) (by decide) ?_
        refine a_goto (tgt := 32) (pc := 91) dX5_swap_91 (by decide) ?_
        rw [← nI_succ]
        first | exact a_forget_7 (ih_ q2_ (by omega) (b + 1) _ u2_ (by omega) (by omega) hz2_ hT2_) | exact ih_ q2_ (by omega) (b + 1) _ u (by omega) (by omega) hz2_ hT_

set_option maxRecDepth 100000 in
set_option maxHeartbeats 4000000 in
theorem lp_swapO (l : Launch) (G : zG) (ad : Nat → Nat) (σ : zσ) (hσ : zOk σ) (x0 : zX) (r : Int64) : ∀ (q a : Nat) (s : Int64 × Int64) (u : zX), a + q = 72 → (zSw1 σ q a s).1 = r → zTaken σ u → AV l G sX5_swap (wP G ad σ x0) (zPost G ad (r, σ)) 19 [some (.ref (ad 0)), some (.long s.1), none, some (.long s.2), none, some (.int (nI a)), none, none, none] [] (wP G ad σ u) := by
  intro q_
  induction q_ using Nat.strongRecOn
  rename_i q_ ih_
  intro a s u hq_ hz_ hT_
  refine a_iload_5 (pc := 19) dX5_swap_19 ?_
  refine a_bipush (v := 72) (pc := 21) dX5_swap_21 (by decide) ?_
  refine a_icmp_ge (tgt := 100) (pc := 23) dX5_swap_23 (by decide) (fun c_23 => ?_) (fun c_23 => ?_)
  · obtain rfl : q_ = 0 := by have := (zI_le (a := 72) (b := a) (by decide) (by omega)).mp c_23; omega
    refine a_lload_1 (pc := 100) dX5_swap_100 ?_
    exact a_lret (pc := 101) dX5_swap_101 rfl rfl (zret' u (by rw [← hz_]; rfl) rfl)
  · have hi_ : a < 72 := by have := mt (zI_le (a := 72) (b := a) (by decide) (by omega)).mpr c_23; omega
    obtain ⟨q2_, rfl⟩ : ∃ z, q_ = z + 1 := ⟨q_ - 1, by omega⟩
    refine a_iload_5 (pc := 26) dX5_swap_26 ?_
    refine a_iconst (v := 1) (pc := 28) dX5_swap_28 (by decide) ?_
    refine a_iadd (pc := 29) dX5_swap_29 ?_
    refine a_istore_6 (pc := 30) dX5_swap_30 rfl (by decide) ?_
    rw [← nI_succ]
    refine lp_swapI l G ad σ hσ x0 r a hi_ _ (fun u3_ hT3_ => ?_) (71 - a) (a + 1) s u (by omega) (by omega) rfl hT_
    refine a_iinc_5 (cst := 1) (pc := 94) dX5_swap_94 rfl (by decide) (by decide) ?_
    refine a_goto (tgt := 19) (pc := 97) dX5_swap_97 (by decide) ?_
    rw [← nI_succ]
    exact ih_ q2_ (by omega) (a + 1) _ u3_ (by omega) hz_ hT3_

set_option maxRecDepth 100000 in
set_option maxHeartbeats 4000000 in
theorem p_swap (l : Launch) (G : zG) (ad : Nat → Nat) (σ : zσ) (x0 : zX) (hσ : zOk σ)  : zSem l G sX5_swap [.ref (ad 0)] (wP G ad σ x0) (zPost G ad (o_swap σ)) := by
  refine zEnterV (L := [some (.ref (ad 0)), none, none, none, none, none, none, none, none]) (by decide) rfl (Nat.le_of_ble_eq_true rfl) rfl ?_
  refine a_aload_0 (pc := 0) dX5_swap_0 ?_
  refine f_0 (ad := ad) (q0 := 0) (S2 := sX5_letFlow) (p_letFlow l G ad σ x0 hσ) kc_X5_letFlow km_X5_111 ki_X5_letFlow kv_X5_letFlow kini_X5 ⟨kn_X5_letFlow, by decide, by decide⟩ (pc := 1) dX5_swap_1 (znd_of rfl znd28) rfl rfl (Nat.le_of_ble_eq_true rfl) rfl rfl rfl (fun u_ hu_ => ?_)
  refine a_ldc2 (pc := 4) dX5_swap_4 kl_X5_170 ?_
  refine a_lstore_1 (pc := 7) dX5_swap_7 rfl (by decide) ?_
  refine a_aload_0 (pc := 8) dX5_swap_8 ?_
  refine a_getf (ci := 5) (j := 4) rfl win_X5 (by decide) (pc := 9) dX5_swap_9 kf_X5_33 rfl rfl ?_
  refine a_getfN (ci := 0) (j := 11) rfl win_X0 (by decide) (pc := 12) dX5_swap_12 kf_X5_130 rfl rfl ?_
  rw [hu_.1.2.2.2.2.1]
  refine a_lstore_3 (pc := 15) dX5_swap_15 rfl (by decide) ?_
  refine a_iconst (v := 0) (pc := 16) dX5_swap_16 (by decide) ?_
  refine a_istore_5 (pc := 17) dX5_swap_17 rfl (by decide) ?_
  exact lp_swapO l G ad σ hσ x0 _ 72 0 (zNONE, zSwW σ) u_ (by omega) rfl hu_.2


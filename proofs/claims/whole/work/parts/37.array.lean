/-! The plant: the array. -/
def zBm (i : Nat) : Nat → Nat := fun s => if s = 0 then 1 + i / 25 else if s = 1 then i / 5 % 5 else i % 5
theorem zBm_le {i : Nat} (hi : i < 100) : ∀ k, k < 3 → zBm i k ≤ 4 := by
  intro k hk
  unfold zBm
  split
  · omega
  · split <;> omega
theorem zBec_at (v : Nat → Int32) (i : Nat) : ∀ k, k < 3 → zBec v i k = nI (zBm i k) := by
  intro k hk
  unfold zBec zBm upd
  rcases (show k = 0 ∨ k = 1 ∨ k = 2 by omega) with rfl | rfl | rfl
  · rfl
  · rfl
  · rfl
theorem zVin_cg {v w : Nat → Int32} {s : Nat} (h : ∀ k, k ≤ s → v k = w k) : zVin v s = zVin w s := by
  unfold zVin
  rw [h s (Nat.le_refl _)]
  by_cases q : ∀ j, j < s → ¬ w j = 0
  · rw [if_pos q, if_pos (fun j hj => by rw [h j (by omega)]; exact q j hj)]
  · rw [if_neg q, if_neg (fun z => q (fun j hj => by rw [← h j (by omega)]; exact z j hj))]
theorem zVin_B {v : Nat → Int32} {i : Nat} (hi : i < 100) {s : Nat} (hs : s < 3) : zVin (zBec v i) s = nI (zMf (zBm i) s) ∧ zMf (zBm i) s ≤ 4 := by
  rw [zVin_cg (w := fun k => nI (zBm i k)) (fun k hk => zBec_at v i k (by omega))]
  exact zVin_N (zBm_le hi) hs
theorem zFf_cg2 {v w : Nat → Int32} {n : Int32} {W T W2 T2 : Nat → Int64} {least most : Int32} (hv : ∀ s, s < 3 → zVin v s = zVin w s) (h : ∀ k, k < 72 → zHd w n k → W k = W2 k ∧ T k = T2 k) : ∀ q i, i + q = 72 → zFf v n W T least most q i = zFf w n W2 T2 least most q i
  | 0, _, _ => rfl
  | q + 1, i, hq => by
    have e : zHd v n i ↔ zHd w n i := by unfold zHd; rw [hv (i / 24) (by omega)]
    unfold zFf
    rw [zFf_cg2 hv h q (i + 1) (by omega)]
    by_cases hd : zHd w n i
    · rw [if_pos hd, if_pos (e.mpr hd), (h i (by omega) hd).1, (h i (by omega) hd).2]
    · rw [if_neg hd, if_neg (fun z => hd (e.mp z))]
abbrev zAm (i : Nat) : Nat → Nat := zMf (zBm i)
abbrev zAW (σ : zσ) (p i : Nat) : Int64 := (nI (σ.1 1)).toInt64 - (zFin σ (nI p) (zAm i)).1
abbrev zAG (σ : zσ) (p i : Nat) : Int64 := (nI (σ.1 1)).toInt64 * (nI (σ.1 2)).toInt64 - (zFin σ (nI p) (zAm i)).2.1
abbrev zSuits (σ : zσ) (w q : Int32) (p i : Nat) : Prop := ¬ zAW σ p i < w.toInt64 ∧ ¬ q.toInt64 * zAW σ p i < zAG σ p i ∧ zFf (fun k => nI (zBm i k)) (nI (σ.1 0)) (zCellp σ (nI p) (zAm i) 0) (zCellp σ (nI p) (zAm i) 3) (nI (σ.2.1 3 0)) (nI (σ.2.1 3 1)) 72 0 = zNONE
abbrev zAP (σ : zσ) (p i : Nat) : Int64 := zPow σ (nI p) (zFin σ (nI p) (zAm i)).1 (zFin σ (nI p) (zAm i)).2.2
def zArS (σ : zσ) (w q : Int32) (p i : Nat) (s : Int64 × Int64) : Int64 × Int64 := if 0 < i / 5 % 5 ∨ i % 5 = 0 then (if s.2 ≤ zAP σ p i then s else if zSuits σ w q p i then (1000 * (nI p).toInt64 + (100 * nI (1 + i / 25) + 10 * nI (i / 5 % 5) + nI (i % 5)).toInt64, zAP σ p i) else s) else s
def zAr2 (σ : zσ) (w q : Int32) (p : Nat) : Nat → Nat → Int64 × Int64 → Int64 × Int64
  | 0, _, s => s
  | r + 1, i, s => zAr2 σ w q p r (i + 1) (zArS σ w q p i s)
def zAr1 (σ : zσ) (w q : Int32) : Nat → Nat → Int64 × Int64 → Int64 × Int64
  | 0, _, s => s
  | r + 1, t, s => zAr1 σ w q r (t + 1) (zAr2 σ w q (100 * t) 100 0 s)
def o_array (σ : zσ) (w q : Int32) : Int64 × zσ := (if zOR w 0 99999 ∨ zOR q 0 60000 then zBAD else (zAr1 σ w q 9 1 (zNO, 9223372036854775807)).1, σ)
set_option maxRecDepth 100000 in
set_option maxHeartbeats 4000000 in
/-- suits -/
theorem p_suits (l : Launch) (G : zG) (ad : Nat → Nat) (σ : zσ) (x0 : zX) (w q : Int32) : zSem l G sX5_suits [.ref (ad 0), .int w, .int q] (wP G ad σ x0) (zP (.int (zB (¬ x0.2.2.2.2.2.1 3 < w.toInt64 ∧ ¬ q.toInt64 * x0.2.2.2.2.2.1 3 < x0.2.2.2.2.2.1 4 ∧ zFf x0.2.1 x0.1 (x0.2.2.2.2.1 0) (x0.2.2.2.2.1 3) (nI (σ.2.1 3 0)) (nI (σ.2.1 3 1)) 72 0 = zNONE))) (wP G ad σ x0)) := by
  refine zEnterV (L := [some (.ref (ad 0)), some (.int w), some (.int q)]) (by decide) rfl (Nat.le_of_ble_eq_true rfl) rfl ?_
  refine a_aload_0 (pc := 0) dX5_suits_0 ?_
  refine a_getf (ci := 5) (j := 4) rfl win_X5 (by decide) (pc := 1) dX5_suits_1 kf_X5_33 rfl rfl ?_
  refine a_getfN (ci := 0) (j := 11) rfl win_X0 (by decide) (pc := 4) dX5_suits_4 kf_X5_130 rfl rfl ?_
  refine a_iload_1 (pc := 7) dX5_suits_7 ?_
  refine a_i2l (pc := 8) dX5_suits_8 ?_
  refine a_lif_lt (tgt := 68) (pc := 9) dX5_suits_9 dX5_suits_10 (by decide) (fun c_9 => ?_) (fun c_9 => ?_)
  · refine a_iconst (v := 0) (pc := 68) dX5_suits_68 (by decide) ?_
    exact a_zret (pc := 69) dX5_suits_69 rfl (by decide) rfl (by first | exact zPB1 ⟨c_9, c_30, c_60⟩ | exact zPB0 (fun h => c_60 h.2.2) | exact zPB0 (fun h => h.2.1 c_30) | exact zPB0 (fun h => h.1 c_9))
  · refine a_aload_0 (pc := 13) dX5_suits_13 ?_
    refine a_getf (ci := 5) (j := 4) rfl win_X5 (by decide) (pc := 14) dX5_suits_14 kf_X5_33 rfl rfl ?_
    refine a_getfN (ci := 0) (j := 12) rfl win_X0 (by decide) (pc := 17) dX5_suits_17 kf_X5_134 rfl rfl ?_
    refine a_iload_2 (pc := 20) dX5_suits_20 ?_
    refine a_i2l (pc := 21) dX5_suits_21 ?_
    refine a_aload_0 (pc := 22) dX5_suits_22 ?_
    refine a_getf (ci := 5) (j := 4) rfl win_X5 (by decide) (pc := 23) dX5_suits_23 kf_X5_33 rfl rfl ?_
    refine a_getfN (ci := 0) (j := 11) rfl win_X0 (by decide) (pc := 26) dX5_suits_26 kf_X5_130 rfl rfl ?_
    refine a_lmul (pc := 29) dX5_suits_29 ?_
    refine a_lif_gt (tgt := 68) (pc := 30) dX5_suits_30 dX5_suits_31 (by decide) (fun c_30 => ?_) (fun c_30 => ?_)
    · refine a_iconst (v := 0) (pc := 68) dX5_suits_68 (by decide) ?_
      exact a_zret (pc := 69) dX5_suits_69 rfl (by decide) rfl (by first | exact zPB1 ⟨c_9, c_30, c_60⟩ | exact zPB0 (fun h => c_60 h.2.2) | exact zPB0 (fun h => h.2.1 c_30) | exact zPB0 (fun h => h.1 c_9))
    · refine a_aload_0 (pc := 34) dX5_suits_34 ?_
      refine a_getf (ci := 5) (j := 4) rfl win_X5 (by decide) (pc := 35) dX5_suits_35 kf_X5_33 rfl rfl ?_
      refine a_aload_0 (pc := 38) dX5_suits_38 ?_
      refine a_getf (ci := 5) (j := 2) rfl win_X5 (by decide) (pc := 39) dX5_suits_39 kf_X5_20 rfl rfl ?_
      refine a_aload_0 (pc := 42) dX5_suits_42 ?_
      refine a_getf (ci := 5) (j := 0) rfl win_X5 (by decide) (pc := 43) dX5_suits_43 kf_X5_9 rfl rfl ?_
      refine a_iconst (v := 0) (pc := 46) dX5_suits_46 (by decide) ?_
      refine a_ialdN (k := 0) (pc := 47) dX5_suits_47 rfl (by omega) (by decide) ?_
      refine a_aload_0 (pc := 48) dX5_suits_48 ?_
      refine a_getf (ci := 5) (j := 0) rfl win_X5 (by decide) (pc := 49) dX5_suits_49 kf_X5_9 rfl rfl ?_
      refine a_iconst (v := 1) (pc := 52) dX5_suits_52 (by decide) ?_
      refine a_ialdN (k := 1) (pc := 53) dX5_suits_53 rfl (by omega) (by decide) ?_
      refine cV_P (ad := ad) (q0 := 9) (S2 := sX0_firstFailure) (c_firstFailure l G (zpk ad [9, 10, 11, 12, 13, 14, 15, 16, 17, 4, 5]) x0.2.2.1 x0.2.2.2.1 x0.2.2.2.2.1 x0.2.2.2.2.2.1 x0.2.1 x0.1 _ _) kc_X0_firstFailure km_X5_154 ki_X0_firstFailure kv_X0_firstFailure kini_X0 ⟨kn_X0_firstFailure, by decide, by decide⟩ (pc := 54) dX5_suits_54 [9, 10, 11, 12, 13, 14, 15, 16, 17, 4, 5] rfl rfl rfl rfl (Nat.le_of_ble_eq_true rfl) rfl rfl rfl ?_
      refine a_ldc2 (pc := 57) dX5_suits_57 kl_X5_170 ?_
      refine a_lif_ne (tgt := 68) (pc := 60) dX5_suits_60 dX5_suits_61 (by decide) (fun c_60 => ?_) (fun c_60 => ?_)
      · refine a_iconst (v := 0) (pc := 68) dX5_suits_68 (by decide) ?_
        exact a_zret (pc := 69) dX5_suits_69 rfl (by decide) rfl (by first | exact zPB1 ⟨c_9, c_30, c_60⟩ | exact zPB0 (fun h => c_60 h.2.2) | exact zPB0 (fun h => h.2.1 c_30) | exact zPB0 (fun h => h.1 c_9))
      · refine a_iconst (v := 1) (pc := 64) dX5_suits_64 (by decide) ?_
        refine a_goto (tgt := 69) (pc := 65) dX5_suits_65 (by decide) ?_
        exact a_zret (pc := 69) dX5_suits_69 rfl (by decide) rfl (by first | exact zPB1 ⟨c_9, c_30, c_60⟩ | exact zPB0 (fun h => c_60 h.2.2) | exact zPB0 (fun h => h.2.1 c_30) | exact zPB0 (fun h => h.1 c_9))

set_option maxRecDepth 100000 in
set_option maxHeartbeats 4000000 in
theorem lp_arrayI (l : Launch) (G : zG) (ad : Nat → Nat) (σ : zσ) (hσ : zOk σ) (x0 : zX) (w q : Int32) (r : Int64) (p : Nat) (hp : p ≤ 900) (s2 : Int64 × Int64) (K_ : ∀ u : zX, zTaken σ u → u.1 = nI (σ.1 0) → AV l G sX5_array (wP G ad σ x0) (zPost G ad (r, σ)) 171 [some (.ref (ad 0)), some (.int w), some (.int q), some (.long s2.1), none, some (.long s2.2), none, some (.int (nI p)), none, none, none] [] (wP G ad σ u)) : ∀ (r2 i : Nat) (s : Int64 × Int64) (u : zX), i + r2 = 100 → zAr2 σ w q p r2 i s = s2 → zTaken σ u → u.1 = nI (σ.1 0) → AV l G sX5_array (wP G ad σ x0) (zPost G ad (r, σ)) 73 [some (.ref (ad 0)), some (.int w), some (.int q), some (.long s.1), none, some (.long s.2), none, some (.int (nI p)), some (.int (nI i)), none, none] [] (wP G ad σ u) := by
  intro q_
  induction q_ using Nat.strongRecOn
  rename_i q_ ih_
  intro i s u hq_ hz_ hT_ hL_
  refine a_iload_8 (pc := 73) dX5_array_73 ?_
  refine a_bipush (v := 100) (pc := 75) dX5_array_75 (by decide) ?_
  refine a_icmp_ge (tgt := 171) (pc := 77) dX5_array_77 (by decide) (fun c_77 => ?_) (fun c_77 => ?_)
  · obtain rfl : q_ = 0 := by have := (zI_le (a := 100) (b := i) (by decide) (by omega)).mp c_77; omega
    obtain rfl : s = s2 := hz_
    exact a_forget_8 (K_ u hT_ hL_)
  · have hi_ : i < 100 := by have := mt (zI_le (a := 100) (b := i) (by decide) (by omega)).mpr c_77; omega
    obtain ⟨q2_, rfl⟩ : ∃ z, q_ = z + 1 := ⟨q_ - 1, by omega⟩
    have hz2_ : zAr2 σ w q p q2_ (i + 1) (zArS σ w q p i s) = s2 := hz_
    unfold zArS at hz2_
    refine a_aload_0 (pc := 80) dX5_array_80 ?_
    refine a_getf (ci := 5) (j := 2) rfl win_X5 (by decide) (pc := 81) dX5_array_81 kf_X5_20 rfl rfl ?_
    refine a_iload_8 (pc := 84) dX5_array_84 ?_
    refine cV_V (ad := ad) (q0 := 4) (S2 := sX2_become) (c_become l G (zpk ad [4, 5]) u.2.1 u.1 i hi_) kc_X2_become km_X5_190 ki_X2_become kv_X2_become kini_X2 ⟨kn_X2_become, by decide, by decide⟩ (pc := 86) dX5_array_86 [4, 5] rfl rfl rfl rfl (Nat.le_of_ble_eq_true rfl) rfl rfl rfl (fun _ => wP G ad σ (u.1, zBec u.2.1 i, u.2.2)) (fun _ => rfl) (fun _u _ => ?_)
    first | refine a_if_neB (tgt := 95) (pc := 89) dX5_array_89 (by decide) (fun c_89 => ?_) (fun c_89 => ?_) | refine a_if_ne (tgt := 95) (pc := 89) dX5_array_89 (by decide) (fun c_89 => ?_) (fun c_89 => ?_)
    · rw [if_pos c_89] at hz2_
      rw [hL_]
      refine a_aload_0 (pc := 95) dX5_array_95 ?_
      refine a_getf (ci := 5) (j := 4) rfl win_X5 (by decide) (pc := 96) dX5_array_96 kf_X5_33 rfl rfl ?_
      refine a_aload_0 (pc := 99) dX5_array_99 ?_
      refine a_getf (ci := 5) (j := 2) rfl win_X5 (by decide) (pc := 100) dX5_array_100 kf_X5_20 rfl rfl ?_
      refine a_aload_0 (pc := 103) dX5_array_103 ?_
      refine a_getf (ci := 5) (j := 7) rfl win_X5 (by decide) (pc := 104) dX5_array_104 kf_X5_51 rfl rfl ?_
      refine a_i2l (pc := 107) dX5_array_107 ?_
      refine a_aload_0 (pc := 108) dX5_array_108 ?_
      refine a_getf (ci := 5) (j := 8) rfl win_X5 (by decide) (pc := 109) dX5_array_109 kf_X5_55 rfl rfl ?_
      refine a_i2l (pc := 112) dX5_array_112 ?_
      refine a_iload_7 (pc := 113) dX5_array_113 ?_
      refine a_i2l (pc := 115) dX5_array_115 ?_
      refine cV_0 (ad := ad) (q0 := 9) (S2 := sX0_run) (c_run l G (zpk ad [9, 10, 11, 12, 13, 14, 15, 16, 17, 4, 5]) u.2.2.1 u.2.2.2.1 u.2.2.2.2.1 u.2.2.2.2.2.1 (zBec u.2.1 i) (zAm i) (σ.1 0) (fun s hs => zVin_B hi_ hs) hσ.1.2 (nI (σ.1 1)).toInt64 (nI (σ.1 2)).toInt64 (nI p).toInt64) kc_X0_run km_X5_193 ki_X0_run kv_X0_run kini_X0 ⟨kn_X0_run, by decide, by decide⟩ (pc := 116) dX5_array_116 [9, 10, 11, 12, 13, 14, 15, 16, 17, 4, 5] rfl rfl rfl rfl (Nat.le_of_ble_eq_true rfl) rfl rfl rfl (fun B_ => wP G ad σ (nI (σ.1 0), zBec u.2.1 i, u.2.2.1, u.2.2.2.1, B_, (zJ5 u.2.2.2.2.2.1 (zRn u.2.2.1 u.2.2.2.1 (zAm i) (σ.1 0) (zS0p σ (nI p)) 3) ((nI (σ.1 1)).toInt64 - (zRn u.2.2.1 u.2.2.2.1 (zAm i) (σ.1 0) (zS0p σ (nI p)) 3).1) ((nI (σ.1 1)).toInt64 * (nI (σ.1 2)).toInt64 - (zRn u.2.2.1 u.2.2.2.1 (zAm i) (σ.1 0) (zS0p σ (nI p)) 3).2.1)), u.2.2.2.2.2.2)) (fun _ => rfl) (fun B_ hB_ => ?_)
      have hF_ : zFlow σ (nI p) (zAm i) (nI (σ.1 0), zBec u.2.1 i, u.2.2.1, u.2.2.2.1, B_, (zJ5 u.2.2.2.2.2.1 (zRn u.2.2.1 u.2.2.2.1 (zAm i) (σ.1 0) (zS0p σ (nI p)) 3) ((nI (σ.1 1)).toInt64 - (zRn u.2.2.1 u.2.2.2.1 (zAm i) (σ.1 0) (zS0p σ (nI p)) 3).1) ((nI (σ.1 1)).toInt64 * (nI (σ.1 2)).toInt64 - (zRn u.2.2.1 u.2.2.2.1 (zAm i) (σ.1 0) (zS0p σ (nI p)) 3).2.1)), u.2.2.2.2.2.2) := zFlow_of (fun s hs => (zVin_B (v := u.2.1) hi_ hs).2) hσ.1.2 hT_ hB_ _ _ _ _
      refine a_aload_0 (pc := 119) dX5_array_119 ?_
      refine a_iload_7 (pc := 120) dX5_array_120 ?_
      refine f_P (ad := ad) (q0 := 0) (S2 := sX5_powerAt) (p_powerAt l G ad σ (nI (σ.1 0), zBec u.2.1 i, u.2.2.1, u.2.2.2.1, B_, (zJ5 u.2.2.2.2.2.1 (zRn u.2.2.1 u.2.2.2.1 (zAm i) (σ.1 0) (zS0p σ (nI p)) 3) ((nI (σ.1 1)).toInt64 - (zRn u.2.2.1 u.2.2.2.1 (zAm i) (σ.1 0) (zS0p σ (nI p)) 3).1) ((nI (σ.1 1)).toInt64 * (nI (σ.1 2)).toInt64 - (zRn u.2.2.1 u.2.2.2.1 (zAm i) (σ.1 0) (zS0p σ (nI p)) 3).2.1)), u.2.2.2.2.2.2) (nI p)) kc_X5_powerAt km_X5_150 ki_X5_powerAt kv_X5_powerAt kini_X5 ⟨kn_X5_powerAt, by decide, by decide⟩ (pc := 122) dX5_array_122 (znd_of rfl znd28) rfl rfl (Nat.le_of_ble_eq_true rfl) rfl rfl rfl ?_
      rw [hF_.2.1, hF_.2.2.2.1]
      have hff_ : zFf (zBec u.2.1 i) (nI (σ.1 0)) (B_ 0) (B_ 3) (nI (σ.2.1 3 0)) (nI (σ.2.1 3 1)) 72 0 = zFf (fun k => nI (zBm i k)) (nI (σ.1 0)) (zCellp σ (nI p) (zAm i) 0) (zCellp σ (nI p) (zAm i) 3) (nI (σ.2.1 3 0)) (nI (σ.2.1 3 1)) 72 0 := by
        refine zFf_cg2 (fun s hs => zVin_cg (fun k hk => zBec_at _ i k (by omega))) (fun k hk hd => ?_) 72 0 rfl
        have e_ := (zHd_N (zBm_le hi_) hσ.1.2 hk).mp hd
        exact ⟨zRows_at hF_.1 hk e_.1 e_.2 (a := 0) (by decide), zRows_at hF_.1 hk e_.1 e_.2 (a := 3) (by decide)⟩
      have hsu_ : (¬ (zJ5 u.2.2.2.2.2.1 (zRn u.2.2.1 u.2.2.2.1 (zAm i) (σ.1 0) (zS0p σ (nI p)) 3) ((nI (σ.1 1)).toInt64 - (zRn u.2.2.1 u.2.2.2.1 (zAm i) (σ.1 0) (zS0p σ (nI p)) 3).1) ((nI (σ.1 1)).toInt64 * (nI (σ.1 2)).toInt64 - (zRn u.2.2.1 u.2.2.2.1 (zAm i) (σ.1 0) (zS0p σ (nI p)) 3).2.1)) 3 < w.toInt64 ∧ ¬ q.toInt64 * (zJ5 u.2.2.2.2.2.1 (zRn u.2.2.1 u.2.2.2.1 (zAm i) (σ.1 0) (zS0p σ (nI p)) 3) ((nI (σ.1 1)).toInt64 - (zRn u.2.2.1 u.2.2.2.1 (zAm i) (σ.1 0) (zS0p σ (nI p)) 3).1) ((nI (σ.1 1)).toInt64 * (nI (σ.1 2)).toInt64 - (zRn u.2.2.1 u.2.2.2.1 (zAm i) (σ.1 0) (zS0p σ (nI p)) 3).2.1)) 3 < (zJ5 u.2.2.2.2.2.1 (zRn u.2.2.1 u.2.2.2.1 (zAm i) (σ.1 0) (zS0p σ (nI p)) 3) ((nI (σ.1 1)).toInt64 - (zRn u.2.2.1 u.2.2.2.1 (zAm i) (σ.1 0) (zS0p σ (nI p)) 3).1) ((nI (σ.1 1)).toInt64 * (nI (σ.1 2)).toInt64 - (zRn u.2.2.1 u.2.2.2.1 (zAm i) (σ.1 0) (zS0p σ (nI p)) 3).2.1)) 4 ∧ zFf (zBec u.2.1 i) (nI (σ.1 0)) (B_ 0) (B_ 3) (nI (σ.2.1 3 0)) (nI (σ.2.1 3 1)) 72 0 = zNONE) ↔ zSuits σ w q p i := by
        rw [hff_, show (zJ5 u.2.2.2.2.2.1 (zRn u.2.2.1 u.2.2.2.1 (zAm i) (σ.1 0) (zS0p σ (nI p)) 3) ((nI (σ.1 1)).toInt64 - (zRn u.2.2.1 u.2.2.2.1 (zAm i) (σ.1 0) (zS0p σ (nI p)) 3).1) ((nI (σ.1 1)).toInt64 * (nI (σ.1 2)).toInt64 - (zRn u.2.2.1 u.2.2.2.1 (zAm i) (σ.1 0) (zS0p σ (nI p)) 3).2.1)) 3 = zAW σ p i from hF_.2.2.2.2.1, show (zJ5 u.2.2.2.2.2.1 (zRn u.2.2.1 u.2.2.2.1 (zAm i) (σ.1 0) (zS0p σ (nI p)) 3) ((nI (σ.1 1)).toInt64 - (zRn u.2.2.1 u.2.2.2.1 (zAm i) (σ.1 0) (zS0p σ (nI p)) 3).1) ((nI (σ.1 1)).toInt64 * (nI (σ.1 2)).toInt64 - (zRn u.2.2.1 u.2.2.2.1 (zAm i) (σ.1 0) (zS0p σ (nI p)) 3).2.1)) 4 = zAG σ p i from hF_.2.2.2.2.2]
      refine a_lstore_9 (pc := 125) dX5_array_125 rfl (by decide) ?_
      refine a_lload_9 (pc := 127) dX5_array_127 ?_
      refine a_lload_5 (pc := 129) dX5_array_129 ?_
      refine a_lif_ge (tgt := 165) (pc := 131) dX5_array_131 dX5_array_132 (by decide) (fun c_131 => ?_) (fun c_131 => ?_)
      · rw [if_pos c_131] at hz2_
        refine a_iinc_8 (cst := 1) (pc := 165) dX5_array_165 rfl (by decide) (by decide) ?_
        refine a_goto (tgt := 73) (pc := 168) dX5_array_168 (by decide) ?_
        rw [← nI_succ]
        first
          | exact a_forget_9 (ih_ q2_ (by omega) (i + 1) _ (nI (σ.1 0), zBec u.2.1 i, u.2.2.1, u.2.2.2.1, B_, (zJ5 u.2.2.2.2.2.1 (zRn u.2.2.1 u.2.2.2.1 (zAm i) (σ.1 0) (zS0p σ (nI p)) 3) ((nI (σ.1 1)).toInt64 - (zRn u.2.2.1 u.2.2.2.1 (zAm i) (σ.1 0) (zS0p σ (nI p)) 3).1) ((nI (σ.1 1)).toInt64 * (nI (σ.1 2)).toInt64 - (zRn u.2.2.1 u.2.2.2.1 (zAm i) (σ.1 0) (zS0p σ (nI p)) 3).2.1)), u.2.2.2.2.2.2) (by omega) hz2_ hT_ rfl)
          | exact ih_ q2_ (by omega) (i + 1) _ (u.1, zBec u.2.1 i, u.2.2) (by omega) hz2_ hT_ hL_
      · rw [if_neg c_131] at hz2_
        refine a_aload_0 (pc := 135) dX5_array_135 ?_
        refine a_iload_1 (pc := 136) dX5_array_136 ?_
        refine a_iload_2 (pc := 137) dX5_array_137 ?_
        refine f_P (ad := ad) (q0 := 0) (S2 := sX5_suits) (p_suits l G ad σ (nI (σ.1 0), zBec u.2.1 i, u.2.2.1, u.2.2.2.1, B_, (zJ5 u.2.2.2.2.2.1 (zRn u.2.2.1 u.2.2.2.1 (zAm i) (σ.1 0) (zS0p σ (nI p)) 3) ((nI (σ.1 1)).toInt64 - (zRn u.2.2.1 u.2.2.2.1 (zAm i) (σ.1 0) (zS0p σ (nI p)) 3).1) ((nI (σ.1 1)).toInt64 * (nI (σ.1 2)).toInt64 - (zRn u.2.2.1 u.2.2.2.1 (zAm i) (σ.1 0) (zS0p σ (nI p)) 3).2.1)), u.2.2.2.2.2.2) w q) kc_X5_suits km_X5_197 ki_X5_suits kv_X5_suits kini_X5 ⟨kn_X5_suits, by decide, by decide⟩ (pc := 138) dX5_array_138 (znd_of rfl znd28) rfl rfl (Nat.le_of_ble_eq_true rfl) rfl rfl rfl ?_
        first | refine a_if_eqB (tgt := 165) (pc := 141) dX5_array_141 (by decide) (fun c_141 => ?_) (fun c_141 => ?_) | refine a_if_eq (tgt := 165) (pc := 141) dX5_array_141 (by decide) (fun c_141 => ?_) (fun c_141 => ?_)
        · rw [if_neg (fun h => c_141 (hsu_.mpr h))] at hz2_
          refine a_iinc_8 (cst := 1) (pc := 165) dX5_array_165 rfl (by decide) (by decide) ?_
          refine a_goto (tgt := 73) (pc := 168) dX5_array_168 (by decide) ?_
          rw [← nI_succ]
          first
            | exact a_forget_9 (ih_ q2_ (by omega) (i + 1) _ (nI (σ.1 0), zBec u.2.1 i, u.2.2.1, u.2.2.2.1, B_, (zJ5 u.2.2.2.2.2.1 (zRn u.2.2.1 u.2.2.2.1 (zAm i) (σ.1 0) (zS0p σ (nI p)) 3) ((nI (σ.1 1)).toInt64 - (zRn u.2.2.1 u.2.2.2.1 (zAm i) (σ.1 0) (zS0p σ (nI p)) 3).1) ((nI (σ.1 1)).toInt64 * (nI (σ.1 2)).toInt64 - (zRn u.2.2.1 u.2.2.2.1 (zAm i) (σ.1 0) (zS0p σ (nI p)) 3).2.1)), u.2.2.2.2.2.2) (by omega) hz2_ hT_ rfl)
            | exact ih_ q2_ (by omega) (i + 1) _ (u.1, zBec u.2.1 i, u.2.2) (by omega) hz2_ hT_ hL_
        · rw [if_pos (hsu_.mp c_141)] at hz2_
          refine a_lload_9 (pc := 144) dX5_array_144 ?_
          refine a_lstore_5 (pc := 146) dX5_array_146 rfl (by decide) ?_
          refine a_ldc2 (pc := 148) dX5_array_148 kl_X5_179 ?_
          refine a_iload_7 (pc := 151) dX5_array_151 ?_
          refine a_i2l (pc := 153) dX5_array_153 ?_
          refine a_lmul (pc := 154) dX5_array_154 ?_
          refine a_aload_0 (pc := 155) dX5_array_155 ?_
          refine a_getf (ci := 5) (j := 2) rfl win_X5 (by decide) (pc := 156) dX5_array_156 kf_X5_20 rfl rfl ?_
          refine cV_P (ad := ad) (q0 := 4) (S2 := sX2_digits) (c_digits l G (zpk ad [4, 5]) (zBec u.2.1 i) (nI (σ.1 0))) kc_X2_digits km_X5_200 ki_X2_digits kv_X2_digits kini_X2 ⟨kn_X2_digits, by decide, by decide⟩ (pc := 159) dX5_array_159 [4, 5] rfl rfl rfl rfl (Nat.le_of_ble_eq_true rfl) rfl rfl rfl ?_
          rw [zBec_at _ i 0 (by decide), zBec_at _ i 1 (by decide), zBec_at _ i 2 (by decide)]
          refine a_i2l (pc := 162) dX5_array_162 ?_
          refine a_ladd (pc := 163) dX5_array_163 ?_
          refine a_lstore_3 (pc := 164) dX5_array_164 rfl (by decide) ?_
          refine a_iinc_8 (cst := 1) (pc := 165) dX5_array_165 rfl (by decide) (by decide) ?_
          refine a_goto (tgt := 73) (pc := 168) dX5_array_168 (by decide) ?_
          rw [← nI_succ]
          first
            | exact a_forget_9 (ih_ q2_ (by omega) (i + 1) _ (nI (σ.1 0), zBec u.2.1 i, u.2.2.1, u.2.2.2.1, B_, (zJ5 u.2.2.2.2.2.1 (zRn u.2.2.1 u.2.2.2.1 (zAm i) (σ.1 0) (zS0p σ (nI p)) 3) ((nI (σ.1 1)).toInt64 - (zRn u.2.2.1 u.2.2.2.1 (zAm i) (σ.1 0) (zS0p σ (nI p)) 3).1) ((nI (σ.1 1)).toInt64 * (nI (σ.1 2)).toInt64 - (zRn u.2.2.1 u.2.2.2.1 (zAm i) (σ.1 0) (zS0p σ (nI p)) 3).2.1)), u.2.2.2.2.2.2) (by omega) hz2_ hT_ rfl)
            | exact ih_ q2_ (by omega) (i + 1) _ (u.1, zBec u.2.1 i, u.2.2) (by omega) hz2_ hT_ hL_
    · rw [if_neg c_89] at hz2_
      refine a_goto (tgt := 165) (pc := 92) dX5_array_92 (by decide) ?_
      refine a_iinc_8 (cst := 1) (pc := 165) dX5_array_165 rfl (by decide) (by decide) ?_
      refine a_goto (tgt := 73) (pc := 168) dX5_array_168 (by decide) ?_
      rw [← nI_succ]
      first
        | exact a_forget_9 (ih_ q2_ (by omega) (i + 1) _ (nI (σ.1 0), zBec u.2.1 i, u.2.2.1, u.2.2.2.1, B_, (zJ5 u.2.2.2.2.2.1 (zRn u.2.2.1 u.2.2.2.1 (zAm i) (σ.1 0) (zS0p σ (nI p)) 3) ((nI (σ.1 1)).toInt64 - (zRn u.2.2.1 u.2.2.2.1 (zAm i) (σ.1 0) (zS0p σ (nI p)) 3).1) ((nI (σ.1 1)).toInt64 * (nI (σ.1 2)).toInt64 - (zRn u.2.2.1 u.2.2.2.1 (zAm i) (σ.1 0) (zS0p σ (nI p)) 3).2.1)), u.2.2.2.2.2.2) (by omega) hz2_ hT_ rfl)
        | exact ih_ q2_ (by omega) (i + 1) _ (u.1, zBec u.2.1 i, u.2.2) (by omega) hz2_ hT_ hL_

set_option maxRecDepth 100000 in
set_option maxHeartbeats 4000000 in
theorem lp_arrayO (l : Launch) (G : zG) (ad : Nat → Nat) (σ : zσ) (hσ : zOk σ) (x0 : zX) (w q : Int32) (r : Int64) : ∀ (r2 t : Nat) (s : Int64 × Int64) (u : zX), t + r2 = 10 → (zAr1 σ w q r2 t s).1 = r → zTaken σ u → u.1 = nI (σ.1 0) → AV l G sX5_array (wP G ad σ x0) (zPost G ad (r, σ)) 62 [some (.ref (ad 0)), some (.int w), some (.int q), some (.long s.1), none, some (.long s.2), none, some (.int (nI (100 * t))), none, none, none] [] (wP G ad σ u) := by
  intro q_
  induction q_ using Nat.strongRecOn
  rename_i q_ ih_
  intro t s u hq_ hz_ hT_ hL_
  refine a_iload_7 (pc := 62) dX5_array_62 ?_
  refine a_sipush (v := 900) (pc := 64) dX5_array_64 (by decide) ?_
  refine a_icmp_gt (tgt := 177) (pc := 67) dX5_array_67 (by decide) (fun c_67 => ?_) (fun c_67 => ?_)
  · obtain rfl : q_ = 0 := by have := (zI_lt (a := 900) (b := 100 * t) (by decide) (by omega)).mp c_67; omega
    refine a_lload_3 (pc := 177) dX5_array_177 ?_
    exact a_lret (pc := 178) dX5_array_178 rfl rfl (zret' u (by rw [← hz_]; rfl) rfl)
  · have hi_ : t < 10 := by have := mt (zI_lt (a := 900) (b := 100 * t) (by decide) (by omega)).mpr c_67; omega
    obtain ⟨q2_, rfl⟩ : ∃ z, q_ = z + 1 := ⟨q_ - 1, by omega⟩
    refine a_iconst (v := 0) (pc := 70) dX5_array_70 (by decide) ?_
    refine a_istore_8 (pc := 71) dX5_array_71 rfl (by decide) ?_
    refine lp_arrayI l G ad σ hσ x0 w q r (100 * t) (by omega) _ (fun u3_ hT3_ hL3_ => ?_) 100 0 s u (by omega) rfl hT_ hL_
    refine a_iinc_7 (cst := 100) (pc := 171) dX5_array_171 rfl (by decide) (by decide) ?_
    refine a_goto (tgt := 62) (pc := 174) dX5_array_174 (by decide) ?_
    rw [show nI (100 * t) + (100 : Int32) = nI (100 * (t + 1)) by rw [Nat.mul_add, zI_add]; rfl]
    exact ih_ q2_ (by omega) (t + 1) _ u3_ (by omega) hz_ hT3_ hL3_

set_option maxRecDepth 100000 in
set_option maxHeartbeats 4000000 in
theorem p_array (l : Launch) (G : zG) (ad : Nat → Nat) (σ : zσ) (x0 : zX) (hσ : zOk σ) (w : Int32) (q : Int32) : zSem l G sX5_array [.ref (ad 0), .int w, .int q] (wP G ad σ x0) (zPost G ad (o_array σ w q)) := by
  refine zEnterV (L := [some (.ref (ad 0)), some (.int w), some (.int q), none, none, none, none, none, none, none, none]) (by decide) rfl (Nat.le_of_ble_eq_true rfl) rfl ?_
  refine a_iload_1 (pc := 0) dX5_array_0 ?_
  refine a_iconst (v := 0) (pc := 1) dX5_array_1 (by decide) ?_
  refine a_ldc (pc := 2) dX5_array_2 kl_X5_181 ?_
  refine cS_P (S2 := sX5_outside) (c_outside l G _ _ _) kc_X5_outside km_X5_64 ks_X5_outside kini_X5 ⟨kn_X5_outside, by decide, by decide⟩ (pc := 4) dX5_array_4 [] rfl rfl rfl rfl (Nat.le_of_ble_eq_true rfl) ?_
  first | refine a_if_neB (tgt := 20) (pc := 7) dX5_array_7 (by decide) (fun c_7 => ?_) (fun c_7 => ?_) | refine a_if_ne (tgt := 20) (pc := 7) dX5_array_7 (by decide) (fun c_7 => ?_) (fun c_7 => ?_)
  · refine a_ldc2 (pc := 20) dX5_array_20 kl_X5_68 ?_
    exact a_lret (pc := 23) dX5_array_23 rfl rfl (by first | exact zret' x0 (by unfold o_array; rw [if_pos (Or.inl c_7)]) rfl | exact zret' x0 (by unfold o_array; rw [if_pos (Or.inr c_17)]) rfl)
  · refine a_iload_2 (pc := 10) dX5_array_10 ?_
    refine a_iconst (v := 0) (pc := 11) dX5_array_11 (by decide) ?_
    refine a_ldc (pc := 12) dX5_array_12 kl_X5_100 ?_
    refine cS_P (S2 := sX5_outside) (c_outside l G _ _ _) kc_X5_outside km_X5_64 ks_X5_outside kini_X5 ⟨kn_X5_outside, by decide, by decide⟩ (pc := 14) dX5_array_14 [] rfl rfl rfl rfl (Nat.le_of_ble_eq_true rfl) ?_
    first | refine a_if_eqB (tgt := 24) (pc := 17) dX5_array_17 (by decide) (fun c_17 => ?_) (fun c_17 => ?_) | refine a_if_eq (tgt := 24) (pc := 17) dX5_array_17 (by decide) (fun c_17 => ?_) (fun c_17 => ?_)
    · refine a_aload_0 (pc := 24) dX5_array_24 ?_
      refine a_getf (ci := 5) (j := 4) rfl win_X5 (by decide) (pc := 25) dX5_array_25 kf_X5_33 rfl rfl ?_
      refine a_aload_0 (pc := 28) dX5_array_28 ?_
      refine a_getf (ci := 5) (j := 3) rfl win_X5 (by decide) (pc := 29) dX5_array_29 kf_X5_26 rfl rfl ?_
      refine cV_0 (ad := ad) (q0 := 9) (S2 := sX0_take) (c_take l G (zpk ad [9, 10, 11, 12, 13, 14, 15, 16, 17, 6, 7, 8]) x0.2.2.1 x0.2.2.2.1 x0.2.2.2.2.1 x0.2.2.2.2.2.1 (zKd σ) (zFo σ) (fun k hk => zin4 (hσ.2.2.2.2.2.2.2.1 k hk))) kc_X0_take km_X5_182 ki_X0_take kv_X0_take kini_X0 ⟨kn_X0_take, by decide, by decide⟩ (pc := 32) dX5_array_32 [9, 10, 11, 12, 13, 14, 15, 16, 17, 6, 7, 8] rfl rfl rfl rfl (Nat.le_of_ble_eq_true rfl) rfl rfl rfl (fun u => wP G ad σ (x0.1, x0.2.1, u.1, u.2, x0.2.2.2.2)) (fun _ => rfl) (fun u_ hu_ => ?_)
      refine a_aload_0 (pc := 35) dX5_array_35 ?_
      refine a_getf (ci := 5) (j := 2) rfl win_X5 (by decide) (pc := 36) dX5_array_36 kf_X5_20 rfl rfl ?_
      refine a_aload_0 (pc := 39) dX5_array_39 ?_
      refine a_getf (ci := 5) (j := 1) rfl win_X5 (by decide) (pc := 40) dX5_array_40 kf_X5_16 rfl rfl ?_
      refine a_getfN (ci := 2) (j := 1) rfl win_X2 (by decide) (pc := 43) dX5_array_43 kf_X5_73 rfl rfl ?_
      refine a_putfN (ci := 2) (j := 1) rfl win_X2 tyX2_ok nmX2 (by decide) (pc := 46) dX5_array_46 kf_X5_73 rfl rfl rfl rfl rfl (Nat.le_of_ble_eq_true rfl) ?_
      refine a_ldc2 (pc := 49) dX5_array_49 kl_X5_109 ?_
      refine a_lstore_3 (pc := 52) dX5_array_52 rfl (by decide) ?_
      refine a_ldc2 (pc := 53) dX5_array_53 kl_X5_188 ?_
      refine a_lstore_5 (pc := 56) dX5_array_56 rfl (by decide) ?_
      refine a_bipush (v := 100) (pc := 58) dX5_array_58 (by decide) ?_
      refine a_istore_7 (pc := 60) dX5_array_60 rfl (by decide) ?_
      have e_ : o_array σ w q = ((zAr1 σ w q 9 1 (zNO, 9223372036854775807)).1, σ) := by unfold o_array; rw [if_neg (fun h => h.elim c_7 c_17)]
      rw [e_]
      exact a_to (lp_arrayO l G ad σ hσ x0 w q _ 9 1 (zNO, 9223372036854775807) (nI (σ.1 0), x0.2.1, u_.1, u_.2, x0.2.2.2.2) (by omega) rfl (fun k hk => ⟨hu_.1 k hk, hu_.2 k hk⟩) rfl) rfl rfl rfl rfl
    · refine a_ldc2 (pc := 20) dX5_array_20 kl_X5_68 ?_
      exact a_lret (pc := 23) dX5_array_23 rfl rfl (by first | exact zret' x0 (by unfold o_array; rw [if_pos (Or.inl c_7)]) rfl | exact zret' x0 (by unfold o_array; rw [if_pos (Or.inr c_17)]) rfl)


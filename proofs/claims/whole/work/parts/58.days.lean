/-! The model: days, foul. -/
theorem zSoil_e {f : Int32} {x : Int64} (h : f.toInt64 + x ≤ 90) : (f.toInt64 + x).toInt32 = zSoil f x := by
  unfold zSoil
  by_cases h2 : f.toInt64 + x < 90
  · rw [if_pos h2]
  · rw [if_neg h2]
    congr 1
    apply Int64.toInt_inj.mp
    have a := Int64.le_iff_toInt_le.mp h
    have b := mt Int64.lt_iff_toInt_lt.mpr h2
    omega
theorem zSoil_g {f : Int32} {x : Int64} (h : ¬ f.toInt64 + x ≤ 90) : (90 : Int32) = zSoil f x := by
  unfold zSoil
  rw [if_neg (fun h2 => h (Int64.le_iff_toInt_le.mpr (by have := Int64.lt_iff_toInt_lt.mp h2; omega)))]
  decide +kernel
abbrev zσd (σ : zσ) (f : Nat → Nat) : zσ := (zuN σ.1 4 (σ.1 4 + 1), zu2 σ.2.1 2 f, σ.2.2)
theorem zOk_dayi {σ : zσ} (hσ : zOk σ) (h : σ.1 4 + 1 ≤ 1000) (i : Nat) : zOk (zσd σ (zfilN (σ.2.1 2) i (zNewF σ))) := by
  obtain ⟨a1, a2, a3, a4, a5, a6, a7, a8, a9, a10, a11, a12, a13, a14⟩ := id hσ
  refine ⟨a1, a2, a3, a4, h, a6, a7, a8, fun k hk => ?_, a10, a11, a12, a13, a14⟩
  show zfilN (σ.2.1 2) i (zNewF σ) k ≤ 90
  unfold zfilN
  split
  · exact zNewF_le hσ hk
  · exact a9 k hk
set_option maxRecDepth 100000 in
set_option maxHeartbeats 4000000 in
theorem lm_day (l : Launch) (G : zG) (ad : Nat → Nat) (σ : zσ) (hσ : zOk σ) (hd4 : σ.1 4 + 1 ≤ 1000) (x0 u : zY) (hu1 : u.1 = x0.1) (hu : zRowsM (zPaf σ) (zLef σ) (zMs σ) (σ.1 0) (zS0p σ (nI (σ.1 3))) u.2.1 3) : ∀ (q i : Nat), i + q = 72 → AV l G sX6_day (wM G ad σ x0) (z0 (fun u : zY => u.1 = x0.1) (fun u => wM G ad (zDay σ) u)) 45 [some (.ref (ad 0)), some (.int (zB (zWsh σ))), some (.int (nI i)), none, none] [] (wM G ad (zσd σ (zfilN (σ.2.1 2) i (zNewF σ))) u) := by
  intro q_
  induction q_ using Nat.strongRecOn
  rename_i q_ ih_
  intro i hq_
  refine a_iload_2 (pc := 45) dX6_day_45 ?_
  refine a_bipush (v := 72) (pc := 46) dX6_day_46 (by decide) ?_
  refine a_icmp_ge (tgt := 136) (pc := 48) dX6_day_48 (by decide) (fun c_48 => ?_) (fun c_48 => ?_)
  · obtain rfl : i = 72 := by have := (zI_le (a := 72) (b := i) (by decide) (by omega)).mp c_48; omega
    exact a_vret (pc := 136) dX6_day_136 rfl rfl ⟨u, hu1, rfl, rfl⟩
  · have hi_ : i < 72 := by have := mt (zI_le (a := 72) (b := i) (by decide) (by omega)).mpr c_48; omega
    refine a_aload_0 (pc := 51) dX6_day_51 ?_
    refine a_iload_2 (pc := 52) dX6_day_52 ?_
    refine f_P (ad := ad) (q0 := 0) (S2 := sX6_isThere) (m_isThere l G ad (zσd σ (zfilN (σ.2.1 2) i (zNewF σ))) (zOk_dayi hσ hd4 i) u i hi_) kc_X6_isThere km_X6_138 ki_X6_isThere kv_X6_isThere kini_X6 ⟨kn_X6_isThere, by decide, by decide⟩ (pc := 53) dX6_day_53 (znd_of rfl znd18) rfl rfl (Nat.le_of_ble_eq_true rfl) rfl rfl rfl ?_
    first | refine a_if_eqB (tgt := 130) (pc := 56) dX6_day_56 (by decide) (fun c_56 => ?_) (fun c_56 => ?_) | refine a_if_eq (tgt := 130) (pc := 56) dX6_day_56 (by decide) (fun c_56 => ?_) (fun c_56 => ?_)
    · have hd_ : ¬ zHσ σ i := c_56
      refine a_iinc_2 (cst := 1) (pc := 130) dX6_day_130 rfl (by decide) (by decide) ?_
      refine a_goto (tgt := 45) (pc := 133) dX6_day_133 (by decide) ?_
      rw [← nI_succ]
      have hw_ : wM G ad (zσd σ (zfilN (σ.2.1 2) (i + 1) (zNewF σ))) u = _ := rfl
      first
        | exact a_to (ih_ (q_ - 1) (by omega) (i + 1) (by omega)) rfl rfl rfl (by rw [← zfilN_k (σ.2.1 2) (zNewF σ) i (by unfold zNewF; rw [if_neg hd_])])
        | exact a_forget_3 (a_to (ih_ (q_ - 1) (by omega) (i + 1) (by omega)) rfl rfl rfl (by rw [← zfilN_sN (σ.2.1 2) (zNewF σ) i, show zNewF σ i = zSoN σ i by unfold zNewF; rw [if_pos hd_, if_neg c_109], updN, updN, zuN_2]; rfl))
        | exact a_forget_3 (a_to (ih_ (q_ - 1) (by omega) (i + 1) (by omega)) rfl rfl rfl (by rw [← zfilN_sN (σ.2.1 2) (zNewF σ) i, show zNewF σ i = zSoN σ i / 2 by unfold zNewF; rw [if_pos hd_, if_pos c_109], updN, updN, zuN_2]; rfl))
    · have hd_ : zHσ σ i := c_56
      have hs_ := zSoil_σ hσ hi_ hd_
      have hso_ := zSoN_le σ i
      have hne_ : ¬ (nI (σ.2.1 3 3)).toInt64 = 0 := fun h => by
        have h4_ : 1 ≤ σ.2.1 3 3 ∧ σ.2.1 3 3 ≤ 1000 := hσ.2.2.2.2.2.2.2.2.2.1 3 (by decide)
        have := congrArg Int64.toInt h
        rw [nI64 (by omega), j_0] at this
        omega
      refine a_aload_0 (pc := 59) dX6_day_59 ?_
      refine a_getf (ci := 6) (j := 3) rfl win_X6 (by decide) (pc := 60) dX6_day_60 kf_X6_20 rfl rfl ?_
      refine a_iload_2 (pc := 63) dX6_day_63 ?_
      refine a_ialdN (pc := 64) dX6_day_64 rfl (by omega) (by decide) ?_
      refine a_topI (congrArg nI (zfilN_i (σ.2.1 2) (zNewF σ) i)) ?_
      refine a_i2l (pc := 65) dX6_day_65 ?_
      refine a_aload_0 (pc := 66) dX6_day_66 ?_
      refine a_getf (ci := 6) (j := 16) rfl win_X6 (by decide) (pc := 67) dX6_day_67 kf_X6_57 rfl rfl ?_
      refine a_iload_2 (pc := 70) dX6_day_70 ?_
      refine a_laldN (pc := 71) dX6_day_71 rfl (by omega) (by decide) ?_
      refine a_topL (zFlM hσ hu hi_ hd_ (a := 3) (by decide)) ?_
      refine a_aload_0 (pc := 72) dX6_day_72 ?_
      refine a_getf (ci := 6) (j := 7) rfl win_X6 (by decide) (pc := 73) dX6_day_73 kf_X6_32 rfl rfl ?_
      refine a_iconst (v := 3) (pc := 76) dX6_day_76 (by decide) ?_
      refine a_ialdN (k := 3) (pc := 77) dX6_day_77 rfl (by omega) (by decide) ?_
      refine a_i2l (pc := 78) dX6_day_78 ?_
      refine a_ldiv (pc := 79) dX6_day_79 hne_ ?_
      refine a_ladd (pc := 80) dX6_day_80 ?_
      refine a_lstore_3 (pc := 81) dX6_day_81 rfl (by decide) ?_
      have J102_ : ∀ y_ : Int32, y_ = nI (zSoN σ i) → AV l G sX6_day (wM G ad σ x0) (z0 (fun u : zY => u.1 = x0.1) (fun u => wM G ad (zDay σ) u)) 102 [some (.ref (ad 0)), some (.int (zB (zWsh σ))), some (.int (nI i)), some (.long ((nI (σ.2.1 2 i)).toInt64 + zCell σ 3 i / (nI (σ.2.1 3 3)).toInt64)), none] [.int y_, .int (nI i), .ref (ad 3)] (wM G ad (zσd σ (zfilN (σ.2.1 2) i (zNewF σ))) u) := by
        intro y_ hy_; subst hy_
        refine a_iastN (pc := 102) dX6_day_102 rfl (by omega) (by decide) ?_
        refine a_aload_0 (pc := 103) dX6_day_103 ?_
        refine a_getf (ci := 6) (j := 3) rfl win_X6 (by decide) (pc := 104) dX6_day_104 kf_X6_20 rfl rfl ?_
        refine a_iload_2 (pc := 107) dX6_day_107 ?_
        refine a_iload_1 (pc := 108) dX6_day_108 ?_
        first | refine a_if_eqB (tgt := 123) (pc := 109) dX6_day_109 (by decide) (fun c_109 => ?_) (fun c_109 => ?_) | refine a_if_eq (tgt := 123) (pc := 109) dX6_day_109 (by decide) (fun c_109 => ?_) (fun c_109 => ?_)
        · refine a_aload_0 (pc := 123) dX6_day_123 ?_
          refine a_getf (ci := 6) (j := 3) rfl win_X6 (by decide) (pc := 124) dX6_day_124 kf_X6_20 rfl rfl ?_
          refine a_iload_2 (pc := 127) dX6_day_127 ?_
          refine a_ialdN (pc := 128) dX6_day_128 rfl (by omega) (by decide) (a_topI (upd_same _ _ _) ?_)
          refine a_iastN (pc := 129) dX6_day_129 rfl (by omega) (by decide) ?_
          refine a_iinc_2 (cst := 1) (pc := 130) dX6_day_130 rfl (by decide) (by decide) ?_
          refine a_goto (tgt := 45) (pc := 133) dX6_day_133 (by decide) ?_
          rw [← nI_succ]
          have hw_ : wM G ad (zσd σ (zfilN (σ.2.1 2) (i + 1) (zNewF σ))) u = _ := rfl
          first
            | exact a_to (ih_ (q_ - 1) (by omega) (i + 1) (by omega)) rfl rfl rfl (by rw [← zfilN_k (σ.2.1 2) (zNewF σ) i (by unfold zNewF; rw [if_neg hd_])])
            | exact a_forget_3 (a_to (ih_ (q_ - 1) (by omega) (i + 1) (by omega)) rfl rfl rfl (by rw [← zfilN_sN (σ.2.1 2) (zNewF σ) i, show zNewF σ i = zSoN σ i by unfold zNewF; rw [if_pos hd_, if_neg c_109], updN, updN, zuN_2]; rfl))
            | exact a_forget_3 (a_to (ih_ (q_ - 1) (by omega) (i + 1) (by omega)) rfl rfl rfl (by rw [← zfilN_sN (σ.2.1 2) (zNewF σ) i, show zNewF σ i = zSoN σ i / 2 by unfold zNewF; rw [if_pos hd_, if_pos c_109], updN, updN, zuN_2]; rfl))
        · refine a_aload_0 (pc := 112) dX6_day_112 ?_
          refine a_getf (ci := 6) (j := 3) rfl win_X6 (by decide) (pc := 113) dX6_day_113 kf_X6_20 rfl rfl ?_
          refine a_iload_2 (pc := 116) dX6_day_116 ?_
          refine a_ialdN (pc := 117) dX6_day_117 rfl (by omega) (by decide) (a_topI (upd_same _ _ _) ?_)
          refine a_iconst (v := 2) (pc := 118) dX6_day_118 (by decide) ?_
          refine a_idiv (pc := 119) dX6_day_119 (by decide) ?_
          rw [show (2 : Int32) = nI 2 from rfl, zI_div (by omega) (by decide) (by decide)]
          refine a_goto (tgt := 129) (pc := 120) dX6_day_120 (by decide) ?_
          refine a_iastN (pc := 129) dX6_day_129 rfl (by omega) (by decide) ?_
          refine a_iinc_2 (cst := 1) (pc := 130) dX6_day_130 rfl (by decide) (by decide) ?_
          refine a_goto (tgt := 45) (pc := 133) dX6_day_133 (by decide) ?_
          rw [← nI_succ]
          have hw_ : wM G ad (zσd σ (zfilN (σ.2.1 2) (i + 1) (zNewF σ))) u = _ := rfl
          first
            | exact a_to (ih_ (q_ - 1) (by omega) (i + 1) (by omega)) rfl rfl rfl (by rw [← zfilN_k (σ.2.1 2) (zNewF σ) i (by unfold zNewF; rw [if_neg hd_])])
            | exact a_forget_3 (a_to (ih_ (q_ - 1) (by omega) (i + 1) (by omega)) rfl rfl rfl (by rw [← zfilN_sN (σ.2.1 2) (zNewF σ) i, show zNewF σ i = zSoN σ i by unfold zNewF; rw [if_pos hd_, if_neg c_109], updN, updN, zuN_2]; rfl))
            | exact a_forget_3 (a_to (ih_ (q_ - 1) (by omega) (i + 1) (by omega)) rfl rfl rfl (by rw [← zfilN_sN (σ.2.1 2) (zNewF σ) i, show zNewF σ i = zSoN σ i / 2 by unfold zNewF; rw [if_pos hd_, if_pos c_109], updN, updN, zuN_2]; rfl))
      refine a_aload_0 (pc := 82) dX6_day_82 ?_
      refine a_getf (ci := 6) (j := 3) rfl win_X6 (by decide) (pc := 83) dX6_day_83 kf_X6_20 rfl rfl ?_
      refine a_iload_2 (pc := 86) dX6_day_86 ?_
      refine a_lload_3 (pc := 87) dX6_day_87 ?_
      refine a_ldc2 (pc := 88) dX6_day_88 kl_X6_162 ?_
      refine a_lif_le (tgt := 100) (pc := 91) dX6_day_91 dX6_day_92 (by decide) (fun c_91 => ?_) (fun c_91 => ?_)
      · refine a_lload_3 (pc := 100) dX6_day_100 ?_
        refine a_l2i (pc := 101) dX6_day_101 ?_
        first | exact J102_ _ ((zSoil_e c_91).trans hs_) | exact J102_ _ ((zSoil_g c_91).trans hs_)
      · refine a_bipush (v := 90) (pc := 95) dX6_day_95 (by decide) ?_
        refine a_goto (tgt := 102) (pc := 97) dX6_day_97 (by decide) ?_
        first | exact J102_ _ ((zSoil_e c_91).trans hs_) | exact J102_ _ ((zSoil_g c_91).trans hs_)

set_option maxRecDepth 100000 in
set_option maxHeartbeats 4000000 in
/-- day -/
theorem m_day (l : Launch) (G : zG) (ad : Nat → Nat) (σ : zσ) (hσ : zOk σ) (hd4 : σ.1 4 + 1 ≤ 1000) (x0 : zY) : zSem l G sX6_day [.ref (ad 0)] (wM G ad σ x0) (z0 (fun u : zY => u.1 = x0.1) (fun u => wM G ad (zDay σ) u)) := by
  refine zEnterV (L := [some (.ref (ad 0)), none, none, none, none]) (by decide) rfl (Nat.le_of_ble_eq_true rfl) rfl ?_
  refine a_aload_0 (pc := 0) dX6_day_0 ?_
  refine f_0 (ad := ad) (q0 := 0) (S2 := sX6_flowNow) (m_flowNow l G ad σ hσ x0) kc_X6_flowNow km_X6_143 ki_X6_flowNow kv_X6_flowNow kini_X6 ⟨kn_X6_flowNow, by decide, by decide⟩ (pc := 1) dX6_day_1 (znd_of rfl znd18) rfl rfl (Nat.le_of_ble_eq_true rfl) rfl rfl rfl (fun B_ hB_ => ?_)
  refine a_aload_0 (pc := 4) dX6_day_4 ?_
  refine a_dup (pc := 5) dX6_day_5 rfl ?_
  refine a_getf (ci := 6) (j := 8) rfl win_X6 (by decide) (pc := 6) dX6_day_6 kf_X6_159 rfl rfl ?_
  refine a_iconst (v := 1) (pc := 9) dX6_day_9 (by decide) ?_
  refine a_iadd (pc := 10) dX6_day_10 ?_
  rw [← nI_succ]
  refine a_putf (ci := 6) (j := 8) rfl win_X6 tyX6_ok nmX6 (by decide) (pc := 11) dX6_day_11 kf_X6_159 rfl rfl rfl rfl rfl (Nat.le_of_ble_eq_true rfl) ?_
  have J42_ : ∀ y_ : Int32, y_ = zB (zWsh σ) → AV l G sX6_day (wM G ad σ x0) (z0 (fun u : zY => u.1 = x0.1) (fun u => wM G ad (zDay σ) u)) 42 [some (.ref (ad 0)), none, none, none, none] [.int y_] (wM G ad (zuN σ.1 4 (σ.1 4 + 1), σ.2) (x0.1, B_, zJF σ (zFin σ (nI (σ.1 3)) (zMs σ)), x0.2.2.2)) := by
    intro y_ hy_; subst hy_
    refine a_istore_1 (pc := 42) dX6_day_42 rfl (by decide) ?_
    refine a_iconst (v := 0) (pc := 43) dX6_day_43 (by decide) ?_
    refine a_istore_2 (pc := 44) dX6_day_44 rfl (by decide) ?_
    exact a_to (lm_day l G ad σ hσ hd4 x0 (x0.1, B_, zJF σ (zFin σ (nI (σ.1 3)) (zMs σ)), x0.2.2.2) rfl hB_ 72 0 (by omega)) rfl rfl rfl (by rw [zfilN_0]; show wM G ad (zuN σ.1 4 (σ.1 4 + 1), zu2 σ.2.1 2 (σ.2.1 2), σ.2.2) _ = _; rw [zu2_self])
  refine a_aload_0 (pc := 14) dX6_day_14 ?_
  refine a_getf (ci := 6) (j := 7) rfl win_X6 (by decide) (pc := 15) dX6_day_15 kf_X6_32 rfl rfl ?_
  refine a_iconst (v := 4) (pc := 18) dX6_day_18 (by decide) ?_
  refine a_ialdN (k := 4) (pc := 19) dX6_day_19 rfl (by omega) (by decide) ?_
  have h4_ : 0 ≤ σ.2.1 3 4 ∧ σ.2.1 3 4 ≤ 30 := hσ.2.2.2.2.2.2.2.2.2.1 4 (by decide)
  refine a_if_le (tgt := 41) (pc := 20) dX6_day_20 (by decide) (fun c_20 => ?_) (fun c_20 => ?_)
  · have h0_ : ¬ 0 < σ.2.1 3 4 := by have := (zI_le (a := σ.2.1 3 4) (b := 0) (by omega) (by decide)).mp c_20; omega
    refine a_iconst (v := 0) (pc := 41) dX6_day_41 (by decide) ?_
    first | exact J42_ _ (zB_1 ⟨h0_, hr_⟩).symm | exact J42_ _ (zB_0 (fun h => hr_ h.2)).symm | exact J42_ _ (zB_0 (fun h => h0_ h.1)).symm
  · have h0_ : 0 < σ.2.1 3 4 := by have := mt (zI_le (a := σ.2.1 3 4) (b := 0) (by omega) (by decide)).mpr c_20; omega
    refine a_aload_0 (pc := 23) dX6_day_23 ?_
    refine a_getf (ci := 6) (j := 8) rfl win_X6 (by decide) (pc := 24) dX6_day_24 kf_X6_159 rfl rfl ?_
    refine a_aload_0 (pc := 27) dX6_day_27 ?_
    refine a_getf (ci := 6) (j := 7) rfl win_X6 (by decide) (pc := 28) dX6_day_28 kf_X6_32 rfl rfl ?_
    refine a_iconst (v := 4) (pc := 31) dX6_day_31 (by decide) ?_
    refine a_ialdN (k := 4) (pc := 32) dX6_day_32 rfl (by omega) (by decide) ?_
    refine a_irem (pc := 33) dX6_day_33 (fun h => absurd (zI_inj (b := 0) (by omega) (by decide) h) (by omega)) ?_
    rw [zI_rem (by omega) (by omega) (by omega)]
    first | refine a_if_neB (tgt := 41) (pc := 34) dX6_day_34 (by decide) (fun c_34 => ?_) (fun c_34 => ?_) | refine a_if_ne (tgt := 41) (pc := 34) dX6_day_34 (by decide) (fun c_34 => ?_) (fun c_34 => ?_)
    · have hr_ : ¬ (σ.1 4 + 1) % σ.2.1 3 4 = 0 := fun h => c_34 (by rw [h]; rfl)
      refine a_iconst (v := 0) (pc := 41) dX6_day_41 (by decide) ?_
      first | exact J42_ _ (zB_1 ⟨h0_, hr_⟩).symm | exact J42_ _ (zB_0 (fun h => hr_ h.2)).symm | exact J42_ _ (zB_0 (fun h => h0_ h.1)).symm
    · have hr_ : (σ.1 4 + 1) % σ.2.1 3 4 = 0 := zI_inj (b := 0) (by have := Nat.mod_lt (σ.1 4 + 1) h0_; omega) (by decide) c_34
      refine a_iconst (v := 1) (pc := 37) dX6_day_37 (by decide) ?_
      refine a_goto (tgt := 42) (pc := 38) dX6_day_38 (by decide) ?_
      first | exact J42_ _ (zB_1 ⟨h0_, hr_⟩).symm | exact J42_ _ (zB_0 (fun h => hr_ h.2)).symm | exact J42_ _ (zB_0 (fun h => h0_ h.1)).symm

set_option maxRecDepth 100000 in
set_option maxHeartbeats 4000000 in
theorem lm_days (l : Launch) (G : zG) (ad : Nat → Nat) (σ : zσ) (hσ : zOk σ) (x0 : zY) (n : Nat) (hn : n ≤ 60) (hd : σ.1 4 + n ≤ 1000) (hN : zNb (zDays σ n) x0.1) : ∀ (q i : Nat) (u : zY), i + q = n → u.1 = x0.1 → AV l G sX6_days (wM G ad σ x0) (zPostM G ad ((nI (σ.1 4 + n)).toInt64, zDays σ n)) 28 [some (.ref (ad 0)), some (.int (nI n)), some (.int (nI i))] [] (wM G ad (zDays σ i) u) := by
  intro q_
  induction q_ using Nat.strongRecOn
  rename_i q_ ih_
  intro i u hq_ hu_
  refine a_iload_2 (pc := 28) dX6_days_28 ?_
  refine a_iload_1 (pc := 29) dX6_days_29 ?_
  refine a_icmp_ge (tgt := 43) (pc := 30) dX6_days_30 (by decide) (fun c_30 => ?_) (fun c_30 => ?_)
  · obtain rfl : i = n := by have := (zI_le (by omega) (by omega)).mp c_30; omega
    refine a_aload_0 (pc := 43) dX6_days_43 ?_
    refine a_getf (ci := 6) (j := 8) rfl win_X6 (by decide) (pc := 44) dX6_days_44 kf_X6_159 rfl rfl ?_
    rw [zDays_4]
    refine a_i2l (pc := 47) dX6_days_47 ?_
    exact a_lret (pc := 48) dX6_days_48 rfl rfl (mret u rfl (by rw [hu_]; exact hN) rfl)
  · have hi_ : i < n := by have := mt (zI_le (a := n) (b := i) (by omega) (by omega)).mpr c_30; omega
    refine a_aload_0 (pc := 33) dX6_days_33 ?_
    refine f_0 (ad := ad) (q0 := 0) (S2 := sX6_day) (m_day l G ad (zDays σ i) (zDays_ok hσ i (by omega)) (by rw [zDays_4]; omega) u) kc_X6_day km_X6_164 ki_X6_day kv_X6_day kini_X6 ⟨kn_X6_day, by decide, by decide⟩ (pc := 34) dX6_days_34 (znd_of rfl znd18) rfl rfl (Nat.le_of_ble_eq_true rfl) rfl rfl rfl (fun u2_ hu2_ => ?_)
    refine a_iinc_2 (cst := 1) (pc := 37) dX6_days_37 rfl (by decide) (by decide) ?_
    refine a_goto (tgt := 28) (pc := 40) dX6_days_40 (by decide) ?_
    rw [← nI_succ]
    exact ih_ (q_ - 1) (by omega) (i + 1) u2_ (by omega) (hu2_.trans hu_)

theorem zDays_22 (σ : zσ) : ∀ i, (zDays σ i).2.2 = σ.2.2
  | 0 => rfl
  | i + 1 => zDays_22 σ i
theorem zDays_nb {σ : zσ} {nb : Nat → Int32} (h : zNb σ nb) (i : Nat) : zNb (zDays σ i) nb := by
  unfold zNb
  rw [zDays_22]
  exact h
set_option maxRecDepth 100000 in
set_option maxHeartbeats 4000000 in
theorem m_days (l : Launch) (G : zG) (ad : Nat → Nat) (σ : zσ) (x0 : zY) (hσ : zOk σ) (hN : zNb σ x0.1) (n : Int32) : zSem l G sX6_days [.ref (ad 0), .int n] (wM G ad σ x0) (zPostM G ad (o_days σ n)) := by
  refine zEnterV (L := [some (.ref (ad 0)), some (.int n), none]) (by decide) rfl (Nat.le_of_ble_eq_true rfl) rfl ?_
  refine a_iload_1 (pc := 0) dX6_days_0 ?_
  refine a_iconst (v := 1) (pc := 1) dX6_days_1 (by decide) ?_
  refine a_bipush (v := 60) (pc := 2) dX6_days_2 (by decide) ?_
  refine cS_P (S2 := sX6_isIn) (m_isIn l G _ _ _) kc_X6_isIn km_X6_75 ks_X6_isIn kini_X6 ⟨kn_X6_isIn, by decide, by decide⟩ (pc := 4) dX6_days_4 [] rfl rfl rfl rfl (Nat.le_of_ble_eq_true rfl) ?_
  first | refine a_if_eqB (tgt := 22) (pc := 7) dX6_days_7 (by decide) (fun c_7 => ?_) (fun c_7 => ?_) | refine a_if_eq (tgt := 22) (pc := 7) dX6_days_7 (by decide) (fun c_7 => ?_) (fun c_7 => ?_)
  · refine a_ldc2 (pc := 22) dX6_days_22 kl_X6_79 ?_
    exact a_lret (pc := 25) dX6_days_25 rfl rfl (by first | exact mret x0 (if_pos (Or.inl (Decidable.not_not.mp c_7))) hN rfl | exact mret x0 (if_pos (Or.inr c_19)) hN rfl)
  · refine a_aload_0 (pc := 10) dX6_days_10 ?_
    refine a_getf (ci := 6) (j := 8) rfl win_X6 (by decide) (pc := 11) dX6_days_11 kf_X6_159 rfl rfl ?_
    refine a_iload_1 (pc := 14) dX6_days_14 ?_
    refine a_iadd (pc := 15) dX6_days_15 ?_
    refine a_sipush (v := 1000) (pc := 16) dX6_days_16 (by decide) ?_
    refine a_icmp_le (tgt := 26) (pc := 19) dX6_days_19 (by decide) (fun c_19 => ?_) (fun c_19 => ?_)
    · obtain ⟨k, hk_, rfl⟩ := zrange1 (n := 60) (by decide) rfl c_7
      have hd_ := hσ.2.2.2.2.1
      have hle_ : σ.1 4 + k ≤ 1000 := by
        rw [← zI_add] at c_19
        exact (zI_le (b := 1000) (by omega) (by decide)).mp c_19
      refine a_iconst (v := 0) (pc := 26) dX6_days_26 (by decide) ?_
      refine a_istore_2 (pc := 27) dX6_days_27 rfl (by decide) ?_
      have e_ : o_days σ (nI k) = ((nI (σ.1 4 + k)).toInt64, zDays σ k) := by
        unfold o_days
        rw [if_neg (fun h => h.elim c_7 (fun h => h c_19)), nI_clamp (by omega)]
      rw [e_]
      exact lm_days l G ad σ hσ x0 k hk_.2 hle_ (zDays_nb hN k) k 0 x0 (by omega) rfl
    · refine a_ldc2 (pc := 22) dX6_days_22 kl_X6_79 ?_
      exact a_lret (pc := 25) dX6_days_25 rfl rfl (by first | exact mret x0 (if_pos (Or.inl (Decidable.not_not.mp c_7))) hN rfl | exact mret x0 (if_pos (Or.inr c_19)) hN rfl)

theorem zH0 {σ : zσ} (hσ : zOk σ) : zHσ σ 0 := (zHσ_iff hσ (by decide)).mpr ⟨fun j hj => by
  have := hσ.2.2.2.2.2.2.1
  have e : j = 0 := by omega
  subst e; omega, by have := hσ.2.2.2.2.2.2.1; show 0 < σ.2.1 0 0; omega, by have := hσ.1.1; show 0 < σ.1 0; omega⟩
theorem zFs_s {σ : zσ} {i : Nat} (h : zHσ σ i) : zFsσ σ (i + 1) = ((zFsσ σ i).1 + (nI (σ.2.1 2 i)).toInt64, if nI (σ.2.1 2 i) ≤ nI (σ.2.1 2 (zFsσ σ i).2) then (zFsσ σ i).2 else i) := if_pos h
theorem zFs_n {σ : zσ} {i : Nat} (h : ¬ zHσ σ i) : zFsσ σ (i + 1) = zFsσ σ i := if_neg h
theorem zadd64 {a b : Nat} (h : a + b < 2 ^ 31) : (nI a).toInt64 + (nI b).toInt64 = (nI (a + b)).toInt64 := by
  apply Int64.toInt_inj.mp
  have e1 := nI64 (n := a) (by omega)
  have e2 := nI64 (n := b) (by omega)
  rw [nI64 (n := a + b) h, j_add (by rw [e1, e2]; omega) (by rw [e1, e2]; omega), e1, e2]
  omega
set_option maxRecDepth 100000 in
set_option maxHeartbeats 4000000 in
theorem lm_foul (l : Launch) (G : zG) (ad : Nat → Nat) (σ : zσ) (hσ : zOk σ) (x0 : zY) (hN : zNb σ x0.1) (c : Int32) (hc : ¬ zOR c 0 2) : ∀ (q i S : Nat), i + q = 72 → S ≤ 90 * i → (zFsσ σ i).1 = (nI S).toInt64 → AV l G sX6_foul (wM G ad σ x0) (zPostM G ad (o_foul σ c)) 20 [some (.ref (ad 0)), some (.int c), some (.int (nI S)), some (.int (nI (zFsσ σ i).2)), some (.int (nI i))] [] (wM G ad σ x0) := by
  intro q_
  induction q_ using Nat.strongRecOn
  rename_i q_ ih_
  intro i S hq_ hSb_ hS_
  refine a_iload_4 (pc := 20) dX6_foul_20 ?_
  refine a_bipush (v := 72) (pc := 22) dX6_foul_22 (by decide) ?_
  refine a_icmp_ge (tgt := 79) (pc := 24) dX6_foul_24 (by decide) (fun c_24 => ?_) (fun c_24 => ?_)
  · obtain rfl : i = 72 := by have := (zI_le (a := 72) (b := i) (by decide) (by omega)).mp c_24; omega
    have hlt_ : (zFsσ σ 72).2 < 72 := zFs_lt (zVesf σ) (nI (σ.1 0)) (σ.2.1 2) 72 (by omega)
    refine a_iload_1 (pc := 79) dX6_foul_79 ?_
    first | refine a_if_neB (tgt := 88) (pc := 80) dX6_foul_80 (by decide) (fun c_80 => ?_) (fun c_80 => ?_) | refine a_if_ne (tgt := 88) (pc := 80) dX6_foul_80 (by decide) (fun c_80 => ?_) (fun c_80 => ?_)
    · refine a_iload_1 (pc := 88) dX6_foul_88 ?_
      refine a_iconst (v := 1) (pc := 89) dX6_foul_89 (by decide) ?_
      refine a_icmp_ne (tgt := 103) (pc := 90) dX6_foul_90 (by decide) (fun c_90 => ?_) (fun c_90 => ?_)
      · refine a_iload_3 (pc := 103) dX6_foul_103 ?_
        refine cS_P (S2 := sX6_skinAt) (m_skinAt l G _ hlt_) kc_X6_skinAt km_X6_150 ks_X6_skinAt kini_X6 ⟨kn_X6_skinAt, by decide, by decide⟩ (pc := 104) dX6_foul_104 [] rfl rfl rfl rfl (Nat.le_of_ble_eq_true rfl) ?_
        refine a_i2l (pc := 107) dX6_foul_107 ?_
        exact a_lret (pc := 108) dX6_foul_108 rfl rfl (by first | exact mret x0 (by unfold o_foul; rw [if_neg hc, if_pos c_80, hS_]) hN rfl | exact mret x0 (by unfold o_foul; rw [if_neg hc, if_neg c_80, if_pos c_90]) hN rfl | exact mret x0 (by unfold o_foul; rw [if_neg hc, if_neg c_80, if_neg c_90]) hN rfl)
      · refine a_aload_0 (pc := 93) dX6_foul_93 ?_
        refine a_getf (ci := 6) (j := 3) rfl win_X6 (by decide) (pc := 94) dX6_foul_94 kf_X6_20 rfl rfl ?_
        refine a_iload_3 (pc := 97) dX6_foul_97 ?_
        refine a_ialdN (pc := 98) dX6_foul_98 rfl (by omega) (by decide) ?_
        refine a_i2l (pc := 99) dX6_foul_99 ?_
        refine a_goto (tgt := 108) (pc := 100) dX6_foul_100 (by decide) ?_
        exact a_lret (pc := 108) dX6_foul_108 rfl rfl (by first | exact mret x0 (by unfold o_foul; rw [if_neg hc, if_pos c_80, hS_]) hN rfl | exact mret x0 (by unfold o_foul; rw [if_neg hc, if_neg c_80, if_pos c_90]) hN rfl | exact mret x0 (by unfold o_foul; rw [if_neg hc, if_neg c_80, if_neg c_90]) hN rfl)
    · refine a_iload_2 (pc := 83) dX6_foul_83 ?_
      refine a_i2l (pc := 84) dX6_foul_84 ?_
      refine a_goto (tgt := 108) (pc := 85) dX6_foul_85 (by decide) ?_
      exact a_lret (pc := 108) dX6_foul_108 rfl rfl (by first | exact mret x0 (by unfold o_foul; rw [if_neg hc, if_pos c_80, hS_]) hN rfl | exact mret x0 (by unfold o_foul; rw [if_neg hc, if_neg c_80, if_pos c_90]) hN rfl | exact mret x0 (by unfold o_foul; rw [if_neg hc, if_neg c_80, if_neg c_90]) hN rfl)
  · have hi_ : i < 72 := by have := mt (zI_le (a := 72) (b := i) (by decide) (by omega)).mpr c_24; omega
    have hlt_ : (zFsσ σ i).2 < 72 := zFs_lt (zVesf σ) (nI (σ.1 0)) (σ.2.1 2) i (by omega)
    have h9_ := hσ.2.2.2.2.2.2.2.2.1 i hi_
    refine a_aload_0 (pc := 27) dX6_foul_27 ?_
    refine a_iload_4 (pc := 28) dX6_foul_28 ?_
    refine f_P (ad := ad) (q0 := 0) (S2 := sX6_isThere) (m_isThere l G ad σ hσ x0 i hi_) kc_X6_isThere km_X6_138 ki_X6_isThere kv_X6_isThere kini_X6 ⟨kn_X6_isThere, by decide, by decide⟩ (pc := 30) dX6_foul_30 (znd_of rfl znd18) rfl rfl (Nat.le_of_ble_eq_true rfl) rfl rfl rfl ?_
    first | refine a_if_eqB (tgt := 73) (pc := 33) dX6_foul_33 (by decide) (fun c_33 => ?_) (fun c_33 => ?_) | refine a_if_eq (tgt := 73) (pc := 33) dX6_foul_33 (by decide) (fun c_33 => ?_) (fun c_33 => ?_)
    · refine a_iinc_4 (cst := 1) (pc := 73) dX6_foul_73 rfl (by decide) (by decide) ?_
      refine a_goto (tgt := 20) (pc := 76) dX6_foul_76 (by decide) ?_
      rw [← nI_succ]
      first
        | exact a_to (ih_ (q_ - 1) (by omega) (i + 1) S (by omega) (by omega) (by rw [zFs_n c_33]; exact hS_)) rfl (by rw [zFs_n c_33]) rfl rfl
        | exact a_to (ih_ (q_ - 1) (by omega) (i + 1) (S + σ.2.1 2 i) (by omega) (by omega) (by rw [zFs_s c_33]; show (zFsσ σ i).1 + _ = _; rw [hS_, zadd64 (by omega)])) rfl (by rw [zFs_s c_33, if_pos c_63]) rfl rfl
        | exact a_to (ih_ (q_ - 1) (by omega) (i + 1) (S + σ.2.1 2 i) (by omega) (by omega) (by rw [zFs_s c_33]; show (zFsσ σ i).1 + _ = _; rw [hS_, zadd64 (by omega)])) rfl (by rw [zFs_s c_33, if_neg c_63]) rfl rfl
    · refine a_iload_2 (pc := 36) dX6_foul_36 ?_
      refine a_aload_0 (pc := 37) dX6_foul_37 ?_
      refine a_getf (ci := 6) (j := 3) rfl win_X6 (by decide) (pc := 38) dX6_foul_38 kf_X6_20 rfl rfl ?_
      refine a_iload_4 (pc := 41) dX6_foul_41 ?_
      refine a_ialdN (pc := 43) dX6_foul_43 rfl (by omega) (by decide) ?_
      refine a_iadd (pc := 44) dX6_foul_44 ?_
      rw [← zI_add]
      refine a_istore_2 (pc := 45) dX6_foul_45 rfl (by decide) ?_
      refine a_iload_3 (pc := 46) dX6_foul_46 ?_
      refine a_if_lt (tgt := 66) (pc := 47) dX6_foul_47 (by decide) (fun c_47 => ?_) (fun c_47 => ?_)
      · exact absurd c_47 (nI_pos (by omega))
      · refine a_aload_0 (pc := 50) dX6_foul_50 ?_
        refine a_getf (ci := 6) (j := 3) rfl win_X6 (by decide) (pc := 51) dX6_foul_51 kf_X6_20 rfl rfl ?_
        refine a_iload_4 (pc := 54) dX6_foul_54 ?_
        refine a_ialdN (pc := 56) dX6_foul_56 rfl (by omega) (by decide) ?_
        refine a_aload_0 (pc := 57) dX6_foul_57 ?_
        refine a_getf (ci := 6) (j := 3) rfl win_X6 (by decide) (pc := 58) dX6_foul_58 kf_X6_20 rfl rfl ?_
        refine a_iload_3 (pc := 61) dX6_foul_61 ?_
        refine a_ialdN (pc := 62) dX6_foul_62 rfl (by omega) (by decide) ?_
        refine a_icmp_le (tgt := 71) (pc := 63) dX6_foul_63 (by decide) (fun c_63 => ?_) (fun c_63 => ?_)
        · refine a_iload_3 (pc := 71) dX6_foul_71 ?_
          refine a_istore_3 (pc := 72) dX6_foul_72 rfl (by decide) ?_
          refine a_iinc_4 (cst := 1) (pc := 73) dX6_foul_73 rfl (by decide) (by decide) ?_
          refine a_goto (tgt := 20) (pc := 76) dX6_foul_76 (by decide) ?_
          rw [← nI_succ]
          first
            | exact a_to (ih_ (q_ - 1) (by omega) (i + 1) S (by omega) (by omega) (by rw [zFs_n c_33]; exact hS_)) rfl (by rw [zFs_n c_33]) rfl rfl
            | exact a_to (ih_ (q_ - 1) (by omega) (i + 1) (S + σ.2.1 2 i) (by omega) (by omega) (by rw [zFs_s c_33]; show (zFsσ σ i).1 + _ = _; rw [hS_, zadd64 (by omega)])) rfl (by rw [zFs_s c_33, if_pos c_63]) rfl rfl
            | exact a_to (ih_ (q_ - 1) (by omega) (i + 1) (S + σ.2.1 2 i) (by omega) (by omega) (by rw [zFs_s c_33]; show (zFsσ σ i).1 + _ = _; rw [hS_, zadd64 (by omega)])) rfl (by rw [zFs_s c_33, if_neg c_63]) rfl rfl
        · refine a_iload_4 (pc := 66) dX6_foul_66 ?_
          refine a_goto (tgt := 72) (pc := 68) dX6_foul_68 (by decide) ?_
          refine a_istore_3 (pc := 72) dX6_foul_72 rfl (by decide) ?_
          refine a_iinc_4 (cst := 1) (pc := 73) dX6_foul_73 rfl (by decide) (by decide) ?_
          refine a_goto (tgt := 20) (pc := 76) dX6_foul_76 (by decide) ?_
          rw [← nI_succ]
          first
            | exact a_to (ih_ (q_ - 1) (by omega) (i + 1) S (by omega) (by omega) (by rw [zFs_n c_33]; exact hS_)) rfl (by rw [zFs_n c_33]) rfl rfl
            | exact a_to (ih_ (q_ - 1) (by omega) (i + 1) (S + σ.2.1 2 i) (by omega) (by omega) (by rw [zFs_s c_33]; show (zFsσ σ i).1 + _ = _; rw [hS_, zadd64 (by omega)])) rfl (by rw [zFs_s c_33, if_pos c_63]) rfl rfl
            | exact a_to (ih_ (q_ - 1) (by omega) (i + 1) (S + σ.2.1 2 i) (by omega) (by omega) (by rw [zFs_s c_33]; show (zFsσ σ i).1 + _ = _; rw [hS_, zadd64 (by omega)])) rfl (by rw [zFs_s c_33, if_neg c_63]) rfl rfl

set_option maxRecDepth 100000 in
set_option maxHeartbeats 4000000 in
theorem lm_foul0 (l : Launch) (G : zG) (ad : Nat → Nat) (σ : zσ) (hσ : zOk σ) (x0 : zY) (hN : zNb σ x0.1) (c : Int32) (hc : ¬ zOR c 0 2) : AV l G sX6_foul (wM G ad σ x0) (zPostM G ad (o_foul σ c)) 20 [some (.ref (ad 0)), some (.int c), some (.int 0), some (.int (-1)), some (.int (nI 0))] [] (wM G ad σ x0) := by
  
  refine a_iload_4 (pc := 20) dX6_foul_20 ?_
  refine a_bipush (v := 72) (pc := 22) dX6_foul_22 (by decide) ?_
  refine a_icmp_ge (tgt := 79) (pc := 24) dX6_foul_24 (by decide) (fun c_24 => ?_) (fun c_24 => ?_)
  · exact absurd c_24 (by decide)
  · have h9_ := hσ.2.2.2.2.2.2.2.2.1 0 (by decide)
    refine a_aload_0 (pc := 27) dX6_foul_27 ?_
    refine a_iload_4 (pc := 28) dX6_foul_28 ?_
    refine f_P (ad := ad) (q0 := 0) (S2 := sX6_isThere) (m_isThere l G ad σ hσ x0 0 (by decide)) kc_X6_isThere km_X6_138 ki_X6_isThere kv_X6_isThere kini_X6 ⟨kn_X6_isThere, by decide, by decide⟩ (pc := 30) dX6_foul_30 (znd_of rfl znd18) rfl rfl (Nat.le_of_ble_eq_true rfl) rfl rfl rfl ?_
    first | refine a_if_eqB (tgt := 73) (pc := 33) dX6_foul_33 (by decide) (fun c_33 => ?_) (fun c_33 => ?_) | refine a_if_eq (tgt := 73) (pc := 33) dX6_foul_33 (by decide) (fun c_33 => ?_) (fun c_33 => ?_)
    · exact absurd (zH0 hσ) c_33
    · refine a_iload_2 (pc := 36) dX6_foul_36 ?_
      refine a_aload_0 (pc := 37) dX6_foul_37 ?_
      refine a_getf (ci := 6) (j := 3) rfl win_X6 (by decide) (pc := 38) dX6_foul_38 kf_X6_20 rfl rfl ?_
      refine a_iload_4 (pc := 41) dX6_foul_41 ?_
      refine a_ialdN (pc := 43) dX6_foul_43 rfl (by omega) (by decide) ?_
      refine a_iadd (pc := 44) dX6_foul_44 ?_
      rw [show (0 : Int32) = nI 0 from rfl, ← zI_add, Nat.zero_add]
      refine a_istore_2 (pc := 45) dX6_foul_45 rfl (by decide) ?_
      refine a_iload_3 (pc := 46) dX6_foul_46 ?_
      refine a_if_lt (tgt := 66) (pc := 47) dX6_foul_47 (by decide) (fun c_47 => ?_) (fun c_47 => ?_)
      · refine a_iload_4 (pc := 66) dX6_foul_66 ?_
        refine a_goto (tgt := 72) (pc := 68) dX6_foul_68 (by decide) ?_
        refine a_istore_3 (pc := 72) dX6_foul_72 rfl (by decide) ?_
        refine a_iinc_4 (cst := 1) (pc := 73) dX6_foul_73 rfl (by decide) (by decide) ?_
        refine a_goto (tgt := 20) (pc := 76) dX6_foul_76 (by decide) ?_
        exact a_to (lm_foul l G ad σ hσ x0 hN c hc 71 1 (σ.2.1 2 0) (by omega) (by omega) (by rw [zFs_s (zH0 hσ)]; show (nI 0).toInt64 + _ = _; rw [zadd64 (by omega), Nat.zero_add])) rfl (by rw [zFs_s (zH0 hσ), if_pos (show nI (σ.2.1 2 0) ≤ nI (σ.2.1 2 (zFsσ σ 0).2) from (zI_le (by omega) (by show σ.2.1 2 0 < _; omega)).mpr (Nat.le_refl _))]; rfl) rfl rfl
      · exact absurd (show (-1 : Int32) < 0 by decide) c_47

set_option maxRecDepth 100000 in
set_option maxHeartbeats 4000000 in
theorem m_foul (l : Launch) (G : zG) (ad : Nat → Nat) (σ : zσ) (x0 : zY) (hσ : zOk σ) (hN : zNb σ x0.1) (c : Int32) : zSem l G sX6_foul [.ref (ad 0), .int c] (wM G ad σ x0) (zPostM G ad (o_foul σ c)) := by
  refine zEnterV (L := [some (.ref (ad 0)), some (.int c), none, none, none]) (by decide) rfl (Nat.le_of_ble_eq_true rfl) rfl ?_
  refine a_iload_1 (pc := 0) dX6_foul_0 ?_
  refine a_iconst (v := 0) (pc := 1) dX6_foul_1 (by decide) ?_
  refine a_iconst (v := 2) (pc := 2) dX6_foul_2 (by decide) ?_
  refine cS_P (S2 := sX6_isIn) (m_isIn l G _ _ _) kc_X6_isIn km_X6_75 ks_X6_isIn kini_X6 ⟨kn_X6_isIn, by decide, by decide⟩ (pc := 3) dX6_foul_3 [] rfl rfl rfl rfl (Nat.le_of_ble_eq_true rfl) ?_
  first | refine a_if_neB (tgt := 13) (pc := 6) dX6_foul_6 (by decide) (fun c_6 => ?_) (fun c_6 => ?_) | refine a_if_ne (tgt := 13) (pc := 6) dX6_foul_6 (by decide) (fun c_6 => ?_) (fun c_6 => ?_)
  · refine a_iconst (v := 0) (pc := 13) dX6_foul_13 (by decide) ?_
    refine a_istore_2 (pc := 14) dX6_foul_14 rfl (by decide) ?_
    refine a_iconst (v := -1) (pc := 15) dX6_foul_15 (by decide) ?_
    refine a_istore_3 (pc := 16) dX6_foul_16 rfl (by decide) ?_
    refine a_iconst (v := 0) (pc := 17) dX6_foul_17 (by decide) ?_
    refine a_istore_4 (pc := 18) dX6_foul_18 rfl (by decide) ?_
    exact lm_foul0 l G ad σ hσ x0 hN c c_6
  · refine a_ldc2 (pc := 9) dX6_foul_9 kl_X6_79 ?_
    exact a_lret (pc := 12) dX6_foul_12 rfl rfl (mret x0 (by unfold o_foul; rw [if_pos (Decidable.not_not.mp c_6)]) hN rfl)


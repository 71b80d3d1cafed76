/-! The plant: days. -/
abbrev zWsh (σ : zσ) : Prop := 0 < σ.2.1 3 4 ∧ (σ.1 4 + 1) % σ.2.1 3 4 = 0
def zSoN (σ : zσ) (k : Nat) : Nat := min 90 (σ.2.1 2 k + (zCell σ 3 k).toInt.toNat / σ.2.1 3 3)
def zNewF (σ : zσ) (k : Nat) : Nat := if zHσ σ k then (if zWsh σ then zSoN σ k / 2 else zSoN σ k) else σ.2.1 2 k
def zDay (σ : zσ) : zσ := (zuN σ.1 4 (σ.1 4 + 1), zu2 σ.2.1 2 (zfilN (σ.2.1 2) 72 (zNewF σ)), σ.2.2)
theorem zfilN_sN (f g : Nat → Nat) (i : Nat) : zuN (zfilN f i g) i (g i) = zfilN f (i + 1) g := by
  funext j
  unfold zuN zfilN
  by_cases h : j = i
  · subst h; rw [if_pos rfl, if_pos (by omega)]
  · rw [if_neg h]
    by_cases h2 : j < i
    · rw [if_pos h2, if_pos (by omega)]
    · rw [if_neg h2, if_neg (by omega)]
theorem zfilN_k (f g : Nat → Nat) (i : Nat) (h : g i = f i) : zfilN f i g = zfilN f (i + 1) g := by
  funext j
  unfold zfilN
  by_cases h2 : j < i
  · rw [if_pos h2, if_pos (by omega)]
  · rw [if_neg h2]
    by_cases h3 : j = i
    · subst h3; rw [if_pos (by omega), h]
    · rw [if_neg (by omega)]
theorem zfilN_i (f g : Nat → Nat) (i : Nat) : zfilN f i g i = f i := if_neg (by omega)
theorem zuN_i (f : Nat → Nat) (i x : Nat) : zuN f i x i = x := if_pos rfl
theorem zuN_2 (f : Nat → Nat) (i x y : Nat) : zuN (zuN f i x) i y = zuN f i y := by
  funext j; unfold zuN; split <;> rfl
theorem zHσ_m {σ : zσ} (hσ : zOk σ) {k : Nat} (hk : k < 72) (h : zHσ σ k) : k % 24 / 6 < zMs σ (k / 24) := ((zHd_N hσ.2.2.2.2.2.1 hσ.1.2 hk).mp h).2
theorem zSoil_N {f r : Nat} {t : Int64} (hf : f ≤ 90) (hr : 1 ≤ r ∧ r ≤ 1000) (ht : 0 ≤ t.toInt ∧ t.toInt ≤ 10000000) : zSoil (nI f) (t / (nI r).toInt64) = nI (min 90 (f + t.toInt.toNat / r)) := by
  have er := nI64 (n := r) (by omega)
  have ef := nI64 (n := f) (by omega)
  have ed : (t / (nI r).toInt64).toInt = t.toInt / r := by rw [j_div ht.1 (by rw [er]; omega), er]
  have hd : t.toInt / r ≤ t.toInt := Int.ediv_le_self _ ht.1
  have hd0 : 0 ≤ t.toInt / r := Int.ediv_nonneg ht.1 (by omega)
  have ea : ((nI f).toInt64 + t / (nI r).toInt64).toInt = (f : Int) + t.toInt / r := by rw [j_add (by rw [ed, ef]; omega) (by rw [ed, ef]; omega), ed, ef]
  have k90 : (90 : Int64).toInt = 90 := by decide
  have en : ((t.toInt.toNat / r : Nat) : Int) = t.toInt / r := by
    have : ((t.toInt.toNat : Nat) : Int) = t.toInt := by omega
    rw [Int.natCast_ediv, this]
  apply i_nI
  unfold zSoil
  by_cases h : (nI f).toInt64 + t / (nI r).toInt64 < 90
  · have h2 := Int64.lt_iff_toInt_lt.mp h
    rw [ea, k90] at h2
    rw [if_pos h, Int64.toInt_toInt32, ea, i_bm (by omega) (by omega)]
    omega
  · have h2 := mt Int64.lt_iff_toInt_lt.mpr h
    rw [ea, k90] at h2
    rw [if_neg h, Int64.toInt_toInt32, k90, i_bm (by omega) (by omega)]
    omega
theorem zSoil_σ {σ : zσ} (hσ : zOk σ) {k : Nat} (hk : k < 72) (h : zHσ σ k) : zSoil (nI (σ.2.1 2 k)) (zCell σ 3 k / (nI (σ.2.1 3 3)).toInt64) = nI (zSoN σ k) :=
  zSoil_N (hσ.2.2.2.2.2.2.2.2.1 k hk) (hσ.2.2.2.2.2.2.2.2.2.1 3 (by decide)) (zCell3_b hσ hσ.2.2.2.1 (fun s hs => (zVin_N hσ.2.2.2.2.2.1 hs).2) hk (zHσ_m hσ hk h))
theorem zSoN_le (σ : zσ) (k : Nat) : zSoN σ k ≤ 90 := Nat.min_le_left _ _
theorem zNewF_le {σ : zσ} (hσ : zOk σ) {k : Nat} (hk : k < 72) : zNewF σ k ≤ 90 := by
  have h1 := zSoN_le σ k
  have h2 := hσ.2.2.2.2.2.2.2.2.1 k hk
  unfold zNewF
  split
  · split <;> omega
  · exact h2
theorem zOk_day {σ : zσ} (hσ : zOk σ) (h : σ.1 4 + 1 ≤ 1000) : zOk (zDay σ) := by
  obtain ⟨a1, a2, a3, a4, a5, a6, a7, a8, a9, a10, a11, a12, a13, a14⟩ := hσ
  refine ⟨a1, a2, a3, a4, h, a6, a7, a8, fun k hk => ?_, a10, a11, a12, a13, a14⟩
  show zfilN (σ.2.1 2) 72 (zNewF σ) k ≤ 90
  unfold zfilN
  rw [if_pos hk]
  exact zNewF_le ⟨a1, a2, a3, a4, a5, a6, a7, a8, a9, a10, a11, a12, a13, a14⟩ hk
def zDays (σ : zσ) : Nat → zσ
  | 0 => σ
  | i + 1 => zDay (zDays σ i)
theorem zDays_4 (σ : zσ) : ∀ i, (zDays σ i).1 4 = σ.1 4 + i
  | 0 => rfl
  | i + 1 => by
    show (zDays σ i).1 4 + 1 = σ.1 4 + (i + 1)
    rw [zDays_4 σ i]; omega
theorem zDays_ok {σ : zσ} (hσ : zOk σ) : ∀ i, σ.1 4 + i ≤ 1000 → zOk (zDays σ i)
  | 0, _ => hσ
  | i + 1, h => zOk_day (zDays_ok hσ i (by omega)) (by rw [zDays_4]; omega)
def o_days (σ : zσ) (n : Int32) : Int64 × zσ := if zOR n 1 60 ∨ ¬ nI (σ.1 4) + n ≤ 1000 then (zBAD, σ) else ((nI (σ.1 4 + n.toNatClampNeg)).toInt64, zDays σ n.toNatClampNeg)
set_option maxRecDepth 100000 in
set_option maxHeartbeats 4000000 in
theorem lp_day (l : Launch) (G : zG) (ad : Nat → Nat) (σ : zσ) (hσ : zOk σ) (x0 u : zX) (hu : zFlow σ (nI (σ.1 3)) (zMs σ) u) : ∀ (q i : Nat), i + q = 72 → AV l G sX5_passDay (wP G ad σ x0) (z0 (fun _ : zX => True) (fun u => wP G ad (zDay σ) u)) 54 [some (.ref (ad 0)), some (.int (nI (σ.2.1 3 3))), some (.int (nI (σ.2.1 3 4))), some (.int (zB (zWsh σ))), some (.int (nI i))] [] (wP G ad (zuN σ.1 4 (σ.1 4 + 1), zu2 σ.2.1 2 (zfilN (σ.2.1 2) i (zNewF σ)), σ.2.2) u) := by
  intro q_
  induction q_ using Nat.strongRecOn
  rename_i q_ ih_
  intro i hq_
  refine a_iload_4 (pc := 54) dX5_passDay_54 ?_
  refine a_bipush (v := 72) (pc := 56) dX5_passDay_56 (by decide) ?_
  refine a_icmp_ge (tgt := 114) (pc := 58) dX5_passDay_58 (by decide) (fun c_58 => ?_) (fun c_58 => ?_)
  · obtain rfl : i = 72 := by have := (zI_le (a := 72) (b := i) (by decide) (by omega)).mp c_58; omega
    exact a_vret (pc := 114) dX5_passDay_114 rfl rfl ⟨u, trivial, rfl, rfl⟩
  · have hi_ : i < 72 := by have := mt (zI_le (a := 72) (b := i) (by decide) (by omega)).mpr c_58; omega
    refine a_aload_0 (pc := 61) dX5_passDay_61 ?_
    refine a_getf (ci := 5) (j := 1) rfl win_X5 (by decide) (pc := 62) dX5_passDay_62 kf_X5_16 rfl rfl ?_
    refine a_iload_4 (pc := 65) dX5_passDay_65 ?_
    refine cV_P (ad := ad) (q0 := 2) (S2 := sX2_holdsSkin) (c_holdsSkin l G (zpk ad [2, 3]) (zVesf σ) (nI (σ.1 0)) i hi_) kc_X2_holdsSkin km_X5_105 ki_X2_holdsSkin kv_X2_holdsSkin kini_X2 ⟨kn_X2_holdsSkin, by decide, by decide⟩ (pc := 67) dX5_passDay_67 [2, 3] rfl rfl rfl rfl (Nat.le_of_ble_eq_true rfl) rfl rfl rfl ?_
    first | refine a_if_eqB (tgt := 108) (pc := 70) dX5_passDay_70 (by decide) (fun c_70 => ?_) (fun c_70 => ?_) | refine a_if_eq (tgt := 108) (pc := 70) dX5_passDay_70 (by decide) (fun c_70 => ?_) (fun c_70 => ?_)
    · refine a_iinc_4 (cst := 1) (pc := 108) dX5_passDay_108 rfl (by decide) (by decide) ?_
      refine a_goto (tgt := 54) (pc := 111) dX5_passDay_111 (by decide) ?_
      rw [← nI_succ]
      refine a_to (ih_ (q_ - 1) (by omega) (i + 1) (by omega)) rfl rfl rfl ?_
      first
        | rw [← zfilN_k (σ.2.1 2) (zNewF σ) i (by unfold zNewF; rw [if_neg c_70])]
        | rw [← zfilN_sN (σ.2.1 2) (zNewF σ) i, show zNewF σ i = zSoN σ i by unfold zNewF; rw [if_pos c_70, if_neg c_96]]
        | rw [← zfilN_sN (σ.2.1 2) (zNewF σ) i, show zNewF σ i = zSoN σ i / 2 by unfold zNewF; rw [if_pos c_70, if_pos c_96], zuN_2]
    · have hs_ := zSoil_σ hσ hi_ c_70
      have hne_ : ¬ (nI (σ.2.1 3 3)).toInt64 = 0 := fun h => by
        have h3_ := hσ.2.2.2.2.2.2.2.2.2.1 3 (by decide)
        have h4_ : 1 ≤ σ.2.1 3 3 ∧ σ.2.1 3 3 ≤ 1000 := h3_
        have := congrArg Int64.toInt h
        rw [nI64 (by omega), j_0] at this
        omega
      refine a_aload_0 (pc := 73) dX5_passDay_73 ?_
      refine a_getf (ci := 5) (j := 3) rfl win_X5 (by decide) (pc := 74) dX5_passDay_74 kf_X5_26 rfl rfl ?_
      refine a_iload_4 (pc := 77) dX5_passDay_77 ?_
      refine a_aload_0 (pc := 79) dX5_passDay_79 ?_
      refine a_getf (ci := 5) (j := 4) rfl win_X5 (by decide) (pc := 80) dX5_passDay_80 kf_X5_33 rfl rfl ?_
      refine a_getfN (ci := 0) (j := 5) rfl win_X0 (by decide) (pc := 83) dX5_passDay_83 kf_X5_124 rfl rfl ?_
      refine a_iload_4 (pc := 86) dX5_passDay_86 ?_
      refine a_laldN (pc := 88) dX5_passDay_88 rfl (by omega) (by decide) ?_
      rw [zFlow_at hσ hu hi_ c_70 (a := 3) (by decide)]
      refine a_iload_1 (pc := 89) dX5_passDay_89 ?_
      refine a_i2l (pc := 90) dX5_passDay_90 ?_
      refine a_ldiv (pc := 91) dX5_passDay_91 hne_ ?_
      refine cV_0 (ad := ad) (q0 := 6) (S2 := sX4_soil) (c_soil l G (zpk ad [6, 7, 8]) (zKd σ) (fun j => nI (zfilN (σ.2.1 2) i (zNewF σ) j)) i hi_ _) kc_X4_soil km_X5_279 ki_X4_soil kv_X4_soil kini_X4 ⟨kn_X4_soil, by decide, by decide⟩ (pc := 92) dX5_passDay_92 [6, 7, 8] rfl rfl rfl rfl (Nat.le_of_ble_eq_true rfl) rfl rfl rfl (fun _ => wP G ad (zuN σ.1 4 (σ.1 4 + 1), zu2 σ.2.1 2 (zuN (zfilN (σ.2.1 2) i (zNewF σ)) i (zSoN σ i)), σ.2.2) u) (fun _ => by show _ = _; rw [zfilN_i, hs_, updN]; rfl) (fun _u _ => ?_)
      refine a_iload_3 (pc := 95) dX5_passDay_95 ?_
      first | refine a_if_eqB (tgt := 108) (pc := 96) dX5_passDay_96 (by decide) (fun c_96 => ?_) (fun c_96 => ?_) | refine a_if_eq (tgt := 108) (pc := 96) dX5_passDay_96 (by decide) (fun c_96 => ?_) (fun c_96 => ?_)
      · refine a_iinc_4 (cst := 1) (pc := 108) dX5_passDay_108 rfl (by decide) (by decide) ?_
        refine a_goto (tgt := 54) (pc := 111) dX5_passDay_111 (by decide) ?_
        rw [← nI_succ]
        refine a_to (ih_ (q_ - 1) (by omega) (i + 1) (by omega)) rfl rfl rfl ?_
        first
          | rw [← zfilN_k (σ.2.1 2) (zNewF σ) i (by unfold zNewF; rw [if_neg c_70])]
          | rw [← zfilN_sN (σ.2.1 2) (zNewF σ) i, show zNewF σ i = zSoN σ i by unfold zNewF; rw [if_pos c_70, if_neg c_96]]
          | rw [← zfilN_sN (σ.2.1 2) (zNewF σ) i, show zNewF σ i = zSoN σ i / 2 by unfold zNewF; rw [if_pos c_70, if_pos c_96], zuN_2]
      · refine a_aload_0 (pc := 99) dX5_passDay_99 ?_
        refine a_getf (ci := 5) (j := 3) rfl win_X5 (by decide) (pc := 100) dX5_passDay_100 kf_X5_26 rfl rfl ?_
        refine a_iload_4 (pc := 103) dX5_passDay_103 ?_
        refine cV_0 (ad := ad) (q0 := 6) (S2 := sX4_wash) (c_wash l G (zpk ad [6, 7, 8]) (zKd σ) (fun j => nI (zuN (zfilN (σ.2.1 2) i (zNewF σ)) i (zSoN σ i) j)) i hi_) kc_X4_wash km_X5_283 ki_X4_wash kv_X4_wash kini_X4 ⟨kn_X4_wash, by decide, by decide⟩ (pc := 105) dX5_passDay_105 [6, 7, 8] rfl rfl rfl rfl (Nat.le_of_ble_eq_true rfl) rfl rfl rfl (fun _ => wP G ad (zuN σ.1 4 (σ.1 4 + 1), zu2 σ.2.1 2 (zuN (zuN (zfilN (σ.2.1 2) i (zNewF σ)) i (zSoN σ i)) i (zSoN σ i / 2)), σ.2.2) u) (fun _ => by show _ = _; rw [zuN_i, show (2 : Int32) = nI 2 from rfl, zI_div (by have := zSoN_le σ i; omega) (by decide) (by decide), updN]; rfl) (fun _u2 _ => ?_)
        refine a_iinc_4 (cst := 1) (pc := 108) dX5_passDay_108 rfl (by decide) (by decide) ?_
        refine a_goto (tgt := 54) (pc := 111) dX5_passDay_111 (by decide) ?_
        rw [← nI_succ]
        refine a_to (ih_ (q_ - 1) (by omega) (i + 1) (by omega)) rfl rfl rfl ?_
        first
          | rw [← zfilN_k (σ.2.1 2) (zNewF σ) i (by unfold zNewF; rw [if_neg c_70])]
          | rw [← zfilN_sN (σ.2.1 2) (zNewF σ) i, show zNewF σ i = zSoN σ i by unfold zNewF; rw [if_pos c_70, if_neg c_96]]
          | rw [← zfilN_sN (σ.2.1 2) (zNewF σ) i, show zNewF σ i = zSoN σ i / 2 by unfold zNewF; rw [if_pos c_70, if_pos c_96], zuN_2]

set_option maxRecDepth 100000 in
set_option maxHeartbeats 4000000 in
/-- passDay -/
theorem p_passDay (l : Launch) (G : zG) (ad : Nat → Nat) (σ : zσ) (hσ : zOk σ) (x0 : zX) : zSem l G sX5_passDay [.ref (ad 0)] (wP G ad σ x0) (z0 (fun _ : zX => True) (fun u => wP G ad (zDay σ) u)) := by
  refine zEnterV (L := [some (.ref (ad 0)), none, none, none, none]) (by decide) rfl (Nat.le_of_ble_eq_true rfl) rfl ?_
  refine a_aload_0 (pc := 0) dX5_passDay_0 ?_
  refine f_0 (ad := ad) (q0 := 0) (S2 := sX5_letFlow) (p_letFlow l G ad σ x0 hσ) kc_X5_letFlow km_X5_111 ki_X5_letFlow kv_X5_letFlow kini_X5 ⟨kn_X5_letFlow, by decide, by decide⟩ (pc := 1) dX5_passDay_1 (znd_of rfl znd28) rfl rfl (Nat.le_of_ble_eq_true rfl) rfl rfl rfl (fun u_ hu_ => ?_)
  refine a_aload_0 (pc := 4) dX5_passDay_4 ?_
  refine a_dup (pc := 5) dX5_passDay_5 rfl ?_
  refine a_getf (ci := 5) (j := 10) rfl win_X5 (by decide) (pc := 6) dX5_passDay_6 kf_X5_61 rfl rfl ?_
  refine a_iconst (v := 1) (pc := 9) dX5_passDay_9 (by decide) ?_
  refine a_iadd (pc := 10) dX5_passDay_10 ?_
  rw [← nI_succ]
  refine a_putf (ci := 5) (j := 10) rfl win_X5 tyX5_ok nmX5 (by decide) (pc := 11) dX5_passDay_11 kf_X5_61 rfl rfl rfl rfl rfl (Nat.le_of_ble_eq_true rfl) ?_
  refine a_iconst (v := 1) (pc := 14) dX5_passDay_14 (by decide) ?_
  refine a_aload_0 (pc := 15) dX5_passDay_15 ?_
  refine a_getf (ci := 5) (j := 0) rfl win_X5 (by decide) (pc := 16) dX5_passDay_16 kf_X5_9 rfl rfl ?_
  refine a_iconst (v := 3) (pc := 19) dX5_passDay_19 (by decide) ?_
  refine a_ialdN (k := 3) (pc := 20) dX5_passDay_20 rfl (by omega) (by decide) ?_
  refine a_maxI (pc := 21) dX5_passDay_21 km_X5_276 (by decide) (Nat.le_of_ble_eq_true rfl) ?_
  have h3_ : 1 ≤ σ.2.1 3 3 ∧ σ.2.1 3 3 ≤ 1000 := hσ.2.2.2.2.2.2.2.2.2.1 3 (by decide)
  have h4_ : 0 ≤ σ.2.1 3 4 ∧ σ.2.1 3 4 ≤ 30 := hσ.2.2.2.2.2.2.2.2.2.1 4 (by decide)
  have hd_ := hσ.2.2.2.2.1
  rw [show (if (1 : Int32) < nI (σ.2.1 3 3) then nI (σ.2.1 3 3) else 1) = nI (σ.2.1 3 3) by
    by_cases h : (1 : Int32) < nI (σ.2.1 3 3)
    · rw [if_pos h]
    · rw [if_neg h]
      have := mt (zI_lt (a := 1) (b := σ.2.1 3 3) (by decide) (by omega)).mpr h
      rw [show σ.2.1 3 3 = 1 by omega]; rfl]
  refine a_istore_1 (pc := 24) dX5_passDay_24 rfl (by decide) ?_
  refine a_aload_0 (pc := 25) dX5_passDay_25 ?_
  refine a_getf (ci := 5) (j := 0) rfl win_X5 (by decide) (pc := 26) dX5_passDay_26 kf_X5_9 rfl rfl ?_
  refine a_iconst (v := 4) (pc := 29) dX5_passDay_29 (by decide) ?_
  refine a_ialdN (k := 4) (pc := 30) dX5_passDay_30 rfl (by omega) (by decide) ?_
  refine a_istore_2 (pc := 31) dX5_passDay_31 rfl (by decide) ?_
  have J50_ : ∀ y_ : Int32, y_ = zB (zWsh σ) → AV l G sX5_passDay (wP G ad σ x0) (z0 (fun _ : zX => True) (fun u => wP G ad (zDay σ) u)) 50 [some (.ref (ad 0)), some (.int (nI (σ.2.1 3 3))), some (.int (nI (σ.2.1 3 4))), none, none] [.int y_] (wP G ad (zuN σ.1 4 (σ.1 4 + 1), σ.2) u_) := by
    intro y_ hy_; subst hy_
    refine a_istore_3 (pc := 50) dX5_passDay_50 rfl (by decide) ?_
    refine a_iconst (v := 0) (pc := 51) dX5_passDay_51 (by decide) ?_
    refine a_istore_4 (pc := 52) dX5_passDay_52 rfl (by decide) ?_
    exact a_to (lp_day l G ad σ hσ x0 u_ hu_.1 72 0 (by omega)) rfl rfl rfl (by rw [zfilN_0, zu2_self])
  refine a_iload_2 (pc := 32) dX5_passDay_32 ?_
  refine a_if_le (tgt := 49) (pc := 33) dX5_passDay_33 (by decide) (fun c_33 => ?_) (fun c_33 => ?_)
  · have h0_ : ¬ 0 < σ.2.1 3 4 := by have := (zI_le (a := σ.2.1 3 4) (b := 0) (by omega) (by decide)).mp c_33; omega
    refine a_iconst (v := 0) (pc := 49) dX5_passDay_49 (by decide) ?_
    first | exact J50_ _ (zB_1 ⟨h0_, hr_⟩).symm | exact J50_ _ (zB_0 (fun h => hr_ h.2)).symm | exact J50_ _ (zB_0 (fun h => h0_ h.1)).symm
  · have h0_ : 0 < σ.2.1 3 4 := by have := mt (zI_le (a := σ.2.1 3 4) (b := 0) (by omega) (by decide)).mpr c_33; omega
    refine a_aload_0 (pc := 36) dX5_passDay_36 ?_
    refine a_getf (ci := 5) (j := 10) rfl win_X5 (by decide) (pc := 37) dX5_passDay_37 kf_X5_61 rfl rfl ?_
    refine a_iload_2 (pc := 40) dX5_passDay_40 ?_
    refine a_irem (pc := 41) dX5_passDay_41 (fun h => absurd (zI_inj (b := 0) (by omega) (by decide) h) (by omega)) ?_
    rw [zI_rem (by omega) (by omega) (by omega)]
    first | refine a_if_neB (tgt := 49) (pc := 42) dX5_passDay_42 (by decide) (fun c_42 => ?_) (fun c_42 => ?_) | refine a_if_ne (tgt := 49) (pc := 42) dX5_passDay_42 (by decide) (fun c_42 => ?_) (fun c_42 => ?_)
    · have hr_ : ¬ (σ.1 4 + 1) % σ.2.1 3 4 = 0 := fun h => c_42 (by rw [h]; rfl)
      refine a_iconst (v := 0) (pc := 49) dX5_passDay_49 (by decide) ?_
      first | exact J50_ _ (zB_1 ⟨h0_, hr_⟩).symm | exact J50_ _ (zB_0 (fun h => hr_ h.2)).symm | exact J50_ _ (zB_0 (fun h => h0_ h.1)).symm
    · have hr_ : (σ.1 4 + 1) % σ.2.1 3 4 = 0 := zI_inj (b := 0) (by have := Nat.mod_lt (σ.1 4 + 1) h0_; omega) (by decide) c_42
      refine a_iconst (v := 1) (pc := 45) dX5_passDay_45 (by decide) ?_
      refine a_goto (tgt := 50) (pc := 46) dX5_passDay_46 (by decide) ?_
      first | exact J50_ _ (zB_1 ⟨h0_, hr_⟩).symm | exact J50_ _ (zB_0 (fun h => hr_ h.2)).symm | exact J50_ _ (zB_0 (fun h => h0_ h.1)).symm

set_option maxRecDepth 100000 in
set_option maxHeartbeats 4000000 in
theorem lp_days (l : Launch) (G : zG) (ad : Nat → Nat) (σ : zσ) (hσ : zOk σ) (x0 : zX) (n : Nat) (hn : n ≤ 60) (hd : σ.1 4 + n ≤ 1000) : ∀ (q i : Nat) (u : zX), i + q = n → AV l G sX5_days (wP G ad σ x0) (zPost G ad ((nI (σ.1 4 + n)).toInt64, zDays σ n)) 28 [some (.ref (ad 0)), some (.int (nI n)), some (.int (nI i))] [] (wP G ad (zDays σ i) u) := by
  intro q_
  induction q_ using Nat.strongRecOn
  rename_i q_ ih_
  intro i u hq_
  refine a_iload_2 (pc := 28) dX5_days_28 ?_
  refine a_iload_1 (pc := 29) dX5_days_29 ?_
  refine a_icmp_ge (tgt := 43) (pc := 30) dX5_days_30 (by decide) (fun c_30 => ?_) (fun c_30 => ?_)
  · obtain rfl : i = n := by have := (zI_le (by omega) (by omega)).mp c_30; omega
    refine a_aload_0 (pc := 43) dX5_days_43 ?_
    refine a_getf (ci := 5) (j := 10) rfl win_X5 (by decide) (pc := 44) dX5_days_44 kf_X5_61 rfl rfl ?_
    rw [zDays_4]
    refine a_i2l (pc := 47) dX5_days_47 ?_
    exact a_lret (pc := 48) dX5_days_48 rfl rfl (zret' u rfl rfl)
  · have hi_ : i < n := by have := mt (zI_le (a := n) (b := i) (by omega) (by omega)).mpr c_30; omega
    refine a_aload_0 (pc := 33) dX5_days_33 ?_
    refine f_0 (ad := ad) (q0 := 0) (S2 := sX5_passDay) (p_passDay l G ad (zDays σ i) (zDays_ok hσ i (by omega)) u) kc_X5_passDay km_X5_164 ki_X5_passDay kv_X5_passDay kini_X5 ⟨kn_X5_passDay, by decide, by decide⟩ (pc := 34) dX5_days_34 (znd_of rfl znd28) rfl rfl (Nat.le_of_ble_eq_true rfl) rfl rfl rfl (fun u2_ _ => ?_)
    refine a_iinc_2 (cst := 1) (pc := 37) dX5_days_37 rfl (by decide) (by decide) ?_
    refine a_goto (tgt := 28) (pc := 40) dX5_days_40 (by decide) ?_
    rw [← nI_succ]
    exact ih_ (q_ - 1) (by omega) (i + 1) u2_ (by omega)

set_option maxRecDepth 100000 in
set_option maxHeartbeats 4000000 in
theorem p_days (l : Launch) (G : zG) (ad : Nat → Nat) (σ : zσ) (x0 : zX) (hσ : zOk σ) (n : Int32) : zSem l G sX5_days [.ref (ad 0), .int n] (wP G ad σ x0) (zPost G ad (o_days σ n)) := by
  refine zEnterV (L := [some (.ref (ad 0)), some (.int n), none]) (by decide) rfl (Nat.le_of_ble_eq_true rfl) rfl ?_
  refine a_iload_1 (pc := 0) dX5_days_0 ?_
  refine a_iconst (v := 1) (pc := 1) dX5_days_1 (by decide) ?_
  refine a_bipush (v := 60) (pc := 2) dX5_days_2 (by decide) ?_
  refine cS_P (S2 := sX5_outside) (c_outside l G _ _ _) kc_X5_outside km_X5_64 ks_X5_outside kini_X5 ⟨kn_X5_outside, by decide, by decide⟩ (pc := 4) dX5_days_4 [] rfl rfl rfl rfl (Nat.le_of_ble_eq_true rfl) ?_
  first | refine a_if_neB (tgt := 22) (pc := 7) dX5_days_7 (by decide) (fun c_7 => ?_) (fun c_7 => ?_) | refine a_if_ne (tgt := 22) (pc := 7) dX5_days_7 (by decide) (fun c_7 => ?_) (fun c_7 => ?_)
  · refine a_ldc2 (pc := 22) dX5_days_22 kl_X5_68 ?_
    exact a_lret (pc := 25) dX5_days_25 rfl rfl (by first | exact zret' x0 (if_pos (Or.inl c_7)) rfl | exact zret' x0 (if_pos (Or.inr c_19)) rfl)
  · refine a_aload_0 (pc := 10) dX5_days_10 ?_
    refine a_getf (ci := 5) (j := 10) rfl win_X5 (by decide) (pc := 11) dX5_days_11 kf_X5_61 rfl rfl ?_
    refine a_iload_1 (pc := 14) dX5_days_14 ?_
    refine a_iadd (pc := 15) dX5_days_15 ?_
    refine a_sipush (v := 1000) (pc := 16) dX5_days_16 (by decide) ?_
    refine a_icmp_le (tgt := 26) (pc := 19) dX5_days_19 (by decide) (fun c_19 => ?_) (fun c_19 => ?_)
    · obtain ⟨k, hk_, rfl⟩ := zrange1 (n := 60) (by decide) rfl c_7
      have hd_ := hσ.2.2.2.2.1
      have hle_ : σ.1 4 + k ≤ 1000 := by
        rw [← zI_add] at c_19
        exact (zI_le (b := 1000) (by omega) (by decide)).mp c_19
      refine a_iconst (v := 0) (pc := 26) dX5_days_26 (by decide) ?_
      refine a_istore_2 (pc := 27) dX5_days_27 rfl (by decide) ?_
      have e_ : o_days σ (nI k) = ((nI (σ.1 4 + k)).toInt64, zDays σ k) := by
        unfold o_days
        rw [if_neg (fun h => h.elim c_7 (fun h => h c_19)), nI_clamp (by omega)]
      rw [e_]
      exact lp_days l G ad σ hσ x0 k hk_.2 hle_ k 0 x0 (by omega)
    · refine a_ldc2 (pc := 22) dX5_days_22 kl_X5_68 ?_
      exact a_lret (pc := 25) dX5_days_25 rfl rfl (by first | exact zret' x0 (if_pos (Or.inl c_7)) rfl | exact zret' x0 (if_pos (Or.inr c_19)) rfl)


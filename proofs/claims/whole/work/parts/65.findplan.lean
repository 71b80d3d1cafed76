/-! The model: findPlan, plan, runs, tank. -/
def zKr (σ : zσ) (K : Nat → Int32) (r : Nat) : Prop := ∀ r2, r2 ≤ r → ∀ z, z ≤ σ.2.1 3 5 → K (201 * (12 - r2) + z) = zCi (zCσ σ r2 z)
theorem zOm0 (A : Option Nat) : A.map (· + 0) = A := by cases A <;> rfl
theorem zCi_neg {A : Option Nat} (hA : ∀ n, A = some n → n < 2 ^ 31) (h : zCi A < 0) : A = none := by
  cases A with
  | none => rfl
  | some n => exact absurd h (nI_pos (hA n rfl))
theorem zCi_pos {A : Option Nat} (h : ¬ zCi A < 0) : ∃ n, A = some n := by
  cases A with
  | none => exact absurd (show (-1 : Int32) < 0 by decide) h
  | some n => exact ⟨n, rfl⟩
theorem zCi_inj {A B : Option Nat} (hA : ∀ n, A = some n → n < 2 ^ 31) (hB : ∀ n, B = some n → n < 2 ^ 31) (h : zCi A = zCi B) : A = B := by
  cases A with
  | none =>
    cases B with
    | none => rfl
    | some n => exact absurd (show nI n < 0 by rw [show nI n = -1 from h.symm]; decide) (nI_pos (hB n rfl))
  | some m =>
    cases B with
    | none => exact absurd (show nI m < 0 by rw [show nI m = -1 from h]; decide) (nI_pos (hA m rfl))
    | some n => rw [zI_inj (hA m rfl) (hB n rfl) h]
theorem zCm_1 {A B : Option Nat} (h : A = none) : zCi B = zCi (zCm A B) := by rw [h]; rfl
theorem zCm_2 {A B : Option Nat} (h : ∃ n, A = some n) (h2 : B = none) : zCi A = zCi (zCm A B) := by
  obtain ⟨n, rfl⟩ := h
  rw [h2]; rfl
theorem zCm_3 {A B : Option Nat} (hA : ∀ n, A = some n → n < 2 ^ 31) (hB : ∀ n, B = some n → n < 2 ^ 31) (h : ∃ n, A = some n) (h2 : ∃ n, B = some n) (h3 : zCi A ≤ zCi B) : zCi A = zCi (zCm A B) := by
  obtain ⟨n, rfl⟩ := h
  obtain ⟨m, rfl⟩ := h2
  have := (zI_le (hA n rfl) (hB m rfl)).mp h3
  show _ = zCi (if m < n then some m else some n)
  rw [if_neg (by omega)]
theorem zCm_4 {A B : Option Nat} (hA : ∀ n, A = some n → n < 2 ^ 31) (hB : ∀ n, B = some n → n < 2 ^ 31) (h : ∃ n, A = some n) (h2 : ∃ n, B = some n) (h3 : ¬ zCi A ≤ zCi B) : zCi B = zCi (zCm A B) := by
  obtain ⟨n, rfl⟩ := h
  obtain ⟨m, rfl⟩ := h2
  have := mt (zI_le (hA n rfl) (hB m rfl)).mpr h3
  show _ = zCi (if m < n then some m else some n)
  rw [if_pos (by omega)]
theorem zCf_b {σ : zσ} (hσ : zOk σ) {r : Nat} (hr : r ≤ 12) (nd x e : Nat) (he : e ≤ 99) : ∀ n, (zCf (zCσ σ r) (σ.2.1 3 5) nd x).map (· + e) = some n → n < 2 ^ 31 := by
  intro n h
  unfold zCf at h
  by_cases hx : x < nd
  · rw [if_pos hx] at h; cases h
  · rw [if_neg hx] at h
    cases hv : zCσ σ r (min (σ.2.1 3 5) (x - nd)) with
    | none => rw [hv] at h; cases h
    | some m =>
      rw [hv] at h
      have h1 := zC_le hσ.2.2.2.2.2.2.2.2.2.2.1 (σ.2.1 3 5) (σ.2.1 3 6) hr hv
      have h2 : m + e = n := Option.some.inj h
      omega
set_option maxRecDepth 100000 in
set_option maxHeartbeats 4000000 in
theorem lm_planI (l : Launch) (G : zG) (ad : Nat → Nat) (σ : zσ) (hσ : zOk σ) (x0 : zY) (r : Nat) (hr : r < 12) (K_ : ∀ K : Nat → Int32, zKr σ K (r + 1) → AV l G sX6_findPlan (wM G ad σ x0) (z0 (fun K : Nat → Int32 => zKr σ K 12) (fun K => wM G ad σ (x0.1, x0.2.1, x0.2.2.1, x0.2.2.2.1, K, x0.2.2.2.2.2))) 101 [some (.ref (ad 0)), some (.int (nI (11 - r))), none, none, none] [] (wM G ad σ (x0.1, x0.2.1, x0.2.2.1, x0.2.2.2.1, K, x0.2.2.2.2.2))) : ∀ (q i : Nat) (K : Nat → Int32), i + q = σ.2.1 3 5 + 1 → zKr σ K r → (∀ z, z < i → K (201 * (11 - r) + z) = zCi (zCσ σ (r + 1) z)) → AV l G sX6_findPlan (wM G ad σ x0) (z0 (fun K : Nat → Int32 => zKr σ K 12) (fun K => wM G ad σ (x0.1, x0.2.1, x0.2.2.1, x0.2.2.2.1, K, x0.2.2.2.2.2))) 35 [some (.ref (ad 0)), some (.int (nI (11 - r))), some (.int (nI i)), none, none] [] (wM G ad σ (x0.1, x0.2.1, x0.2.2.1, x0.2.2.2.1, K, x0.2.2.2.2.2)) := by
  have h5_ := zT5_le hσ
  intro q_
  induction q_ using Nat.strongRecOn
  rename_i q_ ih_
  intro i K hq_ hr_ hz_
  refine a_iload_2 (pc := 35) dX6_findPlan_35 ?_
  refine a_aload_0 (pc := 36) dX6_findPlan_36 ?_
  refine a_getf (ci := 6) (j := 7) rfl win_X6 (by decide) (pc := 37) dX6_findPlan_37 kf_X6_32 rfl rfl ?_
  refine a_iconst (v := 5) (pc := 40) dX6_findPlan_40 (by decide) ?_
  refine a_ialdN (k := 5) (pc := 41) dX6_findPlan_41 rfl (by omega) (by decide) ?_
  refine a_icmp_gt (tgt := 101) (pc := 42) dX6_findPlan_42 (by decide) (fun c_42 => ?_) (fun c_42 => ?_)
  · have hi_ : σ.2.1 3 5 < i := (zI_lt (by omega) (by omega)).mp c_42
    exact a_forget_2 (K_ K (fun r2 hr2 z hz => by
      by_cases h : r2 = r + 1
      · subst h; rw [show 12 - (r + 1) = 11 - r by omega]; exact hz_ z (by omega)
      · exact hr_ r2 (by omega) z hz))
  · have hi_ : i ≤ σ.2.1 3 5 := by have := mt (zI_lt (a := σ.2.1 3 5) (b := i) (by omega) (by omega)).mpr c_42; omega
    have hA_ := zCf_b hσ (show r ≤ 12 by omega) (σ.2.1 5 (11 - r)) i 0 (by omega)
    have hB_ := zCf_b hσ (show r ≤ 12 by omega) (σ.2.1 5 (11 - r)) (i + σ.2.1 3 6) (σ.2.1 4 (11 - r)) (hσ.2.2.2.2.2.2.2.2.2.2.1 (11 - r) (by omega))
    refine a_aload_0 (pc := 45) dX6_findPlan_45 ?_
    refine a_iload_1 (pc := 46) dX6_findPlan_46 ?_
    refine a_iload_2 (pc := 47) dX6_findPlan_47 ?_
    refine a_iconst (v := 0) (pc := 48) dX6_findPlan_48 (by decide) ?_
    refine f_P (ad := ad) (q0 := 0) (S2 := sX6_costFrom) (m_costFrom l G ad σ hσ (x0.1, x0.2.1, x0.2.2.1, x0.2.2.2.1, K, x0.2.2.2.2.2) (11 - r) r i i 0 0 (by omega) (by omega) (by omega) (Or.inl ⟨rfl, rfl, rfl⟩) (fun z hz => by have := hr_ r (Nat.le_refl _) z hz; rw [show 12 - r = 11 - r + 1 by omega] at this; exact this)) kc_X6_costFrom km_X6_181 ki_X6_costFrom kv_X6_costFrom kini_X6 ⟨kn_X6_costFrom, by decide, by decide⟩ (pc := 49) dX6_findPlan_49 (znd_of rfl znd18) rfl rfl (Nat.le_of_ble_eq_true rfl) rfl rfl rfl ?_
    refine a_istore_3 (pc := 52) dX6_findPlan_52 rfl (by decide) ?_
    refine a_aload_0 (pc := 53) dX6_findPlan_53 ?_
    refine a_iload_1 (pc := 54) dX6_findPlan_54 ?_
    refine a_iload_2 (pc := 55) dX6_findPlan_55 ?_
    refine a_iconst (v := 1) (pc := 56) dX6_findPlan_56 (by decide) ?_
    refine f_P (ad := ad) (q0 := 0) (S2 := sX6_costFrom) (m_costFrom l G ad σ hσ (x0.1, x0.2.1, x0.2.2.1, x0.2.2.2.1, K, x0.2.2.2.2.2) (11 - r) r i (i + σ.2.1 3 6) (σ.2.1 4 (11 - r)) 1 (by omega) (by omega) (by omega) (Or.inr ⟨by decide, rfl, rfl⟩) (fun z hz => by have := hr_ r (Nat.le_refl _) z hz; rw [show 12 - r = 11 - r + 1 by omega] at this; exact this)) kc_X6_costFrom km_X6_181 ki_X6_costFrom kv_X6_costFrom kini_X6 ⟨kn_X6_costFrom, by decide, by decide⟩ (pc := 57) dX6_findPlan_57 (znd_of rfl znd18) rfl rfl (Nat.le_of_ble_eq_true rfl) rfl rfl rfl ?_
    refine a_istore_4 (pc := 60) dX6_findPlan_60 rfl (by decide) ?_
    refine a_aload_0 (pc := 62) dX6_findPlan_62 ?_
    refine a_getf (ci := 6) (j := 24) rfl win_X6 (by decide) (pc := 63) dX6_findPlan_63 kf_X6_66 rfl rfl ?_
    refine a_sipush (v := 201) (pc := 66) dX6_findPlan_66 (by decide) ?_
    refine a_iload_1 (pc := 69) dX6_findPlan_69 ?_
    refine a_imul (pc := 70) dX6_findPlan_70 ?_
    refine a_iload_2 (pc := 71) dX6_findPlan_71 ?_
    refine a_iadd (pc := 72) dX6_findPlan_72 ?_
    have J94_ : ∀ y_ : Int32, y_ = zCi (zCm ((zCf (zCσ σ r) (σ.2.1 3 5) (σ.2.1 5 (11 - r)) i).map (· + 0)) ((zCf (zCσ σ r) (σ.2.1 3 5) (σ.2.1 5 (11 - r)) (i + σ.2.1 3 6)).map (· + σ.2.1 4 (11 - r)))) → AV l G sX6_findPlan (wM G ad σ x0) (z0 (fun K : Nat → Int32 => zKr σ K 12) (fun K => wM G ad σ (x0.1, x0.2.1, x0.2.2.1, x0.2.2.2.1, K, x0.2.2.2.2.2))) 94 [some (.ref (ad 0)), some (.int (nI (11 - r))), some (.int (nI i)), some (.int (zCi ((zCf (zCσ σ r) (σ.2.1 3 5) (σ.2.1 5 (11 - r)) i).map (· + 0)))), some (.int (zCi ((zCf (zCσ σ r) (σ.2.1 3 5) (σ.2.1 5 (11 - r)) (i + σ.2.1 3 6)).map (· + σ.2.1 4 (11 - r)))))] [.int y_, .int (nI (201 * (11 - r) + i)), .ref (ad 15)] (wM G ad σ (x0.1, x0.2.1, x0.2.2.1, x0.2.2.2.1, K, x0.2.2.2.2.2)) := by
      intro y_ hy_; subst hy_
      refine a_iastN (pc := 94) dX6_findPlan_94 rfl (show 201 * (11 - r) + i < 2613 by omega) (by decide) ?_
      refine a_iinc_2 (cst := 1) (pc := 95) dX6_findPlan_95 rfl (by decide) (by decide) ?_
      refine a_goto (tgt := 35) (pc := 98) dX6_findPlan_98 (by decide) ?_
      rw [← nI_succ]
      refine a_forget_3 (a_forget_4 ?_)
      exact ih_ (q_ - 1) (by omega) (i + 1) (upd K (201 * (11 - r) + i) (zCi (zCm ((zCf (zCσ σ r) (σ.2.1 3 5) (σ.2.1 5 (11 - r)) i).map (· + 0)) ((zCf (zCσ σ r) (σ.2.1 3 5) (σ.2.1 5 (11 - r)) (i + σ.2.1 3 6)).map (· + σ.2.1 4 (11 - r)))))) (by omega) (fun r2 hr2 z hz => by rw [upd_ne _ _ (by omega)]; exact hr_ r2 hr2 z hz) (fun z hz => by
        by_cases h : z = i
        · subst h; rw [upd_same, zOm0]; rfl
        · rw [upd_ne _ _ (by omega)]; exact hz_ z (by omega))
    rw [show (201 : Int32) = nI 201 from rfl, ← zI_mul, ← zI_add]
    refine a_iload_3 (pc := 73) dX6_findPlan_73 ?_
    refine a_if_lt (tgt := 88) (pc := 74) dX6_findPlan_74 (by decide) (fun c_74 => ?_) (fun c_74 => ?_)
    · have e94_ := zCm_1 (B := ((zCf (zCσ σ r) (σ.2.1 3 5) (σ.2.1 5 (11 - r)) (i + σ.2.1 3 6)).map (· + σ.2.1 4 (11 - r)))) (zCi_neg hA_ c_74)
      refine a_iload_4 (pc := 88) dX6_findPlan_88 ?_
      refine a_goto (tgt := 94) (pc := 90) dX6_findPlan_90 (by decide) ?_
      exact J94_ _ e94_
    · have pa_ := zCi_pos c_74
      refine a_iload_4 (pc := 77) dX6_findPlan_77 ?_
      refine a_if_lt (tgt := 93) (pc := 79) dX6_findPlan_79 (by decide) (fun c_79 => ?_) (fun c_79 => ?_)
      · have e94_ := zCm_2 pa_ (zCi_neg hB_ c_79)
        refine a_iload_3 (pc := 93) dX6_findPlan_93 ?_
        exact J94_ _ e94_
      · have pb_ := zCi_pos c_79
        refine a_iload_4 (pc := 82) dX6_findPlan_82 ?_
        refine a_iload_3 (pc := 84) dX6_findPlan_84 ?_
        refine a_icmp_ge (tgt := 93) (pc := 85) dX6_findPlan_85 (by decide) (fun c_85 => ?_) (fun c_85 => ?_)
        · have e94_ := zCm_3 hA_ hB_ pa_ pb_ c_85
          refine a_iload_3 (pc := 93) dX6_findPlan_93 ?_
          exact J94_ _ e94_
        · have e94_ := zCm_4 hA_ hB_ pa_ pb_ c_85
          refine a_iload_4 (pc := 88) dX6_findPlan_88 ?_
          refine a_goto (tgt := 94) (pc := 90) dX6_findPlan_90 (by decide) ?_
          exact J94_ _ e94_

set_option maxRecDepth 100000 in
set_option maxHeartbeats 4000000 in
theorem lm_planO (l : Launch) (G : zG) (ad : Nat → Nat) (σ : zσ) (hσ : zOk σ) (x0 : zY) : ∀ (q r : Nat) (K : Nat → Int32), r + q = 12 → zKr σ K r → AV l G sX6_findPlan (wM G ad σ x0) (z0 (fun K : Nat → Int32 => zKr σ K 12) (fun K => wM G ad σ (x0.1, x0.2.1, x0.2.2.1, x0.2.2.2.1, K, x0.2.2.2.2.2))) 29 [some (.ref (ad 0)), some (.int (nI (12 - r) - 1)), none, none, none] [] (wM G ad σ (x0.1, x0.2.1, x0.2.2.1, x0.2.2.2.1, K, x0.2.2.2.2.2)) := by
  intro q_
  induction q_ using Nat.strongRecOn
  rename_i q_ ih_
  intro r K hq_ hk_
  refine a_iload_1 (pc := 29) dX6_findPlan_29 ?_
  refine a_if_lt (tgt := 107) (pc := 30) dX6_findPlan_30 (by decide) (fun c_30 => ?_) (fun c_30 => ?_)
  · obtain rfl : r = 12 := by
      apply Decidable.byContradiction; intro hne_
      have e_ : nI (12 - r) - 1 = nI (11 - r) := by rw [show 12 - r = (11 - r) + 1 by omega]; exact nI_pred _
      rw [e_] at c_30
      exact nI_pos (by omega) c_30
    exact a_vret (pc := 107) dX6_findPlan_107 rfl rfl ⟨K, hk_, rfl, rfl⟩
  · have hr_ : r < 12 := by
      apply Decidable.byContradiction; intro hne_
      obtain rfl : r = 12 := by omega
      exact c_30 (by decide)
    have e_ : nI (12 - r) - 1 = nI (11 - r) := by rw [show 12 - r = (11 - r) + 1 by omega]; exact nI_pred _
    rw [e_]
    refine a_iconst (v := 0) (pc := 33) dX6_findPlan_33 (by decide) ?_
    refine a_istore_2 (pc := 34) dX6_findPlan_34 rfl (by decide) ?_
    refine lm_planI l G ad σ hσ x0 r hr_ (fun K2_ hK2_ => ?_) (σ.2.1 3 5 + 1) 0 K (by omega) hk_ (fun z hz => absurd hz (Nat.not_lt_zero z))
    refine a_iinc_1 (cst := -1) (pc := 101) dX6_findPlan_101 rfl (by decide) (by decide) ?_
    refine a_goto (tgt := 29) (pc := 104) dX6_findPlan_104 (by decide) ?_
    refine a_to (ih_ (q_ - 1) (by omega) (r + 1) K2_ (by omega) hK2_) rfl ?_ rfl rfl
    rw [show 12 - (r + 1) = 11 - r by omega, Int32.sub_eq_add_neg]

set_option maxRecDepth 100000 in
set_option maxHeartbeats 4000000 in
theorem lm_plan0 (l : Launch) (G : zG) (ad : Nat → Nat) (σ : zσ) (hσ : zOk σ) (x0 : zY) : ∀ (q i : Nat) (K : Nat → Int32), i + q = 201 → (∀ z, z < i → K (2412 + z) = 0) → AV l G sX6_findPlan (wM G ad σ x0) (z0 (fun K : Nat → Int32 => zKr σ K 12) (fun K => wM G ad σ (x0.1, x0.2.1, x0.2.2.1, x0.2.2.2.1, K, x0.2.2.2.2.2))) 2 [some (.ref (ad 0)), some (.int (nI i)), none, none, none] [] (wM G ad σ (x0.1, x0.2.1, x0.2.2.1, x0.2.2.2.1, K, x0.2.2.2.2.2)) := by
  intro q_
  induction q_ using Nat.strongRecOn
  rename_i q_ ih_
  intro i K hq_ hz_
  refine a_iload_1 (pc := 2) dX6_findPlan_2 ?_
  refine a_sipush (v := 200) (pc := 3) dX6_findPlan_3 (by decide) ?_
  refine a_icmp_gt (tgt := 26) (pc := 6) dX6_findPlan_6 (by decide) (fun c_6 => ?_) (fun c_6 => ?_)
  · have hi_ : 200 < i := (zI_lt (a := 200) (by decide) (by omega)).mp c_6
    refine a_bipush (v := 11) (pc := 26) dX6_findPlan_26 (by decide) ?_
    refine a_istore_1 (pc := 28) dX6_findPlan_28 rfl (by decide) ?_
    exact a_to (lm_planO l G ad σ hσ x0 12 0 K (by omega) (fun r2 hr2 z hz => by
      have e_ : r2 = 0 := by omega
      subst e_
      exact hz_ z (by have := zT5_le hσ; omega))) rfl rfl rfl rfl
  · have hi_ : i ≤ 200 := by have := mt (zI_lt (a := 200) (b := i) (by decide) (by omega)).mpr c_6; omega
    refine a_aload_0 (pc := 9) dX6_findPlan_9 ?_
    refine a_getf (ci := 6) (j := 24) rfl win_X6 (by decide) (pc := 10) dX6_findPlan_10 kf_X6_66 rfl rfl ?_
    refine a_sipush (v := 2412) (pc := 13) dX6_findPlan_13 (by decide) ?_
    refine a_iload_1 (pc := 16) dX6_findPlan_16 ?_
    refine a_iadd (pc := 17) dX6_findPlan_17 ?_
    rw [show (2412 : Int32) = nI 2412 by decide +kernel, ← zI_add]
    refine a_iconst (v := 0) (pc := 18) dX6_findPlan_18 (by decide) ?_
    refine a_iastN (pc := 19) dX6_findPlan_19 rfl (show 2412 + i < 2613 by omega) (by decide) ?_
    refine a_iinc_1 (cst := 1) (pc := 20) dX6_findPlan_20 rfl (by decide) (by decide) ?_
    refine a_goto (tgt := 2) (pc := 23) dX6_findPlan_23 (by decide) ?_
    rw [← nI_succ]
    exact ih_ (q_ - 1) (by omega) (i + 1) (upd K (2412 + i) 0) (by omega) (fun z hz => by by_cases h : z = i; (subst h; exact upd_same _ _ _); rw [upd_ne _ _ (by omega)]; exact hz_ z (by omega))

set_option maxRecDepth 100000 in
set_option maxHeartbeats 4000000 in
/-- findPlan -/
theorem m_findPlan (l : Launch) (G : zG) (ad : Nat → Nat) (σ : zσ) (hσ : zOk σ) (x0 : zY) : zSem l G sX6_findPlan [.ref (ad 0)] (wM G ad σ x0) (z0 (fun K : Nat → Int32 => zKr σ K 12) (fun K => wM G ad σ (x0.1, x0.2.1, x0.2.2.1, x0.2.2.2.1, K, x0.2.2.2.2.2))) := by
  refine zEnterV (L := [some (.ref (ad 0)), none, none, none, none]) (by decide) rfl (Nat.le_of_ble_eq_true rfl) rfl ?_
  refine a_iconst (v := 0) (pc := 0) dX6_findPlan_0 (by decide) ?_
  refine a_istore_1 (pc := 1) dX6_findPlan_1 rfl (by decide) ?_
  exact lm_plan0 l G ad σ hσ x0 201 0 x0.2.2.2.2.1 (by omega) (fun z hz => absurd hz (Nat.not_lt_zero z))

set_option maxRecDepth 100000 in
set_option maxHeartbeats 4000000 in
/-- isContent -/
theorem m_isContent (l : Launch) (G : zG) (ad : Nat → Nat) (σ : zσ) (x0 : zY) (x : Int32) : zSem l G sX6_isContent [.ref (ad 0), .int x] (wM G ad σ x0) (zP (.int (zB (¬ zOR x 0 (nI (σ.2.1 3 5))))) (wM G ad σ x0)) := by
  refine zEnterV (L := [some (.ref (ad 0)), some (.int x)]) (by decide) rfl (Nat.le_of_ble_eq_true rfl) rfl ?_
  refine a_iload_1 (pc := 0) dX6_isContent_0 ?_
  refine a_iconst (v := 0) (pc := 1) dX6_isContent_1 (by decide) ?_
  refine a_aload_0 (pc := 2) dX6_isContent_2 ?_
  refine a_getf (ci := 6) (j := 7) rfl win_X6 (by decide) (pc := 3) dX6_isContent_3 kf_X6_32 rfl rfl ?_
  refine a_iconst (v := 5) (pc := 6) dX6_isContent_6 (by decide) ?_
  refine a_ialdN (k := 5) (pc := 7) dX6_isContent_7 rfl (by omega) (by decide) ?_
  refine cS_P (S2 := sX6_isIn) (m_isIn l G _ _ _) kc_X6_isIn km_X6_75 ks_X6_isIn kini_X6 ⟨kn_X6_isIn, by decide, by decide⟩ (pc := 8) dX6_isContent_8 [] rfl rfl rfl rfl (Nat.le_of_ble_eq_true rfl) ?_
  exact a_zret (pc := 11) dX6_isContent_11 rfl (zB_or _) rfl ⟨rfl, rfl⟩


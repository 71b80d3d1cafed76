/-! The model: plan, runs, tank. -/
theorem zKr_0 {σ : zσ} {K : Nat → Int32} (h : zKr σ K 12) {k : Nat} (hk : k ≤ σ.2.1 3 5) : K k = zCi (zCσ σ 12 k) := by
  have := h 12 (Nat.le_refl _) k hk
  rw [show 201 * (12 - 12) + k = k by omega] at this
  exact this
theorem zPl_no12 {σ : zσ} (hσ : zOk σ) {k : Nat} (h : zCσ σ 12 k = none) : ¬ zIsP σ k := by
  rcases zTie_s (nd := σ.2.1 5) hσ.2.2.2.2.2.2.2.2.2.2.1 (σ.2.1 3 5) (σ.2.1 3 6) 12 (Nat.le_refl _) k with ⟨-, q⟩ | ⟨k2, b, q, -⟩
  · intro h2
    refine h2 ?_
    show (1073741824 : Int32) ≤ nI (zN (σ.2.1 4) (σ.2.1 5) (σ.2.1 3 5) (σ.2.1 3 6) 12 k)
    rw [q]
    decide +kernel
  · rw [show zC (σ.2.1 4) (σ.2.1 5) (σ.2.1 3 5) (σ.2.1 3 6) 12 k = none from h] at q; cases q
theorem zPl_yes12 {σ : zσ} (hσ : zOk σ) {k n : Nat} (h : zCσ σ 12 k = some n) : zIsP σ k ∧ n ≤ 1200 ∧ zNσ σ k < 2 ^ 30 ∧ zNσ σ k / 4096 = n := by
  rcases zTie_s (nd := σ.2.1 5) hσ.2.2.2.2.2.2.2.2.2.2.1 (σ.2.1 3 5) (σ.2.1 3 6) 12 (Nat.le_refl _) k with ⟨q, -⟩ | ⟨k2, b, q, q2, q3, q4⟩
  · rw [show zC (σ.2.1 4) (σ.2.1 5) (σ.2.1 3 5) (σ.2.1 3 6) 12 k = some n from h] at q; cases q
  · rw [show zC (σ.2.1 4) (σ.2.1 5) (σ.2.1 3 5) (σ.2.1 3 6) 12 k = some n from h] at q
    obtain rfl := Option.some.inj q
    have e : zNσ σ k = n * 4096 + b := q2
    have hb : b < 4096 := q3
    refine ⟨fun h2 => ?_, by omega, by omega, by omega⟩
    have h3 := (zI_le (a := 1073741824) (b := zNσ σ k) (by decide) (by omega)).mp h2
    omega
theorem zbit0 {r X k b : Nat} (hr : r < 12) (hb : b < 2 ^ r) (h : X % 2 ^ (r + 1) = (k * 4096 + b) % 2 ^ (r + 1)) : X / 2 ^ r % 2 = 0 ∧ X % 2 ^ r = b := by
  rcases (show r = 0 ∨ r = 1 ∨ r = 2 ∨ r = 3 ∨ r = 4 ∨ r = 5 ∨ r = 6 ∨ r = 7 ∨ r = 8 ∨ r = 9 ∨ r = 10 ∨ r = 11 by omega) with rfl | rfl | rfl | rfl | rfl | rfl | rfl | rfl | rfl | rfl | rfl | rfl <;>
  · simp only [Nat.reduceAdd, Nat.reducePow] at *
    omega
/-- the choice of an hour, and the bit of the plan's number -/
theorem zGo {σ : zσ} (hσ : zOk σ) {X i c : Nat} (hX : X < 2 ^ 31) (hi : i < 12) (hc : zCσ σ (12 - i) c ≠ none) (hm : X % 2 ^ (12 - i) = zN (σ.2.1 4) (σ.2.1 5) (σ.2.1 3 5) (σ.2.1 3 6) (12 - i) c % 2 ^ (12 - i)) :
    (zCi ((zCf (zCσ σ (11 - i)) (σ.2.1 3 5) (σ.2.1 5 i) c).map (· + 0)) = zCi (zCσ σ (12 - i) c) ∧ ¬ zRunsAt (nI X) (nI i) ∧ σ.2.1 5 i ≤ c ∧ zCσ σ (11 - i) (min (σ.2.1 3 5) (c - σ.2.1 5 i)) ≠ none ∧ X % 2 ^ (11 - i) = zN (σ.2.1 4) (σ.2.1 5) (σ.2.1 3 5) (σ.2.1 3 6) (11 - i) (min (σ.2.1 3 5) (c - σ.2.1 5 i)) % 2 ^ (11 - i)) ∨
    (¬ zCi ((zCf (zCσ σ (11 - i)) (σ.2.1 3 5) (σ.2.1 5 i) c).map (· + 0)) = zCi (zCσ σ (12 - i) c) ∧ zRunsAt (nI X) (nI i) ∧ σ.2.1 5 i ≤ c + σ.2.1 3 6 ∧ zCσ σ (11 - i) (min (σ.2.1 3 5) (c + σ.2.1 3 6 - σ.2.1 5 i)) ≠ none ∧ X % 2 ^ (11 - i) = zN (σ.2.1 4) (σ.2.1 5) (σ.2.1 3 5) (σ.2.1 3 6) (11 - i) (min (σ.2.1 3 5) (c + σ.2.1 3 6 - σ.2.1 5 i)) % 2 ^ (11 - i)) := by
  have hpr := hσ.2.2.2.2.2.2.2.2.2.2.1
  obtain ⟨r, hr, e1, e2, e3⟩ : ∃ r, r < 12 ∧ 12 - i = r + 1 ∧ 11 - i = r ∧ i = 11 - r := ⟨11 - i, by omega, by omega, rfl, by omega⟩
  have hrn := zRunsAt_N hX i hi
  rw [e2] at hrn
  rw [e1] at hc hm
  rw [e1, e2, zOm0]
  have hb0 := zCf_b hσ (show r ≤ 12 by omega) (σ.2.1 5 i) c 0 (by omega)
  rw [zOm0] at hb0
  have hb1 : ∀ n, zCσ σ (r + 1) c = some n → n < 2 ^ 31 := fun n h => by have := zC_le hpr (σ.2.1 3 5) (σ.2.1 3 6) (show r + 1 ≤ 12 by omega) h; omega
  have key := zC_step (nd := σ.2.1 5) hpr (σ.2.1 3 5) (σ.2.1 3 6) hr hc
  rw [← e3] at key
  rcases key with ⟨k1, k2, k3, k4⟩ | ⟨k1, k2, k3, k4⟩
  · refine Or.inl ⟨congrArg zCi k1, ?_, k2, k3, ?_⟩
    all_goals
      rcases zTie_s (nd := σ.2.1 5) hpr (σ.2.1 3 5) (σ.2.1 3 6) r (by omega) (min (σ.2.1 3 5) (c - σ.2.1 5 i)) with ⟨q, -⟩ | ⟨k, b, q, q2, q3, q4⟩
      · exact absurd q k3
      · rw [k4, q2] at hm
        have hz := zbit0 (X := X) (k := k) (b := b) hr q3 hm
        first
        | (rw [hrn, hz.1]; decide)
        | (rw [hz.2, q2]
           obtain ⟨hz1, hz2⟩ := zbit0 (X := k * 4096 + b) (k := k) (b := b) hr q3 rfl
           exact hz2.symm)
  · refine Or.inr ⟨fun h => k1 (zCi_inj hb0 hb1 h), ?_, k2, k3, ?_⟩
    all_goals
      rcases zTie_s (nd := σ.2.1 5) hpr (σ.2.1 3 5) (σ.2.1 3 6) r (by omega) (min (σ.2.1 3 5) (c + σ.2.1 3 6 - σ.2.1 5 i)) with ⟨q, -⟩ | ⟨k, b, q, q2, q3, q4⟩
      · exact absurd q k3
      · rw [k4, q2] at hm
        have eX : k * 4096 + b + (σ.2.1 4 i * 4096 + 2 ^ r) = (k + σ.2.1 4 i) * 4096 + b + 1 * 2 ^ r := by rw [Nat.add_mul, Nat.one_mul]; omega
        have hz := zbit (X := X) (k := k + σ.2.1 4 i) (b := b) (e := 1) hr q3 (Or.inr rfl) (by rw [hm, eX])
        first
        | exact hrn.mpr hz.1
        | (rw [hz.2, q2]
           obtain ⟨hz1, hz2⟩ := zbit0 (X := k * 4096 + b) (k := k) (b := b) hr q3 rfl
           exact hz2.symm)
theorem zBh_N {t nd x : Nat} (ht : t ≤ 200) (hnd : nd ≤ 999) (hx : x ≤ 400) (h : nd ≤ x) : zBh (nI nd) (nI x) (nI t) = nI (min t (x - nd)) := by
  have e1 : (nI x - nI nd).toInt = (x : Int) - nd := by
    rw [i_sub (by rw [nI_toInt (by omega), nI_toInt (by omega)]; omega) (by rw [nI_toInt (by omega), nI_toInt (by omega)]; omega), nI_toInt (by omega), nI_toInt (by omega)]
  have e3 : nI x - nI nd = nI (x - nd) := i_nI (by rw [e1]; omega)
  unfold zBh
  rw [e3]
  exact zmin_nI (by omega) (by omega)
set_option maxRecDepth 100000 in
set_option maxHeartbeats 4000000 in
theorem lm_go (l : Launch) (G : zG) (ad : Nat → Nat) (σ : zσ) (hσ : zOk σ) (x0 : zY) (k0 : Nat) (hk0 : k0 ≤ σ.2.1 3 5) (hX : zNσ σ k0 < 2 ^ 30) (hK : zKr σ x0.2.2.2.2.1 12) : ∀ (q i c : Nat) (H : Nat → Int32), i + q = 12 → c ≤ σ.2.1 3 5 → zCσ σ (12 - i) c ≠ none → (zNσ σ k0) % 2 ^ (12 - i) = zN (σ.2.1 4) (σ.2.1 5) (σ.2.1 3 5) (σ.2.1 3 6) (12 - i) c % 2 ^ (12 - i) → zHeld σ k0 i = nI c → (∀ j, j < i → H j = zHeld σ k0 (j + 1)) → AV l G sX6_go (wM G ad σ x0) (zV (fun H : Nat → Int32 => ∀ j, j < 12 → H j = zHeld σ k0 (j + 1)) (fun _ => .int (zBitsOf (nI (zNσ σ k0)) 12)) (fun H => wM G ad σ (x0.1, x0.2.1, x0.2.2.1, x0.2.2.2.1, x0.2.2.2.2.1, H, x0.2.2.2.2.2.2))) 7 [some (.ref (ad 0)), some (.int (nI k0)), some (.int (zBitsOf (nI (zNσ σ k0)) i)), some (.int (nI c)), some (.int (nI i)), none] [] (wM G ad σ (x0.1, x0.2.1, x0.2.2.1, x0.2.2.2.1, x0.2.2.2.2.1, H, x0.2.2.2.2.2.2)) := by
  have h5_ := zT5_le hσ
  have h6_ := zO6_le hσ
  intro q_
  induction q_ using Nat.strongRecOn
  rename_i q_ ih_
  intro i c H hq_ hc_ hz_ hm_ hh0_ hH_
  refine a_iload_4 (pc := 7) dX6_go_7 ?_
  refine a_bipush (v := 12) (pc := 9) dX6_go_9 (by decide) ?_
  refine a_icmp_ge (tgt := 85) (pc := 11) dX6_go_11 (by decide) (fun c_11 => ?_) (fun c_11 => ?_)
  · obtain rfl : i = 12 := by have := (zI_le (a := 12) (b := i) (by decide) (by omega)).mp c_11; omega
    refine a_iload_2 (pc := 85) dX6_go_85 ?_
    exact a_iret (pc := 86) dX6_go_86 rfl rfl ⟨H, hH_, rfl, rfl⟩
  · have hi_ : i < 12 := by have := mt (zI_le (a := 12) (b := i) (by decide) (by omega)).mpr c_11; omega
    have hn_ := hσ.2.2.2.2.2.2.2.2.2.2.2.1 i hi_
    have J43_ : ∀ (y_ : Int32) (x_ : Nat), ((y_ = 0 ∧ x_ = c) ∨ (¬ y_ = 0 ∧ x_ = c + σ.2.1 3 6)) → (y_ = 0 ↔ ¬ zRunsAt (nI (zNσ σ k0)) (nI i)) → σ.2.1 5 i ≤ x_ → zCσ σ (11 - i) (min (σ.2.1 3 5) (x_ - σ.2.1 5 i)) ≠ none → (zNσ σ k0) % 2 ^ (11 - i) = zN (σ.2.1 4) (σ.2.1 5) (σ.2.1 3 5) (σ.2.1 3 6) (11 - i) (min (σ.2.1 3 5) (x_ - σ.2.1 5 i)) % 2 ^ (11 - i) → AV l G sX6_go (wM G ad σ x0) (zV (fun H : Nat → Int32 => ∀ j, j < 12 → H j = zHeld σ k0 (j + 1)) (fun _ => .int (zBitsOf (nI (zNσ σ k0)) 12)) (fun H => wM G ad σ (x0.1, x0.2.1, x0.2.2.1, x0.2.2.2.1, x0.2.2.2.2.1, H, x0.2.2.2.2.2.2))) 43 [some (.ref (ad 0)), some (.int (nI k0)), some (.int (zBitsOf (nI (zNσ σ k0)) i)), some (.int (nI c)), some (.int (nI i)), none] [.int y_] (wM G ad σ (x0.1, x0.2.1, x0.2.2.1, x0.2.2.2.1, x0.2.2.2.2.1, H, x0.2.2.2.2.2.2)) := by
      intro y_ x_ w1_ w2_ w3_ w4_ w5_
      refine a_istore_5 (pc := 43) dX6_go_43 rfl (by decide) ?_
      refine a_iload_2 (pc := 45) dX6_go_45 ?_
      refine a_iload_5 (pc := 46) dX6_go_46 ?_
      first | refine a_if_eqB (tgt := 58) (pc := 48) dX6_go_48 (by decide) (fun c_48 => ?_) (fun c_48 => ?_) | refine a_if_eq (tgt := 58) (pc := 48) dX6_go_48 (by decide) (fun c_48 => ?_) (fun c_48 => ?_)
      · have e60_ : zBitsOf (nI (zNσ σ k0)) i ||| 0 = zBitsOf (nI (zNσ σ k0)) (i + 1) := by
          show _ = zBitsOf (nI (zNσ σ k0)) i ||| (if zRunsAt (nI (zNσ σ k0)) (nI i) then 1 <<< (nI i &&& 31) else 0)
          rw [if_neg (w2_.mp c_48)]
        refine a_iconst (v := 0) (pc := 58) dX6_go_58 (by decide) ?_
        refine a_ior (pc := 59) dX6_go_59 ?_
        refine a_topI e60_ ?_
        refine a_istore_2 (pc := 60) dX6_go_60 rfl (by decide) ?_
        refine a_aload_0 (pc := 61) dX6_go_61 ?_
        refine a_iload_4 (pc := 62) dX6_go_62 ?_
        refine a_iload_3 (pc := 64) dX6_go_64 ?_
        refine a_iload_5 (pc := 65) dX6_go_65 ?_
        refine f_P (ad := ad) (q0 := 0) (S2 := sX6_behind) (m_behind l G ad σ hσ (x0.1, x0.2.1, x0.2.2.1, x0.2.2.2.1, x0.2.2.2.2.1, H, x0.2.2.2.2.2.2) i c x_ y_ hi_ (by omega) w1_) kc_X6_behind km_X6_177 ki_X6_behind kv_X6_behind kini_X6 ⟨kn_X6_behind, by decide, by decide⟩ (pc := 67) dX6_go_67 (znd_of rfl znd18) rfl rfl (Nat.le_of_ble_eq_true rfl) rfl rfl rfl ?_
        refine a_topI (show zBe σ i x_ = nI (min (σ.2.1 3 5) (x_ - σ.2.1 5 i)) from if_neg (by omega)) ?_
        refine a_istore_3 (pc := 70) dX6_go_70 rfl (by decide) ?_
        refine a_aload_0 (pc := 71) dX6_go_71 ?_
        refine a_getf (ci := 6) (j := 25) rfl win_X6 (by decide) (pc := 72) dX6_go_72 kf_X6_69 rfl rfl ?_
        refine a_iload_4 (pc := 75) dX6_go_75 ?_
        refine a_iload_3 (pc := 77) dX6_go_77 ?_
        refine a_iastN (pc := 78) dX6_go_78 rfl (by omega) (by decide) ?_
        refine a_iinc_4 (cst := 1) (pc := 79) dX6_go_79 rfl (by decide) (by decide) ?_
        refine a_goto (tgt := 7) (pc := 82) dX6_go_82 (by decide) ?_
        rw [← nI_succ]
        have hx_ : x_ ≤ 400 := by omega
        have hh_ : zHeld σ k0 (i + 1) = nI (min (σ.2.1 3 5) (x_ - σ.2.1 5 i)) := by
          show zBh (nI (σ.2.1 5 i)) (zHeld σ k0 i + (if zRunsAt (nI (zNσ σ k0)) (nI i) then nI (σ.2.1 3 6) else 0)) (nI (σ.2.1 3 5)) = _
          have e_ : zHeld σ k0 i + (if zRunsAt (nI (zNσ σ k0)) (nI i) then nI (σ.2.1 3 6) else 0) = nI x_ := by
            rw [hh0_]
            rcases w1_ with ⟨a_, b_⟩ | ⟨a_, b_⟩
            · rw [if_neg (w2_.mp a_), b_, show (0 : Int32) = nI 0 from rfl, ← zI_add, Nat.add_zero]
            · rw [if_pos (Decidable.not_not.mp (fun h => a_ (w2_.mpr h))), b_, zI_add]
          rw [e_]
          exact zBh_N h5_ hn_ hx_ w3_
        refine a_forget_5 ?_
        exact ih_ (q_ - 1) (by omega) (i + 1) (min (σ.2.1 3 5) (x_ - σ.2.1 5 i)) (upd H i (nI (min (σ.2.1 3 5) (x_ - σ.2.1 5 i)))) (by omega) (by omega) (by rw [show 12 - (i + 1) = 11 - i by omega]; exact w4_) (by rw [show 12 - (i + 1) = 11 - i by omega]; exact w5_) hh_ (fun j hj => by
          by_cases h : j = i
          · subst h; rw [upd_same]; exact hh_.symm
          · rw [upd_ne _ _ h]; exact hH_ j (by omega))
      · have e60_ : zBitsOf (nI (zNσ σ k0)) i ||| (1 <<< (nI i &&& 31)) = zBitsOf (nI (zNσ σ k0)) (i + 1) := by
          show _ = zBitsOf (nI (zNσ σ k0)) i ||| (if zRunsAt (nI (zNσ σ k0)) (nI i) then 1 <<< (nI i &&& 31) else 0)
          rw [if_pos (Decidable.not_not.mp (fun h => c_48 (w2_.mpr h)))]
        refine a_iconst (v := 1) (pc := 51) dX6_go_51 (by decide) ?_
        refine a_iload_4 (pc := 52) dX6_go_52 ?_
        refine a_ishl (pc := 54) dX6_go_54 ?_
        refine a_goto (tgt := 59) (pc := 55) dX6_go_55 (by decide) ?_
        refine a_ior (pc := 59) dX6_go_59 ?_
        refine a_topI e60_ ?_
        refine a_istore_2 (pc := 60) dX6_go_60 rfl (by decide) ?_
        refine a_aload_0 (pc := 61) dX6_go_61 ?_
        refine a_iload_4 (pc := 62) dX6_go_62 ?_
        refine a_iload_3 (pc := 64) dX6_go_64 ?_
        refine a_iload_5 (pc := 65) dX6_go_65 ?_
        refine f_P (ad := ad) (q0 := 0) (S2 := sX6_behind) (m_behind l G ad σ hσ (x0.1, x0.2.1, x0.2.2.1, x0.2.2.2.1, x0.2.2.2.2.1, H, x0.2.2.2.2.2.2) i c x_ y_ hi_ (by omega) w1_) kc_X6_behind km_X6_177 ki_X6_behind kv_X6_behind kini_X6 ⟨kn_X6_behind, by decide, by decide⟩ (pc := 67) dX6_go_67 (znd_of rfl znd18) rfl rfl (Nat.le_of_ble_eq_true rfl) rfl rfl rfl ?_
        refine a_topI (show zBe σ i x_ = nI (min (σ.2.1 3 5) (x_ - σ.2.1 5 i)) from if_neg (by omega)) ?_
        refine a_istore_3 (pc := 70) dX6_go_70 rfl (by decide) ?_
        refine a_aload_0 (pc := 71) dX6_go_71 ?_
        refine a_getf (ci := 6) (j := 25) rfl win_X6 (by decide) (pc := 72) dX6_go_72 kf_X6_69 rfl rfl ?_
        refine a_iload_4 (pc := 75) dX6_go_75 ?_
        refine a_iload_3 (pc := 77) dX6_go_77 ?_
        refine a_iastN (pc := 78) dX6_go_78 rfl (by omega) (by decide) ?_
        refine a_iinc_4 (cst := 1) (pc := 79) dX6_go_79 rfl (by decide) (by decide) ?_
        refine a_goto (tgt := 7) (pc := 82) dX6_go_82 (by decide) ?_
        rw [← nI_succ]
        have hx_ : x_ ≤ 400 := by omega
        have hh_ : zHeld σ k0 (i + 1) = nI (min (σ.2.1 3 5) (x_ - σ.2.1 5 i)) := by
          show zBh (nI (σ.2.1 5 i)) (zHeld σ k0 i + (if zRunsAt (nI (zNσ σ k0)) (nI i) then nI (σ.2.1 3 6) else 0)) (nI (σ.2.1 3 5)) = _
          have e_ : zHeld σ k0 i + (if zRunsAt (nI (zNσ σ k0)) (nI i) then nI (σ.2.1 3 6) else 0) = nI x_ := by
            rw [hh0_]
            rcases w1_ with ⟨a_, b_⟩ | ⟨a_, b_⟩
            · rw [if_neg (w2_.mp a_), b_, show (0 : Int32) = nI 0 from rfl, ← zI_add, Nat.add_zero]
            · rw [if_pos (Decidable.not_not.mp (fun h => a_ (w2_.mpr h))), b_, zI_add]
          rw [e_]
          exact zBh_N h5_ hn_ hx_ w3_
        refine a_forget_5 ?_
        exact ih_ (q_ - 1) (by omega) (i + 1) (min (σ.2.1 3 5) (x_ - σ.2.1 5 i)) (upd H i (nI (min (σ.2.1 3 5) (x_ - σ.2.1 5 i)))) (by omega) (by omega) (by rw [show 12 - (i + 1) = 11 - i by omega]; exact w4_) (by rw [show 12 - (i + 1) = 11 - i by omega]; exact w5_) hh_ (fun j hj => by
          by_cases h : j = i
          · subst h; rw [upd_same]; exact hh_.symm
          · rw [upd_ne _ _ h]; exact hH_ j (by omega))
    refine a_aload_0 (pc := 14) dX6_go_14 ?_
    refine a_iload_4 (pc := 15) dX6_go_15 ?_
    refine a_iload_3 (pc := 17) dX6_go_17 ?_
    refine a_iconst (v := 0) (pc := 18) dX6_go_18 (by decide) ?_
    refine f_P (ad := ad) (q0 := 0) (S2 := sX6_costFrom) (m_costFrom l G ad σ hσ (x0.1, x0.2.1, x0.2.2.1, x0.2.2.2.1, x0.2.2.2.2.1, H, x0.2.2.2.2.2.2) i (11 - i) c c 0 0 hi_ rfl (by omega) (Or.inl ⟨rfl, rfl, rfl⟩) (fun z hz => by have := hK (11 - i) (by omega) z hz; rw [show 12 - (11 - i) = i + 1 by omega] at this; exact this)) kc_X6_costFrom km_X6_181 ki_X6_costFrom kv_X6_costFrom kini_X6 ⟨kn_X6_costFrom, by decide, by decide⟩ (pc := 19) dX6_go_19 (znd_of rfl znd18) rfl rfl (Nat.le_of_ble_eq_true rfl) rfl rfl rfl ?_
    refine a_aload_0 (pc := 22) dX6_go_22 ?_
    refine a_getf (ci := 6) (j := 24) rfl win_X6 (by decide) (pc := 23) dX6_go_23 kf_X6_66 rfl rfl ?_
    refine a_sipush (v := 201) (pc := 26) dX6_go_26 (by decide) ?_
    refine a_iload_4 (pc := 29) dX6_go_29 ?_
    refine a_imul (pc := 31) dX6_go_31 ?_
    refine a_iload_3 (pc := 32) dX6_go_32 ?_
    refine a_iadd (pc := 33) dX6_go_33 ?_
    rw [show (201 : Int32) = nI 201 from rfl, ← zI_mul, ← zI_add]
    refine a_ialdN (pc := 34) dX6_go_34 rfl (show 201 * i + c < 2613 by omega) (by decide) ?_
    refine a_topI (show x0.2.2.2.2.1 (201 * i + c) = zCi (zCσ σ (12 - i) c) by have := hK (12 - i) (by omega) c hc_; rw [show 12 - (12 - i) = i by omega] at this; exact this) ?_
    refine a_icmp_eq (tgt := 42) (pc := 35) dX6_go_35 (by decide) (fun c_35 => ?_) (fun c_35 => ?_)
    · obtain ⟨g2_, g3_, g4_, g5_⟩ : _ ∧ _ ∧ _ ∧ _ := (zGo hσ (show zNσ σ k0 < 2 ^ 31 by omega) hi_ hz_ hm_).elim (fun h => h.2) (fun h => absurd c_35 h.1)
      refine a_iconst (v := 0) (pc := 42) dX6_go_42 (by decide) ?_
      first | exact J43_ 0 c (Or.inl ⟨rfl, rfl⟩) ⟨fun _ => g2_, fun _ => rfl⟩ g3_ g4_ g5_ | exact J43_ 1 (c + σ.2.1 3 6) (Or.inr ⟨by decide, rfl⟩) ⟨fun h => absurd h (by decide), fun h => absurd g2_ h⟩ g3_ g4_ g5_
    · obtain ⟨g2_, g3_, g4_, g5_⟩ : _ ∧ _ ∧ _ ∧ _ := (zGo hσ (show zNσ σ k0 < 2 ^ 31 by omega) hi_ hz_ hm_).elim (fun h => absurd h.1 c_35) (fun h => h.2)
      refine a_iconst (v := 1) (pc := 38) dX6_go_38 (by decide) ?_
      refine a_goto (tgt := 43) (pc := 39) dX6_go_39 (by decide) ?_
      first | exact J43_ 0 c (Or.inl ⟨rfl, rfl⟩) ⟨fun _ => g2_, fun _ => rfl⟩ g3_ g4_ g5_ | exact J43_ 1 (c + σ.2.1 3 6) (Or.inr ⟨by decide, rfl⟩) ⟨fun h => absurd h (by decide), fun h => absurd g2_ h⟩ g3_ g4_ g5_

set_option maxRecDepth 100000 in
set_option maxHeartbeats 4000000 in
/-- go -/
theorem m_go (l : Launch) (G : zG) (ad : Nat → Nat) (σ : zσ) (hσ : zOk σ) (x0 : zY) (k0 : Nat) (hk0 : k0 ≤ σ.2.1 3 5) (hX : zNσ σ k0 < 2 ^ 30) (hK : zKr σ x0.2.2.2.2.1 12) (hv : zCσ σ 12 k0 ≠ none) : zSem l G sX6_go [.ref (ad 0), .int (nI k0)] (wM G ad σ x0) (zV (fun H : Nat → Int32 => ∀ j, j < 12 → H j = zHeld σ k0 (j + 1)) (fun _ => .int (zBitsOf (nI (zNσ σ k0)) 12)) (fun H => wM G ad σ (x0.1, x0.2.1, x0.2.2.1, x0.2.2.2.1, x0.2.2.2.2.1, H, x0.2.2.2.2.2.2))) := by
  refine zEnterV (L := [some (.ref (ad 0)), some (.int (nI k0)), none, none, none, none]) (by decide) rfl (Nat.le_of_ble_eq_true rfl) rfl ?_
  refine a_iconst (v := 0) (pc := 0) dX6_go_0 (by decide) ?_
  refine a_istore_2 (pc := 1) dX6_go_1 rfl (by decide) ?_
  refine a_iload_1 (pc := 2) dX6_go_2 ?_
  refine a_istore_3 (pc := 3) dX6_go_3 rfl (by decide) ?_
  refine a_iconst (v := 0) (pc := 4) dX6_go_4 (by decide) ?_
  refine a_istore_4 (pc := 5) dX6_go_5 rfl (by decide) ?_
  exact lm_go l G ad σ hσ x0 k0 hk0 hX hK 12 0 k0 x0.2.2.2.2.2.1 (by omega) hk0 hv rfl rfl (fun j hj => absurd hj (Nat.not_lt_zero j))

set_option maxRecDepth 100000 in
set_option maxHeartbeats 4000000 in
theorem m_plan (l : Launch) (G : zG) (ad : Nat → Nat) (σ : zσ) (x0 : zY) (hσ : zOk σ) (hN : zNb σ x0.1) (x : Int32) : zSem l G sX6_plan [.ref (ad 0), .int x] (wM G ad σ x0) (zPostM G ad (o_plan σ x)) := by
  refine zEnterV (L := [some (.ref (ad 0)), some (.int x)]) (by decide) rfl (Nat.le_of_ble_eq_true rfl) rfl ?_
  refine a_aload_0 (pc := 0) dX6_plan_0 ?_
  refine a_iload_1 (pc := 1) dX6_plan_1 ?_
  refine f_P (ad := ad) (q0 := 0) (S2 := sX6_isContent) (m_isContent l G ad σ x0 _) kc_X6_isContent km_X6_184 ki_X6_isContent kv_X6_isContent kini_X6 ⟨kn_X6_isContent, by decide, by decide⟩ (pc := 2) dX6_plan_2 (znd_of rfl znd18) rfl rfl (Nat.le_of_ble_eq_true rfl) rfl rfl rfl ?_
  first | refine a_if_neB (tgt := 12) (pc := 5) dX6_plan_5 (by decide) (fun c_5 => ?_) (fun c_5 => ?_) | refine a_if_ne (tgt := 12) (pc := 5) dX6_plan_5 (by decide) (fun c_5 => ?_) (fun c_5 => ?_)
  · obtain ⟨k, hk_, rfl⟩ := zrangeT hσ c_5
    have h5_ := zT5_le hσ
    refine a_aload_0 (pc := 12) dX6_plan_12 ?_
    refine f_0 (ad := ad) (q0 := 0) (S2 := sX6_findPlan) (m_findPlan l G ad σ hσ x0) kc_X6_findPlan km_X6_187 ki_X6_findPlan kv_X6_findPlan kini_X6 ⟨kn_X6_findPlan, by decide, by decide⟩ (pc := 13) dX6_plan_13 (znd_of rfl znd18) rfl rfl (Nat.le_of_ble_eq_true rfl) rfl rfl rfl (fun K_ hK_ => ?_)
    refine a_aload_0 (pc := 16) dX6_plan_16 ?_
    refine a_getf (ci := 6) (j := 24) rfl win_X6 (by decide) (pc := 17) dX6_plan_17 kf_X6_66 rfl rfl ?_
    refine a_iload_1 (pc := 20) dX6_plan_20 ?_
    refine a_ialdN (pc := 21) dX6_plan_21 rfl (by omega) (by decide) ?_
    refine a_topI (zKr_0 hK_ hk_) ?_
    rcases hv_ : zCσ σ 12 k with _ | n_
    · have hn_ := zPl_no12 hσ hv_
      refine a_if_ge (tgt := 31) (pc := 22) dX6_plan_22 (by decide) (fun c_ => absurd c_ (show ¬ (0 : Int32) ≤ -1 by decide)) (fun _ => ?_)
      refine a_ldc2 (pc := 25) dX6_plan_25 kl_X6_141 ?_
      refine a_goto (tgt := 38) (pc := 28) dX6_plan_28 (by decide) ?_
      exact a_lret (pc := 38) dX6_plan_38 rfl rfl (by first | exact mret (σ' := σ) (x0.1, x0.2.1, x0.2.2.1, x0.2.2.2.1, K_, x0.2.2.2.2.2) (by unfold o_plan; rw [if_neg c_5, nI_clamp (by omega), if_neg hn_]) hN rfl | exact mret (σ' := σ) (x0.1, x0.2.1, x0.2.2.1, x0.2.2.2.1, K_, x0.2.2.2.2.2) (by unfold o_plan; rw [if_neg c_5, nI_clamp (by omega), if_pos hy_.1, zcost_N (Nat.lt_trans hy_.2.2.1 (by decide)), hy_.2.2.2]; rfl) hN rfl)
    · have hy_ := zPl_yes12 hσ hv_
      refine a_if_ge (tgt := 31) (pc := 22) dX6_plan_22 (by decide) (fun _ => ?_) (fun c_ => absurd ((zI_le (a := 0) (b := n_) (by decide) (by omega)).mpr (by omega)) c_)
      refine a_aload_0 (pc := 31) dX6_plan_31 ?_
      refine a_getf (ci := 6) (j := 24) rfl win_X6 (by decide) (pc := 32) dX6_plan_32 kf_X6_66 rfl rfl ?_
      refine a_iload_1 (pc := 35) dX6_plan_35 ?_
      refine a_ialdN (pc := 36) dX6_plan_36 rfl (by omega) (by decide) ?_
      refine a_topI ((zKr_0 hK_ hk_).trans (congrArg zCi hv_)) ?_
      refine a_i2l (pc := 37) dX6_plan_37 ?_
      exact a_lret (pc := 38) dX6_plan_38 rfl rfl (by first | exact mret (σ' := σ) (x0.1, x0.2.1, x0.2.2.1, x0.2.2.2.1, K_, x0.2.2.2.2.2) (by unfold o_plan; rw [if_neg c_5, nI_clamp (by omega), if_neg hn_]) hN rfl | exact mret (σ' := σ) (x0.1, x0.2.1, x0.2.2.1, x0.2.2.2.1, K_, x0.2.2.2.2.2) (by unfold o_plan; rw [if_neg c_5, nI_clamp (by omega), if_pos hy_.1, zcost_N (Nat.lt_trans hy_.2.2.1 (by decide)), hy_.2.2.2]; rfl) hN rfl)
  · refine a_ldc2 (pc := 8) dX6_plan_8 kl_X6_79 ?_
    exact a_lret (pc := 11) dX6_plan_11 rfl rfl (mret x0 (by unfold o_plan; rw [if_pos (Decidable.not_not.mp c_5)]) hN rfl)

set_option maxRecDepth 100000 in
set_option maxHeartbeats 4000000 in
theorem m_runs (l : Launch) (G : zG) (ad : Nat → Nat) (σ : zσ) (x0 : zY) (hσ : zOk σ) (hN : zNb σ x0.1) (x : Int32) : zSem l G sX6_runs [.ref (ad 0), .int x] (wM G ad σ x0) (zPostM G ad (o_runs σ x)) := by
  refine zEnterV (L := [some (.ref (ad 0)), some (.int x)]) (by decide) rfl (Nat.le_of_ble_eq_true rfl) rfl ?_
  refine a_aload_0 (pc := 0) dX6_runs_0 ?_
  refine a_iload_1 (pc := 1) dX6_runs_1 ?_
  refine f_P (ad := ad) (q0 := 0) (S2 := sX6_isContent) (m_isContent l G ad σ x0 _) kc_X6_isContent km_X6_184 ki_X6_isContent kv_X6_isContent kini_X6 ⟨kn_X6_isContent, by decide, by decide⟩ (pc := 2) dX6_runs_2 (znd_of rfl znd18) rfl rfl (Nat.le_of_ble_eq_true rfl) rfl rfl rfl ?_
  first | refine a_if_neB (tgt := 12) (pc := 5) dX6_runs_5 (by decide) (fun c_5 => ?_) (fun c_5 => ?_) | refine a_if_ne (tgt := 12) (pc := 5) dX6_runs_5 (by decide) (fun c_5 => ?_) (fun c_5 => ?_)
  · obtain ⟨k, hk_, rfl⟩ := zrangeT hσ c_5
    have h5_ := zT5_le hσ
    refine a_aload_0 (pc := 12) dX6_runs_12 ?_
    refine f_0 (ad := ad) (q0 := 0) (S2 := sX6_findPlan) (m_findPlan l G ad σ hσ x0) kc_X6_findPlan km_X6_187 ki_X6_findPlan kv_X6_findPlan kini_X6 ⟨kn_X6_findPlan, by decide, by decide⟩ (pc := 13) dX6_runs_13 (znd_of rfl znd18) rfl rfl (Nat.le_of_ble_eq_true rfl) rfl rfl rfl (fun K_ hK_ => ?_)
    refine a_aload_0 (pc := 16) dX6_runs_16 ?_
    refine a_getf (ci := 6) (j := 24) rfl win_X6 (by decide) (pc := 17) dX6_runs_17 kf_X6_66 rfl rfl ?_
    refine a_iload_1 (pc := 20) dX6_runs_20 ?_
    refine a_ialdN (pc := 21) dX6_runs_21 rfl (by omega) (by decide) ?_
    refine a_topI (zKr_0 hK_ hk_) ?_
    rcases hv_ : zCσ σ 12 k with _ | n_
    · have hn_ := zPl_no12 hσ hv_
      refine a_if_ge (tgt := 31) (pc := 22) dX6_runs_22 (by decide) (fun c_ => absurd c_ (show ¬ (0 : Int32) ≤ -1 by decide)) (fun _ => ?_)
      refine a_ldc2 (pc := 25) dX6_runs_25 kl_X6_141 ?_
      refine a_goto (tgt := 37) (pc := 28) dX6_runs_28 (by decide) ?_
      exact a_lret (pc := 37) dX6_runs_37 rfl rfl (by first | exact mret (σ' := σ) (x0.1, x0.2.1, x0.2.2.1, x0.2.2.2.1, K_, x0.2.2.2.2.2) (by unfold o_runs; rw [if_neg c_5, nI_clamp (by omega), if_neg hn_]) hN rfl | exact mret (σ' := σ) (x0.1, x0.2.1, x0.2.2.1, x0.2.2.2.1, K_, H_, x0.2.2.2.2.2.2) (by unfold o_runs; rw [if_neg c_5, nI_clamp (by omega), if_pos hy_.1]) hN rfl)
    · have hy_ := zPl_yes12 hσ hv_
      refine a_if_ge (tgt := 31) (pc := 22) dX6_runs_22 (by decide) (fun _ => ?_) (fun c_ => absurd ((zI_le (a := 0) (b := n_) (by decide) (by omega)).mpr (by omega)) c_)
      refine a_aload_0 (pc := 31) dX6_runs_31 ?_
      refine a_iload_1 (pc := 32) dX6_runs_32 ?_
      refine f_V (ad := ad) (q0 := 0) (S2 := sX6_go) (m_go l G ad σ hσ (x0.1, x0.2.1, x0.2.2.1, x0.2.2.2.1, K_, x0.2.2.2.2.2) k hk_ hy_.2.2.1 hK_ (by rw [hv_]; exact (fun h => by cases h))) kc_X6_go km_X6_190 ki_X6_go kv_X6_go kini_X6 ⟨kn_X6_go, by decide, by decide⟩ (pc := 33) dX6_runs_33 (znd_of rfl znd18) rfl rfl (Nat.le_of_ble_eq_true rfl) rfl rfl rfl (fun H_ hH_ => ?_)
      refine a_i2l (pc := 36) dX6_runs_36 ?_
      exact a_lret (pc := 37) dX6_runs_37 rfl rfl (by first | exact mret (σ' := σ) (x0.1, x0.2.1, x0.2.2.1, x0.2.2.2.1, K_, x0.2.2.2.2.2) (by unfold o_runs; rw [if_neg c_5, nI_clamp (by omega), if_neg hn_]) hN rfl | exact mret (σ' := σ) (x0.1, x0.2.1, x0.2.2.1, x0.2.2.2.1, K_, H_, x0.2.2.2.2.2.2) (by unfold o_runs; rw [if_neg c_5, nI_clamp (by omega), if_pos hy_.1]) hN rfl)
  · refine a_ldc2 (pc := 8) dX6_runs_8 kl_X6_79 ?_
    exact a_lret (pc := 11) dX6_runs_11 rfl rfl (mret x0 (by unfold o_runs; rw [if_pos (Decidable.not_not.mp c_5)]) hN rfl)

set_option maxRecDepth 100000 in
set_option maxHeartbeats 4000000 in
theorem m_tank (l : Launch) (G : zG) (ad : Nat → Nat) (σ : zσ) (x0 : zY) (hσ : zOk σ) (hN : zNb σ x0.1) (x : Int32) (hh : Int32) : zSem l G sX6_tank [.ref (ad 0), .int x, .int hh] (wM G ad σ x0) (zPostM G ad (o_tank σ x hh)) := by
  refine zEnterV (L := [some (.ref (ad 0)), some (.int x), some (.int hh), none]) (by decide) rfl (Nat.le_of_ble_eq_true rfl) rfl ?_
  refine a_aload_0 (pc := 0) dX6_tank_0 ?_
  refine a_iload_1 (pc := 1) dX6_tank_1 ?_
  refine f_P (ad := ad) (q0 := 0) (S2 := sX6_isContent) (m_isContent l G ad σ x0 _) kc_X6_isContent km_X6_184 ki_X6_isContent kv_X6_isContent kini_X6 ⟨kn_X6_isContent, by decide, by decide⟩ (pc := 2) dX6_tank_2 (znd_of rfl znd18) rfl rfl (Nat.le_of_ble_eq_true rfl) rfl rfl rfl ?_
  first | refine a_if_eqB (tgt := 18) (pc := 5) dX6_tank_5 (by decide) (fun c_5 => ?_) (fun c_5 => ?_) | refine a_if_eq (tgt := 18) (pc := 5) dX6_tank_5 (by decide) (fun c_5 => ?_) (fun c_5 => ?_)
  · refine a_ldc2 (pc := 18) dX6_tank_18 kl_X6_79 ?_
    exact a_lret (pc := 21) dX6_tank_21 rfl rfl (by first | exact mret x0 (by unfold o_tank; rw [if_pos (Or.inl (Decidable.not_not.mp c_5))]) hN rfl | exact mret x0 (by unfold o_tank; rw [if_pos (Or.inr (Decidable.not_not.mp c_15))]) hN rfl)
  · refine a_iload_2 (pc := 8) dX6_tank_8 ?_
    refine a_iconst (v := 0) (pc := 9) dX6_tank_9 (by decide) ?_
    refine a_bipush (v := 11) (pc := 10) dX6_tank_10 (by decide) ?_
    refine cS_P (S2 := sX6_isIn) (m_isIn l G _ _ _) kc_X6_isIn km_X6_75 ks_X6_isIn kini_X6 ⟨kn_X6_isIn, by decide, by decide⟩ (pc := 12) dX6_tank_12 [] rfl rfl rfl rfl (Nat.le_of_ble_eq_true rfl) ?_
    first | refine a_if_neB (tgt := 22) (pc := 15) dX6_tank_15 (by decide) (fun c_15 => ?_) (fun c_15 => ?_) | refine a_if_ne (tgt := 22) (pc := 15) dX6_tank_15 (by decide) (fun c_15 => ?_) (fun c_15 => ?_)
    · obtain ⟨k, hk_, rfl⟩ := zrangeT hσ c_5
      have h5_ := zT5_le hσ
      obtain ⟨h, hhh_, rfl⟩ := zrange (n := 11) (by decide) rfl c_15
      refine a_aload_0 (pc := 22) dX6_tank_22 ?_
      refine f_0 (ad := ad) (q0 := 0) (S2 := sX6_findPlan) (m_findPlan l G ad σ hσ x0) kc_X6_findPlan km_X6_187 ki_X6_findPlan kv_X6_findPlan kini_X6 ⟨kn_X6_findPlan, by decide, by decide⟩ (pc := 23) dX6_tank_23 (znd_of rfl znd18) rfl rfl (Nat.le_of_ble_eq_true rfl) rfl rfl rfl (fun K_ hK_ => ?_)
      refine a_aload_0 (pc := 26) dX6_tank_26 ?_
      refine a_getf (ci := 6) (j := 24) rfl win_X6 (by decide) (pc := 27) dX6_tank_27 kf_X6_66 rfl rfl ?_
      refine a_iload_1 (pc := 30) dX6_tank_30 ?_
      refine a_ialdN (pc := 31) dX6_tank_31 rfl (by omega) (by decide) ?_
      refine a_topI (zKr_0 hK_ hk_) ?_
      rcases hv_ : zCσ σ 12 k with _ | n_
      · have hn_ := zPl_no12 hσ hv_
        refine a_if_ge (tgt := 39) (pc := 32) dX6_tank_32 (by decide) (fun c_ => absurd c_ (show ¬ (0 : Int32) ≤ -1 by decide)) (fun _ => ?_)
        refine a_ldc2 (pc := 35) dX6_tank_35 kl_X6_141 ?_
        exact a_lret (pc := 38) dX6_tank_38 rfl rfl (mret (σ' := σ) (x0.1, x0.2.1, x0.2.2.1, x0.2.2.2.1, K_, x0.2.2.2.2.2) (by unfold o_tank; rw [if_neg (fun h => h.elim c_5 c_15), nI_clamp (by omega), if_pos hn_]) hN rfl)
      · have hy_ := zPl_yes12 hσ hv_
        refine a_if_ge (tgt := 39) (pc := 32) dX6_tank_32 (by decide) (fun _ => ?_) (fun c_ => absurd ((zI_le (a := 0) (b := n_) (by decide) (by omega)).mpr (by omega)) c_)
        refine a_aload_0 (pc := 39) dX6_tank_39 ?_
        refine a_iload_1 (pc := 40) dX6_tank_40 ?_
        refine f_V (ad := ad) (q0 := 0) (S2 := sX6_go) (m_go l G ad σ hσ (x0.1, x0.2.1, x0.2.2.1, x0.2.2.2.1, K_, x0.2.2.2.2.2) k hk_ hy_.2.2.1 hK_ (by rw [hv_]; exact (fun h => by cases h))) kc_X6_go km_X6_190 ki_X6_go kv_X6_go kini_X6 ⟨kn_X6_go, by decide, by decide⟩ (pc := 41) dX6_tank_41 (znd_of rfl znd18) rfl rfl (Nat.le_of_ble_eq_true rfl) rfl rfl rfl (fun H_ hH_ => ?_)
        refine a_istore_3 (pc := 44) dX6_tank_44 rfl (by decide) ?_
        refine a_aload_0 (pc := 45) dX6_tank_45 ?_
        refine a_getf (ci := 6) (j := 25) rfl win_X6 (by decide) (pc := 46) dX6_tank_46 kf_X6_69 rfl rfl ?_
        refine a_iload_2 (pc := 49) dX6_tank_49 ?_
        refine a_ialdN (pc := 50) dX6_tank_50 rfl (by omega) (by decide) ?_
        refine a_topI (hH_ h (by omega)) ?_
        refine a_i2l (pc := 51) dX6_tank_51 ?_
        exact a_lret (pc := 52) dX6_tank_52 rfl rfl (mret (σ' := σ) (x0.1, x0.2.1, x0.2.2.1, x0.2.2.2.1, K_, H_, x0.2.2.2.2.2.2) (by unfold o_tank; rw [if_neg (fun h => h.elim c_5 c_15), nI_clamp (by omega), if_neg (fun h => h hy_.1), nI_clamp (by omega)]) hN rfl)
    · refine a_ldc2 (pc := 18) dX6_tank_18 kl_X6_79 ?_
      exact a_lret (pc := 21) dX6_tank_21 rfl rfl (by first | exact mret x0 (by unfold o_tank; rw [if_pos (Or.inl (Decidable.not_not.mp c_5))]) hN rfl | exact mret x0 (by unfold o_tank; rw [if_pos (Or.inr (Decidable.not_not.mp c_15))]) hN rfl)


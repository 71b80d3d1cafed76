/-! The model: the best change. -/
abbrev zσx (σ : zσ) (a b : Nat) : zσ := (σ.1, zu2 (zu2 σ.2.1 1 (zExN (σ.2.1 1) a b)) 2 (zExN (σ.2.1 2) a b), σ.2.2)
theorem zExN_inv (f : Nat → Nat) {a b : Nat} (h : ¬ a = b) : zExN (zExN f a b) a b = f := by
  funext k
  have e1 : zExN f a b a = f b := by unfold zExN zuN; rw [if_neg h, if_pos rfl]
  have e2 : zExN f a b b = f a := by unfold zExN zuN; rw [if_pos rfl]
  show zuN (zuN (zExN f a b) a (zExN f a b b)) b (zExN f a b a) k = f k
  rw [e1, e2]
  unfold zuN
  by_cases h1 : k = b
  · rw [if_pos h1, h1]
  · rw [if_neg h1]
    by_cases h2 : k = a
    · rw [if_pos h2, h2]
    · rw [if_neg h2]
      unfold zExN zuN
      rw [if_neg h1, if_neg h2]
theorem zσx_inv (σ : zσ) {a b : Nat} (h : ¬ a = b) : zσx (zσx σ a b) a b = σ := by
  show (σ.1, zu2 (zu2 (zu2 (zu2 σ.2.1 1 (zExN (σ.2.1 1) a b)) 2 (zExN (σ.2.1 2) a b)) 1 (zExN (zExN (σ.2.1 1) a b) a b)) 2 (zExN (zExN (σ.2.1 2) a b) a b), σ.2.2) = σ
  rw [zExN_inv _ h, zExN_inv _ h]
  have e : zu2 (zu2 (zu2 (zu2 σ.2.1 1 (zExN (σ.2.1 1) a b)) 2 (zExN (σ.2.1 2) a b)) 1 (σ.2.1 1)) 2 (σ.2.1 2) = σ.2.1 := by
    funext r
    unfold zu2
    by_cases h2 : r = 2
    · rw [if_pos h2, h2]
    · rw [if_neg h2]
      by_cases h1 : r = 1
      · rw [if_pos h1, h1]
      · rw [if_neg h1, if_neg h2, if_neg h1]
  rw [e]
theorem zExN_q {P : Nat → Prop} {f : Nat → Nat} {a b : Nat} (ha : a < 72) (hb : b < 72) (h : ∀ k, k < 72 → P (f k)) : ∀ k, k < 72 → P (zExN f a b k) := by
  intro k hk
  unfold zExN zuN
  by_cases h1 : k = b
  · rw [if_pos h1]; exact h a ha
  · rw [if_neg h1]
    by_cases h2 : k = a
    · rw [if_pos h2]; exact h b hb
    · rw [if_neg h2]; exact h k hk
theorem zOk_x {σ : zσ} (hσ : zOk σ) {a b : Nat} (ha : a < 72) (hb : b < 72) : zOk (zσx σ a b) := by
  obtain ⟨a1, a2, a3, a4, a5, a6, a7, a8, a9, a10, a11, a12, a13, a14⟩ := hσ
  exact ⟨a1, a2, a3, a4, a5, a6, a7, zExN_q (P := fun z => z < 4) ha hb a8, zExN_q (P := fun z => z ≤ 90) ha hb a9, a10, a11, a12, a13, a14⟩
theorem zPaf_x (σ : zσ) (a b k : Nat) : zPaf (zσx σ a b) k = zExch (zPaf σ) a b k ∧ zLef (zσx σ a b) k = zExch (zLef σ) a b k := by
  have e1 : ∀ f : Nat → Nat, zExN f a b k = if k = b then f a else if k = a then f b else f k := fun f => rfl
  have e2 : ∀ f : Nat → Int32, zExch f a b k = if k = b then f a else if k = a then f b else f k := fun f => rfl
  rw [e2, e2]
  show zPassOf (nI (zExN (σ.2.1 1) a b k)) - zPassOf (nI (zExN (σ.2.1 1) a b k)) * nI (zExN (σ.2.1 2) a b k) / 100 = _ ∧ zLeakOf (nI (zExN (σ.2.1 1) a b k)) = _
  rw [e1, e1]
  by_cases h1 : k = b
  · rw [if_pos h1, if_pos h1, if_pos h1, if_pos h1]; exact ⟨rfl, rfl⟩
  · rw [if_neg h1, if_neg h1, if_neg h1, if_neg h1]
    by_cases h2 : k = a
    · rw [if_pos h2, if_pos h2, if_pos h2, if_pos h2]; exact ⟨rfl, rfl⟩
    · rw [if_neg h2, if_neg h2, if_neg h2, if_neg h2]; exact ⟨rfl, rfl⟩
theorem zFin_x {σ : zσ} (hσ : zOk σ) (a b : Nat) : (nI (σ.1 1)).toInt64 - (zFin (zσx σ a b) (nI (σ.1 3)) (zMs σ)).1 = zSwp σ a b := by
  unfold zSwp
  congr 2
  exact zRn_cg (fun k _ => zPaf_x σ a b k) (fun s hs => (zVin_N hσ.2.2.2.2.2.1 hs).2) hσ.1.2 3 (by omega)
theorem zExch_same {f : Nat → Int32} {a b : Nat} (h : f a = f b) : zExch f a b = f := by
  funext k
  show (if k = b then f a else if k = a then f b else f k) = f k
  by_cases h1 : k = b
  · rw [if_pos h1, h1, h]
  · rw [if_neg h1]
    by_cases h2 : k = a
    · rw [if_pos h2, h2, h]
    · rw [if_neg h2]
theorem zSwp_same {σ : zσ} {a b : Nat} (h1 : zPaf σ a = zPaf σ b) (h2 : zLef σ a = zLef σ b) : zSwp σ a b = zSwW σ := by
  unfold zSwp
  rw [zExch_same h1, zExch_same h2]
  rfl
theorem zSwS_ge {σ : zσ} {a b : Nat} {s : Int64 × Int64} (h : zSwW σ ≤ s.2) : zSwW σ ≤ (zSwS σ a b s).2 := by
  unfold zSwS
  by_cases h1 : zPairσ σ a b
  · rw [if_pos h1]
    by_cases h2 : zSwp σ a b ≤ s.2
    · rw [if_pos h2]; exact h
    · rw [if_neg h2]
      have x := Int64.le_iff_toInt_le.mp h
      have y := mt Int64.le_iff_toInt_le.mpr h2
      exact Int64.le_iff_toInt_le.mpr (by show (zSwW σ).toInt ≤ (zSwp σ a b).toInt; omega)
  · rw [if_neg h1]; exact h
theorem zSw2_ge {σ : zσ} {a : Nat} : ∀ (q b : Nat) (s : Int64 × Int64), zSwW σ ≤ s.2 → zSwW σ ≤ (zSw2 σ a q b s).2
  | 0, _, _, h => h
  | q + 1, b, s, h => zSw2_ge q (b + 1) (zSwS σ a b s) (zSwS_ge h)
theorem zSw2_no {σ : zσ} {a : Nat} (h : ¬ zHσ σ a) : ∀ (q b : Nat) (s : Int64 × Int64), zSw2 σ a q b s = s
  | 0, _, _ => rfl
  | q + 1, b, s => by
    show zSw2 σ a q (b + 1) (zSwS σ a b s) = s
    rw [zSw2_no h q (b + 1), zSwS, if_neg (fun h2 => h h2.1)]
/-- with both there: the greater sweet water wins, alike or not -/
theorem zSwS_le {σ : zσ} {a b : Nat} {s : Int64 × Int64} (h : zSwp σ a b ≤ s.2) : zSwS σ a b s = s := by
  unfold zSwS
  by_cases h1 : zPairσ σ a b
  · rw [if_pos h1, if_pos h]
  · rw [if_neg h1]
theorem zSwS_gt {σ : zσ} {a b : Nat} {s : Int64 × Int64} (ha : zHσ σ a) (hb : zHσ σ b) (hs : zSwW σ ≤ s.2) (h : ¬ zSwp σ a b ≤ s.2) : zSwS σ a b s = (1000 * (nI (zNum a)).toInt64 + (nI (zNum b)).toInt64, zSwp σ a b) := by
  unfold zSwS
  rw [if_pos (⟨ha, hb, fun h2 => h (by rw [zSwp_same h2.1 h2.2]; exact hs)⟩ : zPairσ σ a b), if_neg h]
theorem j_lerf (x : Int64) : x ≤ x := Int64.le_iff_toInt_le.mpr (Int.le_refl _)
set_option maxRecDepth 100000 in
set_option maxHeartbeats 4000000 in
theorem lm_swapI (l : Launch) (G : zG) (ad : Nat → Nat) (σ : zσ) (hσ : zOk σ) (x0 : zY) (hN : zNb σ x0.1) (r : Int64) (a : Nat) (ha : a < 72) (s2 : Int64 × Int64) (K_ : ∀ u : zY, u.1 = x0.1 → AV l G sX6_swap (wM G ad σ x0) (zPostM G ad (r, σ)) 112 [some (.ref (ad 0)), some (.long s2.2), none, some (.long s2.1), none, some (.int (nI a)), none] [] (wM G ad σ u)) : ∀ (q b : Nat) (s : Int64 × Int64) (u : zY), b + q = 72 → a < b → zSw2 σ a q b s = s2 → zSwW σ ≤ s.2 → u.1 = x0.1 → AV l G sX6_swap (wM G ad σ x0) (zPostM G ad (r, σ)) 29 [some (.ref (ad 0)), some (.long s.2), none, some (.long s.1), none, some (.int (nI a)), some (.int (nI b))] [] (wM G ad σ u) := by
  intro q_
  induction q_ using Nat.strongRecOn
  rename_i q_ ih_
  intro b s u hq_ hab_ hz_ hs_ hu_
  refine a_iload_6 (pc := 29) dX6_swap_29 ?_
  refine a_bipush (v := 72) (pc := 31) dX6_swap_31 (by decide) ?_
  refine a_icmp_ge (tgt := 112) (pc := 33) dX6_swap_33 (by decide) (fun c_33 => ?_) (fun c_33 => ?_)
  · obtain rfl : q_ = 0 := by have := (zI_le (a := 72) (b := b) (by decide) (by omega)).mp c_33; omega
    obtain rfl : s = s2 := hz_
    exact a_forget_6 (K_ u hu_)
  · have hi_ : b < 72 := by have := mt (zI_le (a := 72) (b := b) (by decide) (by omega)).mpr c_33; omega
    obtain ⟨q2_, rfl⟩ : ∃ z, q_ = z + 1 := ⟨q_ - 1, by omega⟩
    have hz2_ : zSw2 σ a q2_ (b + 1) (zSwS σ a b s) = s2 := hz_
    refine a_aload_0 (pc := 36) dX6_swap_36 ?_
    refine a_iload_5 (pc := 37) dX6_swap_37 ?_
    refine f_P (ad := ad) (q0 := 0) (S2 := sX6_isThere) (m_isThere l G ad σ hσ u a ha) kc_X6_isThere km_X6_138 ki_X6_isThere kv_X6_isThere kini_X6 ⟨kn_X6_isThere, by decide, by decide⟩ (pc := 39) dX6_swap_39 (znd_of rfl znd18) rfl rfl (Nat.le_of_ble_eq_true rfl) rfl rfl rfl ?_
    first | refine a_if_eqB (tgt := 112) (pc := 42) dX6_swap_42 (by decide) (fun c_42 => ?_) (fun c_42 => ?_) | refine a_if_eq (tgt := 112) (pc := 42) dX6_swap_42 (by decide) (fun c_42 => ?_) (fun c_42 => ?_)
    · rw [zSw2_no c_42] at hz_
      subst hz_
      exact a_forget_6 (K_ u hu_)
    · refine a_aload_0 (pc := 45) dX6_swap_45 ?_
      refine a_iload_6 (pc := 46) dX6_swap_46 ?_
      refine f_P (ad := ad) (q0 := 0) (S2 := sX6_isThere) (m_isThere l G ad σ hσ u b hi_) kc_X6_isThere km_X6_138 ki_X6_isThere kv_X6_isThere kini_X6 ⟨kn_X6_isThere, by decide, by decide⟩ (pc := 48) dX6_swap_48 (znd_of rfl znd18) rfl rfl (Nat.le_of_ble_eq_true rfl) rfl rfl rfl ?_
      first | refine a_if_eqB (tgt := 106) (pc := 51) dX6_swap_51 (by decide) (fun c_51 => ?_) (fun c_51 => ?_) | refine a_if_eq (tgt := 106) (pc := 51) dX6_swap_51 (by decide) (fun c_51 => ?_) (fun c_51 => ?_)
      · rw [show zSwS σ a b s = s from if_neg (fun h => c_51 h.2.1)] at hz2_
        refine a_iinc_6 (cst := 1) (pc := 106) dX6_swap_106 rfl (by decide) (by decide) ?_
        refine a_goto (tgt := 29) (pc := 109) dX6_swap_109 (by decide) ?_
        rw [← nI_succ]
        first
          | exact ih_ q2_ (by omega) (b + 1) _ (u.1, B_, zJF (zσx σ a b) (zFin (zσx σ a b) (nI (σ.1 3)) (zMs σ)), u.2.2.2) (by omega) (by omega) hz2_ hge_ hu_
          | exact ih_ q2_ (by omega) (b + 1) _ (u.1, B_, zJF (zσx σ a b) (zFin (zσx σ a b) (nI (σ.1 3)) (zMs σ)), u.2.2.2) (by omega) (by omega) hz2_ hs_ hu_
          | exact ih_ q2_ (by omega) (b + 1) _ u (by omega) (by omega) hz2_ hs_ hu_
      · refine a_aload_0 (pc := 54) dX6_swap_54 ?_
        refine a_iload_5 (pc := 55) dX6_swap_55 ?_
        refine a_iload_6 (pc := 57) dX6_swap_57 ?_
        refine f_0 (ad := ad) (q0 := 0) (S2 := sX6_exchange) (m_exchange l G ad σ u a b ha hi_) kc_X6_exchange km_X6_96 ki_X6_exchange kv_X6_exchange kini_X6 ⟨kn_X6_exchange, by decide, by decide⟩ (pc := 59) dX6_swap_59 (znd_of rfl znd18) rfl rfl (Nat.le_of_ble_eq_true rfl) rfl rfl rfl (fun _u1 _ => ?_)
        refine a_aload_0 (pc := 62) dX6_swap_62 ?_
        refine f_0 (ad := ad) (q0 := 0) (S2 := sX6_flowNow) (m_flowNow l G ad (zσx σ a b) (zOk_x hσ ha hi_) u) kc_X6_flowNow km_X6_143 ki_X6_flowNow kv_X6_flowNow kini_X6 ⟨kn_X6_flowNow, by decide, by decide⟩ (pc := 63) dX6_swap_63 (znd_of rfl znd18) rfl rfl (Nat.le_of_ble_eq_true rfl) rfl rfl rfl (fun B_ hB_ => ?_)
        refine a_aload_0 (pc := 66) dX6_swap_66 ?_
        refine a_iload_5 (pc := 67) dX6_swap_67 ?_
        refine a_iload_6 (pc := 69) dX6_swap_69 ?_
        refine f_0 (ad := ad) (q0 := 0) (S2 := sX6_exchange) (m_exchange l G ad (zσx σ a b) (u.1, B_, zJF (zσx σ a b) (zFin (zσx σ a b) (nI (σ.1 3)) (zMs σ)), u.2.2.2) a b ha hi_) kc_X6_exchange km_X6_96 ki_X6_exchange kv_X6_exchange kini_X6 ⟨kn_X6_exchange, by decide, by decide⟩ (pc := 71) dX6_swap_71 (znd_of rfl znd18) rfl rfl (Nat.le_of_ble_eq_true rfl) rfl rfl rfl (fun _u2 _ => ?_)
        refine a_to (ws2 := wM G ad σ (u.1, B_, zJF (zσx σ a b) (zFin (zσx σ a b) (nI (σ.1 3)) (zMs σ)), u.2.2.2)) ?_ rfl rfl rfl (congrArg (fun s_ => wM G ad s_ (u.1, B_, zJF (zσx σ a b) (zFin (zσx σ a b) (nI (σ.1 3)) (zMs σ)), u.2.2.2)) (zσx_inv σ (show ¬ a = b by omega)).symm)
        refine a_aload_0 (pc := 74) dX6_swap_74 ?_
        refine a_getf (ci := 6) (j := 18) rfl win_X6 (by decide) (pc := 75) dX6_swap_75 kf_X6_108 rfl rfl ?_
        refine a_topL (zFin_x hσ a b) ?_
        refine a_lload_1 (pc := 78) dX6_swap_78 ?_
        refine a_lif_le (tgt := 106) (pc := 79) dX6_swap_79 dX6_swap_80 (by decide) (fun c_79 => ?_) (fun c_79 => ?_)
        · rw [zSwS_le c_79] at hz2_
          refine a_iinc_6 (cst := 1) (pc := 106) dX6_swap_106 rfl (by decide) (by decide) ?_
          refine a_goto (tgt := 29) (pc := 109) dX6_swap_109 (by decide) ?_
          rw [← nI_succ]
          first
            | exact ih_ q2_ (by omega) (b + 1) _ (u.1, B_, zJF (zσx σ a b) (zFin (zσx σ a b) (nI (σ.1 3)) (zMs σ)), u.2.2.2) (by omega) (by omega) hz2_ hge_ hu_
            | exact ih_ q2_ (by omega) (b + 1) _ (u.1, B_, zJF (zσx σ a b) (zFin (zσx σ a b) (nI (σ.1 3)) (zMs σ)), u.2.2.2) (by omega) (by omega) hz2_ hs_ hu_
            | exact ih_ q2_ (by omega) (b + 1) _ u (by omega) (by omega) hz2_ hs_ hu_
        · have hge_ := zSwS_ge (a := a) (b := b) hs_
          rw [zSwS_gt c_42 c_51 hs_ c_79] at hz2_ hge_
          refine a_aload_0 (pc := 83) dX6_swap_83 ?_
          refine a_getf (ci := 6) (j := 18) rfl win_X6 (by decide) (pc := 84) dX6_swap_84 kf_X6_108 rfl rfl ?_
          refine a_topL (zFin_x hσ a b) ?_
          refine a_lstore_1 (pc := 87) dX6_swap_87 rfl (by decide) ?_
          refine a_ldc2 (pc := 88) dX6_swap_88 kl_X6_106 ?_
          refine a_iload_5 (pc := 91) dX6_swap_91 ?_
          refine cS_P (S2 := sX6_skinAt) (m_skinAt l G a ha) kc_X6_skinAt km_X6_150 ks_X6_skinAt kini_X6 ⟨kn_X6_skinAt, by decide, by decide⟩ (pc := 93) dX6_swap_93 [] rfl rfl rfl rfl (Nat.le_of_ble_eq_true rfl) ?_
          refine a_i2l (pc := 96) dX6_swap_96 ?_
          refine a_lmul (pc := 97) dX6_swap_97 ?_
          refine a_iload_6 (pc := 98) dX6_swap_98 ?_
          refine cS_P (S2 := sX6_skinAt) (m_skinAt l G b hi_) kc_X6_skinAt km_X6_150 ks_X6_skinAt kini_X6 ⟨kn_X6_skinAt, by decide, by decide⟩ (pc := 100) dX6_swap_100 [] rfl rfl rfl rfl (Nat.le_of_ble_eq_true rfl) ?_
          refine a_i2l (pc := 103) dX6_swap_103 ?_
          refine a_ladd (pc := 104) dX6_swap_104 ?_
          refine a_lstore_3 (pc := 105) dX6_swap_105 rfl (by decide) ?_
          refine a_iinc_6 (cst := 1) (pc := 106) dX6_swap_106 rfl (by decide) (by decide) ?_
          refine a_goto (tgt := 29) (pc := 109) dX6_swap_109 (by decide) ?_
          rw [← nI_succ]
          first
            | exact ih_ q2_ (by omega) (b + 1) _ (u.1, B_, zJF (zσx σ a b) (zFin (zσx σ a b) (nI (σ.1 3)) (zMs σ)), u.2.2.2) (by omega) (by omega) hz2_ hge_ hu_
            | exact ih_ q2_ (by omega) (b + 1) _ (u.1, B_, zJF (zσx σ a b) (zFin (zσx σ a b) (nI (σ.1 3)) (zMs σ)), u.2.2.2) (by omega) (by omega) hz2_ hs_ hu_
            | exact ih_ q2_ (by omega) (b + 1) _ u (by omega) (by omega) hz2_ hs_ hu_

set_option maxRecDepth 100000 in
set_option maxHeartbeats 4000000 in
theorem lm_swapO (l : Launch) (G : zG) (ad : Nat → Nat) (σ : zσ) (hσ : zOk σ) (x0 : zY) (hN : zNb σ x0.1) (r : Int64) : ∀ (q a : Nat) (s : Int64 × Int64) (u : zY), a + q = 72 → (zSw1 σ q a s).1 = r → zSwW σ ≤ s.2 → u.1 = x0.1 → AV l G sX6_swap (wM G ad σ x0) (zPostM G ad (r, σ)) 16 [some (.ref (ad 0)), some (.long s.2), none, some (.long s.1), none, some (.int (nI a)), none] [] (wM G ad σ u) := by
  intro q_
  induction q_ using Nat.strongRecOn
  rename_i q_ ih_
  intro a s u hq_ hz_ hs_ hu_
  refine a_iload_5 (pc := 16) dX6_swap_16 ?_
  refine a_bipush (v := 72) (pc := 18) dX6_swap_18 (by decide) ?_
  refine a_icmp_ge (tgt := 118) (pc := 20) dX6_swap_20 (by decide) (fun c_20 => ?_) (fun c_20 => ?_)
  · obtain rfl : q_ = 0 := by have := (zI_le (a := 72) (b := a) (by decide) (by omega)).mp c_20; omega
    refine a_lload_3 (pc := 118) dX6_swap_118 ?_
    exact a_lret (pc := 119) dX6_swap_119 rfl rfl (mret (σ' := σ) u (by rw [← hz_]; rfl) (by rw [hu_]; exact hN) rfl)
  · have hi_ : a < 72 := by have := mt (zI_le (a := 72) (b := a) (by decide) (by omega)).mpr c_20; omega
    obtain ⟨q2_, rfl⟩ : ∃ z, q_ = z + 1 := ⟨q_ - 1, by omega⟩
    refine a_iload_5 (pc := 23) dX6_swap_23 ?_
    refine a_iconst (v := 1) (pc := 25) dX6_swap_25 (by decide) ?_
    refine a_iadd (pc := 26) dX6_swap_26 ?_
    refine a_istore_6 (pc := 27) dX6_swap_27 rfl (by decide) ?_
    rw [← nI_succ]
    refine lm_swapI l G ad σ hσ x0 hN r a hi_ _ (fun u3_ hu3_ => ?_) (71 - a) (a + 1) s u (by omega) (by omega) rfl hs_ hu_
    refine a_iinc_5 (cst := 1) (pc := 112) dX6_swap_112 rfl (by decide) (by decide) ?_
    refine a_goto (tgt := 16) (pc := 115) dX6_swap_115 (by decide) ?_
    rw [← nI_succ]
    exact ih_ q2_ (by omega) (a + 1) _ u3_ (by omega) hz_ (zSw2_ge _ _ _ hs_) hu3_

set_option maxRecDepth 100000 in
set_option maxHeartbeats 4000000 in
theorem m_swap (l : Launch) (G : zG) (ad : Nat → Nat) (σ : zσ) (x0 : zY) (hσ : zOk σ) (hN : zNb σ x0.1)  : zSem l G sX6_swap [.ref (ad 0)] (wM G ad σ x0) (zPostM G ad (o_swap σ)) := by
  refine zEnterV (L := [some (.ref (ad 0)), none, none, none, none, none, none]) (by decide) rfl (Nat.le_of_ble_eq_true rfl) rfl ?_
  refine a_aload_0 (pc := 0) dX6_swap_0 ?_
  refine f_0 (ad := ad) (q0 := 0) (S2 := sX6_flowNow) (m_flowNow l G ad σ hσ x0) kc_X6_flowNow km_X6_143 ki_X6_flowNow kv_X6_flowNow kini_X6 ⟨kn_X6_flowNow, by decide, by decide⟩ (pc := 1) dX6_swap_1 (znd_of rfl znd18) rfl rfl (Nat.le_of_ble_eq_true rfl) rfl rfl rfl (fun B_ hB_ => ?_)
  refine a_aload_0 (pc := 4) dX6_swap_4 ?_
  refine a_getf (ci := 6) (j := 18) rfl win_X6 (by decide) (pc := 5) dX6_swap_5 kf_X6_108 rfl rfl ?_
  refine a_lstore_1 (pc := 8) dX6_swap_8 rfl (by decide) ?_
  refine a_ldc2 (pc := 9) dX6_swap_9 kl_X6_157 ?_
  refine a_lstore_3 (pc := 12) dX6_swap_12 rfl (by decide) ?_
  refine a_iconst (v := 0) (pc := 13) dX6_swap_13 (by decide) ?_
  refine a_istore_5 (pc := 14) dX6_swap_14 rfl (by decide) ?_
  exact lm_swapO l G ad σ hσ x0 hN _ 72 0 (zNONE, zSwW σ) (x0.1, B_, zJF σ (zFin σ (nI (σ.1 3)) (zMs σ)), x0.2.2.2) (by omega) rfl (j_lerf _) rfl


/-! The model: what is asked of the flows; rules. -/
theorem zOutM_4 (pa le : Int32) (s : zSt3) : ∀ a, a < 4 → zOutM pa le s a = zOut pa le s a := by
  intro a ha
  rcases (show a = 0 ∨ a = 1 ∨ a = 2 ∨ a = 3 by omega) with rfl | rfl | rfl | rfl <;> rfl
theorem zRowsM_at {σ : zσ} {p : Int32} {m : Nat → Nat} {B : Nat → Nat → Int64} (hR : zRowsM (zPaf σ) (zLef σ) m (σ.1 0) (zS0p σ p) B 3) {k : Nat} (hk : k < 72) (h1 : k % 6 < σ.1 0) (h2 : k % 24 / 6 < m (k / 24)) {a : Nat} (ha : a < 4) : B a k = zCellp σ p m a k := by
  have e := hR (k / 24) (by omega) (k % 24 / 6) h2 (k % 6) h1 a (by omega)
  have ek : k / 24 * 24 + k % 24 / 6 * 6 + k % 6 = k := by omega
  rw [ek, zOutM_4 _ _ _ a ha] at e
  exact e
theorem zRowsM_a4 {σ : zσ} {p : Int32} {m : Nat → Nat} {B : Nat → Nat → Int64} (hR : zRowsM (zPaf σ) (zLef σ) m (σ.1 0) (zS0p σ p) B 3) {k : Nat} (hk : k < 72) (h1 : k % 6 < σ.1 0) (h2 : k % 24 / 6 < m (k / 24)) : B 4 k = zCellp σ p m 5 k := by
  have e := hR (k / 24) (by omega) (k % 24 / 6) h2 (k % 6) h1 4 (by omega)
  have ek : k / 24 * 24 + k % 24 / 6 * 6 + k % 6 = k := by omega
  rw [ek] at e
  exact e
theorem zFlM {σ : zσ} (hσ : zOk σ) {p : Int32} {B : Nat → Nat → Int64} (hB : zRowsM (zPaf σ) (zLef σ) (zMs σ) (σ.1 0) (zS0p σ p) B 3) {k : Nat} (hk : k < 72) (hd : zHσ σ k) {a : Nat} (ha : a < 4) : B a k = zCellp σ p (zMs σ) a k := by
  have e := (zHd_N hσ.2.2.2.2.2.1 hσ.1.2 hk).mp hd
  exact zRowsM_at hB hk e.1 e.2 ha
theorem zFlM4 {σ : zσ} (hσ : zOk σ) {p : Int32} {B : Nat → Nat → Int64} (hB : zRowsM (zPaf σ) (zLef σ) (zMs σ) (σ.1 0) (zS0p σ p) B 3) {k : Nat} (hk : k < 72) (hd : zHσ σ k) : B 4 k = zCellp σ p (zMs σ) 5 k := by
  have e := (zHd_N hσ.2.2.2.2.2.1 hσ.1.2 hk).mp hd
  exact zRowsM_a4 hB hk e.1 e.2
def zFi (v : Nat → Int32) (n : Int32) (W T : Nat → Int64) (least most : Int32) : Nat → Nat → Int32
  | 0, _ => -1
  | q + 1, i => if zHd v n i then (if least.toInt64 ≤ W i - T i then (if T i ≤ most.toInt64 then zFi v n W T least most q (i + 1) else 10 * nI (zNum i) + 2) else 10 * nI (zNum i) + 1) else zFi v n W T least most q (i + 1)
theorem zFi_1 : ∀ i, i < 72 → 0 ≤ 10 * nI (zNum i) + 1 ∧ 10 * (nI (zNum i)).toInt64 + 1 = (10 * nI (zNum i) + 1).toInt64 := by decide +kernel
theorem zFi_2 : ∀ i, i < 72 → 0 ≤ 10 * nI (zNum i) + 2 ∧ 10 * (nI (zNum i)).toInt64 + 2 = (10 * nI (zNum i) + 2).toInt64 := by decide +kernel
theorem zFi_ff {v : Nat → Int32} {n : Int32} {W T : Nat → Int64} {least most : Int32} : ∀ q i, i + q = 72 → (zFi v n W T least most q i = -1 ∧ zFf v n W T least most q i = zNONE) ∨ (0 ≤ zFi v n W T least most q i ∧ zFf v n W T least most q i = (zFi v n W T least most q i).toInt64)
  | 0, _, _ => Or.inl ⟨rfl, rfl⟩
  | q + 1, i, h => by
    have ih := zFi_ff (v := v) (n := n) (W := W) (T := T) (least := least) (most := most) q (i + 1) (by omega)
    unfold zFi zFf
    by_cases h1 : zHd v n i
    · rw [if_pos h1, if_pos h1]
      by_cases h2 : least.toInt64 ≤ W i - T i
      · rw [if_pos h2, if_pos h2]
        by_cases h3 : T i ≤ most.toInt64
        · rw [if_pos h3, if_pos h3]; exact ih
        · rw [if_neg h3, if_neg h3]; exact Or.inr (zFi_2 i (by omega))
      · rw [if_neg h2, if_neg h2]; exact Or.inr (zFi_1 i (by omega))
    · rw [if_neg h1, if_neg h1]; exact ih
abbrev zFiσ (σ : zσ) (B : Nat → Nat → Int64) : Int32 := zFi (zVesf σ) (nI (σ.1 0)) (B 0) (B 3) (nI (σ.2.1 3 0)) (nI (σ.2.1 3 1)) 72 0
theorem zFiσ_ff {σ : zσ} (hσ : zOk σ) {p : Int32} {B : Nat → Nat → Int64} (hB : zRowsM (zPaf σ) (zLef σ) (zMs σ) (σ.1 0) (zS0p σ p) B 3) : (zFiσ σ B = -1 ∧ zFf (zVesf σ) (nI (σ.1 0)) (zCellp σ p (zMs σ) 0) (zCellp σ p (zMs σ) 3) (nI (σ.2.1 3 0)) (nI (σ.2.1 3 1)) 72 0 = zNONE) ∨ (0 ≤ zFiσ σ B ∧ zFf (zVesf σ) (nI (σ.1 0)) (zCellp σ p (zMs σ) 0) (zCellp σ p (zMs σ) 3) (nI (σ.2.1 3 0)) (nI (σ.2.1 3 1)) 72 0 = (zFiσ σ B).toInt64) := by
  rw [← zFf_cg (fun k hk hd => ⟨zFlM hσ hB hk hd (a := 0) (by decide), zFlM hσ hB hk hd (a := 3) (by decide)⟩) 72 0 rfl]
  exact zFi_ff 72 0 rfl
set_option maxRecDepth 100000 in
set_option maxHeartbeats 4000000 in
theorem m_flow (l : Launch) (G : zG) (ad : Nat → Nat) (σ : zσ) (x0 : zY) (hσ : zOk σ) (hN : zNb σ x0.1) (x : Int32) (c : Int32) : zSem l G sX6_flow [.ref (ad 0), .int x, .int c] (wM G ad σ x0) (zPostM G ad (o_flow σ x c)) := by
  refine zEnterV (L := [some (.ref (ad 0)), some (.int x), some (.int c), none]) (by decide) rfl (Nat.le_of_ble_eq_true rfl) rfl ?_
  refine a_iload_1 (pc := 0) dX6_flow_0 ?_
  refine cS_P (S2 := sX6_placeOf) (m_placeOf l G _) kc_X6_placeOf km_X6_85 ks_X6_placeOf kini_X6 ⟨kn_X6_placeOf, by decide, by decide⟩ (pc := 1) dX6_flow_1 [] rfl rfl rfl rfl (Nat.le_of_ble_eq_true rfl) ?_
  refine a_istore_3 (pc := 4) dX6_flow_4 rfl (by decide) ?_
  refine a_iload_3 (pc := 5) dX6_flow_5 ?_
  rcases hp_ : zPl x with _ | k
  · refine a_if_lt (tgt := 18) (pc := 6) dX6_flow_6 (by decide) (fun _ => ?_) (fun c_ => absurd (show zplace none < 0 by decide) c_)
    refine a_ldc2 (pc := 18) dX6_flow_18 kl_X6_79 ?_
    exact a_lret (pc := 21) dX6_flow_21 rfl rfl (by first | exact mret x0 (by unfold o_flow; rw [if_pos (Or.inl hp_)]) hN rfl | exact mret x0 (by unfold o_flow; rw [if_pos (Or.inr (Decidable.not_not.mp c_15))]) hN rfl)
  · have hk_ := zPl_lt hp_
    have hne_ : ¬ zPl x = none := by rw [hp_]; exact fun h => by cases h
    dsimp only [zplace]
    refine a_if_lt (tgt := 18) (pc := 6) dX6_flow_6 (by decide) (fun c_ => absurd c_ (nI_pos (by omega))) (fun _ => ?_)
    refine a_iload_2 (pc := 9) dX6_flow_9 ?_
    refine a_iconst (v := 0) (pc := 10) dX6_flow_10 (by decide) ?_
    refine a_iconst (v := 4) (pc := 11) dX6_flow_11 (by decide) ?_
    refine cS_P (S2 := sX6_isIn) (m_isIn l G _ _ _) kc_X6_isIn km_X6_75 ks_X6_isIn kini_X6 ⟨kn_X6_isIn, by decide, by decide⟩ (pc := 12) dX6_flow_12 [] rfl rfl rfl rfl (Nat.le_of_ble_eq_true rfl) ?_
    first | refine a_if_neB (tgt := 22) (pc := 15) dX6_flow_15 (by decide) (fun c_15 => ?_) (fun c_15 => ?_) | refine a_if_ne (tgt := 22) (pc := 15) dX6_flow_15 (by decide) (fun c_15 => ?_) (fun c_15 => ?_)
    · refine a_aload_0 (pc := 22) dX6_flow_22 ?_
      refine a_iload_3 (pc := 23) dX6_flow_23 ?_
      refine f_P (ad := ad) (q0 := 0) (S2 := sX6_isThere) (m_isThere l G ad σ hσ x0 k hk_) kc_X6_isThere km_X6_138 ki_X6_isThere kv_X6_isThere kini_X6 ⟨kn_X6_isThere, by decide, by decide⟩ (pc := 24) dX6_flow_24 (znd_of rfl znd18) rfl rfl (Nat.le_of_ble_eq_true rfl) rfl rfl rfl ?_
      first | refine a_if_neB (tgt := 34) (pc := 27) dX6_flow_27 (by decide) (fun c_27 => ?_) (fun c_27 => ?_) | refine a_if_ne (tgt := 34) (pc := 27) dX6_flow_27 (by decide) (fun c_27 => ?_) (fun c_27 => ?_)
      · refine a_aload_0 (pc := 34) dX6_flow_34 ?_
        refine f_0 (ad := ad) (q0 := 0) (S2 := sX6_flowNow) (m_flowNow l G ad σ hσ x0) kc_X6_flowNow km_X6_143 ki_X6_flowNow kv_X6_flowNow kini_X6 ⟨kn_X6_flowNow, by decide, by decide⟩ (pc := 35) dX6_flow_35 (znd_of rfl znd18) rfl rfl (Nat.le_of_ble_eq_true rfl) rfl rfl rfl (fun B_ hB_ => ?_)
        refine a_iload_2 (pc := 38) dX6_flow_38 ?_
        rcases zsw5 c_15 with rfl | rfl | rfl | rfl | rfl
        · refine a_tableIn (off := 29) (tgt := 68) (pc := 39) dX6_flow_39 (by decide) (by decide) (by decide) (by decide) ?_
          refine a_aload_0 (pc := 68) dX6_flow_68 ?_
          refine a_getf (ci := 6) (j := 13) rfl win_X6 (by decide) (pc := 69) dX6_flow_69 kf_X6_47 rfl rfl ?_
          refine a_iload_3 (pc := 72) dX6_flow_72 ?_
          refine a_laldN (pc := 73) dX6_flow_73 rfl (by omega) (by decide) ?_
          refine a_topL (zFlM hσ hB_ hk_ c_27 (a := 0) (by decide)) ?_
          exact a_lret (pc := 74) dX6_flow_74 rfl rfl (mret (r := zCell σ 0 k) (x0.1, B_, zJF σ (zFin σ (nI (σ.1 3)) (zMs σ)), x0.2.2.2) (by unfold o_flow; rw [if_neg (fun h => h.elim hne_ c_15), hp_, Option.getD_some, if_neg (fun h => h c_27), if_pos rfl]) hN rfl)
        · refine a_tableIn (off := 36) (tgt := 75) (pc := 39) dX6_flow_39 (by decide) (by decide) (by decide) (by decide) ?_
          refine a_aload_0 (pc := 75) dX6_flow_75 ?_
          refine a_getf (ci := 6) (j := 14) rfl win_X6 (by decide) (pc := 76) dX6_flow_76 kf_X6_51 rfl rfl ?_
          refine a_iload_3 (pc := 79) dX6_flow_79 ?_
          refine a_laldN (pc := 80) dX6_flow_80 rfl (by omega) (by decide) ?_
          refine a_topL (zFlM hσ hB_ hk_ c_27 (a := 1) (by decide)) ?_
          exact a_lret (pc := 81) dX6_flow_81 rfl rfl (mret (r := zCell σ 1 k) (x0.1, B_, zJF σ (zFin σ (nI (σ.1 3)) (zMs σ)), x0.2.2.2) (by unfold o_flow; rw [if_neg (fun h => h.elim hne_ c_15), hp_, Option.getD_some, if_neg (fun h => h c_27), if_neg (by decide), if_pos rfl]) hN rfl)
        · refine a_tableIn (off := 43) (tgt := 82) (pc := 39) dX6_flow_39 (by decide) (by decide) (by decide) (by decide) ?_
          refine a_aload_0 (pc := 82) dX6_flow_82 ?_
          refine a_getf (ci := 6) (j := 15) rfl win_X6 (by decide) (pc := 83) dX6_flow_83 kf_X6_54 rfl rfl ?_
          refine a_iload_3 (pc := 86) dX6_flow_86 ?_
          refine a_laldN (pc := 87) dX6_flow_87 rfl (by omega) (by decide) ?_
          refine a_topL (zFlM hσ hB_ hk_ c_27 (a := 2) (by decide)) ?_
          exact a_lret (pc := 88) dX6_flow_88 rfl rfl (mret (r := zCell σ 2 k) (x0.1, B_, zJF σ (zFin σ (nI (σ.1 3)) (zMs σ)), x0.2.2.2) (by unfold o_flow; rw [if_neg (fun h => h.elim hne_ c_15), hp_, Option.getD_some, if_neg (fun h => h c_27), if_neg (by decide), if_neg (by decide), if_pos rfl]) hN rfl)
        · refine a_tableIn (off := 50) (tgt := 89) (pc := 39) dX6_flow_39 (by decide) (by decide) (by decide) (by decide) ?_
          refine a_aload_0 (pc := 89) dX6_flow_89 ?_
          refine a_getf (ci := 6) (j := 16) rfl win_X6 (by decide) (pc := 90) dX6_flow_90 kf_X6_57 rfl rfl ?_
          refine a_iload_3 (pc := 93) dX6_flow_93 ?_
          refine a_laldN (pc := 94) dX6_flow_94 rfl (by omega) (by decide) ?_
          refine a_topL (zFlM hσ hB_ hk_ c_27 (a := 3) (by decide)) ?_
          exact a_lret (pc := 95) dX6_flow_95 rfl rfl (mret (r := zCell σ 3 k) (x0.1, B_, zJF σ (zFin σ (nI (σ.1 3)) (zMs σ)), x0.2.2.2) (by unfold o_flow; rw [if_neg (fun h => h.elim hne_ c_15), hp_, Option.getD_some, if_neg (fun h => h c_27), if_neg (by decide), if_neg (by decide), if_neg (by decide), if_pos rfl]) hN rfl)
        · refine a_tableOut (tgt := 96) (pc := 39) dX6_flow_39 (by decide) (by decide) ?_
          refine a_aload_0 (pc := 96) dX6_flow_96 ?_
          refine a_getf (ci := 6) (j := 17) rfl win_X6 (by decide) (pc := 97) dX6_flow_97 kf_X6_60 rfl rfl ?_
          refine a_iload_3 (pc := 100) dX6_flow_100 ?_
          refine a_laldN (pc := 101) dX6_flow_101 rfl (by omega) (by decide) ?_
          refine a_topL (zFlM4 hσ hB_ hk_ c_27) ?_
          exact a_lret (pc := 102) dX6_flow_102 rfl rfl (mret (r := zCell σ 5 k) (x0.1, B_, zJF σ (zFin σ (nI (σ.1 3)) (zMs σ)), x0.2.2.2) (by unfold o_flow; rw [if_neg (fun h => h.elim hne_ c_15), hp_, Option.getD_some, if_neg (fun h => h c_27), if_neg (by decide), if_neg (by decide), if_neg (by decide), if_neg (by decide)]) hN rfl)
      · refine a_ldc2 (pc := 30) dX6_flow_30 kl_X6_141 ?_
        exact a_lret (pc := 33) dX6_flow_33 rfl rfl (mret x0 (by unfold o_flow; rw [if_neg (fun h => h.elim hne_ c_15), hp_, Option.getD_some, if_pos c_27]) hN rfl)
    · refine a_ldc2 (pc := 18) dX6_flow_18 kl_X6_79 ?_
      exact a_lret (pc := 21) dX6_flow_21 rfl rfl (by first | exact mret x0 (by unfold o_flow; rw [if_pos (Or.inl hp_)]) hN rfl | exact mret x0 (by unfold o_flow; rw [if_pos (Or.inr (Decidable.not_not.mp c_15))]) hN rfl)

set_option maxRecDepth 100000 in
set_option maxHeartbeats 4000000 in
theorem m_sweet (l : Launch) (G : zG) (ad : Nat → Nat) (σ : zσ) (x0 : zY) (hσ : zOk σ) (hN : zNb σ x0.1) (c : Int32) : zSem l G sX6_sweet [.ref (ad 0), .int c] (wM G ad σ x0) (zPostM G ad (o_sweet σ c)) := by
  refine zEnterV (L := [some (.ref (ad 0)), some (.int c)]) (by decide) rfl (Nat.le_of_ble_eq_true rfl) rfl ?_
  refine a_iload_1 (pc := 0) dX6_sweet_0 ?_
  refine a_iconst (v := 0) (pc := 1) dX6_sweet_1 (by decide) ?_
  refine a_iconst (v := 2) (pc := 2) dX6_sweet_2 (by decide) ?_
  refine cS_P (S2 := sX6_isIn) (m_isIn l G _ _ _) kc_X6_isIn km_X6_75 ks_X6_isIn kini_X6 ⟨kn_X6_isIn, by decide, by decide⟩ (pc := 3) dX6_sweet_3 [] rfl rfl rfl rfl (Nat.le_of_ble_eq_true rfl) ?_
  first | refine a_if_neB (tgt := 13) (pc := 6) dX6_sweet_6 (by decide) (fun c_6 => ?_) (fun c_6 => ?_) | refine a_if_ne (tgt := 13) (pc := 6) dX6_sweet_6 (by decide) (fun c_6 => ?_) (fun c_6 => ?_)
  · refine a_aload_0 (pc := 13) dX6_sweet_13 ?_
    refine f_0 (ad := ad) (q0 := 0) (S2 := sX6_flowNow) (m_flowNow l G ad σ hσ x0) kc_X6_flowNow km_X6_143 ki_X6_flowNow kv_X6_flowNow kini_X6 ⟨kn_X6_flowNow, by decide, by decide⟩ (pc := 14) dX6_sweet_14 (znd_of rfl znd18) rfl rfl (Nat.le_of_ble_eq_true rfl) rfl rfl rfl (fun B_ hB_ => ?_)
    refine a_iload_1 (pc := 17) dX6_sweet_17 ?_
    first | refine a_if_neB (tgt := 28) (pc := 18) dX6_sweet_18 (by decide) (fun c_18 => ?_) (fun c_18 => ?_) | refine a_if_ne (tgt := 28) (pc := 18) dX6_sweet_18 (by decide) (fun c_18 => ?_) (fun c_18 => ?_)
    · refine a_iload_1 (pc := 28) dX6_sweet_28 ?_
      refine a_iconst (v := 1) (pc := 29) dX6_sweet_29 (by decide) ?_
      refine a_icmp_ne (tgt := 40) (pc := 30) dX6_sweet_30 (by decide) (fun c_30 => ?_) (fun c_30 => ?_)
      · refine a_aload_0 (pc := 40) dX6_sweet_40 ?_
        refine a_getf (ci := 6) (j := 18) rfl win_X6 (by decide) (pc := 41) dX6_sweet_41 kf_X6_108 rfl rfl ?_
        refine a_aload_0 (pc := 44) dX6_sweet_44 ?_
        refine a_getf (ci := 6) (j := 19) rfl win_X6 (by decide) (pc := 45) dX6_sweet_45 kf_X6_112 rfl rfl ?_
        refine cS_P (S2 := sX6_saltOf) (m_saltOf l G _ _) kc_X6_saltOf km_X6_100 ks_X6_saltOf kini_X6 ⟨kn_X6_saltOf, by decide, by decide⟩ (pc := 48) dX6_sweet_48 [] rfl rfl rfl rfl (Nat.le_of_ble_eq_true rfl) ?_
        exact a_lret (pc := 51) dX6_sweet_51 rfl rfl (by first | exact mret (x0.1, B_, zJF σ (zFin σ (nI (σ.1 3)) (zMs σ)), x0.2.2.2) (by unfold o_sweet; rw [if_neg c_6, if_pos c_18]; rfl) hN rfl | exact mret (x0.1, B_, zJF σ (zFin σ (nI (σ.1 3)) (zMs σ)), x0.2.2.2) (by unfold o_sweet; rw [if_neg c_6, if_neg c_18, if_pos c_30]; rfl) hN rfl | exact mret (x0.1, B_, zJF σ (zFin σ (nI (σ.1 3)) (zMs σ)), x0.2.2.2) (by unfold o_sweet; rw [if_neg c_6, if_neg c_18, if_neg c_30]; rfl) hN rfl)
      · refine a_aload_0 (pc := 33) dX6_sweet_33 ?_
        refine a_getf (ci := 6) (j := 19) rfl win_X6 (by decide) (pc := 34) dX6_sweet_34 kf_X6_112 rfl rfl ?_
        refine a_goto (tgt := 51) (pc := 37) dX6_sweet_37 (by decide) ?_
        exact a_lret (pc := 51) dX6_sweet_51 rfl rfl (by first | exact mret (x0.1, B_, zJF σ (zFin σ (nI (σ.1 3)) (zMs σ)), x0.2.2.2) (by unfold o_sweet; rw [if_neg c_6, if_pos c_18]; rfl) hN rfl | exact mret (x0.1, B_, zJF σ (zFin σ (nI (σ.1 3)) (zMs σ)), x0.2.2.2) (by unfold o_sweet; rw [if_neg c_6, if_neg c_18, if_pos c_30]; rfl) hN rfl | exact mret (x0.1, B_, zJF σ (zFin σ (nI (σ.1 3)) (zMs σ)), x0.2.2.2) (by unfold o_sweet; rw [if_neg c_6, if_neg c_18, if_neg c_30]; rfl) hN rfl)
    · refine a_aload_0 (pc := 21) dX6_sweet_21 ?_
      refine a_getf (ci := 6) (j := 18) rfl win_X6 (by decide) (pc := 22) dX6_sweet_22 kf_X6_108 rfl rfl ?_
      refine a_goto (tgt := 51) (pc := 25) dX6_sweet_25 (by decide) ?_
      exact a_lret (pc := 51) dX6_sweet_51 rfl rfl (by first | exact mret (x0.1, B_, zJF σ (zFin σ (nI (σ.1 3)) (zMs σ)), x0.2.2.2) (by unfold o_sweet; rw [if_neg c_6, if_pos c_18]; rfl) hN rfl | exact mret (x0.1, B_, zJF σ (zFin σ (nI (σ.1 3)) (zMs σ)), x0.2.2.2) (by unfold o_sweet; rw [if_neg c_6, if_neg c_18, if_pos c_30]; rfl) hN rfl | exact mret (x0.1, B_, zJF σ (zFin σ (nI (σ.1 3)) (zMs σ)), x0.2.2.2) (by unfold o_sweet; rw [if_neg c_6, if_neg c_18, if_neg c_30]; rfl) hN rfl)
  · refine a_ldc2 (pc := 9) dX6_sweet_9 kl_X6_79 ?_
    exact a_lret (pc := 12) dX6_sweet_12 rfl rfl (mret x0 (by unfold o_sweet; rw [if_pos (Decidable.not_not.mp c_6)]) hN rfl)

set_option maxRecDepth 100000 in
set_option maxHeartbeats 4000000 in
theorem m_brine (l : Launch) (G : zG) (ad : Nat → Nat) (σ : zσ) (x0 : zY) (hσ : zOk σ) (hN : zNb σ x0.1) (c : Int32) : zSem l G sX6_brine [.ref (ad 0), .int c] (wM G ad σ x0) (zPostM G ad (o_brine σ c)) := by
  refine zEnterV (L := [some (.ref (ad 0)), some (.int c)]) (by decide) rfl (Nat.le_of_ble_eq_true rfl) rfl ?_
  refine a_iload_1 (pc := 0) dX6_brine_0 ?_
  refine a_iconst (v := 0) (pc := 1) dX6_brine_1 (by decide) ?_
  refine a_iconst (v := 2) (pc := 2) dX6_brine_2 (by decide) ?_
  refine cS_P (S2 := sX6_isIn) (m_isIn l G _ _ _) kc_X6_isIn km_X6_75 ks_X6_isIn kini_X6 ⟨kn_X6_isIn, by decide, by decide⟩ (pc := 3) dX6_brine_3 [] rfl rfl rfl rfl (Nat.le_of_ble_eq_true rfl) ?_
  first | refine a_if_neB (tgt := 13) (pc := 6) dX6_brine_6 (by decide) (fun c_6 => ?_) (fun c_6 => ?_) | refine a_if_ne (tgt := 13) (pc := 6) dX6_brine_6 (by decide) (fun c_6 => ?_) (fun c_6 => ?_)
  · refine a_aload_0 (pc := 13) dX6_brine_13 ?_
    refine f_0 (ad := ad) (q0 := 0) (S2 := sX6_flowNow) (m_flowNow l G ad σ hσ x0) kc_X6_flowNow km_X6_143 ki_X6_flowNow kv_X6_flowNow kini_X6 ⟨kn_X6_flowNow, by decide, by decide⟩ (pc := 14) dX6_brine_14 (znd_of rfl znd18) rfl rfl (Nat.le_of_ble_eq_true rfl) rfl rfl rfl (fun B_ hB_ => ?_)
    refine a_iload_1 (pc := 17) dX6_brine_17 ?_
    first | refine a_if_neB (tgt := 28) (pc := 18) dX6_brine_18 (by decide) (fun c_18 => ?_) (fun c_18 => ?_) | refine a_if_ne (tgt := 28) (pc := 18) dX6_brine_18 (by decide) (fun c_18 => ?_) (fun c_18 => ?_)
    · refine a_iload_1 (pc := 28) dX6_brine_28 ?_
      refine a_iconst (v := 1) (pc := 29) dX6_brine_29 (by decide) ?_
      refine a_icmp_ne (tgt := 40) (pc := 30) dX6_brine_30 (by decide) (fun c_30 => ?_) (fun c_30 => ?_)
      · refine a_aload_0 (pc := 40) dX6_brine_40 ?_
        refine a_getf (ci := 6) (j := 22) rfl win_X6 (by decide) (pc := 41) dX6_brine_41 kf_X6_127 rfl rfl ?_
        exact a_lret (pc := 44) dX6_brine_44 rfl rfl (by first | exact mret (x0.1, B_, zJF σ (zFin σ (nI (σ.1 3)) (zMs σ)), x0.2.2.2) (by unfold o_brine; rw [if_neg c_6, if_pos c_18]; rfl) hN rfl | exact mret (x0.1, B_, zJF σ (zFin σ (nI (σ.1 3)) (zMs σ)), x0.2.2.2) (by unfold o_brine; rw [if_neg c_6, if_neg c_18, if_pos c_30]; rfl) hN rfl | exact mret (x0.1, B_, zJF σ (zFin σ (nI (σ.1 3)) (zMs σ)), x0.2.2.2) (by unfold o_brine; rw [if_neg c_6, if_neg c_18, if_neg c_30]; rfl) hN rfl)
      · refine a_aload_0 (pc := 33) dX6_brine_33 ?_
        refine a_getf (ci := 6) (j := 21) rfl win_X6 (by decide) (pc := 34) dX6_brine_34 kf_X6_124 rfl rfl ?_
        refine a_goto (tgt := 44) (pc := 37) dX6_brine_37 (by decide) ?_
        exact a_lret (pc := 44) dX6_brine_44 rfl rfl (by first | exact mret (x0.1, B_, zJF σ (zFin σ (nI (σ.1 3)) (zMs σ)), x0.2.2.2) (by unfold o_brine; rw [if_neg c_6, if_pos c_18]; rfl) hN rfl | exact mret (x0.1, B_, zJF σ (zFin σ (nI (σ.1 3)) (zMs σ)), x0.2.2.2) (by unfold o_brine; rw [if_neg c_6, if_neg c_18, if_pos c_30]; rfl) hN rfl | exact mret (x0.1, B_, zJF σ (zFin σ (nI (σ.1 3)) (zMs σ)), x0.2.2.2) (by unfold o_brine; rw [if_neg c_6, if_neg c_18, if_neg c_30]; rfl) hN rfl)
    · refine a_aload_0 (pc := 21) dX6_brine_21 ?_
      refine a_getf (ci := 6) (j := 20) rfl win_X6 (by decide) (pc := 22) dX6_brine_22 kf_X6_121 rfl rfl ?_
      refine a_goto (tgt := 44) (pc := 25) dX6_brine_25 (by decide) ?_
      exact a_lret (pc := 44) dX6_brine_44 rfl rfl (by first | exact mret (x0.1, B_, zJF σ (zFin σ (nI (σ.1 3)) (zMs σ)), x0.2.2.2) (by unfold o_brine; rw [if_neg c_6, if_pos c_18]; rfl) hN rfl | exact mret (x0.1, B_, zJF σ (zFin σ (nI (σ.1 3)) (zMs σ)), x0.2.2.2) (by unfold o_brine; rw [if_neg c_6, if_neg c_18, if_pos c_30]; rfl) hN rfl | exact mret (x0.1, B_, zJF σ (zFin σ (nI (σ.1 3)) (zMs σ)), x0.2.2.2) (by unfold o_brine; rw [if_neg c_6, if_neg c_18, if_neg c_30]; rfl) hN rfl)
  · refine a_ldc2 (pc := 9) dX6_brine_9 kl_X6_79 ?_
    exact a_lret (pc := 12) dX6_brine_12 rfl rfl (mret x0 (by unfold o_brine; rw [if_pos (Decidable.not_not.mp c_6)]) hN rfl)

set_option maxRecDepth 100000 in
set_option maxHeartbeats 4000000 in
/-- powerAt -/
theorem m_powerAt (l : Launch) (G : zG) (ad : Nat → Nat) (σ : zσ) (x0 : zY) (p : Int32) : zSem l G sX6_powerAt [.ref (ad 0), .int p] (wM G ad σ x0) (zP (.long (zPow σ p (x0.2.2.1 2) (x0.2.2.1 4))) (wM G ad σ x0)) := by
  refine zEnterV (L := [some (.ref (ad 0)), some (.int p)]) (by decide) rfl (Nat.le_of_ble_eq_true rfl) rfl ?_
  refine a_iload_1 (pc := 0) dX6_powerAt_0 ?_
  refine a_i2l (pc := 1) dX6_powerAt_1 ?_
  refine a_aload_0 (pc := 2) dX6_powerAt_2 ?_
  refine a_getf (ci := 6) (j := 4) rfl win_X6 (by decide) (pc := 3) dX6_powerAt_3 kf_X6_23 rfl rfl ?_
  refine a_i2l (pc := 6) dX6_powerAt_6 ?_
  refine a_lmul (pc := 7) dX6_powerAt_7 ?_
  refine a_ldc2 (pc := 8) dX6_powerAt_8 kl_X6_104 ?_
  refine a_ldiv (pc := 11) dX6_powerAt_11 (by decide) ?_
  refine a_aload_0 (pc := 12) dX6_powerAt_12 ?_
  refine a_getf (ci := 6) (j := 7) rfl win_X6 (by decide) (pc := 13) dX6_powerAt_13 kf_X6_32 rfl rfl ?_
  refine a_iconst (v := 2) (pc := 16) dX6_powerAt_16 (by decide) ?_
  refine a_ialdN (k := 2) (pc := 17) dX6_powerAt_17 rfl (by omega) (by decide) ?_
  refine a_i2l (pc := 18) dX6_powerAt_18 ?_
  refine a_aload_0 (pc := 19) dX6_powerAt_19 ?_
  refine a_getf (ci := 6) (j := 22) rfl win_X6 (by decide) (pc := 20) dX6_powerAt_20 kf_X6_127 rfl rfl ?_
  refine a_aload_0 (pc := 23) dX6_powerAt_23 ?_
  refine a_getf (ci := 6) (j := 20) rfl win_X6 (by decide) (pc := 24) dX6_powerAt_24 kf_X6_121 rfl rfl ?_
  refine a_lmul (pc := 27) dX6_powerAt_27 ?_
  refine a_ldc2 (pc := 28) dX6_powerAt_28 kl_X6_104 ?_
  refine a_ldiv (pc := 31) dX6_powerAt_31 (by decide) ?_
  refine a_lmul (pc := 32) dX6_powerAt_32 ?_
  refine a_ldc2 (pc := 33) dX6_powerAt_33 kl_X6_104 ?_
  refine a_ldiv (pc := 36) dX6_powerAt_36 (by decide) ?_
  refine a_lsub (pc := 37) dX6_powerAt_37 ?_
  exact a_lret (pc := 38) dX6_powerAt_38 rfl rfl ⟨rfl, rfl⟩

set_option maxRecDepth 100000 in
set_option maxHeartbeats 4000000 in
theorem m_power (l : Launch) (G : zG) (ad : Nat → Nat) (σ : zσ) (x0 : zY) (hσ : zOk σ) (hN : zNb σ x0.1)  : zSem l G sX6_power [.ref (ad 0)] (wM G ad σ x0) (zPostM G ad (o_power σ)) := by
  refine zEnterV (L := [some (.ref (ad 0))]) (by decide) rfl (Nat.le_of_ble_eq_true rfl) rfl ?_
  refine a_aload_0 (pc := 0) dX6_power_0 ?_
  refine f_0 (ad := ad) (q0 := 0) (S2 := sX6_flowNow) (m_flowNow l G ad σ hσ x0) kc_X6_flowNow km_X6_143 ki_X6_flowNow kv_X6_flowNow kini_X6 ⟨kn_X6_flowNow, by decide, by decide⟩ (pc := 1) dX6_power_1 (znd_of rfl znd18) rfl rfl (Nat.le_of_ble_eq_true rfl) rfl rfl rfl (fun B_ hB_ => ?_)
  refine a_aload_0 (pc := 4) dX6_power_4 ?_
  refine a_aload_0 (pc := 5) dX6_power_5 ?_
  refine a_getf (ci := 6) (j := 6) rfl win_X6 (by decide) (pc := 6) dX6_power_6 kf_X6_29 rfl rfl ?_
  refine f_P (ad := ad) (q0 := 0) (S2 := sX6_powerAt) (m_powerAt l G ad σ (x0.1, B_, zJF σ (zFin σ (nI (σ.1 3)) (zMs σ)), x0.2.2.2) _) kc_X6_powerAt km_X6_146 ki_X6_powerAt kv_X6_powerAt kini_X6 ⟨kn_X6_powerAt, by decide, by decide⟩ (pc := 9) dX6_power_9 (znd_of rfl znd18) rfl rfl (Nat.le_of_ble_eq_true rfl) rfl rfl rfl ?_
  exact a_lret (pc := 12) dX6_power_12 rfl rfl (mret (x0.1, B_, zJF σ (zFin σ (nI (σ.1 3)) (zMs σ)), x0.2.2.2) rfl hN rfl)

set_option maxRecDepth 100000 in
set_option maxHeartbeats 4000000 in
theorem lm_failing (l : Launch) (G : zG) (ad : Nat → Nat) (σ : zσ) (hσ : zOk σ) (x0 : zY) (r : Int32) : ∀ (q i : Nat), i + q = 72 → zFi (zVesf σ) (nI (σ.1 0)) (x0.2.1 0) (x0.2.1 3) (nI (σ.2.1 3 0)) (nI (σ.2.1 3 1)) q i = r → AV l G sX6_failing (wM G ad σ x0) (zP (.int r) (wM G ad σ x0)) 2 [some (.ref (ad 0)), some (.int (nI i))] [] (wM G ad σ x0) := by
  intro q_
  induction q_ using Nat.strongRecOn
  rename_i q_ ih_
  intro i hq_ hz_
  refine a_iload_1 (pc := 2) dX6_failing_2 ?_
  refine a_bipush (v := 72) (pc := 3) dX6_failing_3 (by decide) ?_
  refine a_icmp_ge (tgt := 83) (pc := 5) dX6_failing_5 (by decide) (fun c_5 => ?_) (fun c_5 => ?_)
  · obtain rfl : q_ = 0 := by have := (zI_le (a := 72) (b := i) (by decide) (by omega)).mp c_5; omega
    refine a_iconst (v := -1) (pc := 83) dX6_failing_83 (by decide) ?_
    exact a_iret (pc := 84) dX6_failing_84 rfl rfl ⟨congrArg (fun z => some (Value.int z)) hz_, rfl⟩
  · have hi_ : i < 72 := by have := mt (zI_le (a := 72) (b := i) (by decide) (by omega)).mpr c_5; omega
    obtain ⟨q2_, rfl⟩ : ∃ z, q_ = z + 1 := ⟨q_ - 1, by omega⟩
    unfold zFi at hz_
    refine a_aload_0 (pc := 8) dX6_failing_8 ?_
    refine a_iload_1 (pc := 9) dX6_failing_9 ?_
    refine f_P (ad := ad) (q0 := 0) (S2 := sX6_isThere) (m_isThere l G ad σ hσ x0 i hi_) kc_X6_isThere km_X6_138 ki_X6_isThere kv_X6_isThere kini_X6 ⟨kn_X6_isThere, by decide, by decide⟩ (pc := 10) dX6_failing_10 (znd_of rfl znd18) rfl rfl (Nat.le_of_ble_eq_true rfl) rfl rfl rfl ?_
    first | refine a_if_eqB (tgt := 77) (pc := 13) dX6_failing_13 (by decide) (fun c_13 => ?_) (fun c_13 => ?_) | refine a_if_eq (tgt := 77) (pc := 13) dX6_failing_13 (by decide) (fun c_13 => ?_) (fun c_13 => ?_)
    · rw [if_neg c_13] at hz_
      refine a_iinc_1 (cst := 1) (pc := 77) dX6_failing_77 rfl (by decide) (by decide) ?_
      refine a_goto (tgt := 2) (pc := 80) dX6_failing_80 (by decide) ?_
      rw [← nI_succ]
      exact ih_ q2_ (by omega) (i + 1) (by omega) hz_
    · rw [if_pos c_13] at hz_
      refine a_aload_0 (pc := 16) dX6_failing_16 ?_
      refine a_getf (ci := 6) (j := 13) rfl win_X6 (by decide) (pc := 17) dX6_failing_17 kf_X6_47 rfl rfl ?_
      refine a_iload_1 (pc := 20) dX6_failing_20 ?_
      refine a_laldN (pc := 21) dX6_failing_21 rfl (by omega) (by decide) ?_
      refine a_aload_0 (pc := 22) dX6_failing_22 ?_
      refine a_getf (ci := 6) (j := 16) rfl win_X6 (by decide) (pc := 23) dX6_failing_23 kf_X6_57 rfl rfl ?_
      refine a_iload_1 (pc := 26) dX6_failing_26 ?_
      refine a_laldN (pc := 27) dX6_failing_27 rfl (by omega) (by decide) ?_
      refine a_lsub (pc := 28) dX6_failing_28 ?_
      refine a_aload_0 (pc := 29) dX6_failing_29 ?_
      refine a_getf (ci := 6) (j := 7) rfl win_X6 (by decide) (pc := 30) dX6_failing_30 kf_X6_32 rfl rfl ?_
      refine a_iconst (v := 0) (pc := 33) dX6_failing_33 (by decide) ?_
      refine a_ialdN (k := 0) (pc := 34) dX6_failing_34 rfl (by omega) (by decide) ?_
      refine a_i2l (pc := 35) dX6_failing_35 ?_
      refine a_lif_ge (tgt := 50) (pc := 36) dX6_failing_36 dX6_failing_37 (by decide) (fun c_36 => ?_) (fun c_36 => ?_)
      · rw [if_pos c_36] at hz_
        refine a_aload_0 (pc := 50) dX6_failing_50 ?_
        refine a_getf (ci := 6) (j := 16) rfl win_X6 (by decide) (pc := 51) dX6_failing_51 kf_X6_57 rfl rfl ?_
        refine a_iload_1 (pc := 54) dX6_failing_54 ?_
        refine a_laldN (pc := 55) dX6_failing_55 rfl (by omega) (by decide) ?_
        refine a_aload_0 (pc := 56) dX6_failing_56 ?_
        refine a_getf (ci := 6) (j := 7) rfl win_X6 (by decide) (pc := 57) dX6_failing_57 kf_X6_32 rfl rfl ?_
        refine a_iconst (v := 1) (pc := 60) dX6_failing_60 (by decide) ?_
        refine a_ialdN (k := 1) (pc := 61) dX6_failing_61 rfl (by omega) (by decide) ?_
        refine a_i2l (pc := 62) dX6_failing_62 ?_
        refine a_lif_le (tgt := 77) (pc := 63) dX6_failing_63 dX6_failing_64 (by decide) (fun c_63 => ?_) (fun c_63 => ?_)
        · rw [if_pos c_63] at hz_
          refine a_iinc_1 (cst := 1) (pc := 77) dX6_failing_77 rfl (by decide) (by decide) ?_
          refine a_goto (tgt := 2) (pc := 80) dX6_failing_80 (by decide) ?_
          rw [← nI_succ]
          exact ih_ q2_ (by omega) (i + 1) (by omega) hz_
        · rw [if_neg c_63] at hz_
          refine a_bipush (v := 10) (pc := 67) dX6_failing_67 (by decide) ?_
          refine a_iload_1 (pc := 69) dX6_failing_69 ?_
          refine cS_P (S2 := sX6_skinAt) (m_skinAt l G i hi_) kc_X6_skinAt km_X6_150 ks_X6_skinAt kini_X6 ⟨kn_X6_skinAt, by decide, by decide⟩ (pc := 70) dX6_failing_70 [] rfl rfl rfl rfl (Nat.le_of_ble_eq_true rfl) ?_
          refine a_imul (pc := 73) dX6_failing_73 ?_
          refine a_iconst (v := 2) (pc := 74) dX6_failing_74 (by decide) ?_
          refine a_iadd (pc := 75) dX6_failing_75 ?_
          exact a_iret (pc := 76) dX6_failing_76 rfl rfl ⟨congrArg (fun z => some (Value.int z)) hz_, rfl⟩
      · rw [if_neg c_36] at hz_
        refine a_bipush (v := 10) (pc := 40) dX6_failing_40 (by decide) ?_
        refine a_iload_1 (pc := 42) dX6_failing_42 ?_
        refine cS_P (S2 := sX6_skinAt) (m_skinAt l G i hi_) kc_X6_skinAt km_X6_150 ks_X6_skinAt kini_X6 ⟨kn_X6_skinAt, by decide, by decide⟩ (pc := 43) dX6_failing_43 [] rfl rfl rfl rfl (Nat.le_of_ble_eq_true rfl) ?_
        refine a_imul (pc := 46) dX6_failing_46 ?_
        refine a_iconst (v := 1) (pc := 47) dX6_failing_47 (by decide) ?_
        refine a_iadd (pc := 48) dX6_failing_48 ?_
        exact a_iret (pc := 49) dX6_failing_49 rfl rfl ⟨congrArg (fun z => some (Value.int z)) hz_, rfl⟩

set_option maxRecDepth 100000 in
set_option maxHeartbeats 4000000 in
/-- failing -/
theorem m_failing (l : Launch) (G : zG) (ad : Nat → Nat) (σ : zσ) (hσ : zOk σ) (x0 : zY) : zSem l G sX6_failing [.ref (ad 0)] (wM G ad σ x0) (zP (.int (zFiσ σ x0.2.1)) (wM G ad σ x0)) := by
  refine zEnterV (L := [some (.ref (ad 0)), none]) (by decide) rfl (Nat.le_of_ble_eq_true rfl) rfl ?_
  refine a_iconst (v := 0) (pc := 0) dX6_failing_0 (by decide) ?_
  refine a_istore_1 (pc := 1) dX6_failing_1 rfl (by decide) ?_
  exact lm_failing l G ad σ hσ x0 _ 72 0 (by omega) rfl

set_option maxRecDepth 100000 in
set_option maxHeartbeats 4000000 in
theorem m_failure (l : Launch) (G : zG) (ad : Nat → Nat) (σ : zσ) (x0 : zY) (hσ : zOk σ) (hN : zNb σ x0.1)  : zSem l G sX6_failure [.ref (ad 0)] (wM G ad σ x0) (zPostM G ad (o_failure σ)) := by
  refine zEnterV (L := [some (.ref (ad 0)), none]) (by decide) rfl (Nat.le_of_ble_eq_true rfl) rfl ?_
  refine a_aload_0 (pc := 0) dX6_failure_0 ?_
  refine f_0 (ad := ad) (q0 := 0) (S2 := sX6_flowNow) (m_flowNow l G ad σ hσ x0) kc_X6_flowNow km_X6_143 ki_X6_flowNow kv_X6_flowNow kini_X6 ⟨kn_X6_flowNow, by decide, by decide⟩ (pc := 1) dX6_failure_1 (znd_of rfl znd18) rfl rfl (Nat.le_of_ble_eq_true rfl) rfl rfl rfl (fun B_ hB_ => ?_)
  refine a_aload_0 (pc := 4) dX6_failure_4 ?_
  refine f_P (ad := ad) (q0 := 0) (S2 := sX6_failing) (m_failing l G ad σ hσ (x0.1, B_, zJF σ (zFin σ (nI (σ.1 3)) (zMs σ)), x0.2.2.2)) kc_X6_failing km_X6_153 ki_X6_failing kv_X6_failing kini_X6 ⟨kn_X6_failing, by decide, by decide⟩ (pc := 5) dX6_failure_5 (znd_of rfl znd18) rfl rfl (Nat.le_of_ble_eq_true rfl) rfl rfl rfl ?_
  have hF_ := zFiσ_ff hσ hB_
  refine a_istore_1 (pc := 8) dX6_failure_8 rfl (by decide) ?_
  refine a_iload_1 (pc := 9) dX6_failure_9 ?_
  refine a_if_ge (tgt := 19) (pc := 10) dX6_failure_10 (by decide) (fun c_10 => ?_) (fun c_10 => ?_)
  · have e_ : (o_failure σ).1 = (zFiσ σ B_).toInt64 := by
      rcases hF_ with ⟨ha_, hb_⟩ | ⟨ha_, hb_⟩
      · exact absurd (show (0 : Int32) ≤ zFiσ σ B_ from c_10) (by rw [ha_]; decide)
      · exact hb_
    refine a_iload_1 (pc := 19) dX6_failure_19 ?_
    refine a_i2l (pc := 20) dX6_failure_20 ?_
    exact a_lret (pc := 21) dX6_failure_21 rfl rfl (mret (σ' := σ) (x0.1, B_, zJF σ (zFin σ (nI (σ.1 3)) (zMs σ)), x0.2.2.2) (Prod.ext e_ rfl) hN rfl)
  · have e_ : (o_failure σ).1 = zNONE := by
      rcases hF_ with ⟨ha_, hb_⟩ | ⟨ha_, hb_⟩
      · exact hb_
      · exact absurd ha_ c_10
    refine a_ldc2 (pc := 13) dX6_failure_13 kl_X6_157 ?_
    refine a_goto (tgt := 21) (pc := 16) dX6_failure_16 (by decide) ?_
    exact a_lret (pc := 21) dX6_failure_21 rfl rfl (mret (σ' := σ) (x0.1, B_, zJF σ (zFin σ (nI (σ.1 3)) (zMs σ)), x0.2.2.2) (Prod.ext e_ rfl) hN rfl)

theorem zrule_k {k : Nat} (hk : k ≤ 6) : k = 0 ∨ k = 1 ∨ k = 2 ∨ k = 3 ∨ k = 4 ∨ k = 5 ∨ k = 6 := by omega
theorem zrule_h1 {k : Nat} (hk : k < 2) : (9999 : Int32) = nI (zRuleHi k) := by
  rcases (show k = 0 ∨ k = 1 by omega) with rfl | rfl <;> decide +kernel
theorem zrule_h5 {k : Nat} (hk : k = 5 ∨ k = 6) : (200 : Int32) = nI (zRuleHi k) := by
  rcases hk with rfl | rfl <;> decide +kernel
theorem zrule_l0 {k : Nat} (hk : k ≤ 6) (h : ¬ k = 3) : (0 : Int32) = nI (zRuleLo k) := by
  rcases zrule_k hk with rfl | rfl | rfl | rfl | rfl | rfl | rfl <;> first | exact absurd rfl h | rfl
set_option maxRecDepth 100000 in
set_option maxHeartbeats 4000000 in
theorem m_rule (l : Launch) (G : zG) (ad : Nat → Nat) (σ : zσ) (x0 : zY) (hσ : zOk σ) (hN : zNb σ x0.1) (x : Int32) (v : Int32) : zSem l G sX6_rule [.ref (ad 0), .int x, .int v] (wM G ad σ x0) (zPostM G ad (o_rule σ x v)) := by
  refine zEnterV (L := [some (.ref (ad 0)), some (.int x), some (.int v), none, none]) (by decide) rfl (Nat.le_of_ble_eq_true rfl) rfl ?_
  refine a_iload_1 (pc := 0) dX6_rule_0 ?_
  refine a_iconst (v := 0) (pc := 1) dX6_rule_1 (by decide) ?_
  refine a_bipush (v := 6) (pc := 2) dX6_rule_2 (by decide) ?_
  refine cS_P (S2 := sX6_isIn) (m_isIn l G _ _ _) kc_X6_isIn km_X6_75 ks_X6_isIn kini_X6 ⟨kn_X6_isIn, by decide, by decide⟩ (pc := 4) dX6_rule_4 [] rfl rfl rfl rfl (Nat.le_of_ble_eq_true rfl) ?_
  refine a_istore_3 (pc := 7) dX6_rule_7 rfl (by decide) ?_
  have J76_ : ∀ y_ : Int32, y_ = zB (¬ (zOR x 0 6 ∨ zOR v (nI (zRuleLo x.toNatClampNeg)) (nI (zRuleHi x.toNatClampNeg)))) → AV l G sX6_rule (wM G ad σ x0) (zPostM G ad (o_rule σ x v)) 76 [some (.ref (ad 0)), some (.int x), some (.int v), some (.int y_), none] [] (wM G ad σ x0) := by
    intro y_ hy_; subst hy_
    refine a_iload_3 (pc := 76) dX6_rule_76 ?_
    first | refine a_if_neB (tgt := 84) (pc := 77) dX6_rule_77 (by decide) (fun c_77 => ?_) (fun c_77 => ?_) | refine a_if_ne (tgt := 84) (pc := 77) dX6_rule_77 (by decide) (fun c_77 => ?_) (fun c_77 => ?_)
    · obtain ⟨k, hk_, rfl⟩ := zrange (n := 6) (by decide) rfl (fun h => c_77 (Or.inl h))
      have c2_ := c_77
      rw [nI_clamp (by omega)] at c2_
      obtain ⟨mm_, hm_, rfl⟩ := zrangeL (by have := zrule_hb k (by omega); omega) (zrule_hb k (by omega)).1 (fun h => c2_ (Or.inr h))
      have hh_ := (zrule_hb k (by omega)).1
      refine a_aload_0 (pc := 84) dX6_rule_84 ?_
      refine a_getf (ci := 6) (j := 7) rfl win_X6 (by decide) (pc := 85) dX6_rule_85 kf_X6_32 rfl rfl ?_
      refine a_iload_1 (pc := 88) dX6_rule_88 ?_
      refine a_ialdN (pc := 89) dX6_rule_89 rfl (by omega) (by decide) ?_
      refine a_istore_4 (pc := 90) dX6_rule_90 rfl (by decide) ?_
      refine a_aload_0 (pc := 92) dX6_rule_92 ?_
      refine a_getf (ci := 6) (j := 7) rfl win_X6 (by decide) (pc := 93) dX6_rule_93 kf_X6_32 rfl rfl ?_
      refine a_iload_1 (pc := 96) dX6_rule_96 ?_
      refine a_iload_2 (pc := 97) dX6_rule_97 ?_
      refine a_iastN (pc := 98) dX6_rule_98 rfl (by omega) (by decide) ?_
      refine a_iload_4 (pc := 99) dX6_rule_99 ?_
      refine a_i2l (pc := 101) dX6_rule_101 ?_
      exact a_lret (pc := 102) dX6_rule_102 rfl rfl (by
          have e_ : o_rule σ (nI k) (nI mm_) = _ := if_neg c_77
          rw [nI_clamp (by omega), nI_clamp (by omega)] at e_
          exact mret x0 e_ hN (by rw [updN]; rfl))
    · refine a_ldc2 (pc := 80) dX6_rule_80 kl_X6_79 ?_
      exact a_lret (pc := 83) dX6_rule_83 rfl rfl (mret x0 (if_pos (Decidable.not_not.mp c_77)) hN rfl)
  refine a_iload_3 (pc := 8) dX6_rule_8 ?_
  first | refine a_if_eqB (tgt := 76) (pc := 9) dX6_rule_9 (by decide) (fun c_9 => ?_) (fun c_9 => ?_) | refine a_if_eq (tgt := 76) (pc := 9) dX6_rule_9 (by decide) (fun c_9 => ?_) (fun c_9 => ?_)
  · have e76_ : ¬ zOR x 0 6 ↔ ¬ (zOR x 0 6 ∨ zOR v (nI (zRuleLo x.toNatClampNeg)) (nI (zRuleHi x.toNatClampNeg))) := ⟨fun h => absurd h c_9, fun h => absurd (fun h2 => h (Or.inl h2)) c_9⟩
    first | exact J76_ _ (zB_congr e76_) | exact a_forget_4 (J76_ _ (zB_congr e76_))
  · obtain ⟨k, hk_, rfl⟩ := zrange (n := 6) (by decide) rfl c_9
    have J57_ : ∀ h_ : Int32, h_ = nI (zRuleHi k) → AV l G sX6_rule (wM G ad σ x0) (zPostM G ad (o_rule σ (nI k) v)) 57 [some (.ref (ad 0)), some (.int (nI k)), some (.int v), some (.int (zB (¬ zOR (nI k) 0 6))), none] [.int h_] (wM G ad σ x0) := by
      intro h_ hh_; subst hh_
      refine a_istore_4 (pc := 57) dX6_rule_57 rfl (by decide) ?_
      refine a_iload_2 (pc := 59) dX6_rule_59 ?_
      have J70_ : ∀ z_ : Int32, z_ = nI (zRuleLo k) → AV l G sX6_rule (wM G ad σ x0) (zPostM G ad (o_rule σ (nI k) v)) 70 [some (.ref (ad 0)), some (.int (nI k)), some (.int v), some (.int (zB (¬ zOR (nI k) 0 6))), some (.int (nI (zRuleHi k)))] [.int z_, .int v] (wM G ad σ x0) := by
        intro z_ hz_; subst hz_
        refine a_iload_4 (pc := 70) dX6_rule_70 ?_
        refine cS_P (S2 := sX6_isIn) (m_isIn l G _ _ _) kc_X6_isIn km_X6_75 ks_X6_isIn kini_X6 ⟨kn_X6_isIn, by decide, by decide⟩ (pc := 72) dX6_rule_72 [] rfl rfl rfl rfl (Nat.le_of_ble_eq_true rfl) ?_
        have e76_ : ¬ zOR v (nI (zRuleLo k)) (nI (zRuleHi k)) ↔ ¬ (zOR (nI k) 0 6 ∨ zOR v (nI (zRuleLo (nI k).toNatClampNeg)) (nI (zRuleHi (nI k).toNatClampNeg))) := by
          rw [nI_clamp (by omega)]
          exact ⟨fun h h2 => h2.elim c_9 h, fun h h2 => h (Or.inr h2)⟩
        refine a_istore_3 (pc := 75) dX6_rule_75 rfl (by decide) ?_
        first | exact J76_ _ (zB_congr e76_) | exact a_forget_4 (J76_ _ (zB_congr e76_))
      refine a_iload_1 (pc := 60) dX6_rule_60 ?_
      refine a_iconst (v := 3) (pc := 61) dX6_rule_61 (by decide) ?_
      refine a_icmp_ne (tgt := 69) (pc := 62) dX6_rule_62 (by decide) (fun c_62 => ?_) (fun c_62 => ?_)
      · have g62_ : ¬ k = 3 := mt (zI_eq (a := k) (b := 3) (by omega) (by decide)).mpr c_62
        have e70_ := zrule_l0 hk_ g62_
        refine a_iconst (v := 0) (pc := 69) dX6_rule_69 (by decide) ?_
        exact J70_ _ e70_
      · have g62_ : k = 3 := (zI_eq (a := k) (b := 3) (by omega) (by decide)).mp c_62
        have e70_ : (1 : Int32) = nI (zRuleLo k) := by rw [g62_]; rfl
        refine a_iconst (v := 1) (pc := 65) dX6_rule_65 (by decide) ?_
        refine a_goto (tgt := 70) (pc := 66) dX6_rule_66 (by decide) ?_
        exact J70_ _ e70_
    refine a_iload_1 (pc := 12) dX6_rule_12 ?_
    refine a_iconst (v := 2) (pc := 13) dX6_rule_13 (by decide) ?_
    refine a_icmp_ge (tgt := 23) (pc := 14) dX6_rule_14 (by decide) (fun c_14 => ?_) (fun c_14 => ?_)
    · have g14_ : 2 ≤ k := by have := (zI_le (a := 2) (b := k) (by decide) (by omega)).mp c_14; omega
      refine a_iload_1 (pc := 23) dX6_rule_23 ?_
      refine a_iconst (v := 2) (pc := 24) dX6_rule_24 (by decide) ?_
      refine a_icmp_ne (tgt := 33) (pc := 25) dX6_rule_25 (by decide) (fun c_25 => ?_) (fun c_25 => ?_)
      · have g25_ : ¬ k = 2 := mt (zI_eq (a := k) (b := 2) (by omega) (by decide)).mpr c_25
        refine a_iload_1 (pc := 33) dX6_rule_33 ?_
        refine a_iconst (v := 3) (pc := 34) dX6_rule_34 (by decide) ?_
        refine a_icmp_ne (tgt := 44) (pc := 35) dX6_rule_35 (by decide) (fun c_35 => ?_) (fun c_35 => ?_)
        · have g35_ : ¬ k = 3 := mt (zI_eq (a := k) (b := 3) (by omega) (by decide)).mpr c_35
          refine a_iload_1 (pc := 44) dX6_rule_44 ?_
          refine a_iconst (v := 4) (pc := 45) dX6_rule_45 (by decide) ?_
          refine a_icmp_ne (tgt := 54) (pc := 46) dX6_rule_46 (by decide) (fun c_46 => ?_) (fun c_46 => ?_)
          · have g46_ : ¬ k = 4 := mt (zI_eq (a := k) (b := 4) (by omega) (by decide)).mpr c_46
            have e57_ := zrule_h5 (show k = 5 ∨ k = 6 by omega)
            refine a_sipush (v := 200) (pc := 54) dX6_rule_54 (by decide) ?_
            exact J57_ _ e57_
          · have g46_ : k = 4 := (zI_eq (a := k) (b := 4) (by omega) (by decide)).mp c_46
            have e57_ : (30 : Int32) = nI (zRuleHi k) := by rw [g46_]; decide +kernel
            refine a_bipush (v := 30) (pc := 49) dX6_rule_49 (by decide) ?_
            refine a_goto (tgt := 57) (pc := 51) dX6_rule_51 (by decide) ?_
            exact J57_ _ e57_
        · have g35_ : k = 3 := (zI_eq (a := k) (b := 3) (by omega) (by decide)).mp c_35
          have e57_ : (1000 : Int32) = nI (zRuleHi k) := by rw [g35_]; decide +kernel
          refine a_sipush (v := 1000) (pc := 38) dX6_rule_38 (by decide) ?_
          refine a_goto (tgt := 57) (pc := 41) dX6_rule_41 (by decide) ?_
          exact J57_ _ e57_
      · have g25_ : k = 2 := (zI_eq (a := k) (b := 2) (by omega) (by decide)).mp c_25
        have e57_ : (100 : Int32) = nI (zRuleHi k) := by rw [g25_]; decide +kernel
        refine a_bipush (v := 100) (pc := 28) dX6_rule_28 (by decide) ?_
        refine a_goto (tgt := 57) (pc := 30) dX6_rule_30 (by decide) ?_
        exact J57_ _ e57_
    · have g14_ : ¬ 2 ≤ k := mt (zI_le (a := 2) (b := k) (by decide) (by omega)).mpr c_14
      have e57_ := zrule_h1 (show k < 2 by omega)
      refine a_sipush (v := 9999) (pc := 17) dX6_rule_17 (by decide) ?_
      refine a_goto (tgt := 57) (pc := 20) dX6_rule_20 (by decide) ?_
      exact J57_ _ e57_


/-! Flows. -/
abbrev wFl (G : zG) (ad : Nat → Nat) (pa le : Nat → Int32) (B : Nat → Nat → Int64) (J : Nat → Int64) : va_W := [(ad 0, .inr (0, [.ref (ad 1), .ref (ad 2), .ref (ad 3), .ref (ad 4), .ref (ad 5), .ref (ad 6), .ref (ad 7), .ref (ad 8), .long (J 0), .long (J 1), .long (J 2), .long (J 3), .long (J 4)])), (ad 1, .inl (zcI G, 72, .inl pa)), (ad 2, .inl (zcI G, 72, .inl le)), (ad 3, .inl (zcJ G, 72, .inr (.inl (B 0)))), (ad 4, .inl (zcJ G, 72, .inr (.inl (B 1)))), (ad 5, .inl (zcJ G, 72, .inr (.inl (B 2)))), (ad 6, .inl (zcJ G, 72, .inr (.inl (B 3)))), (ad 7, .inl (zcJ G, 72, .inr (.inl (B 4)))), (ad 8, .inl (zcJ G, 72, .inr (.inl (B 5))))]
def zSalt (w g : Int64) : Int64 := if w = 0 then 0 else g / w
def zPush (w g p : Int64) : Int64 := if p - zSalt w g / 100 < 0 then 0 else p - zSalt w g / 100
def zThr (pa : Int32) (w g p : Int64) : Int64 := if zPush w g p * pa.toInt64 / 100 < w then zPush w g p * pa.toInt64 / 100 else w
def zThS (le : Int32) (w g : Int64) : Int64 := zSalt w g * le.toInt64 / 1000
def zLess (p x : Int64) : Int64 := if p - x < 0 then 0 else p - x
abbrev zSt3 : Type := Int64 × Int64 × Int64
def zStep (pa le : Int32) (s : zSt3) : zSt3 := (s.1 - zThr pa s.1 s.2.1 s.2.2, s.2.1 - zThr pa s.1 s.2.1 s.2.2 * zThS le s.1 s.2.1, zLess s.2.2 2)
/-- what comes to the skin j of a vessel that begins at a place -/
def zVs (pa le : Nat → Int32) (f0 : Nat) (s : zSt3) : Nat → zSt3
  | 0 => s
  | j + 1 => zStep (pa (f0 + j)) (le (f0 + j)) (zVs pa le f0 s j)
/-- what the six rows hold of a skin -/
def zOut (pa le : Int32) (s : zSt3) (a : Nat) : Int64 := if a = 0 then s.1 else if a = 1 then s.2.1 else if a = 2 then s.2.2 else if a = 3 then zThr pa s.1 s.2.1 s.2.2 else if a = 4 then zThS le s.1 s.2.1 else zThr pa s.1 s.2.1 s.2.2 * zThS le s.1 s.2.1
def zup6 (B : Nat → Nat → Int64) (k : Nat) (v : Nat → Int64) : Nat → Nat → Int64 := fun a => vp_updL (B a) k (v a)
def zJ2 (J : Nat → Int64) (x y : Int64) : Nat → Int64 := fun a => if a = 0 then x else if a = 1 then y else J a
set_option maxRecDepth 100000 in
set_option maxHeartbeats 4000000 in
/-- saltOf -/
theorem c_saltOf (l : Launch) (G : zG) (w g : Int64) : zSem l G sX0_saltOf [.long w, .long g] ([]) (zP (.long (zSalt w g)) []) := by
  refine zEnterV (L := [some (.long w), none, some (.long g), none]) (by decide) rfl (Nat.le_of_ble_eq_true rfl) rfl ?_
  refine a_lload_0 (pc := 0) dX0_saltOf_0 ?_
  refine a_lconst (v := 0) (pc := 1) dX0_saltOf_1 (by decide) ?_
  refine a_lif_ne (tgt := 10) (pc := 2) dX0_saltOf_2 dX0_saltOf_3 (by decide) (fun c_2 => ?_) (fun c_2 => ?_)
  · refine a_lload_2 (pc := 10) dX0_saltOf_10 ?_
    refine a_lload_0 (pc := 11) dX0_saltOf_11 ?_
    refine a_ldiv (pc := 12) dX0_saltOf_12 c_2 ?_
    exact a_lret (pc := 13) dX0_saltOf_13 rfl rfl (by first | exact ⟨congrArg (fun z => some (Value.long z)) (if_pos c_2).symm, rfl⟩ | exact ⟨congrArg (fun z => some (Value.long z)) (if_neg c_2).symm, rfl⟩)
  · refine a_lconst (v := 0) (pc := 6) dX0_saltOf_6 (by decide) ?_
    refine a_goto (tgt := 13) (pc := 7) dX0_saltOf_7 (by decide) ?_
    exact a_lret (pc := 13) dX0_saltOf_13 rfl rfl (by first | exact ⟨congrArg (fun z => some (Value.long z)) (if_pos c_2).symm, rfl⟩ | exact ⟨congrArg (fun z => some (Value.long z)) (if_neg c_2).symm, rfl⟩)

abbrev wTk (G : zG) (ad : Nat → Nat) (pa le : Nat → Int32) (B : Nat → Nat → Int64) (J : Nat → Int64) (kd fo : Nat → Int32) : va_W := [(ad 0, .inr (0, [.ref (ad 1), .ref (ad 2), .ref (ad 3), .ref (ad 4), .ref (ad 5), .ref (ad 6), .ref (ad 7), .ref (ad 8), .long (J 0), .long (J 1), .long (J 2), .long (J 3), .long (J 4)])), (ad 1, .inl (zcI G, 72, .inl pa)), (ad 2, .inl (zcI G, 72, .inl le)), (ad 3, .inl (zcJ G, 72, .inr (.inl (B 0)))), (ad 4, .inl (zcJ G, 72, .inr (.inl (B 1)))), (ad 5, .inl (zcJ G, 72, .inr (.inl (B 2)))), (ad 6, .inl (zcJ G, 72, .inr (.inl (B 3)))), (ad 7, .inl (zcJ G, 72, .inr (.inl (B 4)))), (ad 8, .inl (zcJ G, 72, .inr (.inl (B 5)))), (ad 9, .inr (4, [.ref (ad 10), .ref (ad 11)])), (ad 10, .inl (zcI G, 72, .inl kd)), (ad 11, .inl (zcI G, 72, .inl fo))]
set_option maxRecDepth 100000 in
set_option maxHeartbeats 4000000 in
theorem lp_take (l : Launch) (G : zG) (ad : Nat → Nat) (pa0 le0 : Nat → Int32) (B : Nat → Nat → Int64) (J : Nat → Int64) (kd fo : Nat → Int32) (hv : ∀ k, k < 72 → vp_in (kd k) 4) : ∀ (q i : Nat) (pa le : Nat → Int32), i + q = 72 → (∀ k, k < i → pa k = zPass kd fo k) → (∀ k, k < i → le k = zLeak kd k) → AV l G sX0_take (wTk G ad pa0 le0 B J kd fo) (z0 (fun u : (Nat → Int32) × (Nat → Int32) => (∀ k, k < 72 → u.1 k = zPass kd fo k) ∧ ∀ k, k < 72 → u.2 k = zLeak kd k) (fun u => wTk G ad u.1 u.2 B J kd fo)) 2 [some (.ref (ad 0)), some (.ref (ad 9)), some (.int (nI i))] [] (wTk G ad pa le B J kd fo) := by
  intro q_
  induction q_ using Nat.strongRecOn
  rename_i q_ ih_
  intro i pa le hq_ hp_ hl_
  refine a_iload_2 (pc := 2) dX0_take_2 ?_
  refine a_bipush (v := 72) (pc := 3) dX0_take_3 (by decide) ?_
  refine a_icmp_ge (tgt := 36) (pc := 5) dX0_take_5 (by decide) (fun c_5 => ?_) (fun c_5 => ?_)
  · obtain rfl : i = 72 := by have := (zI_le (a := 72) (b := i) (by decide) (by omega)).mp c_5; omega
    exact a_vret (pc := 36) dX0_take_36 rfl rfl ⟨(pa, le), ⟨hp_, hl_⟩, rfl, rfl⟩
  · have hi_ : i < 72 := by have := mt (zI_le (a := 72) (b := i) (by decide) (by omega)).mpr c_5; omega
    refine a_aload_0 (pc := 8) dX0_take_8 ?_
    refine a_getf (ci := 0) (j := 0) rfl win_X0 (by decide) (pc := 9) dX0_take_9 kf_X0_9 rfl rfl ?_
    refine a_iload_2 (pc := 12) dX0_take_12 ?_
    refine a_aload_1 (pc := 13) dX0_take_13 ?_
    refine a_iload_2 (pc := 14) dX0_take_14 ?_
    refine cV_P (ad := ad) (q0 := 9) (S2 := sX4_passAt) (c_passAt l G (zpk ad [9, 10, 11]) kd fo i hi_ (hv i hi_)) kc_X4_passAt km_X0_53 ki_X4_passAt kv_X4_passAt kini_X4 ⟨kn_X4_passAt, by decide, by decide⟩ (pc := 15) dX0_take_15 [9, 10, 11] rfl rfl rfl rfl (Nat.le_of_ble_eq_true rfl) rfl rfl rfl ?_
    refine a_iastN (pc := 18) dX0_take_18 rfl (by omega) (by decide) ?_
    refine a_aload_0 (pc := 19) dX0_take_19 ?_
    refine a_getf (ci := 0) (j := 1) rfl win_X0 (by decide) (pc := 20) dX0_take_20 kf_X0_15 rfl rfl ?_
    refine a_iload_2 (pc := 23) dX0_take_23 ?_
    refine a_aload_1 (pc := 24) dX0_take_24 ?_
    refine a_iload_2 (pc := 25) dX0_take_25 ?_
    refine cV_P (ad := ad) (q0 := 9) (S2 := sX4_leakAt) (c_leakAt l G (zpk ad [9, 10, 11]) kd fo i hi_ (hv i hi_)) kc_X4_leakAt km_X0_59 ki_X4_leakAt kv_X4_leakAt kini_X4 ⟨kn_X4_leakAt, by decide, by decide⟩ (pc := 26) dX0_take_26 [9, 10, 11] rfl rfl rfl rfl (Nat.le_of_ble_eq_true rfl) rfl rfl rfl ?_
    refine a_iastN (pc := 29) dX0_take_29 rfl (by omega) (by decide) ?_
    refine a_iinc_2 (cst := 1) (pc := 30) dX0_take_30 rfl (by decide) (by decide) ?_
    refine a_goto (tgt := 2) (pc := 33) dX0_take_33 (by decide) ?_
    rw [← nI_succ]
    exact ih_ (q_ - 1) (by omega) (i + 1) (upd pa i (zPass kd fo i)) (upd le i (zLeak kd i)) (by omega) (fun k hk => by by_cases h : k = i; (subst h; exact upd_same _ _ _); rw [upd_ne _ _ h]; exact hp_ k (by omega)) (fun k hk => by by_cases h : k = i; (subst h; exact upd_same _ _ _); rw [upd_ne _ _ h]; exact hl_ k (by omega))

set_option maxRecDepth 100000 in
set_option maxHeartbeats 4000000 in
/-- take -/
theorem c_take (l : Launch) (G : zG) (ad : Nat → Nat) (pa0 le0 : Nat → Int32) (B : Nat → Nat → Int64) (J : Nat → Int64) (kd fo : Nat → Int32) (hv : ∀ k, k < 72 → vp_in (kd k) 4) : zSem l G sX0_take [.ref (ad 0), .ref (ad 9)] (wTk G ad pa0 le0 B J kd fo) (z0 (fun u : (Nat → Int32) × (Nat → Int32) => (∀ k, k < 72 → u.1 k = zPass kd fo k) ∧ ∀ k, k < 72 → u.2 k = zLeak kd k) (fun u => wTk G ad u.1 u.2 B J kd fo)) := by
  refine zEnterV (L := [some (.ref (ad 0)), some (.ref (ad 9)), none]) (by decide) rfl (Nat.le_of_ble_eq_true rfl) rfl ?_
  refine a_iconst (v := 0) (pc := 0) dX0_take_0 (by decide) ?_
  refine a_istore_2 (pc := 1) dX0_take_1 rfl (by decide) ?_
  exact lp_take l G ad pa0 le0 B J kd fo hv 72 0 pa0 le0 (by omega) (fun k hk => absurd hk (Nat.not_lt_zero k)) (fun k hk => absurd hk (Nat.not_lt_zero k))

set_option maxRecDepth 100000 in
set_option maxHeartbeats 4000000 in
/-- areAlike -/
theorem c_areAlike (l : Launch) (G : zG) (ad : Nat → Nat) (pa le : Nat → Int32) (B : Nat → Nat → Int64) (J : Nat → Int64) (k j : Nat) (hk : k < 72) (hj : j < 72) : zSem l G sX0_areAlike [.ref (ad 0), .int (nI k), .int (nI j)] (wFl G ad pa le B J) (zP (.int (zB (pa k = pa j ∧ le k = le j))) (wFl G ad pa le B J)) := by
  refine zEnterV (L := [some (.ref (ad 0)), some (.int (nI k)), some (.int (nI j))]) (by decide) rfl (Nat.le_of_ble_eq_true rfl) rfl ?_
  refine a_aload_0 (pc := 0) dX0_areAlike_0 ?_
  refine a_getf (ci := 0) (j := 0) rfl win_X0 (by decide) (pc := 1) dX0_areAlike_1 kf_X0_9 rfl rfl ?_
  refine a_iload_1 (pc := 4) dX0_areAlike_4 ?_
  refine a_ialdN (pc := 5) dX0_areAlike_5 rfl (by omega) (by decide) ?_
  refine a_aload_0 (pc := 6) dX0_areAlike_6 ?_
  refine a_getf (ci := 0) (j := 0) rfl win_X0 (by decide) (pc := 7) dX0_areAlike_7 kf_X0_9 rfl rfl ?_
  refine a_iload_2 (pc := 10) dX0_areAlike_10 ?_
  refine a_ialdN (pc := 11) dX0_areAlike_11 rfl (by omega) (by decide) ?_
  refine a_icmp_ne (tgt := 34) (pc := 12) dX0_areAlike_12 (by decide) (fun c_12 => ?_) (fun c_12 => ?_)
  · refine a_iconst (v := 0) (pc := 34) dX0_areAlike_34 (by decide) ?_
    exact a_zret (pc := 35) dX0_areAlike_35 rfl (by decide) rfl (by first | exact zPB1 ⟨c_12, c_27⟩ | exact zPB0 (fun h => c_27 h.2) | exact zPB0 (fun h => c_12 h.1))
  · refine a_aload_0 (pc := 15) dX0_areAlike_15 ?_
    refine a_getf (ci := 0) (j := 1) rfl win_X0 (by decide) (pc := 16) dX0_areAlike_16 kf_X0_15 rfl rfl ?_
    refine a_iload_1 (pc := 19) dX0_areAlike_19 ?_
    refine a_ialdN (pc := 20) dX0_areAlike_20 rfl (by omega) (by decide) ?_
    refine a_aload_0 (pc := 21) dX0_areAlike_21 ?_
    refine a_getf (ci := 0) (j := 1) rfl win_X0 (by decide) (pc := 22) dX0_areAlike_22 kf_X0_15 rfl rfl ?_
    refine a_iload_2 (pc := 25) dX0_areAlike_25 ?_
    refine a_ialdN (pc := 26) dX0_areAlike_26 rfl (by omega) (by decide) ?_
    refine a_icmp_ne (tgt := 34) (pc := 27) dX0_areAlike_27 (by decide) (fun c_27 => ?_) (fun c_27 => ?_)
    · refine a_iconst (v := 0) (pc := 34) dX0_areAlike_34 (by decide) ?_
      exact a_zret (pc := 35) dX0_areAlike_35 rfl (by decide) rfl (by first | exact zPB1 ⟨c_12, c_27⟩ | exact zPB0 (fun h => c_27 h.2) | exact zPB0 (fun h => c_12 h.1))
    · refine a_iconst (v := 1) (pc := 30) dX0_areAlike_30 (by decide) ?_
      refine a_goto (tgt := 35) (pc := 31) dX0_areAlike_31 (by decide) ?_
      exact a_zret (pc := 35) dX0_areAlike_35 rfl (by decide) rfl (by first | exact zPB1 ⟨c_12, c_27⟩ | exact zPB0 (fun h => c_27 h.2) | exact zPB0 (fun h => c_12 h.1))

set_option maxRecDepth 100000 in
set_option maxHeartbeats 4000000 in
/-- exchange of flows -/
theorem c_flExch (l : Launch) (G : zG) (ad : Nat → Nat) (pa le : Nat → Int32) (B : Nat → Nat → Int64) (J : Nat → Int64) (k j : Nat) (hk : k < 72) (hj : j < 72) : zSem l G sX0_exchange [.ref (ad 0), .int (nI k), .int (nI j)] (wFl G ad pa le B J) (z0 (fun _ : Unit => True) (fun _ => wFl G ad (zExch pa k j) (zExch le k j) B J)) := by
  refine zEnterV (L := [some (.ref (ad 0)), some (.int (nI k)), some (.int (nI j)), none, none]) (by decide) rfl (Nat.le_of_ble_eq_true rfl) rfl ?_
  refine a_aload_0 (pc := 0) dX0_exchange_0 ?_
  refine a_getf (ci := 0) (j := 0) rfl win_X0 (by decide) (pc := 1) dX0_exchange_1 kf_X0_9 rfl rfl ?_
  refine a_iload_1 (pc := 4) dX0_exchange_4 ?_
  refine a_ialdN (pc := 5) dX0_exchange_5 rfl (by omega) (by decide) ?_
  refine a_istore_3 (pc := 6) dX0_exchange_6 rfl (by decide) ?_
  refine a_aload_0 (pc := 7) dX0_exchange_7 ?_
  refine a_getf (ci := 0) (j := 1) rfl win_X0 (by decide) (pc := 8) dX0_exchange_8 kf_X0_15 rfl rfl ?_
  refine a_iload_1 (pc := 11) dX0_exchange_11 ?_
  refine a_ialdN (pc := 12) dX0_exchange_12 rfl (by omega) (by decide) ?_
  refine a_istore_4 (pc := 13) dX0_exchange_13 rfl (by decide) ?_
  refine a_aload_0 (pc := 15) dX0_exchange_15 ?_
  refine a_getf (ci := 0) (j := 0) rfl win_X0 (by decide) (pc := 16) dX0_exchange_16 kf_X0_9 rfl rfl ?_
  refine a_iload_1 (pc := 19) dX0_exchange_19 ?_
  refine a_aload_0 (pc := 20) dX0_exchange_20 ?_
  refine a_getf (ci := 0) (j := 0) rfl win_X0 (by decide) (pc := 21) dX0_exchange_21 kf_X0_9 rfl rfl ?_
  refine a_iload_2 (pc := 24) dX0_exchange_24 ?_
  refine a_ialdN (pc := 25) dX0_exchange_25 rfl (by omega) (by decide) ?_
  refine a_iastN (pc := 26) dX0_exchange_26 rfl (by omega) (by decide) ?_
  refine a_aload_0 (pc := 27) dX0_exchange_27 ?_
  refine a_getf (ci := 0) (j := 1) rfl win_X0 (by decide) (pc := 28) dX0_exchange_28 kf_X0_15 rfl rfl ?_
  refine a_iload_1 (pc := 31) dX0_exchange_31 ?_
  refine a_aload_0 (pc := 32) dX0_exchange_32 ?_
  refine a_getf (ci := 0) (j := 1) rfl win_X0 (by decide) (pc := 33) dX0_exchange_33 kf_X0_15 rfl rfl ?_
  refine a_iload_2 (pc := 36) dX0_exchange_36 ?_
  refine a_ialdN (pc := 37) dX0_exchange_37 rfl (by omega) (by decide) ?_
  refine a_iastN (pc := 38) dX0_exchange_38 rfl (by omega) (by decide) ?_
  refine a_aload_0 (pc := 39) dX0_exchange_39 ?_
  refine a_getf (ci := 0) (j := 0) rfl win_X0 (by decide) (pc := 40) dX0_exchange_40 kf_X0_9 rfl rfl ?_
  refine a_iload_2 (pc := 43) dX0_exchange_43 ?_
  refine a_iload_3 (pc := 44) dX0_exchange_44 ?_
  refine a_iastN (pc := 45) dX0_exchange_45 rfl (by omega) (by decide) ?_
  refine a_aload_0 (pc := 46) dX0_exchange_46 ?_
  refine a_getf (ci := 0) (j := 1) rfl win_X0 (by decide) (pc := 47) dX0_exchange_47 kf_X0_15 rfl rfl ?_
  refine a_iload_2 (pc := 50) dX0_exchange_50 ?_
  refine a_iload_4 (pc := 51) dX0_exchange_51 ?_
  refine a_iastN (pc := 53) dX0_exchange_53 rfl (by omega) (by decide) ?_
  exact a_vret (pc := 54) dX0_exchange_54 rfl rfl ⟨(), trivial, rfl, rfl⟩

theorem zup6_ok {pa le : Nat → Int32} {f0 : Nat} {s0 : zSt3} {B0 B : Nat → Nat → Int64} {i : Nat} (h1 : ∀ a k, ¬ (f0 ≤ k ∧ k < f0 + i) → B a k = B0 a k) (h2 : ∀ j, j < i → ∀ a, a < 6 → B a (f0 + j) = zOut (pa (f0 + j)) (le (f0 + j)) (zVs pa le f0 s0 j) a) :
    (∀ a k, ¬ (f0 ≤ k ∧ k < f0 + (i + 1)) → zup6 B (f0 + i) (zOut (pa (f0 + i)) (le (f0 + i)) (zVs pa le f0 s0 i)) a k = B0 a k) ∧ ∀ j, j < i + 1 → ∀ a, a < 6 → zup6 B (f0 + i) (zOut (pa (f0 + i)) (le (f0 + i)) (zVs pa le f0 s0 i)) a (f0 + j) = zOut (pa (f0 + j)) (le (f0 + j)) (zVs pa le f0 s0 j) a := by
  refine ⟨fun a k hk => ?_, fun j hj a ha => ?_⟩
  · unfold zup6
    rw [updL_ne _ _ (by omega)]
    exact h1 a k (by omega)
  · unfold zup6
    by_cases h : j = i
    · subst h; exact updL_same _ _ _
    · rw [updL_ne _ _ (by omega)]
      exact h2 j (by omega) a ha
set_option maxRecDepth 100000 in
set_option maxHeartbeats 4000000 in
theorem lp_runVessel (l : Launch) (G : zG) (ad : Nat → Nat) (pa le : Nat → Int32) (B0 : Nat → Nat → Int64) (J : Nat → Int64) (f0 n : Nat) (hn : f0 + n ≤ 72) (w g : Int64) : ∀ (q i : Nat) (B : Nat → Nat → Int64), i + q = n → ((∀ a k, ¬ (f0 ≤ k ∧ k < f0 + i) → B a k = B0 a k) ∧ ∀ j, j < i → ∀ a, a < 6 → B a (f0 + j) = zOut (pa (f0 + j)) (le (f0 + j)) (zVs pa le f0 (w, g, J 2) j) a) → AV l G sX0_runVessel (wFl G ad pa le B0 J) (z0 (fun u : Nat → Nat → Int64 => (∀ a k, ¬ (f0 ≤ k ∧ k < f0 + n) → u a k = B0 a k) ∧ ∀ j, j < n → ∀ a, a < 6 → u a (f0 + j) = zOut (pa (f0 + j)) (le (f0 + j)) (zVs pa le f0 (w, g, J 2) j) a) (fun u => wFl G ad pa le u (zJ2 J (J 0 + (zVs pa le f0 (w, g, J 2) n).1) (J 1 + (zVs pa le f0 (w, g, J 2) n).2.1)))) 16 [some (.ref (ad 0)), some (.int (nI f0)), some (.int (nI n)), some (.long w), none, some (.long g), none, some (.long (zVs pa le f0 (w, g, J 2) i).1), none, some (.long (zVs pa le f0 (w, g, J 2) i).2.1), none, some (.long (zVs pa le f0 (w, g, J 2) i).2.2), none, some (.int (nI (f0 + i))), none, none, none, none] [] (wFl G ad pa le B J) := by
  intro q_
  induction q_ using Nat.strongRecOn
  rename_i q_ ih_
  intro i B hq_ hB_
  refine a_iload_13 (pc := 16) dX0_runVessel_16 ?_
  refine a_iload_1 (pc := 18) dX0_runVessel_18 ?_
  refine a_iload_2 (pc := 19) dX0_runVessel_19 ?_
  refine a_iadd (pc := 20) dX0_runVessel_20 ?_
  refine a_icmp_ge (tgt := 195) (pc := 21) dX0_runVessel_21 (by decide) (fun c_21 => ?_) (fun c_21 => ?_)
  · obtain rfl : i = n := by rw [← zI_add] at c_21; have := (zI_le (by omega) (by omega)).mp c_21; omega
    refine a_aload_0 (pc := 195) dX0_runVessel_195 ?_
    refine a_dup (pc := 196) dX0_runVessel_196 rfl ?_
    refine a_getf (ci := 0) (j := 8) rfl win_X0 (by decide) (pc := 197) dX0_runVessel_197 kf_X0_37 rfl rfl ?_
    refine a_lload_7 (pc := 200) dX0_runVessel_200 ?_
    refine a_ladd (pc := 202) dX0_runVessel_202 ?_
    refine a_putf (ci := 0) (j := 8) rfl win_X0 tyX0_ok nmX0 (by decide) (pc := 203) dX0_runVessel_203 kf_X0_37 rfl rfl rfl rfl rfl (Nat.le_of_ble_eq_true rfl) ?_
    refine a_aload_0 (pc := 206) dX0_runVessel_206 ?_
    refine a_dup (pc := 207) dX0_runVessel_207 rfl ?_
    refine a_getf (ci := 0) (j := 9) rfl win_X0 (by decide) (pc := 208) dX0_runVessel_208 kf_X0_41 rfl rfl ?_
    refine a_lload_9 (pc := 211) dX0_runVessel_211 ?_
    refine a_ladd (pc := 213) dX0_runVessel_213 ?_
    refine a_putf (ci := 0) (j := 9) rfl win_X0 tyX0_ok nmX0 (by decide) (pc := 214) dX0_runVessel_214 kf_X0_41 rfl rfl rfl rfl rfl (Nat.le_of_ble_eq_true rfl) ?_
    exact a_vret (pc := 217) dX0_runVessel_217 rfl rfl ⟨B, hB_, rfl, rfl⟩
  · have hi_ : i < n := by rw [← zI_add] at c_21; have := mt (zI_le (a := f0 + n) (b := f0 + i) (by omega) (by omega)).mpr c_21; omega
    refine a_iload_13 (pc := 24) dX0_runVessel_24 ?_
    refine a_bipush (v := 72) (pc := 26) dX0_runVessel_26 (by decide) ?_
    refine a_icmp_ge (tgt := 195) (pc := 28) dX0_runVessel_28 (by decide) (fun c_28 => ?_) (fun c_28 => ?_)
    · exact absurd ((zI_le (a := 72) (b := f0 + i) (by decide) (by omega)).mp c_28) (by omega)
    · refine a_aload_0 (pc := 31) dX0_runVessel_31 ?_
      refine a_getf (ci := 0) (j := 2) rfl win_X0 (by decide) (pc := 32) dX0_runVessel_32 kf_X0_18 rfl rfl ?_
      refine a_iload_13 (pc := 35) dX0_runVessel_35 ?_
      refine a_lload_7 (pc := 37) dX0_runVessel_37 ?_
      refine a_lastN (pc := 39) dX0_runVessel_39 rfl (by omega) (by decide) ?_
      refine a_aload_0 (pc := 40) dX0_runVessel_40 ?_
      refine a_getf (ci := 0) (j := 3) rfl win_X0 (by decide) (pc := 41) dX0_runVessel_41 kf_X0_22 rfl rfl ?_
      refine a_iload_13 (pc := 44) dX0_runVessel_44 ?_
      refine a_lload_9 (pc := 46) dX0_runVessel_46 ?_
      refine a_lastN (pc := 48) dX0_runVessel_48 rfl (by omega) (by decide) ?_
      refine a_aload_0 (pc := 49) dX0_runVessel_49 ?_
      refine a_getf (ci := 0) (j := 4) rfl win_X0 (by decide) (pc := 50) dX0_runVessel_50 kf_X0_25 rfl rfl ?_
      refine a_iload_13 (pc := 53) dX0_runVessel_53 ?_
      refine a_lload_11 (pc := 55) dX0_runVessel_55 ?_
      refine a_lastN (pc := 57) dX0_runVessel_57 rfl (by omega) (by decide) ?_
      refine a_lload_7 (pc := 58) dX0_runVessel_58 ?_
      refine a_lload_9 (pc := 60) dX0_runVessel_60 ?_
      refine cS_P (S2 := sX0_saltOf) (c_saltOf l G _ _) kc_X0_saltOf km_X0_75 ks_X0_saltOf kini_X0 ⟨kn_X0_saltOf, by decide, by decide⟩ (pc := 62) dX0_runVessel_62 [] rfl rfl rfl rfl (Nat.le_of_ble_eq_true rfl) ?_
      refine a_lstore_14 (pc := 65) dX0_runVessel_65 rfl (by decide) ?_
      refine a_lconst (v := 0) (pc := 67) dX0_runVessel_67 (by decide) ?_
      refine a_lload_11 (pc := 68) dX0_runVessel_68 ?_
      refine a_lload_14 (pc := 70) dX0_runVessel_70 ?_
      refine a_ldc2 (pc := 72) dX0_runVessel_72 kl_X0_88 ?_
      refine a_ldiv (pc := 75) dX0_runVessel_75 (by decide) ?_
      refine a_lsub (pc := 76) dX0_runVessel_76 ?_
      refine a_maxJ (pc := 77) dX0_runVessel_77 km_X0_83 (by decide) (Nat.le_of_ble_eq_true rfl) ?_
      refine a_lstore_16 (pc := 80) dX0_runVessel_80 rfl (by decide) ?_
      refine a_aload_0 (pc := 82) dX0_runVessel_82 ?_
      refine a_getf (ci := 0) (j := 5) rfl win_X0 (by decide) (pc := 83) dX0_runVessel_83 kf_X0_28 rfl rfl ?_
      refine a_iload_13 (pc := 86) dX0_runVessel_86 ?_
      refine a_lload_7 (pc := 88) dX0_runVessel_88 ?_
      refine a_lload_16 (pc := 90) dX0_runVessel_90 ?_
      refine a_aload_0 (pc := 92) dX0_runVessel_92 ?_
      refine a_getf (ci := 0) (j := 0) rfl win_X0 (by decide) (pc := 93) dX0_runVessel_93 kf_X0_9 rfl rfl ?_
      refine a_iload_13 (pc := 96) dX0_runVessel_96 ?_
      refine a_ialdN (pc := 98) dX0_runVessel_98 rfl (by omega) (by decide) ?_
      refine a_i2l (pc := 99) dX0_runVessel_99 ?_
      refine a_lmul (pc := 100) dX0_runVessel_100 ?_
      refine a_ldc2 (pc := 101) dX0_runVessel_101 kl_X0_88 ?_
      refine a_ldiv (pc := 104) dX0_runVessel_104 (by decide) ?_
      refine a_minJ (pc := 105) dX0_runVessel_105 km_X0_90 (by decide) (Nat.le_of_ble_eq_true rfl) ?_
      refine a_lastN (pc := 108) dX0_runVessel_108 rfl (by omega) (by decide) ?_
      refine a_aload_0 (pc := 109) dX0_runVessel_109 ?_
      refine a_getf (ci := 0) (j := 6) rfl win_X0 (by decide) (pc := 110) dX0_runVessel_110 kf_X0_31 rfl rfl ?_
      refine a_iload_13 (pc := 113) dX0_runVessel_113 ?_
      refine a_lload_14 (pc := 115) dX0_runVessel_115 ?_
      refine a_aload_0 (pc := 117) dX0_runVessel_117 ?_
      refine a_getf (ci := 0) (j := 1) rfl win_X0 (by decide) (pc := 118) dX0_runVessel_118 kf_X0_15 rfl rfl ?_
      refine a_iload_13 (pc := 121) dX0_runVessel_121 ?_
      refine a_ialdN (pc := 123) dX0_runVessel_123 rfl (by omega) (by decide) ?_
      refine a_i2l (pc := 124) dX0_runVessel_124 ?_
      refine a_lmul (pc := 125) dX0_runVessel_125 ?_
      refine a_ldc2 (pc := 126) dX0_runVessel_126 kl_X0_93 ?_
      refine a_ldiv (pc := 129) dX0_runVessel_129 (by decide) ?_
      refine a_lastN (pc := 130) dX0_runVessel_130 rfl (by omega) (by decide) ?_
      refine a_aload_0 (pc := 131) dX0_runVessel_131 ?_
      refine a_getf (ci := 0) (j := 7) rfl win_X0 (by decide) (pc := 132) dX0_runVessel_132 kf_X0_34 rfl rfl ?_
      refine a_iload_13 (pc := 135) dX0_runVessel_135 ?_
      refine a_aload_0 (pc := 137) dX0_runVessel_137 ?_
      refine a_getf (ci := 0) (j := 5) rfl win_X0 (by decide) (pc := 138) dX0_runVessel_138 kf_X0_28 rfl rfl ?_
      refine a_iload_13 (pc := 141) dX0_runVessel_141 ?_
      refine a_laldN (pc := 143) dX0_runVessel_143 rfl (by omega) (by decide) ?_
      rw [updL_same]
      refine a_aload_0 (pc := 144) dX0_runVessel_144 ?_
      refine a_getf (ci := 0) (j := 6) rfl win_X0 (by decide) (pc := 145) dX0_runVessel_145 kf_X0_31 rfl rfl ?_
      refine a_iload_13 (pc := 148) dX0_runVessel_148 ?_
      refine a_laldN (pc := 150) dX0_runVessel_150 rfl (by omega) (by decide) ?_
      rw [updL_same]
      refine a_lmul (pc := 151) dX0_runVessel_151 ?_
      refine a_lastN (pc := 152) dX0_runVessel_152 rfl (by omega) (by decide) ?_
      refine a_lload_7 (pc := 153) dX0_runVessel_153 ?_
      refine a_aload_0 (pc := 155) dX0_runVessel_155 ?_
      refine a_getf (ci := 0) (j := 5) rfl win_X0 (by decide) (pc := 156) dX0_runVessel_156 kf_X0_28 rfl rfl ?_
      refine a_iload_13 (pc := 159) dX0_runVessel_159 ?_
      refine a_laldN (pc := 161) dX0_runVessel_161 rfl (by omega) (by decide) ?_
      rw [updL_same]
      refine a_lsub (pc := 162) dX0_runVessel_162 ?_
      refine a_lstore_7 (pc := 163) dX0_runVessel_163 rfl (by decide) ?_
      refine a_lload_9 (pc := 165) dX0_runVessel_165 ?_
      refine a_aload_0 (pc := 167) dX0_runVessel_167 ?_
      refine a_getf (ci := 0) (j := 7) rfl win_X0 (by decide) (pc := 168) dX0_runVessel_168 kf_X0_34 rfl rfl ?_
      refine a_iload_13 (pc := 171) dX0_runVessel_171 ?_
      refine a_laldN (pc := 173) dX0_runVessel_173 rfl (by omega) (by decide) ?_
      rw [updL_same]
      refine a_lsub (pc := 174) dX0_runVessel_174 ?_
      refine a_lstore_9 (pc := 175) dX0_runVessel_175 rfl (by decide) ?_
      refine a_lconst (v := 0) (pc := 177) dX0_runVessel_177 (by decide) ?_
      refine a_lload_11 (pc := 178) dX0_runVessel_178 ?_
      refine a_ldc2 (pc := 180) dX0_runVessel_180 kl_X0_95 ?_
      refine a_lsub (pc := 183) dX0_runVessel_183 ?_
      refine a_maxJ (pc := 184) dX0_runVessel_184 km_X0_83 (by decide) (Nat.le_of_ble_eq_true rfl) ?_
      refine a_lstore_11 (pc := 187) dX0_runVessel_187 rfl (by decide) ?_
      refine a_iinc_13 (cst := 1) (pc := 189) dX0_runVessel_189 rfl (by decide) (by decide) ?_
      refine a_goto (tgt := 16) (pc := 192) dX0_runVessel_192 (by decide) ?_
      rw [← nI_succ]
      refine a_forget_14 (a_forget_16 ?_)
      exact ih_ (q_ - 1) (by omega) (i + 1) (zup6 B (f0 + i) (zOut (pa (f0 + i)) (le (f0 + i)) (zVs pa le f0 (w, g, J 2) i))) (by omega) (zup6_ok hB_.1 hB_.2)

set_option maxRecDepth 100000 in
set_option maxHeartbeats 4000000 in
/-- runVessel -/
theorem c_runVessel (l : Launch) (G : zG) (ad : Nat → Nat) (pa le : Nat → Int32) (B0 : Nat → Nat → Int64) (J : Nat → Int64) (f0 n : Nat) (hn : f0 + n ≤ 72) (w g : Int64) : zSem l G sX0_runVessel [.ref (ad 0), .int (nI f0), .int (nI n), .long w, .long g] (wFl G ad pa le B0 J) (z0 (fun u : Nat → Nat → Int64 => (∀ a k, ¬ (f0 ≤ k ∧ k < f0 + n) → u a k = B0 a k) ∧ ∀ j, j < n → ∀ a, a < 6 → u a (f0 + j) = zOut (pa (f0 + j)) (le (f0 + j)) (zVs pa le f0 (w, g, J 2) j) a) (fun u => wFl G ad pa le u (zJ2 J (J 0 + (zVs pa le f0 (w, g, J 2) n).1) (J 1 + (zVs pa le f0 (w, g, J 2) n).2.1)))) := by
  refine zEnterV (L := [some (.ref (ad 0)), some (.int (nI f0)), some (.int (nI n)), some (.long w), none, some (.long g), none, none, none, none, none, none, none, none, none, none, none, none]) (by decide) rfl (Nat.le_of_ble_eq_true rfl) rfl ?_
  refine a_lload_3 (pc := 0) dX0_runVessel_0 ?_
  refine a_lstore_7 (pc := 1) dX0_runVessel_1 rfl (by decide) ?_
  refine a_lload_5 (pc := 3) dX0_runVessel_3 ?_
  refine a_lstore_9 (pc := 5) dX0_runVessel_5 rfl (by decide) ?_
  refine a_aload_0 (pc := 7) dX0_runVessel_7 ?_
  refine a_getf (ci := 0) (j := 10) rfl win_X0 (by decide) (pc := 8) dX0_runVessel_8 kf_X0_44 rfl rfl ?_
  refine a_lstore_11 (pc := 11) dX0_runVessel_11 rfl (by decide) ?_
  refine a_iload_1 (pc := 13) dX0_runVessel_13 ?_
  refine a_istore_13 (pc := 14) dX0_runVessel_14 rfl (by decide) ?_
  exact lp_runVessel l G ad pa le B0 J f0 n hn w g n 0 B0 (by omega) ⟨fun _ _ _ => rfl, fun j hj => absurd hj (Nat.not_lt_zero j)⟩


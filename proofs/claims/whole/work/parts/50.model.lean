/-! The model: its world, leaves. -/
abbrev zY : Type := (Nat → Int32) × (Nat → Nat → Int64) × (Nat → Int64) × (Nat → Int32) × (Nat → Int32) × (Nat → Int32) × (Nat → Int32)
/- scratch: numbers, five long rows, five longs, had, costs, holds, carried -/
abbrev wM (G : zG) (ad : Nat → Nat) (σ : zσ) (y : zY) : va_W := [
  (ad 0, .inr (6, [.ref (ad 1), .int (nI (σ.1 0)), .ref (ad 2), .ref (ad 3), .int (nI (σ.1 1)), .int (nI (σ.1 2)), .int (nI (σ.1 3)), .ref (ad 4), .int (nI (σ.1 4)), .ref (ad 5), .ref (ad 6), .ref (ad 7), .ref (ad 8), .ref (ad 9), .ref (ad 10), .ref (ad 11), .ref (ad 12), .ref (ad 13), .long (y.2.2.1 0), .long (y.2.2.1 1), .long (y.2.2.1 2), .long (y.2.2.1 3), .long (y.2.2.1 4), .ref (ad 14), .ref (ad 15), .ref (ad 16), .ref (ad 17)])),
  (ad 1, .inl (zcI G, 3, .inl (fun k => nI (σ.2.1 0 k)))),
  (ad 2, .inl (zcI G, 72, .inl (fun k => nI (σ.2.1 1 k)))),
  (ad 3, .inl (zcI G, 72, .inl (fun k => nI (σ.2.1 2 k)))),
  (ad 4, .inl (zcI G, 7, .inl (fun k => nI (σ.2.1 3 k)))),
  (ad 5, .inl (zcI G, 12, .inl (fun k => nI (σ.2.1 4 k)))),
  (ad 6, .inl (zcI G, 12, .inl (fun k => nI (σ.2.1 5 k)))),
  (ad 7, .inl (zcI G, 2, .inl σ.2.2.1)),
  (ad 8, .inl (zcI G, 48, .inl y.1)),
  (ad 9, .inl (zcJ G, 72, .inr (.inl (y.2.1 0)))),
  (ad 10, .inl (zcJ G, 72, .inr (.inl (y.2.1 1)))),
  (ad 11, .inl (zcJ G, 72, .inr (.inl (y.2.1 2)))),
  (ad 12, .inl (zcJ G, 72, .inr (.inl (y.2.1 3)))),
  (ad 13, .inl (zcJ G, 72, .inr (.inl (y.2.1 4)))),
  (ad 14, .inl (zcI G, 3, .inl y.2.2.2.1)),
  (ad 15, .inl (zcI G, 2613, .inl y.2.2.2.2.1)),
  (ad 16, .inl (zcI G, 12, .inl y.2.2.2.2.2.1)),
  (ad 17, .inl (zcI G, 24, .inl y.2.2.2.2.2.2))]
/-- the model's numbers are those of the sheets, below their sizes -/
def zNb (σ : zσ) (nb : Nat → Int32) : Prop := ∀ s, s < 2 → ∀ k, k < 24 → nI k < σ.2.2.1 s → nb (24 * s + k) = σ.2.2.2 s k
def zPostM (G : zG) (ad : Nat → Nat) (o : Int64 × zσ) : Option Value → va_W → Prop := zV (fun u : zY => zNb o.2 u.1) (fun _ => .long o.1) (fun u => wM G ad o.2 u)
theorem mret {G : zG} {ad : Nat → Nat} {r : Int64} {σ' : zσ} {o : Int64 × zσ} (u : zY) {w : va_W} (e : o = (r, σ')) (hN : zNb σ' u.1) (hw : w = wM G ad σ' u) : zPostM G ad o (some (.long r)) w := ⟨u, by rw [e]; exact hN, by rw [e], by rw [e]; exact hw⟩
set_option maxRecDepth 100000 in
set_option maxHeartbeats 4000000 in
/-- isIn -/
theorem m_isIn (l : Launch) (G : zG) (v lo hi : Int32) : zSem l G sX6_isIn [.int v, .int lo, .int hi] ([]) (zP (.int (zB (¬ zOR v lo hi))) []) := by
  refine zEnterV (L := [some (.int v), some (.int lo), some (.int hi)]) (by decide) rfl (Nat.le_of_ble_eq_true rfl) rfl ?_
  refine a_iload_0 (pc := 0) dX6_isIn_0 ?_
  refine a_iload_1 (pc := 1) dX6_isIn_1 ?_
  refine a_icmp_lt (tgt := 14) (pc := 2) dX6_isIn_2 (by decide) (fun c_2 => ?_) (fun c_2 => ?_)
  · refine a_iconst (v := 0) (pc := 14) dX6_isIn_14 (by decide) ?_
    exact a_zret (pc := 15) dX6_isIn_15 rfl (by decide) rfl (by first | exact zPB1 (fun h => h.elim c_2 c_7) | exact zPB0 (fun h => h (Or.inl c_2)) | exact zPB0 (fun h => h (Or.inr c_7)))
  · refine a_iload_0 (pc := 5) dX6_isIn_5 ?_
    refine a_iload_2 (pc := 6) dX6_isIn_6 ?_
    refine a_icmp_gt (tgt := 14) (pc := 7) dX6_isIn_7 (by decide) (fun c_7 => ?_) (fun c_7 => ?_)
    · refine a_iconst (v := 0) (pc := 14) dX6_isIn_14 (by decide) ?_
      exact a_zret (pc := 15) dX6_isIn_15 rfl (by decide) rfl (by first | exact zPB1 (fun h => h.elim c_2 c_7) | exact zPB0 (fun h => h (Or.inl c_2)) | exact zPB0 (fun h => h (Or.inr c_7)))
    · refine a_iconst (v := 1) (pc := 10) dX6_isIn_10 (by decide) ?_
      refine a_goto (tgt := 15) (pc := 11) dX6_isIn_11 (by decide) ?_
      exact a_zret (pc := 15) dX6_isIn_15 rfl (by decide) rfl (by first | exact zPB1 (fun h => h.elim c_2 c_7) | exact zPB0 (fun h => h (Or.inl c_2)) | exact zPB0 (fun h => h (Or.inr c_7)))

set_option maxRecDepth 100000 in
set_option maxHeartbeats 4000000 in
/-- saltOf -/
theorem m_saltOf (l : Launch) (G : zG) (w g : Int64) : zSem l G sX6_saltOf [.long w, .long g] ([]) (zP (.long (zSalt w g)) []) := by
  refine zEnterV (L := [some (.long w), none, some (.long g), none]) (by decide) rfl (Nat.le_of_ble_eq_true rfl) rfl ?_
  refine a_lload_0 (pc := 0) dX6_saltOf_0 ?_
  refine a_lconst (v := 0) (pc := 1) dX6_saltOf_1 (by decide) ?_
  refine a_lif_ne (tgt := 10) (pc := 2) dX6_saltOf_2 dX6_saltOf_3 (by decide) (fun c_2 => ?_) (fun c_2 => ?_)
  · refine a_lload_2 (pc := 10) dX6_saltOf_10 ?_
    refine a_lload_0 (pc := 11) dX6_saltOf_11 ?_
    refine a_ldiv (pc := 12) dX6_saltOf_12 c_2 ?_
    exact a_lret (pc := 13) dX6_saltOf_13 rfl rfl (by first | exact ⟨congrArg (fun z => some (Value.long z)) (if_pos c_2).symm, rfl⟩ | exact ⟨congrArg (fun z => some (Value.long z)) (if_neg c_2).symm, rfl⟩)
  · refine a_lconst (v := 0) (pc := 6) dX6_saltOf_6 (by decide) ?_
    refine a_goto (tgt := 13) (pc := 7) dX6_saltOf_7 (by decide) ?_
    exact a_lret (pc := 13) dX6_saltOf_13 rfl rfl (by first | exact ⟨congrArg (fun z => some (Value.long z)) (if_pos c_2).symm, rfl⟩ | exact ⟨congrArg (fun z => some (Value.long z)) (if_neg c_2).symm, rfl⟩)

set_option maxRecDepth 100000 in
set_option maxHeartbeats 4000000 in
/-- skinAt -/
theorem m_skinAt (l : Launch) (G : zG) (k : Nat) (hk : k < 72) : zSem l G sX6_skinAt [.int (nI k)] ([]) (zP (.int (nI (zNum k))) []) := by
  refine zEnterV (L := [some (.int (nI k))]) (by decide) rfl (Nat.le_of_ble_eq_true rfl) rfl ?_
  refine a_bipush (v := 100) (pc := 0) dX6_skinAt_0 (by decide) ?_
  refine a_iload_0 (pc := 2) dX6_skinAt_2 ?_
  refine a_bipush (v := 24) (pc := 3) dX6_skinAt_3 (by decide) ?_
  refine a_idiv (pc := 5) dX6_skinAt_5 (by decide) ?_
  refine a_imul (pc := 6) dX6_skinAt_6 ?_
  refine a_bipush (v := 10) (pc := 7) dX6_skinAt_7 (by decide) ?_
  refine a_iload_0 (pc := 9) dX6_skinAt_9 ?_
  refine a_bipush (v := 6) (pc := 10) dX6_skinAt_10 (by decide) ?_
  refine a_idiv (pc := 12) dX6_skinAt_12 (by decide) ?_
  refine a_iconst (v := 4) (pc := 13) dX6_skinAt_13 (by decide) ?_
  refine a_irem (pc := 14) dX6_skinAt_14 (by decide) ?_
  refine a_imul (pc := 15) dX6_skinAt_15 ?_
  refine a_iadd (pc := 16) dX6_skinAt_16 ?_
  refine a_iload_0 (pc := 17) dX6_skinAt_17 ?_
  refine a_bipush (v := 6) (pc := 18) dX6_skinAt_18 (by decide) ?_
  refine a_irem (pc := 20) dX6_skinAt_20 (by decide) ?_
  refine a_iadd (pc := 21) dX6_skinAt_21 ?_
  exact a_iret (pc := 22) dX6_skinAt_22 rfl rfl (by
      refine ⟨congrArg (fun z => some (Value.int z)) ?_, rfl⟩
      rw [show (24 : Int32) = nI 24 from rfl, show (6 : Int32) = nI 6 from rfl, show (4 : Int32) = nI 4 from rfl, show (100 : Int32) = nI 100 from rfl, show (10 : Int32) = nI 10 from rfl]
      rw [zI_rem (a := k) (b := 6) (by omega) (by decide) (by decide), zI_div (a := k) (b := 6) (by omega) (by decide) (by decide), zI_rem (a := k / 6) (b := 4) (by omega) (by decide) (by decide), zI_div (a := k) (b := 24) (by omega) (by decide) (by decide), ← zI_mul, ← zI_mul, ← zI_add, ← zI_add]
      congr 1
      unfold zNum
      omega)

set_option maxRecDepth 100000 in
set_option maxHeartbeats 4000000 in
/-- m_pass -/
theorem m_pass (l : Launch) (G : zG) (ad : Nat → Nat) (σ : zσ) (hσ : zOk σ) (x0 : zY) (k : Nat) (hk : k < 72) : zSem l G sX6_pass [.ref (ad 0), .int (nI k)] (wM G ad σ x0) (zP (.int (zPass (zKd σ) (zFo σ) k)) (wM G ad σ x0)) := by
  refine zEnterV (L := [some (.ref (ad 0)), some (.int (nI k)), none]) (by decide) rfl (Nat.le_of_ble_eq_true rfl) rfl ?_
  refine a_aload_0 (pc := 0) dX6_pass_0 ?_
  refine a_getf (ci := 6) (j := 2) rfl win_X6 (by decide) (pc := 1) dX6_pass_1 kf_X6_17 rfl rfl ?_
  refine a_iload_1 (pc := 4) dX6_pass_4 ?_
  refine a_ialdN (pc := 5) dX6_pass_5 rfl (by omega) (by decide) ?_
  refine a_iconst (v := 1) (pc := 6) dX6_pass_6 (by decide) ?_
  refine a_icmp_ne (tgt := 15) (pc := 7) dX6_pass_7 (by decide) (fun c_7 => ?_) (fun c_7 => ?_)
  · refine a_aload_0 (pc := 15) dX6_pass_15 ?_
    refine a_getf (ci := 6) (j := 2) rfl win_X6 (by decide) (pc := 16) dX6_pass_16 kf_X6_17 rfl rfl ?_
    refine a_iload_1 (pc := 19) dX6_pass_19 ?_
    refine a_ialdN (pc := 20) dX6_pass_20 rfl (by omega) (by decide) ?_
    refine a_iconst (v := 2) (pc := 21) dX6_pass_21 (by decide) ?_
    refine a_icmp_ne (tgt := 30) (pc := 22) dX6_pass_22 (by decide) (fun c_22 => ?_) (fun c_22 => ?_)
    · refine a_aload_0 (pc := 30) dX6_pass_30 ?_
      refine a_getf (ci := 6) (j := 2) rfl win_X6 (by decide) (pc := 31) dX6_pass_31 kf_X6_17 rfl rfl ?_
      refine a_iload_1 (pc := 34) dX6_pass_34 ?_
      refine a_ialdN (pc := 35) dX6_pass_35 rfl (by omega) (by decide) ?_
      refine a_iconst (v := 3) (pc := 36) dX6_pass_36 (by decide) ?_
      refine a_icmp_ne (tgt := 45) (pc := 37) dX6_pass_37 (by decide) (fun c_37 => ?_) (fun c_37 => ?_)
      · have h0_ : nI (σ.2.1 1 k) = 0 := by
          have h4_ := hσ.2.2.2.2.2.2.2.1 k hk
          rcases (show σ.2.1 1 k = 0 ∨ σ.2.1 1 k = 1 ∨ σ.2.1 1 k = 2 ∨ σ.2.1 1 k = 3 by omega) with e | e | e | e
          · rw [e]; rfl
          · exact absurd (by rw [e]; rfl) c_7
          · exact absurd (by rw [e]; rfl) c_22
          · exact absurd (by rw [e]; rfl) c_37
        refine a_bipush (v := 40) (pc := 45) dX6_pass_45 (by decide) ?_
        refine a_istore_2 (pc := 47) dX6_pass_47 rfl (by decide) ?_
        refine a_iload_2 (pc := 48) dX6_pass_48 ?_
        refine a_iload_2 (pc := 49) dX6_pass_49 ?_
        refine a_aload_0 (pc := 50) dX6_pass_50 ?_
        refine a_getf (ci := 6) (j := 3) rfl win_X6 (by decide) (pc := 51) dX6_pass_51 kf_X6_20 rfl rfl ?_
        refine a_iload_1 (pc := 54) dX6_pass_54 ?_
        refine a_ialdN (pc := 55) dX6_pass_55 rfl (by omega) (by decide) ?_
        refine a_imul (pc := 56) dX6_pass_56 ?_
        refine a_bipush (v := 100) (pc := 57) dX6_pass_57 (by decide) ?_
        refine a_idiv (pc := 59) dX6_pass_59 (by decide) ?_
        refine a_isub (pc := 60) dX6_pass_60 ?_
        exact a_iret (pc := 61) dX6_pass_61 rfl rfl (by
            refine ⟨congrArg (fun z => some (Value.int z)) ?_, rfl⟩
            show _ = zPassOf (nI (σ.2.1 1 k)) - zPassOf (nI (σ.2.1 1 k)) * nI (σ.2.1 2 k) / 100
            first
            | rw [c_7, show zPassOf 1 = 30 by decide +kernel]
            | rw [c_22, show zPassOf 2 = 60 by decide +kernel]
            | rw [c_37, show zPassOf 3 = 20 by decide +kernel]
            | rw [h0_, show zPassOf 0 = 40 by decide +kernel])
      · refine a_bipush (v := 20) (pc := 40) dX6_pass_40 (by decide) ?_
        refine a_goto (tgt := 47) (pc := 42) dX6_pass_42 (by decide) ?_
        refine a_istore_2 (pc := 47) dX6_pass_47 rfl (by decide) ?_
        refine a_iload_2 (pc := 48) dX6_pass_48 ?_
        refine a_iload_2 (pc := 49) dX6_pass_49 ?_
        refine a_aload_0 (pc := 50) dX6_pass_50 ?_
        refine a_getf (ci := 6) (j := 3) rfl win_X6 (by decide) (pc := 51) dX6_pass_51 kf_X6_20 rfl rfl ?_
        refine a_iload_1 (pc := 54) dX6_pass_54 ?_
        refine a_ialdN (pc := 55) dX6_pass_55 rfl (by omega) (by decide) ?_
        refine a_imul (pc := 56) dX6_pass_56 ?_
        refine a_bipush (v := 100) (pc := 57) dX6_pass_57 (by decide) ?_
        refine a_idiv (pc := 59) dX6_pass_59 (by decide) ?_
        refine a_isub (pc := 60) dX6_pass_60 ?_
        exact a_iret (pc := 61) dX6_pass_61 rfl rfl (by
            refine ⟨congrArg (fun z => some (Value.int z)) ?_, rfl⟩
            show _ = zPassOf (nI (σ.2.1 1 k)) - zPassOf (nI (σ.2.1 1 k)) * nI (σ.2.1 2 k) / 100
            first
            | rw [c_7, show zPassOf 1 = 30 by decide +kernel]
            | rw [c_22, show zPassOf 2 = 60 by decide +kernel]
            | rw [c_37, show zPassOf 3 = 20 by decide +kernel]
            | rw [h0_, show zPassOf 0 = 40 by decide +kernel])
    · refine a_bipush (v := 60) (pc := 25) dX6_pass_25 (by decide) ?_
      refine a_goto (tgt := 47) (pc := 27) dX6_pass_27 (by decide) ?_
      refine a_istore_2 (pc := 47) dX6_pass_47 rfl (by decide) ?_
      refine a_iload_2 (pc := 48) dX6_pass_48 ?_
      refine a_iload_2 (pc := 49) dX6_pass_49 ?_
      refine a_aload_0 (pc := 50) dX6_pass_50 ?_
      refine a_getf (ci := 6) (j := 3) rfl win_X6 (by decide) (pc := 51) dX6_pass_51 kf_X6_20 rfl rfl ?_
      refine a_iload_1 (pc := 54) dX6_pass_54 ?_
      refine a_ialdN (pc := 55) dX6_pass_55 rfl (by omega) (by decide) ?_
      refine a_imul (pc := 56) dX6_pass_56 ?_
      refine a_bipush (v := 100) (pc := 57) dX6_pass_57 (by decide) ?_
      refine a_idiv (pc := 59) dX6_pass_59 (by decide) ?_
      refine a_isub (pc := 60) dX6_pass_60 ?_
      exact a_iret (pc := 61) dX6_pass_61 rfl rfl (by
          refine ⟨congrArg (fun z => some (Value.int z)) ?_, rfl⟩
          show _ = zPassOf (nI (σ.2.1 1 k)) - zPassOf (nI (σ.2.1 1 k)) * nI (σ.2.1 2 k) / 100
          first
          | rw [c_7, show zPassOf 1 = 30 by decide +kernel]
          | rw [c_22, show zPassOf 2 = 60 by decide +kernel]
          | rw [c_37, show zPassOf 3 = 20 by decide +kernel]
          | rw [h0_, show zPassOf 0 = 40 by decide +kernel])
  · refine a_bipush (v := 30) (pc := 10) dX6_pass_10 (by decide) ?_
    refine a_goto (tgt := 47) (pc := 12) dX6_pass_12 (by decide) ?_
    refine a_istore_2 (pc := 47) dX6_pass_47 rfl (by decide) ?_
    refine a_iload_2 (pc := 48) dX6_pass_48 ?_
    refine a_iload_2 (pc := 49) dX6_pass_49 ?_
    refine a_aload_0 (pc := 50) dX6_pass_50 ?_
    refine a_getf (ci := 6) (j := 3) rfl win_X6 (by decide) (pc := 51) dX6_pass_51 kf_X6_20 rfl rfl ?_
    refine a_iload_1 (pc := 54) dX6_pass_54 ?_
    refine a_ialdN (pc := 55) dX6_pass_55 rfl (by omega) (by decide) ?_
    refine a_imul (pc := 56) dX6_pass_56 ?_
    refine a_bipush (v := 100) (pc := 57) dX6_pass_57 (by decide) ?_
    refine a_idiv (pc := 59) dX6_pass_59 (by decide) ?_
    refine a_isub (pc := 60) dX6_pass_60 ?_
    exact a_iret (pc := 61) dX6_pass_61 rfl rfl (by
        refine ⟨congrArg (fun z => some (Value.int z)) ?_, rfl⟩
        show _ = zPassOf (nI (σ.2.1 1 k)) - zPassOf (nI (σ.2.1 1 k)) * nI (σ.2.1 2 k) / 100
        first
        | rw [c_7, show zPassOf 1 = 30 by decide +kernel]
        | rw [c_22, show zPassOf 2 = 60 by decide +kernel]
        | rw [c_37, show zPassOf 3 = 20 by decide +kernel]
        | rw [h0_, show zPassOf 0 = 40 by decide +kernel])

set_option maxRecDepth 100000 in
set_option maxHeartbeats 4000000 in
/-- m_leak -/
theorem m_leak (l : Launch) (G : zG) (ad : Nat → Nat) (σ : zσ) (hσ : zOk σ) (x0 : zY) (k : Nat) (hk : k < 72) : zSem l G sX6_leak [.ref (ad 0), .int (nI k)] (wM G ad σ x0) (zP (.int (zLeak (zKd σ) k)) (wM G ad σ x0)) := by
  refine zEnterV (L := [some (.ref (ad 0)), some (.int (nI k))]) (by decide) rfl (Nat.le_of_ble_eq_true rfl) rfl ?_
  refine a_aload_0 (pc := 0) dX6_leak_0 ?_
  refine a_getf (ci := 6) (j := 2) rfl win_X6 (by decide) (pc := 1) dX6_leak_1 kf_X6_17 rfl rfl ?_
  refine a_iload_1 (pc := 4) dX6_leak_4 ?_
  refine a_ialdN (pc := 5) dX6_leak_5 rfl (by omega) (by decide) ?_
  refine a_iconst (v := 1) (pc := 6) dX6_leak_6 (by decide) ?_
  refine a_icmp_ne (tgt := 14) (pc := 7) dX6_leak_7 (by decide) (fun c_7 => ?_) (fun c_7 => ?_)
  · refine a_aload_0 (pc := 14) dX6_leak_14 ?_
    refine a_getf (ci := 6) (j := 2) rfl win_X6 (by decide) (pc := 15) dX6_leak_15 kf_X6_17 rfl rfl ?_
    refine a_iload_1 (pc := 18) dX6_leak_18 ?_
    refine a_ialdN (pc := 19) dX6_leak_19 rfl (by omega) (by decide) ?_
    refine a_iconst (v := 2) (pc := 20) dX6_leak_20 (by decide) ?_
    refine a_icmp_ne (tgt := 29) (pc := 21) dX6_leak_21 (by decide) (fun c_21 => ?_) (fun c_21 => ?_)
    · refine a_aload_0 (pc := 29) dX6_leak_29 ?_
      refine a_getf (ci := 6) (j := 2) rfl win_X6 (by decide) (pc := 30) dX6_leak_30 kf_X6_17 rfl rfl ?_
      refine a_iload_1 (pc := 33) dX6_leak_33 ?_
      refine a_ialdN (pc := 34) dX6_leak_34 rfl (by omega) (by decide) ?_
      refine a_iconst (v := 3) (pc := 35) dX6_leak_35 (by decide) ?_
      refine a_icmp_ne (tgt := 43) (pc := 36) dX6_leak_36 (by decide) (fun c_36 => ?_) (fun c_36 => ?_)
      · have h0_ : nI (σ.2.1 1 k) = 0 := by
          have h4_ := hσ.2.2.2.2.2.2.2.1 k hk
          rcases (show σ.2.1 1 k = 0 ∨ σ.2.1 1 k = 1 ∨ σ.2.1 1 k = 2 ∨ σ.2.1 1 k = 3 by omega) with e | e | e | e
          · rw [e]; rfl
          · exact absurd (by rw [e]; rfl) c_7
          · exact absurd (by rw [e]; rfl) c_21
          · exact absurd (by rw [e]; rfl) c_36
        refine a_bipush (v := 10) (pc := 43) dX6_leak_43 (by decide) ?_
        exact a_iret (pc := 45) dX6_leak_45 rfl rfl (by
            refine ⟨congrArg (fun z => some (Value.int z)) ?_, rfl⟩
            show _ = zLeakOf (nI (σ.2.1 1 k))
            first
            | rw [c_7, show zLeakOf 1 = 5 by decide +kernel]
            | rw [c_21, show zLeakOf 2 = 25 by decide +kernel]
            | rw [c_36, show zLeakOf 3 = 2 by decide +kernel]
            | rw [h0_, show zLeakOf 0 = 10 by decide +kernel])
      · refine a_iconst (v := 2) (pc := 39) dX6_leak_39 (by decide) ?_
        refine a_goto (tgt := 45) (pc := 40) dX6_leak_40 (by decide) ?_
        exact a_iret (pc := 45) dX6_leak_45 rfl rfl (by
            refine ⟨congrArg (fun z => some (Value.int z)) ?_, rfl⟩
            show _ = zLeakOf (nI (σ.2.1 1 k))
            first
            | rw [c_7, show zLeakOf 1 = 5 by decide +kernel]
            | rw [c_21, show zLeakOf 2 = 25 by decide +kernel]
            | rw [c_36, show zLeakOf 3 = 2 by decide +kernel]
            | rw [h0_, show zLeakOf 0 = 10 by decide +kernel])
    · refine a_bipush (v := 25) (pc := 24) dX6_leak_24 (by decide) ?_
      refine a_goto (tgt := 45) (pc := 26) dX6_leak_26 (by decide) ?_
      exact a_iret (pc := 45) dX6_leak_45 rfl rfl (by
          refine ⟨congrArg (fun z => some (Value.int z)) ?_, rfl⟩
          show _ = zLeakOf (nI (σ.2.1 1 k))
          first
          | rw [c_7, show zLeakOf 1 = 5 by decide +kernel]
          | rw [c_21, show zLeakOf 2 = 25 by decide +kernel]
          | rw [c_36, show zLeakOf 3 = 2 by decide +kernel]
          | rw [h0_, show zLeakOf 0 = 10 by decide +kernel])
  · refine a_iconst (v := 5) (pc := 10) dX6_leak_10 (by decide) ?_
    refine a_goto (tgt := 45) (pc := 11) dX6_leak_11 (by decide) ?_
    exact a_iret (pc := 45) dX6_leak_45 rfl rfl (by
        refine ⟨congrArg (fun z => some (Value.int z)) ?_, rfl⟩
        show _ = zLeakOf (nI (σ.2.1 1 k))
        first
        | rw [c_7, show zLeakOf 1 = 5 by decide +kernel]
        | rw [c_21, show zLeakOf 2 = 25 by decide +kernel]
        | rw [c_36, show zLeakOf 3 = 2 by decide +kernel]
        | rw [h0_, show zLeakOf 0 = 10 by decide +kernel])

set_option maxRecDepth 100000 in
set_option maxHeartbeats 4000000 in
/-- exchange -/
theorem m_exchange (l : Launch) (G : zG) (ad : Nat → Nat) (σ : zσ) (x0 : zY) (k j : Nat) (hk : k < 72) (hj : j < 72) : zSem l G sX6_exchange [.ref (ad 0), .int (nI k), .int (nI j)] (wM G ad σ x0) (z0 (fun _ : Unit => True) (fun _ => wM G ad (σ.1, zu2 (zu2 σ.2.1 1 (zExN (σ.2.1 1) k j)) 2 (zExN (σ.2.1 2) k j), σ.2.2) x0)) := by
  refine zEnterV (L := [some (.ref (ad 0)), some (.int (nI k)), some (.int (nI j)), none, none]) (by decide) rfl (Nat.le_of_ble_eq_true rfl) rfl ?_
  refine a_aload_0 (pc := 0) dX6_exchange_0 ?_
  refine a_getf (ci := 6) (j := 2) rfl win_X6 (by decide) (pc := 1) dX6_exchange_1 kf_X6_17 rfl rfl ?_
  refine a_iload_1 (pc := 4) dX6_exchange_4 ?_
  refine a_ialdN (pc := 5) dX6_exchange_5 rfl (by omega) (by decide) ?_
  refine a_istore_3 (pc := 6) dX6_exchange_6 rfl (by decide) ?_
  refine a_aload_0 (pc := 7) dX6_exchange_7 ?_
  refine a_getf (ci := 6) (j := 3) rfl win_X6 (by decide) (pc := 8) dX6_exchange_8 kf_X6_20 rfl rfl ?_
  refine a_iload_1 (pc := 11) dX6_exchange_11 ?_
  refine a_ialdN (pc := 12) dX6_exchange_12 rfl (by omega) (by decide) ?_
  refine a_istore_4 (pc := 13) dX6_exchange_13 rfl (by decide) ?_
  refine a_aload_0 (pc := 15) dX6_exchange_15 ?_
  refine a_getf (ci := 6) (j := 2) rfl win_X6 (by decide) (pc := 16) dX6_exchange_16 kf_X6_17 rfl rfl ?_
  refine a_iload_1 (pc := 19) dX6_exchange_19 ?_
  refine a_aload_0 (pc := 20) dX6_exchange_20 ?_
  refine a_getf (ci := 6) (j := 2) rfl win_X6 (by decide) (pc := 21) dX6_exchange_21 kf_X6_17 rfl rfl ?_
  refine a_iload_2 (pc := 24) dX6_exchange_24 ?_
  refine a_ialdN (pc := 25) dX6_exchange_25 rfl (by omega) (by decide) ?_
  refine a_iastN (pc := 26) dX6_exchange_26 rfl (by omega) (by decide) ?_
  refine a_aload_0 (pc := 27) dX6_exchange_27 ?_
  refine a_getf (ci := 6) (j := 3) rfl win_X6 (by decide) (pc := 28) dX6_exchange_28 kf_X6_20 rfl rfl ?_
  refine a_iload_1 (pc := 31) dX6_exchange_31 ?_
  refine a_aload_0 (pc := 32) dX6_exchange_32 ?_
  refine a_getf (ci := 6) (j := 3) rfl win_X6 (by decide) (pc := 33) dX6_exchange_33 kf_X6_20 rfl rfl ?_
  refine a_iload_2 (pc := 36) dX6_exchange_36 ?_
  refine a_ialdN (pc := 37) dX6_exchange_37 rfl (by omega) (by decide) ?_
  refine a_iastN (pc := 38) dX6_exchange_38 rfl (by omega) (by decide) ?_
  refine a_aload_0 (pc := 39) dX6_exchange_39 ?_
  refine a_getf (ci := 6) (j := 2) rfl win_X6 (by decide) (pc := 40) dX6_exchange_40 kf_X6_17 rfl rfl ?_
  refine a_iload_2 (pc := 43) dX6_exchange_43 ?_
  refine a_iload_3 (pc := 44) dX6_exchange_44 ?_
  refine a_iastN (pc := 45) dX6_exchange_45 rfl (by omega) (by decide) ?_
  refine a_aload_0 (pc := 46) dX6_exchange_46 ?_
  refine a_getf (ci := 6) (j := 3) rfl win_X6 (by decide) (pc := 47) dX6_exchange_47 kf_X6_20 rfl rfl ?_
  refine a_iload_2 (pc := 50) dX6_exchange_50 ?_
  refine a_iload_4 (pc := 51) dX6_exchange_51 ?_
  refine a_iastN (pc := 53) dX6_exchange_53 rfl (by omega) (by decide) ?_
  exact a_vret (pc := 54) dX6_exchange_54 rfl rfl ⟨(), trivial, rfl, by rw [updN, updN, updN, updN]; rfl⟩

set_option maxRecDepth 100000 in
set_option maxHeartbeats 4000000 in
theorem m_stage (l : Launch) (G : zG) (ad : Nat → Nat) (σ : zσ) (x0 : zY) (hσ : zOk σ) (hN : zNb σ x0.1) (x : Int32) (n : Int32) : zSem l G sX6_stage [.ref (ad 0), .int x, .int n] (wM G ad σ x0) (zPostM G ad (o_stage σ x n)) := by
  refine zEnterV (L := [some (.ref (ad 0)), some (.int x), some (.int n), none]) (by decide) rfl (Nat.le_of_ble_eq_true rfl) rfl ?_
  refine a_iload_1 (pc := 0) dX6_stage_0 ?_
  refine a_iconst (v := 0) (pc := 1) dX6_stage_1 (by decide) ?_
  refine a_iconst (v := 2) (pc := 2) dX6_stage_2 (by decide) ?_
  refine cS_P (S2 := sX6_isIn) (m_isIn l G _ _ _) kc_X6_isIn km_X6_75 ks_X6_isIn kini_X6 ⟨kn_X6_isIn, by decide, by decide⟩ (pc := 3) dX6_stage_3 [] rfl rfl rfl rfl (Nat.le_of_ble_eq_true rfl) ?_
  first | refine a_if_eqB (tgt := 26) (pc := 6) dX6_stage_6 (by decide) (fun c_6 => ?_) (fun c_6 => ?_) | refine a_if_eq (tgt := 26) (pc := 6) dX6_stage_6 (by decide) (fun c_6 => ?_) (fun c_6 => ?_)
  · refine a_ldc2 (pc := 26) dX6_stage_26 kl_X6_79 ?_
    exact a_lret (pc := 29) dX6_stage_29 rfl rfl (by first | exact mret x0 (if_pos (Or.inl (Decidable.not_not.mp c_6))) hN rfl | exact mret x0 (if_pos (Or.inr (by first | rw [if_pos c_11]; exact Decidable.not_not.mp c_23 | rw [if_neg c_11]; exact Decidable.not_not.mp c_23))) hN rfl)
  · refine a_iload_2 (pc := 9) dX6_stage_9 ?_
    refine a_iload_1 (pc := 10) dX6_stage_10 ?_
    first | refine a_if_neB (tgt := 18) (pc := 11) dX6_stage_11 (by decide) (fun c_11 => ?_) (fun c_11 => ?_) | refine a_if_ne (tgt := 18) (pc := 11) dX6_stage_11 (by decide) (fun c_11 => ?_) (fun c_11 => ?_)
    · refine a_iconst (v := 0) (pc := 18) dX6_stage_18 (by decide) ?_
      refine a_iconst (v := 4) (pc := 19) dX6_stage_19 (by decide) ?_
      refine cS_P (S2 := sX6_isIn) (m_isIn l G _ _ _) kc_X6_isIn km_X6_75 ks_X6_isIn kini_X6 ⟨kn_X6_isIn, by decide, by decide⟩ (pc := 20) dX6_stage_20 [] rfl rfl rfl rfl (Nat.le_of_ble_eq_true rfl) ?_
      first | refine a_if_neB (tgt := 30) (pc := 23) dX6_stage_23 (by decide) (fun c_23 => ?_) (fun c_23 => ?_) | refine a_if_ne (tgt := 30) (pc := 23) dX6_stage_23 (by decide) (fun c_23 => ?_) (fun c_23 => ?_)
      · obtain ⟨k, hk_, rfl⟩ := zrange (n := 2) (by decide) rfl c_6
        obtain ⟨mm_, hm_, rfl⟩ : ∃ z, z ≤ 4 ∧ n = nI z := zrange (n := 4) (by decide) rfl (fun h => c_23 (h.elim (fun h => Or.inl (by first | exact h | exact Int32.lt_trans h (by decide))) Or.inr))
        refine a_aload_0 (pc := 30) dX6_stage_30 ?_
        refine a_getf (ci := 6) (j := 0) rfl win_X6 (by decide) (pc := 31) dX6_stage_31 kf_X6_7 rfl rfl ?_
        refine a_iload_1 (pc := 34) dX6_stage_34 ?_
        refine a_ialdN (pc := 35) dX6_stage_35 rfl (by omega) (by decide) ?_
        refine a_istore_3 (pc := 36) dX6_stage_36 rfl (by decide) ?_
        refine a_aload_0 (pc := 37) dX6_stage_37 ?_
        refine a_getf (ci := 6) (j := 0) rfl win_X6 (by decide) (pc := 38) dX6_stage_38 kf_X6_7 rfl rfl ?_
        refine a_iload_1 (pc := 41) dX6_stage_41 ?_
        refine a_iload_2 (pc := 42) dX6_stage_42 ?_
        refine a_iastN (pc := 43) dX6_stage_43 rfl (by omega) (by decide) ?_
        refine a_iload_3 (pc := 44) dX6_stage_44 ?_
        refine a_i2l (pc := 45) dX6_stage_45 ?_
        exact a_lret (pc := 46) dX6_stage_46 rfl rfl (by
            have e_ : o_stage σ (nI k) (nI mm_) = _ := if_neg (fun h => h.elim c_6 (fun h => c_23 (by first | rw [if_pos c_11] at h; exact h | rw [if_neg c_11] at h; exact h)))
            rw [nI_clamp (by omega), nI_clamp (by omega)] at e_
            exact mret x0 e_ hN (by rw [updN]; rfl))
      · refine a_ldc2 (pc := 26) dX6_stage_26 kl_X6_79 ?_
        exact a_lret (pc := 29) dX6_stage_29 rfl rfl (by first | exact mret x0 (if_pos (Or.inl (Decidable.not_not.mp c_6))) hN rfl | exact mret x0 (if_pos (Or.inr (by first | rw [if_pos c_11]; exact Decidable.not_not.mp c_23 | rw [if_neg c_11]; exact Decidable.not_not.mp c_23))) hN rfl)
    · refine a_iconst (v := 1) (pc := 14) dX6_stage_14 (by decide) ?_
      refine a_goto (tgt := 19) (pc := 15) dX6_stage_15 (by decide) ?_
      refine a_iconst (v := 4) (pc := 19) dX6_stage_19 (by decide) ?_
      refine cS_P (S2 := sX6_isIn) (m_isIn l G _ _ _) kc_X6_isIn km_X6_75 ks_X6_isIn kini_X6 ⟨kn_X6_isIn, by decide, by decide⟩ (pc := 20) dX6_stage_20 [] rfl rfl rfl rfl (Nat.le_of_ble_eq_true rfl) ?_
      first | refine a_if_neB (tgt := 30) (pc := 23) dX6_stage_23 (by decide) (fun c_23 => ?_) (fun c_23 => ?_) | refine a_if_ne (tgt := 30) (pc := 23) dX6_stage_23 (by decide) (fun c_23 => ?_) (fun c_23 => ?_)
      · obtain ⟨k, hk_, rfl⟩ := zrange (n := 2) (by decide) rfl c_6
        obtain ⟨mm_, hm_, rfl⟩ : ∃ z, z ≤ 4 ∧ n = nI z := zrange (n := 4) (by decide) rfl (fun h => c_23 (h.elim (fun h => Or.inl (by first | exact h | exact Int32.lt_trans h (by decide))) Or.inr))
        refine a_aload_0 (pc := 30) dX6_stage_30 ?_
        refine a_getf (ci := 6) (j := 0) rfl win_X6 (by decide) (pc := 31) dX6_stage_31 kf_X6_7 rfl rfl ?_
        refine a_iload_1 (pc := 34) dX6_stage_34 ?_
        refine a_ialdN (pc := 35) dX6_stage_35 rfl (by omega) (by decide) ?_
        refine a_istore_3 (pc := 36) dX6_stage_36 rfl (by decide) ?_
        refine a_aload_0 (pc := 37) dX6_stage_37 ?_
        refine a_getf (ci := 6) (j := 0) rfl win_X6 (by decide) (pc := 38) dX6_stage_38 kf_X6_7 rfl rfl ?_
        refine a_iload_1 (pc := 41) dX6_stage_41 ?_
        refine a_iload_2 (pc := 42) dX6_stage_42 ?_
        refine a_iastN (pc := 43) dX6_stage_43 rfl (by omega) (by decide) ?_
        refine a_iload_3 (pc := 44) dX6_stage_44 ?_
        refine a_i2l (pc := 45) dX6_stage_45 ?_
        exact a_lret (pc := 46) dX6_stage_46 rfl rfl (by
            have e_ : o_stage σ (nI k) (nI mm_) = _ := if_neg (fun h => h.elim c_6 (fun h => c_23 (by first | rw [if_pos c_11] at h; exact h | rw [if_neg c_11] at h; exact h)))
            rw [nI_clamp (by omega), nI_clamp (by omega)] at e_
            exact mret x0 e_ hN (by rw [updN]; rfl))
      · refine a_ldc2 (pc := 26) dX6_stage_26 kl_X6_79 ?_
        exact a_lret (pc := 29) dX6_stage_29 rfl rfl (by first | exact mret x0 (if_pos (Or.inl (Decidable.not_not.mp c_6))) hN rfl | exact mret x0 (if_pos (Or.inr (by first | rw [if_pos c_11]; exact Decidable.not_not.mp c_23 | rw [if_neg c_11]; exact Decidable.not_not.mp c_23))) hN rfl)

set_option maxRecDepth 100000 in
set_option maxHeartbeats 4000000 in
theorem m_length (l : Launch) (G : zG) (ad : Nat → Nat) (σ : zσ) (x0 : zY) (hσ : zOk σ) (hN : zNb σ x0.1) (n : Int32) : zSem l G sX6_length [.ref (ad 0), .int n] (wM G ad σ x0) (zPostM G ad (o_length σ n)) := by
  refine zEnterV (L := [some (.ref (ad 0)), some (.int n), none]) (by decide) rfl (Nat.le_of_ble_eq_true rfl) rfl ?_
  refine a_iload_1 (pc := 0) dX6_length_0 ?_
  refine a_iconst (v := 1) (pc := 1) dX6_length_1 (by decide) ?_
  refine a_bipush (v := 6) (pc := 2) dX6_length_2 (by decide) ?_
  refine cS_P (S2 := sX6_isIn) (m_isIn l G _ _ _) kc_X6_isIn km_X6_75 ks_X6_isIn kini_X6 ⟨kn_X6_isIn, by decide, by decide⟩ (pc := 4) dX6_length_4 [] rfl rfl rfl rfl (Nat.le_of_ble_eq_true rfl) ?_
  first | refine a_if_neB (tgt := 14) (pc := 7) dX6_length_7 (by decide) (fun c_7 => ?_) (fun c_7 => ?_) | refine a_if_ne (tgt := 14) (pc := 7) dX6_length_7 (by decide) (fun c_7 => ?_) (fun c_7 => ?_)
  · obtain ⟨k, hk_, rfl⟩ := zrange1 (n := 6) (by decide) rfl c_7
    refine a_aload_0 (pc := 14) dX6_length_14 ?_
    refine a_getf (ci := 6) (j := 1) rfl win_X6 (by decide) (pc := 15) dX6_length_15 kf_X6_13 rfl rfl ?_
    refine a_istore_2 (pc := 18) dX6_length_18 rfl (by decide) ?_
    refine a_aload_0 (pc := 19) dX6_length_19 ?_
    refine a_iload_1 (pc := 20) dX6_length_20 ?_
    refine a_putf (ci := 6) (j := 1) rfl win_X6 tyX6_ok nmX6 (by decide) (pc := 21) dX6_length_21 kf_X6_13 rfl rfl rfl rfl rfl (Nat.le_of_ble_eq_true rfl) ?_
    refine a_iload_2 (pc := 24) dX6_length_24 ?_
    refine a_i2l (pc := 25) dX6_length_25 ?_
    exact a_lret (pc := 26) dX6_length_26 rfl rfl (by
        have e_ : o_length σ (nI k) = _ := if_neg c_7
        rw [nI_clamp (by omega)] at e_
        exact mret x0 e_ hN rfl)
  · refine a_ldc2 (pc := 10) dX6_length_10 kl_X6_79 ?_
    exact a_lret (pc := 13) dX6_length_13 rfl rfl (mret x0 (if_pos (Decidable.not_not.mp c_7)) hN rfl)

set_option maxRecDepth 100000 in
set_option maxHeartbeats 4000000 in
theorem m_feed (l : Launch) (G : zG) (ad : Nat → Nat) (σ : zσ) (x0 : zY) (hσ : zOk σ) (hN : zNb σ x0.1) (w : Int32) (s : Int32) (p : Int32) : zSem l G sX6_feed [.ref (ad 0), .int w, .int s, .int p] (wM G ad σ x0) (zPostM G ad (o_feed σ w s p)) := by
  refine zEnterV (L := [some (.ref (ad 0)), some (.int w), some (.int s), some (.int p)]) (by decide) rfl (Nat.le_of_ble_eq_true rfl) rfl ?_
  refine a_iload_1 (pc := 0) dX6_feed_0 ?_
  refine a_iconst (v := 0) (pc := 1) dX6_feed_1 (by decide) ?_
  refine a_sipush (v := 20000) (pc := 2) dX6_feed_2 (by decide) ?_
  refine cS_P (S2 := sX6_isIn) (m_isIn l G _ _ _) kc_X6_isIn km_X6_75 ks_X6_isIn kini_X6 ⟨kn_X6_isIn, by decide, by decide⟩ (pc := 5) dX6_feed_5 [] rfl rfl rfl rfl (Nat.le_of_ble_eq_true rfl) ?_
  first | refine a_if_eqB (tgt := 32) (pc := 8) dX6_feed_8 (by decide) (fun c_8 => ?_) (fun c_8 => ?_) | refine a_if_eq (tgt := 32) (pc := 8) dX6_feed_8 (by decide) (fun c_8 => ?_) (fun c_8 => ?_)
  · refine a_ldc2 (pc := 32) dX6_feed_32 kl_X6_79 ?_
    exact a_lret (pc := 35) dX6_feed_35 rfl rfl (by first | exact mret x0 (if_pos (Or.inl (Decidable.not_not.mp c_8))) hN rfl | exact mret x0 (if_pos (Or.inr (Or.inl (Decidable.not_not.mp c_18)))) hN rfl | exact mret x0 (if_pos (Or.inr (Or.inr (Decidable.not_not.mp c_29)))) hN rfl)
  · refine a_iload_2 (pc := 11) dX6_feed_11 ?_
    refine a_iconst (v := 0) (pc := 12) dX6_feed_12 (by decide) ?_
    refine a_ldc (pc := 13) dX6_feed_13 kl_X6_95 ?_
    refine cS_P (S2 := sX6_isIn) (m_isIn l G _ _ _) kc_X6_isIn km_X6_75 ks_X6_isIn kini_X6 ⟨kn_X6_isIn, by decide, by decide⟩ (pc := 15) dX6_feed_15 [] rfl rfl rfl rfl (Nat.le_of_ble_eq_true rfl) ?_
    first | refine a_if_eqB (tgt := 32) (pc := 18) dX6_feed_18 (by decide) (fun c_18 => ?_) (fun c_18 => ?_) | refine a_if_eq (tgt := 32) (pc := 18) dX6_feed_18 (by decide) (fun c_18 => ?_) (fun c_18 => ?_)
    · refine a_ldc2 (pc := 32) dX6_feed_32 kl_X6_79 ?_
      exact a_lret (pc := 35) dX6_feed_35 rfl rfl (by first | exact mret x0 (if_pos (Or.inl (Decidable.not_not.mp c_8))) hN rfl | exact mret x0 (if_pos (Or.inr (Or.inl (Decidable.not_not.mp c_18)))) hN rfl | exact mret x0 (if_pos (Or.inr (Or.inr (Decidable.not_not.mp c_29)))) hN rfl)
    · refine a_iload_3 (pc := 21) dX6_feed_21 ?_
      refine a_iconst (v := 0) (pc := 22) dX6_feed_22 (by decide) ?_
      refine a_sipush (v := 900) (pc := 23) dX6_feed_23 (by decide) ?_
      refine cS_P (S2 := sX6_isIn) (m_isIn l G _ _ _) kc_X6_isIn km_X6_75 ks_X6_isIn kini_X6 ⟨kn_X6_isIn, by decide, by decide⟩ (pc := 26) dX6_feed_26 [] rfl rfl rfl rfl (Nat.le_of_ble_eq_true rfl) ?_
      first | refine a_if_neB (tgt := 36) (pc := 29) dX6_feed_29 (by decide) (fun c_29 => ?_) (fun c_29 => ?_) | refine a_if_ne (tgt := 36) (pc := 29) dX6_feed_29 (by decide) (fun c_29 => ?_) (fun c_29 => ?_)
      · obtain ⟨kw_, hw_, rfl⟩ := zrange (hi := 20000) (n := 20000) (by decide) (by decide +kernel) c_8
        obtain ⟨ks_, hs_, rfl⟩ := zrange (hi := 60000) (n := 60000) (by decide) (by decide +kernel) c_18
        obtain ⟨kp_, hp_, rfl⟩ := zrange (hi := 900) (n := 900) (by decide) (by decide +kernel) c_29
        refine a_aload_0 (pc := 36) dX6_feed_36 ?_
        refine a_iload_1 (pc := 37) dX6_feed_37 ?_
        refine a_putf (ci := 6) (j := 4) rfl win_X6 tyX6_ok nmX6 (by decide) (pc := 38) dX6_feed_38 kf_X6_23 rfl rfl rfl rfl rfl (Nat.le_of_ble_eq_true rfl) ?_
        refine a_aload_0 (pc := 41) dX6_feed_41 ?_
        refine a_iload_2 (pc := 42) dX6_feed_42 ?_
        refine a_putf (ci := 6) (j := 5) rfl win_X6 tyX6_ok nmX6 (by decide) (pc := 43) dX6_feed_43 kf_X6_26 rfl rfl rfl rfl rfl (Nat.le_of_ble_eq_true rfl) ?_
        refine a_aload_0 (pc := 46) dX6_feed_46 ?_
        refine a_iload_3 (pc := 47) dX6_feed_47 ?_
        refine a_putf (ci := 6) (j := 6) rfl win_X6 tyX6_ok nmX6 (by decide) (pc := 48) dX6_feed_48 kf_X6_29 rfl rfl rfl rfl rfl (Nat.le_of_ble_eq_true rfl) ?_
        refine a_lconst (v := 0) (pc := 51) dX6_feed_51 (by decide) ?_
        exact a_lret (pc := 52) dX6_feed_52 rfl rfl (by
            have e_ : o_feed σ (nI kw_) (nI ks_) (nI kp_) = _ := if_neg (fun h => h.elim c_8 (fun h => h.elim c_18 c_29))
            rw [nI_clamp (by omega), nI_clamp (by omega), nI_clamp (by omega)] at e_
            exact mret x0 e_ hN rfl)
      · refine a_ldc2 (pc := 32) dX6_feed_32 kl_X6_79 ?_
        exact a_lret (pc := 35) dX6_feed_35 rfl rfl (by first | exact mret x0 (if_pos (Or.inl (Decidable.not_not.mp c_8))) hN rfl | exact mret x0 (if_pos (Or.inr (Or.inl (Decidable.not_not.mp c_18)))) hN rfl | exact mret x0 (if_pos (Or.inr (Or.inr (Decidable.not_not.mp c_29)))) hN rfl)


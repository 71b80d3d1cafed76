/-! The model: told. -/
set_option maxRecDepth 100000 in
set_option maxHeartbeats 4000000 in
theorem m_told (l : Launch) (G : zG) (ad : Nat → Nat) (σ : zσ) (x0 : zY) (hσ : zOk σ) (hN : zNb σ x0.1) (x : Int32) (c : Int32) : zSem l G sX6_told [.ref (ad 0), .int x, .int c] (wM G ad σ x0) (zPostM G ad (o_told σ x c)) := by
  refine zEnterV (L := [some (.ref (ad 0)), some (.int x), some (.int c), none]) (by decide) rfl (Nat.le_of_ble_eq_true rfl) rfl ?_
  refine a_iload_1 (pc := 0) dX6_told_0 ?_
  refine cS_P (S2 := sX6_placeOf) (m_placeOf l G _) kc_X6_placeOf km_X6_85 ks_X6_placeOf kini_X6 ⟨kn_X6_placeOf, by decide, by decide⟩ (pc := 1) dX6_told_1 [] rfl rfl rfl rfl (Nat.le_of_ble_eq_true rfl) ?_
  refine a_istore_3 (pc := 4) dX6_told_4 rfl (by decide) ?_
  refine a_iload_3 (pc := 5) dX6_told_5 ?_
  rcases hp_ : zPl x with _ | k
  · refine a_if_lt (tgt := 18) (pc := 6) dX6_told_6 (by decide) (fun _ => ?_) (fun c_ => absurd (show zplace none < 0 by decide) c_)
    refine a_ldc2 (pc := 18) dX6_told_18 kl_X6_79 ?_
    exact a_lret (pc := 21) dX6_told_21 rfl rfl (by first | exact mret x0 (by unfold o_told; rw [if_pos hp_]) hN rfl | exact mret x0 (by unfold o_told; rw [if_neg hne_, if_neg n0_, if_neg n1_, if_neg n2_, if_neg n3_]) hN rfl)
  · have hk_ := zPl_lt hp_
    have hne_ : ¬ zPl x = none := by rw [hp_]; exact fun h => by cases h
    dsimp only [zplace]
    refine a_if_lt (tgt := 18) (pc := 6) dX6_told_6 (by decide) (fun c_ => absurd c_ (nI_pos (by omega))) (fun _ => ?_)
    refine a_iload_2 (pc := 9) dX6_told_9 ?_
    refine a_iconst (v := 0) (pc := 10) dX6_told_10 (by decide) ?_
    refine a_iconst (v := 3) (pc := 11) dX6_told_11 (by decide) ?_
    refine cS_P (S2 := sX6_isIn) (m_isIn l G _ _ _) kc_X6_isIn km_X6_75 ks_X6_isIn kini_X6 ⟨kn_X6_isIn, by decide, by decide⟩ (pc := 12) dX6_told_12 [] rfl rfl rfl rfl (Nat.le_of_ble_eq_true rfl) ?_
    first | refine a_if_neB (tgt := 22) (pc := 15) dX6_told_15 (by decide) (fun c_15 => ?_) (fun c_15 => ?_) | refine a_if_ne (tgt := 22) (pc := 15) dX6_told_15 (by decide) (fun c_15 => ?_) (fun c_15 => ?_)
    · refine a_iload_2 (pc := 22) dX6_told_22 ?_
      first | refine a_if_neB (tgt := 36) (pc := 23) dX6_told_23 (by decide) (fun c_23 => ?_) (fun c_23 => ?_) | refine a_if_ne (tgt := 36) (pc := 23) dX6_told_23 (by decide) (fun c_23 => ?_) (fun c_23 => ?_)
      · refine a_iload_2 (pc := 36) dX6_told_36 ?_
        refine a_iconst (v := 1) (pc := 37) dX6_told_37 (by decide) ?_
        refine a_icmp_ne (tgt := 51) (pc := 38) dX6_told_38 (by decide) (fun c_38 => ?_) (fun c_38 => ?_)
        · refine a_iload_2 (pc := 51) dX6_told_51 ?_
          refine a_iconst (v := 2) (pc := 52) dX6_told_52 (by decide) ?_
          refine a_icmp_ne (tgt := 65) (pc := 53) dX6_told_53 (by decide) (fun c_53 => ?_) (fun c_53 => ?_)
          · have c3_ : c = 3 := by
              obtain ⟨mm_, hm_, rfl⟩ := zrange (n := 3) (by decide) rfl c_15
              rcases (show mm_ = 0 ∨ mm_ = 1 ∨ mm_ = 2 ∨ mm_ = 3 by omega) with rfl | rfl | rfl | rfl
              · exact absurd rfl c_23
              · exact absurd rfl c_38
              · exact absurd rfl c_53
              · rfl
            refine a_aload_0 (pc := 65) dX6_told_65 ?_
            refine a_iload_3 (pc := 66) dX6_told_66 ?_
            refine f_P (ad := ad) (q0 := 0) (S2 := sX6_leak) (m_leak l G ad σ hσ x0 k hk_) kc_X6_leak km_X6_92 ki_X6_leak kv_X6_leak kini_X6 ⟨kn_X6_leak, by decide, by decide⟩ (pc := 67) dX6_told_67 (znd_of rfl znd18) rfl rfl (Nat.le_of_ble_eq_true rfl) rfl rfl rfl ?_
            refine a_i2l (pc := 70) dX6_told_70 ?_
            exact a_lret (pc := 71) dX6_told_71 rfl rfl (by first | exact mret x0 (by unfold o_told; rw [if_neg hne_, if_pos c_23, hp_]; rfl) hN rfl | exact mret x0 (by unfold o_told; rw [if_neg hne_, if_neg c_23, if_pos c_38, hp_]; rfl) hN rfl | exact mret x0 (by unfold o_told; rw [if_neg hne_, if_neg c_23, if_neg c_38, if_pos c_53, hp_]; rfl) hN rfl | exact mret x0 (by unfold o_told; rw [if_neg hne_, if_neg c_23, if_neg c_38, if_neg c_53, if_pos c3_, hp_]; rfl) hN rfl)
          · refine a_aload_0 (pc := 56) dX6_told_56 ?_
            refine a_iload_3 (pc := 57) dX6_told_57 ?_
            refine f_P (ad := ad) (q0 := 0) (S2 := sX6_pass) (m_pass l G ad σ hσ x0 k hk_) kc_X6_pass km_X6_89 ki_X6_pass kv_X6_pass kini_X6 ⟨kn_X6_pass, by decide, by decide⟩ (pc := 58) dX6_told_58 (znd_of rfl znd18) rfl rfl (Nat.le_of_ble_eq_true rfl) rfl rfl rfl ?_
            refine a_i2l (pc := 61) dX6_told_61 ?_
            refine a_goto (tgt := 71) (pc := 62) dX6_told_62 (by decide) ?_
            exact a_lret (pc := 71) dX6_told_71 rfl rfl (by first | exact mret x0 (by unfold o_told; rw [if_neg hne_, if_pos c_23, hp_]; rfl) hN rfl | exact mret x0 (by unfold o_told; rw [if_neg hne_, if_neg c_23, if_pos c_38, hp_]; rfl) hN rfl | exact mret x0 (by unfold o_told; rw [if_neg hne_, if_neg c_23, if_neg c_38, if_pos c_53, hp_]; rfl) hN rfl | exact mret x0 (by unfold o_told; rw [if_neg hne_, if_neg c_23, if_neg c_38, if_neg c_53, if_pos c3_, hp_]; rfl) hN rfl)
        · refine a_aload_0 (pc := 41) dX6_told_41 ?_
          refine a_getf (ci := 6) (j := 3) rfl win_X6 (by decide) (pc := 42) dX6_told_42 kf_X6_20 rfl rfl ?_
          refine a_iload_3 (pc := 45) dX6_told_45 ?_
          refine a_ialdN (pc := 46) dX6_told_46 rfl (by omega) (by decide) ?_
          refine a_i2l (pc := 47) dX6_told_47 ?_
          refine a_goto (tgt := 71) (pc := 48) dX6_told_48 (by decide) ?_
          exact a_lret (pc := 71) dX6_told_71 rfl rfl (by first | exact mret x0 (by unfold o_told; rw [if_neg hne_, if_pos c_23, hp_]; rfl) hN rfl | exact mret x0 (by unfold o_told; rw [if_neg hne_, if_neg c_23, if_pos c_38, hp_]; rfl) hN rfl | exact mret x0 (by unfold o_told; rw [if_neg hne_, if_neg c_23, if_neg c_38, if_pos c_53, hp_]; rfl) hN rfl | exact mret x0 (by unfold o_told; rw [if_neg hne_, if_neg c_23, if_neg c_38, if_neg c_53, if_pos c3_, hp_]; rfl) hN rfl)
      · refine a_aload_0 (pc := 26) dX6_told_26 ?_
        refine a_getf (ci := 6) (j := 2) rfl win_X6 (by decide) (pc := 27) dX6_told_27 kf_X6_17 rfl rfl ?_
        refine a_iload_3 (pc := 30) dX6_told_30 ?_
        refine a_ialdN (pc := 31) dX6_told_31 rfl (by omega) (by decide) ?_
        refine a_i2l (pc := 32) dX6_told_32 ?_
        refine a_goto (tgt := 71) (pc := 33) dX6_told_33 (by decide) ?_
        exact a_lret (pc := 71) dX6_told_71 rfl rfl (by first | exact mret x0 (by unfold o_told; rw [if_neg hne_, if_pos c_23, hp_]; rfl) hN rfl | exact mret x0 (by unfold o_told; rw [if_neg hne_, if_neg c_23, if_pos c_38, hp_]; rfl) hN rfl | exact mret x0 (by unfold o_told; rw [if_neg hne_, if_neg c_23, if_neg c_38, if_pos c_53, hp_]; rfl) hN rfl | exact mret x0 (by unfold o_told; rw [if_neg hne_, if_neg c_23, if_neg c_38, if_neg c_53, if_pos c3_, hp_]; rfl) hN rfl)
    · have hz_ := Decidable.not_not.mp c_15
      have n0_ : ¬ c = 0 := fun e => by subst e; exact absurd hz_ (by decide)
      have n1_ : ¬ c = 1 := fun e => by subst e; exact absurd hz_ (by decide)
      have n2_ : ¬ c = 2 := fun e => by subst e; exact absurd hz_ (by decide)
      have n3_ : ¬ c = 3 := fun e => by subst e; exact absurd hz_ (by decide)
      refine a_ldc2 (pc := 18) dX6_told_18 kl_X6_79 ?_
      exact a_lret (pc := 21) dX6_told_21 rfl rfl (by first | exact mret x0 (by unfold o_told; rw [if_pos hp_]) hN rfl | exact mret x0 (by unfold o_told; rw [if_neg hne_, if_neg n0_, if_neg n1_, if_neg n2_, if_neg n3_]) hN rfl)


/-! The model: a vessel, the whole flow. -/
section ZT
variable {l : Launch} {G : zG} {S : zS} {wc : va_W} {post : Option Value → va_W → Prop} {pc : Nat} {L : List (Option Value)} {st : List Value} {ws : va_W}
theorem a_topL {x y : Int64} (h : x = y) (kk : AV l G S wc post pc L (.long y :: st) ws) : AV l G S wc post pc L (.long x :: st) ws := by rw [h]; exact kk
theorem a_topI {x y : Int32} (h : x = y) (kk : AV l G S wc post pc L (.int y :: st) ws) : AV l G S wc post pc L (.int x :: st) ws := by rw [h]; exact kk
end ZT
theorem zup6_i (B : Nat → Nat → Int64) (k : Nat) (v : Nat → Int64) (a : Nat) : zup6 B k v a k = v a := updL_same _ _ _
def zJq (a b c d e : Int64) : Nat → Int64 := fun k => if k = 0 then a else if k = 1 then b else if k = 2 then c else if k = 3 then d else e
theorem zJ2_acc {J : Nat → Int64} {a b t s x y : Int64} (ea : a + t = x) (eb : b + s = y) : zJ2 J x y = zJ2 (zJ2 J a b) (zJ2 J a b 0 + t) (zJ2 J a b 1 + s) := by
  subst ea eb
  funext k
  unfold zJ2
  by_cases h0 : k = 0
  · rw [if_pos h0, if_pos h0]; rfl
  · by_cases h1 : k = 1
    · rw [if_neg h0, if_pos h1, if_neg h0, if_pos h1]; rfl
    · rw [if_neg h0, if_neg h1, if_neg h0, if_neg h1, if_neg h0, if_neg h1]
def zJV (J : Nat → Int64) (a b c d : Int64) : Nat → Int64 := fun k => if k = 0 then a else if k = 1 then b else if k = 2 then c else if k = 3 then d else J k
theorem zJV_q (a b c d e x y z t : Int64) : zJV (zJq a b c d e) x y z t = zJq x y z t e := by
  funext k
  unfold zJV zJq
  by_cases h0 : k = 0
  · rw [if_pos h0, if_pos h0]
  · by_cases h1 : k = 1
    · rw [if_neg h0, if_pos h1, if_neg h0, if_pos h1]
    · by_cases h2 : k = 2
      · rw [if_neg h0, if_neg h1, if_pos h2, if_neg h0, if_neg h1, if_pos h2]
      · by_cases h3 : k = 3
        · rw [if_neg h0, if_neg h1, if_neg h2, if_pos h3, if_neg h0, if_neg h1, if_neg h2, if_pos h3]
        · rw [if_neg h0, if_neg h1, if_neg h2, if_neg h3, if_neg h0, if_neg h1, if_neg h2, if_neg h3, if_neg h0, if_neg h1, if_neg h2, if_neg h3]
theorem j_r1 (a w x t : Int64) : a + (w - x) + t = a + (w - (x - t)) := by grind
theorem j_r2 (a s t x y : Int64) : a + (s - t) + (x - y) = a + (s + x - (t + y)) := by grind
theorem j_r3 (f w s : Int64) : f - w + (w - s) = f - s := by grind
theorem j_r4 (s w x r : Int64) : s * x + r + w * x = (s + w) * x + r := by grind
theorem j_r5 (g y : Int64) : y + (g - y) = g := by grind
theorem j_r6 (a w : Int64) : a = a + (w - w) := by grind
theorem j_r7 (w : Int64) : (0 : Int64) = w - w := by grind
theorem j_r8 (w y r : Int64) : 0 + (w * y + r) = (0 + w) * y + r := by grind
theorem j_r9 (a : Int64) : a = a + (0 - 0) := by grind
theorem zLess_ge {p x : Int64} (hp : 0 ≤ p.toInt ∧ p.toInt ≤ 900) (hx : 0 ≤ x.toInt ∧ x.toInt ≤ 1000000000000000) (h : x ≤ p) : p - x = zLess p x := by
  have e : (p - x).toInt = p.toInt - x.toInt := j_sub (by omega) (by omega)
  have h1 := Int64.le_iff_toInt_le.mp h
  unfold zLess
  rw [if_neg (fun h2 => by have h3 := Int64.lt_iff_toInt_lt.mp h2; rw [e, j_0] at h3; omega)]
theorem zLess_nge {p x : Int64} (hp : 0 ≤ p.toInt ∧ p.toInt ≤ 900) (hx : 0 ≤ x.toInt ∧ x.toInt ≤ 1000000000000000) (h : ¬ x ≤ p) : 0 = zLess p x := by
  have e : (p - x).toInt = p.toInt - x.toInt := j_sub (by omega) (by omega)
  have h1 := mt Int64.le_iff_toInt_le.mpr h
  unfold zLess
  rw [if_pos (Int64.lt_iff_toInt_lt.mpr (by rw [e, j_0]; omega))]
theorem zLess_p {p x : Int64} (hp : 0 ≤ p.toInt ∧ p.toInt ≤ 900) (hx : 0 ≤ x.toInt ∧ x.toInt ≤ 1000000000000000) : 0 ≤ (zLess p x).toInt ∧ (zLess p x).toInt ≤ 900 := by
  rw [zLess_b hp hx]; omega
theorem zVs_p {pa le : Nat → Int32} {f0 : Nat} {s : zSt3} (hp : 0 ≤ s.2.2.toInt ∧ s.2.2.toInt ≤ 900) : ∀ j, 0 ≤ (zVs pa le f0 s j).2.2.toInt ∧ (zVs pa le f0 s j).2.2.toInt ≤ 900
  | 0 => hp
  | j + 1 => zLess_p (zVs_p hp j) (by rw [j_2]; omega)
/-- what the rows hold of the first skins of a vessel, all else as it was -/
def zVrM (pa le : Nat → Int32) (f0 : Nat) (s0 : zSt3) (B0 B : Nat → Nat → Int64) (i : Nat) : Prop := (∀ a k, ¬ (f0 ≤ k ∧ k < f0 + i) → B a k = B0 a k) ∧ ∀ j, j < i → ∀ a, a < 5 → B a (f0 + j) = zOutM (pa (f0 + j)) (le (f0 + j)) (zVs pa le f0 s0 j) a
theorem zVrM_s {pa le : Nat → Int32} {f0 : Nat} {s0 : zSt3} {B0 B : Nat → Nat → Int64} {i : Nat} (h : zVrM pa le f0 s0 B0 B i) : zVrM pa le f0 s0 B0 (zup6 B (f0 + i) (zOutM (pa (f0 + i)) (le (f0 + i)) (zVs pa le f0 s0 i))) (i + 1) := by
  refine ⟨fun a k hk => ?_, fun j hj a ha => ?_⟩
  · unfold zup6
    rw [updL_ne _ _ (by omega)]
    exact h.1 a k (by omega)
  · unfold zup6
    by_cases h2 : j = i
    · subst h2; exact updL_same _ _ _
    · rw [updL_ne _ _ (by omega)]
      exact h.2 j (by omega) a ha
set_option maxRecDepth 100000 in
set_option maxHeartbeats 4000000 in
theorem lm_vessel (l : Launch) (G : zG) (ad : Nat → Nat) (σ : zσ) (hσ : zOk σ) (x0 : zY) (s v : Nat) (hs : s < 3) (hv : v < 4) (w g p : Int64) (hp : 0 ≤ p.toInt ∧ p.toInt ≤ 900) : ∀ (q i : Nat) (B : Nat → Nat → Int64), i + q = σ.1 0 → zVrM (zPaf σ) (zLef σ) (s * 24 + v * 6) (w, g, p) x0.2.1 B i → AV l G sX6_vessel (wM G ad σ x0) (z0 (fun u : Nat → Nat → Int64 => zVrM (zPaf σ) (zLef σ) (s * 24 + v * 6) (w, g, p) x0.2.1 u (σ.1 0)) (fun u => wM G ad σ (x0.1, u, (zJV x0.2.2.1 (x0.2.2.1 0 + (w - (zVs (zPaf σ) (zLef σ) (s * 24 + v * 6) (w, g, p) (σ.1 0)).1)) (x0.2.2.1 1 + (g - (zVs (zPaf σ) (zLef σ) (s * 24 + v * 6) (w, g, p) (σ.1 0)).2.1)) (x0.2.2.1 2 + (zVs (zPaf σ) (zLef σ) (s * 24 + v * 6) (w, g, p) (σ.1 0)).1) (x0.2.2.1 3 + (zVs (zPaf σ) (zLef σ) (s * 24 + v * 6) (w, g, p) (σ.1 0)).2.1)), x0.2.2.2))) 14 [some (.ref (ad 0)), some (.int (nI s)), some (.int (nI v)), some (.long w), none, some (.long g), none, some (.long p), none, some (.long (zVs (zPaf σ) (zLef σ) (s * 24 + v * 6) (w, g, p) i).1), none, some (.long (zVs (zPaf σ) (zLef σ) (s * 24 + v * 6) (w, g, p) i).2.1), none, some (.long (zVs (zPaf σ) (zLef σ) (s * 24 + v * 6) (w, g, p) i).2.2), none, some (.int (nI i)), none] [] (wM G ad σ (x0.1, B, (zJ2 x0.2.2.1 (x0.2.2.1 0 + (w - (zVs (zPaf σ) (zLef σ) (s * 24 + v * 6) (w, g, p) i).1)) (x0.2.2.1 1 + (g - (zVs (zPaf σ) (zLef σ) (s * 24 + v * 6) (w, g, p) i).2.1))), x0.2.2.2)) := by
  intro q_
  induction q_ using Nat.strongRecOn
  rename_i q_ ih_
  intro i B hq_ hB_
  refine a_iload_15 (pc := 14) dX6_vessel_14 ?_
  refine a_aload_0 (pc := 16) dX6_vessel_16 ?_
  refine a_getf (ci := 6) (j := 1) rfl win_X6 (by decide) (pc := 17) dX6_vessel_17 kf_X6_13 rfl rfl ?_
  have h6_ := hσ.1.2
  refine a_icmp_ge (tgt := 100) (pc := 20) dX6_vessel_20 (by decide) (fun c_20 => ?_) (fun c_20 => ?_)
  · obtain rfl : i = σ.1 0 := by have := (zI_le (by omega) (by omega)).mp c_20; omega
    refine a_aload_0 (pc := 100) dX6_vessel_100 ?_
    refine a_dup (pc := 101) dX6_vessel_101 rfl ?_
    refine a_getf (ci := 6) (j := 20) rfl win_X6 (by decide) (pc := 102) dX6_vessel_102 kf_X6_121 rfl rfl ?_
    refine a_lload_9 (pc := 105) dX6_vessel_105 ?_
    refine a_ladd (pc := 107) dX6_vessel_107 ?_
    refine a_putf (ci := 6) (j := 20) rfl win_X6 tyX6_ok nmX6 (by decide) (pc := 108) dX6_vessel_108 kf_X6_121 rfl rfl rfl rfl rfl (Nat.le_of_ble_eq_true rfl) ?_
    refine a_aload_0 (pc := 111) dX6_vessel_111 ?_
    refine a_dup (pc := 112) dX6_vessel_112 rfl ?_
    refine a_getf (ci := 6) (j := 21) rfl win_X6 (by decide) (pc := 113) dX6_vessel_113 kf_X6_124 rfl rfl ?_
    refine a_lload_11 (pc := 116) dX6_vessel_116 ?_
    refine a_ladd (pc := 118) dX6_vessel_118 ?_
    refine a_putf (ci := 6) (j := 21) rfl win_X6 tyX6_ok nmX6 (by decide) (pc := 119) dX6_vessel_119 kf_X6_124 rfl rfl rfl rfl rfl (Nat.le_of_ble_eq_true rfl) ?_
    exact a_vret (pc := 122) dX6_vessel_122 rfl rfl ⟨B, hB_, rfl, rfl⟩
  · have hi_ : i < σ.1 0 := by have := mt (zI_le (a := σ.1 0) (b := i) (by omega) (by omega)).mpr c_20; omega
    refine a_bipush (v := 24) (pc := 23) dX6_vessel_23 (by decide) ?_
    refine a_iload_1 (pc := 25) dX6_vessel_25 ?_
    refine a_imul (pc := 26) dX6_vessel_26 ?_
    refine a_bipush (v := 6) (pc := 27) dX6_vessel_27 (by decide) ?_
    refine a_iload_2 (pc := 29) dX6_vessel_29 ?_
    refine a_imul (pc := 30) dX6_vessel_30 ?_
    refine a_iadd (pc := 31) dX6_vessel_31 ?_
    refine a_iload_15 (pc := 32) dX6_vessel_32 ?_
    refine a_iadd (pc := 34) dX6_vessel_34 ?_
    rw [show (24 : Int32) = nI 24 from rfl, show (6 : Int32) = nI 6 from rfl, ← zI_mul, ← zI_mul, ← zI_add, ← zI_add, show 24 * s + 6 * v + i = s * 24 + v * 6 + i by omega]
    refine a_istore_16 (pc := 35) dX6_vessel_35 rfl (by decide) ?_
    refine a_aload_0 (pc := 37) dX6_vessel_37 ?_
    refine a_iload_16 (pc := 38) dX6_vessel_38 ?_
    refine a_lload_9 (pc := 40) dX6_vessel_40 ?_
    refine a_lload_11 (pc := 42) dX6_vessel_42 ?_
    refine a_lload_13 (pc := 44) dX6_vessel_44 ?_
    have J49_ : ∀ (B2 : Nat → Nat → Int64), B2 3 (s * 24 + v * 6 + i) = zThr (zPaf σ (s * 24 + v * 6 + i)) (zVs (zPaf σ) (zLef σ) (s * 24 + v * 6) (w, g, p) i).1 (zVs (zPaf σ) (zLef σ) (s * 24 + v * 6) (w, g, p) i).2.1 (zVs (zPaf σ) (zLef σ) (s * 24 + v * 6) (w, g, p) i).2.2 → B2 4 (s * 24 + v * 6 + i) = zThr (zPaf σ (s * 24 + v * 6 + i)) (zVs (zPaf σ) (zLef σ) (s * 24 + v * 6) (w, g, p) i).1 (zVs (zPaf σ) (zLef σ) (s * 24 + v * 6) (w, g, p) i).2.1 (zVs (zPaf σ) (zLef σ) (s * 24 + v * 6) (w, g, p) i).2.2 * zThS (zLef σ (s * 24 + v * 6 + i)) (zVs (zPaf σ) (zLef σ) (s * 24 + v * 6) (w, g, p) i).1 (zVs (zPaf σ) (zLef σ) (s * 24 + v * 6) (w, g, p) i).2.1 → zVrM (zPaf σ) (zLef σ) (s * 24 + v * 6) (w, g, p) x0.2.1 B2 (i + 1) → AV l G sX6_vessel (wM G ad σ x0) (z0 (fun u : Nat → Nat → Int64 => zVrM (zPaf σ) (zLef σ) (s * 24 + v * 6) (w, g, p) x0.2.1 u (σ.1 0)) (fun u => wM G ad σ (x0.1, u, (zJV x0.2.2.1 (x0.2.2.1 0 + (w - (zVs (zPaf σ) (zLef σ) (s * 24 + v * 6) (w, g, p) (σ.1 0)).1)) (x0.2.2.1 1 + (g - (zVs (zPaf σ) (zLef σ) (s * 24 + v * 6) (w, g, p) (σ.1 0)).2.1)) (x0.2.2.1 2 + (zVs (zPaf σ) (zLef σ) (s * 24 + v * 6) (w, g, p) (σ.1 0)).1) (x0.2.2.1 3 + (zVs (zPaf σ) (zLef σ) (s * 24 + v * 6) (w, g, p) (σ.1 0)).2.1)), x0.2.2.2))) 49 [some (.ref (ad 0)), some (.int (nI s)), some (.int (nI v)), some (.long w), none, some (.long g), none, some (.long p), none, some (.long (zVs (zPaf σ) (zLef σ) (s * 24 + v * 6) (w, g, p) i).1), none, some (.long (zVs (zPaf σ) (zLef σ) (s * 24 + v * 6) (w, g, p) i).2.1), none, some (.long (zVs (zPaf σ) (zLef σ) (s * 24 + v * 6) (w, g, p) i).2.2), none, some (.int (nI i)), some (.int (nI (s * 24 + v * 6 + i)))] [] (wM G ad σ (x0.1, B2, (zJ2 x0.2.2.1 (x0.2.2.1 0 + (w - (zVs (zPaf σ) (zLef σ) (s * 24 + v * 6) (w, g, p) (i + 1)).1)) (x0.2.2.1 1 + (g - (zVs (zPaf σ) (zLef σ) (s * 24 + v * 6) (w, g, p) (i + 1)).2.1))), x0.2.2.2)) := by
      intro B2 h3_ h4_ hB2_
      refine a_lload_9 (pc := 49) dX6_vessel_49 ?_
      refine a_aload_0 (pc := 51) dX6_vessel_51 ?_
      refine a_getf (ci := 6) (j := 16) rfl win_X6 (by decide) (pc := 52) dX6_vessel_52 kf_X6_57 rfl rfl ?_
      refine a_iload_16 (pc := 55) dX6_vessel_55 ?_
      refine a_laldN (pc := 57) dX6_vessel_57 rfl (by omega) (by decide) ?_
      refine a_topL h3_ ?_
      refine a_lsub (pc := 58) dX6_vessel_58 ?_
      refine a_lstore_9 (pc := 59) dX6_vessel_59 rfl (by decide) ?_
      refine a_lload_11 (pc := 61) dX6_vessel_61 ?_
      refine a_aload_0 (pc := 63) dX6_vessel_63 ?_
      refine a_getf (ci := 6) (j := 17) rfl win_X6 (by decide) (pc := 64) dX6_vessel_64 kf_X6_60 rfl rfl ?_
      refine a_iload_16 (pc := 67) dX6_vessel_67 ?_
      refine a_laldN (pc := 69) dX6_vessel_69 rfl (by omega) (by decide) ?_
      refine a_topL h4_ ?_
      refine a_lsub (pc := 70) dX6_vessel_70 ?_
      refine a_lstore_11 (pc := 71) dX6_vessel_71 rfl (by decide) ?_
      have J92_ : ∀ y_ : Int64, y_ = zLess (zVs (zPaf σ) (zLef σ) (s * 24 + v * 6) (w, g, p) i).2.2 2 → AV l G sX6_vessel (wM G ad σ x0) (z0 (fun u : Nat → Nat → Int64 => zVrM (zPaf σ) (zLef σ) (s * 24 + v * 6) (w, g, p) x0.2.1 u (σ.1 0)) (fun u => wM G ad σ (x0.1, u, (zJV x0.2.2.1 (x0.2.2.1 0 + (w - (zVs (zPaf σ) (zLef σ) (s * 24 + v * 6) (w, g, p) (σ.1 0)).1)) (x0.2.2.1 1 + (g - (zVs (zPaf σ) (zLef σ) (s * 24 + v * 6) (w, g, p) (σ.1 0)).2.1)) (x0.2.2.1 2 + (zVs (zPaf σ) (zLef σ) (s * 24 + v * 6) (w, g, p) (σ.1 0)).1) (x0.2.2.1 3 + (zVs (zPaf σ) (zLef σ) (s * 24 + v * 6) (w, g, p) (σ.1 0)).2.1)), x0.2.2.2))) 92 [some (.ref (ad 0)), some (.int (nI s)), some (.int (nI v)), some (.long w), none, some (.long g), none, some (.long p), none, some (.long ((zVs (zPaf σ) (zLef σ) (s * 24 + v * 6) (w, g, p) i).1 - zThr (zPaf σ (s * 24 + v * 6 + i)) (zVs (zPaf σ) (zLef σ) (s * 24 + v * 6) (w, g, p) i).1 (zVs (zPaf σ) (zLef σ) (s * 24 + v * 6) (w, g, p) i).2.1 (zVs (zPaf σ) (zLef σ) (s * 24 + v * 6) (w, g, p) i).2.2)), none, some (.long ((zVs (zPaf σ) (zLef σ) (s * 24 + v * 6) (w, g, p) i).2.1 - zThr (zPaf σ (s * 24 + v * 6 + i)) (zVs (zPaf σ) (zLef σ) (s * 24 + v * 6) (w, g, p) i).1 (zVs (zPaf σ) (zLef σ) (s * 24 + v * 6) (w, g, p) i).2.1 (zVs (zPaf σ) (zLef σ) (s * 24 + v * 6) (w, g, p) i).2.2 * zThS (zLef σ (s * 24 + v * 6 + i)) (zVs (zPaf σ) (zLef σ) (s * 24 + v * 6) (w, g, p) i).1 (zVs (zPaf σ) (zLef σ) (s * 24 + v * 6) (w, g, p) i).2.1)), none, some (.long (zVs (zPaf σ) (zLef σ) (s * 24 + v * 6) (w, g, p) i).2.2), none, some (.int (nI i)), some (.int (nI (s * 24 + v * 6 + i)))] [.long y_] (wM G ad σ (x0.1, B2, (zJ2 x0.2.2.1 (x0.2.2.1 0 + (w - (zVs (zPaf σ) (zLef σ) (s * 24 + v * 6) (w, g, p) (i + 1)).1)) (x0.2.2.1 1 + (g - (zVs (zPaf σ) (zLef σ) (s * 24 + v * 6) (w, g, p) (i + 1)).2.1))), x0.2.2.2)) := by
        intro y_ hy_; subst hy_
        refine a_lstore_13 (pc := 92) dX6_vessel_92 rfl (by decide) ?_
        refine a_iinc_15 (cst := 1) (pc := 94) dX6_vessel_94 rfl (by decide) (by decide) ?_
        refine a_goto (tgt := 14) (pc := 97) dX6_vessel_97 (by decide) ?_
        rw [← nI_succ]
        refine a_forget_16 ?_
        exact ih_ (q_ - 1) (by omega) (i + 1) B2 (by omega) hB2_
      refine a_lload_13 (pc := 73) dX6_vessel_73 ?_
      refine a_ldc2 (pc := 75) dX6_vessel_75 kl_X6_119 ?_
      refine a_lif_ge (tgt := 86) (pc := 78) dX6_vessel_78 dX6_vessel_79 (by decide) (fun c_78 => ?_) (fun c_78 => ?_)
      · refine a_lload_13 (pc := 86) dX6_vessel_86 ?_
        refine a_ldc2 (pc := 88) dX6_vessel_88 kl_X6_119 ?_
        refine a_lsub (pc := 91) dX6_vessel_91 ?_
        first | exact J92_ _ (zLess_ge (zVs_p hp i) (by rw [j_2]; omega) c_78) | exact J92_ _ (zLess_nge (zVs_p hp i) (by rw [j_2]; omega) c_78)
      · refine a_lconst (v := 0) (pc := 82) dX6_vessel_82 (by decide) ?_
        refine a_goto (tgt := 92) (pc := 83) dX6_vessel_83 (by decide) ?_
        first | exact J92_ _ (zLess_ge (zVs_p hp i) (by rw [j_2]; omega) c_78) | exact J92_ _ (zLess_nge (zVs_p hp i) (by rw [j_2]; omega) c_78)
    refine f_0 (ad := ad) (q0 := 0) (S2 := sX6_skin) (m_skin l G ad σ hσ (x0.1, B, (zJ2 x0.2.2.1 (x0.2.2.1 0 + (w - (zVs (zPaf σ) (zLef σ) (s * 24 + v * 6) (w, g, p) i).1)) (x0.2.2.1 1 + (g - (zVs (zPaf σ) (zLef σ) (s * 24 + v * 6) (w, g, p) i).2.1))), x0.2.2.2) (s * 24 + v * 6 + i) (by omega) (zVs (zPaf σ) (zLef σ) (s * 24 + v * 6) (w, g, p) i).1 (zVs (zPaf σ) (zLef σ) (s * 24 + v * 6) (w, g, p) i).2.1 (zVs (zPaf σ) (zLef σ) (s * 24 + v * 6) (w, g, p) i).2.2) kc_X6_skin km_X6_115 ki_X6_skin kv_X6_skin kini_X6 ⟨kn_X6_skin, by decide, by decide⟩ (pc := 46) dX6_vessel_46 (znd_of rfl znd18) rfl rfl (Nat.le_of_ble_eq_true rfl) rfl rfl rfl (fun _u _ => ?_)
    have e0_ : x0.2.2.1 0 + (w - (zVs (zPaf σ) (zLef σ) (s * 24 + v * 6) (w, g, p) i).1) + zThr (zPaf σ (s * 24 + v * 6 + i)) (zVs (zPaf σ) (zLef σ) (s * 24 + v * 6) (w, g, p) i).1 (zVs (zPaf σ) (zLef σ) (s * 24 + v * 6) (w, g, p) i).2.1 (zVs (zPaf σ) (zLef σ) (s * 24 + v * 6) (w, g, p) i).2.2 = x0.2.2.1 0 + (w - (zVs (zPaf σ) (zLef σ) (s * 24 + v * 6) (w, g, p) (i + 1)).1) := j_r1 _ _ _ _
    have e1_ : x0.2.2.1 1 + (g - (zVs (zPaf σ) (zLef σ) (s * 24 + v * 6) (w, g, p) i).2.1) + zThr (zPaf σ (s * 24 + v * 6 + i)) (zVs (zPaf σ) (zLef σ) (s * 24 + v * 6) (w, g, p) i).1 (zVs (zPaf σ) (zLef σ) (s * 24 + v * 6) (w, g, p) i).2.1 (zVs (zPaf σ) (zLef σ) (s * 24 + v * 6) (w, g, p) i).2.2 * zThS (zLef σ (s * 24 + v * 6 + i)) (zVs (zPaf σ) (zLef σ) (s * 24 + v * 6) (w, g, p) i).1 (zVs (zPaf σ) (zLef σ) (s * 24 + v * 6) (w, g, p) i).2.1 = x0.2.2.1 1 + (g - (zVs (zPaf σ) (zLef σ) (s * 24 + v * 6) (w, g, p) (i + 1)).2.1) := j_r1 _ _ _ _
    exact a_to (J49_ (zup6 B (s * 24 + v * 6 + i) (zOutM (zPaf σ (s * 24 + v * 6 + i)) (zLef σ (s * 24 + v * 6 + i)) (zVs (zPaf σ) (zLef σ) (s * 24 + v * 6) (w, g, p) i))) (zup6_i _ _ _ _) (zup6_i _ _ _ _) (zVrM_s hB_)) rfl rfl rfl (congrArg (fun j_ => wM G ad σ (x0.1, (zup6 B (s * 24 + v * 6 + i) (zOutM (zPaf σ (s * 24 + v * 6 + i)) (zLef σ (s * 24 + v * 6 + i)) (zVs (zPaf σ) (zLef σ) (s * 24 + v * 6) (w, g, p) i))), j_, x0.2.2.2)) (zJ2_acc e0_ e1_))

theorem zJ2_self (J : Nat → Int64) (w g : Int64) : zJ2 J (J 0 + (w - w)) (J 1 + (g - g)) = J := by
  funext k
  unfold zJ2
  by_cases h0 : k = 0
  · rw [if_pos h0, h0]; exact (j_r6 _ _).symm
  · by_cases h1 : k = 1
    · rw [if_neg h0, if_pos h1, h1]; exact (j_r6 _ _).symm
    · rw [if_neg h0, if_neg h1]
set_option maxRecDepth 100000 in
set_option maxHeartbeats 4000000 in
/-- vessel -/
theorem m_vessel (l : Launch) (G : zG) (ad : Nat → Nat) (σ : zσ) (hσ : zOk σ) (x0 : zY) (s v : Nat) (hs : s < 3) (hv : v < 4) (w g p : Int64) (hp : 0 ≤ p.toInt ∧ p.toInt ≤ 900) : zSem l G sX6_vessel [.ref (ad 0), .int (nI s), .int (nI v), .long w, .long g, .long p] (wM G ad σ x0) (z0 (fun u : Nat → Nat → Int64 => zVrM (zPaf σ) (zLef σ) (s * 24 + v * 6) (w, g, p) x0.2.1 u (σ.1 0)) (fun u => wM G ad σ (x0.1, u, (zJV x0.2.2.1 (x0.2.2.1 0 + (w - (zVs (zPaf σ) (zLef σ) (s * 24 + v * 6) (w, g, p) (σ.1 0)).1)) (x0.2.2.1 1 + (g - (zVs (zPaf σ) (zLef σ) (s * 24 + v * 6) (w, g, p) (σ.1 0)).2.1)) (x0.2.2.1 2 + (zVs (zPaf σ) (zLef σ) (s * 24 + v * 6) (w, g, p) (σ.1 0)).1) (x0.2.2.1 3 + (zVs (zPaf σ) (zLef σ) (s * 24 + v * 6) (w, g, p) (σ.1 0)).2.1)), x0.2.2.2))) := by
  refine zEnterV (L := [some (.ref (ad 0)), some (.int (nI s)), some (.int (nI v)), some (.long w), none, some (.long g), none, some (.long p), none, none, none, none, none, none, none, none, none]) (by decide) rfl (Nat.le_of_ble_eq_true rfl) rfl ?_
  refine a_lload_3 (pc := 0) dX6_vessel_0 ?_
  refine a_lstore_9 (pc := 1) dX6_vessel_1 rfl (by decide) ?_
  refine a_lload_5 (pc := 3) dX6_vessel_3 ?_
  refine a_lstore_11 (pc := 5) dX6_vessel_5 rfl (by decide) ?_
  refine a_lload_7 (pc := 7) dX6_vessel_7 ?_
  refine a_lstore_13 (pc := 9) dX6_vessel_9 rfl (by decide) ?_
  refine a_iconst (v := 0) (pc := 11) dX6_vessel_11 (by decide) ?_
  refine a_istore_15 (pc := 12) dX6_vessel_12 rfl (by decide) ?_
  exact a_to (lm_vessel l G ad σ hσ x0 s v hs hv w g p hp (σ.1 0) 0 x0.2.1 (by omega) ⟨fun _ _ _ => rfl, fun j hj => absurd hj (Nat.not_lt_zero j)⟩) rfl rfl rfl (congrArg (fun j_ => wM G ad σ (x0.1, x0.2.1, j_, x0.2.2.2)) (zJ2_self x0.2.2.1 w g))


/-! The model: the array. -/
/-- the plant with other vessels -/
abbrev zσV (σ : zσ) (g : Nat → Nat) : zσ := (σ.1, zu2 σ.2.1 0 (fun k => if k < 3 then g k else σ.2.1 0 k), σ.2.2)
theorem zσV_self {σ : zσ} {g : Nat → Nat} (h : ∀ k, k < 3 → g k = σ.2.1 0 k) : zσV σ g = σ := by
  have e : (fun k => if k < 3 then g k else σ.2.1 0 k) = σ.2.1 0 := by
    funext k
    by_cases h3 : k < 3
    · rw [if_pos h3, h k h3]
    · rw [if_neg h3]
  show (σ.1, zu2 σ.2.1 0 (fun k => if k < 3 then g k else σ.2.1 0 k), σ.2.2) = σ
  rw [e, zu2_self]
theorem zV3 (σ : zσ) (g : Nat → Nat) (i : Nat) : upd (upd (upd (fun k => nI ((zσV σ g).2.1 0 k)) 0 (nI (1 + i / 25))) 1 (nI (i / 5 % 5))) 2 (nI (i % 5)) = fun k => nI ((zσV σ (zBm i)).2.1 0 k) := by
  funext k
  show (if k = 2 then nI (i % 5) else if k = 1 then nI (i / 5 % 5) else if k = 0 then nI (1 + i / 25) else nI (if k < 3 then g k else σ.2.1 0 k)) = nI (if k < 3 then zBm i k else σ.2.1 0 k)
  by_cases h : k < 3
  · rw [if_pos h]
    rcases (show k = 0 ∨ k = 1 ∨ k = 2 by omega) with rfl | rfl | rfl <;> rfl
  · rw [if_neg (show ¬ k = 2 by omega), if_neg (show ¬ k = 1 by omega), if_neg (show ¬ k = 0 by omega), if_neg h, if_neg h]
theorem zV1 (σ : zσ) (g : Nat → Nat) {i : Nat} (hi : i < 3) (x : Nat) : upd (fun k => nI ((zσV σ g).2.1 0 k)) i (nI x) = fun k => nI ((zσV σ (zuN g i x)).2.1 0 k) := by
  funext k
  show (if k = i then nI x else nI (if k < 3 then g k else σ.2.1 0 k)) = nI (if k < 3 then (if k = i then x else g k) else σ.2.1 0 k)
  by_cases h : k = i
  · rw [if_pos h, if_pos (show k < 3 by omega), if_pos h]
  · rw [if_neg h, if_neg h]
theorem zOk_V {σ : zσ} (hσ : zOk σ) {i : Nat} (hi : i < 100) : zOk (zσV σ (zBm i)) := by
  obtain ⟨a1, a2, a3, a4, a5, a6, a7, a8, a9, a10, a11, a12, a13, a14⟩ := hσ
  refine ⟨a1, a2, a3, a4, a5, fun k hk => ?_, ?_, a8, a9, a10, a11, a12, a13, a14⟩
  · show (if k < 3 then zBm i k else σ.2.1 0 k) ≤ 4
    rw [if_pos hk]; exact zBm_le hi k hk
  · show 1 ≤ 1 + i / 25
    omega
theorem zMf_cg {f g : Nat → Nat} {s : Nat} (h : ∀ k, k ≤ s → f k = g k) : zMf f s = zMf g s := by
  unfold zMf
  rw [h s (Nat.le_refl _)]
  by_cases q : ∀ j, j < s → ¬ g j = 0
  · rw [if_pos q, if_pos (fun j hj => by rw [h j (by omega)]; exact q j hj)]
  · rw [if_neg q, if_neg (fun z => q (fun j hj => by rw [← h j (by omega)]; exact z j hj))]
theorem zMs_V (σ : zσ) (g : Nat → Nat) {s : Nat} (hs : s < 3) : zMs (zσV σ g) s = zMf g s := by
  refine zMf_cg (fun k hk => ?_)
  show (if k < 3 then g k else σ.2.1 0 k) = g k
  exact if_pos (by omega)
theorem zRn_mc {pa le : Nat → Int32} {m m2 : Nat → Nat} {n : Nat} {st : zSt3} : ∀ c, (∀ s, s < c → m s = m2 s) → zRn pa le m n st c = zRn pa le m2 n st c
  | 0, _ => rfl
  | c + 1, h => by
    show zStN pa le c (m c) n (zRn pa le m n st c) = zStN pa le c (m2 c) n (zRn pa le m2 n st c)
    rw [zRn_mc c (fun s hs => h s (by omega)), h c (by omega)]
theorem zFin_V (σ : zσ) (p : Int32) (i : Nat) : zFin (zσV σ (zBm i)) p (zMs (zσV σ (zBm i))) = zFin σ p (zAm i) :=
  zRn_mc (pa := zPaf σ) (le := zLef σ) (n := σ.1 0) (st := zS0p σ p) 3 (fun s hs => zMs_V σ (zBm i) hs)
theorem zCellp_V (σ : zσ) (p : Int32) (i a : Nat) {k : Nat} (hk : k < 72) : zCellp (zσV σ (zBm i)) p (zMs (zσV σ (zBm i))) a k = zCellp σ p (zAm i) a k := by
  have e1 := zMs_V σ (zBm i) (show k / 24 < 3 by omega)
  have e2 := zRn_mc (pa := zPaf σ) (le := zLef σ) (n := σ.1 0) (st := zS0p σ p) (m := zMs (zσV σ (zBm i))) (m2 := zAm i) (k / 24) (fun s hs => zMs_V σ (zBm i) (by omega))
  show zOut (zPaf σ k) (zLef σ k) (zVs (zPaf σ) (zLef σ) (k / 24 * 24 + k % 24 / 6 * 6) (zIn (zRn (zPaf σ) (zLef σ) (zMs (zσV σ (zBm i))) (σ.1 0) (zS0p σ p) (k / 24)) (zMs (zσV σ (zBm i)) (k / 24)) (k % 24 / 6)) (k % 6)) a = _
  rw [e1, e2]
  rfl
theorem zFf_V (σ : zσ) (p : Int32) (i : Nat) : zFf (zVesf (zσV σ (zBm i))) (nI (σ.1 0)) (zCellp (zσV σ (zBm i)) p (zMs (zσV σ (zBm i))) 0) (zCellp (zσV σ (zBm i)) p (zMs (zσV σ (zBm i))) 3) (nI (σ.2.1 3 0)) (nI (σ.2.1 3 1)) 72 0 = zFf (fun k => nI (zBm i k)) (nI (σ.1 0)) (zCellp σ p (zAm i) 0) (zCellp σ p (zAm i) 3) (nI (σ.2.1 3 0)) (nI (σ.2.1 3 1)) 72 0 := by
  refine zFf_cg2 (fun s hs => zVin_cg (fun k hk => ?_)) (fun k hk _ => ⟨zCellp_V σ p i 0 hk, zCellp_V σ p i 3 hk⟩) 72 0 rfl
  show nI (if k < 3 then zBm i k else σ.2.1 0 k) = nI (zBm i k)
  rw [if_pos (show k < 3 by omega)]
theorem zFi_V {σ : zσ} (hσ : zOk σ) {i : Nat} (hi : i < 100) {p : Int32} {B : Nat → Nat → Int64} (hB : zRowsM (zPaf (zσV σ (zBm i))) (zLef (zσV σ (zBm i))) (zMs (zσV σ (zBm i))) ((zσV σ (zBm i)).1 0) (zS0p (zσV σ (zBm i)) p) B 3) : (zFiσ (zσV σ (zBm i)) B = -1 ∧ zFf (fun k => nI (zBm i k)) (nI (σ.1 0)) (zCellp σ p (zAm i) 0) (zCellp σ p (zAm i) 3) (nI (σ.2.1 3 0)) (nI (σ.2.1 3 1)) 72 0 = zNONE) ∨ (0 ≤ zFiσ (zσV σ (zBm i)) B ∧ zFf (fun k => nI (zBm i k)) (nI (σ.1 0)) (zCellp σ p (zAm i) 0) (zCellp σ p (zAm i) 3) (nI (σ.2.1 3 0)) (nI (σ.2.1 3 1)) 72 0 = (zFiσ (zσV σ (zBm i)) B).toInt64) := by
  have e := zFf_V σ p i
  rcases zFiσ_ff (zOk_V hσ hi) hB with ⟨a, b⟩ | ⟨a, b⟩
  · exact Or.inl ⟨a, e.symm.trans b⟩
  · exact Or.inr ⟨a, e.symm.trans b⟩
theorem zNONE_ne {x : Int32} (h : 0 ≤ x) : ¬ x.toInt64 = zNONE := fun e => by
  have h1 := Int32.le_iff_toInt_le.mp h
  have h2 := congrArg Int64.toInt e
  rw [Int32.toInt_toInt64] at h2
  have k0 : (0 : Int32).toInt = 0 := by decide
  have k1 : zNONE.toInt = -9000000000000000005 := by decide +kernel
  omega
theorem zPow_b {σ : zσ} (hσ : zOk σ) {p : Nat} (hp : p ≤ 900) {W P : Int64} (hW : 0 ≤ W.toInt ∧ W.toInt ≤ 2000000) (hP : 0 ≤ P.toInt ∧ P.toInt ≤ 900) : (zPow σ (nI p) W P).toInt ≤ 200000 := by
  have h1 := hσ.2.1
  have hr : 0 ≤ σ.2.1 3 2 ∧ σ.2.1 3 2 ≤ 100 := hσ.2.2.2.2.2.2.2.2.2.1 2 (by decide)
  have e1 := nI64 (n := σ.1 1) (by omega)
  have e2 := nI64 (n := p) (by omega)
  have e3 := nI64 (n := σ.2.1 3 2) (by omega)
  have m1 : (p : Int) * ((σ.1 1 : Nat) : Int) ≤ 900 * 20000 := Int.mul_le_mul (by omega) (by omega) (by omega) (by decide)
  have m0 : 0 ≤ (p : Int) * ((σ.1 1 : Nat) : Int) := Int.mul_nonneg (by omega) (by omega)
  have f1 : ((nI p).toInt64 * (nI (σ.1 1)).toInt64).toInt = (p : Int) * ((σ.1 1 : Nat) : Int) := by rw [j_mul (by rw [e1, e2]; omega) (by rw [e1, e2]; omega), e1, e2]
  have f2 : ((nI p).toInt64 * (nI (σ.1 1)).toInt64 / 100).toInt = (p : Int) * ((σ.1 1 : Nat) : Int) / 100 := by rw [j_div (by rw [f1]; exact m0) (by rw [j_100]; decide), f1, j_100]
  have n1 : P.toInt * W.toInt ≤ 900 * 2000000 := Int.mul_le_mul hP.2 hW.2 hW.1 (by decide)
  have n0 : 0 ≤ P.toInt * W.toInt := Int.mul_nonneg hP.1 hW.1
  have g1 : (P * W).toInt = P.toInt * W.toInt := j_mul (by omega) (by omega)
  have g2 : (P * W / 100).toInt = P.toInt * W.toInt / 100 := by rw [j_div (by rw [g1]; exact n0) (by rw [j_100]; decide), g1, j_100]
  have q0 : 0 ≤ P.toInt * W.toInt / 100 := Int.ediv_nonneg n0 (by decide)
  have q1 : ((σ.2.1 3 2 : Nat) : Int) * (P.toInt * W.toInt / 100) ≤ 100 * 18000000 := Int.mul_le_mul (by omega) (by omega) q0 (by decide)
  have q2 : 0 ≤ ((σ.2.1 3 2 : Nat) : Int) * (P.toInt * W.toInt / 100) := Int.mul_nonneg (by omega) q0
  have g3 : ((nI (σ.2.1 3 2)).toInt64 * (P * W / 100)).toInt = ((σ.2.1 3 2 : Nat) : Int) * (P.toInt * W.toInt / 100) := by rw [j_mul (by rw [e3, g2]; omega) (by rw [e3, g2]; omega), e3, g2]
  have g4 : ((nI (σ.2.1 3 2)).toInt64 * (P * W / 100) / 100).toInt = ((σ.2.1 3 2 : Nat) : Int) * (P.toInt * W.toInt / 100) / 100 := by rw [j_div (by rw [g3]; exact q2) (by rw [j_100]; decide), g3, j_100]
  have q3 : 0 ≤ ((σ.2.1 3 2 : Nat) : Int) * (P.toInt * W.toInt / 100) / 100 := Int.ediv_nonneg q2 (by decide)
  unfold zPow
  rw [j_sub (by rw [f2, g4]; omega) (by rw [f2, g4]; omega), f2, g4]
  omega
theorem zAP_lt {σ : zσ} (hσ : zOk σ) {p i : Nat} (hp : p ≤ 900) (hi : i < 100) : ¬ (9223372036854775807 : Int64) ≤ zAP σ p i := fun h => by
  have hb := zRn_b (zPLσ hσ) (zS0_b hσ hp) (m := zAm i) (n := σ.1 0) (fun s hs => (zVin_B (v := fun _ => 0) hi hs).2) hσ.1.2 3 (by omega)
  have hA : zBA 3 ≤ 2000000 := by decide
  have hb1 := hb.1
  have h2 := zPow_b hσ hp (W := (zFin σ (nI p) (zAm i)).1) (P := (zFin σ (nI p) (zAm i)).2.2) ⟨hb1.1, Int.le_trans hb1.2 hA⟩ hb.2.2
  have h3 := Int64.le_iff_toInt_le.mp h
  have k1 : (9223372036854775807 : Int64).toInt = 9223372036854775807 := by decide +kernel
  have h4 : (zAP σ p i).toInt ≤ 200000 := h2
  omega
theorem zdig : ∀ i, i < 100 → (0 ≤ (100 * nI (1 + i / 25) + 10 * nI (i / 5 % 5) + nI (i % 5)).toInt64.toInt ∧ (100 * nI (1 + i / 25) + 10 * nI (i / 5 % 5) + nI (i % 5)).toInt64.toInt ≤ 444) ∧ 100 * (nI (1 + i / 25)).toInt64 + 10 * (nI (i / 5 % 5)).toInt64 + (nI (i % 5)).toInt64 = (100 * nI (1 + i / 25) + 10 * nI (i / 5 % 5) + nI (i % 5)).toInt64 := by decide +kernel
theorem j_r10 (x a b c : Int64) : x + a + b + c = x + (a + b + c) := by grind
abbrev zNew (p i : Nat) : Int64 := 1000 * (nI p).toInt64 + (100 * nI (1 + i / 25) + 10 * nI (i / 5 % 5) + nI (i % 5)).toInt64
theorem zNew_e {p i : Nat} (hi : i < 100) : 1000 * (nI p).toInt64 + 100 * (nI (1 + i / 25)).toInt64 + 10 * (nI (i / 5 % 5)).toInt64 + (nI (i % 5)).toInt64 = zNew p i := by
  rw [j_r10, (zdig i hi).2]
theorem zNew_ne {p i : Nat} (hp : p ≤ 900) (hi : i < 100) : ¬ zNew p i = zNO := fun e => by
  have h1 := (zdig i hi).1
  have h2 := congrArg Int64.toInt e
  have e1 := nI64 (n := p) (by omega)
  have e2 : (1000 * (nI p).toInt64).toInt = 1000 * p := by rw [j_mul (by rw [e1, j_1000]; omega) (by rw [e1, j_1000]; omega), e1, j_1000]
  rw [j_add (by rw [e2]; omega) (by rw [e2]; omega), e2] at h2
  have k1 : zNO.toInt = -9000000000000000002 := by decide +kernel
  omega
/-- the model's best and least beside the class's -/
def zArR (s : Int64 × Int64) (m : Int64) : Prop := (s.1 = zNO ∧ s.2 = 9223372036854775807) ∨ (¬ s.1 = zNO ∧ s.2 = m)
theorem zArS_ns {σ : zσ} {w q : Int32} {p i : Nat} {s : Int64 × Int64} (h : ¬ zSuits σ w q p i) : zArS σ w q p i s = s := by
  unfold zArS
  by_cases h1 : 0 < i / 5 % 5 ∨ i % 5 = 0
  · rw [if_pos h1]
    by_cases h2 : s.2 ≤ zAP σ p i
    · rw [if_pos h2]
    · rw [if_neg h2, if_neg h]
  · rw [if_neg h1]
theorem zArS_le {σ : zσ} {w q : Int32} {p i : Nat} {s : Int64 × Int64} (h : s.2 ≤ zAP σ p i) : zArS σ w q p i s = s := by
  unfold zArS
  by_cases h1 : 0 < i / 5 % 5 ∨ i % 5 = 0
  · rw [if_pos h1, if_pos h]
  · rw [if_neg h1]
theorem zArS_y {σ : zσ} {w q : Int32} {p i : Nat} {s : Int64 × Int64} (hc : 0 < i / 5 % 5 ∨ i % 5 = 0) (hs : zSuits σ w q p i) (h : ¬ s.2 ≤ zAP σ p i) : zArS σ w q p i s = (zNew p i, zAP σ p i) := by
  unfold zArS
  rw [if_pos hc, if_neg h, if_pos hs]
set_option maxRecDepth 100000 in
set_option maxHeartbeats 4000000 in
theorem lm_arrayR (l : Launch) (G : zG) (ad : Nat → Nat) (σ : zσ) (hσ : zOk σ) (x0 : zY) (hN : zNb σ x0.1) (w q : Int32) (r : Int64) (m : Int64) (u : zY) (hu : u.1 = x0.1) (hH : (∀ k, k < 3 → u.2.2.2.1 k = nI (σ.2.1 0 k))) : ∀ (q1 i : Nat) (g : Nat → Nat), i + q1 = 3 → (∀ k, k < i → g k = σ.2.1 0 k) → AV l G sX6_array (wM G ad σ x0) (zPostM G ad (r, σ)) 267 [some (.ref (ad 0)), some (.int w), some (.int q), some (.long r), none, some (.long m), none, some (.int (nI i)), none, none] [] (wM G ad (zσV σ g) u) := by
  intro q_
  induction q_ using Nat.strongRecOn
  rename_i q_ ih_
  intro i g hq_ hg_
  refine a_iload_7 (pc := 267) dX6_array_267 ?_
  refine a_iconst (v := 3) (pc := 269) dX6_array_269 (by decide) ?_
  refine a_icmp_ge (tgt := 293) (pc := 270) dX6_array_270 (by decide) (fun c_270 => ?_) (fun c_270 => ?_)
  · obtain rfl : i = 3 := by have := (zI_le (a := 3) (b := i) (by decide) (by omega)).mp c_270; omega
    refine a_lload_3 (pc := 293) dX6_array_293 ?_
    exact a_lret (pc := 294) dX6_array_294 rfl rfl (mret (σ' := σ) u rfl (by rw [hu]; exact hN) (by rw [zσV_self hg_]))
  · have hi_ : i < 3 := by have := mt (zI_le (a := 3) (b := i) (by decide) (by omega)).mpr c_270; omega
    refine a_aload_0 (pc := 273) dX6_array_273 ?_
    refine a_getf (ci := 6) (j := 0) rfl win_X6 (by decide) (pc := 274) dX6_array_274 kf_X6_7 rfl rfl ?_
    refine a_iload_7 (pc := 277) dX6_array_277 ?_
    refine a_aload_0 (pc := 279) dX6_array_279 ?_
    refine a_getf (ci := 6) (j := 23) rfl win_X6 (by decide) (pc := 280) dX6_array_280 kf_X6_63 rfl rfl ?_
    refine a_iload_7 (pc := 283) dX6_array_283 ?_
    refine a_ialdN (pc := 285) dX6_array_285 rfl (by omega) (by decide) ?_
    refine a_topI (hH i hi_) ?_
    refine a_iastN (pc := 286) dX6_array_286 rfl (by omega) (by decide) ?_
    refine a_iinc_7 (cst := 1) (pc := 287) dX6_array_287 rfl (by decide) (by decide) ?_
    refine a_goto (tgt := 267) (pc := 290) dX6_array_290 (by decide) ?_
    rw [← nI_succ]
    exact a_to (ih_ (q_ - 1) (by omega) (i + 1) (zuN g i (σ.2.1 0 i)) (by omega) (fun k hk => by unfold zuN; by_cases h : k = i; (rw [if_pos h, h]); rw [if_neg h]; exact hg_ k (by omega))) rfl rfl rfl (congrArg (fun f_ => (wM G ad (zσV σ g) u).set 1 (ad 1, .inl (zcI G, 3, .inl f_))) (zV1 σ g hi_ (σ.2.1 0 i)).symm)

set_option maxRecDepth 100000 in
set_option maxHeartbeats 4000000 in
theorem lm_arrayI (l : Launch) (G : zG) (ad : Nat → Nat) (σ : zσ) (hσ : zOk σ) (x0 : zY) (hN : zNb σ x0.1) (w q : Int32) (r : Int64) (p : Nat) (hp : p ≤ 900) (s2 : Int64 × Int64) (K_ : ∀ (g : Nat → Nat) (m : Int64) (u : zY), zArR s2 m → u.1 = x0.1 → (∀ k, k < 3 → u.2.2.2.1 k = nI (σ.2.1 0 k)) → AV l G sX6_array (wM G ad σ x0) (zPostM G ad (r, σ)) 258 [some (.ref (ad 0)), some (.int w), some (.int q), some (.long s2.1), none, some (.long m), none, some (.int (nI p)), none, none] [] (wM G ad (zσV σ g) u)) : ∀ (r2 i : Nat) (s : Int64 × Int64) (m : Int64) (g : Nat → Nat) (u : zY), i + r2 = 100 → zAr2 σ w q p r2 i s = s2 → zArR s m → u.1 = x0.1 → (∀ k, k < 3 → u.2.2.2.1 k = nI (σ.2.1 0 k)) → AV l G sX6_array (wM G ad σ x0) (zPostM G ad (r, σ)) 71 [some (.ref (ad 0)), some (.int w), some (.int q), some (.long s.1), none, some (.long m), none, some (.int (nI p)), some (.int (nI i)), none] [] (wM G ad (zσV σ g) u) := by
  intro q_
  induction q_ using Nat.strongRecOn
  rename_i q_ ih_
  intro i s m g u hq_ hz_ hR_ hu_ hH_
  refine a_iload_8 (pc := 71) dX6_array_71 ?_
  refine a_bipush (v := 100) (pc := 73) dX6_array_73 (by decide) ?_
  refine a_icmp_ge (tgt := 258) (pc := 75) dX6_array_75 (by decide) (fun c_75 => ?_) (fun c_75 => ?_)
  · obtain rfl : q_ = 0 := by have := (zI_le (a := 100) (b := i) (by decide) (by omega)).mp c_75; omega
    obtain rfl : s = s2 := hz_
    exact a_forget_8 (K_ g m u hR_ hu_ hH_)
  · have hi_ : i < 100 := by have := mt (zI_le (a := 100) (b := i) (by decide) (by omega)).mpr c_75; omega
    obtain ⟨q2_, rfl⟩ : ∃ z, q_ = z + 1 := ⟨q_ - 1, by omega⟩
    have hz2_ : zAr2 σ w q p q2_ (i + 1) (zArS σ w q p i s) = s2 := hz_
    refine a_aload_0 (pc := 78) dX6_array_78 ?_
    refine a_getf (ci := 6) (j := 0) rfl win_X6 (by decide) (pc := 79) dX6_array_79 kf_X6_7 rfl rfl ?_
    refine a_iconst (v := 0) (pc := 82) dX6_array_82 (by decide) ?_
    refine a_iconst (v := 1) (pc := 83) dX6_array_83 (by decide) ?_
    refine a_iload_8 (pc := 84) dX6_array_84 ?_
    refine a_bipush (v := 25) (pc := 86) dX6_array_86 (by decide) ?_
    refine a_idiv (pc := 88) dX6_array_88 (by decide) ?_
    refine a_iadd (pc := 89) dX6_array_89 ?_
    rw [show (25 : Int32) = nI 25 from rfl, zI_div (by omega) (by decide) (by decide), show (1 : Int32) = nI 1 from rfl, ← zI_add]
    refine a_iastN (k := 0) (pc := 90) dX6_array_90 rfl (by omega) (by decide) ?_
    refine a_aload_0 (pc := 91) dX6_array_91 ?_
    refine a_getf (ci := 6) (j := 0) rfl win_X6 (by decide) (pc := 92) dX6_array_92 kf_X6_7 rfl rfl ?_
    refine a_iconst (v := 1) (pc := 95) dX6_array_95 (by decide) ?_
    refine a_iload_8 (pc := 96) dX6_array_96 ?_
    refine a_iconst (v := 5) (pc := 98) dX6_array_98 (by decide) ?_
    refine a_idiv (pc := 99) dX6_array_99 (by decide) ?_
    refine a_iconst (v := 5) (pc := 100) dX6_array_100 (by decide) ?_
    refine a_irem (pc := 101) dX6_array_101 (by decide) ?_
    rw [show (5 : Int32) = nI 5 from rfl, zI_div (by omega) (by decide) (by decide), zI_rem (by omega) (by decide) (by decide)]
    refine a_iastN (k := 1) (pc := 102) dX6_array_102 rfl (by omega) (by decide) ?_
    refine a_aload_0 (pc := 103) dX6_array_103 ?_
    refine a_getf (ci := 6) (j := 0) rfl win_X6 (by decide) (pc := 104) dX6_array_104 kf_X6_7 rfl rfl ?_
    refine a_iconst (v := 2) (pc := 107) dX6_array_107 (by decide) ?_
    refine a_iload_8 (pc := 108) dX6_array_108 ?_
    refine a_iconst (v := 5) (pc := 110) dX6_array_110 (by decide) ?_
    refine a_irem (pc := 111) dX6_array_111 (by decide) ?_
    rw [show (5 : Int32) = nI 5 from rfl, zI_rem (by omega) (by decide) (by decide)]
    refine a_iastN (k := 2) (pc := 112) dX6_array_112 rfl (by omega) (by decide) ?_
    have J134_ : (0 < i / 5 % 5 ∨ i % 5 = 0) → AV l G sX6_array (wM G ad σ x0) (zPostM G ad (r, σ)) 134 [some (.ref (ad 0)), some (.int w), some (.int q), some (.long s.1), none, some (.long m), none, some (.int (nI p)), some (.int (nI i)), none] [] (wM G ad (zσV σ (zBm i)) u) := by
      intro hcnd_
      refine a_aload_0 (pc := 134) dX6_array_134 ?_
      refine a_iload_7 (pc := 135) dX6_array_135 ?_
      refine f_0 (ad := ad) (q0 := 0) (S2 := sX6_flowAt) (m_flowAt l G ad (zσV σ (zBm i)) (zOk_V hσ hi_) u p hp) kc_X6_flowAt km_X6_134 ki_X6_flowAt kv_X6_flowAt kini_X6 ⟨kn_X6_flowAt, by decide, by decide⟩ (pc := 137) dX6_array_137 (znd_of rfl znd18) rfl rfl (Nat.le_of_ble_eq_true rfl) rfl rfl rfl (fun B_ hB_ => ?_)
      have hF_ := zFi_V hσ hi_ hB_
      rw [zFin_V σ (nI p) i]
      have J177_ : ∀ y_ : Int32, y_ = zB (zSuits σ w q p i) → AV l G sX6_array (wM G ad σ x0) (zPostM G ad (r, σ)) 177 [some (.ref (ad 0)), some (.int w), some (.int q), some (.long s.1), none, some (.long m), none, some (.int (nI p)), some (.int (nI i)), none] [.int y_] (wM G ad (zσV σ (zBm i)) (u.1, B_, zJF (zσV σ (zBm i)) (zFin σ (nI p) (zAm i)), u.2.2.2)) := by
        intro y_ hy_; subst hy_
        refine a_istore_9 (pc := 177) dX6_array_177 rfl (by decide) ?_
        refine a_iload_9 (pc := 179) dX6_array_179 ?_
        first | refine a_if_eqB (tgt := 252) (pc := 181) dX6_array_181 (by decide) (fun c_181 => ?_) (fun c_181 => ?_) | refine a_if_eq (tgt := 252) (pc := 181) dX6_array_181 (by decide) (fun c_181 => ?_) (fun c_181 => ?_)
        · have hS_ : zArS σ w q p i s = s := zArS_ns c_181
          refine a_iinc_8 (cst := 1) (pc := 252) dX6_array_252 rfl (by decide) (by decide) ?_
          refine a_goto (tgt := 71) (pc := 255) dX6_array_255 (by decide) ?_
          rw [← nI_succ]
          rw [hS_] at hz2_
          first
            | exact a_forget_9 (ih_ q2_ (by omega) (i + 1) _ _ (zBm i) (u.1, B_, zJF (zσV σ (zBm i)) (zFin σ (nI p) (zAm i)), u.2.2.2) (by omega) hz2_ hR2_ hu_ hH_)
            | exact a_forget_9 (ih_ q2_ (by omega) (i + 1) _ _ (zBm i) (u.1, B_, zJF (zσV σ (zBm i)) (zFin σ (nI p) (zAm i)), u.2.2.2) (by omega) hz2_ hR_ hu_ hH_)
            | exact ih_ q2_ (by omega) (i + 1) _ _ (zBm i) u (by omega) hz2_ hR_ hu_ hH_
        · have J204_ : ¬ s.2 ≤ zAP σ p i → AV l G sX6_array (wM G ad σ x0) (zPostM G ad (r, σ)) 204 [some (.ref (ad 0)), some (.int w), some (.int q), some (.long s.1), none, some (.long m), none, some (.int (nI p)), some (.int (nI i)), some (.int (zB (zSuits σ w q p i)))] [] (wM G ad (zσV σ (zBm i)) (u.1, B_, zJF (zσV σ (zBm i)) (zFin σ (nI p) (zAm i)), u.2.2.2)) := by
            intro h204_
            have hS_ : zArS σ w q p i s = (zNew p i, zAP σ p i) := zArS_y hcnd_ c_181 h204_
            have hR2_ : zArR (zNew p i, zAP σ p i) (zAP σ p i) := Or.inr ⟨zNew_ne hp hi_, rfl⟩
            refine a_aload_0 (pc := 204) dX6_array_204 ?_
            refine a_iload_7 (pc := 205) dX6_array_205 ?_
            refine f_P (ad := ad) (q0 := 0) (S2 := sX6_powerAt) (m_powerAt l G ad (zσV σ (zBm i)) (u.1, B_, zJF (zσV σ (zBm i)) (zFin σ (nI p) (zAm i)), u.2.2.2) (nI p)) kc_X6_powerAt km_X6_146 ki_X6_powerAt kv_X6_powerAt kini_X6 ⟨kn_X6_powerAt, by decide, by decide⟩ (pc := 207) dX6_array_207 (znd_of rfl znd18) rfl rfl (Nat.le_of_ble_eq_true rfl) rfl rfl rfl ?_
            refine a_lstore_5 (pc := 210) dX6_array_210 rfl (by decide) ?_
            refine a_ldc2 (pc := 212) dX6_array_212 kl_X6_106 ?_
            refine a_iload_7 (pc := 215) dX6_array_215 ?_
            refine a_i2l (pc := 217) dX6_array_217 ?_
            refine a_lmul (pc := 218) dX6_array_218 ?_
            refine a_ldc2 (pc := 219) dX6_array_219 kl_X6_104 ?_
            refine a_aload_0 (pc := 222) dX6_array_222 ?_
            refine a_getf (ci := 6) (j := 0) rfl win_X6 (by decide) (pc := 223) dX6_array_223 kf_X6_7 rfl rfl ?_
            refine a_iconst (v := 0) (pc := 226) dX6_array_226 (by decide) ?_
            refine a_ialdN (k := 0) (pc := 227) dX6_array_227 rfl (by omega) (by decide) ?_
            refine a_i2l (pc := 228) dX6_array_228 ?_
            refine a_lmul (pc := 229) dX6_array_229 ?_
            refine a_ladd (pc := 230) dX6_array_230 ?_
            refine a_ldc2 (pc := 231) dX6_array_231 kl_X6_168 ?_
            refine a_aload_0 (pc := 234) dX6_array_234 ?_
            refine a_getf (ci := 6) (j := 0) rfl win_X6 (by decide) (pc := 235) dX6_array_235 kf_X6_7 rfl rfl ?_
            refine a_iconst (v := 1) (pc := 238) dX6_array_238 (by decide) ?_
            refine a_ialdN (k := 1) (pc := 239) dX6_array_239 rfl (by omega) (by decide) ?_
            refine a_i2l (pc := 240) dX6_array_240 ?_
            refine a_lmul (pc := 241) dX6_array_241 ?_
            refine a_ladd (pc := 242) dX6_array_242 ?_
            refine a_aload_0 (pc := 243) dX6_array_243 ?_
            refine a_getf (ci := 6) (j := 0) rfl win_X6 (by decide) (pc := 244) dX6_array_244 kf_X6_7 rfl rfl ?_
            refine a_iconst (v := 2) (pc := 247) dX6_array_247 (by decide) ?_
            refine a_ialdN (k := 2) (pc := 248) dX6_array_248 rfl (by omega) (by decide) ?_
            refine a_i2l (pc := 249) dX6_array_249 ?_
            refine a_ladd (pc := 250) dX6_array_250 ?_
            refine a_topL (zNew_e hi_) ?_
            refine a_lstore_3 (pc := 251) dX6_array_251 rfl (by decide) ?_
            refine a_iinc_8 (cst := 1) (pc := 252) dX6_array_252 rfl (by decide) (by decide) ?_
            refine a_goto (tgt := 71) (pc := 255) dX6_array_255 (by decide) ?_
            rw [← nI_succ]
            rw [hS_] at hz2_
            first
              | exact a_forget_9 (ih_ q2_ (by omega) (i + 1) _ _ (zBm i) (u.1, B_, zJF (zσV σ (zBm i)) (zFin σ (nI p) (zAm i)), u.2.2.2) (by omega) hz2_ hR2_ hu_ hH_)
              | exact a_forget_9 (ih_ q2_ (by omega) (i + 1) _ _ (zBm i) (u.1, B_, zJF (zσV σ (zBm i)) (zFin σ (nI p) (zAm i)), u.2.2.2) (by omega) hz2_ hR_ hu_ hH_)
              | exact ih_ q2_ (by omega) (i + 1) _ _ (zBm i) u (by omega) hz2_ hR_ hu_ hH_
          refine a_lload_3 (pc := 184) dX6_array_184 ?_
          refine a_ldc2 (pc := 185) dX6_array_185 kl_X6_141 ?_
          refine a_lif_eq (tgt := 204) (pc := 188) dX6_array_188 dX6_array_189 (by decide) (fun c_188 => ?_) (fun c_188 => ?_)
          · have h204_ : ¬ s.2 ≤ zAP σ p i := by
              rcases hR_ with ⟨h1_, h2_⟩ | ⟨h1_, h2_⟩
              · rw [h2_]; exact zAP_lt hσ hp hi_
              · exact absurd c_188 h1_
            exact J204_ h204_
          · have hsm_ : s.2 = m := by
              rcases hR_ with ⟨h1_, h2_⟩ | ⟨h1_, h2_⟩
              · exact absurd h1_ c_188
              · exact h2_
            refine a_aload_0 (pc := 192) dX6_array_192 ?_
            refine a_iload_7 (pc := 193) dX6_array_193 ?_
            refine f_P (ad := ad) (q0 := 0) (S2 := sX6_powerAt) (m_powerAt l G ad (zσV σ (zBm i)) (u.1, B_, zJF (zσV σ (zBm i)) (zFin σ (nI p) (zAm i)), u.2.2.2) (nI p)) kc_X6_powerAt km_X6_146 ki_X6_powerAt kv_X6_powerAt kini_X6 ⟨kn_X6_powerAt, by decide, by decide⟩ (pc := 195) dX6_array_195 (znd_of rfl znd18) rfl rfl (Nat.le_of_ble_eq_true rfl) rfl rfl rfl ?_
            refine a_lload_5 (pc := 198) dX6_array_198 ?_
            refine a_lif_ge (tgt := 252) (pc := 200) dX6_array_200 dX6_array_201 (by decide) (fun c_200 => ?_) (fun c_200 => ?_)
            · have hS_ : zArS σ w q p i s = s := zArS_le (by rw [hsm_]; exact c_200)
              refine a_iinc_8 (cst := 1) (pc := 252) dX6_array_252 rfl (by decide) (by decide) ?_
              refine a_goto (tgt := 71) (pc := 255) dX6_array_255 (by decide) ?_
              rw [← nI_succ]
              rw [hS_] at hz2_
              first
                | exact a_forget_9 (ih_ q2_ (by omega) (i + 1) _ _ (zBm i) (u.1, B_, zJF (zσV σ (zBm i)) (zFin σ (nI p) (zAm i)), u.2.2.2) (by omega) hz2_ hR2_ hu_ hH_)
                | exact a_forget_9 (ih_ q2_ (by omega) (i + 1) _ _ (zBm i) (u.1, B_, zJF (zσV σ (zBm i)) (zFin σ (nI p) (zAm i)), u.2.2.2) (by omega) hz2_ hR_ hu_ hH_)
                | exact ih_ q2_ (by omega) (i + 1) _ _ (zBm i) u (by omega) hz2_ hR_ hu_ hH_
            · have h204_ : ¬ s.2 ≤ zAP σ p i := by rw [hsm_]; exact c_200
              exact J204_ h204_
      refine a_aload_0 (pc := 140) dX6_array_140 ?_
      refine f_P (ad := ad) (q0 := 0) (S2 := sX6_failing) (m_failing l G ad (zσV σ (zBm i)) (zOk_V hσ hi_) (u.1, B_, zJF (zσV σ (zBm i)) (zFin σ (nI p) (zAm i)), u.2.2.2)) kc_X6_failing km_X6_153 ki_X6_failing kv_X6_failing kini_X6 ⟨kn_X6_failing, by decide, by decide⟩ (pc := 141) dX6_array_141 (znd_of rfl znd18) rfl rfl (Nat.le_of_ble_eq_true rfl) rfl rfl rfl ?_
      refine a_if_ge (tgt := 176) (pc := 144) dX6_array_144 (by decide) (fun c_144 => ?_) (fun c_144 => ?_)
      · have hns_ : ¬ zSuits σ w q p i := fun h => by
          rcases hF_ with ⟨ha_, hb_⟩ | ⟨ha_, hb_⟩
          · exact absurd (show (0 : Int32) ≤ zFiσ (zσV σ (zBm i)) B_ from c_144) (by rw [ha_]; decide)
          · exact zNONE_ne ha_ (hb_.symm.trans h.2.2)
        refine a_iconst (v := 0) (pc := 176) dX6_array_176 (by decide) ?_
        first | exact J177_ _ (zB_0 hns_).symm | exact J177_ _ (zB_1 hsu_).symm
      · have hff_ : zFf (fun k => nI (zBm i k)) (nI (σ.1 0)) (zCellp σ (nI p) (zAm i) 0) (zCellp σ (nI p) (zAm i) 3) (nI (σ.2.1 3 0)) (nI (σ.2.1 3 1)) 72 0 = zNONE := by
          rcases hF_ with ⟨ha_, hb_⟩ | ⟨ha_, hb_⟩
          · exact hb_
          · exact absurd ha_ c_144
        refine a_aload_0 (pc := 147) dX6_array_147 ?_
        refine a_getf (ci := 6) (j := 18) rfl win_X6 (by decide) (pc := 148) dX6_array_148 kf_X6_108 rfl rfl ?_
        refine a_iload_1 (pc := 151) dX6_array_151 ?_
        refine a_i2l (pc := 152) dX6_array_152 ?_
        refine a_lif_lt (tgt := 176) (pc := 153) dX6_array_153 dX6_array_154 (by decide) (fun c_153 => ?_) (fun c_153 => ?_)
        · have hns_ : ¬ zSuits σ w q p i := fun h => h.1 c_153
          refine a_iconst (v := 0) (pc := 176) dX6_array_176 (by decide) ?_
          first | exact J177_ _ (zB_0 hns_).symm | exact J177_ _ (zB_1 hsu_).symm
        · refine a_aload_0 (pc := 157) dX6_array_157 ?_
          refine a_getf (ci := 6) (j := 19) rfl win_X6 (by decide) (pc := 158) dX6_array_158 kf_X6_112 rfl rfl ?_
          refine a_iload_2 (pc := 161) dX6_array_161 ?_
          refine a_i2l (pc := 162) dX6_array_162 ?_
          refine a_aload_0 (pc := 163) dX6_array_163 ?_
          refine a_getf (ci := 6) (j := 18) rfl win_X6 (by decide) (pc := 164) dX6_array_164 kf_X6_108 rfl rfl ?_
          refine a_lmul (pc := 167) dX6_array_167 ?_
          refine a_lif_gt (tgt := 176) (pc := 168) dX6_array_168 dX6_array_169 (by decide) (fun c_168 => ?_) (fun c_168 => ?_)
          · have hns_ : ¬ zSuits σ w q p i := fun h => h.2.1 c_168
            refine a_iconst (v := 0) (pc := 176) dX6_array_176 (by decide) ?_
            first | exact J177_ _ (zB_0 hns_).symm | exact J177_ _ (zB_1 hsu_).symm
          · have hsu_ : zSuits σ w q p i := ⟨c_153, c_168, hff_⟩
            refine a_iconst (v := 1) (pc := 172) dX6_array_172 (by decide) ?_
            refine a_goto (tgt := 177) (pc := 173) dX6_array_173 (by decide) ?_
            first | exact J177_ _ (zB_0 hns_).symm | exact J177_ _ (zB_1 hsu_).symm
    refine a_to (ws2 := wM G ad (zσV σ (zBm i)) u) ?_ rfl rfl rfl (congrArg (fun f_ => (wM G ad (zσV σ g) u).set 1 (ad 1, .inl (zcI G, 3, .inl f_))) (zV3 σ g i).symm)
    refine a_aload_0 (pc := 113) dX6_array_113 ?_
    refine a_getf (ci := 6) (j := 0) rfl win_X6 (by decide) (pc := 114) dX6_array_114 kf_X6_7 rfl rfl ?_
    refine a_iconst (v := 1) (pc := 117) dX6_array_117 (by decide) ?_
    refine a_ialdN (k := 1) (pc := 118) dX6_array_118 rfl (by omega) (by decide) ?_
    first | refine a_if_neB (tgt := 134) (pc := 119) dX6_array_119 (by decide) (fun c_119 => ?_) (fun c_119 => ?_) | refine a_if_ne (tgt := 134) (pc := 119) dX6_array_119 (by decide) (fun c_119 => ?_) (fun c_119 => ?_)
    · have hcnd_ : 0 < i / 5 % 5 ∨ i % 5 = 0 := Or.inl (by
        have h : ¬ i / 5 % 5 = 0 := fun e => c_119 (by show nI (i / 5 % 5) = 0; rw [e]; rfl)
        omega)
      exact J134_ hcnd_
    · have h5_ : i / 5 % 5 = 0 := zI_inj (b := 0) (by omega) (by decide) (show nI (i / 5 % 5) = nI 0 from c_119)
      refine a_aload_0 (pc := 122) dX6_array_122 ?_
      refine a_getf (ci := 6) (j := 0) rfl win_X6 (by decide) (pc := 123) dX6_array_123 kf_X6_7 rfl rfl ?_
      refine a_iconst (v := 2) (pc := 126) dX6_array_126 (by decide) ?_
      refine a_ialdN (k := 2) (pc := 127) dX6_array_127 rfl (by omega) (by decide) ?_
      refine a_if_le (tgt := 134) (pc := 128) dX6_array_128 (by decide) (fun c_128 => ?_) (fun c_128 => ?_)
      · have hcnd_ : 0 < i / 5 % 5 ∨ i % 5 = 0 := Or.inr (by have := (zI_le (a := i % 5) (b := 0) (by omega) (by decide)).mp c_128; omega)
        exact J134_ hcnd_
      · have h6_ : ¬ i % 5 ≤ 0 := mt (zI_le (a := i % 5) (b := 0) (by omega) (by decide)).mpr c_128
        have hS_ : zArS σ w q p i s = s := if_neg (by omega)
        refine a_goto (tgt := 252) (pc := 131) dX6_array_131 (by decide) ?_
        refine a_iinc_8 (cst := 1) (pc := 252) dX6_array_252 rfl (by decide) (by decide) ?_
        refine a_goto (tgt := 71) (pc := 255) dX6_array_255 (by decide) ?_
        rw [← nI_succ]
        rw [hS_] at hz2_
        first
          | exact a_forget_9 (ih_ q2_ (by omega) (i + 1) _ _ (zBm i) (u.1, B_, zJF (zσV σ (zBm i)) (zFin σ (nI p) (zAm i)), u.2.2.2) (by omega) hz2_ hR2_ hu_ hH_)
          | exact a_forget_9 (ih_ q2_ (by omega) (i + 1) _ _ (zBm i) (u.1, B_, zJF (zσV σ (zBm i)) (zFin σ (nI p) (zAm i)), u.2.2.2) (by omega) hz2_ hR_ hu_ hH_)
          | exact ih_ q2_ (by omega) (i + 1) _ _ (zBm i) u (by omega) hz2_ hR_ hu_ hH_

set_option maxRecDepth 100000 in
set_option maxHeartbeats 4000000 in
theorem lm_arrayO (l : Launch) (G : zG) (ad : Nat → Nat) (σ : zσ) (hσ : zOk σ) (x0 : zY) (hN : zNb σ x0.1) (w q : Int32) (r : Int64) : ∀ (r2 t : Nat) (s : Int64 × Int64) (m : Int64) (g : Nat → Nat) (u : zY), t + r2 = 10 → (zAr1 σ w q r2 t s).1 = r → zArR s m → u.1 = x0.1 → (∀ k, k < 3 → u.2.2.2.1 k = nI (σ.2.1 0 k)) → AV l G sX6_array (wM G ad σ x0) (zPostM G ad (r, σ)) 60 [some (.ref (ad 0)), some (.int w), some (.int q), some (.long s.1), none, some (.long m), none, some (.int (nI (100 * t))), none, none] [] (wM G ad (zσV σ g) u) := by
  intro q_
  induction q_ using Nat.strongRecOn
  rename_i q_ ih_
  intro t s m g u hq_ hz_ hR_ hu_ hH_
  refine a_iload_7 (pc := 60) dX6_array_60 ?_
  refine a_sipush (v := 900) (pc := 62) dX6_array_62 (by decide) ?_
  refine a_icmp_gt (tgt := 264) (pc := 65) dX6_array_65 (by decide) (fun c_65 => ?_) (fun c_65 => ?_)
  · obtain rfl : q_ = 0 := by have := (zI_lt (a := 900) (b := 100 * t) (by decide) (by omega)).mp c_65; omega
    obtain rfl : s.1 = r := hz_
    refine a_iconst (v := 0) (pc := 264) dX6_array_264 (by decide) ?_
    refine a_istore_7 (pc := 265) dX6_array_265 rfl (by decide) ?_
    exact lm_arrayR l G ad σ hσ x0 hN w q _ m u hu_ hH_ 3 0 g (by omega) (fun k hk => absurd hk (Nat.not_lt_zero k))
  · have hi_ : t < 10 := by have := mt (zI_lt (a := 900) (b := 100 * t) (by decide) (by omega)).mpr c_65; omega
    obtain ⟨q2_, rfl⟩ : ∃ z, q_ = z + 1 := ⟨q_ - 1, by omega⟩
    refine a_iconst (v := 0) (pc := 68) dX6_array_68 (by decide) ?_
    refine a_istore_8 (pc := 69) dX6_array_69 rfl (by decide) ?_
    refine lm_arrayI l G ad σ hσ x0 hN w q r (100 * t) (by omega) _ (fun g3_ m3_ u3_ hR3_ hu3_ hH3_ => ?_) 100 0 s m g u (by omega) rfl hR_ hu_ hH_
    refine a_iinc_7 (cst := 100) (pc := 258) dX6_array_258 rfl (by decide) (by decide) ?_
    refine a_goto (tgt := 60) (pc := 261) dX6_array_261 (by decide) ?_
    rw [show nI (100 * t) + (100 : Int32) = nI (100 * (t + 1)) by rw [Nat.mul_add, zI_add]; rfl]
    exact ih_ q2_ (by omega) (t + 1) _ m3_ g3_ u3_ (by omega) hz_ hR3_ hu3_ hH3_

set_option maxRecDepth 100000 in
set_option maxHeartbeats 4000000 in
theorem lm_arrayH (l : Launch) (G : zG) (ad : Nat → Nat) (σ : zσ) (hσ : zOk σ) (x0 : zY) (hN : zNb σ x0.1) (w q : Int32) (r : Int64) (hr : (zAr1 σ w q 9 1 (zNO, 9223372036854775807)).1 = r) : ∀ (q1 i : Nat) (H : Nat → Int32), i + q1 = 3 → (∀ k, k < i → H k = nI (σ.2.1 0 k)) → AV l G sX6_array (wM G ad σ x0) (zPostM G ad (r, σ)) 26 [some (.ref (ad 0)), some (.int w), some (.int q), some (.int (nI i)), none, none, none, none, none, none] [] (wM G ad σ (x0.1, x0.2.1, x0.2.2.1, H, x0.2.2.2.2)) := by
  intro q_
  induction q_ using Nat.strongRecOn
  rename_i q_ ih_
  intro i H hq_ hH_
  refine a_iload_3 (pc := 26) dX6_array_26 ?_
  refine a_iconst (v := 3) (pc := 27) dX6_array_27 (by decide) ?_
  refine a_icmp_ge (tgt := 49) (pc := 28) dX6_array_28 (by decide) (fun c_28 => ?_) (fun c_28 => ?_)
  · obtain rfl : i = 3 := by have := (zI_le (a := 3) (b := i) (by decide) (by omega)).mp c_28; omega
    refine a_ldc2 (pc := 49) dX6_array_49 kl_X6_141 ?_
    refine a_lstore_3 (pc := 52) dX6_array_52 rfl (by decide) ?_
    refine a_lconst (v := 0) (pc := 53) dX6_array_53 (by decide) ?_
    refine a_lstore_5 (pc := 54) dX6_array_54 rfl (by decide) ?_
    refine a_bipush (v := 100) (pc := 56) dX6_array_56 (by decide) ?_
    refine a_istore_7 (pc := 58) dX6_array_58 rfl (by decide) ?_
    exact a_to (lm_arrayO l G ad σ hσ x0 hN w q r 9 1 (zNO, 9223372036854775807) 0 (σ.2.1 0) (x0.1, x0.2.1, x0.2.2.1, H, x0.2.2.2.2) (by omega) hr (Or.inl ⟨rfl, rfl⟩) rfl hH_) rfl rfl rfl (by rw [zσV_self (fun k _ => rfl)])
  · have hi_ : i < 3 := by have := mt (zI_le (a := 3) (b := i) (by decide) (by omega)).mpr c_28; omega
    refine a_aload_0 (pc := 31) dX6_array_31 ?_
    refine a_getf (ci := 6) (j := 23) rfl win_X6 (by decide) (pc := 32) dX6_array_32 kf_X6_63 rfl rfl ?_
    refine a_iload_3 (pc := 35) dX6_array_35 ?_
    refine a_aload_0 (pc := 36) dX6_array_36 ?_
    refine a_getf (ci := 6) (j := 0) rfl win_X6 (by decide) (pc := 37) dX6_array_37 kf_X6_7 rfl rfl ?_
    refine a_iload_3 (pc := 40) dX6_array_40 ?_
    refine a_ialdN (pc := 41) dX6_array_41 rfl (by omega) (by decide) ?_
    refine a_iastN (pc := 42) dX6_array_42 rfl (by omega) (by decide) ?_
    refine a_iinc_3 (cst := 1) (pc := 43) dX6_array_43 rfl (by decide) (by decide) ?_
    refine a_goto (tgt := 26) (pc := 46) dX6_array_46 (by decide) ?_
    rw [← nI_succ]
    exact ih_ (q_ - 1) (by omega) (i + 1) (upd H i (nI (σ.2.1 0 i))) (by omega) (fun k hk => by by_cases h : k = i; (subst h; exact upd_same _ _ _); rw [upd_ne _ _ h]; exact hH_ k (by omega))

set_option maxRecDepth 100000 in
set_option maxHeartbeats 4000000 in
theorem m_array (l : Launch) (G : zG) (ad : Nat → Nat) (σ : zσ) (x0 : zY) (hσ : zOk σ) (hN : zNb σ x0.1) (w : Int32) (q : Int32) : zSem l G sX6_array [.ref (ad 0), .int w, .int q] (wM G ad σ x0) (zPostM G ad (o_array σ w q)) := by
  refine zEnterV (L := [some (.ref (ad 0)), some (.int w), some (.int q), none, none, none, none, none, none, none]) (by decide) rfl (Nat.le_of_ble_eq_true rfl) rfl ?_
  refine a_iload_1 (pc := 0) dX6_array_0 ?_
  refine a_iconst (v := 0) (pc := 1) dX6_array_1 (by decide) ?_
  refine a_ldc (pc := 2) dX6_array_2 kl_X6_167 ?_
  refine cS_P (S2 := sX6_isIn) (m_isIn l G _ _ _) kc_X6_isIn km_X6_75 ks_X6_isIn kini_X6 ⟨kn_X6_isIn, by decide, by decide⟩ (pc := 4) dX6_array_4 [] rfl rfl rfl rfl (Nat.le_of_ble_eq_true rfl) ?_
  first | refine a_if_eqB (tgt := 20) (pc := 7) dX6_array_7 (by decide) (fun c_7 => ?_) (fun c_7 => ?_) | refine a_if_eq (tgt := 20) (pc := 7) dX6_array_7 (by decide) (fun c_7 => ?_) (fun c_7 => ?_)
  · refine a_ldc2 (pc := 20) dX6_array_20 kl_X6_79 ?_
    exact a_lret (pc := 23) dX6_array_23 rfl rfl (by first | exact mret x0 (by unfold o_array; rw [if_pos (Or.inl (Decidable.not_not.mp c_7))]) hN rfl | exact mret x0 (by unfold o_array; rw [if_pos (Or.inr (Decidable.not_not.mp c_17))]) hN rfl)
  · refine a_iload_2 (pc := 10) dX6_array_10 ?_
    refine a_iconst (v := 0) (pc := 11) dX6_array_11 (by decide) ?_
    refine a_ldc (pc := 12) dX6_array_12 kl_X6_95 ?_
    refine cS_P (S2 := sX6_isIn) (m_isIn l G _ _ _) kc_X6_isIn km_X6_75 ks_X6_isIn kini_X6 ⟨kn_X6_isIn, by decide, by decide⟩ (pc := 14) dX6_array_14 [] rfl rfl rfl rfl (Nat.le_of_ble_eq_true rfl) ?_
    first | refine a_if_neB (tgt := 24) (pc := 17) dX6_array_17 (by decide) (fun c_17 => ?_) (fun c_17 => ?_) | refine a_if_ne (tgt := 24) (pc := 17) dX6_array_17 (by decide) (fun c_17 => ?_) (fun c_17 => ?_)
    · refine a_iconst (v := 0) (pc := 24) dX6_array_24 (by decide) ?_
      refine a_istore_3 (pc := 25) dX6_array_25 rfl (by decide) ?_
      have e_ : o_array σ w q = ((zAr1 σ w q 9 1 (zNO, 9223372036854775807)).1, σ) := by unfold o_array; rw [if_neg (fun h => h.elim c_7 c_17)]
      rw [e_]
      exact lm_arrayH l G ad σ hσ x0 hN w q _ rfl 3 0 x0.2.2.2.1 (by omega) (fun k hk => absurd hk (Nat.not_lt_zero k))
    · refine a_ldc2 (pc := 20) dX6_array_20 kl_X6_79 ?_
      exact a_lret (pc := 23) dX6_array_23 rfl rfl (by first | exact mret x0 (by unfold o_array; rw [if_pos (Or.inl (Decidable.not_not.mp c_7))]) hN rfl | exact mret x0 (by unfold o_array; rw [if_pos (Or.inr (Decidable.not_not.mp c_17))]) hN rfl)


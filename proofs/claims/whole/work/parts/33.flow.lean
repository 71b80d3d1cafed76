/-! The plant: flows. -/
def zMf (f : Nat → Nat) (s : Nat) : Nat := if ∀ j, j < s → ¬ f j = 0 then f s else 0
theorem zVin_N {f : Nat → Nat} (h : ∀ k, k < 3 → f k ≤ 4) {s : Nat} (hs : s < 3) : zVin (fun k => nI (f k)) s = nI (zMf f s) ∧ zMf f s ≤ 4 := by
  have key : (∀ j, j < s → ¬ nI (f j) = 0) ↔ ∀ j, j < s → ¬ f j = 0 := by
    constructor
    · intro q j hj e; exact q j hj (by rw [e]; rfl)
    · intro q j hj e; exact q j hj (zI_inj (by have := h j (by omega); omega) (by decide) e)
  unfold zVin zMf
  by_cases q : ∀ j, j < s → ¬ f j = 0
  · rw [if_pos (key.mpr q), if_pos q]; exact ⟨rfl, h s hs⟩
  · rw [if_neg (fun z => q (key.mp z)), if_neg q]; exact ⟨rfl, by omega⟩
abbrev zPaf (σ : zσ) : Nat → Int32 := zPass (zKd σ) (zFo σ)
abbrev zLef (σ : zσ) : Nat → Int32 := zLeak (zKd σ)
abbrev zMs (σ : zσ) : Nat → Nat := zMf (σ.2.1 0)
abbrev zS0p (σ : zσ) (p : Int32) : zSt3 := ((nI (σ.1 1)).toInt64, (nI (σ.1 1)).toInt64 * (nI (σ.1 2)).toInt64, p.toInt64)
theorem zVs_cg {pa le pa2 le2 : Nat → Int32} {f0 : Nat} {s : zSt3} : ∀ j, (∀ k, k < f0 + j → pa k = pa2 k ∧ le k = le2 k) → zVs pa le f0 s j = zVs pa2 le2 f0 s j
  | 0, _ => rfl
  | j + 1, h => by
    show zStep _ _ (zVs pa le f0 s j) = zStep _ _ (zVs pa2 le2 f0 s j)
    rw [zVs_cg j (fun k hk => h k (by omega)), (h (f0 + j) (by omega)).1, (h (f0 + j) (by omega)).2]
theorem zStg_cg {pa le pa2 le2 : Nat → Int32} (h : ∀ k, k < 72 → pa k = pa2 k ∧ le k = le2 k) {s m n : Nat} (hs : s < 3) (hn : n ≤ 6) {st : zSt3} : ∀ v, v ≤ 4 → zStg pa le s m n st v = zStg pa2 le2 s m n st v
  | 0, _ => rfl
  | v + 1, hv => by
    show (_, _) = (_, _)
    rw [zStg_cg h hs hn v (by omega), zVs_cg n (fun k hk => h k (by omega))]
theorem zStN_cg {pa le pa2 le2 : Nat → Int32} (h : ∀ k, k < 72 → pa k = pa2 k ∧ le k = le2 k) {s m n : Nat} (hs : s < 3) (hm : m ≤ 4) (hn : n ≤ 6) {st : zSt3} : zStN pa le s m n st = zStN pa2 le2 s m n st := by
  unfold zStN
  rw [zStg_cg h hs hn m hm]
theorem zRn_cg {pa le pa2 le2 : Nat → Int32} (h : ∀ k, k < 72 → pa k = pa2 k ∧ le k = le2 k) {m : Nat → Nat} {n : Nat} (hm : ∀ s, s < 3 → m s ≤ 4) (hn : n ≤ 6) {st : zSt3} : ∀ s, s ≤ 3 → zRn pa le m n st s = zRn pa2 le2 m n st s
  | 0, _ => rfl
  | s + 1, hs => by
    show zStN pa le s (m s) n (zRn pa le m n st s) = zStN pa2 le2 s (m s) n (zRn pa2 le2 m n st s)
    rw [zRn_cg h hm hn s (by omega), zStN_cg h (by omega) (hm s (by omega)) hn]
theorem zRows_cg {pa le pa2 le2 : Nat → Int32} (h : ∀ k, k < 72 → pa k = pa2 k ∧ le k = le2 k) {m : Nat → Nat} {n : Nat} (hm : ∀ s, s < 3 → m s ≤ 4) (hn : n ≤ 6) {st : zSt3} {B : Nat → Nat → Int64} (hR : zRows pa le m n st B 3) : zRows pa2 le2 m n st B 3 := by
  intro s hs v hv j hj a ha
  have hm' := hm s hs
  rw [← zRn_cg h hm hn s (by omega), hR s hs v hv j hj a ha, (h _ (by omega)).1, (h _ (by omega)).2, zVs_cg j (fun k hk => h k (by omega))]
/-- what a skin gets and lets through: a row and a place -/
def zCellp (σ : zσ) (p : Int32) (m : Nat → Nat) (a k : Nat) : Int64 := zOut (zPaf σ k) (zLef σ k) (zVs (zPaf σ) (zLef σ) (k / 24 * 24 + k % 24 / 6 * 6) (zIn (zRn (zPaf σ) (zLef σ) m (σ.1 0) (zS0p σ p) (k / 24)) (m (k / 24)) (k % 24 / 6)) (k % 6)) a
theorem zRows_at {σ : zσ} {p : Int32} {m : Nat → Nat} {B : Nat → Nat → Int64} (hR : zRows (zPaf σ) (zLef σ) m (σ.1 0) (zS0p σ p) B 3) {k : Nat} (hk : k < 72) (h1 : k % 6 < σ.1 0) (h2 : k % 24 / 6 < m (k / 24)) {a : Nat} (ha : a < 6) : B a k = zCellp σ p m a k := by
  have e := hR (k / 24) (by omega) (k % 24 / 6) h2 (k % 6) h1 a ha
  have ek : k / 24 * 24 + k % 24 / 6 * 6 + k % 6 = k := by omega
  rw [ek] at e
  exact e
theorem zHd_N {f : Nat → Nat} (h : ∀ k, k < 3 → f k ≤ 4) {n k : Nat} (hn : n ≤ 6) (hk : k < 72) : zHd (fun j => nI (f j)) (nI n) k ↔ (k % 6 < n ∧ k % 24 / 6 < zMf f (k / 24)) := by
  have e := zVin_N h (show k / 24 < 3 by omega)
  unfold zHd
  rw [e.1, zI_lt (by omega) (by omega), zI_lt (by omega) (by have := e.2; omega)]
def zFin (σ : zσ) (p : Int32) (m : Nat → Nat) : zSt3 := zRn (zPaf σ) (zLef σ) m (σ.1 0) (zS0p σ p) 3
/-- what the rows and the sums hold behind a run with a pressure and vessels -/
def zFlow (σ : zσ) (p : Int32) (m : Nat → Nat) (u : zX) : Prop := zRows (zPaf σ) (zLef σ) m (σ.1 0) (zS0p σ p) u.2.2.2.2.1 3 ∧ u.2.2.2.2.2.1 0 = (zFin σ p m).1 ∧ u.2.2.2.2.2.1 1 = (zFin σ p m).2.1 ∧ u.2.2.2.2.2.1 2 = (zFin σ p m).2.2 ∧ u.2.2.2.2.2.1 3 = (nI (σ.1 1)).toInt64 - (zFin σ p m).1 ∧ u.2.2.2.2.2.1 4 = (nI (σ.1 1)).toInt64 * (nI (σ.1 2)).toInt64 - (zFin σ p m).2.1
/-- PASS and LEAK as taken -/
def zTaken (σ : zσ) (u : zX) : Prop := ∀ k, k < 72 → u.2.2.1 k = zPaf σ k ∧ u.2.2.2.1 k = zLef σ k
theorem zFlow_of {σ : zσ} {p : Int32} {m : Nat → Nat} (hm : ∀ s, s < 3 → m s ≤ 4) (hn : σ.1 0 ≤ 6) {pa le : Nat → Int32} {B : Nat → Nat → Int64} {J : Nat → Int64} (h : ∀ k, k < 72 → pa k = zPaf σ k ∧ le k = zLef σ k) (hR : zRows pa le m (σ.1 0) (zS0p σ p) B 3) (q : Int32) (w1 nw lt : Nat → Int32) :
    zFlow σ p m (q, w1, pa, le, B, zJ5 J (zRn pa le m (σ.1 0) (zS0p σ p) 3) ((nI (σ.1 1)).toInt64 - (zRn pa le m (σ.1 0) (zS0p σ p) 3).1) ((nI (σ.1 1)).toInt64 * (nI (σ.1 2)).toInt64 - (zRn pa le m (σ.1 0) (zS0p σ p) 3).2.1), nw, lt) := by
  refine ⟨zRows_cg h hm hn hR, ?_⟩
  rw [zRn_cg h hm hn 3 (by omega)]
  exact ⟨rfl, rfl, rfl, rfl, rfl⟩
set_option maxRecDepth 100000 in
set_option maxHeartbeats 4000000 in
/-- letFlow -/
theorem p_letFlow (l : Launch) (G : zG) (ad : Nat → Nat) (σ : zσ) (x0 : zX) (hσ : zOk σ) : zSem l G sX5_letFlow [.ref (ad 0)] (wP G ad σ x0) (z0 (fun u : zX => zFlow σ (nI (σ.1 3)) (zMs σ) u ∧ zTaken σ u) (fun u => wP G ad σ u)) := by
  refine zEnterV (L := [some (.ref (ad 0))]) (by decide) rfl (Nat.le_of_ble_eq_true rfl) rfl ?_
  refine a_aload_0 (pc := 0) dX5_letFlow_0 ?_
  refine a_getf (ci := 5) (j := 4) rfl win_X5 (by decide) (pc := 1) dX5_letFlow_1 kf_X5_33 rfl rfl ?_
  refine a_aload_0 (pc := 4) dX5_letFlow_4 ?_
  refine a_getf (ci := 5) (j := 3) rfl win_X5 (by decide) (pc := 5) dX5_letFlow_5 kf_X5_26 rfl rfl ?_
  refine cV_0 (ad := ad) (q0 := 9) (S2 := sX0_take) (c_take l G (zpk ad [9, 10, 11, 12, 13, 14, 15, 16, 17, 6, 7, 8]) x0.2.2.1 x0.2.2.2.1 x0.2.2.2.2.1 x0.2.2.2.2.2.1 (zKd σ) (zFo σ) (fun k hk => zin4 (hσ.2.2.2.2.2.2.2.1 k hk))) kc_X0_take km_X5_182 ki_X0_take kv_X0_take kini_X0 ⟨kn_X0_take, by decide, by decide⟩ (pc := 8) dX5_letFlow_8 [9, 10, 11, 12, 13, 14, 15, 16, 17, 6, 7, 8] rfl rfl rfl rfl (Nat.le_of_ble_eq_true rfl) rfl rfl rfl (fun u => wP G ad σ (x0.1, x0.2.1, u.1, u.2, x0.2.2.2.2)) (fun _ => rfl) (fun u_ hu_ => ?_)
  refine a_aload_0 (pc := 11) dX5_letFlow_11 ?_
  refine a_getf (ci := 5) (j := 4) rfl win_X5 (by decide) (pc := 12) dX5_letFlow_12 kf_X5_33 rfl rfl ?_
  refine a_aload_0 (pc := 15) dX5_letFlow_15 ?_
  refine a_getf (ci := 5) (j := 1) rfl win_X5 (by decide) (pc := 16) dX5_letFlow_16 kf_X5_16 rfl rfl ?_
  refine a_aload_0 (pc := 19) dX5_letFlow_19 ?_
  refine a_getf (ci := 5) (j := 7) rfl win_X5 (by decide) (pc := 20) dX5_letFlow_20 kf_X5_51 rfl rfl ?_
  refine a_i2l (pc := 23) dX5_letFlow_23 ?_
  refine a_aload_0 (pc := 24) dX5_letFlow_24 ?_
  refine a_getf (ci := 5) (j := 8) rfl win_X5 (by decide) (pc := 25) dX5_letFlow_25 kf_X5_55 rfl rfl ?_
  refine a_i2l (pc := 28) dX5_letFlow_28 ?_
  refine a_aload_0 (pc := 29) dX5_letFlow_29 ?_
  refine a_getf (ci := 5) (j := 9) rfl win_X5 (by decide) (pc := 30) dX5_letFlow_30 kf_X5_58 rfl rfl ?_
  refine a_i2l (pc := 33) dX5_letFlow_33 ?_
  refine cV_0 (ad := ad) (q0 := 9) (S2 := sX0_run) (c_run l G (zpk ad [9, 10, 11, 12, 13, 14, 15, 16, 17, 2, 3]) u_.1 u_.2 x0.2.2.2.2.1 x0.2.2.2.2.2.1 (zVesf σ) (zMs σ) (σ.1 0) (fun s hs => zVin_N hσ.2.2.2.2.2.1 hs) hσ.1.2 (nI (σ.1 1)).toInt64 (nI (σ.1 2)).toInt64 (nI (σ.1 3)).toInt64) kc_X0_run km_X5_193 ki_X0_run kv_X0_run kini_X0 ⟨kn_X0_run, by decide, by decide⟩ (pc := 34) dX5_letFlow_34 [9, 10, 11, 12, 13, 14, 15, 16, 17, 2, 3] rfl rfl rfl rfl (Nat.le_of_ble_eq_true rfl) rfl rfl rfl (fun B_ => wP G ad σ (x0.1, x0.2.1, u_.1, u_.2, B_, (zJ5 x0.2.2.2.2.2.1 (zRn u_.1 u_.2 (zMs σ) (σ.1 0) (zS0p σ (nI (σ.1 3))) 3) ((nI (σ.1 1)).toInt64 - (zRn u_.1 u_.2 (zMs σ) (σ.1 0) (zS0p σ (nI (σ.1 3))) 3).1) ((nI (σ.1 1)).toInt64 * (nI (σ.1 2)).toInt64 - (zRn u_.1 u_.2 (zMs σ) (σ.1 0) (zS0p σ (nI (σ.1 3))) 3).2.1)), x0.2.2.2.2.2.2)) (fun _ => rfl) (fun B_ hB_ => ?_)
  exact a_vret (pc := 37) dX5_letFlow_37 rfl rfl ⟨(x0.1, x0.2.1, u_.1, u_.2, B_, (zJ5 x0.2.2.2.2.2.1 (zRn u_.1 u_.2 (zMs σ) (σ.1 0) (zS0p σ (nI (σ.1 3))) 3) ((nI (σ.1 1)).toInt64 - (zRn u_.1 u_.2 (zMs σ) (σ.1 0) (zS0p σ (nI (σ.1 3))) 3).1) ((nI (σ.1 1)).toInt64 * (nI (σ.1 2)).toInt64 - (zRn u_.1 u_.2 (zMs σ) (σ.1 0) (zS0p σ (nI (σ.1 3))) 3).2.1)), x0.2.2.2.2.2.2), ⟨zFlow_of (fun s hs => ((fun s hs => zVin_N hσ.2.2.2.2.2.1 hs) s hs).2) hσ.1.2 (fun k hk => ⟨hu_.1 k hk, hu_.2 k hk⟩) hB_ _ _ _ _, fun k hk => ⟨hu_.1 k hk, hu_.2 k hk⟩⟩, rfl, rfl⟩


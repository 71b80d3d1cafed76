/-! The model: plans. -/
def zCf (C : Nat → Option Nat) (t nd x : Nat) : Option Nat := if x < nd then none else C (min t (x - nd))
def zCm : Option Nat → Option Nat → Option Nat
  | none, b => b
  | some a, none => some a
  | some a, some b => if b < a then some b else some a
/-- the least cost for the last r hours, if there is a plan -/
def zC (pr nd : Nat → Nat) (t o : Nat) : Nat → Nat → Option Nat
  | 0, _ => some 0
  | r + 1, c => zCm (zCf (zC pr nd t o r) t (nd (11 - r)) c) ((zCf (zC pr nd t o r) t (nd (11 - r)) (c + o)).map (· + pr (11 - r)))
def zCi : Option Nat → Int32
  | none => -1
  | some n => nI n
/-- a plan's number: its cost above twelve bits -/
def zTie (r : Nat) (C : Option Nat) (N : Nat) : Prop := (C = none ∧ N = 1073741824) ∨ ∃ k b, C = some k ∧ N = k * 4096 + b ∧ b < 2 ^ r ∧ k ≤ 99 * r
theorem zTie_f {r : Nat} {C : Nat → Option Nat} {N : Nat → Nat} (h : ∀ c, zTie r (C c) (N c)) (t nd x : Nat) : zTie r (zCf C t nd x) (zIdl N t nd x) := by
  unfold zCf zIdl
  by_cases hx : x < nd
  · rw [if_pos hx, if_pos hx]; exact Or.inl ⟨rfl, rfl⟩
  · rw [if_neg hx, if_neg hx]; exact h _
/-- one hour: what is chosen, and its number -/
theorem zTie_1 {r : Nat} (hr : r < 12) {A B : Option Nat} {a b p : Nat} (hp : p ≤ 99) (hA : zTie r A a) (hB : zTie r B b) :
    (zCm A (B.map (· + p)) = none ∧ min 1073741824 (min a (b + (p * 4096 + 2 ^ r))) = 1073741824) ∨
    (A ≠ none ∧ zCm A (B.map (· + p)) = A ∧ min 1073741824 (min a (b + (p * 4096 + 2 ^ r))) = a) ∨
    (∃ k, zCm A (B.map (· + p)) = some (k + p) ∧ B = some k ∧ A ≠ some (k + p) ∧ min 1073741824 (min a (b + (p * 4096 + 2 ^ r))) = b + (p * 4096 + 2 ^ r)) := by
  have h2 : 2 ^ r ≤ 2048 := by
    have : 2 ^ r ≤ 2 ^ 11 := Nat.pow_le_pow_right (by decide) (by omega)
    exact this
  have h1 : 1 ≤ 2 ^ r := Nat.one_le_two_pow
  rcases hA with ⟨rfl, rfl⟩ | ⟨ka, ba, rfl, rfl, hba, hka⟩
  · rcases hB with ⟨rfl, rfl⟩ | ⟨kb, bb, rfl, rfl, hbb, hkb⟩
    · refine Or.inl ⟨rfl, ?_⟩
      omega
    · refine Or.inr (Or.inr ⟨kb, rfl, rfl, (fun h => by cases h), ?_⟩)
      omega
  · rcases hB with ⟨rfl, rfl⟩ | ⟨kb, bb, rfl, rfl, hbb, hkb⟩
    · refine Or.inr (Or.inl ⟨(fun h => by cases h), rfl, ?_⟩)
      omega
    · by_cases hlt : kb + p < ka
      · refine Or.inr (Or.inr ⟨kb, if_pos hlt, rfl, fun h => by have := Option.some.inj h; omega, ?_⟩)
        omega
      · refine Or.inr (Or.inl ⟨(fun h => by cases h), if_neg hlt, ?_⟩)
        omega
theorem zTie_s {pr nd : Nat → Nat} (hpr : ∀ h, h < 12 → pr h ≤ 99) (t o : Nat) : ∀ r, r ≤ 12 → ∀ c, zTie r (zC pr nd t o r c) (zN pr nd t o r c)
  | 0, _, _ => Or.inr ⟨0, 0, rfl, rfl, Nat.one_pos, Nat.le_refl _⟩
  | r + 1, h, c => by
    have ih := zTie_s (nd := nd) hpr t o r (by omega)
    have hA := zTie_f ih t (nd (11 - r)) c
    have hB := zTie_f ih t (nd (11 - r)) (c + o)
    have hp := hpr (11 - r) (by omega)
    have h2 : 2 ^ (r + 1) = 2 ^ r + 2 ^ r := by rw [Nat.pow_succ]; omega
    show zTie (r + 1) (zCm (zCf (zC pr nd t o r) t (nd (11 - r)) c) ((zCf (zC pr nd t o r) t (nd (11 - r)) (c + o)).map (· + pr (11 - r)))) (min 1073741824 (min (zIdl (zN pr nd t o r) t (nd (11 - r)) c) (zIdl (zN pr nd t o r) t (nd (11 - r)) (c + o) + (pr (11 - r) * 4096 + 2 ^ r))))
    rcases zTie_1 (by omega) hp hA hB with ⟨e1, e2⟩ | ⟨e0, e1, e2⟩ | ⟨k, e1, e0, -, e2⟩
    · rw [e1, e2]; exact Or.inl ⟨rfl, rfl⟩
    · rw [e1, e2]
      rcases hA with ⟨q1, -⟩ | ⟨k, b, q1, q2, q3, q4⟩
      · exact absurd q1 e0
      · exact Or.inr ⟨k, b, q1, q2, by omega, by omega⟩
    · rw [e1, e2]
      rcases hB with ⟨q1, -⟩ | ⟨k2, b, q1, q2, q3, q4⟩
      · rw [e0] at q1; cases q1
      · rw [e0] at q1
        obtain rfl := Option.some.inj q1
        exact Or.inr ⟨k + pr (11 - r), b + 2 ^ r, rfl, by rw [q2]; omega, by omega, by omega⟩
theorem zC_le {pr nd : Nat → Nat} (hpr : ∀ h, h < 12 → pr h ≤ 99) (t o : Nat) {r : Nat} (hr : r ≤ 12) {c n : Nat} (h : zC pr nd t o r c = some n) : n ≤ 1200 := by
  rcases zTie_s (nd := nd) hpr t o r hr c with ⟨q1, -⟩ | ⟨k, b, q1, q2, q3, q4⟩
  · rw [h] at q1; cases q1
  · rw [h] at q1
    obtain rfl := Option.some.inj q1
    omega
/-- the hour's choice, as the model sees it -/
theorem zC_step {pr nd : Nat → Nat} (hpr : ∀ h, h < 12 → pr h ≤ 99) (t o : Nat) {r : Nat} (hr : r < 12) {c : Nat} (hc : zC pr nd t o (r + 1) c ≠ none) :
    (zCf (zC pr nd t o r) t (nd (11 - r)) c = zC pr nd t o (r + 1) c ∧ nd (11 - r) ≤ c ∧ zC pr nd t o r (min t (c - nd (11 - r))) ≠ none ∧ zN pr nd t o (r + 1) c = zN pr nd t o r (min t (c - nd (11 - r)))) ∨
    (zCf (zC pr nd t o r) t (nd (11 - r)) c ≠ zC pr nd t o (r + 1) c ∧ nd (11 - r) ≤ c + o ∧ zC pr nd t o r (min t (c + o - nd (11 - r))) ≠ none ∧ zN pr nd t o (r + 1) c = zN pr nd t o r (min t (c + o - nd (11 - r))) + (pr (11 - r) * 4096 + 2 ^ r)) := by
  have ih := zTie_s (nd := nd) hpr t o r (by omega)
  have hA := zTie_f ih t (nd (11 - r)) c
  have hB := zTie_f ih t (nd (11 - r)) (c + o)
  have hp := hpr (11 - r) (by omega)
  have eC : zC pr nd t o (r + 1) c = zCm (zCf (zC pr nd t o r) t (nd (11 - r)) c) ((zCf (zC pr nd t o r) t (nd (11 - r)) (c + o)).map (· + pr (11 - r))) := rfl
  have eN : zN pr nd t o (r + 1) c = min 1073741824 (min (zIdl (zN pr nd t o r) t (nd (11 - r)) c) (zIdl (zN pr nd t o r) t (nd (11 - r)) (c + o) + (pr (11 - r) * 4096 + 2 ^ r))) := rfl
  rcases zTie_1 hr hp hA hB with ⟨e1, e2⟩ | ⟨e0, e1, e2⟩ | ⟨k, e1, e0, e3, e2⟩
  · rw [eC] at hc; exact absurd e1 hc
  · refine Or.inl ?_
    rw [eC, eN, e1, e2]
    have hx : ¬ c < nd (11 - r) := fun q => e0 (if_pos q)
    have f1 : zCf (zC pr nd t o r) t (nd (11 - r)) c = zC pr nd t o r (min t (c - nd (11 - r))) := if_neg hx
    have f2 : zIdl (zN pr nd t o r) t (nd (11 - r)) c = zN pr nd t o r (min t (c - nd (11 - r))) := if_neg hx
    exact ⟨rfl, by omega, by rw [← f1]; exact e0, f2⟩
  · refine Or.inr ?_
    rw [eC, eN, e1, e2]
    have hx : ¬ c + o < nd (11 - r) := fun q => by
      have : zCf (zC pr nd t o r) t (nd (11 - r)) (c + o) = none := if_pos q
      rw [this] at e0; cases e0
    have f1 : zCf (zC pr nd t o r) t (nd (11 - r)) (c + o) = zC pr nd t o r (min t (c + o - nd (11 - r))) := if_neg hx
    have f2 : zIdl (zN pr nd t o r) t (nd (11 - r)) (c + o) = zN pr nd t o r (min t (c + o - nd (11 - r))) := if_neg hx
    exact ⟨e3, by omega, by rw [← f1, e0]; exact (fun h => by cases h), by rw [f2]⟩
theorem zbit {r X k b e : Nat} (hr : r < 12) (hb : b < 2 ^ r) (he : e = 0 ∨ e = 1) (h : X % 2 ^ (r + 1) = (k * 4096 + b + e * 2 ^ r) % 2 ^ (r + 1)) : X / 2 ^ r % 2 = e ∧ X % 2 ^ r = b := by
  rcases (show r = 0 ∨ r = 1 ∨ r = 2 ∨ r = 3 ∨ r = 4 ∨ r = 5 ∨ r = 6 ∨ r = 7 ∨ r = 8 ∨ r = 9 ∨ r = 10 ∨ r = 11 by omega) with rfl | rfl | rfl | rfl | rfl | rfl | rfl | rfl | rfl | rfl | rfl | rfl <;>
  · simp only [Nat.reduceAdd, Nat.reducePow] at *
    rcases he with rfl | rfl <;> omega
theorem zRunsAt_N {X : Nat} (hX : X < 2 ^ 31) : ∀ h, h < 12 → (zRunsAt (nI X) (nI h) ↔ X / 2 ^ (11 - h) % 2 = 1) := by
  intro h hh
  have hk : ((((11 : Int32) - nI h) &&& 31).toBitVec.smod 32).toNat = 11 - h := by
    revert h
    decide +kernel
  unfold zRunsAt
  have hd : X / 2 ^ (11 - h) < 2 ^ 31 := Nat.lt_of_le_of_lt (Nat.div_le_self _ _) hX
  rw [pk_shrN hX _ (11 - h) hk, pk_andN (by omega) 1 (by decide +kernel), show (1 : Int32) = nI 1 from rfl, zI_eq (by omega) (by decide)]
theorem zcost_N {X : Nat} (hX : X < 2 ^ 31) : nI X >>> ((12 : Int32) &&& 31) = nI (X / 4096) := pk_shrN hX _ 12 (by decide +kernel)
abbrev zCσ (σ : zσ) : Nat → Nat → Option Nat := zC (σ.2.1 4) (σ.2.1 5) (σ.2.1 3 5) (σ.2.1 3 6)
theorem zT5_le {σ : zσ} (hσ : zOk σ) : σ.2.1 3 5 ≤ 200 := (hσ.2.2.2.2.2.2.2.2.2.1 5 (by decide)).2
theorem zO6_le {σ : zσ} (hσ : zOk σ) : σ.2.1 3 6 ≤ 200 := (hσ.2.2.2.2.2.2.2.2.2.1 6 (by decide)).2
def zBe (σ : zσ) (h x : Nat) : Int32 := if x < σ.2.1 5 h then -1 else nI (min (σ.2.1 3 5) (x - σ.2.1 5 h))
set_option maxRecDepth 100000 in
set_option maxHeartbeats 4000000 in
/-- behind -/
theorem m_behind (l : Launch) (G : zG) (ad : Nat → Nat) (σ : zσ) (hσ : zOk σ) (x0 : zY) (h c x : Nat) (y : Int32) (hh : h < 12) (hc : c ≤ 200) (hy : (y = 0 ∧ x = c) ∨ (¬ y = 0 ∧ x = c + σ.2.1 3 6)) : zSem l G sX6_behind [.ref (ad 0), .int (nI h), .int (nI c), .int y] (wM G ad σ x0) (zP (.int (zBe σ h x)) (wM G ad σ x0)) := by
  refine zEnterV (L := [some (.ref (ad 0)), some (.int (nI h)), some (.int (nI c)), some (.int y), none]) (by decide) rfl (Nat.le_of_ble_eq_true rfl) rfl ?_
  have h5_ := zT5_le hσ
  have h6_ := zO6_le hσ
  have hn_ := hσ.2.2.2.2.2.2.2.2.2.2.2.1 h hh
  have hx_ : x ≤ 400 := by omega
  have k0_ : (0:Int32).toInt = 0 := by decide
  have e1_ : (nI x - nI (σ.2.1 5 h)).toInt = (x : Int) - σ.2.1 5 h := by
    rw [i_sub (by rw [nI_toInt (by omega), nI_toInt (by omega)]; omega) (by rw [nI_toInt (by omega), nI_toInt (by omega)]; omega), nI_toInt (by omega), nI_toInt (by omega)]
  refine a_iload_2 (pc := 0) dX6_behind_0 ?_
  have J16_ : ∀ z_ : Int32, nI c + z_ = nI x → AV l G sX6_behind (wM G ad σ x0) (zP (.int (zBe σ h x)) (wM G ad σ x0)) 16 [some (.ref (ad 0)), some (.int (nI h)), some (.int (nI c)), some (.int y), none] [.int z_, .int (nI c)] (wM G ad σ x0) := by
    intro z_ hz_
    refine a_iadd (pc := 16) dX6_behind_16 ?_
    rw [hz_]
    refine a_aload_0 (pc := 17) dX6_behind_17 ?_
    refine a_getf (ci := 6) (j := 10) rfl win_X6 (by decide) (pc := 18) dX6_behind_18 kf_X6_38 rfl rfl ?_
    refine a_iload_1 (pc := 21) dX6_behind_21 ?_
    refine a_ialdN (pc := 22) dX6_behind_22 rfl (by omega) (by decide) ?_
    refine a_isub (pc := 23) dX6_behind_23 ?_
    refine a_istore_4 (pc := 24) dX6_behind_24 rfl (by decide) ?_
    refine a_iload_4 (pc := 26) dX6_behind_26 ?_
    refine a_if_ge (tgt := 35) (pc := 28) dX6_behind_28 (by decide) (fun c_28 => ?_) (fun c_28 => ?_)
    · have g28_ : ¬ x < σ.2.1 5 h := fun q => by have := Int32.le_iff_toInt_le.mp c_28; rw [e1_, k0_] at this; omega
      have e2_ : nI x - nI (σ.2.1 5 h) = nI (x - σ.2.1 5 h) := i_nI (by rw [e1_]; omega)
      refine a_iload_4 (pc := 35) dX6_behind_35 ?_
      refine a_aload_0 (pc := 37) dX6_behind_37 ?_
      refine a_getf (ci := 6) (j := 7) rfl win_X6 (by decide) (pc := 38) dX6_behind_38 kf_X6_32 rfl rfl ?_
      refine a_iconst (v := 5) (pc := 41) dX6_behind_41 (by decide) ?_
      refine a_ialdN (k := 5) (pc := 42) dX6_behind_42 rfl (by omega) (by decide) ?_
      refine a_icmp_le (tgt := 55) (pc := 43) dX6_behind_43 (by decide) (fun c_43 => ?_) (fun c_43 => ?_)
      · rw [e2_] at c_43
        have g43_ := (zI_le (by omega) (by omega)).mp c_43
        have v_ : nI x - nI (σ.2.1 5 h) = zBe σ h x := by unfold zBe; rw [if_neg g28_, e2_, show min (σ.2.1 3 5) (x - σ.2.1 5 h) = x - σ.2.1 5 h by omega]
        refine a_iload_4 (pc := 55) dX6_behind_55 ?_
        exact a_iret (pc := 57) dX6_behind_57 rfl rfl (by first | exact ⟨congrArg (fun z => some (Value.int z)) (if_pos g28_).symm, rfl⟩ | exact ⟨congrArg (fun z => some (Value.int z)) v_, rfl⟩)
      · rw [e2_] at c_43
        have g43_ := mt (zI_le (a := x - σ.2.1 5 h) (b := σ.2.1 3 5) (by omega) (by omega)).mpr c_43
        have v_ : nI (σ.2.1 3 5) = zBe σ h x := by unfold zBe; rw [if_neg g28_, show min (σ.2.1 3 5) (x - σ.2.1 5 h) = σ.2.1 3 5 by omega]
        refine a_aload_0 (pc := 46) dX6_behind_46 ?_
        refine a_getf (ci := 6) (j := 7) rfl win_X6 (by decide) (pc := 47) dX6_behind_47 kf_X6_32 rfl rfl ?_
        refine a_iconst (v := 5) (pc := 50) dX6_behind_50 (by decide) ?_
        refine a_ialdN (k := 5) (pc := 51) dX6_behind_51 rfl (by omega) (by decide) ?_
        refine a_goto (tgt := 57) (pc := 52) dX6_behind_52 (by decide) ?_
        exact a_iret (pc := 57) dX6_behind_57 rfl rfl (by first | exact ⟨congrArg (fun z => some (Value.int z)) (if_pos g28_).symm, rfl⟩ | exact ⟨congrArg (fun z => some (Value.int z)) v_, rfl⟩)
    · have g28_ : x < σ.2.1 5 h := by have := mt Int32.le_iff_toInt_le.mpr c_28; rw [e1_, k0_] at this; omega
      refine a_iconst (v := -1) (pc := 31) dX6_behind_31 (by decide) ?_
      refine a_goto (tgt := 57) (pc := 32) dX6_behind_32 (by decide) ?_
      exact a_iret (pc := 57) dX6_behind_57 rfl rfl (by first | exact ⟨congrArg (fun z => some (Value.int z)) (if_pos g28_).symm, rfl⟩ | exact ⟨congrArg (fun z => some (Value.int z)) v_, rfl⟩)
  refine a_iload_3 (pc := 1) dX6_behind_1 ?_
  first | refine a_if_eqB (tgt := 15) (pc := 2) dX6_behind_2 (by decide) (fun c_2 => ?_) (fun c_2 => ?_) | refine a_if_eq (tgt := 15) (pc := 2) dX6_behind_2 (by decide) (fun c_2 => ?_) (fun c_2 => ?_)
  · have e16_ : nI c + 0 = nI x := by
      rcases hy with ⟨-, e⟩ | ⟨e, -⟩
      · rw [e, show (0 : Int32) = nI 0 from rfl, ← zI_add, Nat.add_zero]
      · exact absurd c_2 e
    refine a_iconst (v := 0) (pc := 15) dX6_behind_15 (by decide) ?_
    exact J16_ _ e16_
  · have e16_ : nI c + nI (σ.2.1 3 6) = nI x := by
      rcases hy with ⟨e, -⟩ | ⟨-, e⟩
      · exact absurd e c_2
      · rw [e, zI_add]
    refine a_aload_0 (pc := 5) dX6_behind_5 ?_
    refine a_getf (ci := 6) (j := 7) rfl win_X6 (by decide) (pc := 6) dX6_behind_6 kf_X6_32 rfl rfl ?_
    refine a_bipush (v := 6) (pc := 9) dX6_behind_9 (by decide) ?_
    refine a_ialdN (k := 6) (pc := 11) dX6_behind_11 rfl (by omega) (by decide) ?_
    refine a_goto (tgt := 16) (pc := 12) dX6_behind_12 (by decide) ?_
    exact J16_ _ e16_

set_option maxRecDepth 100000 in
set_option maxHeartbeats 4000000 in
/-- costFrom -/
theorem m_costFrom (l : Launch) (G : zG) (ad : Nat → Nat) (σ : zσ) (hσ : zOk σ) (x0 : zY) (h r c x e : Nat) (y : Int32) (hh : h < 12) (hr : r = 11 - h) (hc : c ≤ 200) (hy : (y = 0 ∧ x = c ∧ e = 0) ∨ (¬ y = 0 ∧ x = c + σ.2.1 3 6 ∧ e = σ.2.1 4 h)) (hK : ∀ z, z ≤ σ.2.1 3 5 → x0.2.2.2.2.1 (201 * (h + 1) + z) = zCi (zCσ σ r z)) : zSem l G sX6_costFrom [.ref (ad 0), .int (nI h), .int (nI c), .int y] (wM G ad σ x0) (zP (.int (zCi ((zCf (zCσ σ r) (σ.2.1 3 5) (σ.2.1 5 h) x).map (· + e)))) (wM G ad σ x0)) := by
  refine zEnterV (L := [some (.ref (ad 0)), some (.int (nI h)), some (.int (nI c)), some (.int y), none]) (by decide) rfl (Nat.le_of_ble_eq_true rfl) rfl ?_
  have h5_ := zT5_le hσ
  refine a_aload_0 (pc := 0) dX6_costFrom_0 ?_
  refine a_iload_1 (pc := 1) dX6_costFrom_1 ?_
  refine a_iload_2 (pc := 2) dX6_costFrom_2 ?_
  refine a_iload_3 (pc := 3) dX6_costFrom_3 ?_
  refine f_P (ad := ad) (q0 := 0) (S2 := sX6_behind) (m_behind l G ad σ hσ x0 h c x y hh hc (by rcases hy with ⟨a, b, _⟩ | ⟨a, b, _⟩; exact Or.inl ⟨a, b⟩; exact Or.inr ⟨a, b⟩)) kc_X6_behind km_X6_177 ki_X6_behind kv_X6_behind kini_X6 ⟨kn_X6_behind, by decide, by decide⟩ (pc := 4) dX6_costFrom_4 (znd_of rfl znd18) rfl rfl (Nat.le_of_ble_eq_true rfl) rfl rfl rfl ?_
  refine a_istore_4 (pc := 7) dX6_costFrom_7 rfl (by decide) ?_
  refine a_iload_4 (pc := 9) dX6_costFrom_9 ?_
  rcases (show x < σ.2.1 5 h ∨ ¬ x < σ.2.1 5 h from Classical.em _) with hx_ | hx_
  · refine a_topI (show zBe σ h x = -1 from if_pos hx_) ?_
    have v_ : (-1 : Int32) = zCi ((zCf (zCσ σ r) (σ.2.1 3 5) (σ.2.1 5 h) x).map (· + e)) := by unfold zCf; rw [if_pos hx_]; rfl
    refine a_if_lt (tgt := 32) (pc := 11) dX6_costFrom_11 (by decide) (fun _ => ?_) (fun c_ => absurd (show (-1 : Int32) < 0 by decide) c_)
    refine a_iconst (v := -1) (pc := 32) dX6_costFrom_32 (by decide) ?_
    exact a_iret (pc := 33) dX6_costFrom_33 rfl rfl ⟨congrArg (fun z => some (Value.int z)) v_, rfl⟩
  · have eb_ : zBe σ h x = nI (min (σ.2.1 3 5) (x - σ.2.1 5 h)) := if_neg hx_
    have ef_ : zCf (zCσ σ r) (σ.2.1 3 5) (σ.2.1 5 h) x = zCσ σ r (min (σ.2.1 3 5) (x - σ.2.1 5 h)) := if_neg hx_
    rw [eb_]
    refine a_if_lt (tgt := 32) (pc := 11) dX6_costFrom_11 (by decide) (fun c_ => absurd c_ (nI_pos (by omega))) (fun _ => ?_)
    refine a_aload_0 (pc := 14) dX6_costFrom_14 ?_
    refine a_getf (ci := 6) (j := 24) rfl win_X6 (by decide) (pc := 15) dX6_costFrom_15 kf_X6_66 rfl rfl ?_
    refine a_sipush (v := 201) (pc := 18) dX6_costFrom_18 (by decide) ?_
    refine a_iload_1 (pc := 21) dX6_costFrom_21 ?_
    refine a_iconst (v := 1) (pc := 22) dX6_costFrom_22 (by decide) ?_
    refine a_iadd (pc := 23) dX6_costFrom_23 ?_
    refine a_imul (pc := 24) dX6_costFrom_24 ?_
    refine a_iload_4 (pc := 25) dX6_costFrom_25 ?_
    refine a_iadd (pc := 27) dX6_costFrom_27 ?_
    rw [show (201 : Int32) = nI 201 from rfl, show (1 : Int32) = nI 1 from rfl, ← zI_add, ← zI_mul, ← zI_add]
    refine a_ialdN (pc := 28) dX6_costFrom_28 rfl (show 201 * (h + 1) + (min (σ.2.1 3 5) (x - σ.2.1 5 h)) < 2613 by omega) (by decide) ?_
    refine a_topI (hK (min (σ.2.1 3 5) (x - σ.2.1 5 h)) (by omega)) ?_
    rcases hv_ : zCσ σ r (min (σ.2.1 3 5) (x - σ.2.1 5 h)) with _ | n_
    · have v_ : (-1 : Int32) = zCi ((zCf (zCσ σ r) (σ.2.1 3 5) (σ.2.1 5 h) x).map (· + e)) := by rw [ef_, hv_]; rfl
      refine a_if_ge (tgt := 34) (pc := 29) dX6_costFrom_29 (by decide) (fun c_ => absurd c_ (show ¬ (0 : Int32) ≤ -1 by decide)) (fun _ => ?_)
      refine a_iconst (v := -1) (pc := 32) dX6_costFrom_32 (by decide) ?_
      exact a_iret (pc := 33) dX6_costFrom_33 rfl rfl ⟨congrArg (fun z => some (Value.int z)) v_, rfl⟩
    · have hn_ := zC_le hσ.2.2.2.2.2.2.2.2.2.2.1 (σ.2.1 3 5) (σ.2.1 3 6) (show r ≤ 12 by omega) hv_
      refine a_if_ge (tgt := 34) (pc := 29) dX6_costFrom_29 (by decide) (fun _ => ?_) (fun c_ => absurd ((zI_le (a := 0) (b := n_) (by decide) (by omega)).mpr (by omega)) c_)
      refine a_aload_0 (pc := 34) dX6_costFrom_34 ?_
      refine a_getf (ci := 6) (j := 24) rfl win_X6 (by decide) (pc := 35) dX6_costFrom_35 kf_X6_66 rfl rfl ?_
      refine a_sipush (v := 201) (pc := 38) dX6_costFrom_38 (by decide) ?_
      refine a_iload_1 (pc := 41) dX6_costFrom_41 ?_
      refine a_iconst (v := 1) (pc := 42) dX6_costFrom_42 (by decide) ?_
      refine a_iadd (pc := 43) dX6_costFrom_43 ?_
      refine a_imul (pc := 44) dX6_costFrom_44 ?_
      refine a_iload_4 (pc := 45) dX6_costFrom_45 ?_
      refine a_iadd (pc := 47) dX6_costFrom_47 ?_
      rw [show (201 : Int32) = nI 201 from rfl, show (1 : Int32) = nI 1 from rfl, ← zI_add, ← zI_mul, ← zI_add]
      refine a_ialdN (pc := 48) dX6_costFrom_48 rfl (show 201 * (h + 1) + (min (σ.2.1 3 5) (x - σ.2.1 5 h)) < 2613 by omega) (by decide) ?_
      refine a_topI ((hK (min (σ.2.1 3 5) (x - σ.2.1 5 h)) (by omega)).trans (congrArg zCi hv_)) ?_
      refine a_iload_3 (pc := 49) dX6_costFrom_49 ?_
      first | refine a_if_eqB (tgt := 62) (pc := 50) dX6_costFrom_50 (by decide) (fun c_50 => ?_) (fun c_50 => ?_) | refine a_if_eq (tgt := 62) (pc := 50) dX6_costFrom_50 (by decide) (fun c_50 => ?_) (fun c_50 => ?_)
      · have v_ : nI n_ + 0 = zCi ((zCf (zCσ σ r) (σ.2.1 3 5) (σ.2.1 5 h) x).map (· + e)) := by
          rcases hy with ⟨-, -, e0_⟩ | ⟨e0_, -⟩
          · rw [ef_, hv_, e0_, show (0 : Int32) = nI 0 from rfl, ← zI_add]; rfl
          · exact absurd c_50 e0_
        refine a_iconst (v := 0) (pc := 62) dX6_costFrom_62 (by decide) ?_
        refine a_iadd (pc := 63) dX6_costFrom_63 ?_
        exact a_iret (pc := 64) dX6_costFrom_64 rfl rfl ⟨congrArg (fun z => some (Value.int z)) v_, rfl⟩
      · have v_ : nI n_ + nI (σ.2.1 4 h) = zCi ((zCf (zCσ σ r) (σ.2.1 3 5) (σ.2.1 5 h) x).map (· + e)) := by
          rcases hy with ⟨e0_, -⟩ | ⟨-, -, e0_⟩
          · exact absurd e0_ c_50
          · rw [ef_, hv_, e0_, ← zI_add]; rfl
        refine a_aload_0 (pc := 53) dX6_costFrom_53 ?_
        refine a_getf (ci := 6) (j := 9) rfl win_X6 (by decide) (pc := 54) dX6_costFrom_54 kf_X6_35 rfl rfl ?_
        refine a_iload_1 (pc := 57) dX6_costFrom_57 ?_
        refine a_ialdN (pc := 58) dX6_costFrom_58 rfl (by omega) (by decide) ?_
        refine a_goto (tgt := 63) (pc := 59) dX6_costFrom_59 (by decide) ?_
        refine a_iadd (pc := 63) dX6_costFrom_63 ?_
        exact a_iret (pc := 64) dX6_costFrom_64 rfl rfl ⟨congrArg (fun z => some (Value.int z)) v_, rfl⟩


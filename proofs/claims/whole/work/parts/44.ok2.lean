/-! Every call keeps the bounds: sheets. -/
theorem zShort_v (v : Int32) : zShort v = v.toInt16.toInt32 := by
  show v.toInt16.toInt32.toInt16.toInt32 = _
  rw [Int16.toInt16_toInt32]
theorem zOk_sheet {σ : zσ} (hσ : zOk σ) (s n : Int32) : zOk (o_sheet σ s n).2 := by
  by_cases h : zOR s 0 1 ∨ ¬ n ≤ 24
  · unfold o_sheet; rw [if_pos h]; exact hσ
  · by_cases h2 : ¬ 0 ≤ n
    · unfold o_sheet; rw [if_neg h, if_pos h2]; exact hσ
    · unfold o_sheet; rw [if_neg h, if_neg h2]
      obtain ⟨k, hk, rfl⟩ : ∃ k, k ≤ 24 ∧ n = nI k := by
        refine zrange (n := 24) (by decide) rfl (fun q => q.elim (fun q => h2 (fun z => ?_)) (fun q => h (Or.inr (fun z => ?_))))
        · rw [Int32.lt_iff_toInt_lt] at q; rw [Int32.le_iff_toInt_le] at z; omega
        · have q2 := Int32.lt_iff_toInt_lt.mp q
          have z2 := Int32.le_iff_toInt_le.mp z
          have e : (nI 24).toInt = (24 : Int32).toInt := rfl
          omega
      obtain ⟨a1, a2, a3, a4, a5, a6, a7, a8, a9, a10, a11, a12, a13, a14⟩ := hσ
      refine ⟨a1, a2, a3, a4, a5, a6, a7, a8, a9, a10, a11, a12, fun j hj => ?_, fun j hj i hi => ?_⟩
      · show zuZ σ.2.2.1 _ (nI k) j = -1 ∨ ∃ n, n ≤ 24 ∧ zuZ σ.2.2.1 _ (nI k) j = nI n
        unfold zuZ
        split
        · exact Or.inr ⟨k, hk, rfl⟩
        · exact a13 j hj
      · show fits .short (.int (zuC σ.2.2.2 _ _ j i)) = true
        unfold zuC
        split
        · unfold zfill
          rw [if_pos hi]; rfl
        · exact a14 j hj i hi
theorem zOk_mark {σ : zσ} (hσ : zOk σ) (s p v : Int32) : zOk (o_mark σ s p v).2 := by
  by_cases h : zOR s 0 1
  · unfold o_mark; rw [if_pos h]; exact hσ
  · by_cases h2 : σ.2.2.1 s.toNatClampNeg = -1
    · unfold o_mark; rw [if_neg h, if_pos h2]; exact hσ
    · by_cases h3 : ¬ (¬ p < 0 ∧ ¬ σ.2.2.1 s.toNatClampNeg ≤ p)
      · unfold o_mark; rw [if_neg h, if_neg h2, if_pos h3]; exact hσ
      · unfold o_mark; rw [if_neg h, if_neg h2, if_neg h3]
        obtain ⟨a1, a2, a3, a4, a5, a6, a7, a8, a9, a10, a11, a12, a13, a14⟩ := hσ
        refine ⟨a1, a2, a3, a4, a5, a6, a7, a8, a9, a10, a11, a12, a13, fun j hj i hi => ?_⟩
        show fits .short (.int (zuC σ.2.2.2 _ (upd (σ.2.2.2 _) _ _) j i)) = true
        unfold zuC
        split
        · rename_i e
          subst e
          unfold upd
          split
          · rw [zShort_v]; exact pk_fs v
          · exact a14 _ hj i hi
        · exact a14 j hj i hi
theorem zOk_copy {σ : zσ} (hσ : zOk σ) (f p t a m : Int32) : zOk (o_copy σ f p t a m).2 := by
  by_cases h : zOR f 0 1 ∨ zOR t 0 1
  · unfold o_copy; rw [if_pos h]; exact hσ
  · by_cases h2 : σ.2.2.1 f.toNatClampNeg = -1 ∨ σ.2.2.1 t.toNatClampNeg = -1
    · unfold o_copy; rw [if_neg h, if_pos h2]; exact hσ
    · by_cases h3 : ¬ zHR (σ.2.2.1 f.toNatClampNeg) p m ∨ ¬ zHR (σ.2.2.1 t.toNatClampNeg) a m
      · unfold o_copy; rw [if_neg h, if_neg h2, if_pos h3]; exact hσ
      · unfold o_copy; rw [if_neg h, if_neg h2, if_neg h3]
        have hf : f.toNatClampNeg < 2 := by
          rcases zrange2 (fun q => h (Or.inl q)) with rfl | rfl <;> decide
        have h4 : zHR (σ.2.2.1 f.toNatClampNeg) p m := Decidable.byContradiction fun q => h3 (Or.inl q)
        have h5 := zHR_le hσ hf h4
        obtain ⟨a1, a2, a3, a4, a5, a6, a7, a8, a9, a10, a11, a12, a13, a14⟩ := hσ
        refine ⟨a1, a2, a3, a4, a5, a6, a7, a8, a9, a10, a11, a12, a13, fun j hj i hi => ?_⟩
        show fits .short (.int (zuC σ.2.2.2 _ (va_cpy (σ.2.2.2 _) (σ.2.2.2 _) _ _ _) j i)) = true
        unfold zuC
        split
        · rename_i e
          subst e
          unfold va_cpy
          split
          · exact a14 _ hf _ (by omega)
          · exact a14 _ hj i hi
        · exact a14 j hj i hi

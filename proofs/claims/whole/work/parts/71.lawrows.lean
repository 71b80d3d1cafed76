/-! The law: rows of its walk, over the two worlds side by side. -/
theorem km_L_9 : Cond.methodLink R_law 9 yX5_init ∈ zT := zmem 39 (by decide +kernel) (by decide +kernel)
theorem km_L_13 : Cond.methodLink R_law 13 yX5_stage ∈ zT := zmem 205 (by decide +kernel) (by decide +kernel)
theorem km_L_18 : Cond.methodLink R_law 18 yX5_length ∈ zT := zmem 213 (by decide +kernel) (by decide +kernel)
theorem km_L_23 : Cond.methodLink R_law 23 yX5_fresh ∈ zT := zmem 217 (by decide +kernel) (by decide +kernel)
theorem km_L_27 : Cond.methodLink R_law 27 yX5_told ∈ zT := zmem 228 (by decide +kernel) (by decide +kernel)
theorem km_L_31 : Cond.methodLink R_law 31 yX5_isOf ∈ zT := zmem 244 (by decide +kernel) (by decide +kernel)
theorem km_L_35 : Cond.methodLink R_law 35 yX5_feed ∈ zT := zmem 254 (by decide +kernel) (by decide +kernel)
theorem km_L_40 : Cond.methodLink R_law 40 yX5_change ∈ zT := zmem 259 (by decide +kernel) (by decide +kernel)
theorem km_L_44 : Cond.methodLink R_law 44 yX5_flow ∈ zT := zmem 267 (by decide +kernel) (by decide +kernel)
theorem km_L_48 : Cond.methodLink R_law 48 yX5_sweet ∈ zT := zmem 315 (by decide +kernel) (by decide +kernel)
theorem km_L_52 : Cond.methodLink R_law 52 yX5_brine ∈ zT := zmem 320 (by decide +kernel) (by decide +kernel)
theorem km_L_56 : Cond.methodLink R_law 56 yX5_power ∈ zT := zmem 324 (by decide +kernel) (by decide +kernel)
theorem km_L_61 : Cond.methodLink R_law 61 yX5_failure ∈ zT := zmem 333 (by decide +kernel) (by decide +kernel)
theorem km_L_65 : Cond.methodLink R_law 65 yX5_rule ∈ zT := zmem 347 (by decide +kernel) (by decide +kernel)
theorem km_L_69 : Cond.methodLink R_law 69 yX5_days ∈ zT := zmem 355 (by decide +kernel) (by decide +kernel)
theorem km_L_73 : Cond.methodLink R_law 73 yX5_foul ∈ zT := zmem 376 (by decide +kernel) (by decide +kernel)
theorem km_L_77 : Cond.methodLink R_law 77 yX5_swap ∈ zT := zmem 381 (by decide +kernel) (by decide +kernel)
theorem km_L_81 : Cond.methodLink R_law 81 yX5_array ∈ zT := zmem 403 (by decide +kernel) (by decide +kernel)
theorem km_L_85 : Cond.methodLink R_law 85 yX5_hour ∈ zT := zmem 421 (by decide +kernel) (by decide +kernel)
theorem km_L_89 : Cond.methodLink R_law 89 yX5_lay ∈ zT := zmem 432 (by decide +kernel) (by decide +kernel)
theorem km_L_93 : Cond.methodLink R_law 93 yX5_plan ∈ zT := zmem 448 (by decide +kernel) (by decide +kernel)
theorem km_L_97 : Cond.methodLink R_law 97 yX5_runs ∈ zT := zmem 478 (by decide +kernel) (by decide +kernel)
theorem km_L_101 : Cond.methodLink R_law 101 yX5_tank ∈ zT := zmem 488 (by decide +kernel) (by decide +kernel)
theorem km_L_105 : Cond.methodLink R_law 105 yX5_joint ∈ zT := zmem 494 (by decide +kernel) (by decide +kernel)
theorem km_L_109 : Cond.methodLink R_law 109 yX5_sheet ∈ zT := zmem 498 (by decide +kernel) (by decide +kernel)
theorem km_L_113 : Cond.methodLink R_law 113 yX5_mark ∈ zT := zmem 510 (by decide +kernel) (by decide +kernel)
theorem km_L_117 : Cond.methodLink R_law 117 yX5_copy ∈ zT := zmem 515 (by decide +kernel) (by decide +kernel)
theorem km_L_122 : Cond.methodLink R_law 122 yX5_count ∈ zT := zmem 524 (by decide +kernel) (by decide +kernel)
theorem km_L_12 : Cond.methodLink R_law 12 yX6_init ∈ zT := zmem 534 (by decide +kernel) (by decide +kernel)
theorem km_L_17 : Cond.methodLink R_law 17 yX6_stage ∈ zT := zmem 620 (by decide +kernel) (by decide +kernel)
theorem km_L_22 : Cond.methodLink R_law 22 yX6_length ∈ zT := zmem 628 (by decide +kernel) (by decide +kernel)
theorem km_L_26 : Cond.methodLink R_law 26 yX6_fresh ∈ zT := zmem 632 (by decide +kernel) (by decide +kernel)
theorem km_L_30 : Cond.methodLink R_law 30 yX6_told ∈ zT := zmem 639 (by decide +kernel) (by decide +kernel)
theorem km_L_34 : Cond.methodLink R_law 34 yX6_isOf ∈ zT := zmem 651 (by decide +kernel) (by decide +kernel)
theorem km_L_39 : Cond.methodLink R_law 39 yX6_feed ∈ zT := zmem 655 (by decide +kernel) (by decide +kernel)
theorem km_L_43 : Cond.methodLink R_law 43 yX6_change ∈ zT := zmem 660 (by decide +kernel) (by decide +kernel)
theorem km_L_47 : Cond.methodLink R_law 47 yX6_flow ∈ zT := zmem 668 (by decide +kernel) (by decide +kernel)
theorem km_L_51 : Cond.methodLink R_law 51 yX6_sweet ∈ zT := zmem 703 (by decide +kernel) (by decide +kernel)
theorem km_L_55 : Cond.methodLink R_law 55 yX6_brine ∈ zT := zmem 707 (by decide +kernel) (by decide +kernel)
theorem km_L_60 : Cond.methodLink R_law 60 yX6_power ∈ zT := zmem 711 (by decide +kernel) (by decide +kernel)
theorem km_L_64 : Cond.methodLink R_law 64 yX6_failure ∈ zT := zmem 719 (by decide +kernel) (by decide +kernel)
theorem km_L_68 : Cond.methodLink R_law 68 yX6_rule ∈ zT := zmem 731 (by decide +kernel) (by decide +kernel)
theorem km_L_72 : Cond.methodLink R_law 72 yX6_days ∈ zT := zmem 735 (by decide +kernel) (by decide +kernel)
theorem km_L_76 : Cond.methodLink R_law 76 yX6_foul ∈ zT := zmem 744 (by decide +kernel) (by decide +kernel)
theorem km_L_80 : Cond.methodLink R_law 80 yX6_swap ∈ zT := zmem 748 (by decide +kernel) (by decide +kernel)
theorem km_L_84 : Cond.methodLink R_law 84 yX6_array ∈ zT := zmem 752 (by decide +kernel) (by decide +kernel)
theorem km_L_88 : Cond.methodLink R_law 88 yX6_hour ∈ zT := zmem 758 (by decide +kernel) (by decide +kernel)
theorem km_L_92 : Cond.methodLink R_law 92 yX6_lay ∈ zT := zmem 762 (by decide +kernel) (by decide +kernel)
theorem km_L_96 : Cond.methodLink R_law 96 yX6_plan ∈ zT := zmem 771 (by decide +kernel) (by decide +kernel)
theorem km_L_100 : Cond.methodLink R_law 100 yX6_runs ∈ zT := zmem 791 (by decide +kernel) (by decide +kernel)
theorem km_L_104 : Cond.methodLink R_law 104 yX6_tank ∈ zT := zmem 799 (by decide +kernel) (by decide +kernel)
theorem km_L_108 : Cond.methodLink R_law 108 yX6_joint ∈ zT := zmem 803 (by decide +kernel) (by decide +kernel)
theorem km_L_112 : Cond.methodLink R_law 112 yX6_sheet ∈ zT := zmem 807 (by decide +kernel) (by decide +kernel)
theorem km_L_116 : Cond.methodLink R_law 116 yX6_mark ∈ zT := zmem 812 (by decide +kernel) (by decide +kernel)
theorem km_L_121 : Cond.methodLink R_law 121 yX6_copy ∈ zT := zmem 817 (by decide +kernel) (by decide +kernel)
theorem km_L_125 : Cond.methodLink R_law 125 yX6_count ∈ zT := zmem 821 (by decide +kernel) (by decide +kernel)
theorem kcl_L_7 : Cond.classLink R_law 7 RX5 ∈ zT := zmem 37 (by decide +kernel) (by decide +kernel)
theorem kcl_L_10 : Cond.classLink R_law 10 RX6 ∈ zT := zmem 532 (by decide +kernel) (by decide +kernel)
abbrev zAs (s : State) : Nat → Prop := fun q => s.heap.size ≤ q
def zLx (p : Program) (s : State) (m : MethodId) (meth : Method) (c : Code) (G : zG) (b N : Nat) (xs : Nat → Int32) : Prop := lw_At p s m meth c b N xs ∧ zAmb G (zAs s) s
def AL (l : Launch) (G : zG) (b N : Nat) (xs : Nat → Int32) (pc : Nat) (L : List (Option Value)) (st : List Value) (ws : va_W) : Prop :=
  ∀ (p : Program) (e : Env) (s : State) (m : MethodId) (below : List Frame) (meth : Method) (c : Code), zLx p s m meth c G b N xs →
  ∀ (H : Heap) (locs : List Loc) (ls : Array Slot), va_P G.1 vwCl ws H → va_D (zAs s) ws → va_S (zAs s) s.heap H locs → lv_has ls 4 (zL 0 L) →
    W p l e room_1 s m #[Value.ref b] below meth c H locs 46 4514 (lw_Z below #[Value.ref b] s) (F0 m pc ls st)
theorem zput_mid : ∀ (w1 pre ws suf : va_W), ws.length = w1.length → zput (pre ++ ws ++ suf) (List.range' pre.length w1.length) w1 = pre ++ w1 ++ suf := by
  intro w1
  induction w1 with
  | nil =>
    intro pre ws suf h
    have : ws = [] := List.length_eq_zero_iff.mp h
    subst this
    rfl
  | cons q w1 ih =>
    intro pre ws suf h
    cases ws with
    | nil => cases h
    | cons a ws =>
      have e1 : (pre ++ a :: ws ++ suf).set pre.length q = (pre ++ [q]) ++ ws ++ suf := by
        rw [List.append_assoc, List.set_append_right _ _ (Nat.le_refl _), Nat.sub_self, List.append_assoc, List.append_assoc]
        rfl
      show zput ((pre ++ a :: ws ++ suf).set pre.length q) (List.range' (pre.length + 1) w1.length) w1 = _
      rw [e1]
      have e2 := ih (pre ++ [q]) ws suf (Nat.succ.inj h)
      rw [List.length_append] at e2
      rw [show pre.length + 1 = pre.length + [q].length from rfl, e2, List.append_assoc, List.append_assoc, List.append_assoc]
      rfl
theorem zC_mid (pre ws suf : va_W) : (List.range' pre.length ws.length).map (fun i => (pre ++ ws ++ suf)[i]?) = ws.map some := by
  apply List.ext_getElem?
  intro k
  rw [List.getElem?_map, List.getElem?_map]
  by_cases h : k < ws.length
  · rw [List.getElem?_range' (by omega)]
    show some ((pre ++ ws ++ suf)[pre.length + 1 * k]?) = _
    rw [List.append_assoc, List.getElem?_append_right (by omega), Nat.one_mul, show pre.length + k - pre.length = k by omega, List.getElem?_append_left h, List.getElem?_eq_getElem h]
    rfl
  · rw [List.getElem?_eq_none (by rw [List.length_range']; omega), List.getElem?_eq_none (by omega)]; rfl
section ZLW
variable {l : Launch} {G : zG} {S2 : zS} {b N : Nat} {xs : Nat → Int32} {pc : Nat} {L : List (Option Value)} {st rest As : List Value} {ws wc2 : va_W} {post2 : Option Value → va_W → Prop}
theorem b_to {pc2 : Nat} {L2 : List (Option Value)} {st2 : List Value} {ws2 : va_W} (h : AL l G b N xs pc2 L2 st2 ws2) (h1 : pc2 = pc) (h2 : L2 = L) (h3 : st2 = st) (h4 : ws2 = ws) : AL l G b N xs pc L st ws := by
  subst h1 h2 h3 h4; exact h
theorem b_aload_n {k : Fin 4} {i : Nat} {x : Nat} (hi : L[i]? = some (some (.ref x))) (hd : decode code pc = .ok (.aload_n k, 1)) (hk : (k : Nat) = i) (kk : AL l G b N xs (pc + 1) L (.ref x :: st) ws) : AL l G b N xs pc L st ws := by
  intro p e s m below meth c C H locs ls hP hD hS hl
  exact lv_aload_n C.1.1 C.1.2.1 hd hk (zlk hl hi) (kk p e s m below meth c C H locs ls hP hD hS hl)
theorem b_iload_n {k : Fin 4} {i : Nat} {x : Int32} (hi : L[i]? = some (some (.int x))) (hd : decode code pc = .ok (.iload_n k, 1)) (hk : (k : Nat) = i) (kk : AL l G b N xs (pc + 1) L (.int x :: st) ws) : AL l G b N xs pc L st ws := by
  intro p e s m below meth c C H locs ls hP hD hS hl
  exact lv_iload_n C.1.1 C.1.2.1 hd hk (zlk hl hi) (kk p e s m below meth c C H locs ls hP hD hS hl)
theorem b_iconst {x : Int} {v : Int32} (hd : decode code pc = .ok (.iconst x, 1)) (hv : Int32.ofInt x = v) (kk : AL l G b N xs (pc + 1) L (.int v :: st) ws) : AL l G b N xs pc L st ws := by
  intro p e s m below meth c C H locs ls hP hD hS hl
  exact lv_iconst C.1.1 C.1.2.1 hd hv (kk p e s m below meth c C H locs ls hP hD hS hl)
theorem b_bipush {x : Int} {v : Int32} (hd : decode code pc = .ok (.bipush x, 2)) (hv : (Int8.ofInt x).toInt32 = v) (kk : AL l G b N xs (pc + 2) L (.int v :: st) ws) : AL l G b N xs pc L st ws := by
  intro p e s m below meth c C H locs ls hP hD hS hl
  exact lv_bipush C.1.1 C.1.2.1 hd hv (kk p e s m below meth c C H locs ls hP hD hS hl)
theorem b_isub {x y : Int32} (hd : decode code pc = .ok (.isub, 1)) (kk : AL l G b N xs (pc + 1) L (.int (x - y) :: st) ws) : AL l G b N xs pc L (.int y :: .int x :: st) ws := by
  intro p e s m below meth c C H locs ls hP hD hS hl
  exact lv_isub C.1.1 C.1.2.1 hd (kk p e s m below meth c C H locs ls hP hD hS hl)
theorem b_iadd {x y : Int32} (hd : decode code pc = .ok (.iadd, 1)) (kk : AL l G b N xs (pc + 1) L (.int (x + y) :: st) ws) : AL l G b N xs pc L (.int y :: .int x :: st) ws := by
  intro p e s m below meth c C H locs ls hP hD hS hl
  exact lv_iadd C.1.1 C.1.2.1 hd (kk p e s m below meth c C H locs ls hP hD hS hl)
theorem b_iand {x y : Int32} (hd : decode code pc = .ok (.iand, 1)) (kk : AL l G b N xs (pc + 1) L (.int (x &&& y) :: st) ws) : AL l G b N xs pc L (.int y :: .int x :: st) ws := by
  intro p e s m below meth c C H locs ls hP hD hS hl
  exact lv_iand C.1.1 C.1.2.1 hd (kk p e s m below meth c C H locs ls hP hD hS hl)
theorem b_sld {k : Nat} (hd : decode code pc = .ok (.iaload, 1)) (hk : k < N) (hN : N ≤ 3072) (kk : AL l G b N xs (pc + 1) L (.int (xs k) :: st) ws) : AL l G b N xs pc L (.int (nI k) :: .ref b :: st) ws := by
  intro p e s m below meth c C H locs ls hP hD hS hl
  obtain ⟨hx, hb, hr, hml, hown, hts, hX, hbl, hlocks, hgv⟩ := id C.1
  refine va_sld hx hb hX hbl (Nat.not_le.mpr hbl) hS (vp_in_nI hk (by omega)) hd ?_
  rw [nI_clamp (by omega)]
  exact kk p e s m below meth c C H locs ls hP hD hS hl
theorem b_slen (hd : decode code pc = .ok (.arraylength, 1)) (kk : AL l G b N xs (pc + 1) L (.int (nI N) :: st) ws) : AL l G b N xs pc L (.ref b :: st) ws := by
  intro p e s m below meth c C H locs ls hP hD hS hl
  obtain ⟨hx, hb, hr, hml, hown, hts, hX, hbl, hlocks, hgv⟩ := id C.1
  exact va_slen hx hb hX hbl (Nat.not_le.mpr hbl) hS hd (kk p e s m below meth c C H locs ls hP hD hS hl)
theorem b_icmp_gt {x y : Int32} {off : Int} {tgt : Nat} (hd : decode code pc = .ok (.if_icmp .gt off, 3)) (ht : (pc : Int) + off = (tgt : Int)) (kt : y < x → AL l G b N xs tgt L st ws) (kf : ¬ y < x → AL l G b N xs (pc + 3) L st ws) : AL l G b N xs pc L (.int y :: .int x :: st) ws := by
  intro p e s m below meth c C H locs ls hP hD hS hl
  exact lv_icmp_gt C.1.1 C.1.2.1 hd ht (fun h => kt h p e s m below meth c C H locs ls hP hD hS hl) (fun h => kf h p e s m below meth c C H locs ls hP hD hS hl)
theorem b_goto {off : Int} {tgt : Nat} (hd : decode code pc = .ok (.goto off, 3)) (ht : (pc : Int) + off = (tgt : Int)) (kk : AL l G b N xs tgt L st ws) : AL l G b N xs pc L st ws := by
  intro p e s m below meth c C H locs ls hP hD hS hl
  exact lv_goto C.1.1 C.1.2.1 hd ht (kk p e s m below meth c C H locs ls hP hD hS hl)
theorem b_tableOut {dflt lo hi : Int} {offs : Array Int} {len : Nat} {x : Int32} {tgt : Nat} (hd : decode code pc = .ok (.tableswitch dflt lo hi offs, len)) (h : x.toInt < lo ∨ hi < x.toInt) (ht : (pc : Int) + dflt = (tgt : Int)) (kk : AL l G b N xs tgt L st ws) : AL l G b N xs pc L (.int x :: st) ws := by
  intro p e s m below meth c C H locs ls hP hD hS hl
  exact lv_tableOut C.1.1 C.1.2.1 hd h ht (kk p e s m below meth c C H locs ls hP hD hS hl)
theorem b_tableIn {dflt lo hi : Int} {offs : Array Int} {len : Nat} {x : Int32} {off : Int} {tgt : Nat} (hd : decode code pc = .ok (.tableswitch dflt lo hi offs, len)) (h1 : ¬ x.toInt < lo) (h2 : ¬ hi < x.toInt) (ho : offs[(x.toInt - lo).toNat]? = some off) (ht : (pc : Int) + off = (tgt : Int)) (kk : AL l G b N xs tgt L st ws) : AL l G b N xs pc L (.int x :: st) ws := by
  intro p e s m below meth c C H locs ls hP hD hS hl
  exact lv_tableIn C.1.1 C.1.2.1 hd h1 h2 ho ht (kk p e s m below meth c C H locs ls hP hD hS hl)
theorem b_iinc {i : Nat} {x : Int} {v w : Int32} (hi : L[i]? = some (some (.int v))) (hp : zprev L i = true) (hn : i < 4) (hd : decode code pc = .ok (.iinc i x, 3)) (hv : v + Int32.ofInt x = w) (kk : AL l G b N xs (pc + 3) (L.set i (some (.int w))) st ws) : AL l G b N xs pc L st ws := by
  intro p e s m below meth c C H locs ls hP hD hS hl
  obtain ⟨k, hk⟩ := List.getElem?_of_mem ((zL_mem L 0 (i, .int v)).mpr ⟨i, by simp, hi⟩)
  exact lv_iinc C.1.1 C.1.2.1 hd hl hk hv hn rfl (fun ls hl => kk p e s m below meth c C H locs ls hP hD hS (zset1 hp hl))
theorem b_same {v : Int64} {off : Int} {tgt : Nat} (hd : decode code pc = .ok (.lcmp, 1)) (hd2 : decode code (pc + 1) = .ok (.ifCond .eq off, 3)) (ht : ((pc + 1 : Nat) : Int) + off = (tgt : Int)) (kk : AL l G b N xs tgt L st ws) : AL l G b N xs pc L (.long v :: .long v :: st) ws := by
  intro p e s m below meth c C H locs ls hP hD hS hl
  exact W.lcmp C.1.1 C.1.2.1 hd (lv_if_eq C.1.1 C.1.2.1 hd2 ht (fun _ => kk p e s m below meth c C H locs ls hP hD hS hl) (fun h => absurd ((zcmp_eq v v).mpr rfl) h))
theorem b_ret (hd : decode code pc = .ok (.ireturn, 1)) : AL l G b N xs pc L [.int 1] ws := by
  intro p e s m below meth c C H locs ls hP hD hS hl
  obtain ⟨hx, hb, hr, hml, hown, hts, hX, hbl, hlocks, hgv⟩ := id C.1
  exact va_forget hS.2.2 (lw_ret hx hb hr hlocks hd)
/-- a script's int as an argument -/
theorem b_arg {i k : Nat} {x : Int} {a1 a2 : Option Value} (d0 : decode code pc = .ok (.aload_n 0, 1)) (d1 : decode code (pc + 1) = .ok (.iload_n 3, 1)) (d2 : decode code (pc + 1 + 1) = .ok (.iconst x, 1)) (hx : Int32.ofInt x = nI k) (d3 : decode code (pc + 1 + 1 + 1) = .ok (.iadd, 1)) (d4 : decode code (pc + 1 + 1 + 1 + 1) = .ok (.iaload, 1)) (hk : i + k < N) (hN : N ≤ 3072)
    (kk : AL l G b N xs (pc + 1 + 1 + 1 + 1 + 1) [some (.ref b), a1, a2, some (.int (nI i))] (.int (xs (i + k)) :: st) ws) : AL l G b N xs pc [some (.ref b), a1, a2, some (.int (nI i))] st ws := by
  refine b_aload_n (i := 0) rfl d0 rfl (b_iload_n (i := 3) rfl d1 rfl (b_iconst d2 hx (b_iadd d3 ?_)))
  rw [← zI_add]
  exact b_sld d4 hk hN kk
theorem b_call {index n a : Nat} (hM : zSem l G S2 (.ref a :: As) wc2 post2) (hcode : zW S2 ∈ zT) (hlink : Cond.methodLink R_law index (zy S2) ∈ zT) (hin : Cond.instanceMethod (zy S2) ∈ zT) (hsel : Cond.selects (zy S2).cls (zy S2) (zy S2) ∈ zT) (hini : Cond.initialized (zy S2).cls ∈ zT) (hok1 : (zy S2).cls ≠ "java/lang/invoke/MethodHandle" ∧ (zy S2).cls ≠ "java/lang/invoke/VarHandle" ∧ (parseMethodDescriptor (zy S2).desc).map (fun d => d.parameters.length) = some n) (hok2 : zfr S2 + 1 ≤ 9 ∧ 8 + (znL S2 + 11) + zlo S2 ≤ 392)
    (hdg : decode code pc = .ok (.invokevirtual index, 3)) (isC : List Nat) (hC : isC.map (fun i => ws[i]?) = wc2.map some) (hnd : va_nd isC = true) (hst : st = As.reverse ++ .ref a :: rest) (hn : As.length = n) (hsum : (rest.map fun v => v.category).sum ≤ 8) {q0 ci : Nat} {qc : vw_C} {fs : List Value} (hq0 : ws[q0]? = some (a, .inr (ci, fs))) (hci : vwCl[ci]? = some qc) (hcl : qc.1 = (zy S2).cls)
    (kk : ∀ (r : Option Value) (w1 : va_W), post2 r w1 → w1.map Prod.fst = wc2.map Prod.fst → AL l G b N xs (pc + 3) L (r.toList ++ rest) (zput ws isC w1)) : AL l G b N xs pc L st ws := by
  intro p e s m below meth c C H locs ls hP hD hS hl
  obtain ⟨hx, hb, hr, hml, hown, hts0, hX, hbl, hlocks, hgv⟩ := id C.1
  have hts : ∀ w ∈ zT, w.before #[Value.ref b] s = true := fun w hw => hts0 w (zT_in hw)
  have hF : ∀ q, va_A wc2 H.size q → zAs s q := va_free hD hS (fun q h => h) isC hC
  have hf2 : isC.filterMap (fun i => ws[i]?) = wc2 := by
    have h1 : isC.filterMap (fun i => ws[i]?) = (isC.map (fun i => ws[i]?)).filterMap id := by rw [List.filterMap_map]; rfl
    rw [h1, hC, List.filterMap_map]
    exact List.filterMap_some
  have hpre : ∀ U : State, U.heap = H → s.WarmedH U.vm → zPc G (.ref a :: As) wc2 H.size (.ref a :: As).toArray U := by
    intro U hU hW
    refine ⟨rfl, by rw [hU], by rw [hU]; exact hP.sub isC hf2, (hD.sub isC hnd hC).weaken (fun _ _ _ _ => trivial), va_K.moved hW.alike C.2.1, zNest.warm hW C.2.2.1, ?_⟩
    rw [hU]
    exact zStat.go hW.alike hS hF C.2.2.2
  have hrun := va_runV (locs := locs) (below := below) (meth := meth) (e := e) (cells := 46) (slots := 4514) (R := room_1) (As := As) (rest := rest) (C := (zy S2).cls) ⟨hx, hb, hml, hown, hts⟩ (hM H.size) ⟨callB_of (R := room_1) n hts (zGood hcode) rfl rfl rfl (hts _ hini) (hts _ hlink) hok1 hok2, hts _ hin, hts _ hsel⟩ ⟨zBlind, hcl ▸ va_recv C.2.1 hP hci hq0, hpre⟩ (g := F0 m pc ls st) rfl hn hl.1 hst (lv_room hsum) hdg ⟨Nat.le_refl _, Nat.le_refl _⟩
  intro T hT X
  obtain ⟨v, st₀, t, T', L1, h0, X', hL, e1, e2, ⟨⟨r, w1, hv, hp, hf, hP1⟩, hz, hk⟩, stp⟩ := hrun T hT X
  cases hv
  rw [h0] at hz hk
  have hlen : isC.length = w1.length := by
    have h1 := congrArg List.length hC
    have h2 := congrArg List.length hf
    simp only [List.length_map] at h1 h2
    omega
  have hat : ∀ (j i : Nat) (q : Nat × va_E), isC[j]? = some i → w1[j]? = some q → ∃ e, ws[i]? = some (q.1, e) := by
    intro j i q hj hq
    have h1 : (w1.map Prod.fst)[j]? = some q.1 := by rw [List.getElem?_map, hq]; rfl
    rw [hf, List.getElem?_map] at h1
    have h2 : (isC.map (fun i => ws[i]?))[j]? = some (ws[i]?) := by rw [List.getElem?_map, hj]; rfl
    rw [hC, List.getElem?_map] at h2
    cases hw : wc2[j]? with
    | none => rw [hw] at h1; cases h1
    | some z =>
      rw [hw] at h1 h2
      obtain ⟨z1, z2⟩ := z
      have e3 : z1 = q.1 := Option.some.inj h1
      have e4 : some (z1, z2) = ws[i]? := Option.some.inj h2
      exact ⟨z2, by rw [← e4, e3]⟩
  have hP' : va_P G.1 vwCl (zput ws isC w1) T'.heap := by
    intro k q hq
    rcases zput_get isC w1 ws hlen k q hq with ⟨j, hj⟩ | ⟨h1, h2⟩
    · rw [e1]; exact hP1 j q hj
    · have hlt := (hP k q h1).lt
      refine (hP k q h1).kept ?_
      rw [e1]
      refine hk q.1 hlt ?_
      rintro (⟨j, ej, hj⟩ | hge)
      · have h3 : (isC.map (fun i => ws[i]?))[j]? = some (some (q.1, ej)) := by rw [hC, List.getElem?_map, hj]; rfl
        rw [List.getElem?_map] at h3
        cases hi : isC[j]? with
        | none => rw [hi] at h3; cases h3
        | some i =>
          rw [hi] at h3
          have h4 : ws[i]? = some (q.1, ej) := Option.some.inj h3
          have := hD.1 k i q _ h1 h4 rfl
          subst this
          exact h2 (List.mem_of_getElem? hi)
      · omega
  have hS' : va_S (zAs s) s.heap T'.heap (locs ++ L1) := ⟨Nat.le_trans hS.1 (by rw [e1]; exact hz), fun q h1 h2 => by rw [e1, hk q (Nat.lt_of_lt_of_le h1 hS.1) (fun z => h2 (hF q z))]; exact hS.2.1 q h1 h2, fun q hq => by
      rcases List.mem_append.mp hq with h | h
      · exact hS.2.2 q h
      · exact hF _ (hL q h)⟩
  obtain ⟨t2, a1, b1⟩ := kk v w1 hp hf p e s m below meth c C T'.heap (locs ++ L1) ls hP' (zD_of hD (zput_fst isC w1 ws hat)) hS' hl T' rfl X'
  exact ⟨t2, stp t2 a1, b1⟩
theorem znd28' : va_nd (List.range' 0 28) = true := by decide +kernel
theorem znd18' : va_nd (List.range' 28 18) = true := by decide +kernel
/-- a call of the class, then of the model -/
theorem b_P {index n : Nat} {ad : Nat → Nat} {σ : zσ} {x : zX} {wb : va_W} {o : Int64 × zσ} (hM : zSem l G S2 (.ref (ad 0) :: As) (wP G ad σ x) (zPost G ad o)) (hcode : zW S2 ∈ zT) (hlink : Cond.methodLink R_law index (zy S2) ∈ zT) (hin : Cond.instanceMethod (zy S2) ∈ zT) (hsel : Cond.selects (zy S2).cls (zy S2) (zy S2) ∈ zT) (hini : Cond.initialized (zy S2).cls ∈ zT) (hcl : RX5 = (zy S2).cls) (hok1 : (zy S2).cls ≠ "java/lang/invoke/MethodHandle" ∧ (zy S2).cls ≠ "java/lang/invoke/VarHandle" ∧ (parseMethodDescriptor (zy S2).desc).map (fun d => d.parameters.length) = some n) (hok2 : zfr S2 + 1 ≤ 9 ∧ 8 + (znL S2 + 11) + zlo S2 ≤ 392)
    (hdg : decode code pc = .ok (.invokevirtual index, 3)) (hst : st = As.reverse ++ .ref (ad 0) :: rest) (hn : As.length = n) (hsum : (rest.map fun v => v.category).sum ≤ 8)
    (kk : ∀ u : zX, AL l G b N xs (pc + 3) L (.long o.1 :: rest) (wP G ad o.2 u ++ wb)) : AL l G b N xs pc L st (wP G ad σ x ++ wb) := by
  refine b_call (q0 := 0) (ci := 5) (qc := (RX5, TX5, 11)) hM hcode hlink hin hsel hini hok1 hok2 hdg (List.range' 0 28) (zC_mid [] (wP G ad σ x) wb) znd28' hst hn hsum rfl rfl hcl ?_
  rintro _ _ ⟨u, -, rfl, rfl⟩ -
  have e := zput_mid (wP G ad o.2 u) [] (wP G ad σ x) wb rfl
  exact b_to (kk u) rfl rfl rfl e.symm
theorem b_M {index n : Nat} {ad : Nat → Nat} {σ : zσ} {y : zY} {wa : va_W} {o : Int64 × zσ} (hwa : wa.length = 28) (hM : zSem l G S2 (.ref (ad 0) :: As) (wM G ad σ y) (zPostM G ad o)) (hcode : zW S2 ∈ zT) (hlink : Cond.methodLink R_law index (zy S2) ∈ zT) (hin : Cond.instanceMethod (zy S2) ∈ zT) (hsel : Cond.selects (zy S2).cls (zy S2) (zy S2) ∈ zT) (hini : Cond.initialized (zy S2).cls ∈ zT) (hcl : RX6 = (zy S2).cls) (hok1 : (zy S2).cls ≠ "java/lang/invoke/MethodHandle" ∧ (zy S2).cls ≠ "java/lang/invoke/VarHandle" ∧ (parseMethodDescriptor (zy S2).desc).map (fun d => d.parameters.length) = some n) (hok2 : zfr S2 + 1 ≤ 9 ∧ 8 + (znL S2 + 11) + zlo S2 ≤ 392)
    (hdg : decode code pc = .ok (.invokevirtual index, 3)) (hst : st = As.reverse ++ .ref (ad 0) :: rest) (hn : As.length = n) (hsum : (rest.map fun v => v.category).sum ≤ 8)
    (kk : ∀ u : zY, zNb o.2 u.1 → AL l G b N xs (pc + 3) L (.long o.1 :: rest) (wa ++ wM G ad o.2 u)) : AL l G b N xs pc L st (wa ++ wM G ad σ y) := by
  have hC := zC_mid wa (wM G ad σ y) []
  rw [List.append_nil, hwa] at hC
  have hq : (wa ++ wM G ad σ y)[28]? = (wM G ad σ y)[0]? := by rw [List.getElem?_append_right (by omega), hwa]
  refine b_call (q0 := 28) (ci := 6) (qc := (RX6, TX6, 27)) hM hcode hlink hin hsel hini hok1 hok2 hdg (List.range' 28 18) hC znd18' hst hn hsum (hq.trans rfl) rfl hcl ?_
  rintro _ _ ⟨u, hu, rfl, rfl⟩ -
  have e := zput_mid (wM G ad o.2 u) wa (wM G ad σ y) [] rfl
  rw [List.append_nil, List.append_nil, hwa] at e
  exact b_to (kk u hu) rfl rfl rfl e.symm
end ZLW

/-! One judgement for all methods of this claim, over one list of words, one ambient world (classes, nest words, static rows), and worlds whose cells lie at addresses 'ad k'. -/
def zT : List Cond := lw_tbl.filter goodWord
def zIsNest : Cond → Bool
  | .fieldLinkNest .. => true
  | .methodLinkNest .. => true
  | _ => false
def zNest : List Cond := lw_tbl.filter zIsNest
theorem zT_in {w : Cond} (h : w ∈ zT) : w ∈ lw_tbl := (List.mem_filter.mp h).1
theorem zT_good {w : Cond} (h : w ∈ zT) : goodWord w = true := (List.mem_filter.mp h).2
theorem zmem (i : Nat) {w : Cond} (h : lw_tbl[i]? = some w) (hg : goodWord w = true) : w ∈ zT := List.mem_filter.mpr ⟨List.mem_of_getElem? h, hg⟩
theorem znmem (i : Nat) {w : Cond} (h : lw_tbl[i]? = some w) (hg : zIsNest w = true) : w ∈ zNest := List.mem_filter.mpr ⟨List.mem_of_getElem? h, hg⟩
theorem zGood {w0 : Cond} (h0 : w0 ∈ zT) : GoodIn zT (w0 :: zT) := by
  intro w hw
  rcases List.mem_cons.mp hw with rfl | hw
  · exact ⟨h0, good_of_word (zT_good h0)⟩
  · exact ⟨hw, good_of_word (zT_good hw)⟩
abbrev zS : Type := MethodName × ByteArray × Nat × Option FieldType × String × Nat × Nat
abbrev zG : Type := va_G × (ClassId × ClassId × ClassId × ClassId) × (Nat → Nat)
abbrev zy (S : zS) : MethodName := S.1
abbrev zcc (S : zS) : ByteArray := S.2.1
abbrev znL (S : zS) : Nat := S.2.2.1
abbrev zret (S : zS) : Option FieldType := S.2.2.2.1
abbrev zown (S : zS) : String := S.2.2.2.2.1
abbrev zfr (S : zS) : Nat := S.2.2.2.2.2.1
abbrev zlo (S : zS) : Nat := S.2.2.2.2.2.2
abbrev zcI (G : zG) : ClassId := G.2.1.1
abbrev zcJ (G : zG) : ClassId := G.2.1.2.1
abbrev zcS (G : zG) : ClassId := G.2.1.2.2.1
abbrev zcO (G : zG) : ClassId := G.2.1.2.2.2
abbrev zty (G : zG) : List (ClassId × FieldType) := [(zcI G, .int), (zcJ G, .long), (zcS G, .short), (zcO G, .object "SaltPlant$Sheet")]
/-- the static rows: class, name, length, contents -/
def zSt : List (String × String × Nat × (Nat → Int32)) := [
  ("SaltPlant$Skins", "PASS_OF_KIND", 4, fun k => ([40, 30, 60, 20] : List Int32).getD k 0),
  ("SaltPlant$Skins", "LEAK_OF_KIND", 4, fun k => ([10, 5, 25, 2] : List Int32).getD k 0),
  ("SaltPlant$Skins", "KIND_ABOVE", 4, fun k => ([0, 0, 0, 1] : List Int32).getD k 0),
  ("SaltPlant", "RULE_LOW", 7, fun k => ([0, 0, 0, 1, 0, 0, 0] : List Int32).getD k 0),
  ("SaltPlant", "RULE_HIGH", 7, fun k => ([9999, 9999, 100, 1000, 30, 200, 200] : List Int32).getD k 0)]
def zStat (G : zG) (A : Nat → Prop) (U : State) (H : Heap) : Prop := ∀ (k : Nat) (q : String × String × Nat × (Nat → Int32)), zSt[k]? = some q → va_Z q.1 q.2.1 "[I" (.ref (G.2.2 k)) A U H ∧ va_T .int (G.2.2 k) q.2.2.1 (fun j => .int (q.2.2.2 j)) A U H ∧ ¬ A (G.2.2 k) ∧ G.2.2 k < H.size
def zAmb (G : zG) (A : Nat → Prop) (U : State) : Prop := va_K G.1 vwCl (zty G) U ∧ (∀ w ∈ zNest, va_Nw w U) ∧ zStat G A U U.heap
theorem zNest.warm {s U : State} (hW : s.WarmedH U.vm) (h : ∀ w ∈ zNest, va_Nw w s) : ∀ w ∈ zNest, va_Nw w U := by
  intro w hw
  have h1 := h w hw
  have h2 := (List.mem_filter.mp hw).2
  cases w <;> first | exact va_Nw.warmF hW h1 | exact va_Nw.warmM hW h1 | (simp [zIsNest] at h2)
theorem zStat.go {G : zG} {A B : Nat → Prop} {s U : State} {H : Heap} {locs : List Loc} (hvm : s.vm.Alike U.vm) (hS : va_S A s.heap H locs) (hAB : ∀ q, B q → A q) (h : zStat G A s s.heap) : zStat G B U H := by
  intro k q hk
  obtain ⟨h1, h2, h3, h4⟩ := h k q hk
  refine ⟨va_Z.moved hvm ((h1.kept (fun a ha hn => hS.2.1 a ha hn)).narrow hAB), va_T.moved hvm ((h2.kept (fun a ha hn => hS.2.1 a ha hn)).narrow hAB), fun hb => h3 (hAB _ hb), Nat.lt_of_lt_of_le h4 hS.1⟩
def zQc (G : zG) (wc : va_W) (post : Option Value → va_W → Prop) : Array Value → State → Outcome → State → Prop := fun _ st oc t => (∃ (r : Option Value) (w1 : va_W), oc = .returned r ∧ post r w1 ∧ w1.map Prod.fst = wc.map Prod.fst ∧ va_P G.1 vwCl w1 t.heap) ∧ va_F (va_A wc st.heap.size) st t
def zPc (G : zG) (As : List Value) (wc : va_W) (sz : Nat) : Array Value → State → Prop := va_Pc As (fun U => U.heap.size = sz ∧ va_P G.1 vwCl wc U.heap ∧ va_D (fun _ => True) wc ∧ zAmb G (va_A wc sz) U)
abbrev zR (S : zS) : Room := { frames := zfr S, cells := 0, slots := 0, locals := zlo S }
abbrev zW (S : zS) : Cond := .code (zy S) (zcc S) (znL S) (zret S)
/-- a method's contract: on the world wc, with the arguments As, it returns, and 'post answer world' -/
def zSem (l : Launch) (G : zG) (S : zS) (As : List Value) (wc : va_W) (post : Option Value → va_W → Prop) : Prop :=
  ∀ sz : Nat, Met l (zy S) (zW S :: zT) (zR S) (zPc G As wc sz) (zQc G wc post) 0 0 (va_A wc sz)
def zCx (p : Program) (s : State) (m : MethodId) (args : Array Value) (meth : Method) (c : Code) (G : zG) (S : zS) (wc : va_W) : Prop :=
  p.tables.exec = Jvm.exec ∧ c.code = zcc S ∧ c.maxLocals = znL S ∧ s.vm.findClass (zown S) = some m.cls ∧ (∀ w ∈ zT, w.before args s = true) ∧ meth.sig.returnType = zret S ∧ meth.locks = false ∧ zAmb G (va_A wc s.heap.size) s
/-- the walk: from pc with locals L, stack st, world ws, the method comes to its end with its 'post' -/
def AW (l : Launch) (G : zG) (S : zS) (wc : va_W) (post : Option Value → va_W → Prop) (pc : Nat) (L : List (Nat × Value)) (st : List Value) (ws : va_W) : Prop :=
  ∀ (p : Program) (e : Env) (s : State) (m : MethodId) (args : Array Value) (below : List Frame) (meth : Method) (c : Code), zCx p s m args meth c G S wc →
  ∀ (H : Heap) (locs : List Loc) (ls : Array Slot), va_P G.1 vwCl ws H → va_D (va_A wc s.heap.size) ws → va_S (va_A wc s.heap.size) s.heap H locs → lv_has ls (znL S) L →
    W p l e (zR S) s m args below meth c H locs 0 0 (MQ below (zQc G wc post) args s 0 0 (va_A wc s.heap.size)) (F0 m pc ls st)
theorem zEnter {l : Launch} {G : zG} {S : zS} {As : List Value} {wc : va_W} {post : Option Value → va_W → Prop} (hy : plainName (zy S).cls = true) (hown : (zy S).cls = zown S) (hAs : (lg_sl As).length ≤ znL S) {L : List (Nat × Value)} (hL : lv_args 0 As = L)
    (h : AW l G S wc post 0 L [] wc) : zSem l G S As wc post := by
  intro sz
  refine Met.ofW (cc := zcc S) (maxL := znL S) (ret := zret S) hy rfl ?_
  intro p e s m args below meth c s₁ B hml hv
  obtain ⟨rfl, hsz, hP, hD, hA⟩ := hv
  have hts := atoms_spec (ws := zW S :: zT) B.pre
  have hown2 : s.vm.findClass (zy S).cls = some m.cls := findClass_of_methodNamed B.named
  subst hsz
  subst hL
  rw [lg_entry_eq]
  exact h p e s m As.toArray below meth c ⟨B.exec, B.bytes, hml, hown ▸ hown2, fun w hw => hts w (List.mem_cons_of_mem _ hw), B.returns, B.notSynchronized, hA⟩ s.heap [] _ hP hD.self va_S.rf (lv_entry As hAs)
def zput : va_W → List Nat → va_W → va_W
  | ws, i :: is, q :: w1 => zput (ws.set i q) is w1
  | ws, _, _ => ws
theorem zput_get : ∀ (is : List Nat) (w1 ws : va_W), is.length = w1.length → ∀ (k : Nat) (q : Nat × va_E), (zput ws is w1)[k]? = some q → (∃ j : Nat, w1[j]? = some q) ∨ (ws[k]? = some q ∧ k ∉ is) := by
  intro is
  induction is with
  | nil => intro w1 ws _ k q h; cases w1 <;> exact Or.inr ⟨h, List.not_mem_nil⟩
  | cons i is ih =>
    intro w1 ws hlen k q h
    cases w1 with
    | nil => cases hlen
    | cons q1 w1 =>
      rcases ih w1 (ws.set i q1) (Nat.succ.inj hlen) k q h with ⟨j, hj⟩ | ⟨h1, h2⟩
      · exact Or.inl ⟨j + 1, hj⟩
      · by_cases hk : i = k
        · subst hk
          rw [List.getElem?_set_self'] at h1
          cases hw : ws[i]? with
          | none => rw [hw] at h1; cases h1
          | some z => rw [hw] at h1; exact Or.inl ⟨0, h1⟩
        · rw [List.getElem?_set_ne hk] at h1
          exact Or.inr ⟨h1, fun hm => (List.mem_cons.mp hm).elim (fun e => hk e.symm) h2⟩
theorem zput_fst : ∀ (is : List Nat) (w1 ws : va_W), (∀ (j i : Nat) (q : Nat × va_E), is[j]? = some i → w1[j]? = some q → ∃ e, ws[i]? = some (q.1, e)) → (zput ws is w1).map Prod.fst = ws.map Prod.fst := by
  intro is
  induction is with
  | nil => intro w1 ws _; cases w1 <;> rfl
  | cons i is ih =>
    intro w1 ws h
    cases w1 with
    | nil => rfl
    | cons q1 w1 =>
      obtain ⟨e0, h0⟩ := h 0 i q1 rfl rfl
      have hs : (ws.set i q1).map Prod.fst = ws.map Prod.fst := by
        rw [List.map_set]
        apply List.ext_getElem?
        intro k
        by_cases hk : i = k
        · subst hk
          rw [List.getElem?_set_self', List.getElem?_map, h0]
          rfl
        · rw [List.getElem?_set_ne hk]
      show (zput (ws.set i q1) is w1).map Prod.fst = _
      rw [ih w1 (ws.set i q1) ?_, hs]
      intro j i2 q hj hq
      obtain ⟨e2, h2⟩ := h (j + 1) i2 q hj hq
      by_cases hk : i = i2
      · subst hk
        rw [h0] at h2
        have h3 : q1.1 = q.1 := congrArg (fun o => (o.getD (0, e0)).1) h2
        refine ⟨q1.2, ?_⟩
        rw [List.getElem?_set_self', h0, ← h3]
        rfl
      · exact ⟨e2, by rw [List.getElem?_set_ne hk]; exact h2⟩
theorem zD_of {A : Nat → Prop} {ws ws' : va_W} (h : va_D A ws) (hf : ws'.map Prod.fst = ws.map Prod.fst) : va_D A ws' := by
  have key : ∀ (k : Nat) (q : Nat × va_E), ws'[k]? = some q → ∃ e, ws[k]? = some (q.1, e) := by
    intro k q hq
    have h1 : (ws'.map Prod.fst)[k]? = some q.1 := by rw [List.getElem?_map, hq]; rfl
    rw [hf, List.getElem?_map] at h1
    cases hw : ws[k]? with
    | none => rw [hw] at h1; cases h1
    | some z =>
      rw [hw] at h1
      obtain ⟨z1, z2⟩ := z
      have : z1 = q.1 := Option.some.inj h1
      exact ⟨z2, by rw [this]⟩
  refine ⟨fun i j p q hi hj hpq => ?_, fun k q hk => ?_⟩
  · obtain ⟨e1, h1⟩ := key i p hi
    obtain ⟨e2, h2⟩ := key j q hj
    exact h.1 i j _ _ h1 h2 hpq
  · obtain ⟨e1, h1⟩ := key k q hk
    exact h.2 k (q.1, e1) h1
section ZC
variable {l : Launch} {G : zG} {S S2 : zS} {wc wc2 : va_W} {post post2 : Option Value → va_W → Prop} {pc : Nat} {L : List (Nat × Value)} {st rest As : List Value} {ws : va_W}
/-- behind any call: the callee's cells come back, all others stay -/
theorem zBehind (isC : List Nat) (hC : isC.map (fun i => ws[i]?) = wc2.map some)
    (kk : ∀ (r : Option Value) (w1 : va_W), post2 r w1 → w1.map Prod.fst = wc2.map Prod.fst → AW l G S wc post (pc + 3) L (r.toList ++ rest) (zput ws isC w1))
    {p : Program} {e : Env} {s : State} {m : MethodId} {args : Array Value} {below : List Frame} {meth : Method} {c : Code} (C : zCx p s m args meth c G S wc)
    {H : Heap} {locs : List Loc} {ls : Array Slot} (hP : va_P G.1 vwCl ws H) (hD : va_D (va_A wc s.heap.size) ws) (hS : va_S (va_A wc s.heap.size) s.heap H locs) (hl : lv_has ls (znL S) L) {a : Array Value}
    (hr : va_Run p l e (zR S) s m args below meth c H locs 0 0 0 0 (F0 m pc ls st) rest (zQc G wc2 post2 a) (va_A wc2 H.size)) :
    W p l e (zR S) s m args below meth c H locs 0 0 (MQ below (zQc G wc post) args s 0 0 (va_A wc s.heap.size)) (F0 m pc ls st) := by
  have hF : ∀ q, va_A wc2 H.size q → va_A wc s.heap.size q := va_free hD hS (fun q h => Or.inr h) isC hC
  intro T hT X
  obtain ⟨v, st₀, t, T', L1, h0, X', hL, e1, e2, ⟨⟨r, w1, hv, hp, hf, hP1⟩, hz, hk⟩, stp⟩ := hr T hT X
  cases hv
  rw [h0] at hz hk
  have hlen : isC.length = w1.length := by
    have h1 := congrArg List.length hC
    have h2 := congrArg List.length hf
    simp only [List.length_map] at h1 h2
    omega
  have hat : ∀ (j i : Nat) (q : Nat × va_E), isC[j]? = some i → w1[j]? = some q → ∃ e, ws[i]? = some (q.1, e) := by
    intro j i q hj hq
    have h1 : (w1.map Prod.fst)[j]? = some q.1 := by rw [List.getElem?_map, hq]; rfl
    rw [hf, List.getElem?_map] at h1
    have h2 : (isC.map (fun i => ws[i]?))[j]? = some (ws[i]?) := by rw [List.getElem?_map, hj]; rfl
    rw [hC, List.getElem?_map] at h2
    cases hw : wc2[j]? with
    | none => rw [hw] at h1; cases h1
    | some z =>
      rw [hw] at h1 h2
      obtain ⟨z1, z2⟩ := z
      have e3 : z1 = q.1 := Option.some.inj h1
      have e4 : some (z1, z2) = ws[i]? := Option.some.inj h2
      exact ⟨z2, by rw [← e4, e3]⟩
  have hP' : va_P G.1 vwCl (zput ws isC w1) T'.heap := by
    intro k q hq
    rcases zput_get isC w1 ws hlen k q hq with ⟨j, hj⟩ | ⟨h1, h2⟩
    · rw [e1]; exact hP1 j q hj
    · have hlt := (hP k q h1).lt
      refine (hP k q h1).kept ?_
      rw [e1]
      refine hk q.1 hlt ?_
      rintro (⟨j, ej, hj⟩ | hge)
      · have h3 : (isC.map (fun i => ws[i]?))[j]? = some (some (q.1, ej)) := by rw [hC, List.getElem?_map, hj]; rfl
        rw [List.getElem?_map] at h3
        cases hi : isC[j]? with
        | none => rw [hi] at h3; cases h3
        | some i =>
          rw [hi] at h3
          have h4 : ws[i]? = some (q.1, ej) := Option.some.inj h3
          have := hD.1 k i q _ h1 h4 rfl
          subst this
          exact h2 (List.mem_of_getElem? hi)
      · omega
  have hS' : va_S (va_A wc s.heap.size) s.heap T'.heap (locs ++ L1) := ⟨Nat.le_trans hS.1 (by rw [e1]; exact hz), fun q h1 h2 => by rw [e1, hk q (Nat.lt_of_lt_of_le h1 hS.1) (fun z => h2 (hF q z))]; exact hS.2.1 q h1 h2, fun q hq => by
      rcases List.mem_append.mp hq with h | h
      · exact hS.2.2 q h
      · exact hF _ (hL q h)⟩
  obtain ⟨t2, a1, b1⟩ := kk v w1 hp hf p e s m args below meth c C T'.heap (locs ++ L1) ls hP' (zD_of hD (zput_fst isC w1 ws hat)) hS' hl T' rfl X'
  exact ⟨t2, stp t2 a1, b1⟩
theorem zBlind {sz : Nat} {As : List Value} : FrameBlind (zPc G As wc2 sz) := fun a U g mk q => by
  obtain ⟨q0, q1, qP, qD, qK, qN, qZ⟩ := q
  refine ⟨q0, q1, qP, qD, va_K.moved (u := U) (U := U.calling g mk a) (Vm.Alike.refl U.vm) qK, fun w hw => va_Nw.same ?_ (u := U) (U := U.calling g mk a) rfl (qN w hw), fun k q hk => ?_⟩
  · have h2 := (List.mem_filter.mp hw).2
    cases w <;> first | rfl | (simp [zIsNest] at h2)
  · obtain ⟨h1, h2, h3, h4⟩ := qZ k q hk
    exact ⟨va_Z.moved (u := U) (U := U.calling g mk a) (Vm.Alike.refl U.vm) h1, va_T.moved (u := U) (U := U.calling g mk a) (Vm.Alike.refl U.vm) h2, h3, h4⟩
theorem zPre (isC : List Nat) (hC : isC.map (fun i => ws[i]?) = wc2.map some) (hnd : va_nd isC = true) {p : Program} {s : State} {m : MethodId} {args : Array Value} {meth : Method} {c : Code} (C : zCx p s m args meth c G S wc)
    {H : Heap} {locs : List Loc} (hP : va_P G.1 vwCl ws H) (hD : va_D (va_A wc s.heap.size) ws) (hS : va_S (va_A wc s.heap.size) s.heap H locs) (As : List Value) : ∀ U : State, U.heap = H → s.WarmedH U.vm → zPc G As wc2 H.size As.toArray U := by
  have hF : ∀ q, va_A wc2 H.size q → va_A wc s.heap.size q := va_free hD hS (fun q h => Or.inr h) isC hC
  have hf : isC.filterMap (fun i => ws[i]?) = wc2 := by
    have h1 : isC.filterMap (fun i => ws[i]?) = (isC.map (fun i => ws[i]?)).filterMap id := by rw [List.filterMap_map]; rfl
    rw [h1, hC, List.filterMap_map]
    exact List.filterMap_some
  intro U hU hW
  refine ⟨rfl, by rw [hU], by rw [hU]; exact hP.sub isC hf, (hD.sub isC hnd hC).weaken (fun _ _ _ _ => trivial), va_K.moved hW.alike C.2.2.2.2.2.2.2.1, zNest.warm hW C.2.2.2.2.2.2.2.2.1, ?_⟩
  rw [hU]
  exact zStat.go hW.alike hS hF C.2.2.2.2.2.2.2.2.2
/-- what a call needs of the tables: all by program -/
def zOkY (S S2 : zS) (n : Nat) : Prop := ((zy S2).cls ≠ "java/lang/invoke/MethodHandle" ∧ (zy S2).cls ≠ "java/lang/invoke/VarHandle" ∧ (parseMethodDescriptor (zy S2).desc).map (fun d => d.parameters.length) = some n) ∧ (zfr S2 + 1 ≤ zfr S ∧ 8 + (znL S2 + 11) + zlo S2 ≤ zlo S)
theorem a_callS {index n : Nat} (hM : zSem l G S2 As wc2 post2) (hcode : zW S2 ∈ zT) (hlink : Cond.methodLink (zown S) index (zy S2) ∈ zT) (hstat : Cond.static (zy S2) ∈ zT) (hini : Cond.initialized (zy S2).cls ∈ zT) (hok : zOkY S S2 n)
    (hdg : decode (zcc S) pc = .ok (.invokestatic index, 3)) (isC : List Nat) (hC : isC.map (fun i => ws[i]?) = wc2.map some) (hnd : va_nd isC = true) (hst : st = As.reverse ++ rest) (hn : As.length = n) (hsum : (rest.map fun v => v.category).sum ≤ 8)
    (kk : ∀ (r : Option Value) (w1 : va_W), post2 r w1 → w1.map Prod.fst = wc2.map Prod.fst → AW l G S wc post (pc + 3) L (r.toList ++ rest) (zput ws isC w1)) : AW l G S wc post pc L st ws := by
  intro p e s m args below meth c C H locs ls hP hD hS hl
  obtain ⟨hx, hb, hml, ho, hts, -⟩ := id C
  exact zBehind isC hC kk C hP hD hS hl (va_runS (As := As) ⟨hx, hb, hml, ho, hts⟩ (hM H.size) ⟨callB_of n hts (zGood hcode) rfl rfl rfl (hts _ hini) (hts _ hlink) hok.1 hok.2, hts _ hstat⟩ ⟨zBlind, zPre isC hC hnd C hP hD hS As⟩ rfl hn hl.1 hst (lv_room hsum) hdg ⟨Nat.le_refl _, Nat.le_refl _⟩)
theorem a_callV {index n b : Nat} (hM : zSem l G S2 (.ref b :: As) wc2 post2) (hcode : zW S2 ∈ zT) (hlink : Cond.methodLink (zown S) index (zy S2) ∈ zT) (hin : Cond.instanceMethod (zy S2) ∈ zT) (hsel : Cond.selects (zy S2).cls (zy S2) (zy S2) ∈ zT) (hini : Cond.initialized (zy S2).cls ∈ zT) (hok : zOkY S S2 n)
    (hdg : decode (zcc S) pc = .ok (.invokevirtual index, 3)) (isC : List Nat) (hC : isC.map (fun i => ws[i]?) = wc2.map some) (hnd : va_nd isC = true) (hst : st = As.reverse ++ .ref b :: rest) (hn : As.length = n) (hsum : (rest.map fun v => v.category).sum ≤ 8) {q0 ci : Nat} {qc : vw_C} {fs : List Value} (hq0 : ws[q0]? = some (b, .inr (ci, fs))) (hci : vwCl[ci]? = some qc) (hcl : qc.1 = (zy S2).cls)
    (kk : ∀ (r : Option Value) (w1 : va_W), post2 r w1 → w1.map Prod.fst = wc2.map Prod.fst → AW l G S wc post (pc + 3) L (r.toList ++ rest) (zput ws isC w1)) : AW l G S wc post pc L st ws := by
  intro p e s m args below meth c C H locs ls hP hD hS hl
  obtain ⟨hx, hb, hml, ho, hts, -⟩ := id C
  exact zBehind isC hC kk C hP hD hS hl (va_runV (As := As) (C := (zy S2).cls) ⟨hx, hb, hml, ho, hts⟩ (hM H.size) ⟨callB_of n hts (zGood hcode) rfl rfl rfl (hts _ hini) (hts _ hlink) hok.1 hok.2, hts _ hin, hts _ hsel⟩ ⟨zBlind, hcl ▸ va_recv C.2.2.2.2.2.2.2.1 hP hci hq0, zPre isC hC hnd C hP hD hS (.ref b :: As)⟩ rfl hn hl.1 hst (lv_room hsum) hdg ⟨Nat.le_refl _, Nat.le_refl _⟩)
theorem zGoodN {s : State} {args : Array Value} {index n : Nat} {host : String} (hts : ∀ w ∈ zT, w.before args s = true) (hcode : zW S2 ∈ zT) (hl : va_Nw (.methodLinkNest (zown S) index (zy S2) host) s) (hini : Cond.initialized (zy S2).cls ∈ zT) (hok : zOkY S S2 n) : va_CN (zR S) s args (zown S) index (zy S2) host (zcc S2) (znL S2) (zret S2) (zW S2 :: zT) (zR S2) 0 0 n :=
  va_cnB n hts (zGood hcode) rfl rfl rfl hl (hts _ hini) hok.1 hok.2
theorem a_callSN {index n : Nat} {host : String} (hM : zSem l G S2 As wc2 post2) (hcode : zW S2 ∈ zT) (hlink : Cond.methodLinkNest (zown S) index (zy S2) host ∈ zNest) (hstat : Cond.static (zy S2) ∈ zT) (hini : Cond.initialized (zy S2).cls ∈ zT) (hok : zOkY S S2 n)
    (hdg : decode (zcc S) pc = .ok (.invokestatic index, 3)) (isC : List Nat) (hC : isC.map (fun i => ws[i]?) = wc2.map some) (hnd : va_nd isC = true) (hst : st = As.reverse ++ rest) (hn : As.length = n) (hsum : (rest.map fun v => v.category).sum ≤ 8)
    (kk : ∀ (r : Option Value) (w1 : va_W), post2 r w1 → w1.map Prod.fst = wc2.map Prod.fst → AW l G S wc post (pc + 3) L (r.toList ++ rest) (zput ws isC w1)) : AW l G S wc post pc L st ws := by
  intro p e s m args below meth c C H locs ls hP hD hS hl
  obtain ⟨hx, hb, hml, ho, hts, -⟩ := id C
  exact zBehind isC hC kk C hP hD hS hl (va_runSN (As := As) ⟨hx, hb, hml, ho, hts⟩ (hM H.size) ⟨zGoodN hts hcode (C.2.2.2.2.2.2.2.2.1 _ hlink) hini hok, hts _ hstat, trivial⟩ ⟨zBlind, zPre isC hC hnd C hP hD hS As⟩ rfl hn hl.1 hst (lv_room hsum) hdg ⟨Nat.le_refl _, Nat.le_refl _⟩)
end ZC

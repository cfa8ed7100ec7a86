/-! ===== one form for all contracts: the world before, the world behind, the links among nest mates ===== -/
abbrev tyL : Type := List (ClassId × FieldType)
abbrev rk (k c s : Nat) : Room := { frames := k, cells := c, slots := s, locals := 30 * k }
def nwL : List Cond := [.fieldLinkNest "LoanHouse$House" 70 "LoanHouse$Calendar" "now" "I" "LoanHouse", .fieldLinkNest "LoanHouse" 115 "LoanHouse$Calendar" "now" "I" "LoanHouse", .fieldLinkNest "LoanHouse" 160 "LoanHouse$Calendar" "term" "I" "LoanHouse", .fieldLinkNest "LoanHouse" 163 "LoanHouse$Calendar" "patience" "I" "LoanHouse", .fieldLinkNest "LoanHouse" 166 "LoanHouse$Calendar" "closed" "I" "LoanHouse", .fieldLinkNest "LoanHouse" 44 "LoanHouse$Copies" "count" "I" "LoanHouse", .fieldLinkNest "LoanHouse$House" 98 "LoanHouse$Copies" "count" "I" "LoanHouse", .fieldLinkNest "LoanHouse$House" 92 "LoanHouse$Holds" "count" "I" "LoanHouse", .fieldLinkNest "LoanHouse" 172 "LoanHouse$Holds" "count" "I" "LoanHouse", .fieldLinkNest "LoanHouse" 111 "LoanHouse$House" "calendar" "LLoanHouse$Calendar;" "LoanHouse", .fieldLinkNest "LoanHouse" 40 "LoanHouse$House" "copies" "LLoanHouse$Copies;" "LoanHouse", .fieldLinkNest "LoanHouse" 78 "LoanHouse$House" "holds" "LLoanHouse$Holds;" "LoanHouse", .fieldLinkNest "LoanHouse" 177 "LoanHouse$House" "trips" "I" "LoanHouse",
  .methodLinkNest "LoanHouse" 9 ⟨"LoanHouse$House", "<init>", "()V"⟩ "LoanHouse", .methodLinkNest "LoanHouse$House" 11 ⟨"LoanHouse$Calendar", "<init>", "()V"⟩ "LoanHouse", .methodLinkNest "LoanHouse$House" 20 ⟨"LoanHouse$Copies", "<init>", "()V"⟩ "LoanHouse", .methodLinkNest "LoanHouse$House" 27 ⟨"LoanHouse$Holds", "<init>", "()V"⟩ "LoanHouse", .methodLinkNest "LoanHouse" 30 ⟨"LoanHouse$Lots", "<init>", "()V"⟩ "LoanHouse", .methodLinkNest "LoanHouse$Pictures" 21 ⟨"LoanHouse", "isBelow", "(II)Z"⟩ "LoanHouse", .methodLinkNest "LoanHouse$Pictures" 27 ⟨"LoanHouse$House", "<init>", "()V"⟩ "LoanHouse", .methodLinkNest "LoanHouse$Copies" 64 ⟨"LoanHouse", "way", "(II)I"⟩ "LoanHouse", .methodLinkNest "LoanHouse$Holds" 39 ⟨"LoanHouse", "isBelow", "(II)Z"⟩ "LoanHouse", .methodLinkNest "LoanHouse$House" 121 ⟨"LoanHouse", "way", "(II)I"⟩ "LoanHouse"]
def isNw : Cond → Bool
  | .fieldLinkNest _ _ _ _ _ _ => true
  | .methodLinkNest _ _ _ _ => true
  | _ => false
theorem nwL_all : nwL.all isNw = true := by decide +kernel
theorem nw_warm {w : Cond} {s U : State} (h : isNw w = true) (hW : s.WarmedH U.vm) (hZ : va_Nw w s) : va_Nw w U := by
  cases w <;> first | (exact va_Nw.warmF hW hZ) | (exact va_Nw.warmM hW hZ) | (simp [isNw] at h; done)
theorem nw_same {w : Cond} {s U : State} (h : isNw w = true) (hvm : s.vm = U.vm) (hZ : va_Nw w s) : va_Nw w U := by
  cases w <;> first | (exact va_Nw.same rfl hvm hZ) | (simp [isNw] at h; done)
def nW (U : State) : Prop := (∀ w ∈ nwL, va_Nw w U) ∧ va_AO "LoanHouse$House" U
theorem nW.warm {s U : State} (h : nW s) (hW : s.WarmedH U.vm) : nW U := ⟨fun w hw => nw_warm (List.all_eq_true.mp nwL_all w hw) hW (h.1 w hw), va_AO.moved hW.alike h.2⟩
theorem nW.same {s U : State} (h : nW s) (hvm : s.vm = U.vm) : nW U := ⟨fun w hw => nw_same (List.all_eq_true.mp nwL_all w hw) hvm (h.1 w hw), va_AO.moved (by rw [hvm]; exact Vm.Alike.refl U.vm) h.2⟩
theorem nW.at {s : State} (h : nW s) (k : Nat) {w : Cond} (hk : nwL[k]? = some w) : va_Nw w s := h.1 w (List.mem_of_getElem? hk)
def mP (D : va_G) (tys : tyL) (sz : Nat) (ws : va_W) : State → Prop := fun U => U.heap.size = sz ∧ va_P D vwCl ws U.heap ∧ va_K D vwCl tys U ∧ va_D (fun _ => True) ws ∧ nW U
def mB {S : Type} (D : va_G) (A : Nat → Prop) (T1 : S → tyL) (W1 : S → va_W) : S → State → Prop := fun u t => va_P D vwCl (W1 u) t.heap ∧ va_K D vwCl (T1 u) t ∧ va_D A (W1 u)
abbrev mI (l : Launch) (y : MethodName) (ws : List Cond) (rm : Room) (D : va_G) (av : List Value) (tys : tyL) (sz : Nat) (w0 : va_W) {S : Type} (post : Int32 → S → Prop) (T1 : S → tyL) (W1 : S → va_W) : Prop :=
  Met l y ws rm (va_Pc av (mP D tys sz w0)) (va_Qi post (mB D (va_A w0 sz) T1 W1) (va_A w0 sz)) rm.cells rm.slots (va_A w0 sz)
abbrev mV (l : Launch) (y : MethodName) (ws : List Cond) (rm : Room) (D : va_G) (av : List Value) (tys : tyL) (sz : Nat) (w0 : va_W) {S : Type} (post : S → Prop) (T1 : S → tyL) (W1 : S → va_W) : Prop :=
  Met l y ws rm (va_Pc av (mP D tys sz w0)) (va_Qv post (mB D (va_A w0 sz) T1 W1) (va_A w0 sz)) rm.cells rm.slots (va_A w0 sz)
theorem mP_blind {av : List Value} {D : va_G} {tys : tyL} {sz : Nat} {ws : va_W} : FrameBlind (va_Pc av (mP D tys sz ws)) := fun a U g mk q => by
  obtain ⟨q0, q1, qP, qK, qD, qN⟩ := q
  exact ⟨q0, q1, qP, va_K.moved (u := U) (U := U.calling g mk a) (Vm.Alike.refl U.vm) qK, qD, qN.same (U := U.calling g mk a) rfl⟩
theorem m_at {ws w : va_W} {is : List Nat} (hs : is.map (fun i => ws[i]?) = w.map some) {k : Nat} {q : Nat × va_E} (hq : w[k]? = some q) : ∃ i, is[k]? = some i ∧ ws[i]? = some q := by
  have h1 : (is.map (fun i => ws[i]?))[k]? = some (some q) := by rw [hs, List.getElem?_map, hq]; rfl
  rw [List.getElem?_map] at h1
  cases hi : is[k]? with
  | none => rw [hi] at h1; cases h1
  | some i => rw [hi] at h1; exact ⟨i, rfl, Option.some.inj h1⟩
theorem m_to {ws w : va_W} {is : List Nat} (hs : is.map (fun i => ws[i]?) = w.map some) {k i : Nat} {q : Nat × va_E} (hi : is[k]? = some i) (hq : ws[i]? = some q) : w[k]? = some q := by
  have h1 : (w.map some)[k]? = some (some q) := by rw [← hs, List.getElem?_map, hi]; exact congrArg some hq
  rw [List.getElem?_map] at h1
  cases hw : w[k]? with
  | none => rw [hw] at h1; cases h1
  | some x => rw [hw] at h1; exact Option.some.inj h1
theorem m_P {D : va_G} {ws w : va_W} {H : Heap} (hP : va_P D vwCl ws H) {is : List Nat} (hs : is.map (fun i => ws[i]?) = w.map some) : va_P D vwCl w H := fun k q hq => by
  obtain ⟨i, -, h2⟩ := m_at hs hq
  exact hP i q h2
theorem m_pre {D : va_G} {s : State} {tys tysc : tyL} {ws wc : va_W} {A : Nat → Prop} {H : Heap} (av : List Value) (hN : nW s) (hK : va_K D vwCl tys s) (hP : va_P D vwCl ws H) (hD : va_D A ws) (isT : List Nat) (hT : isT.filterMap (fun i => tys[i]?) = tysc) (isC : List Nat) (hC : isC.map (fun i => ws[i]?) = wc.map some) (hn : va_nd isC = true) :
    ∀ U : State, U.heap = H → s.WarmedH U.vm → va_Pc av (mP D tysc H.size wc) av.toArray U := fun U hU hW =>
  ⟨rfl, by rw [hU], by rw [hU]; exact m_P hP hC, va_K.moved hW.alike (hK.sub isT hT), (hD.sub isC hn hC).weaken (fun _ _ _ _ => trivial), hN.warm hW⟩
section KK
variable {p : Program} {l : Launch} {e : Env} {R : Room} {s : State} {m : MethodId} {args : Array Value} {below : List Frame} {meth : Method} {c : Code} {H : Heap} {locs : List Loc} {cells slots : Nat} {Q : State → Prop}
variable {pc : Nat} {ls : Array Slot} {rest st0 : List Value} {a : Array Value} {A : Nat → Prop} {H0 : Heap} {mc ms : Nat} {D : va_G} {tys : tyL} {ws wc wr : va_W}
/-- a call that answers an int: the rest of the world and what came back -/
theorem k_i {S : Type} {post : Int32 → S → Prop} {T1 : S → tyL} {W1 : S → va_W} (hr : va_Run p l e R s m args below meth c H locs cells slots mc ms (F0 m pc ls st0) rest (va_Qi post (mB D (va_A wc H.size) T1 W1) (va_A wc H.size) a) (va_A wc H.size)) (hP : va_P D vwCl ws H) (hD : va_D A ws) (hS : va_S A H0 H locs) (hA : ∀ q, H0.size ≤ q → A q) (isC isR : List Nat) (hC : isC.map (fun i => ws[i]?) = wc.map some) (hR : isR.map (fun i => ws[i]?) = wr.map some) (hn : va_nd isR = true) (hdis : ∀ i ∈ isR, i ∉ isC)
    (kk : ∀ (r : Int32) (u : S) (H1 : Heap) (locs1 : List Loc), post r u → va_K D vwCl (T1 u) s → va_P D vwCl (wr ++ W1 u) H1 → va_D A (wr ++ W1 u) → va_S A H0 H1 locs1 → W p l e R s m args below meth c H1 locs1 (cells + mc) (slots + ms) Q (F0 m (pc + 3) ls (.int r :: rest))) : W p l e R s m args below meth c H locs cells slots Q (F0 m pc ls st0) := by
  have hF := va_free (wc := wc) hD hS hA isC hC
  refine va_calli hr hS (fun q _ h => hF q h) hF (fun r u t H1 locs1 ht hvm hw hB hz1 hk1 hS1 => ?_)
  obtain ⟨hP1, hK1, hD1⟩ := hB
  rw [ht] at hP1
  obtain ⟨hP2, hD2⟩ := va_join (wr := wr) (w1 := W1 u) hP hD isC isR hC hR hn hdis hk1 hF hP1 hD1
  exact kk r u H1 locs1 hw (va_K.moved hvm.symm hK1) hP2 hD2 hS1
theorem k_v {S : Type} {post : S → Prop} {T1 : S → tyL} {W1 : S → va_W} (hr : va_Run p l e R s m args below meth c H locs cells slots mc ms (F0 m pc ls st0) rest (va_Qv post (mB D (va_A wc H.size) T1 W1) (va_A wc H.size) a) (va_A wc H.size)) (hP : va_P D vwCl ws H) (hD : va_D A ws) (hS : va_S A H0 H locs) (hA : ∀ q, H0.size ≤ q → A q) (isC isR : List Nat) (hC : isC.map (fun i => ws[i]?) = wc.map some) (hR : isR.map (fun i => ws[i]?) = wr.map some) (hn : va_nd isR = true) (hdis : ∀ i ∈ isR, i ∉ isC)
    (kk : ∀ (u : S) (H1 : Heap) (locs1 : List Loc), post u → va_K D vwCl (T1 u) s → va_P D vwCl (wr ++ W1 u) H1 → va_D A (wr ++ W1 u) → va_S A H0 H1 locs1 → W p l e R s m args below meth c H1 locs1 (cells + mc) (slots + ms) Q (F0 m (pc + 3) ls rest)) : W p l e R s m args below meth c H locs cells slots Q (F0 m pc ls st0) := by
  have hF := va_free (wc := wc) hD hS hA isC hC
  refine va_callv hr hS (fun q _ h => hF q h) hF (fun u t H1 locs1 ht hvm hw hB hz1 hk1 hS1 => ?_)
  obtain ⟨hP1, hK1, hD1⟩ := hB
  rw [ht] at hP1
  obtain ⟨hP2, hD2⟩ := va_join (wr := wr) (w1 := W1 u) hP hD isC isR hC hR hn hdis hk1 hF hP1 hD1
  exact kk u H1 locs1 hw (va_K.moved hvm.symm hK1) hP2 hD2 hS1
theorem m_kept {H1 : Heap} (hP : va_P D vwCl ws H) (hD : va_D A ws) (isC : List Nat) (hC : isC.map (fun i => ws[i]?) = wc.map some) (hk : ∀ q : Nat, q < H.size → ¬ va_A wc H.size q → H1[q]? = H[q]?) (hP1 : va_P D vwCl wc H1) : va_P D vwCl ws H1 := fun k q hq => by
  by_cases hkC : k ∈ isC
  · obtain ⟨j, hj⟩ := List.mem_iff_getElem?.mp hkC
    exact hP1 j q (m_to hC hj hq)
  · have hl := (hP k q hq).lt
    refine (hP k q hq).kept (hk q.1 hl (fun h => ?_))
    rcases h with ⟨k2, e2, h⟩ | h
    · obtain ⟨i, h3, h4⟩ := m_at hC h
      have hij := hD.1 k i q (q.1, e2) hq h4 rfl
      subst hij
      exact hkC (List.mem_of_getElem? h3)
    · omega
/-- a call that changes nothing of the world -/
theorem k_pi {S : Type} {post : Int32 → S → Prop} {T1 : S → tyL} (hr : va_Run p l e R s m args below meth c H locs cells slots 0 0 (F0 m pc ls st0) rest (va_Qi post (mB D (va_A wc H.size) T1 (fun _ => wc)) (va_A wc H.size) a) (va_A wc H.size)) (hP : va_P D vwCl ws H) (hD : va_D A ws) (hS : va_S A H0 H locs) (hA : ∀ q, H0.size ≤ q → A q) (isC : List Nat) (hC : isC.map (fun i => ws[i]?) = wc.map some)
    (kk : ∀ (r : Int32) (u : S) (H1 : Heap) (locs1 : List Loc), post r u → va_P D vwCl ws H1 → va_S A H0 H1 locs1 → W p l e R s m args below meth c H1 locs1 cells slots Q (F0 m (pc + 3) ls (.int r :: rest))) : W p l e R s m args below meth c H locs cells slots Q (F0 m pc ls st0) := by
  have hF := va_free (wc := wc) hD hS hA isC hC
  refine va_calli hr hS (fun q _ h => hF q h) hF (fun r u t H1 locs1 ht hvm hw hB hz1 hk1 hS1 => ?_)
  obtain ⟨hP1, hK1, hD1⟩ := hB
  rw [ht] at hP1
  exact kk r u H1 locs1 hw (m_kept hP hD isC hC hk1 hP1) hS1
theorem k_pv {S : Type} {post : S → Prop} {T1 : S → tyL} (hr : va_Run p l e R s m args below meth c H locs cells slots 0 0 (F0 m pc ls st0) rest (va_Qv post (mB D (va_A wc H.size) T1 (fun _ => wc)) (va_A wc H.size) a) (va_A wc H.size)) (hP : va_P D vwCl ws H) (hD : va_D A ws) (hS : va_S A H0 H locs) (hA : ∀ q, H0.size ≤ q → A q) (isC : List Nat) (hC : isC.map (fun i => ws[i]?) = wc.map some)
    (kk : ∀ (u : S) (H1 : Heap) (locs1 : List Loc), post u → va_P D vwCl ws H1 → va_S A H0 H1 locs1 → W p l e R s m args below meth c H1 locs1 cells slots Q (F0 m (pc + 3) ls rest)) : W p l e R s m args below meth c H locs cells slots Q (F0 m pc ls st0) := by
  have hF := va_free (wc := wc) hD hS hA isC hC
  refine va_callv hr hS (fun q _ h => hF q h) hF (fun u t H1 locs1 ht hvm hw hB hz1 hk1 hS1 => ?_)
  obtain ⟨hP1, hK1, hD1⟩ := hB
  rw [ht] at hP1
  exact kk u H1 locs1 hw (m_kept hP hD isC hC hk1 hP1) hS1
end KK
/-- as the kit's row for a plainly named class, for one method that no entry runs in its bytecode's place -/
theorem met_ofWF {l : Launch} {y : MethodName} {ws ws' : List Cond} {rm : Room} {Pc : Array Value → State → Prop} {Qc : Array Value → State → Outcome → State → Prop} {mc ms : Nat} {free : Addr → Prop} {cc : ByteArray} {maxL : Nat} {ret : Option FieldType}
    (hy : plainFor y = true) (hw : ws = Cond.code y cc maxL ret :: ws')
    (body : ∀ p e s m args below meth c s₁, BodyLoose p l y (headSpec ws rm) cc maxL ret e s m args below meth c s₁ → c.maxLocals = maxL → Pc args s →
      W p l e (headSpec ws rm).room s m args below meth c s.heap [] 0 0 (MQ below Qc args s mc ms free) (entryFrame m args maxL)) : Met l y ws rm Pc Qc mc ms free := by
  refine MetFree.of_bodySF (code := cc) (maxLocals := maxL) (ret := ret) hy ?_ ?_
  · intro args s m h hn
    obtain ⟨meth, c, h1, h2, h3, h4, h5, h6, -, -⟩ := Cond.code_spec hn (atoms_spec (ws := ws) h _ (by rw [hw]; exact List.mem_cons_self))
    exact ⟨meth, c, h1, h2, h3, h4, h5, h6⟩
  · intro p e s m args below meth c s₁ B hml hP _
    have hh0 : s₁.heap = s.heap := by rw [B.state]; rfl
    obtain ⟨t, a1, o, b1, b2, b3⟩ := body p e s m args below meth c s₁ B hml hP s₁ hh0 (Stand.of_body B)
    exact ⟨t, o, a1, b1, b2, ⟨b3.1, b3.2⟩⟩
/-- a method's walk: from its entry to a return -/
theorem mI_of {l : Launch} {y : MethodName} {ws ws' : List Cond} {rm : Room} {D : va_G} {av : List Value} {tys : tyL} {sz : Nat} {w0 : va_W} {S : Type} {post : Int32 → S → Prop} {T1 : S → tyL} {W1 : S → va_W} {cc : ByteArray} {maxL : Nat} {ty : FieldType} (hy : plainFor y = true) (hw : ws = Cond.code y cc maxL (some ty) :: ws') (hlen : (lg_sl av).length ≤ maxL)
    (body : ∀ (p : Program) (e : Env) (s : State) (m : MethodId) (below : List Frame) (meth : Method) (c : Code) (A : Nat → Prop) (Q : State → Prop), p.tables.exec = Jvm.exec → c.code = cc → c.maxLocals = maxL → (∀ w ∈ ws, w.before av.toArray s = true) → s.vm.findClass y.cls = some m.cls → nW s → (∀ q, s.heap.size ≤ q → A q) → va_K D vwCl tys s → va_P D vwCl w0 s.heap → va_D A w0 → va_S A s.heap s.heap [] →
      (∀ (v : Int32) (u : S) {H : Heap} {locs : List Loc} {cells slots : Nat} {ls : Array Slot} {pc : Nat}, narrow ty (.int v) = .int v → post v u → va_P D vwCl (W1 u) H → va_K D vwCl (T1 u) s → va_D A (W1 u) → va_S A s.heap H locs → cells ≤ rm.cells → slots ≤ rm.slots → decode cc pc = .ok (.ireturn, 1) → W p l e rm s m av.toArray below meth c H locs cells slots Q (F0 m pc ls [.int v])) →
      ∀ ls : Array Slot, lv_has ls maxL (lv_args 0 av) → W p l e rm s m av.toArray below meth c s.heap [] 0 0 Q (F0 m 0 ls [])) :
    mI l y ws rm D av tys sz w0 post T1 W1 := by
  refine met_ofWF (cc := cc) (maxL := maxL) (ret := some ty) hy hw ?_
  intro p e s m args below meth c s₁ B hml hv
  obtain ⟨rfl, hsz, hP, hK, hD0, hN⟩ := hv
  subst hsz
  have hD := hD0.self (sz := s.heap.size)
  have hl := lv_entry av (n := maxL) hlen
  have hlocks := B.notSynchronized
  rw [lg_entry_eq]
  refine body p e s m below meth c (va_A w0 s.heap.size) _ B.exec B.bytes hml (atoms_spec (ws := ws) B.pre) (findClass_of_methodNamed B.named) hN (fun q h => Or.inr h) hK hP hD va_S.rf ?_ _ hl
  intro v u H locs cells slots ls pc hnar hpost hP1 hK1 hD1 hS hc hs hdg
  refine W.widen (k := rm.cells) (n := rm.slots) hc hs ?_
  exact W.zret (v := v) B.exec B.bytes B.returns hnar (fun t ht hW => ⟨⟨v, u, rfl, hpost, by rw [ht]; exact hP1, va_K.moved hW.alike hK1, hD1⟩, hS.F ht⟩) hS.2.2 hdg
theorem mV_of {l : Launch} {y : MethodName} {ws ws' : List Cond} {rm : Room} {D : va_G} {av : List Value} {tys : tyL} {sz : Nat} {w0 : va_W} {S : Type} {post : S → Prop} {T1 : S → tyL} {W1 : S → va_W} {cc : ByteArray} {maxL : Nat} (hy : plainFor y = true) (hw : ws = Cond.code y cc maxL none :: ws') (hlen : (lg_sl av).length ≤ maxL)
    (body : ∀ (p : Program) (e : Env) (s : State) (m : MethodId) (below : List Frame) (meth : Method) (c : Code) (A : Nat → Prop) (Q : State → Prop), p.tables.exec = Jvm.exec → c.code = cc → c.maxLocals = maxL → (∀ w ∈ ws, w.before av.toArray s = true) → s.vm.findClass y.cls = some m.cls → nW s → (∀ q, s.heap.size ≤ q → A q) → va_K D vwCl tys s → va_P D vwCl w0 s.heap → va_D A w0 → va_S A s.heap s.heap [] → meth.name = y.name →
      (∀ (u : S) {H : Heap} {locs : List Loc} {cells slots : Nat} {ls : Array Slot} {pc : Nat}, post u → va_P D vwCl (W1 u) H → va_K D vwCl (T1 u) s → va_D A (W1 u) → va_S A s.heap H locs → cells ≤ rm.cells → slots ≤ rm.slots → decode cc pc = .ok (.return_, 1) → W p l e rm s m av.toArray below meth c H locs cells slots Q (F0 m pc ls [])) →
      ∀ ls : Array Slot, lv_has ls maxL (lv_args 0 av) → W p l e rm s m av.toArray below meth c s.heap [] 0 0 Q (F0 m 0 ls [])) :
    mV l y ws rm D av tys sz w0 post T1 W1 := by
  refine met_ofWF (cc := cc) (maxL := maxL) (ret := none) hy hw ?_
  intro p e s m args below meth c s₁ B hml hv
  obtain ⟨rfl, hsz, hP, hK, hD0, hN⟩ := hv
  subst hsz
  have hD := hD0.self (sz := s.heap.size)
  have hl := lv_entry av (n := maxL) hlen
  have hlocks := B.notSynchronized
  rw [lg_entry_eq]
  refine body p e s m below meth c (va_A w0 s.heap.size) _ B.exec B.bytes hml (atoms_spec (ws := ws) B.pre) (findClass_of_methodNamed B.named) hN (fun q h => Or.inr h) hK hP hD va_S.rf (name_of_methodNamed B.named B.method).1 ?_ _ hl
  intro u H locs cells slots ls pc hpost hP1 hK1 hD1 hS hc hs hdg
  refine W.widen (k := rm.cells) (n := rm.slots) hc hs ?_
  exact W.vret B.exec B.bytes B.returns (fun t ht hW => ⟨⟨u, rfl, hpost, by rw [ht]; exact hP1, va_K.moved hW.alike hK1, hD1⟩, hS.F ht⟩) hS.2.2 hdg
theorem sw_split {P : Prop} (x : Int32) (n : Nat) (hn : n < 2 ^ 31) (hin : ∀ k, k < n → x = nI k → P) (hout : x.toInt < 0 ∨ (n : Int) ≤ x.toInt → P) : P := by
  rcases pk_ix x hn with h | h | ⟨j, hj, hx⟩
  · exact hout (Or.inl (by have := Int32.lt_iff_toInt_lt.mp h; simpa using this))
  · exact hout (Or.inr (by have := Int32.le_iff_toInt_le.mp h; rw [nI_toInt hn] at this; exact this))
  · exact hin j hj hx

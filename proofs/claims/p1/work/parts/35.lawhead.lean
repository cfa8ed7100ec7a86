/-! THE CLAIM OUT OF ONE WALK OF THE LAW'S BODY. Your part is whole_start (and what it stands on); all else here is the same for every law, but numbers. -/
def R_law : String := "LoanHouseLaw"
def lw_P (b : Addr) (xs : List Int32) (args : Array Value) (s : State) : Prop := args = #[.ref b] ∧ s.IntsAt b xs ∧ xs.length ≤ 5 ∧ (Jvm.Cond.and given_1 narrow_1).before args s = true
def lw_Q (_ : Array Value) (s : State) (o : Outcome) (t : State) : Prop := o = .returned (some (.int 1)) ∧ Framed s o t [] 600000 7302249
def lw_Z (below : List Frame) (a : Array Value) (s : State) : State → Prop := fun t => ∃ o, t.status = .running ∧ Ended t below o ∧ lw_Q a s o t
/-- the law's own end, with 1 on the stack, nothing written that was there before, its room as the claim has it -/
theorem lw_ret {p : Program} {l : Launch} {e : Env} {s : State} {m : MethodId} {below : List Frame} {meth : Method} {c : Code} {b : Nat} (hx : p.tables.exec = Jvm.exec) (hb : c.code = code) (hr : meth.sig.returnType = ret) (hlocks : meth.locks = false) {pc : Nat} {H : Heap} {ls : Array Slot} (hdg : decode code pc = .ok (.ireturn, 1)) : W p l e room_1 s m #[Value.ref b] below meth c H [] 600000 7302249 (lw_Z below #[Value.ref b] s) (F0 m pc ls [.int 1]) := by
  intro T hT X
  obtain ⟨fs, hret, hrun, hended, hW, hframe⟩ := X.leave (v := some (.int 1)) (hlocks := hlocks) (fun h => by rw [hr] at h; cases h)
  have hmeth' : T.vm.method? m = some meth := X.method'
  refine ⟨T.setFrames fs, ?_, .returned (some (.int 1)), hrun, hended, rfl, ⟨_, rfl⟩, hW, hframe⟩
  jvm_step X.here [X.here.top, hx, hb, hdg, hmeth', hr, ret, narrow_b1]
  (try refine ⟨rfl, ?_⟩); (try refine ⟨rfl, ?_⟩)
  first | (intro acts; rw [hret _ acts rfl rfl rfl]) | rw [hret _ _ rfl rfl rfl]
  exact Steps.refl _
/-- what holds at the law's entry: the machine, the code, the tables' words (any of lw_tbl by 'hts w (by decide +kernel)'), the script of L ints xs at the cell b, what the Statement gives of the start (any of its parts by flat_of_before) -/
def lw_At (p : Program) (s : State) (m : MethodId) (meth : Method) (c : Code) (b L : Nat) (xs : Nat → Int32) : Prop :=
  p.tables.exec = Jvm.exec ∧ c.code = code ∧ meth.sig.returnType = ret ∧ c.maxLocals = 4 ∧ s.vm.findClass R_law = some m.cls ∧ (∀ w ∈ lw_tbl, w.before #[Value.ref b] s = true) ∧ va_X b L xs s s.heap ∧ b < s.heap.size ∧ meth.locks = false ∧ (Jvm.Cond.and given_1 narrow_1).before #[Value.ref b] s = true
theorem nw_eq : nwL = [34, 35, 37, 39, 41, 78, 80, 96, 97, 107, 109, 111, 113, 23, 29, 53, 88, 138, 182, 183, 272, 291, 298].filterMap (fun i => tables_1[i]?) := by decide +kernel
theorem nw_in : ∀ w ∈ nwL, w ∈ lw_tbl := fun w hw => by
  rw [nw_eq] at hw
  obtain ⟨i, -, hi⟩ := List.mem_filterMap.mp hw
  exact List.mem_append_right _ (List.mem_of_getElem? hi)
theorem nw_on {w : Cond} (h : isNw w = true) : w.onTables = true := by
  cases w <;> first | rfl | (simp [isNw] at h; done)
theorem law_nW {ss : State} {a : Array Value} (hts0 : ∀ w ∈ lw_tbl, w.before a ss = true) : nW ss := ⟨fun w hw => va_Nw.of (nw_on (List.all_eq_true.mp nwL_all w hw)) (hts0 w (nw_in w hw)), va_AO.of (hts0 (.arrayOver (.object "LoanHouse$House")) (List.mem_append_right _ (List.mem_of_getElem? (i := 131) (by decide +kernel))))⟩
theorem told_eq {w r r' : Int32} (h : r = a_told w) (h' : r' = a_told w) : r = r' := h.trans h'.symm
theorem hold_eq {A B : Prop} {r r' : Int32} (h : (r = -1000000001 ∧ ¬ A) ∨ (r = -1000000002 ∧ A ∧ ¬ B) ∨ (r = 0 ∧ A ∧ B)) (h' : (r' = -1000000001 ∧ ¬ A) ∨ (r' = -1000000002 ∧ A ∧ ¬ B) ∨ (r' = 0 ∧ A ∧ B)) : r = r' := by
  rcases h with ⟨e, a⟩ | ⟨e, a, b⟩ | ⟨e, a, b⟩ <;> rcases h' with ⟨e', a'⟩ | ⟨e', a', b'⟩ | ⟨e', a', b'⟩ <;> first | (rw [e, e']; done) | exact absurd a' a | exact absurd a a' | exact absurd b' b | exact absurd b b'
theorem short {L : Nat} {x : Int32} (h : L < 5) (e : x = Int32.ofNat L - 5) : x < 0 := by
  subst e
  match L, h with
  | 0, _ => decide
  | 1, _ => decide
  | 2, _ => decide
  | 3, _ => decide
  | 4, _ => decide
  | L + 5, h => exact absurd h (by omega)

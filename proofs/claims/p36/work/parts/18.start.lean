/-! THE CLAIM OUT OF ONE WALK OF THE LAW'S BODY. Your part is whole_start (and what it stands on); all else here is the same for every law, but numbers. -/
def R_law : String := "FreePortLaw"
def lw_P (b : Addr) (xs : List Int32) (args : Array Value) (s : State) : Prop := args = #[.ref b] ∧ s.IntsAt b xs ∧ xs.length ≤ 260 ∧ (Jvm.Cond.and given_1 narrow_1).before args s = true
def lw_Q (_ : Array Value) (s : State) (o : Outcome) (t : State) : Prop := o = .returned (some (.int 1)) ∧ Framed s o t [] 716531 6952104
def lw_Z (below : List Frame) (a : Array Value) (s : State) : State → Prop := fun t => ∃ o, t.status = .running ∧ Ended t below o ∧ lw_Q a s o t
/-- the law's own end, with 1 on the stack, nothing written that was there before, its room as the claim has it -/
theorem lw_ret {p : Program} {l : Launch} {e : Env} {s : State} {m : MethodId} {below : List Frame} {meth : Method} {c : Code} {b : Nat} (hx : p.tables.exec = Jvm.exec) (hb : c.code = code) (hr : meth.sig.returnType = ret) (hlocks : meth.locks = false) {pc : Nat} {H : Heap} {ls : Array Slot} (hdg : decode code pc = .ok (.ireturn, 1)) : W p l e room_1 s m #[Value.ref b] below meth c H [] 716531 6952104 (lw_Z below #[Value.ref b] s) (F0 m pc ls [.int 1]) := by
  intro T hT X
  obtain ⟨fs, hret, hrun, hended, hW, hframe⟩ := X.leave (v := some (.int 1)) (hlocks := hlocks) (fun h => by rw [hr] at h; cases h)
  have hmeth' : T.vm.method? m = some meth := X.method'
  refine ⟨T.setFrames fs, ?_, .returned (some (.int 1)), hrun, hended, rfl, ⟨_, rfl⟩, hW, hframe⟩
  jvm_step X.here [X.here.top, hx, hb, hdg, hmeth', hr, ret, narrow_b1]
  (try refine ⟨rfl, ?_⟩); (try refine ⟨rfl, ?_⟩)
  first | (intro acts; rw [hret _ acts rfl rfl rfl]) | rw [hret _ _ rfl rfl rfl]
  exact Steps.refl _
/-- what holds at the law's entry: the machine, the code, the tables' words (any of lw_tbl by 'hts w (by decide +kernel)'), the script of L ints xs at the cell b, what the Statement gives of the start (any of its parts by flat_of_before) -/
def lw_At (p : Program) (s : State) (m : MethodId) (meth : Method) (c : Code) (b L : Nat) (xs : Nat → Int32) : Prop :=
  p.tables.exec = Jvm.exec ∧ c.code = code ∧ meth.sig.returnType = ret ∧ c.maxLocals = 9 ∧ s.vm.findClass R_law = some m.cls ∧ (∀ w ∈ lw_tbl, w.before #[Value.ref b] s = true) ∧ va_X b L xs s s.heap ∧ b < s.heap.size ∧ meth.locks = false ∧ (Jvm.Cond.and given_1 narrow_1).before #[Value.ref b] s = true
/-! THE START: what the Statement gives at the law's entry -/
theorem inst_ok {K : Nat} (hK : K < 8) : ∀ q, vwCl[K]? = some q → Cond.instantiable q.1 q.2.2 ∈ gtbl := by
  intro q hq
  rcases (show K = 0 ∨ K = 1 ∨ K = 2 ∨ K = 3 ∨ K = 4 ∨ K = 5 ∨ K = 6 ∨ K = 7 by omega) with rfl | rfl | rfl | rfl | rfl | rfl | rfl | rfl
  · cases hq; exact gw 551 _ (by decide +kernel) (by decide +kernel)
  · cases hq; exact gw 623 _ (by decide +kernel) (by decide +kernel)
  · cases hq; exact gw 321 _ (by decide +kernel) (by decide +kernel)
  · cases hq; exact gw 231 _ (by decide +kernel) (by decide +kernel)
  · cases hq; exact gw 514 _ (by decide +kernel) (by decide +kernel)
  · cases hq; exact gw 385 _ (by decide +kernel) (by decide +kernel)
  · cases hq; exact gw 272 _ (by decide +kernel) (by decide +kernel)
  · cases hq; exact gw 54 _ (by decide +kernel) (by decide +kernel)
theorem strs_in : ∀ q ∈ strs, Cond.stringRef q.1 q.2.1 q.2.2 ∈ lw_tbl ∧ Cond.exactly (.string q.1 q.2.1) "java/lang/String" ∈ flatC (Jvm.Cond.and given_1 narrow_1) := by decide +kernel
theorem ao_in : ∀ C ∈ aoL, Cond.arrayOver (.object C) ∈ lw_tbl := by decide +kernel
theorem nc_in : ∀ q ∈ ncL, Cond.not (.castable q.1 q.2) ∈ flatC (Jvm.Cond.and given_1 narrow_1) := by decide +kernel
theorem u1_in : Cond.isRef (.static Bundle.tN "UNASSIGNED_STACK" Bundle.steD) ∈ flatC (Jvm.Cond.and given_1 narrow_1) := by decide +kernel
theorem u2_in : Cond.isRef (.static Bundle.tN "SUPPRESSED_SENTINEL" Bundle.listD) ∈ flatC (Jvm.Cond.and given_1 narrow_1) := by decide +kernel
theorem u3_in : Cond.laysStatic Bundle.tN "UNASSIGNED_STACK" Bundle.steD ∈ lw_tbl := by decide +kernel
theorem u4_in : Cond.laysStatic Bundle.tN "SUPPRESSED_SENTINEL" Bundle.listD ∈ lw_tbl := by decide +kernel
theorem u5_in : Cond.initialized Bundle.tN ∈ lw_tbl := by decide +kernel
theorem ap_in : Cond.arrayClass .int ∈ lw_tbl ∧ Cond.arrayClass .boolean ∈ lw_tbl := by decide +kernel
theorem aty_in : ∀ q ∈ arT, aty q.1 = .int ∨ aty q.1 = .boolean ∨ ∃ C ∈ aoL, aty q.1 = .object C := by
  have h : ∀ q ∈ arT, (aty q.1 == .int || aty q.1 == .boolean || aoL.any (fun C => aty q.1 == .object C)) = true := by decide +kernel
  intro q hq
  have h1 := h q hq
  simp only [Bool.or_eq_true, beq_iff_eq, List.any_eq_true] at h1
  rcases h1 with (h1 | h1) | ⟨C, h2, h3⟩
  · exact Or.inl h1
  · exact Or.inr (Or.inl h1)
  · exact Or.inr (Or.inr ⟨C, h2, h3⟩)
theorem arCl_ex {s : State} {args : Array Value} (hts : ∀ w ∈ lw_tbl, w.before args s = true) {K : Nat} (hK : isAr K = true) : ∃ cA, ArCl s cA (aty K) := by
  have hp : ∀ ty : FieldType, Cond.arrayClass ty ∈ lw_tbl → (∀ C, ty ≠ .object C) → ∃ cA, ArCl s cA ty := fun ty hw hne => by
    obtain ⟨c, k, comp, h1, h2, h3⟩ := Cond.arrayClass_spec (args := args) (first := s) (o := none) (idx := []) (hts _ hw)
    exact ⟨c, ⟨k, comp, h2, h3, fun C hC => absurd hC (hne C)⟩, h1⟩
  unfold isAr at hK
  obtain ⟨q, hq, he⟩ := List.any_eq_true.mp hK
  have e : q.1 = K := by simpa using he
  subst e
  rcases aty_in q hq with h | h | ⟨C, hC, h⟩
  · rw [h]; exact hp _ ap_in.1 (fun C h => by cases h)
  · rw [h]; exact hp _ ap_in.2 (fun C h => by cases h)
  · rw [h]
    obtain ⟨comp, c, k, h1, h2, h3, h4, h5⟩ := Cond.arrayOver_spec (args := args) (first := s) (o := none) (idx := []) (hts _ (ao_in C hC))
    exact ⟨c, ⟨k, comp, h3, h4, fun C' hC' => by cases hC'; exact h1⟩, h5⟩
theorem whole_start0 {p : Program} {e : Env} {s : State} {m : MethodId} {below : List Frame} {meth : Method} {c : Code} (l : Launch) (hflags : l.flags = flags0) {b L : Nat} {xs : Nat → Int32} (hL : L ≤ 260) (C0 : lw_At p s m meth c b L xs) (hp : ∃ v', sp_law L xs v00 = some (0, 1, v')) : W p l e room_1 s m #[Value.ref b] below meth c s.heap [] 0 0 (lw_Z below #[Value.ref b] s) (entryFrame m ([Value.ref b] : List Value).toArray 9) := by
  obtain ⟨hx, hb, hr, hml, hown, hts, hX, hbl, hlocks, hgv⟩ := id C0
  have hg : ∀ w ∈ gtbl, ∀ a, w.before a s = true := fun w hw a => kw_move (List.mem_filter.mp hw).2 (State.WarmedH.refl s) (hts w (List.mem_filter.mp hw).1)
  have hfl := flat_of_before _ hgv
  have hcl : ∀ k : Nat, ∃ (cC : ClassId) (iS : Nat → Nat), ∀ q, vwCl[k]? = some q → u_Kn s q.1 q.2.1 q.2.2 cC iS := by
    intro k
    cases hq : vwCl[k]? with
    | none => exact ⟨0, fun _ => 0, fun q h => by cases h⟩
    | some q =>
      have hk : k < 8 := (List.getElem?_eq_some_iff.mp hq).1
      obtain ⟨-, -, -, e4⟩ := cl_spec hk hq
      obtain ⟨cC, iS, h⟩ := u_known (C := q.1) (T := q.2.1) (N := q.2.2) (n := q.2.2) (args := #[Value.ref b]) (fun w hw => hg w hw _) e4 (hg _ (inst_ok hk q hq) _)
      exact ⟨cC, iS, fun q' h' => by cases h'; exact h⟩
  have har : ∀ K : Nat, ∃ cA, isAr K = true → ArCl s cA (aty K) := fun K => by
    by_cases h : isAr K = true
    · obtain ⟨cA, h1⟩ := arCl_ex hts h
      exact ⟨cA, fun _ => h1⟩
    · exact ⟨0, fun q => absurd q h⟩
  obtain ⟨dC, hdC⟩ := Classical.axiomOfChoice hcl
  obtain ⟨dI, hdI⟩ := Classical.axiomOfChoice hdC
  obtain ⟨dA, hdA⟩ := Classical.axiomOfChoice har
  have hGd : Gd l (fun K => if K < 8 then dC K else dA K, dI) (fun q => s.heap.size ≤ q) s := by
    refine ⟨?_, fun q hq => hq, hg, ⟨fun k q hq => ?_, fun k q h => by simp at h⟩, fun K hK => ?_, fun q hq => ?_, fun C hC => va_AO.of (hts _ (ao_in C hC)), fun q hq => va_Nc.of (hfl _ (nc_in q hq)), vx_Zqof (hts _ u3_in) (hts _ u5_in) (hfl _ u1_in) (fun a ha h => absurd h (Nat.not_le_of_lt ha)), vx_Zqof (hts _ u4_in) (hts _ u5_in) (hfl _ u2_in) (fun a ha h => absurd h (Nat.not_le_of_lt ha))⟩
    · unfold Launch.stackTraces
      rw [hflags]
      decide +kernel
    · have hk : k < 8 := (List.getElem?_eq_some_iff.mp hq).1
      dsimp only
      rw [if_pos hk]
      exact hdI k q hq
    · dsimp only
      rw [if_neg (isAr_ge hK).2.2]
      exact hdA K hK
    · obtain ⟨h1, h2⟩ := strs_in q hq
      obtain ⟨a, c9, cell, k9, h3, -⟩ := Cond.exactly_spec (hfl _ h2)
      exact ⟨a, vk_R.of (hts _ h1) h3⟩
  obtain ⟨v', hv'⟩ := hp
  have F : Fx ((p, l, e, room_1, s, m), (#[Value.ref b], below, meth, c), (9, (fun K => if K < 8 then dC K else dA K, dI), (fun q => s.heap.size ≤ q), (fun _ _ => b), v00, some 2, 1)) cL_law RL meth.name room_1 9 (some 2) (some .boolean) 1 :=
    ⟨hx, hb, hown, rfl, hml, rfl, rfl, hr, rfl, hlocks, ⟨rfl, (fun h => absurd h (by decide)), (fun _ q hq => hq)⟩, hGd⟩
  have hXS : FxS ((p, l, e, room_1, s, m), (#[Value.ref b], below, meth, c), (9, (fun K => if K < 8 then dC K else dA K, dI), (fun q => s.heap.size ≤ q), (fun _ _ => b), v00, some 2, 1)) L xs := ⟨hX, hbl, fun q hq => hq, rfl, by omega⟩
  have k9 := k_law F hXS v00
  have hl := lv_entry ([.ref b]) (n := 9) (Nat.le_of_ble_eq_true rfl)
  rw [lg_entry_eq]
  generalize (lg_sl ([.ref b]) ++ List.replicate (9 - (lg_sl ([.ref b])).length) Slot.unset).toArray = ls at hl ⊢
  have d0 : ∀ W : V, (∀ (K : Nat) (i : Int), W 99 (K : Int) i = 0) → ∀ (B : Nat → Prop) (ad : Ad), Sto (fun K => if K < 8 then dC K else dA K, dI) B ad W s.heap := fun W h0 B ad => ⟨fun K i hK h => absurd ((h0 K i).symm.trans h) (by decide), fun K K' i i' hK hK' h => absurd ((h0 K i).symm.trans h) (by decide)⟩
  have z0 : ∀ (K : Nat) (i j : Int), 1000 ≤ K → v00 K i j = 0 := fun K i j h => by unfold v00; rw [if_neg (by omega)]
  have k8 := k9 (by rw [hv']; exact fun h => by cases h) (fun _ _ => b) s.heap [] ls ⟨fun _ _ => b, fun _ _ => b, fun h => absurd (show (0 : Int) = 1 from h) (by decide), fun h => absurd (show (0 : Int) = 1 from h) (by decide), d0 _ (fun K i => z0 (1000 + 2 * 99) _ _ (by decide)) _ _, d0 _ (fun K i => z0 (1001 + 2 * 99) _ _ (by decide)) _ _⟩ Ext.rf va_S.rf hl (fun q hq => by rw [List.mem_singleton.mp hq]; exact (okv_ref (K := 98)).mpr (Or.inr ⟨Int.le_refl 0, rfl⟩)) (fun a ha => by cases ha)
  intro T hT X
  obtain ⟨t, a1, b1⟩ := k8 T hT X
  exact ⟨t, a1, b1 ⟨v', hv'⟩⟩

/-! CORE 2: what a state's tables give, and how it moves; the store in the heap; contracts -/
def isNestW : Cond → Bool
  | .fieldLinkNest .. => true
  | .methodLinkNest .. => true
  | _ => false
def kw (w : Cond) : Bool := goodWord w || (w.onTables && (w.keepsFace || isNestW w))
def gtbl : List Cond := lw_tbl.filter kw
theorem gw (k : Nat) (w : Cond) (h : lw_tbl[k]? = some w) (h2 : kw w = true) : w ∈ gtbl := List.mem_filter.mpr ⟨List.mem_of_getElem? h, h2⟩
theorem kw_move {w : Cond} (hk : kw w = true) {s U : State} {a a' : Array Value} (hW : s.WarmedH U.vm) (h : w.before a s = true) : w.before a' U = true := by
  unfold kw at hk
  rcases Bool.or_eq_true _ _ ▸ hk with h1 | h1
  · exact word_at hW (good_of_word h1) h
  · rw [Bool.and_eq_true] at h1
    obtain ⟨h2, h3⟩ := h1
    rcases Bool.or_eq_true _ _ ▸ h3 with h4 | h4
    · have h5 := Cond.before_shiftedFace (State.Shifted.of_warmed hW) w h4 h
      exact va_tabs h2 (rfl : (s.setVm U.vm).vm = U.vm) h5
    · cases w with
      | fieldLinkNest a1 a2 a3 a4 a5 a6 => exact va_Nw.use rfl (va_Nw.warmF hW (va_Nw.of rfl h))
      | methodLinkNest a1 a2 a3 a4 => exact va_Nw.use rfl (va_Nw.warmM hW (va_Nw.of rfl h))
      | _ => exact absurd h4 (by simp [isNestW])
/-- an array's class -/
def ArCl (U : State) (cA : ClassId) (ty : FieldType) : Prop := (∃ (k : Class) (comp : ClassId), U.vm.classes[cA]? = some k ∧ k.kind = .array comp ty ∧ ∀ C, ty = .object C → U.vm.findClass C = some comp) ∧ U.vm.findClass ("[" ++ ty.toString) = some cA
theorem ArCl.moved {u U : State} (hvm : u.vm.Alike U.vm) {cA : ClassId} {ty : FieldType} (h : ArCl u cA ty) : ArCl U cA ty := by
  obtain ⟨⟨k, comp, h1, h2, h3⟩, h4⟩ := h
  obtain ⟨k', hk', he⟩ := hvm.2.2 _ _ h1
  exact ⟨⟨k', comp, hk', by rw [he]; exact h2, fun C hC => by rw [hvm.findClass]; exact h3 C hC⟩, by rw [hvm.findClass]; exact h4⟩
def strs : List (String × Nat × String) := [("FreePort", 347, "no such land"), ("FreePort", 351, "out of its range"), ("FreePort", 356, "not possible now"), ("FreePort", 338, "no such party"), ("FreePort", 341, "no such work"), ("FreePort", 343, "no such lot"), ("FreePort", 354, "must be another party"), ("FreePort", 175, "no dealer"), ("FreePort", 199, "came by no sale"), ("FreePort", 345, "no such loan")]
def aoL : List String := ["FreePort$Party", "FreePort$Work", "FreePort$Lot", "FreePort$Loan", "FreePort$Word"]
def ncL : List (String × String) := [("java/lang/IllegalArgumentException", "java/lang/IndexOutOfBoundsException"), ("java/lang/IllegalStateException", "java/lang/IndexOutOfBoundsException"), ("java/lang/IndexOutOfBoundsException", "java/lang/IllegalArgumentException"), ("java/lang/IllegalStateException", "java/lang/IllegalArgumentException"), ("java/lang/IndexOutOfBoundsException", "java/lang/IllegalStateException"), ("java/lang/IllegalArgumentException", "java/lang/IllegalStateException")]
def Gd (l : Launch) (D : va_G) (B : Nat → Prop) (s : State) : Prop :=
  l.stackTraces = false ∧ (∀ q, s.heap.size ≤ q → B q) ∧ (∀ w ∈ gtbl, ∀ a, w.before a s = true) ∧ va_K D vwCl [] s ∧ (∀ K, isAr K = true → ArCl s (D.1 K) (aty K)) ∧ (∀ q ∈ strs, ∃ sa, vk_R q.1 q.2.1 q.2.2 sa s) ∧ (∀ C ∈ aoL, va_AO C s) ∧ (∀ q ∈ ncL, va_Nc q.1 q.2 s) ∧ vx_Zq Bundle.tN "UNASSIGNED_STACK" Bundle.steD (fun q => B q) s s.heap ∧ vx_Zq Bundle.tN "SUPPRESSED_SENTINEL" Bundle.listD (fun q => B q) s s.heap
theorem Gd.moved {l : Launch} {D : va_G} {B : Nat → Prop} {s U : State} {H : Heap} {locs : List Loc} (h : Gd l D B s) (hV : va_S (fun q => B q) s.heap H locs) (hH : U.heap = H) (hW : s.WarmedH U.vm) : Gd l D B U := by
  obtain ⟨h1, h2, h3, h4, h5, h6, h7, h8, h9, h10⟩ := h
  have hk : ∀ a : Nat, a < s.heap.size → ¬ B a → U.heap[a]? = s.heap[a]? := fun a ha hb => by rw [hH]; exact hV.2.1 a ha hb
  refine ⟨h1, fun q hq => h2 q (Nat.le_trans hV.1 (by rw [← hH]; exact hq)), fun w hw a => kw_move (List.mem_filter.mp hw).2 hW (h3 w hw #[]), va_K.moved hW.alike h4, fun K hK => (h5 K hK).moved hW.alike, fun q hq => ?_, fun C hC => (h7 C hC).moved hW.alike, fun q hq => (h8 q hq).moved hW.alike, (h9.moved hW.alike).kept hk, (h10.moved hW.alike).kept hk⟩
  obtain ⟨sa, hs⟩ := h6 q hq
  exact ⟨sa, hs.warm hW⟩
theorem Gd.calling {l : Launch} {D : va_G} {B : Nat → Prop} {U : State} {g : JFrame} {mk : MethodId} {a : Array Value} (h : Gd l D B U) : Gd l D B (U.calling g mk a) :=
  h.moved (locs := []) va_S.rf rfl (State.WarmedH.refl U)
/-! the store -/
def ArAt (cA : ClassId) (n : Nat) (a : Nat) (H : Heap) (f : Nat → Value) : Prop := ∃ cell : Cell, H[a]? = some cell ∧ cell.cls = cA ∧ (∀ q, cell.vm ≠ .statics q) ∧ cell.vm ≠ .unknown ∧ cell.slots.size = n ∧ ∀ j, j < n → cell.slots[j]? = some (f j)
def ClAt (D : va_G) (K : Nat) (a : Nat) (H : Heap) (f : Nat → Value) : Prop := if K < 8 then t_OB a (D.1 K) (ln K) (D.2 K) H f else ArAt (D.1 K) (ln K) a H f
def Sto (D : va_G) (B : Nat → Prop) (ad : Ad) (v : V) (H : Heap) : Prop :=
  (∀ (K : Nat) (i : Int), K < 98 → v 99 (K : Int) i = 1 → ClAt D K (ad K i) H (fun j => cv ad (tg K (j : Int), v K i (j : Int))) ∧ B (ad K i) ∧ ∀ j : Nat, j < ln K → okv v (tg K (j : Int), v K i (j : Int))) ∧
  ∀ (K K' : Nat) (i i' : Int), K < 98 → K' < 98 → v 99 (K : Int) i = 1 → v 99 (K' : Int) i' = 1 → ad K i = ad K' i' → K = K' ∧ i = i'
theorem ArAt.kept {cA : ClassId} {n a : Nat} {H H1 : Heap} {f g : Nat → Value} (h : ArAt cA n a H f) (hq : H1[a]? = H[a]?) (hf : ∀ j, j < n → f j = g j) : ArAt cA n a H1 g := by
  obtain ⟨cell, h1, h2, h3, h4, h5, h6⟩ := h
  exact ⟨cell, by rw [hq]; exact h1, h2, h3, h4, h5, fun j hj => by rw [← hf j hj]; exact h6 j hj⟩
theorem ClAt.kept {D : va_G} {K a : Nat} {H H1 : Heap} {f g : Nat → Value} (h : ClAt D K a H f) (hq : H1[a]? = H[a]?) (hf : ∀ j, j < ln K → f j = g j) : ClAt D K a H1 g := by
  unfold ClAt at h ⊢
  split
  · rw [if_pos (by assumption)] at h
    exact (h.kept hq).to hf
  · rw [if_neg (by assumption)] at h
    exact h.kept hq hf
theorem ClAt.lt {D : va_G} {K a : Nat} {H : Heap} {f : Nat → Value} (h : ClAt D K a H f) : a < H.size := by
  unfold ClAt at h
  split at h
  · obtain ⟨cell, h1, -⟩ := h
    exact (Array.getElem?_eq_some_iff.mp h1).1
  · obtain ⟨cell, h1, -⟩ := h
    exact (Array.getElem?_eq_some_iff.mp h1).1
theorem Sto.kept {D : va_G} {B : Nat → Prop} {ad : Ad} {v : V} {H H1 : Heap} (h : Sto D B ad v H) (hk : ∀ q, q < H.size → H1[q]? = H[q]?) : Sto D B ad v H1 :=
  ⟨fun K i hK hi => ⟨((h.1 K i hK hi).1).kept (hk _ (h.1 K i hK hi).1.lt) (fun _ _ => rfl), (h.1 K i hK hi).2⟩, h.2⟩
/-- a slot of a thing is written -/
theorem Sto.put {D : va_G} {B : Nat → Prop} {ad : Ad} {v : V} {H H1 : Heap} (h : Sto D B ad v H) {K : Nat} {i : Int} (hK : K < 98) (hi : v 99 (K : Int) i = 1) {k : Nat} {j z : Int} (hj : ((k : Nat) : Int) = j) (hk : k < ln K) (hz : okv v (tg K j, z))
    (hc : ClAt D K (ad K i) H1 (fun q => if q = k then cv ad (tg K j, z) else cv ad (tg K (q : Int), v K i (q : Int)))) (ho : ∀ q, q ≠ ad K i → H1[q]? = H[q]?) : Sto D B ad (up v K i j z) H1 := by
  subst hj
  have h99 : K ≠ 99 := by omega
  have al : ∀ {K' : Nat} {i' : Int}, up v K i (k : Int) z 99 (K' : Int) i' = 1 → v 99 (K' : Int) i' = 1 := fun q => by rwa [up_99 h99] at q
  refine ⟨fun K' i' hK' hi' => ?_, fun K1 K2 i1 i2 h1 h2 h3 h4 h5 => h.2 K1 K2 i1 i2 h1 h2 (al h3) (al h4) h5⟩
  obtain ⟨g1, g2, g3⟩ := h.1 K' i' hK' (al hi')
  by_cases he : K' = K ∧ i' = i
  · obtain ⟨rfl, rfl⟩ := he
    refine ⟨hc.kept rfl (fun q hq => ?_), g2, fun q hq => ?_⟩
    · by_cases hqk : q = k
      · subst hqk
        rw [if_pos rfl, up_same]
      · rw [if_neg hqk]
        have : up v K' i' (k : Int) z K' i' (q : Int) = v K' i' (q : Int) := by
          unfold up
          rw [if_neg (by omega)]
        rw [this]
    · rw [okv_up h99]
      by_cases hqk : q = k
      · subst hqk
        rw [up_same]
        exact hz
      · have : up v K' i' (k : Int) z K' i' (q : Int) = v K' i' (q : Int) := by
          unfold up
          rw [if_neg (by omega)]
        rw [this]
        exact g3 q hq
  · have hne : ∀ q : Int, up v K i (k : Int) z K' i' q = v K' i' q := fun q => by
      unfold up
      rw [if_neg (fun c => he ⟨c.1, c.2.1⟩)]
    have hd : ad K' i' ≠ ad K i := fun c => he (h.2 K' K i' i hK' hK (al hi') hi c)
    refine ⟨g1.kept (ho _ hd) (fun q _ => by rw [hne]), g2, fun q hq => ?_⟩
    rw [okv_up h99, hne]
    exact g3 q hq
def adN (ad : Ad) (K : Nat) (i : Int) (a : Nat) : Ad := fun K' i' => if K' = K ∧ i' = i then a else ad K' i'
theorem Ext.nw {v : V} {ad : Ad} {K : Nat} {i : Int} {a : Nat} (hK : K < 98) (hi : ¬ v 99 (K : Int) i = 1) : Ext v ad (nw v K i) (adN ad K i a) := fun K' i' h' => by
  have hne : ¬ (K' = K ∧ i' = i) := fun c => by obtain ⟨rfl, rfl⟩ := c; exact hi h'
  refine ⟨?_, by unfold adN; rw [if_neg hne]⟩
  unfold Jvm.Pilot.CFreePortLaw_law_r9652_e9d211.nw
  rw [if_neg (by omega)]
  split
  · rfl
  · exact h'
theorem okv_df (v : V) (K : Nat) (j : Int) : okv v (tg K j, df K j) := by
  unfold okv df
  dsimp only
  split
  · rename_i h
    rw [h]
    exact R64_lit _ (by decide)
  · split
    · rename_i h
      rw [h]
      exact R32_lit _ (by decide)
    · split
      · exact Or.inl rfl
      · exact Or.inl rfl
/-- a thing is made -/
theorem Sto.new {D : va_G} {B : Nat → Prop} {ad : Ad} {v : V} {H H1 : Heap} (h : Sto D B ad v H) {K : Nat} {i : Int} (hK : K < 98) (hi : ¬ v 99 (K : Int) i = 1) (hB : B H.size)
    (hc : ClAt D K H.size H1 (fun q => cv ad (tg K (q : Int), df K (q : Int)))) (ho : ∀ q, q < H.size → H1[q]? = H[q]?) : Sto D B (adN ad K i H.size) (nw v K i) H1 := by
  have hE : Ext v ad (nw v K i) (adN ad K i H.size) := Ext.nw hK hi
  have al : ∀ {K' : Nat} {i' : Int}, K' < 98 → nw v K i 99 (K' : Int) i' = 1 → (K' = K ∧ i' = i) ∨ v 99 (K' : Int) i' = 1 := fun {K' i'} hK' q => by
    unfold nw at q
    rw [if_neg (by omega)] at q
    split at q
    · rename_i c
      exact Or.inl ⟨by omega, c.2.2⟩
    · exact Or.inr q
  have same : ∀ {K' : Nat} {i' : Int}, ¬ (K' = K ∧ i' = i) → K' < 98 → ∀ q : Int, nw v K i K' i' q = v K' i' q := fun {K' i'} hne hK' q => by
    unfold nw
    rw [if_neg hne, if_neg (by omega)]
  have cvd : ∀ (ad' : Ad) (q : Int), cv ad' (tg K q, df K q) = cv ad (tg K q, df K q) := fun ad' q => by
    unfold cv df
    dsimp only
    split
    · rfl
    · split
      · rfl
      · rw [if_pos (by decide), if_pos (by decide)]
  refine ⟨fun K' i' hK' hi' => ?_, fun K1 K2 i1 i2 h1 h2 h3 h4 h5 => ?_⟩
  · by_cases he : K' = K ∧ i' = i
    · obtain ⟨rfl, rfl⟩ := he
      have e1 : adN ad K' i' H.size K' i' = H.size := by unfold adN; rw [if_pos ⟨rfl, rfl⟩]
      have e2 : ∀ q : Int, nw v K' i' K' i' q = df K' q := fun q => by unfold nw; rw [if_pos ⟨rfl, rfl⟩]
      rw [e1]
      refine ⟨hc.kept rfl (fun q _ => by rw [e2]; exact (cvd _ _).symm), hB, fun q _ => by rw [e2]; exact okv_df _ _ _⟩
    · have hi2 : v 99 (K' : Int) i' = 1 := (al hK' hi').resolve_left he
      obtain ⟨g1, g2, g3⟩ := h.1 K' i' hK' hi2
      have e1 : adN ad K i H.size K' i' = ad K' i' := by unfold adN; rw [if_neg he]
      rw [e1]
      refine ⟨g1.kept (ho _ g1.lt) (fun q hq => ?_), g2, fun q hq => ?_⟩
      · rw [same he hK', ext_cv hE (g3 q hq)]
      · rw [same he hK']
        exact ext_okv hE (g3 q hq)
  · have lt : ∀ {K' : Nat} {i' : Int}, K' < 98 → v 99 (K' : Int) i' = 1 → ad K' i' < H.size := fun hK' hi' => (h.1 _ _ hK' hi').1.lt
    have e1 : ∀ {K' : Nat} {i' : Int}, (K' = K ∧ i' = i) → adN ad K i H.size K' i' = H.size := fun c => by unfold adN; rw [if_pos c]
    have e2 : ∀ {K' : Nat} {i' : Int}, ¬ (K' = K ∧ i' = i) → adN ad K i H.size K' i' = ad K' i' := fun c => by unfold adN; rw [if_neg c]
    by_cases c1 : K1 = K ∧ i1 = i
    · by_cases c2 : K2 = K ∧ i2 = i
      · exact ⟨c1.1.trans c2.1.symm, c1.2.trans c2.2.symm⟩
      · have := lt h2 ((al h2 h4).resolve_left c2)
        rw [e1 c1, e2 c2] at h5
        omega
    · by_cases c2 : K2 = K ∧ i2 = i
      · have := lt h1 ((al h1 h3).resolve_left c1)
        rw [e2 c1, e1 c2] at h5
        omega
      · rw [e2 c1, e2 c2] at h5
        exact h.2 K1 K2 i1 i2 h1 h2 ((al h1 h3).resolve_left c1) ((al h2 h4).resolve_left c2) h5
/-! what a method leaves -/
def exN (e : Nat) : String := if e = 1 then "java/lang/IndexOutOfBoundsException" else if e = 2 then "java/lang/IllegalArgumentException" else "java/lang/IllegalStateException"
def PostC (D : va_G) (B : Nat → Prop) (ad0 : Ad) (v0 : V) (rt : Option Nat) (r : Res) : Array Value → State → Outcome → State → Prop := fun _ st o t =>
  ∃ (z : Int) (v' : V) (ad' : Ad), r = some (0, z, v') ∧ o = .returned (rt.map fun q => cv ad' (q, z)) ∧ (∀ q, rt = some q → okv v' (q, z)) ∧ Ext v0 ad0 v' ad' ∧ Sto D B ad' v' t.heap ∧ va_F (fun q => B q) st t
def PostX (D : va_G) (B : Nat → Prop) (ad0 : Ad) (v0 : V) (r : Res) : String → State → State → Prop := fun E st t =>
  ∃ (e : Nat) (v' : V) (ad' : Ad), r = some (e + 1, 0, v') ∧ E = exN e ∧ Ext v0 ad0 v' ad' ∧ Sto D B ad' v' t.heap ∧ va_F (fun q => B q) st t
abbrev Cx : Type := (Program × Launch × Env × Room × State × MethodId) × (Array Value × List Frame × Method × Code) × (Nat × va_G × (Nat → Prop) × Ad × V × Option Nat × Nat)
def clv (ad : Ad) (q : Nat × AV) : Nat × Value := (q.1, cv ad q.2)
/-- what a body owes at its end; the law's own (lw): only where its spec answers 1 -/
def Qx (below : List Frame) (D : va_G) (B : Nat → Prop) (ad0 : Ad) (v0 : V) (rt : Option Nat) (lw : Nat) (r : Res) (args : Array Value) (s : State) (R : Room) : State → Prop :=
  if lw = 1 then fun t => (∃ v', r = some (0, 1, v')) → ∃ o, t.status = .running ∧ Ended t below o ∧ o = .returned (some (.int 1)) ∧ Framed s o t [] R.cells R.slots
  else vx_MQ below (PostC D B ad0 v0 rt r) (PostX D B ad0 v0 r) args s R.cells R.slots (fun q => B q)
def Gs (x : Cx) (r : Res) (v : V) (cells slots pc : Nat) (ls : List (Nat × AV)) (st : List AV) : Prop :=
  match x with
  | ((p, l, e, R, s, m), (args, below, meth, c), (nL, D, B, ad0, v0, rt, lw)) => r ≠ none → ∀ (ad : Ad) (H : Heap) (locs : List Loc) (lsA : Array Slot), Sto D B ad v H → Ext v0 ad0 v ad → va_S (fun q => B q) s.heap H locs → lv_has lsA nL (ls.map (clv ad)) → (∀ q ∈ ls, okv v q.2) → (∀ a ∈ st, okv v a) →
    W p l e R s m args below meth c H locs cells slots (Qx below D B ad0 v0 rt lw r args s R) (F0 m pc lsA (st.map (cv ad)))
def Fx (x : Cx) (cc : ByteArray) (own nm : String) (rm : Room) (nL : Nat) (rt : Option Nat) (rty : Option FieldType) (lw : Nat) : Prop :=
  match x with
  | ((p, l, e, R, s, m), (args, below, meth, c), (nL', D, B, ad0, v0, rt', lw')) => p.tables.exec = Jvm.exec ∧ c.code = cc ∧ s.vm.findClass own = some m.cls ∧ R = rm ∧ c.maxLocals = nL ∧ nL' = nL ∧ rt' = rt ∧ meth.sig.returnType = rty ∧ meth.name = nm ∧ meth.locks = false ∧ (lw' = lw ∧ (lw = 0 → ∀ z ∈ c.exceptionTable.toList, False) ∧ (lw = 1 → (∀ q, B q → s.heap.size ≤ q))) ∧ Gd l D B s
def Ct (l : Launch) (y : MethodName) (cc : ByteArray) (maxL : Nat) (rty : Option FieldType) (rm : Room) (rt : Option Nat) (as : List AV) (f : V → Res) : Prop :=
  ∀ (D : va_G) (B : Nat → Prop) (ad : Ad) (v : V), (∀ a ∈ as, okv v a) → f v ≠ none → vx_Met l y [.code y cc maxL rty] rm (va_Pc (as.map (cv ad)) (fun U => Gd l D B U ∧ Sto D B ad v U.heap)) (PostC D B ad v rt (f v)) (PostX D B ad v (f v)) rm.cells rm.slots (fun q => B q)

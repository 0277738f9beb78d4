/-! TWO OBJECTS: the law's own store W holds the stores of both, o's in the even kinds from 1000 on, p's in the odd ones; its own kinds: 7 o, 107 p, 98 the script -/
def vO (W : V) : V := fun K i j => W (1000 + 2 * K) i j
def vP (W : V) : V := fun K i j => W (1001 + 2 * K) i j
def sO (W v : V) : V := fun K i j => if 1000 ≤ K ∧ K % 2 = 0 then v ((K - 1000) / 2) i j else W K i j
def sP (W v : V) : V := fun K i j => if 1000 ≤ K ∧ K % 2 = 1 then v ((K - 1001) / 2) i j else W K i j
theorem vO_sO (W v : V) : vO (sO W v) = v := by
  funext K i j
  unfold vO sO
  rw [if_pos (by omega)]
  congr 1
  omega
theorem vP_sP (W v : V) : vP (sP W v) = v := by
  funext K i j
  unfold vP sP
  rw [if_pos (by omega)]
  congr 1
  omega
theorem vP_sO (W v : V) : vP (sO W v) = vP W := by
  funext K i j
  unfold vP sO
  rw [if_neg (by omega)]
theorem vO_sP (W v : V) : vO (sP W v) = vO W := by
  funext K i j
  unfold vO sP
  rw [if_neg (by omega)]
theorem sO_lt (W v : V) {K : Nat} (h : K < 1000) (i j : Int) : sO W v K i j = W K i j := by
  unfold sO
  rw [if_neg (by omega)]
theorem sP_lt (W v : V) {K : Nat} (h : K < 1000) (i j : Int) : sP W v K i j = W K i j := by
  unfold sP
  rw [if_neg (by omega)]
theorem vO_up {W : V} {K : Nat} {i j z : Int} (h : K < 1000) : vO (up W K i j z) = vO W := by
  funext K' i' j'
  unfold vO up
  rw [if_neg (by omega)]
theorem vP_up {W : V} {K : Nat} {i j z : Int} (h : K < 1000) : vP (up W K i j z) = vP W := by
  funext K' i' j'
  unfold vP up
  rw [if_neg (by omega)]
def prs (as : List AV) : Bool := as.all (fun a => decide (a.1 < 10))
theorem prs_ok {as : List AV} (h : prs as = true) : ∀ a ∈ as, a.1 < 10 := fun a ha => by
  unfold prs at h
  have := List.all_eq_true.mp h a ha
  simpa using this
def lO (f : V → Res) (W : V) : Res := match f (vO W) with
  | none => none
  | some (t, a, v) => some (t, a, sO W v)
def lP (f : V → Res) (W : V) : Res := match f (vP W) with
  | none => none
  | some (t, a, v) => some (t, a, sP W v)
def v0s : V := fun _ _ _ => 0
def lZ (f : V → Res) (W : V) : Res := match f v0s with
  | none => none
  | some (t, a, _) => some (t, a, W)
/-- the addresses of the living things of a store -/
def Lv (ad : Ad) (v : V) (q : Nat) : Prop := ∃ (K : Nat) (i : Int), K < 98 ∧ v 99 (K : Int) i = 1 ∧ ad K i = q
def Sto2 (D : va_G) (B : Nat → Prop) (ad : Ad) (W : V) (H : Heap) : Prop := ∃ ao ap : Ad,
  (W 99 7 0 = 1 → vO W 99 7 0 = 1 ∧ ao 7 0 = ad 7 0) ∧ (W 99 107 0 = 1 → vP W 99 7 0 = 1 ∧ ap 7 0 = ad 107 0) ∧
  Sto D (fun q => B q ∧ ¬ Lv ap (vP W) q) ao (vO W) H ∧ Sto D (fun q => B q ∧ ¬ Lv ao (vO W) q) ap (vP W) H
theorem Lv_lt {D : va_G} {B : Nat → Prop} {ad : Ad} {v : V} {H : Heap} (h : Sto D B ad v H) {q : Nat} (hq : Lv ad v q) : q < H.size := by
  obtain ⟨K, i, h1, h2, rfl⟩ := hq
  exact (h.1 K i h1 h2).1.lt
theorem Lv_B {D : va_G} {B : Nat → Prop} {ad : Ad} {v : V} {H : Heap} (h : Sto D B ad v H) {q : Nat} (hq : Lv ad v q) : B q := by
  obtain ⟨K, i, h1, h2, rfl⟩ := hq
  exact (h.1 K i h1 h2).2.1
theorem Sto2.kept {D : va_G} {B : Nat → Prop} {ad : Ad} {W : V} {H H1 : Heap} (h : Sto2 D B ad W H) (hk : ∀ q, q < H.size → H1[q]? = H[q]?) : Sto2 D B ad W H1 := by
  obtain ⟨ao, ap, h1, h2, h3, h4⟩ := h
  exact ⟨ao, ap, h1, h2, h3.kept hk, h4.kept hk⟩
/-- the other object's things stay, where nothing of them is written -/
theorem Sto_side {D : va_G} {B : Nat → Prop} {ao ap ap' : Ad} {vo vp vp' : V} {H H1 : Heap} (h : Sto D (fun q => B q ∧ ¬ Lv ap vp q) ao vo H) (hk : ∀ q, q < H.size → Lv ao vo q → H1[q]? = H[q]?) (hd : ∀ q, Lv ap' vp' q → ¬ Lv ao vo q) : Sto D (fun q => B q ∧ ¬ Lv ap' vp' q) ao vo H1 := by
  refine ⟨fun K i hK hi => ?_, h.2⟩
  obtain ⟨g1, g2, g3⟩ := h.1 K i hK hi
  have hL : Lv ao vo (ao K i) := ⟨K, i, hK, hi, rfl⟩
  exact ⟨g1.kept (hk _ g1.lt hL) (fun _ _ => rfl), ⟨g2.1, fun q => hd _ q hL⟩, g3⟩
theorem Gd.narrow {l : Launch} {D : va_G} {B B' : Nat → Prop} {s : State} (h : Gd l D B s) (h1 : ∀ q, s.heap.size ≤ q → B' q) (h2 : ∀ q, B' q → B q) : Gd l D B' s := by
  obtain ⟨g1, g2, g3, g4, g5, g6, g7, g8, g9, g10⟩ := h
  exact ⟨g1, h1, g3, g4, g5, g6, g7, g8, g9.narrow h2, g10.narrow h2⟩
theorem cv_prim {as : List AV} (h : ∀ a ∈ as, a.1 < 10) (ad ad' : Ad) : as.map (cv ad) = as.map (cv ad') := by
  apply List.map_congr_left
  intro a ha
  unfold cv
  have := h a ha
  split
  · rfl
  · first
      | rfl
      | rw [if_pos this, if_pos this]
theorem okv_prim {v v' : V} {a : AV} (h : a.1 < 10) : okv v a ↔ okv v' a := by
  unfold okv
  split
  · exact Iff.rfl
  · split
    · exact Iff.rfl
    · first
        | exact Iff.rfl
        | rw [if_pos h, if_pos h]
def PostC2 (D : va_G) (B : Nat → Prop) (ad0 : Ad) (v0 : V) (rt : Option Nat) (r : Res) : Array Value → State → Outcome → State → Prop := fun _ st o t =>
  ∃ (z : Int) (v' : V) (ad' : Ad), r = some (0, z, v') ∧ o = .returned (rt.map fun q => cv ad' (q, z)) ∧ (∀ q, rt = some q → okv v' (q, z)) ∧ Ext v0 ad0 v' ad' ∧ Sto2 D B ad' v' t.heap ∧ va_F (fun q => B q) st t
def PostX2 (D : va_G) (B : Nat → Prop) (ad0 : Ad) (v0 : V) (r : Res) : String → State → State → Prop := fun E st t =>
  ∃ (e : Nat) (v' : V) (ad' : Ad), r = some (e + 1, 0, v') ∧ E = exN e ∧ Ext v0 ad0 v' ad' ∧ Sto2 D B ad' v' t.heap ∧ va_F (fun q => B q) st t
def Qx2 (below : List Frame) (D : va_G) (B : Nat → Prop) (ad0 : Ad) (v0 : V) (rt : Option Nat) (lw : Nat) (r : Res) (args : Array Value) (s : State) (R : Room) : State → Prop :=
  if lw = 1 then fun t => (∃ v', r = some (0, 1, v')) → ∃ o, t.status = .running ∧ Ended t below o ∧ o = .returned (some (.int 1)) ∧ Framed s o t [] R.cells R.slots
  else vx_MQ below (PostC2 D B ad0 v0 rt r) (PostX2 D B ad0 v0 r) args s R.cells R.slots (fun q => B q)
def Gs2 (x : Cx) (r : Res) (v : V) (cells slots pc : Nat) (ls : List (Nat × AV)) (st : List AV) : Prop :=
  match x with
  | ((p, l, e, R, s, m), (args, below, meth, c), (nL, D, B, ad0, v0, rt, lw)) => r ≠ none → ∀ (ad : Ad) (H : Heap) (locs : List Loc) (lsA : Array Slot), Sto2 D B ad v H → Ext v0 ad0 v ad → va_S (fun q => B q) s.heap H locs → lv_has lsA nL (ls.map (clv ad)) → (∀ q ∈ ls, okv v q.2) → (∀ a ∈ st, okv v a) →
    W p l e R s m args below meth c H locs cells slots (Qx2 below D B ad0 v0 rt lw r args s R) (F0 m pc lsA (st.map (cv ad)))
def Ct2 (l : Launch) (y : MethodName) (cc : ByteArray) (maxL : Nat) (rty : Option FieldType) (rm : Room) (rt : Option Nat) (as : List AV) (f : V → Res) : Prop :=
  ∀ (D : va_G) (B : Nat → Prop) (ad : Ad) (v : V), (∀ a ∈ as, okv v a) → f v ≠ none → vx_Met l y [.code y cc maxL rty] rm (va_Pc (as.map (cv ad)) (fun U => Gd l D B U ∧ Sto2 D B ad v U.heap)) (PostC2 D B ad v rt (f v)) (PostX2 D B ad v (f v)) rm.cells rm.slots (fun q => B q)

def CtW2 (l : Launch) (y : MethodName) (cc : ByteArray) (maxL : Nat) (rty : Option FieldType) (hh : List (Nat × Nat × Nat × Nat)) (rm : Room) (rt : Option Nat) (as : List AV) (f : V → Res) : Prop :=
  ∀ (D : va_G) (B : Nat → Prop) (ad : Ad) (v : V), (∀ a ∈ as, okv v a) → f v ≠ none → vx_Met l y [.codeWith y cc maxL rty hh] rm (va_Pc (as.map (cv ad)) (fun U => Gd l D B U ∧ Sto2 D B ad v U.heap)) (PostC2 D B ad v rt (f v)) (PostX2 D B ad v (f v)) rm.cells rm.slots (fun q => B q)
/-- what a call on o leaves for both -/
theorem post_O {D : va_G} {B : Nat → Prop} {ad ao ap ao' : Ad} {W v' : V} {s t : State} (h1 : W 99 7 0 = 1 → vO W 99 7 0 = 1 ∧ ao 7 0 = ad 7 0) (h2 : W 99 107 0 = 1 → vP W 99 7 0 = 1 ∧ ap 7 0 = ad 107 0) (h4 : Sto D (fun q => B q ∧ ¬ Lv ao (vO W) q) ap (vP W) s.heap)
    (hE : Ext (vO W) ao v' ao') (hS : Sto D (fun q => B q ∧ ¬ Lv ap (vP W) q) ao' v' t.heap) (hF : va_F (fun q => B q ∧ ¬ Lv ap (vP W) q) s t) : Sto2 D B ad (sO W v') t.heap ∧ Ext W ad (sO W v') ad ∧ va_F (fun q => B q) s t := by
  refine ⟨⟨ao', ap, fun q => ?_, fun q => ?_, ?_, ?_⟩, fun K i h => ⟨?_, rfl⟩, hF.1, fun q q1 q2 => hF.2 q q1 (fun h => q2 h.1)⟩
  · rw [sO_lt W v' (by decide)] at q
    rw [vO_sO]
    obtain ⟨q1, q2⟩ := h1 q
    exact ⟨(hE 7 0 q1).1, ((hE 7 0 q1).2).trans q2⟩
  · rw [sO_lt W v' (by decide)] at q
    rw [vP_sO]
    exact h2 q
  · rw [vO_sO, vP_sO]
    exact hS
  · rw [vO_sO, vP_sO]
    exact Sto_side h4 (fun q q1 q2 => hF.2 q q1 (fun h => h.2 q2)) (fun q q1 q2 => (Lv_B hS q1).2 q2)
  · rw [sO_lt W v' (by decide)]
    exact h
theorem ct_O {l : Launch} {y : MethodName} {cc : ByteArray} {maxL : Nat} {rty : Option FieldType} {rm : Room} {rt : Option Nat} {as : List AV} {f : V → Res} (h : Ct l y cc maxL rty rm rt ((17, 0) :: as) f) (ha : ∀ a ∈ as, a.1 < 10) (hrt : ∀ q, rt = some q → q < 10) : Ct2 l y cc maxL rty rm rt ((17, 0) :: as) (lO f) := by
  intro D B ad W hok hf
  have hW : W 99 7 0 = 1 := al_of (K := 7) (by decide) (ok_h hok)
  intro p e ha9 hc9 hk9 s m args below hfr happ hP hK9
  obtain ⟨hav, hG, ao, ap, h1, h2, h3, h4⟩ := hP
  have hf9 : f (vO W) ≠ none := fun q => hf (by unfold lO; rw [q])
  have hG' : Gd l D (fun q => B q ∧ ¬ Lv ap (vP W) q) s := hG.narrow (fun q hq => ⟨hG.2.1 q hq, fun q2 => by have := Lv_lt h4 q2; omega⟩) (fun q hq => hq.1)
  have hM := h D (fun q => B q ∧ ¬ Lv ap (vP W) q) ao (vO W) (ok_c (okv_ref (K := 7) |>.mpr (Or.inr ⟨by decide, (h1 hW).1⟩)) (fun a h9 => (okv_prim (ha a h9)).mp (ok_t hok a h9))) hf9
  have e1 : ((17, 0) :: as).map (cv ad) = ((17, 0) :: as).map (cv ao) := by
    rw [List.map_cons, List.map_cons, cv_prim ha ad ao]
    congr 1
    rw [cv_pos (K := 7) (by decide), cv_pos (K := 7) (by decide), (h1 hW).2]
  rw [e1] at hav
  obtain ⟨n, o, g1, g2, g3, g4⟩ := hM p e ha9 hc9 hk9 s m args below hfr happ ⟨hav, hG', h3⟩ hK9
  refine ⟨n, o, g1, g2, g3, ?_⟩
  rcases g4 with ⟨⟨z, v', ao', c1, c2, c3, c4, c5, c6⟩, L, d1, d2⟩ | ⟨q, d0, E, ce, L, ⟨ee, v', ao', c1, c2, c4, c5, c6⟩, d1, d2, d3, d4, d5, d6⟩
  · obtain ⟨y1, y2, y3⟩ := post_O h1 h2 h4 c4 c5 c6
    refine Or.inl ⟨⟨z, sO W v', ad, by unfold lO; rw [c1], ?_, fun q hq => (okv_prim (hrt q hq)).mp (c3 q hq), y2, y1, y3⟩, L, d1, fun q hq => (d2 q hq).1⟩
    rw [c2]
    cases rt with
    | none => rfl
    | some q =>
      have := cv_prim (as := [(q, z)]) (fun a h9 => by rw [List.mem_singleton.mp h9]; exact hrt q rfl) ao' ad
      simp only [List.map_cons, List.map_nil, List.cons.injEq, and_true] at this
      show Outcome.returned (some (cv ao' (q, z))) = .returned (some (cv ad (q, z)))
      rw [this]
  · obtain ⟨y1, y2, y3⟩ := post_O h1 h2 h4 c4 c5 c6
    exact Or.inr ⟨q, d0, E, ce, L, ⟨ee, sO W v', ad, by unfold lO; rw [c1], c2, y2, y1, y3⟩, d1, d2, d3, d4, d5, fun z hz => (d6 z hz).1⟩

theorem ctW_O {hh : List (Nat × Nat × Nat × Nat)} {l : Launch} {y : MethodName} {cc : ByteArray} {maxL : Nat} {rty : Option FieldType} {rm : Room} {rt : Option Nat} {as : List AV} {f : V → Res} (h : CtW l y cc maxL rty hh rm rt ((17, 0) :: as) f) (ha : ∀ a ∈ as, a.1 < 10) (hrt : ∀ q, rt = some q → q < 10) : CtW2 l y cc maxL rty hh rm rt ((17, 0) :: as) (lO f) := by
  intro D B ad W hok hf
  have hW : W 99 7 0 = 1 := al_of (K := 7) (by decide) (ok_h hok)
  intro p e ha9 hc9 hk9 s m args below hfr happ hP hK9
  obtain ⟨hav, hG, ao, ap, h1, h2, h3, h4⟩ := hP
  have hf9 : f (vO W) ≠ none := fun q => hf (by unfold lO; rw [q])
  have hG' : Gd l D (fun q => B q ∧ ¬ Lv ap (vP W) q) s := hG.narrow (fun q hq => ⟨hG.2.1 q hq, fun q2 => by have := Lv_lt h4 q2; omega⟩) (fun q hq => hq.1)
  have hM := h D (fun q => B q ∧ ¬ Lv ap (vP W) q) ao (vO W) (ok_c (okv_ref (K := 7) |>.mpr (Or.inr ⟨by decide, (h1 hW).1⟩)) (fun a h9 => (okv_prim (ha a h9)).mp (ok_t hok a h9))) hf9
  have e1 : ((17, 0) :: as).map (cv ad) = ((17, 0) :: as).map (cv ao) := by
    rw [List.map_cons, List.map_cons, cv_prim ha ad ao]
    congr 1
    rw [cv_pos (K := 7) (by decide), cv_pos (K := 7) (by decide), (h1 hW).2]
  rw [e1] at hav
  obtain ⟨n, o, g1, g2, g3, g4⟩ := hM p e ha9 hc9 hk9 s m args below hfr happ ⟨hav, hG', h3⟩ hK9
  refine ⟨n, o, g1, g2, g3, ?_⟩
  rcases g4 with ⟨⟨z, v', ao', c1, c2, c3, c4, c5, c6⟩, L, d1, d2⟩ | ⟨q, d0, E, ce, L, ⟨ee, v', ao', c1, c2, c4, c5, c6⟩, d1, d2, d3, d4, d5, d6⟩
  · obtain ⟨y1, y2, y3⟩ := post_O h1 h2 h4 c4 c5 c6
    refine Or.inl ⟨⟨z, sO W v', ad, by unfold lO; rw [c1], ?_, fun q hq => (okv_prim (hrt q hq)).mp (c3 q hq), y2, y1, y3⟩, L, d1, fun q hq => (d2 q hq).1⟩
    rw [c2]
    cases rt with
    | none => rfl
    | some q =>
      have := cv_prim (as := [(q, z)]) (fun a h9 => by rw [List.mem_singleton.mp h9]; exact hrt q rfl) ao' ad
      simp only [List.map_cons, List.map_nil, List.cons.injEq, and_true] at this
      show Outcome.returned (some (cv ao' (q, z))) = .returned (some (cv ad (q, z)))
      rw [this]
  · obtain ⟨y1, y2, y3⟩ := post_O h1 h2 h4 c4 c5 c6
    exact Or.inr ⟨q, d0, E, ce, L, ⟨ee, sO W v', ad, by unfold lO; rw [c1], c2, y2, y1, y3⟩, d1, d2, d3, d4, d5, fun z hz => (d6 z hz).1⟩

theorem post_P {D : va_G} {B : Nat → Prop} {ad ao ap ap' : Ad} {W v' : V} {s t : State} (h1 : W 99 7 0 = 1 → vO W 99 7 0 = 1 ∧ ao 7 0 = ad 7 0) (h2 : W 99 107 0 = 1 → vP W 99 7 0 = 1 ∧ ap 7 0 = ad 107 0) (h3 : Sto D (fun q => B q ∧ ¬ Lv ap (vP W) q) ao (vO W) s.heap)
    (hE : Ext (vP W) ap v' ap') (hS : Sto D (fun q => B q ∧ ¬ Lv ao (vO W) q) ap' v' t.heap) (hF : va_F (fun q => B q ∧ ¬ Lv ao (vO W) q) s t) : Sto2 D B ad (sP W v') t.heap ∧ Ext W ad (sP W v') ad ∧ va_F (fun q => B q) s t := by
  refine ⟨⟨ao, ap', fun q => ?_, fun q => ?_, ?_, ?_⟩, fun K i h => ⟨?_, rfl⟩, hF.1, fun q q1 q2 => hF.2 q q1 (fun h => q2 h.1)⟩
  · rw [sP_lt W v' (by decide)] at q
    rw [vO_sP]
    exact h1 q
  · rw [sP_lt W v' (by decide)] at q
    rw [vP_sP]
    obtain ⟨q1, q2⟩ := h2 q
    exact ⟨(hE 7 0 q1).1, ((hE 7 0 q1).2).trans q2⟩
  · rw [vP_sP, vO_sP]
    exact Sto_side h3 (fun q q1 q2 => hF.2 q q1 (fun h => h.2 q2)) (fun q q1 q2 => (Lv_B hS q1).2 q2)
  · rw [vP_sP, vO_sP]
    exact hS
  · rw [sP_lt W v' (by decide)]
    exact h
theorem ct_P {l : Launch} {y : MethodName} {cc : ByteArray} {maxL : Nat} {rty : Option FieldType} {rm : Room} {rt : Option Nat} {as : List AV} {f : V → Res} (h : Ct l y cc maxL rty rm rt ((17, 0) :: as) f) (ha : ∀ a ∈ as, a.1 < 10) (hrt : ∀ q, rt = some q → q < 10) : Ct2 l y cc maxL rty rm rt ((117, 0) :: as) (lP f) := by
  intro D B ad W hok hf
  have hW : W 99 107 0 = 1 := al_of (K := 107) (by decide) (ok_h hok)
  intro p e ha9 hc9 hk9 s m args below hfr happ hP hK9
  obtain ⟨hav, hG, ao, ap, h1, h2, h3, h4⟩ := hP
  have hf9 : f (vP W) ≠ none := fun q => hf (by unfold lP; rw [q])
  have hG' : Gd l D (fun q => B q ∧ ¬ Lv ao (vO W) q) s := hG.narrow (fun q hq => ⟨hG.2.1 q hq, fun q2 => by have := Lv_lt h3 q2; omega⟩) (fun q hq => hq.1)
  have hM := h D (fun q => B q ∧ ¬ Lv ao (vO W) q) ap (vP W) (ok_c (okv_ref (K := 7) |>.mpr (Or.inr ⟨by decide, (h2 hW).1⟩)) (fun a h9 => (okv_prim (ha a h9)).mp (ok_t hok a h9))) hf9
  have e1 : ((117, 0) :: as).map (cv ad) = ((17, 0) :: as).map (cv ap) := by
    rw [List.map_cons, List.map_cons, cv_prim ha ad ap]
    congr 1
    rw [cv_pos (K := 107) (by decide), cv_pos (K := 7) (by decide), (h2 hW).2]
  rw [e1] at hav
  obtain ⟨n, o, g1, g2, g3, g4⟩ := hM p e ha9 hc9 hk9 s m args below hfr happ ⟨hav, hG', h4⟩ hK9
  refine ⟨n, o, g1, g2, g3, ?_⟩
  rcases g4 with ⟨⟨z, v', ap', c1, c2, c3, c4, c5, c6⟩, L, d1, d2⟩ | ⟨q, d0, E, ce, L, ⟨ee, v', ap', c1, c2, c4, c5, c6⟩, d1, d2, d3, d4, d5, d6⟩
  · obtain ⟨y1, y2, y3⟩ := post_P h1 h2 h3 c4 c5 c6
    refine Or.inl ⟨⟨z, sP W v', ad, by unfold lP; rw [c1], ?_, fun q hq => (okv_prim (hrt q hq)).mp (c3 q hq), y2, y1, y3⟩, L, d1, fun q hq => (d2 q hq).1⟩
    rw [c2]
    cases rt with
    | none => rfl
    | some q =>
      have := cv_prim (as := [(q, z)]) (fun a h9 => by rw [List.mem_singleton.mp h9]; exact hrt q rfl) ap' ad
      simp only [List.map_cons, List.map_nil, List.cons.injEq, and_true] at this
      show Outcome.returned (some (cv ap' (q, z))) = .returned (some (cv ad (q, z)))
      rw [this]
  · obtain ⟨y1, y2, y3⟩ := post_P h1 h2 h3 c4 c5 c6
    exact Or.inr ⟨q, d0, E, ce, L, ⟨ee, sP W v', ad, by unfold lP; rw [c1], c2, y2, y1, y3⟩, d1, d2, d3, d4, d5, fun z hz => (d6 z hz).1⟩

theorem ctW_P {hh : List (Nat × Nat × Nat × Nat)} {l : Launch} {y : MethodName} {cc : ByteArray} {maxL : Nat} {rty : Option FieldType} {rm : Room} {rt : Option Nat} {as : List AV} {f : V → Res} (h : CtW l y cc maxL rty hh rm rt ((17, 0) :: as) f) (ha : ∀ a ∈ as, a.1 < 10) (hrt : ∀ q, rt = some q → q < 10) : CtW2 l y cc maxL rty hh rm rt ((117, 0) :: as) (lP f) := by
  intro D B ad W hok hf
  have hW : W 99 107 0 = 1 := al_of (K := 107) (by decide) (ok_h hok)
  intro p e ha9 hc9 hk9 s m args below hfr happ hP hK9
  obtain ⟨hav, hG, ao, ap, h1, h2, h3, h4⟩ := hP
  have hf9 : f (vP W) ≠ none := fun q => hf (by unfold lP; rw [q])
  have hG' : Gd l D (fun q => B q ∧ ¬ Lv ao (vO W) q) s := hG.narrow (fun q hq => ⟨hG.2.1 q hq, fun q2 => by have := Lv_lt h3 q2; omega⟩) (fun q hq => hq.1)
  have hM := h D (fun q => B q ∧ ¬ Lv ao (vO W) q) ap (vP W) (ok_c (okv_ref (K := 7) |>.mpr (Or.inr ⟨by decide, (h2 hW).1⟩)) (fun a h9 => (okv_prim (ha a h9)).mp (ok_t hok a h9))) hf9
  have e1 : ((117, 0) :: as).map (cv ad) = ((17, 0) :: as).map (cv ap) := by
    rw [List.map_cons, List.map_cons, cv_prim ha ad ap]
    congr 1
    rw [cv_pos (K := 107) (by decide), cv_pos (K := 7) (by decide), (h2 hW).2]
  rw [e1] at hav
  obtain ⟨n, o, g1, g2, g3, g4⟩ := hM p e ha9 hc9 hk9 s m args below hfr happ ⟨hav, hG', h4⟩ hK9
  refine ⟨n, o, g1, g2, g3, ?_⟩
  rcases g4 with ⟨⟨z, v', ap', c1, c2, c3, c4, c5, c6⟩, L, d1, d2⟩ | ⟨q, d0, E, ce, L, ⟨ee, v', ap', c1, c2, c4, c5, c6⟩, d1, d2, d3, d4, d5, d6⟩
  · obtain ⟨y1, y2, y3⟩ := post_P h1 h2 h3 c4 c5 c6
    refine Or.inl ⟨⟨z, sP W v', ad, by unfold lP; rw [c1], ?_, fun q hq => (okv_prim (hrt q hq)).mp (c3 q hq), y2, y1, y3⟩, L, d1, fun q hq => (d2 q hq).1⟩
    rw [c2]
    cases rt with
    | none => rfl
    | some q =>
      have := cv_prim (as := [(q, z)]) (fun a h9 => by rw [List.mem_singleton.mp h9]; exact hrt q rfl) ap' ad
      simp only [List.map_cons, List.map_nil, List.cons.injEq, and_true] at this
      show Outcome.returned (some (cv ap' (q, z))) = .returned (some (cv ad (q, z)))
      rw [this]
  · obtain ⟨y1, y2, y3⟩ := post_P h1 h2 h3 c4 c5 c6
    exact Or.inr ⟨q, d0, E, ce, L, ⟨ee, sP W v', ad, by unfold lP; rw [c1], c2, y2, y1, y3⟩, d1, d2, d3, d4, d5, fun z hz => (d6 z hz).1⟩

/-- a method of numbers alone -/
theorem ct_N {l : Launch} {y : MethodName} {cc : ByteArray} {maxL : Nat} {rty : Option FieldType} {rm : Room} {rt : Option Nat} {as : List AV} {f : V → Res} (h : Ct l y cc maxL rty rm rt as f) (ha : ∀ a ∈ as, a.1 < 10) (hrt : ∀ q, rt = some q → q < 10) : Ct2 l y cc maxL rty rm rt as (lZ f) := by
  intro D B ad W hok hf
  intro p e ha9 hc9 hk9 s m args below hfr happ hP hK9
  obtain ⟨hav, hG, hS2⟩ := hP
  have hf9 : f v0s ≠ none := fun q => hf (by unfold lZ; rw [q])
  have hG' : Gd l D (fun q => s.heap.size ≤ q) s := hG.narrow (fun q hq => hq) hG.2.1
  have hS0 : Sto D (fun q => s.heap.size ≤ q) ad v0s s.heap := ⟨fun K i hK h => absurd (show (0 : Int) = 1 from h) (by decide), fun K K' i i' hK hK' h => absurd (show (0 : Int) = 1 from h) (by decide)⟩
  obtain ⟨n, o, g1, g2, g3, g4⟩ := h D (fun q => s.heap.size ≤ q) ad v0s (fun a h9 => (okv_prim (ha a h9)).mp (hok a h9)) hf9 p e ha9 hc9 hk9 s m args below hfr happ ⟨hav, hG', hS0⟩ hK9
  have post : ∀ t : State, va_F (fun q => s.heap.size ≤ q) s t → Sto2 D B ad W t.heap ∧ va_F (fun q => B q) s t := fun t hF => by
    have hk : ∀ q, q < s.heap.size → t.heap[q]? = s.heap[q]? := fun q hq => hF.2 q hq (by omega)
    exact ⟨hS2.kept hk, hF.1, fun q q1 q2 => hk q q1⟩
  refine ⟨n, o, g1, g2, g3, ?_⟩
  rcases g4 with ⟨⟨z, v', ad', c1, c2, c3, c4, c5, c6⟩, L, d1, d2⟩ | ⟨q, d0, E, ce, L, ⟨ee, v', ad', c1, c2, c4, c5, c6⟩, d1, d2, d3, d4, d5, d6⟩
  · obtain ⟨y1, y2⟩ := post _ c6
    refine Or.inl ⟨⟨z, W, ad, by unfold lZ; rw [c1], ?_, fun q hq => (okv_prim (hrt q hq)).mp (c3 q hq), Ext.rf, y1, y2⟩, L, d1, fun q hq => hG.2.1 _ (d2 q hq)⟩
    rw [c2]
    cases rt with
    | none => rfl
    | some q =>
      have := cv_prim (as := [(q, z)]) (fun a h9 => by rw [List.mem_singleton.mp h9]; exact hrt q rfl) ad' ad
      simp only [List.map_cons, List.map_nil, List.cons.injEq, and_true] at this
      show Outcome.returned (some (cv ad' (q, z))) = .returned (some (cv ad (q, z)))
      rw [this]
  · obtain ⟨y1, y2⟩ := post _ c6
    exact Or.inr ⟨q, d0, E, ce, L, ⟨ee, W, ad, by unfold lZ; rw [c1], c2, Ext.rf, y1, y2⟩, d1, d2, d3, d4, d5, fun z hz => hG.2.1 _ (d6 z hz)⟩

section Core9
variable {x : Cx} {cc : ByteArray} {own nm : String} {rm : Room} {nL : Nat} {rt : Option Nat} {rty : Option FieldType} {lw : Nat} {r r1 r2 : Res} {v : V} {cells slots pc tgt : Nat} {ls ls' : List (Nat × AV)} {st : List AV} {t t1 t2 : Nat} {a b i z : Int} {ty : FieldType} {hh : List (Nat × Nat × Nat × Nat)}
theorem g2_chk {q : Prop} [Decidable q] (k : q → Gs2 x r v cells slots pc ls st) : Gs2 x (chk q r) v cells slots pc ls st := by
  by_cases h : q
  · rw [chk, if_pos h]; exact k h
  · rw [chk, if_neg h]
    obtain ⟨⟨p, l, e, R, s, m⟩, ⟨args, below, meth, c⟩, ⟨nL', D, B, ad0, v0, rt', lw'⟩⟩ := x
    intro hr
    exact absurd rfl hr
theorem g2_if {q : Prop} [Decidable q] (k1 : q → Gs2 x r1 v cells slots pc ls st) (k2 : ¬ q → Gs2 x r2 v cells slots pc ls st) : Gs2 x (if q then r1 else r2) v cells slots pc ls st := by
  by_cases h : q
  · rw [if_pos h]; exact k1 h
  · rw [if_neg h]; exact k2 h
theorem g2_none : Gs2 x none v cells slots pc ls st := by
  obtain ⟨⟨p, l, e, R, s, m⟩, ⟨args, below, meth, c⟩, ⟨nL', D, B, ad0, v0, rt', lw'⟩⟩ := x
  intro hr
  exact absurd rfl hr
theorem g2_iadd (F : Fx x cc own nm rm nL rt rty lw) (h1 : il t1 = true) (h2 : il t2 = true) (hd : decode cc pc = .ok (.iadd, 1)) (k : Gs2 x r v cells slots (pc + 1) ls ((0, w32 (a + b)) :: st)) : Gs2 x r v cells slots pc ls ((t2, b) :: (t1, a) :: st) := by
  obtain ⟨⟨p, l, e, R, s, m⟩, ⟨args, below, meth, c⟩, ⟨nL', D, B, ad0, v0, rt', lw'⟩⟩ := x
  intro hr ad H locs lsA hS hE hV hl hls hst
  obtain ⟨hx, hb, hown, hR, hml, hnL, hrt, hret, hnm, hlk, het, hG⟩ := id F
  have kk := k hr ad H locs lsA hS hE hV hl hls (ok_c (okv_0.mpr (by first | exact w32_r _ | exact I_r _)) (ok_t (ok_t hst)))
  rw [List.map_cons, List.map_cons, cv_il h1, cv_il h2]
  refine lv_iadd hx hb hd ?_
  rw [I_add]
  exact kk
theorem g2_isub (F : Fx x cc own nm rm nL rt rty lw) (h1 : il t1 = true) (h2 : il t2 = true) (hd : decode cc pc = .ok (.isub, 1)) (k : Gs2 x r v cells slots (pc + 1) ls ((0, w32 (a - b)) :: st)) : Gs2 x r v cells slots pc ls ((t2, b) :: (t1, a) :: st) := by
  obtain ⟨⟨p, l, e, R, s, m⟩, ⟨args, below, meth, c⟩, ⟨nL', D, B, ad0, v0, rt', lw'⟩⟩ := x
  intro hr ad H locs lsA hS hE hV hl hls hst
  obtain ⟨hx, hb, hown, hR, hml, hnL, hrt, hret, hnm, hlk, het, hG⟩ := id F
  have kk := k hr ad H locs lsA hS hE hV hl hls (ok_c (okv_0.mpr (by first | exact w32_r _ | exact I_r _)) (ok_t (ok_t hst)))
  rw [List.map_cons, List.map_cons, cv_il h1, cv_il h2]
  refine lv_isub hx hb hd ?_
  rw [I_sub]
  exact kk
theorem g2_imul (F : Fx x cc own nm rm nL rt rty lw) (h1 : il t1 = true) (h2 : il t2 = true) (hd : decode cc pc = .ok (.imul, 1)) (k : Gs2 x r v cells slots (pc + 1) ls ((0, w32 (a * b)) :: st)) : Gs2 x r v cells slots pc ls ((t2, b) :: (t1, a) :: st) := by
  obtain ⟨⟨p, l, e, R, s, m⟩, ⟨args, below, meth, c⟩, ⟨nL', D, B, ad0, v0, rt', lw'⟩⟩ := x
  intro hr ad H locs lsA hS hE hV hl hls hst
  obtain ⟨hx, hb, hown, hR, hml, hnL, hrt, hret, hnm, hlk, het, hG⟩ := id F
  have kk := k hr ad H locs lsA hS hE hV hl hls (ok_c (okv_0.mpr (by first | exact w32_r _ | exact I_r _)) (ok_t (ok_t hst)))
  rw [List.map_cons, List.map_cons, cv_il h1, cv_il h2]
  refine lv_imul hx hb hd ?_
  rw [I_mul]
  exact kk
theorem g2_iand (F : Fx x cc own nm rm nL rt rty lw) (h1 : il t1 = true) (h2 : il t2 = true) (hd : decode cc pc = .ok (.iand, 1)) (k : Gs2 x r v cells slots (pc + 1) ls ((0, and32 a b) :: st)) : Gs2 x r v cells slots pc ls ((t2, b) :: (t1, a) :: st) := by
  obtain ⟨⟨p, l, e, R, s, m⟩, ⟨args, below, meth, c⟩, ⟨nL', D, B, ad0, v0, rt', lw'⟩⟩ := x
  intro hr ad H locs lsA hS hE hV hl hls hst
  obtain ⟨hx, hb, hown, hR, hml, hnL, hrt, hret, hnm, hlk, het, hG⟩ := id F
  have kk := k hr ad H locs lsA hS hE hV hl hls (ok_c (okv_0.mpr (by first | exact w32_r _ | exact I_r _)) (ok_t (ok_t hst)))
  rw [List.map_cons, List.map_cons, cv_il h1, cv_il h2]
  refine lv_iand hx hb hd ?_
  rw [show Int32.ofInt a &&& Int32.ofInt b = Int32.ofInt (and32 a b) from (I_of _).symm]
  exact kk
theorem g2_ishr (F : Fx x cc own nm rm nL rt rty lw) (h1 : il t1 = true) (h2 : il t2 = true) (hd : decode cc pc = .ok (.ishr, 1)) (k : Gs2 x r v cells slots (pc + 1) ls ((0, shr32 a b) :: st)) : Gs2 x r v cells slots pc ls ((t2, b) :: (t1, a) :: st) := by
  obtain ⟨⟨p, l, e, R, s, m⟩, ⟨args, below, meth, c⟩, ⟨nL', D, B, ad0, v0, rt', lw'⟩⟩ := x
  intro hr ad H locs lsA hS hE hV hl hls hst
  obtain ⟨hx, hb, hown, hR, hml, hnL, hrt, hret, hnm, hlk, het, hG⟩ := id F
  have kk := k hr ad H locs lsA hS hE hV hl hls (ok_c (okv_0.mpr (by first | exact w32_r _ | exact I_r _)) (ok_t (ok_t hst)))
  rw [List.map_cons, List.map_cons, cv_il h1, cv_il h2]
  refine lv_ishr hx hb hd ?_
  rw [show Int32.ofInt a >>> (Int32.ofInt b &&& 31) = Int32.ofInt (shr32 a b) from (I_of _).symm]
  exact kk
theorem g2_idiv (F : Fx x cc own nm rm nL rt rty lw) (hne : ¬ b = 0) (h1 : il t1 = true) (h2 : il t2 = true) (hd : decode cc pc = .ok (.idiv, 1)) (k : Gs2 x r v cells slots (pc + 1) ls ((0, w32 (a.tdiv b)) :: st)) : Gs2 x r v cells slots pc ls ((t2, b) :: (t1, a) :: st) := by
  obtain ⟨⟨p, l, e, R, s, m⟩, ⟨args, below, meth, c⟩, ⟨nL', D, B, ad0, v0, rt', lw'⟩⟩ := x
  intro hr ad H locs lsA hS hE hV hl hls hst
  obtain ⟨hx, hb, hown, hR, hml, hnL, hrt, hret, hnm, hlk, het, hG⟩ := id F
  have kk := k hr ad H locs lsA hS hE hV hl hls (ok_c (okv_0.mpr (w32_r _)) (ok_t (ok_t hst)))
  have ra := okv_il h1 (ok_h (ok_t hst))
  have rb := okv_il h2 (ok_h hst)
  rw [List.map_cons, List.map_cons, cv_il h1, cv_il h2]
  refine lv_idiv hx hb hd (fun q => hne ((I_eq rb (R32_lit 0 (by decide))).mp q)) ?_
  rw [I_div ra rb]
  exact kk
theorem g2_i2l (F : Fx x cc own nm rm nL rt rty lw) (h1 : il t = true) (hd : decode cc pc = .ok (.i2l, 1)) (k : Gs2 x r v cells slots (pc + 1) ls ((1, a) :: st)) : Gs2 x r v cells slots pc ls ((t, a) :: st) := by
  obtain ⟨⟨p, l, e, R, s, m⟩, ⟨args, below, meth, c⟩, ⟨nL', D, B, ad0, v0, rt', lw'⟩⟩ := x
  intro hr ad H locs lsA hS hE hV hl hls hst
  obtain ⟨hx, hb, hown, hR, hml, hnL, hrt, hret, hnm, hlk, het, hG⟩ := id F
  have ra := okv_il h1 (ok_h hst)
  have kk := k hr ad H locs lsA hS hE hV hl hls (ok_c (okv_1.mpr (R64_32 ra)) (ok_t hst))
  rw [List.map_cons, cv_il h1]
  exact lv_i2l hx hb hd (I_i2l ra) kk
theorem g2_lcmp (F : Fx x cc own nm rm nL rt rty lw) (hd : decode cc pc = .ok (.lcmp, 1)) (k : Gs2 x r v cells slots (pc + 1) ls ((0, lcmp a b) :: st)) : Gs2 x r v cells slots pc ls ((1, b) :: (1, a) :: st) := by
  obtain ⟨⟨p, l, e, R, s, m⟩, ⟨args, below, meth, c⟩, ⟨nL', D, B, ad0, v0, rt', lw'⟩⟩ := x
  intro hr ad H locs lsA hS hE hV hl hls hst
  obtain ⟨hx, hb, hown, hR, hml, hnL, hrt, hret, hnm, hlk, het, hG⟩ := id F
  have rb := okv_1.mp (ok_h hst)
  have ra := okv_1.mp (ok_h (ok_t hst))
  have kk := k hr ad H locs lsA hS hE hV hl hls (ok_c (okv_0.mpr (lcmp_r _ _)) (ok_t (ok_t hst)))
  rw [List.map_cons, List.map_cons, cv_1, cv_1]
  refine W.lcmp hx hb hd ?_
  have e9 : lg_cmp (Int64.ofInt a) (Int64.ofInt b) = Int32.ofInt (lcmp a b) := by
    unfold lg_cmp lcmp
    simp only [L_lt rb ra, L_eq ra rb]
    by_cases q1 : a < b
    · rw [if_pos q1, if_neg (by omega), if_neg (by omega)]; rfl
    · rw [if_neg q1]
      by_cases q3 : a = b
      · rw [if_pos q3, if_neg (by omega), if_pos q3]; rfl
      · rw [if_neg q3, if_neg q3, if_pos (by omega)]; rfl
  rw [e9]
  exact kk
theorem g2_ladd (F : Fx x cc own nm rm nL rt rty lw) (hd : decode cc pc = .ok (.ladd, 1)) (k : Gs2 x r v cells slots (pc + 1) ls ((1, w64 (a + b)) :: st)) : Gs2 x r v cells slots pc ls ((1, b) :: (1, a) :: st) := by
  obtain ⟨⟨p, l, e, R, s, m⟩, ⟨args, below, meth, c⟩, ⟨nL', D, B, ad0, v0, rt', lw'⟩⟩ := x
  intro hr ad H locs lsA hS hE hV hl hls hst
  obtain ⟨hx, hb, hown, hR, hml, hnL, hrt, hret, hnm, hlk, het, hG⟩ := id F
  have kk := k hr ad H locs lsA hS hE hV hl hls (ok_c (okv_1.mpr (w64_r _)) (ok_t (ok_t hst)))
  rw [List.map_cons, List.map_cons, cv_1, cv_1]
  refine lv_ladd hx hb hd ?_
  rw [L_add]
  exact kk
theorem g2_iconst (F : Fx x cc own nm rm nL rt rty lw) {n : Int} (t : Nat) (hk : okc t n = true) (hd : decode cc pc = .ok (.iconst n, 1)) (k : Gs2 x r v cells slots (pc + 1) ls ((t, n) :: st)) : Gs2 x r v cells slots pc ls st := by
  obtain ⟨⟨p, l, e, R, s, m⟩, ⟨args, below, meth, c⟩, ⟨nL', D, B, ad0, v0, rt', lw'⟩⟩ := x
  intro hr ad H locs lsA hS hE hV hl hls hst
  obtain ⟨hx, hb, hown, hR, hml, hnL, hrt, hret, hnm, hlk, het, hG⟩ := id F
  have kk := k hr ad H locs lsA hS hE hV hl hls (ok_c (okc_ok hk) hst)
  rw [List.map_cons, cv_il (okc_il hk)] at kk
  exact lv_iconst hx hb hd rfl kk
theorem g2_bipush (F : Fx x cc own nm rm nL rt rty lw) {n : Int} (hk : okc 0 n = true) (hv : (Int8.ofInt n).toInt32 = Int32.ofInt n) (hd : decode cc pc = .ok (.bipush n, 2)) (k : Gs2 x r v cells slots (pc + 2) ls ((0, n) :: st)) : Gs2 x r v cells slots pc ls st := by
  obtain ⟨⟨p, l, e, R, s, m⟩, ⟨args, below, meth, c⟩, ⟨nL', D, B, ad0, v0, rt', lw'⟩⟩ := x
  intro hr ad H locs lsA hS hE hV hl hls hst
  obtain ⟨hx, hb, hown, hR, hml, hnL, hrt, hret, hnm, hlk, het, hG⟩ := id F
  have kk := k hr ad H locs lsA hS hE hV hl hls (ok_c (okc_ok hk) hst)
  exact lv_bipush hx hb hd hv kk
theorem g2_sipush (F : Fx x cc own nm rm nL rt rty lw) {n : Int} (hk : okc 0 n = true) (hv : (Int16.ofInt n).toInt32 = Int32.ofInt n) (hd : decode cc pc = .ok (.sipush n, 3)) (k : Gs2 x r v cells slots (pc + 3) ls ((0, n) :: st)) : Gs2 x r v cells slots pc ls st := by
  obtain ⟨⟨p, l, e, R, s, m⟩, ⟨args, below, meth, c⟩, ⟨nL', D, B, ad0, v0, rt', lw'⟩⟩ := x
  intro hr ad H locs lsA hS hE hV hl hls hst
  obtain ⟨hx, hb, hown, hR, hml, hnL, hrt, hret, hnm, hlk, het, hG⟩ := id F
  have kk := k hr ad H locs lsA hS hE hV hl hls (ok_c (okc_ok hk) hst)
  exact lv_sipush hx hb hd hv kk
theorem g2_ldc (F : Fx x cc own nm rm nL rt rty lw) {n : Int} {i : Nat} (hk : okc 0 n = true) (hw : Cond.constant own i (Int32.ofInt n) ∈ gtbl) (hd : decode cc pc = .ok (.ldc i, 2)) (k : Gs2 x r v cells slots (pc + 2) ls ((0, n) :: st)) : Gs2 x r v cells slots pc ls st := by
  obtain ⟨⟨p, l, e, R, s, m⟩, ⟨args, below, meth, c⟩, ⟨nL', D, B, ad0, v0, rt', lw'⟩⟩ := x
  intro hr ad H locs lsA hS hE hV hl hls hst
  obtain ⟨hx, hb, hown, hR, hml, hnL, hrt, hret, hnm, hlk, het, hG⟩ := id F
  have kk := k hr ad H locs lsA hS hE hV hl hls (ok_c (okc_ok hk) hst)
  exact lv_ldc hx hb hown (hG.2.2.1 _ hw _) hd kk
theorem g2_lconst (F : Fx x cc own nm rm nL rt rty lw) {n : Fin 2} {z : Int} (hz : ((n : Nat) : Int) = z) (hd : decode cc pc = .ok (.lconst n, 1)) (k : Gs2 x r v cells slots (pc + 1) ls ((1, z) :: st)) : Gs2 x r v cells slots pc ls st := by
  obtain ⟨⟨p, l, e, R, s, m⟩, ⟨args, below, meth, c⟩, ⟨nL', D, B, ad0, v0, rt', lw'⟩⟩ := x
  intro hr ad H locs lsA hS hE hV hl hls hst
  obtain ⟨hx, hb, hown, hR, hml, hnL, hrt, hret, hnm, hlk, het, hG⟩ := id F
  subst hz
  have kk := k hr ad H locs lsA hS hE hV hl hls (ok_c (okv_1.mpr (by have := n.isLt; unfold R64; omega)) hst)
  refine lv_lconst (v := Int64.ofInt ((n : Nat) : Int)) hx hb hd ?_ kk
  rw [Int64.ofInt_eq_ofNat]
theorem g2_iload_n (F : Fx x cc own nm rm nL rt rty lw) {k9 : Fin 4} {i : Nat} (hi : (k9 : Nat) = i) (j : Nat) (ht : il t = true) (hj : ls[j]? = some (i, (t, a))) (hd : decode cc pc = .ok (.iload_n k9, 1)) (k : Gs2 x r v cells slots (pc + 1) ls ((t, a) :: st)) : Gs2 x r v cells slots pc ls st := by
  obtain ⟨⟨p, l, e, R, s, m⟩, ⟨args, below, meth, c⟩, ⟨nL', D, B, ad0, v0, rt', lw'⟩⟩ := x
  intro hr ad H locs lsA hS hE hV hl hls hst
  obtain ⟨hx, hb, hown, hR, hml, hnL, hrt, hret, hnm, hlk, het, hG⟩ := id F
  have kk := k hr ad H locs lsA hS hE hV hl hls (ok_c (ok_q hls hj) hst)
  have hq := lv_q hl hj
  rw [cv_il ht] at hq
  rw [List.map_cons, cv_il ht] at kk
  exact lv_iload_n hx hb hd hi hq kk
theorem g2_iload (F : Fx x cc own nm rm nL rt rty lw) {i : Nat} (j : Nat) (ht : il t = true) (hj : ls[j]? = some (i, (t, a))) (hd : decode cc pc = .ok (.iload i, 2)) (k : Gs2 x r v cells slots (pc + 2) ls ((t, a) :: st)) : Gs2 x r v cells slots pc ls st := by
  obtain ⟨⟨p, l, e, R, s, m⟩, ⟨args, below, meth, c⟩, ⟨nL', D, B, ad0, v0, rt', lw'⟩⟩ := x
  intro hr ad H locs lsA hS hE hV hl hls hst
  obtain ⟨hx, hb, hown, hR, hml, hnL, hrt, hret, hnm, hlk, het, hG⟩ := id F
  have kk := k hr ad H locs lsA hS hE hV hl hls (ok_c (ok_q hls hj) hst)
  have hq := lv_q hl hj
  rw [cv_il ht] at hq
  rw [List.map_cons, cv_il ht] at kk
  exact lv_iload hx hb hd hq kk
theorem g2_aload_n (F : Fx x cc own nm rm nL rt rty lw) {k9 : Fin 4} {i : Nat} (hi : (k9 : Nat) = i) (j : Nat) {K : Nat} (hj : ls[j]? = some (i, (K + 10, a))) (hd : decode cc pc = .ok (.aload_n k9, 1)) (k : Gs2 x r v cells slots (pc + 1) ls ((K + 10, a) :: st)) : Gs2 x r v cells slots pc ls st := by
  obtain ⟨⟨p, l, e, R, s, m⟩, ⟨args, below, meth, c⟩, ⟨nL', D, B, ad0, v0, rt', lw'⟩⟩ := x
  intro hr ad H locs lsA hS hE hV hl hls hst
  obtain ⟨hx, hb, hown, hR, hml, hnL, hrt, hret, hnm, hlk, het, hG⟩ := id F
  have kk := k hr ad H locs lsA hS hE hV hl hls (ok_c (ok_q hls hj) hst)
  have hq := lv_q hl hj
  by_cases h9 : a < 0
  · rw [cv_neg h9] at hq
    rw [List.map_cons, cv_neg h9] at kk
    exact lv_aload_nN hx hb hd hi hq kk
  · rw [cv_pos (by omega)] at hq
    rw [List.map_cons, cv_pos (by omega)] at kk
    exact lv_aload_n hx hb hd hi hq kk
theorem g2_aload (F : Fx x cc own nm rm nL rt rty lw) {i : Nat} (j : Nat) {K : Nat} (hj : ls[j]? = some (i, (K + 10, a))) (hd : decode cc pc = .ok (.aload i, 2)) (k : Gs2 x r v cells slots (pc + 2) ls ((K + 10, a) :: st)) : Gs2 x r v cells slots pc ls st := by
  obtain ⟨⟨p, l, e, R, s, m⟩, ⟨args, below, meth, c⟩, ⟨nL', D, B, ad0, v0, rt', lw'⟩⟩ := x
  intro hr ad H locs lsA hS hE hV hl hls hst
  obtain ⟨hx, hb, hown, hR, hml, hnL, hrt, hret, hnm, hlk, het, hG⟩ := id F
  have kk := k hr ad H locs lsA hS hE hV hl hls (ok_c (ok_q hls hj) hst)
  have hq := lv_q hl hj
  by_cases h9 : a < 0
  · rw [cv_neg h9] at hq
    rw [List.map_cons, cv_neg h9] at kk
    exact lv_aloadN hx hb hd hq kk
  · rw [cv_pos (by omega)] at hq
    rw [List.map_cons, cv_pos (by omega)] at kk
    exact lv_aload hx hb hd hq kk
theorem g2_lload_n (F : Fx x cc own nm rm nL rt rty lw) {k9 : Fin 4} {i : Nat} (hi : (k9 : Nat) = i) (j : Nat) (hj : ls[j]? = some (i, (1, a))) (hd : decode cc pc = .ok (.lload_n k9, 1)) (k : Gs2 x r v cells slots (pc + 1) ls ((1, a) :: st)) : Gs2 x r v cells slots pc ls st := by
  obtain ⟨⟨p, l, e, R, s, m⟩, ⟨args, below, meth, c⟩, ⟨nL', D, B, ad0, v0, rt', lw'⟩⟩ := x
  intro hr ad H locs lsA hS hE hV hl hls hst
  obtain ⟨hx, hb, hown, hR, hml, hnL, hrt, hret, hnm, hlk, het, hG⟩ := id F
  have kk := k hr ad H locs lsA hS hE hV hl hls (ok_c (ok_q hls hj) hst)
  have hq := lv_q hl hj
  exact lv_lload_n hx hb hd hi hq kk
theorem g2_lload (F : Fx x cc own nm rm nL rt rty lw) {i : Nat} (j : Nat) (hj : ls[j]? = some (i, (1, a))) (hd : decode cc pc = .ok (.lload i, 2)) (k : Gs2 x r v cells slots (pc + 2) ls ((1, a) :: st)) : Gs2 x r v cells slots pc ls st := by
  obtain ⟨⟨p, l, e, R, s, m⟩, ⟨args, below, meth, c⟩, ⟨nL', D, B, ad0, v0, rt', lw'⟩⟩ := x
  intro hr ad H locs lsA hS hE hV hl hls hst
  obtain ⟨hx, hb, hown, hR, hml, hnL, hrt, hret, hnm, hlk, het, hG⟩ := id F
  have kk := k hr ad H locs lsA hS hE hV hl hls (ok_c (ok_q hls hj) hst)
  have hq := lv_q hl hj
  exact lv_lload hx hb hd hq kk
theorem g2_istore_n (F : Fx x cc own nm rm nL rt rty lw) {k9 : Fin 4} {i : Nat} (hi : (k9 : Nat) = i) (ht : il t = true) (hn : i < nL) (he : lput ls i (t, a) = ls') (hd : decode cc pc = .ok (.istore_n k9, 1)) (k : Gs2 x r v cells slots (pc + 1) ls' st) : Gs2 x r v cells slots pc ls ((t, a) :: st) := by
  obtain ⟨⟨p, l, e, R, s, m⟩, ⟨args, below, meth, c⟩, ⟨nL', D, B, ad0, v0, rt', lw'⟩⟩ := x
  intro hr ad H locs lsA hS hE hV hl hls hst
  obtain ⟨hx, hb, hown, hR, hml, hnL, hrt, hret, hnm, hlk, het, hG⟩ := id F
  subst he
  subst hnL
  have kk := fun lsB hlB => k hr ad H locs lsB hS hE hV hlB (ok_put (ok_h hst) hls) (ok_t hst)
  rw [List.map_cons, cv_il ht]
  exact lv_istore_n hx hb hd hi hl hn (by rw [← lput_map, cv_il ht]) kk
theorem g2_istore (F : Fx x cc own nm rm nL rt rty lw) {i : Nat} (ht : il t = true) (hn : i < nL) (he : lput ls i (t, a) = ls') (hd : decode cc pc = .ok (.istore i, 2)) (k : Gs2 x r v cells slots (pc + 2) ls' st) : Gs2 x r v cells slots pc ls ((t, a) :: st) := by
  obtain ⟨⟨p, l, e, R, s, m⟩, ⟨args, below, meth, c⟩, ⟨nL', D, B, ad0, v0, rt', lw'⟩⟩ := x
  intro hr ad H locs lsA hS hE hV hl hls hst
  obtain ⟨hx, hb, hown, hR, hml, hnL, hrt, hret, hnm, hlk, het, hG⟩ := id F
  subst he
  subst hnL
  have kk := fun lsB hlB => k hr ad H locs lsB hS hE hV hlB (ok_put (ok_h hst) hls) (ok_t hst)
  rw [List.map_cons, cv_il ht]
  exact lv_istore hx hb hd hl hn (by rw [← lput_map, cv_il ht]) kk
theorem g2_astore_n (F : Fx x cc own nm rm nL rt rty lw) {k9 : Fin 4} {i : Nat} (hi : (k9 : Nat) = i) {K : Nat} (hn : i < nL) (he : lput ls i (K + 10, a) = ls') (hd : decode cc pc = .ok (.astore_n k9, 1)) (k : Gs2 x r v cells slots (pc + 1) ls' st) : Gs2 x r v cells slots pc ls ((K + 10, a) :: st) := by
  obtain ⟨⟨p, l, e, R, s, m⟩, ⟨args, below, meth, c⟩, ⟨nL', D, B, ad0, v0, rt', lw'⟩⟩ := x
  intro hr ad H locs lsA hS hE hV hl hls hst
  obtain ⟨hx, hb, hown, hR, hml, hnL, hrt, hret, hnm, hlk, het, hG⟩ := id F
  subst he
  subst hnL
  have kk := fun lsB hlB => k hr ad H locs lsB hS hE hV hlB (ok_put (ok_h hst) hls) (ok_t hst)
  by_cases h9 : a < 0
  · rw [List.map_cons, cv_neg h9]
    exact lv_astore_nN hx hb hd hi hl hn (by rw [← lput_map, cv_neg h9]) kk
  · rw [List.map_cons, cv_pos (by omega)]
    exact lv_astore_n hx hb hd hi hl hn (by rw [← lput_map, cv_pos (by omega)]) kk
theorem g2_astore (F : Fx x cc own nm rm nL rt rty lw) {i : Nat} {K : Nat} (hn : i < nL) (he : lput ls i (K + 10, a) = ls') (hd : decode cc pc = .ok (.astore i, 2)) (k : Gs2 x r v cells slots (pc + 2) ls' st) : Gs2 x r v cells slots pc ls ((K + 10, a) :: st) := by
  obtain ⟨⟨p, l, e, R, s, m⟩, ⟨args, below, meth, c⟩, ⟨nL', D, B, ad0, v0, rt', lw'⟩⟩ := x
  intro hr ad H locs lsA hS hE hV hl hls hst
  obtain ⟨hx, hb, hown, hR, hml, hnL, hrt, hret, hnm, hlk, het, hG⟩ := id F
  subst he
  subst hnL
  have kk := fun lsB hlB => k hr ad H locs lsB hS hE hV hlB (ok_put (ok_h hst) hls) (ok_t hst)
  by_cases h9 : a < 0
  · rw [List.map_cons, cv_neg h9]
    exact lv_astoreN hx hb hd hl hn (by rw [← lput_map, cv_neg h9]) kk
  · rw [List.map_cons, cv_pos (by omega)]
    exact lv_astore hx hb hd hl hn (by rw [← lput_map, cv_pos (by omega)]) kk
theorem g2_lstore_n (F : Fx x cc own nm rm nL rt rty lw) {k9 : Fin 4} {i : Nat} (hi : (k9 : Nat) = i) (hn : i + 1 < nL) (he : lput2 ls i (1, a) = ls') (hd : decode cc pc = .ok (.lstore_n k9, 1)) (k : Gs2 x r v cells slots (pc + 1) ls' st) : Gs2 x r v cells slots pc ls ((1, a) :: st) := by
  obtain ⟨⟨p, l, e, R, s, m⟩, ⟨args, below, meth, c⟩, ⟨nL', D, B, ad0, v0, rt', lw'⟩⟩ := x
  intro hr ad H locs lsA hS hE hV hl hls hst
  obtain ⟨hx, hb, hown, hR, hml, hnL, hrt, hret, hnm, hlk, het, hG⟩ := id F
  subst he
  subst hnL
  have kk := fun lsB hlB => k hr ad H locs lsB hS hE hV hlB (ok_put2 (ok_h hst) hls) (ok_t hst)
  exact lv_lstore_n hx hb hd hi hl hn (by rw [← lput2_map]; rfl) kk
theorem g2_lstore (F : Fx x cc own nm rm nL rt rty lw) {i : Nat} (hn : i + 1 < nL) (he : lput2 ls i (1, a) = ls') (hd : decode cc pc = .ok (.lstore i, 2)) (k : Gs2 x r v cells slots (pc + 2) ls' st) : Gs2 x r v cells slots pc ls ((1, a) :: st) := by
  obtain ⟨⟨p, l, e, R, s, m⟩, ⟨args, below, meth, c⟩, ⟨nL', D, B, ad0, v0, rt', lw'⟩⟩ := x
  intro hr ad H locs lsA hS hE hV hl hls hst
  obtain ⟨hx, hb, hown, hR, hml, hnL, hrt, hret, hnm, hlk, het, hG⟩ := id F
  subst he
  subst hnL
  have kk := fun lsB hlB => k hr ad H locs lsB hS hE hV hlB (ok_put2 (ok_h hst) hls) (ok_t hst)
  exact lv_lstore hx hb hd hl hn (by rw [← lput2_map]; rfl) kk
theorem g2_iinc (F : Fx x cc own nm rm nL rt rty lw) {i : Nat} {n : Int} (j : Nat) (ht : il t = true) (hj : ls[j]? = some (i, (t, a))) (hn : i < nL) (he : lput ls i (0, w32 (a + n)) = ls') (hd : decode cc pc = .ok (.iinc i n, 3)) (k : Gs2 x r v cells slots (pc + 3) ls' st) : Gs2 x r v cells slots pc ls st := by
  obtain ⟨⟨p, l, e, R, s, m⟩, ⟨args, below, meth, c⟩, ⟨nL', D, B, ad0, v0, rt', lw'⟩⟩ := x
  intro hr ad H locs lsA hS hE hV hl hls hst
  obtain ⟨hx, hb, hown, hR, hml, hnL, hrt, hret, hnm, hlk, het, hG⟩ := id F
  subst he
  subst hnL
  have kk := fun lsB hlB => k hr ad H locs lsB hS hE hV hlB (ok_put (okv_0.mpr (w32_r _)) hls) hst
  refine lv_iinc (k := j) (x := Int32.ofInt a) (v := Int32.ofInt (w32 (a + n))) hx hb hd hl ?_ ?_ hn (by rw [← lput_map]; rfl) kk
  · rw [List.getElem?_map, hj]
    show some (i, cv ad (t, a)) = _
    rw [cv_il ht]
  · rw [I_add]
theorem g2_if_eq (F : Fx x cc own nm rm nL rt rty lw) (h1 : il t = true) {off : Int} (ht : (pc : Int) + off = (tgt : Int)) (hd : decode cc pc = .ok (.ifCond .eq off, 3)) (k1 : a = 0 → Gs2 x r1 v cells slots tgt ls st) (k2 : ¬ (a = 0) → Gs2 x r2 v cells slots (pc + 3) ls st) : Gs2 x (if a = 0 then r1 else r2) v cells slots pc ls ((t, a) :: st) := by
  by_cases h9 : a = 0
  · rw [if_pos h9]
    have k := k1 h9
    clear k1 k2
    obtain ⟨⟨p, l, e, R, s, m⟩, ⟨args, below, meth, c⟩, ⟨nL', D, B, ad0, v0, rt', lw'⟩⟩ := x
    intro hr ad H locs lsA hS hE hV hl hls hst
    obtain ⟨hx, hb, hown, hR, hml, hnL, hrt, hret, hnm, hlk, het, hG⟩ := id F
    have kk := k hr ad H locs lsA hS hE hV hl hls (ok_t hst)
    have ra := okv_il h1 (ok_h hst)
    have z0 : R32 0 := R32_lit 0 (by decide)
    rw [List.map_cons, cv_il h1]
    exact lv_if_eq hx hb hd ht (fun _ => kk) (fun q => absurd ((I_eq ra z0).mpr h9) q)
  · rw [if_neg h9]
    have k := k2 h9
    clear k1 k2
    obtain ⟨⟨p, l, e, R, s, m⟩, ⟨args, below, meth, c⟩, ⟨nL', D, B, ad0, v0, rt', lw'⟩⟩ := x
    intro hr ad H locs lsA hS hE hV hl hls hst
    obtain ⟨hx, hb, hown, hR, hml, hnL, hrt, hret, hnm, hlk, het, hG⟩ := id F
    have kk := k hr ad H locs lsA hS hE hV hl hls (ok_t hst)
    have ra := okv_il h1 (ok_h hst)
    have z0 : R32 0 := R32_lit 0 (by decide)
    rw [List.map_cons, cv_il h1]
    exact lv_if_eq hx hb hd ht (fun q => absurd ((I_eq ra z0).mp q) h9) (fun _ => kk)
theorem g2_if_eq_t (F : Fx x cc own nm rm nL rt rty lw) (h1 : il t = true) {off : Int} (h9 : a = 0) (ht : (pc : Int) + off = (tgt : Int)) (hd : decode cc pc = .ok (.ifCond .eq off, 3)) (k : Gs2 x r v cells slots tgt ls st) : Gs2 x r v cells slots pc ls ((t, a) :: st) := by
  have h := g2_if_eq (r1 := r) (r2 := r) F h1 ht hd (fun _ => k) (fun q => absurd h9 q)
  rwa [if_pos h9] at h
theorem g2_if_eq_f (F : Fx x cc own nm rm nL rt rty lw) (h1 : il t = true) {off : Int} (h9 : ¬ (a = 0)) (ht : (pc : Int) + off = (tgt : Int)) (hd : decode cc pc = .ok (.ifCond .eq off, 3)) (k : Gs2 x r v cells slots (pc + 3) ls st) : Gs2 x r v cells slots pc ls ((t, a) :: st) := by
  have h := g2_if_eq (r1 := r) (r2 := r) F h1 ht hd (fun q => absurd q h9) (fun _ => k)
  rwa [if_neg h9] at h
theorem g2_icmp_eq (F : Fx x cc own nm rm nL rt rty lw) (h1 : il t1 = true) (h2 : il t2 = true) {off : Int} (ht : (pc : Int) + off = (tgt : Int)) (hd : decode cc pc = .ok (.if_icmp .eq off, 3)) (k1 : a = b → Gs2 x r1 v cells slots tgt ls st) (k2 : ¬ (a = b) → Gs2 x r2 v cells slots (pc + 3) ls st) : Gs2 x (if a = b then r1 else r2) v cells slots pc ls ((t2, b) :: (t1, a) :: st) := by
  by_cases h9 : a = b
  · rw [if_pos h9]
    have k := k1 h9
    clear k1 k2
    obtain ⟨⟨p, l, e, R, s, m⟩, ⟨args, below, meth, c⟩, ⟨nL', D, B, ad0, v0, rt', lw'⟩⟩ := x
    intro hr ad H locs lsA hS hE hV hl hls hst
    obtain ⟨hx, hb, hown, hR, hml, hnL, hrt, hret, hnm, hlk, het, hG⟩ := id F
    have kk := k hr ad H locs lsA hS hE hV hl hls (ok_t (ok_t hst))
    have ra := okv_il h1 (ok_h (ok_t hst))
    have rb := okv_il h2 (ok_h hst)
    rw [List.map_cons, List.map_cons, cv_il h1, cv_il h2]
    exact lv_icmp_eq hx hb hd ht (fun _ => kk) (fun q => absurd ((I_eq ra rb).mpr h9) q)
  · rw [if_neg h9]
    have k := k2 h9
    clear k1 k2
    obtain ⟨⟨p, l, e, R, s, m⟩, ⟨args, below, meth, c⟩, ⟨nL', D, B, ad0, v0, rt', lw'⟩⟩ := x
    intro hr ad H locs lsA hS hE hV hl hls hst
    obtain ⟨hx, hb, hown, hR, hml, hnL, hrt, hret, hnm, hlk, het, hG⟩ := id F
    have kk := k hr ad H locs lsA hS hE hV hl hls (ok_t (ok_t hst))
    have ra := okv_il h1 (ok_h (ok_t hst))
    have rb := okv_il h2 (ok_h hst)
    rw [List.map_cons, List.map_cons, cv_il h1, cv_il h2]
    exact lv_icmp_eq hx hb hd ht (fun q => absurd ((I_eq ra rb).mp q) h9) (fun _ => kk)
theorem g2_icmp_eq_t (F : Fx x cc own nm rm nL rt rty lw) (h1 : il t1 = true) (h2 : il t2 = true) {off : Int} (h9 : a = b) (ht : (pc : Int) + off = (tgt : Int)) (hd : decode cc pc = .ok (.if_icmp .eq off, 3)) (k : Gs2 x r v cells slots tgt ls st) : Gs2 x r v cells slots pc ls ((t2, b) :: (t1, a) :: st) := by
  have h := g2_icmp_eq (r1 := r) (r2 := r) F h1 h2 ht hd (fun _ => k) (fun q => absurd h9 q)
  rwa [if_pos h9] at h
theorem g2_icmp_eq_f (F : Fx x cc own nm rm nL rt rty lw) (h1 : il t1 = true) (h2 : il t2 = true) {off : Int} (h9 : ¬ (a = b)) (ht : (pc : Int) + off = (tgt : Int)) (hd : decode cc pc = .ok (.if_icmp .eq off, 3)) (k : Gs2 x r v cells slots (pc + 3) ls st) : Gs2 x r v cells slots pc ls ((t2, b) :: (t1, a) :: st) := by
  have h := g2_icmp_eq (r1 := r) (r2 := r) F h1 h2 ht hd (fun q => absurd q h9) (fun _ => k)
  rwa [if_neg h9] at h
theorem g2_if_ne (F : Fx x cc own nm rm nL rt rty lw) (h1 : il t = true) {off : Int} (ht : (pc : Int) + off = (tgt : Int)) (hd : decode cc pc = .ok (.ifCond .ne off, 3)) (k1 : ¬ a = 0 → Gs2 x r1 v cells slots tgt ls st) (k2 : ¬ (¬ a = 0) → Gs2 x r2 v cells slots (pc + 3) ls st) : Gs2 x (if ¬ a = 0 then r1 else r2) v cells slots pc ls ((t, a) :: st) := by
  by_cases h9 : ¬ a = 0
  · rw [if_pos h9]
    have k := k1 h9
    clear k1 k2
    obtain ⟨⟨p, l, e, R, s, m⟩, ⟨args, below, meth, c⟩, ⟨nL', D, B, ad0, v0, rt', lw'⟩⟩ := x
    intro hr ad H locs lsA hS hE hV hl hls hst
    obtain ⟨hx, hb, hown, hR, hml, hnL, hrt, hret, hnm, hlk, het, hG⟩ := id F
    have kk := k hr ad H locs lsA hS hE hV hl hls (ok_t hst)
    have ra := okv_il h1 (ok_h hst)
    have z0 : R32 0 := R32_lit 0 (by decide)
    rw [List.map_cons, cv_il h1]
    exact lv_if_ne hx hb hd ht (fun _ => kk) (fun q => absurd q ((not_congr (I_eq ra z0)).mpr h9))
  · rw [if_neg h9]
    have k := k2 h9
    clear k1 k2
    obtain ⟨⟨p, l, e, R, s, m⟩, ⟨args, below, meth, c⟩, ⟨nL', D, B, ad0, v0, rt', lw'⟩⟩ := x
    intro hr ad H locs lsA hS hE hV hl hls hst
    obtain ⟨hx, hb, hown, hR, hml, hnL, hrt, hret, hnm, hlk, het, hG⟩ := id F
    have kk := k hr ad H locs lsA hS hE hV hl hls (ok_t hst)
    have ra := okv_il h1 (ok_h hst)
    have z0 : R32 0 := R32_lit 0 (by decide)
    rw [List.map_cons, cv_il h1]
    exact lv_if_ne hx hb hd ht (fun q => absurd ((not_congr (I_eq ra z0)).mp q) h9) (fun _ => kk)
theorem g2_if_ne_t (F : Fx x cc own nm rm nL rt rty lw) (h1 : il t = true) {off : Int} (h9 : ¬ a = 0) (ht : (pc : Int) + off = (tgt : Int)) (hd : decode cc pc = .ok (.ifCond .ne off, 3)) (k : Gs2 x r v cells slots tgt ls st) : Gs2 x r v cells slots pc ls ((t, a) :: st) := by
  have h := g2_if_ne (r1 := r) (r2 := r) F h1 ht hd (fun _ => k) (fun q => absurd h9 q)
  rwa [if_pos h9] at h
theorem g2_if_ne_f (F : Fx x cc own nm rm nL rt rty lw) (h1 : il t = true) {off : Int} (h9 : ¬ (¬ a = 0)) (ht : (pc : Int) + off = (tgt : Int)) (hd : decode cc pc = .ok (.ifCond .ne off, 3)) (k : Gs2 x r v cells slots (pc + 3) ls st) : Gs2 x r v cells slots pc ls ((t, a) :: st) := by
  have h := g2_if_ne (r1 := r) (r2 := r) F h1 ht hd (fun q => absurd q h9) (fun _ => k)
  rwa [if_neg h9] at h
theorem g2_icmp_ne (F : Fx x cc own nm rm nL rt rty lw) (h1 : il t1 = true) (h2 : il t2 = true) {off : Int} (ht : (pc : Int) + off = (tgt : Int)) (hd : decode cc pc = .ok (.if_icmp .ne off, 3)) (k1 : ¬ a = b → Gs2 x r1 v cells slots tgt ls st) (k2 : ¬ (¬ a = b) → Gs2 x r2 v cells slots (pc + 3) ls st) : Gs2 x (if ¬ a = b then r1 else r2) v cells slots pc ls ((t2, b) :: (t1, a) :: st) := by
  by_cases h9 : ¬ a = b
  · rw [if_pos h9]
    have k := k1 h9
    clear k1 k2
    obtain ⟨⟨p, l, e, R, s, m⟩, ⟨args, below, meth, c⟩, ⟨nL', D, B, ad0, v0, rt', lw'⟩⟩ := x
    intro hr ad H locs lsA hS hE hV hl hls hst
    obtain ⟨hx, hb, hown, hR, hml, hnL, hrt, hret, hnm, hlk, het, hG⟩ := id F
    have kk := k hr ad H locs lsA hS hE hV hl hls (ok_t (ok_t hst))
    have ra := okv_il h1 (ok_h (ok_t hst))
    have rb := okv_il h2 (ok_h hst)
    rw [List.map_cons, List.map_cons, cv_il h1, cv_il h2]
    exact lv_icmp_ne hx hb hd ht (fun _ => kk) (fun q => absurd q ((not_congr (I_eq ra rb)).mpr h9))
  · rw [if_neg h9]
    have k := k2 h9
    clear k1 k2
    obtain ⟨⟨p, l, e, R, s, m⟩, ⟨args, below, meth, c⟩, ⟨nL', D, B, ad0, v0, rt', lw'⟩⟩ := x
    intro hr ad H locs lsA hS hE hV hl hls hst
    obtain ⟨hx, hb, hown, hR, hml, hnL, hrt, hret, hnm, hlk, het, hG⟩ := id F
    have kk := k hr ad H locs lsA hS hE hV hl hls (ok_t (ok_t hst))
    have ra := okv_il h1 (ok_h (ok_t hst))
    have rb := okv_il h2 (ok_h hst)
    rw [List.map_cons, List.map_cons, cv_il h1, cv_il h2]
    exact lv_icmp_ne hx hb hd ht (fun q => absurd ((not_congr (I_eq ra rb)).mp q) h9) (fun _ => kk)
theorem g2_icmp_ne_t (F : Fx x cc own nm rm nL rt rty lw) (h1 : il t1 = true) (h2 : il t2 = true) {off : Int} (h9 : ¬ a = b) (ht : (pc : Int) + off = (tgt : Int)) (hd : decode cc pc = .ok (.if_icmp .ne off, 3)) (k : Gs2 x r v cells slots tgt ls st) : Gs2 x r v cells slots pc ls ((t2, b) :: (t1, a) :: st) := by
  have h := g2_icmp_ne (r1 := r) (r2 := r) F h1 h2 ht hd (fun _ => k) (fun q => absurd h9 q)
  rwa [if_pos h9] at h
theorem g2_icmp_ne_f (F : Fx x cc own nm rm nL rt rty lw) (h1 : il t1 = true) (h2 : il t2 = true) {off : Int} (h9 : ¬ (¬ a = b)) (ht : (pc : Int) + off = (tgt : Int)) (hd : decode cc pc = .ok (.if_icmp .ne off, 3)) (k : Gs2 x r v cells slots (pc + 3) ls st) : Gs2 x r v cells slots pc ls ((t2, b) :: (t1, a) :: st) := by
  have h := g2_icmp_ne (r1 := r) (r2 := r) F h1 h2 ht hd (fun q => absurd q h9) (fun _ => k)
  rwa [if_neg h9] at h
theorem g2_if_lt (F : Fx x cc own nm rm nL rt rty lw) (h1 : il t = true) {off : Int} (ht : (pc : Int) + off = (tgt : Int)) (hd : decode cc pc = .ok (.ifCond .lt off, 3)) (k1 : a < 0 → Gs2 x r1 v cells slots tgt ls st) (k2 : ¬ (a < 0) → Gs2 x r2 v cells slots (pc + 3) ls st) : Gs2 x (if a < 0 then r1 else r2) v cells slots pc ls ((t, a) :: st) := by
  by_cases h9 : a < 0
  · rw [if_pos h9]
    have k := k1 h9
    clear k1 k2
    obtain ⟨⟨p, l, e, R, s, m⟩, ⟨args, below, meth, c⟩, ⟨nL', D, B, ad0, v0, rt', lw'⟩⟩ := x
    intro hr ad H locs lsA hS hE hV hl hls hst
    obtain ⟨hx, hb, hown, hR, hml, hnL, hrt, hret, hnm, hlk, het, hG⟩ := id F
    have kk := k hr ad H locs lsA hS hE hV hl hls (ok_t hst)
    have ra := okv_il h1 (ok_h hst)
    have z0 : R32 0 := R32_lit 0 (by decide)
    rw [List.map_cons, cv_il h1]
    exact lv_if_lt hx hb hd ht (fun _ => kk) (fun q => absurd ((I_lt ra z0).mpr h9) q)
  · rw [if_neg h9]
    have k := k2 h9
    clear k1 k2
    obtain ⟨⟨p, l, e, R, s, m⟩, ⟨args, below, meth, c⟩, ⟨nL', D, B, ad0, v0, rt', lw'⟩⟩ := x
    intro hr ad H locs lsA hS hE hV hl hls hst
    obtain ⟨hx, hb, hown, hR, hml, hnL, hrt, hret, hnm, hlk, het, hG⟩ := id F
    have kk := k hr ad H locs lsA hS hE hV hl hls (ok_t hst)
    have ra := okv_il h1 (ok_h hst)
    have z0 : R32 0 := R32_lit 0 (by decide)
    rw [List.map_cons, cv_il h1]
    exact lv_if_lt hx hb hd ht (fun q => absurd ((I_lt ra z0).mp q) h9) (fun _ => kk)
theorem g2_if_lt_t (F : Fx x cc own nm rm nL rt rty lw) (h1 : il t = true) {off : Int} (h9 : a < 0) (ht : (pc : Int) + off = (tgt : Int)) (hd : decode cc pc = .ok (.ifCond .lt off, 3)) (k : Gs2 x r v cells slots tgt ls st) : Gs2 x r v cells slots pc ls ((t, a) :: st) := by
  have h := g2_if_lt (r1 := r) (r2 := r) F h1 ht hd (fun _ => k) (fun q => absurd h9 q)
  rwa [if_pos h9] at h
theorem g2_if_lt_f (F : Fx x cc own nm rm nL rt rty lw) (h1 : il t = true) {off : Int} (h9 : ¬ (a < 0)) (ht : (pc : Int) + off = (tgt : Int)) (hd : decode cc pc = .ok (.ifCond .lt off, 3)) (k : Gs2 x r v cells slots (pc + 3) ls st) : Gs2 x r v cells slots pc ls ((t, a) :: st) := by
  have h := g2_if_lt (r1 := r) (r2 := r) F h1 ht hd (fun q => absurd q h9) (fun _ => k)
  rwa [if_neg h9] at h
theorem g2_icmp_lt (F : Fx x cc own nm rm nL rt rty lw) (h1 : il t1 = true) (h2 : il t2 = true) {off : Int} (ht : (pc : Int) + off = (tgt : Int)) (hd : decode cc pc = .ok (.if_icmp .lt off, 3)) (k1 : a < b → Gs2 x r1 v cells slots tgt ls st) (k2 : ¬ (a < b) → Gs2 x r2 v cells slots (pc + 3) ls st) : Gs2 x (if a < b then r1 else r2) v cells slots pc ls ((t2, b) :: (t1, a) :: st) := by
  by_cases h9 : a < b
  · rw [if_pos h9]
    have k := k1 h9
    clear k1 k2
    obtain ⟨⟨p, l, e, R, s, m⟩, ⟨args, below, meth, c⟩, ⟨nL', D, B, ad0, v0, rt', lw'⟩⟩ := x
    intro hr ad H locs lsA hS hE hV hl hls hst
    obtain ⟨hx, hb, hown, hR, hml, hnL, hrt, hret, hnm, hlk, het, hG⟩ := id F
    have kk := k hr ad H locs lsA hS hE hV hl hls (ok_t (ok_t hst))
    have ra := okv_il h1 (ok_h (ok_t hst))
    have rb := okv_il h2 (ok_h hst)
    rw [List.map_cons, List.map_cons, cv_il h1, cv_il h2]
    exact lv_icmp_lt hx hb hd ht (fun _ => kk) (fun q => absurd ((I_lt ra rb).mpr h9) q)
  · rw [if_neg h9]
    have k := k2 h9
    clear k1 k2
    obtain ⟨⟨p, l, e, R, s, m⟩, ⟨args, below, meth, c⟩, ⟨nL', D, B, ad0, v0, rt', lw'⟩⟩ := x
    intro hr ad H locs lsA hS hE hV hl hls hst
    obtain ⟨hx, hb, hown, hR, hml, hnL, hrt, hret, hnm, hlk, het, hG⟩ := id F
    have kk := k hr ad H locs lsA hS hE hV hl hls (ok_t (ok_t hst))
    have ra := okv_il h1 (ok_h (ok_t hst))
    have rb := okv_il h2 (ok_h hst)
    rw [List.map_cons, List.map_cons, cv_il h1, cv_il h2]
    exact lv_icmp_lt hx hb hd ht (fun q => absurd ((I_lt ra rb).mp q) h9) (fun _ => kk)
theorem g2_icmp_lt_t (F : Fx x cc own nm rm nL rt rty lw) (h1 : il t1 = true) (h2 : il t2 = true) {off : Int} (h9 : a < b) (ht : (pc : Int) + off = (tgt : Int)) (hd : decode cc pc = .ok (.if_icmp .lt off, 3)) (k : Gs2 x r v cells slots tgt ls st) : Gs2 x r v cells slots pc ls ((t2, b) :: (t1, a) :: st) := by
  have h := g2_icmp_lt (r1 := r) (r2 := r) F h1 h2 ht hd (fun _ => k) (fun q => absurd h9 q)
  rwa [if_pos h9] at h
theorem g2_icmp_lt_f (F : Fx x cc own nm rm nL rt rty lw) (h1 : il t1 = true) (h2 : il t2 = true) {off : Int} (h9 : ¬ (a < b)) (ht : (pc : Int) + off = (tgt : Int)) (hd : decode cc pc = .ok (.if_icmp .lt off, 3)) (k : Gs2 x r v cells slots (pc + 3) ls st) : Gs2 x r v cells slots pc ls ((t2, b) :: (t1, a) :: st) := by
  have h := g2_icmp_lt (r1 := r) (r2 := r) F h1 h2 ht hd (fun q => absurd q h9) (fun _ => k)
  rwa [if_neg h9] at h
theorem g2_if_ge (F : Fx x cc own nm rm nL rt rty lw) (h1 : il t = true) {off : Int} (ht : (pc : Int) + off = (tgt : Int)) (hd : decode cc pc = .ok (.ifCond .ge off, 3)) (k1 : 0 ≤ a → Gs2 x r1 v cells slots tgt ls st) (k2 : ¬ (0 ≤ a) → Gs2 x r2 v cells slots (pc + 3) ls st) : Gs2 x (if 0 ≤ a then r1 else r2) v cells slots pc ls ((t, a) :: st) := by
  by_cases h9 : 0 ≤ a
  · rw [if_pos h9]
    have k := k1 h9
    clear k1 k2
    obtain ⟨⟨p, l, e, R, s, m⟩, ⟨args, below, meth, c⟩, ⟨nL', D, B, ad0, v0, rt', lw'⟩⟩ := x
    intro hr ad H locs lsA hS hE hV hl hls hst
    obtain ⟨hx, hb, hown, hR, hml, hnL, hrt, hret, hnm, hlk, het, hG⟩ := id F
    have kk := k hr ad H locs lsA hS hE hV hl hls (ok_t hst)
    have ra := okv_il h1 (ok_h hst)
    have z0 : R32 0 := R32_lit 0 (by decide)
    rw [List.map_cons, cv_il h1]
    exact lv_if_ge hx hb hd ht (fun _ => kk) (fun q => absurd ((I_le z0 ra).mpr h9) q)
  · rw [if_neg h9]
    have k := k2 h9
    clear k1 k2
    obtain ⟨⟨p, l, e, R, s, m⟩, ⟨args, below, meth, c⟩, ⟨nL', D, B, ad0, v0, rt', lw'⟩⟩ := x
    intro hr ad H locs lsA hS hE hV hl hls hst
    obtain ⟨hx, hb, hown, hR, hml, hnL, hrt, hret, hnm, hlk, het, hG⟩ := id F
    have kk := k hr ad H locs lsA hS hE hV hl hls (ok_t hst)
    have ra := okv_il h1 (ok_h hst)
    have z0 : R32 0 := R32_lit 0 (by decide)
    rw [List.map_cons, cv_il h1]
    exact lv_if_ge hx hb hd ht (fun q => absurd ((I_le z0 ra).mp q) h9) (fun _ => kk)
theorem g2_if_ge_t (F : Fx x cc own nm rm nL rt rty lw) (h1 : il t = true) {off : Int} (h9 : 0 ≤ a) (ht : (pc : Int) + off = (tgt : Int)) (hd : decode cc pc = .ok (.ifCond .ge off, 3)) (k : Gs2 x r v cells slots tgt ls st) : Gs2 x r v cells slots pc ls ((t, a) :: st) := by
  have h := g2_if_ge (r1 := r) (r2 := r) F h1 ht hd (fun _ => k) (fun q => absurd h9 q)
  rwa [if_pos h9] at h
theorem g2_if_ge_f (F : Fx x cc own nm rm nL rt rty lw) (h1 : il t = true) {off : Int} (h9 : ¬ (0 ≤ a)) (ht : (pc : Int) + off = (tgt : Int)) (hd : decode cc pc = .ok (.ifCond .ge off, 3)) (k : Gs2 x r v cells slots (pc + 3) ls st) : Gs2 x r v cells slots pc ls ((t, a) :: st) := by
  have h := g2_if_ge (r1 := r) (r2 := r) F h1 ht hd (fun q => absurd q h9) (fun _ => k)
  rwa [if_neg h9] at h
theorem g2_icmp_ge (F : Fx x cc own nm rm nL rt rty lw) (h1 : il t1 = true) (h2 : il t2 = true) {off : Int} (ht : (pc : Int) + off = (tgt : Int)) (hd : decode cc pc = .ok (.if_icmp .ge off, 3)) (k1 : b ≤ a → Gs2 x r1 v cells slots tgt ls st) (k2 : ¬ (b ≤ a) → Gs2 x r2 v cells slots (pc + 3) ls st) : Gs2 x (if b ≤ a then r1 else r2) v cells slots pc ls ((t2, b) :: (t1, a) :: st) := by
  by_cases h9 : b ≤ a
  · rw [if_pos h9]
    have k := k1 h9
    clear k1 k2
    obtain ⟨⟨p, l, e, R, s, m⟩, ⟨args, below, meth, c⟩, ⟨nL', D, B, ad0, v0, rt', lw'⟩⟩ := x
    intro hr ad H locs lsA hS hE hV hl hls hst
    obtain ⟨hx, hb, hown, hR, hml, hnL, hrt, hret, hnm, hlk, het, hG⟩ := id F
    have kk := k hr ad H locs lsA hS hE hV hl hls (ok_t (ok_t hst))
    have ra := okv_il h1 (ok_h (ok_t hst))
    have rb := okv_il h2 (ok_h hst)
    rw [List.map_cons, List.map_cons, cv_il h1, cv_il h2]
    exact lv_icmp_ge hx hb hd ht (fun _ => kk) (fun q => absurd ((I_le rb ra).mpr h9) q)
  · rw [if_neg h9]
    have k := k2 h9
    clear k1 k2
    obtain ⟨⟨p, l, e, R, s, m⟩, ⟨args, below, meth, c⟩, ⟨nL', D, B, ad0, v0, rt', lw'⟩⟩ := x
    intro hr ad H locs lsA hS hE hV hl hls hst
    obtain ⟨hx, hb, hown, hR, hml, hnL, hrt, hret, hnm, hlk, het, hG⟩ := id F
    have kk := k hr ad H locs lsA hS hE hV hl hls (ok_t (ok_t hst))
    have ra := okv_il h1 (ok_h (ok_t hst))
    have rb := okv_il h2 (ok_h hst)
    rw [List.map_cons, List.map_cons, cv_il h1, cv_il h2]
    exact lv_icmp_ge hx hb hd ht (fun q => absurd ((I_le rb ra).mp q) h9) (fun _ => kk)
theorem g2_icmp_ge_t (F : Fx x cc own nm rm nL rt rty lw) (h1 : il t1 = true) (h2 : il t2 = true) {off : Int} (h9 : b ≤ a) (ht : (pc : Int) + off = (tgt : Int)) (hd : decode cc pc = .ok (.if_icmp .ge off, 3)) (k : Gs2 x r v cells slots tgt ls st) : Gs2 x r v cells slots pc ls ((t2, b) :: (t1, a) :: st) := by
  have h := g2_icmp_ge (r1 := r) (r2 := r) F h1 h2 ht hd (fun _ => k) (fun q => absurd h9 q)
  rwa [if_pos h9] at h
theorem g2_icmp_ge_f (F : Fx x cc own nm rm nL rt rty lw) (h1 : il t1 = true) (h2 : il t2 = true) {off : Int} (h9 : ¬ (b ≤ a)) (ht : (pc : Int) + off = (tgt : Int)) (hd : decode cc pc = .ok (.if_icmp .ge off, 3)) (k : Gs2 x r v cells slots (pc + 3) ls st) : Gs2 x r v cells slots pc ls ((t2, b) :: (t1, a) :: st) := by
  have h := g2_icmp_ge (r1 := r) (r2 := r) F h1 h2 ht hd (fun q => absurd q h9) (fun _ => k)
  rwa [if_neg h9] at h
theorem g2_if_gt (F : Fx x cc own nm rm nL rt rty lw) (h1 : il t = true) {off : Int} (ht : (pc : Int) + off = (tgt : Int)) (hd : decode cc pc = .ok (.ifCond .gt off, 3)) (k1 : 0 < a → Gs2 x r1 v cells slots tgt ls st) (k2 : ¬ (0 < a) → Gs2 x r2 v cells slots (pc + 3) ls st) : Gs2 x (if 0 < a then r1 else r2) v cells slots pc ls ((t, a) :: st) := by
  by_cases h9 : 0 < a
  · rw [if_pos h9]
    have k := k1 h9
    clear k1 k2
    obtain ⟨⟨p, l, e, R, s, m⟩, ⟨args, below, meth, c⟩, ⟨nL', D, B, ad0, v0, rt', lw'⟩⟩ := x
    intro hr ad H locs lsA hS hE hV hl hls hst
    obtain ⟨hx, hb, hown, hR, hml, hnL, hrt, hret, hnm, hlk, het, hG⟩ := id F
    have kk := k hr ad H locs lsA hS hE hV hl hls (ok_t hst)
    have ra := okv_il h1 (ok_h hst)
    have z0 : R32 0 := R32_lit 0 (by decide)
    rw [List.map_cons, cv_il h1]
    exact lv_if_gt hx hb hd ht (fun _ => kk) (fun q => absurd ((I_lt z0 ra).mpr h9) q)
  · rw [if_neg h9]
    have k := k2 h9
    clear k1 k2
    obtain ⟨⟨p, l, e, R, s, m⟩, ⟨args, below, meth, c⟩, ⟨nL', D, B, ad0, v0, rt', lw'⟩⟩ := x
    intro hr ad H locs lsA hS hE hV hl hls hst
    obtain ⟨hx, hb, hown, hR, hml, hnL, hrt, hret, hnm, hlk, het, hG⟩ := id F
    have kk := k hr ad H locs lsA hS hE hV hl hls (ok_t hst)
    have ra := okv_il h1 (ok_h hst)
    have z0 : R32 0 := R32_lit 0 (by decide)
    rw [List.map_cons, cv_il h1]
    exact lv_if_gt hx hb hd ht (fun q => absurd ((I_lt z0 ra).mp q) h9) (fun _ => kk)
theorem g2_if_gt_t (F : Fx x cc own nm rm nL rt rty lw) (h1 : il t = true) {off : Int} (h9 : 0 < a) (ht : (pc : Int) + off = (tgt : Int)) (hd : decode cc pc = .ok (.ifCond .gt off, 3)) (k : Gs2 x r v cells slots tgt ls st) : Gs2 x r v cells slots pc ls ((t, a) :: st) := by
  have h := g2_if_gt (r1 := r) (r2 := r) F h1 ht hd (fun _ => k) (fun q => absurd h9 q)
  rwa [if_pos h9] at h
theorem g2_if_gt_f (F : Fx x cc own nm rm nL rt rty lw) (h1 : il t = true) {off : Int} (h9 : ¬ (0 < a)) (ht : (pc : Int) + off = (tgt : Int)) (hd : decode cc pc = .ok (.ifCond .gt off, 3)) (k : Gs2 x r v cells slots (pc + 3) ls st) : Gs2 x r v cells slots pc ls ((t, a) :: st) := by
  have h := g2_if_gt (r1 := r) (r2 := r) F h1 ht hd (fun q => absurd q h9) (fun _ => k)
  rwa [if_neg h9] at h
theorem g2_icmp_gt (F : Fx x cc own nm rm nL rt rty lw) (h1 : il t1 = true) (h2 : il t2 = true) {off : Int} (ht : (pc : Int) + off = (tgt : Int)) (hd : decode cc pc = .ok (.if_icmp .gt off, 3)) (k1 : b < a → Gs2 x r1 v cells slots tgt ls st) (k2 : ¬ (b < a) → Gs2 x r2 v cells slots (pc + 3) ls st) : Gs2 x (if b < a then r1 else r2) v cells slots pc ls ((t2, b) :: (t1, a) :: st) := by
  by_cases h9 : b < a
  · rw [if_pos h9]
    have k := k1 h9
    clear k1 k2
    obtain ⟨⟨p, l, e, R, s, m⟩, ⟨args, below, meth, c⟩, ⟨nL', D, B, ad0, v0, rt', lw'⟩⟩ := x
    intro hr ad H locs lsA hS hE hV hl hls hst
    obtain ⟨hx, hb, hown, hR, hml, hnL, hrt, hret, hnm, hlk, het, hG⟩ := id F
    have kk := k hr ad H locs lsA hS hE hV hl hls (ok_t (ok_t hst))
    have ra := okv_il h1 (ok_h (ok_t hst))
    have rb := okv_il h2 (ok_h hst)
    rw [List.map_cons, List.map_cons, cv_il h1, cv_il h2]
    exact lv_icmp_gt hx hb hd ht (fun _ => kk) (fun q => absurd ((I_lt rb ra).mpr h9) q)
  · rw [if_neg h9]
    have k := k2 h9
    clear k1 k2
    obtain ⟨⟨p, l, e, R, s, m⟩, ⟨args, below, meth, c⟩, ⟨nL', D, B, ad0, v0, rt', lw'⟩⟩ := x
    intro hr ad H locs lsA hS hE hV hl hls hst
    obtain ⟨hx, hb, hown, hR, hml, hnL, hrt, hret, hnm, hlk, het, hG⟩ := id F
    have kk := k hr ad H locs lsA hS hE hV hl hls (ok_t (ok_t hst))
    have ra := okv_il h1 (ok_h (ok_t hst))
    have rb := okv_il h2 (ok_h hst)
    rw [List.map_cons, List.map_cons, cv_il h1, cv_il h2]
    exact lv_icmp_gt hx hb hd ht (fun q => absurd ((I_lt rb ra).mp q) h9) (fun _ => kk)
theorem g2_icmp_gt_t (F : Fx x cc own nm rm nL rt rty lw) (h1 : il t1 = true) (h2 : il t2 = true) {off : Int} (h9 : b < a) (ht : (pc : Int) + off = (tgt : Int)) (hd : decode cc pc = .ok (.if_icmp .gt off, 3)) (k : Gs2 x r v cells slots tgt ls st) : Gs2 x r v cells slots pc ls ((t2, b) :: (t1, a) :: st) := by
  have h := g2_icmp_gt (r1 := r) (r2 := r) F h1 h2 ht hd (fun _ => k) (fun q => absurd h9 q)
  rwa [if_pos h9] at h
theorem g2_icmp_gt_f (F : Fx x cc own nm rm nL rt rty lw) (h1 : il t1 = true) (h2 : il t2 = true) {off : Int} (h9 : ¬ (b < a)) (ht : (pc : Int) + off = (tgt : Int)) (hd : decode cc pc = .ok (.if_icmp .gt off, 3)) (k : Gs2 x r v cells slots (pc + 3) ls st) : Gs2 x r v cells slots pc ls ((t2, b) :: (t1, a) :: st) := by
  have h := g2_icmp_gt (r1 := r) (r2 := r) F h1 h2 ht hd (fun q => absurd q h9) (fun _ => k)
  rwa [if_neg h9] at h
theorem g2_if_le (F : Fx x cc own nm rm nL rt rty lw) (h1 : il t = true) {off : Int} (ht : (pc : Int) + off = (tgt : Int)) (hd : decode cc pc = .ok (.ifCond .le off, 3)) (k1 : a ≤ 0 → Gs2 x r1 v cells slots tgt ls st) (k2 : ¬ (a ≤ 0) → Gs2 x r2 v cells slots (pc + 3) ls st) : Gs2 x (if a ≤ 0 then r1 else r2) v cells slots pc ls ((t, a) :: st) := by
  by_cases h9 : a ≤ 0
  · rw [if_pos h9]
    have k := k1 h9
    clear k1 k2
    obtain ⟨⟨p, l, e, R, s, m⟩, ⟨args, below, meth, c⟩, ⟨nL', D, B, ad0, v0, rt', lw'⟩⟩ := x
    intro hr ad H locs lsA hS hE hV hl hls hst
    obtain ⟨hx, hb, hown, hR, hml, hnL, hrt, hret, hnm, hlk, het, hG⟩ := id F
    have kk := k hr ad H locs lsA hS hE hV hl hls (ok_t hst)
    have ra := okv_il h1 (ok_h hst)
    have z0 : R32 0 := R32_lit 0 (by decide)
    rw [List.map_cons, cv_il h1]
    exact lv_if_le hx hb hd ht (fun _ => kk) (fun q => absurd ((I_le ra z0).mpr h9) q)
  · rw [if_neg h9]
    have k := k2 h9
    clear k1 k2
    obtain ⟨⟨p, l, e, R, s, m⟩, ⟨args, below, meth, c⟩, ⟨nL', D, B, ad0, v0, rt', lw'⟩⟩ := x
    intro hr ad H locs lsA hS hE hV hl hls hst
    obtain ⟨hx, hb, hown, hR, hml, hnL, hrt, hret, hnm, hlk, het, hG⟩ := id F
    have kk := k hr ad H locs lsA hS hE hV hl hls (ok_t hst)
    have ra := okv_il h1 (ok_h hst)
    have z0 : R32 0 := R32_lit 0 (by decide)
    rw [List.map_cons, cv_il h1]
    exact lv_if_le hx hb hd ht (fun q => absurd ((I_le ra z0).mp q) h9) (fun _ => kk)
theorem g2_if_le_t (F : Fx x cc own nm rm nL rt rty lw) (h1 : il t = true) {off : Int} (h9 : a ≤ 0) (ht : (pc : Int) + off = (tgt : Int)) (hd : decode cc pc = .ok (.ifCond .le off, 3)) (k : Gs2 x r v cells slots tgt ls st) : Gs2 x r v cells slots pc ls ((t, a) :: st) := by
  have h := g2_if_le (r1 := r) (r2 := r) F h1 ht hd (fun _ => k) (fun q => absurd h9 q)
  rwa [if_pos h9] at h
theorem g2_if_le_f (F : Fx x cc own nm rm nL rt rty lw) (h1 : il t = true) {off : Int} (h9 : ¬ (a ≤ 0)) (ht : (pc : Int) + off = (tgt : Int)) (hd : decode cc pc = .ok (.ifCond .le off, 3)) (k : Gs2 x r v cells slots (pc + 3) ls st) : Gs2 x r v cells slots pc ls ((t, a) :: st) := by
  have h := g2_if_le (r1 := r) (r2 := r) F h1 ht hd (fun q => absurd q h9) (fun _ => k)
  rwa [if_neg h9] at h
theorem g2_icmp_le (F : Fx x cc own nm rm nL rt rty lw) (h1 : il t1 = true) (h2 : il t2 = true) {off : Int} (ht : (pc : Int) + off = (tgt : Int)) (hd : decode cc pc = .ok (.if_icmp .le off, 3)) (k1 : a ≤ b → Gs2 x r1 v cells slots tgt ls st) (k2 : ¬ (a ≤ b) → Gs2 x r2 v cells slots (pc + 3) ls st) : Gs2 x (if a ≤ b then r1 else r2) v cells slots pc ls ((t2, b) :: (t1, a) :: st) := by
  by_cases h9 : a ≤ b
  · rw [if_pos h9]
    have k := k1 h9
    clear k1 k2
    obtain ⟨⟨p, l, e, R, s, m⟩, ⟨args, below, meth, c⟩, ⟨nL', D, B, ad0, v0, rt', lw'⟩⟩ := x
    intro hr ad H locs lsA hS hE hV hl hls hst
    obtain ⟨hx, hb, hown, hR, hml, hnL, hrt, hret, hnm, hlk, het, hG⟩ := id F
    have kk := k hr ad H locs lsA hS hE hV hl hls (ok_t (ok_t hst))
    have ra := okv_il h1 (ok_h (ok_t hst))
    have rb := okv_il h2 (ok_h hst)
    rw [List.map_cons, List.map_cons, cv_il h1, cv_il h2]
    exact lv_icmp_le hx hb hd ht (fun _ => kk) (fun q => absurd ((I_le ra rb).mpr h9) q)
  · rw [if_neg h9]
    have k := k2 h9
    clear k1 k2
    obtain ⟨⟨p, l, e, R, s, m⟩, ⟨args, below, meth, c⟩, ⟨nL', D, B, ad0, v0, rt', lw'⟩⟩ := x
    intro hr ad H locs lsA hS hE hV hl hls hst
    obtain ⟨hx, hb, hown, hR, hml, hnL, hrt, hret, hnm, hlk, het, hG⟩ := id F
    have kk := k hr ad H locs lsA hS hE hV hl hls (ok_t (ok_t hst))
    have ra := okv_il h1 (ok_h (ok_t hst))
    have rb := okv_il h2 (ok_h hst)
    rw [List.map_cons, List.map_cons, cv_il h1, cv_il h2]
    exact lv_icmp_le hx hb hd ht (fun q => absurd ((I_le ra rb).mp q) h9) (fun _ => kk)
theorem g2_icmp_le_t (F : Fx x cc own nm rm nL rt rty lw) (h1 : il t1 = true) (h2 : il t2 = true) {off : Int} (h9 : a ≤ b) (ht : (pc : Int) + off = (tgt : Int)) (hd : decode cc pc = .ok (.if_icmp .le off, 3)) (k : Gs2 x r v cells slots tgt ls st) : Gs2 x r v cells slots pc ls ((t2, b) :: (t1, a) :: st) := by
  have h := g2_icmp_le (r1 := r) (r2 := r) F h1 h2 ht hd (fun _ => k) (fun q => absurd h9 q)
  rwa [if_pos h9] at h
theorem g2_icmp_le_f (F : Fx x cc own nm rm nL rt rty lw) (h1 : il t1 = true) (h2 : il t2 = true) {off : Int} (h9 : ¬ (a ≤ b)) (ht : (pc : Int) + off = (tgt : Int)) (hd : decode cc pc = .ok (.if_icmp .le off, 3)) (k : Gs2 x r v cells slots (pc + 3) ls st) : Gs2 x r v cells slots pc ls ((t2, b) :: (t1, a) :: st) := by
  have h := g2_icmp_le (r1 := r) (r2 := r) F h1 h2 ht hd (fun q => absurd q h9) (fun _ => k)
  rwa [if_neg h9] at h
theorem g2_goto (F : Fx x cc own nm rm nL rt rty lw) {off : Int} (ht : (pc : Int) + off = (tgt : Int)) (hd : decode cc pc = .ok (.goto off, 3)) (k : Gs2 x r v cells slots tgt ls st) : Gs2 x r v cells slots pc ls st := by
  obtain ⟨⟨p, l, e, R, s, m⟩, ⟨args, below, meth, c⟩, ⟨nL', D, B, ad0, v0, rt', lw'⟩⟩ := x
  intro hr ad H locs lsA hS hE hV hl hls hst
  obtain ⟨hx, hb, hown, hR, hml, hnL, hrt, hret, hnm, hlk, het, hG⟩ := id F
  exact lv_goto hx hb hd ht (k hr ad H locs lsA hS hE hV hl hls hst)
theorem g2_dup (F : Fx x cc own nm rm nL rt rty lw) {q : AV} (hq : (q.1 == 1) = false) (hd : decode cc pc = .ok (.dup, 1)) (k : Gs2 x r v cells slots (pc + 1) ls (q :: q :: st)) : Gs2 x r v cells slots pc ls (q :: st) := by
  obtain ⟨⟨p, l, e, R, s, m⟩, ⟨args, below, meth, c⟩, ⟨nL', D, B, ad0, v0, rt', lw'⟩⟩ := x
  intro hr ad H locs lsA hS hE hV hl hls hst
  obtain ⟨hx, hb, hown, hR, hml, hnL, hrt, hret, hnm, hlk, het, hG⟩ := id F
  have kk := k hr ad H locs lsA hS hE hV hl hls (ok_c (ok_h hst) hst)
  have h2 : (cv ad q).category = 1 := by
    rw [cat_cv, if_neg]
    intro h
    rw [h] at hq
    cases hq
  exact lv_dup hx hb hd h2 kk
theorem g2_pop (F : Fx x cc own nm rm nL rt rty lw) {q : AV} (hq : (q.1 == 1) = false) (hd : decode cc pc = .ok (.pop, 1)) (k : Gs2 x r v cells slots (pc + 1) ls st) : Gs2 x r v cells slots pc ls (q :: st) := by
  obtain ⟨⟨p, l, e, R, s, m⟩, ⟨args, below, meth, c⟩, ⟨nL', D, B, ad0, v0, rt', lw'⟩⟩ := x
  intro hr ad H locs lsA hS hE hV hl hls hst
  obtain ⟨hx, hb, hown, hR, hml, hnL, hrt, hret, hnm, hlk, het, hG⟩ := id F
  have kk := k hr ad H locs lsA hS hE hV hl hls (ok_t hst)
  have h2 : (cv ad q).category = 1 := by
    rw [cat_cv, if_neg]
    intro h
    rw [h] at hq
    cases hq
  exact lv_pop hx hb hd h2 kk
theorem g2_loc (ks : List (Nat × Nat)) (he : lpk ls ks = ls') (k : Gs2 x r v cells slots pc ls' st) : Gs2 x r v cells slots pc ls st := by
  obtain ⟨⟨p, l, e, R, s, m⟩, ⟨args, below, meth, c⟩, ⟨nL', D, B, ad0, v0, rt', lw'⟩⟩ := x
  intro hr ad H locs lsA hS hE hV hl hls hst
  subst he
  refine k hr ad H locs lsA hS hE hV ⟨hl.1, hl.2.1, fun q hq => ?_⟩ (fun q hq => ?_) hst
  · obtain ⟨q0, h0, rfl⟩ := List.mem_map.mp hq
    obtain ⟨⟨z1, z2, z3⟩, hz, h1, h2, h3⟩ := lpk_mem h0
    obtain ⟨y1, y2, y3⟩ := q0
    dsimp only at h1 h2 h3
    subst h1
    subst h2
    have h4 := hl.2.2 (z1, cv ad (z2, z3)) (List.mem_map.mpr ⟨_, hz, rfl⟩)
    rw [cv_le h3] at h4
    exact h4
  · obtain ⟨⟨z1, z2, z3⟩, hz, h1, h2, h3⟩ := lpk_mem hq
    obtain ⟨y1, y2, y3⟩ := q
    dsimp only at h1 h2 h3
    subst h2
    exact okv_le h3 (hls _ hz)
theorem g2_irem (F : Fx x cc own nm rm nL rt rty lw) (hne : ¬ b = 0) (h1 : il t1 = true) (h2 : il t2 = true) (hd : decode cc pc = .ok (.irem, 1)) (k : Gs2 x r v cells slots (pc + 1) ls ((0, rem32 a b) :: st)) : Gs2 x r v cells slots pc ls ((t2, b) :: (t1, a) :: st) := by
  obtain ⟨⟨p, l, e, R, s, m⟩, ⟨args, below, meth, c⟩, ⟨nL', D, B, ad0, v0, rt', lw'⟩⟩ := x
  intro hr ad H locs lsA hS hE hV hl hls hst
  obtain ⟨hx, hb, hown, hR, hml, hnL, hrt, hret, hnm, hlk, het, hG⟩ := id F
  have kk := k hr ad H locs lsA hS hE hV hl hls (ok_c (okv_0.mpr (w32_r _)) (ok_t (ok_t hst)))
  have ra := okv_il h1 (ok_h (ok_t hst))
  have rb := okv_il h2 (ok_h hst)
  rw [List.map_cons, List.map_cons, cv_il h1, cv_il h2]
  refine lv_irem hx hb hd (fun q => hne ((I_eq rb (R32_lit 0 (by decide))).mp q)) ?_
  rw [I_div ra rb, I_mul, I_sub]
  exact kk
theorem g2_wide {c2 s2 : Nat} (h1 : cells ≤ c2) (h2 : slots ≤ s2) (k : Gs2 x r v c2 s2 pc ls st) : Gs2 x r v cells slots pc ls st := by
  obtain ⟨⟨p, l, e, R, s, m⟩, ⟨args, below, meth, c⟩, ⟨nL', D, B, ad0, v0, rt', lw'⟩⟩ := x
  intro hr ad H locs lsA hS hE hV hl hls hst
  exact W.widen h1 h2 (k hr ad H locs lsA hS hE hV hl hls hst)
theorem pc_blind2 {l : Launch} {D : va_G} {B : Nat → Prop} {ad : Ad} {as : List AV} : FrameBlind (va_Pc (as.map (cv ad)) (fun U => Gd l D B U ∧ Sto2 D B ad v U.heap)) := fun _ _ _ _ h => ⟨h.1, h.2.1.calling, h.2.2⟩
theorem g2_ireturn (F : Fx x cc own nm rm nL (some t2) (some ty) lw) (hlw : (lw == 1) = false) (hty : tyOK t2 ty = true) (hi : il t2 = true) (ht : tle t t2 = true) (hc : cells ≤ rm.cells) (hs : slots ≤ rm.slots) (hd : decode cc pc = .ok (.ireturn, 1)) : Gs2 x (rOk a v) v cells slots pc ls [(t, a)] := by
  obtain ⟨⟨p, l, e, R, s, m⟩, ⟨args, below, meth, c⟩, ⟨nL', D, B, ad0, v0, rt', lw'⟩⟩ := x
  intro hr ad H locs lsA hS hE hV hl hls hst
  obtain ⟨hx, hb, hown, hR, hml, hnL, hrt, hret, hnm, hlk, het, hG⟩ := id F
  subst hR
  subst hrt
  have oa := okv_le ht (ok_h hst)
  have hn := ty_narrow (ad := ad) hty oa
  rw [List.map_cons, List.map_nil, cv_le ht, cv_il hi]
  rw [cv_il hi] at hn
  obtain ⟨rfl, -, -⟩ := het
  have hlw : ¬ lw' = 1 := by simpa using hlw
  unfold Qx2
  rw [if_neg hlw]
  show W p l e R s m args below meth c H locs cells slots (vx_MQ below _ _ args s R.cells R.slots _) _
  refine vx_ret (W.widen (k := R.cells) (n := R.slots) hc hs ?_)
  exact W.zret hx hb hret hn (fun t ht _ => ⟨a, v, ad, rfl, by simp [cv_il hi], fun q hq => by cases hq; exact oa, hE, by rw [ht]; exact hS, hV.F ht⟩) hV.2.2 hd hlk
theorem g2_back {p : Program} {l : Launch} {e : Env} {R : Room} {s : State} {m : MethodId} {args : Array Value} {below : List Frame} {meth : Method} {c : Code} {nL' : Nat} {D : va_G} {B : Nat → Prop} {ad0 ad : Ad} {v0 : V} {rt' rt2 : Option Nat} {lw lw' : Nat} {f : V → Res} {k9 : Int → V → Res} {H : Heap} {locs : List Loc} {lsA : Array Slot} {stk' : List Value} {mc ms : Nat} {Aa : Array Value}
    (hr : rB (f v) k9 ≠ none) (hS : Sto2 D B ad v H) (hE : Ext v0 ad0 v ad) (hV : va_S (fun q => B q) s.heap H locs) (hl : lv_has lsA nL' (ls.map (clv ad))) (hls : ∀ q ∈ ls, okv v q.2) (hst : ∀ a ∈ st, okv v a)
    (het : lw' = lw ∧ (lw = 0 → ∀ z ∈ c.exceptionTable.toList, False) ∧ (lw = 1 → (∀ q, B q → s.heap.size ≤ q))) (hm9 : lw < 2) (hlk : meth.locks = false) (hc : cells + mc ≤ R.cells) (hs : slots + ms ≤ R.slots)
    (hrun : vx_Run p l e R s m args below meth c H locs cells slots mc ms (F0 m pc lsA stk') (st.map (cv ad)) (PostC2 D B ad v rt2 (f v) Aa) (PostX2 D B ad v (f v)) (fun q => B q))
    (k : ∀ z v1, f v = some (0, z, v1) → Gs2 ((p, l, e, R, s, m), (args, below, meth, c), (nL', D, B, ad0, v0, rt', lw')) (k9 z v1) v1 (cells + mc) (slots + ms) (pc + 3) ls (pushR rt2 z st)) :
    W p l e R s m args below meth c H locs cells slots (Qx2 below D B ad0 v0 rt' lw' (rB (f v) k9) args s R) (F0 m pc lsA stk') := by
  intro T hT X
  rcases hrun T hT X with ⟨vv, st₀, t, T', L, h0, X', hL, e1, e2, ⟨z, v1, ad1, c1, c2, c3, c4, c5, c6⟩, hgo⟩ | ⟨q, st₀, t, T', L, E, ce, h0, X', hL, e1, e2, ⟨ee, v1, ad1, c1, c2, c4, c5, c6⟩, hce, hcv, hcl, hgo⟩
  · have e9 : rB (f v) k9 = k9 z v1 := by rw [c1]; rfl
    rw [e9] at hr ⊢
    obtain ⟨-, -, y3⟩ := vx_keep h0 e1 hV (A1 := fun q => B q) (fun q _ h => h) (fun q h => h) hL c6
    have hvv : vv = rt2.map fun q => cv ad1 (q, z) := by injection c2
    subst hvv
    have k2 := k z v1 c1 hr ad1 T'.heap (locs ++ L) lsA (by rw [e1]; exact c5) (hE.tr c4) y3 (by rw [ls_ext c4 hls]; exact hl) (fun q hq => ext_okv c4 (hls q hq)) (by
      cases rt2 with
      | none => exact fun a ha => ext_okv c4 (hst a ha)
      | some q => exact ok_c (c3 q rfl) (fun a ha => ext_okv c4 (hst a ha)))
    obtain ⟨t2, a1, b1⟩ := k2 T' rfl X'
    refine ⟨t2, hgo t2 ?_, b1⟩
    have e8 : (pushR rt2 z st).map (cv ad1) = (rt2.map fun q => cv ad1 (q, z)).toList ++ st.map (cv ad) := by
      cases rt2 with
      | none => exact st_ext c4 hst
      | some q =>
        show cv ad1 (q, z) :: st.map (cv ad1) = cv ad1 (q, z) :: st.map (cv ad)
        rw [st_ext c4 hst]
    rw [e8] at a1
    exact a1
  · have e9 : rB (f v) k9 = some (ee + 1, 0, v1) := by rw [c1]; rfl
    rw [e9]
    obtain ⟨-, -, y3⟩ := vx_keep h0 e1 hV (A1 := fun q => B q) (fun q _ h => h) (fun q h => h) hL c6
    obtain ⟨hlw, het, -⟩ := het
    rcases (show lw = 0 ∨ lw = 1 by omega) with h1 | h1
    · subst h1
      subst hlw
      have k2 : vx_W p l e R s m args below meth c T'.heap (locs ++ L) (cells + mc) (slots + ms) (vx_MQ below (PostC2 D B ad0 v0 rt' (some (ee + 1, 0, v1))) (PostX2 D B ad0 v0 (some (ee + 1, 0, v1))) args s R.cells R.slots (fun q => B q)) (F0 m pc lsA (st.map (cv ad))) q :=
        vx_out (fun x hx => (het rfl x hx).elim) hlk (by rw [e1]; exact hce) hcv hcl (fun t' ht _ => ⟨ee, v1, ad1, rfl, c2, hE.tr c4, by rw [ht, e1]; exact c5, y3.F ht⟩) y3.2.2 hc hs
      obtain ⟨t2, a1, b1⟩ := k2 T' rfl X'
      exact ⟨t2, hgo.trans a1, b1⟩
    · subst h1
      subst hlw
      refine ⟨_, hgo, ?_⟩
      intro hex
      obtain ⟨v9, h9⟩ := hex
      cases h9
theorem g2_callS (F : Fx x cc own nm rm nL rt rty lw) (hm9 : lw < 2) {y : MethodName} {cc2 : ByteArray} {maxL2 n idx : Nat} {rty2 : Option FieldType} {R2 : Room} {rt2 : Option Nat} {f : V → Res} {k9 : Int → V → Res} {stk as : List AV} (acts : List AV) (ts : List Nat) (wl : Cond.methodLink own idx y ∈ gtbl) (wi : Cond.static y ∈ gtbl) (hC : ∀ l, Ct2 l y cc2 maxL2 rty2 R2 rt2 as f) (hmi : MI y cc2 maxL2 rty2 n) (hle : leA acts ts = some as) (hlen : acts.length = n) (hstk : acts.reverse ++ st = stk) (hfr : R2.frames + 1 ≤ rm.frames) (hlo : 8 + (maxL2 + 11) + R2.locals ≤ rm.locals) (hc : cells + R2.cells ≤ rm.cells) (hs : slots + R2.slots ≤ rm.slots) (hW : catL st ≤ 8) (hd : decode cc pc = .ok (.invokestatic idx, 3)) (k : ∀ z v1, f v = some (0, z, v1) → Gs2 x (k9 z v1) v1 (cells + R2.cells) (slots + R2.slots) (pc + 3) ls (pushR rt2 z st)) : Gs2 x (rB (f v) k9) v cells slots pc ls stk := by
  obtain ⟨⟨p, l, e, R, s, m⟩, ⟨args, below, meth, c⟩, ⟨nL', D, B, ad0, v0, rt', lw'⟩⟩ := x
  intro hr ad H locs lsA hS hE hV hl hls hst
  obtain ⟨hx, hb, hown, hR, hml, hnL, hrt, hret, hnm, hlk, het, hG⟩ := id F
  subst hR
  subst hnL
  subst hstk
  have hts : ∀ w ∈ gtbl, w.before args s = true := fun w hw => hG.2.2.1 w hw args
  obtain ⟨m1, m2, m3, m4⟩ := hmi
  obtain ⟨l1, l2⟩ := leA_spec (v := v) (ad := ad) hle
  have hf9 : f v ≠ none := fun q => hr (by rw [q]; rfl)
  have hst2 : ∀ a ∈ st, okv v a := fun a ha => hst a (by simp [ha])
  have hac : ∀ a ∈ acts, okv v a := fun a ha => hst a (by simp [ha])
  have hM := hC l D B ad v (l2 hac) hf9
  rw [l1] at hM
  rw [List.map_append, List.map_reverse]
  refine g2_back hr hS hE hV hl hls hst2 het hm9 hlk hc hs (vx_runS (As := acts.map (cv ad)) ⟨hx, hb, hml, hown, hts⟩ hM ⟨⟨rfl, rfl, hfr, hlo, mi_ws m1 hG.2.2.1, List.mem_singleton.mpr rfl, hts _ m1, hts _ m4, m2, mi_len m3, hts _ wl⟩, hts _ wi⟩ ⟨?_, fun U hU hW9 => ⟨rfl, hG.moved hV hU hW9, by rw [hU]; exact hS⟩⟩ rfl (by rw [List.length_map]; exact hlen) hl.1 rfl (lv_room (by rw [catL_map]; exact hW)) hd ⟨hc, hs⟩) k
  exact fun _ _ _ _ h => ⟨h.1, h.2.1.calling, h.2.2⟩
theorem g2_method {y : MethodName} {maxL : Nat} {as : List AV} {f : V → Res} (hcls : plainFor y = true) (hlen : catL as ≤ maxL) (hk : ∀ (x : Cx) (v : V), Fx x cc y.cls y.name rm maxL rt rty 0 → (∀ a ∈ as, okv v a) → Gs2 x (f v) v 0 0 0 (avArgs 0 as) []) : ∀ l, Ct2 l y cc maxL rty rm rt as f := by
  intro l D B ad v hok hf
  refine vx_ofWF (cc := cc) (maxL := maxL) (ret := rty) hcls rfl ?_
  intro p e s m args below meth c s₁ B0 hml het hv
  obtain ⟨rfl, hG, hS⟩ := hv
  have hown : s.vm.findClass y.cls = some m.cls := findClass_of_methodNamed B0.named
  have hnm : meth.name = y.name := (name_of_methodNamed B0.named B0.method).1
  have k9 := hk ((p, l, e, rm, s, m), ((as.map (cv ad)).toArray, below, meth, c), (maxL, D, B, ad, v, rt, 0)) v ⟨B0.exec, B0.bytes, hown, rfl, hml, rfl, rfl, B0.returns, hnm, B0.notSynchronized, ⟨rfl, fun _ => het, fun h => by cases h⟩, hG⟩ hok
  rw [lg_entry_eq]
  have hent := lv_entry (as.map (cv ad)) (n := maxL) (by rw [sl_len]; exact hlen)
  exact k9 hf ad s.heap [] _ hS Ext.rf va_S.rf (by rw [avArgs_map]; exact hent) (avArgs_ok 0 as hok) (fun a ha => by cases ha)
theorem g2_lawret (F : Fx x cc own nm rm nL rt rty 1) (hr9 : rty = some .boolean) (hc : cells ≤ rm.cells) (hs : slots ≤ rm.slots) (hi : il t = true) (hd : decode cc pc = .ok (.ireturn, 1)) : Gs2 x (rOk a v) v cells slots pc ls [(t, a)] := by
  obtain ⟨⟨p, l, e, R, s, m⟩, ⟨args, below, meth, c⟩, ⟨nL', D, B, ad0, v0, rt', lw'⟩⟩ := x
  intro hr ad H locs lsA hS hE hV hl hls hst
  obtain ⟨hx, hb, hown, hR, hml, hnL, hrt, hret, hnm, hlk, het, hG⟩ := id F
  subst hR
  obtain ⟨rfl, -, hB⟩ := het
  have hB := hB rfl
  show W p l e R s m args below meth c H locs cells slots (fun t => (∃ v', rOk a v = some (0, 1, v')) → ∃ o, t.status = .running ∧ Ended t below o ∧ o = .returned (some (.int 1)) ∧ Framed s o t [] R.cells R.slots) _
  by_cases h9 : a = 1
  · subst h9
    rw [List.map_cons, List.map_nil, cv_il hi]
    refine va_forget (fun q hq => hB _ (hV.2.2 q hq)) (W.widen (k := R.cells) (n := R.slots) hc hs ?_)
    intro T hT X
    obtain ⟨fs, hret2, hrun, hended, hW, hframe⟩ := X.leave (v := some (.int 1)) (hlocks := hlk) (fun h => by rw [hret, hr9] at h; cases h)
    have hmeth' : T.vm.method? m = some meth := X.method'
    refine ⟨T.setFrames fs, ?_, fun _ => ⟨.returned (some (.int 1)), hrun, hended, rfl, ⟨_, rfl⟩, hW, hframe⟩⟩
    have e1 : Int32.ofInt 1 = 1 := rfl
    jvm_step X.here [X.here.top, hx, hb, hd, hmeth', hret, hr9, e1, narrow_b1]
    (try refine ⟨rfl, ?_⟩); (try refine ⟨rfl, ?_⟩)
    first | (intro acts; rw [hret2 _ acts rfl rfl rfl]) | rw [hret2 _ _ rfl rfl rfl]
    exact Steps.refl _
  · intro T hT X
    exact ⟨_, Steps.refl _, fun h => by
      obtain ⟨v', h⟩ := h
      cases h
      exact absurd rfl h9⟩
theorem g2_callSX (F : Fx x cc own nm rm nL rt rty lw) (hm9 : lw < 2) {y : MethodName} {cc2 : ByteArray} {maxL2 n idx : Nat} {rty2 : Option FieldType} {R2 : Room} {rt2 : Option Nat} {f : V → Res} {k9 : Int → V → Res} {stk as : List AV} (acts : List AV) (ts : List Nat) (wl : Cond.methodLink own idx y ∈ gtbl) (wi : Cond.static y ∈ gtbl) (hC : ∀ l, CtW2 l y cc2 maxL2 rty2 hh R2 rt2 as f) (hmi : MW y cc2 maxL2 rty2 hh n) (hle : leA acts ts = some as) (hlen : acts.length = n) (hstk : acts.reverse ++ st = stk) (hfr : R2.frames + 1 ≤ rm.frames) (hlo : 8 + (maxL2 + 11) + R2.locals ≤ rm.locals) (hc : cells + R2.cells ≤ rm.cells) (hs : slots + R2.slots ≤ rm.slots) (hW : catL st ≤ 8) (hd : decode cc pc = .ok (.invokestatic idx, 3)) (k : ∀ z v1, f v = some (0, z, v1) → Gs2 x (k9 z v1) v1 (cells + R2.cells) (slots + R2.slots) (pc + 3) ls (pushR rt2 z st)) : Gs2 x (rB (f v) k9) v cells slots pc ls stk := by
  obtain ⟨⟨p, l, e, R, s, m⟩, ⟨args, below, meth, c⟩, ⟨nL', D, B, ad0, v0, rt', lw'⟩⟩ := x
  intro hr ad H locs lsA hS hE hV hl hls hst
  obtain ⟨hx, hb, hown, hR, hml, hnL, hrt, hret, hnm, hlk, het, hG⟩ := id F
  subst hR
  subst hnL
  subst hstk
  have hts : ∀ w ∈ gtbl, w.before args s = true := fun w hw => hG.2.2.1 w hw args
  obtain ⟨m1, m2, m3, m4⟩ := hmi
  obtain ⟨l1, l2⟩ := leA_spec (v := v) (ad := ad) hle
  have hf9 : f v ≠ none := fun q => hr (by rw [q]; rfl)
  have hst2 : ∀ a ∈ st, okv v a := fun a ha => hst a (by simp [ha])
  have hac : ∀ a ∈ acts, okv v a := fun a ha => hst a (by simp [ha])
  have hM := hC l D B ad v (l2 hac) hf9
  rw [l1] at hM
  rw [List.map_append, List.map_reverse]
  have hws : ∀ w ∈ [Cond.codeWith y cc2 maxL2 rty2 hh], ∀ (a' : Array Value) (U : State), s.WarmedH U.vm → w.before a' U = true := fun w hw a' U hW => by
    rw [List.mem_singleton.mp hw]
    exact kw_move (List.mem_filter.mp m1).2 hW (hG.2.2.1 _ m1 #[])
  refine g2_back hr hS hE hV hl hls hst2 het hm9 hlk hc hs (vx_runSX (hh := hh) (As := acts.map (cv ad)) ⟨hx, hb, hml, hown, hts⟩ hM ⟨⟨rfl, rfl, hfr, hlo, hws, List.mem_singleton.mpr rfl⟩, hts _ m1, hts _ m4, m2, mi_len m3, hts _ wl, hts _ wi⟩ ⟨?_, fun U hU hW9 => ⟨rfl, hG.moved hV hU hW9, by rw [hU]; exact hS⟩⟩ rfl (by rw [List.length_map]; exact hlen) hl.1 rfl (lv_room (by rw [catL_map]; exact hW)) hd ⟨hc, hs⟩) k
  exact fun _ _ _ _ h => ⟨h.1, h.2.1.calling, h.2.2⟩
/-- new FreePort: o -/
theorem g2_newO (F : Fx x cc own nm rm nL rt rty lw) {k9 : V → Res} {idx n : Nat} (hf : FN own idx 7) (hn : ln 7 = n) (h : ¬ v 99 7 0 = 1 ∧ ¬ vO v 99 7 0 = 1) (hc : cells + 1 ≤ rm.cells) (hs : slots + n ≤ rm.slots) (hd : decode cc pc = .ok (.new idx, 3)) (kk : ∀ v1, Gs2 x (k9 v1) v1 (cells + 1) (slots + n) (pc + 3) ls ((17, 0) :: st)) : Gs2 x (rLet (up (sO v (nw (vO v) 7 0)) 99 7 0 1) k9) v cells slots pc ls st := by
  obtain ⟨⟨p, l, e, R, s, m⟩, ⟨args, below, meth, c⟩, ⟨nL', D, B, ad0, v0, rt', lw'⟩⟩ := x
  intro hr ad H locs lsA hS2 hE hV hl hls hst
  obtain ⟨ao, ap, b1, b2, b3, b4⟩ := hS2
  obtain ⟨hx, hb, hown, hR, hml, hnL, hrt, hret, hnm, hlk, het, hG⟩ := id F
  obtain ⟨hK, q, hq, w1, w2, w3⟩ := hf
  obtain ⟨e1, e2, e3, e4⟩ := cl_spec hK hq
  obtain ⟨hSl, hfc, kC, hkC, hkind⟩ := hG.2.2.2.1.1 7 q hq
  have hts : ∀ w ∈ gtbl, w.before args s = true := fun w hw => hG.2.2.1 w hw args
  subst hR
  have hn2 : n = q.2.2 := by omega
  subst hn2
  refine W.newcK hx hb hown (hts _ w1) (hts _ w2) (hts _ w3) rfl hd hc hs hfc rfl fun H1 kC2 hkC2 d1 d2 d3 => ?_
  obtain ⟨tyf, htyf⟩ : ∃ tyf : Nat → FieldType, ∀ k, k < q.2.2 → parseFieldDescriptor (q.2.1 k).2.2.1 = some (tyf k) ∧ tyOK (tg 7 (k : Int)) (tyf k) = true := by
    refine ⟨fun k => (parseFieldDescriptor (q.2.1 k).2.2.1).getD .int, fun k hk => ?_⟩
    obtain ⟨ty, p1, p2⟩ := e2 k hk
    dsimp only
    rw [p1]
    exact ⟨rfl, p2⟩
  have hob := u_born tyf hts e4 (hG.2.2.2.1.1 7 q hq) hkC2 d1 (fun k hk => (htyf k hk).1)
  have hSt : Sto D (fun q => B q ∧ ¬ Lv ap (vP v) q) (adN ao 7 0 H.size) (nw (vO v) 7 0) H1 := b3.new (by omega) h.2 ⟨hG.2.1 _ hV.1, fun q2 => by have := Lv_lt b4 q2; omega⟩ (by
    unfold ClAt
    rw [if_pos hK, ← e1]
    exact hob.to (fun k hk => (ty_def (htyf k hk).2).symm)) d3
  have hEx : Ext v ad (up (sO v (nw (vO v) 7 0)) 99 7 0 1) (adN ad 7 0 H.size) := fun K i h9 => by
    refine ⟨?_, ?_⟩
    · unfold up
      split
      · rfl
      · rw [sO_lt _ _ (by decide)]
        exact h9
    · unfold adN
      split
      · rename_i hh9
        obtain ⟨rfl, rfl⟩ := hh9
        exact absurd h9 h.1
      · rfl
  have hSt2 : Sto2 D B (adN ad 7 0 H.size) (up (sO v (nw (vO v) 7 0)) 99 7 0 1) H1 := by
    refine ⟨adN ao 7 0 H.size, ap, fun _ => ?_, fun q9 => ?_, ?_, ?_⟩
    · rw [vO_up (by decide), vO_sO]
      refine ⟨by unfold nw; rw [if_neg (by decide), if_pos (by decide)], ?_⟩
      unfold adN
      rw [if_pos ⟨rfl, rfl⟩, if_pos ⟨rfl, rfl⟩]
    · rw [vP_up (by decide), vP_sO]
      have q8 : v 99 107 0 = 1 := by
        unfold up at q9
        rw [if_neg (by decide), sO_lt _ _ (by decide)] at q9
        exact q9
      refine ⟨(b2 q8).1, ?_⟩
      unfold adN
      rw [if_neg (by decide)]
      exact (b2 q8).2
    · rw [vO_up (by decide), vP_up (by decide), vO_sO, vP_sO]
      exact hSt
    · rw [vO_up (by decide), vP_up (by decide), vO_sO, vP_sO]
      exact Sto_side b4 (fun q q1 _ => d3 q q1) (fun q q1 q2 => (Lv_B hSt q1).2 q2)
  have k9 := kk _ hr (adN ad 7 0 H.size) H1 locs lsA hSt2 (hE.tr hEx) ⟨by rw [d2]; exact Nat.le_succ_of_le hV.1, fun q h1 h2 => (d3 q (Nat.lt_of_lt_of_le h1 hV.1)).trans (hV.2.1 q h1 h2), hV.2.2⟩ (by rw [ls_ext hEx hls]; exact hl) (fun q hq => ext_okv hEx (hls q hq)) (ok_c ((okv_ref (K := 7)).mpr (Or.inr ⟨by decide, by unfold up; rw [if_pos ⟨rfl, rfl, rfl⟩]⟩)) (fun q hq => ext_okv hEx (hst q hq)))
  rw [List.map_cons, st_ext hEx hst, cv_pos (K := 7) (by decide)] at k9
  have e9 : adN ad 7 0 H.size 7 0 = H.size := by unfold adN; rw [if_pos ⟨rfl, rfl⟩]
  rw [e9] at k9
  exact k9
/-- new FreePort: p -/
theorem g2_newP (F : Fx x cc own nm rm nL rt rty lw) {k9 : V → Res} {idx n : Nat} (hf : FN own idx 7) (hn : ln 7 = n) (h : ¬ v 99 107 0 = 1 ∧ ¬ vP v 99 7 0 = 1) (hc : cells + 1 ≤ rm.cells) (hs : slots + n ≤ rm.slots) (hd : decode cc pc = .ok (.new idx, 3)) (kk : ∀ v1, Gs2 x (k9 v1) v1 (cells + 1) (slots + n) (pc + 3) ls ((117, 0) :: st)) : Gs2 x (rLet (up (sP v (nw (vP v) 7 0)) 99 107 0 1) k9) v cells slots pc ls st := by
  obtain ⟨⟨p, l, e, R, s, m⟩, ⟨args, below, meth, c⟩, ⟨nL', D, B, ad0, v0, rt', lw'⟩⟩ := x
  intro hr ad H locs lsA hS2 hE hV hl hls hst
  obtain ⟨ao, ap, b1, b2, b3, b4⟩ := hS2
  obtain ⟨hx, hb, hown, hR, hml, hnL, hrt, hret, hnm, hlk, het, hG⟩ := id F
  obtain ⟨hK, q, hq, w1, w2, w3⟩ := hf
  obtain ⟨e1, e2, e3, e4⟩ := cl_spec hK hq
  obtain ⟨hSl, hfc, kC, hkC, hkind⟩ := hG.2.2.2.1.1 7 q hq
  have hts : ∀ w ∈ gtbl, w.before args s = true := fun w hw => hG.2.2.1 w hw args
  subst hR
  have hn2 : n = q.2.2 := by omega
  subst hn2
  refine W.newcK hx hb hown (hts _ w1) (hts _ w2) (hts _ w3) rfl hd hc hs hfc rfl fun H1 kC2 hkC2 d1 d2 d3 => ?_
  obtain ⟨tyf, htyf⟩ : ∃ tyf : Nat → FieldType, ∀ k, k < q.2.2 → parseFieldDescriptor (q.2.1 k).2.2.1 = some (tyf k) ∧ tyOK (tg 7 (k : Int)) (tyf k) = true := by
    refine ⟨fun k => (parseFieldDescriptor (q.2.1 k).2.2.1).getD .int, fun k hk => ?_⟩
    obtain ⟨ty, p1, p2⟩ := e2 k hk
    dsimp only
    rw [p1]
    exact ⟨rfl, p2⟩
  have hob := u_born tyf hts e4 (hG.2.2.2.1.1 7 q hq) hkC2 d1 (fun k hk => (htyf k hk).1)
  have hSt : Sto D (fun q => B q ∧ ¬ Lv ao (vO v) q) (adN ap 7 0 H.size) (nw (vP v) 7 0) H1 := b4.new (by omega) h.2 ⟨hG.2.1 _ hV.1, fun q2 => by have := Lv_lt b3 q2; omega⟩ (by
    unfold ClAt
    rw [if_pos hK, ← e1]
    exact hob.to (fun k hk => (ty_def (htyf k hk).2).symm)) d3
  have hEx : Ext v ad (up (sP v (nw (vP v) 7 0)) 99 107 0 1) (adN ad 107 0 H.size) := fun K i h9 => by
    refine ⟨?_, ?_⟩
    · unfold up
      split
      · rfl
      · rw [sP_lt _ _ (by decide)]
        exact h9
    · unfold adN
      split
      · rename_i hh9
        obtain ⟨rfl, rfl⟩ := hh9
        exact absurd h9 h.1
      · rfl
  have hSt2 : Sto2 D B (adN ad 107 0 H.size) (up (sP v (nw (vP v) 7 0)) 99 107 0 1) H1 := by
    refine ⟨ao, adN ap 7 0 H.size, fun q9 => ?_, fun _ => ?_, ?_, ?_⟩
    · rw [vO_up (by decide), vO_sP]
      have q8 : v 99 7 0 = 1 := by
        unfold up at q9
        rw [if_neg (by decide), sP_lt _ _ (by decide)] at q9
        exact q9
      refine ⟨(b1 q8).1, ?_⟩
      unfold adN
      rw [if_neg (by decide)]
      exact (b1 q8).2
    · rw [vP_up (by decide), vP_sP]
      refine ⟨by unfold nw; rw [if_neg (by decide), if_pos (by decide)], ?_⟩
      unfold adN
      rw [if_pos ⟨rfl, rfl⟩, if_pos ⟨rfl, rfl⟩]
    · rw [vO_up (by decide), vP_up (by decide), vO_sP, vP_sP]
      exact Sto_side b3 (fun q q1 _ => d3 q q1) (fun q q1 q2 => (Lv_B hSt q1).2 q2)
    · rw [vO_up (by decide), vP_up (by decide), vO_sP, vP_sP]
      exact hSt
  have k9 := kk _ hr (adN ad 107 0 H.size) H1 locs lsA hSt2 (hE.tr hEx) ⟨by rw [d2]; exact Nat.le_succ_of_le hV.1, fun q h1 h2 => (d3 q (Nat.lt_of_lt_of_le h1 hV.1)).trans (hV.2.1 q h1 h2), hV.2.2⟩ (by rw [ls_ext hEx hls]; exact hl) (fun q hq => ext_okv hEx (hls q hq)) (ok_c ((okv_ref (K := 107)).mpr (Or.inr ⟨by decide, by unfold up; rw [if_pos ⟨rfl, rfl, rfl⟩]⟩)) (fun q hq => ext_okv hEx (hst q hq)))
  rw [List.map_cons, st_ext hEx hst, cv_pos (K := 107) (by decide)] at k9
  have e9 : adN ad 107 0 H.size 107 0 = H.size := by unfold adN; rw [if_pos ⟨rfl, rfl⟩]
  rw [e9] at k9
  exact k9
/-- the cell of a lasting object, of both -/
theorem recv2 {D : va_G} {B : Nat → Prop} {ad : Ad} {W : V} {H : Heap} {s : State} {K : Nat} {q9 : vw_C} (hS : Sto2 D B ad W H) (hK : va_K D vwCl [] s) (hq9 : vwCl[7]? = some q9) (h : (K = 7 ∨ K = 107) ∧ W 99 (K : Int) 0 = 1) : ∃ cellB : Cell, H[ad K 0]? = some cellB ∧ cellB.vm.isStatics = false ∧ s.vm.findClass q9.1 = some cellB.cls := by
  obtain ⟨ao, ap, b1, b2, b3, b4⟩ := hS
  obtain ⟨-, hfc, -⟩ := hK.1 7 q9 hq9
  have fin : ∀ {B' : Nat → Prop} {ad' : Ad} {v' : V}, Sto D B' ad' v' H → v' 99 7 0 = 1 → ad' 7 0 = ad K 0 → ∃ cellB : Cell, H[ad K 0]? = some cellB ∧ cellB.vm.isStatics = false ∧ s.vm.findClass q9.1 = some cellB.cls := fun hS9 h1 h2 => by
    obtain ⟨g1, -, -⟩ := hS9.1 7 0 (by decide) h1
    unfold ClAt at g1
    rw [if_pos (by decide)] at g1
    obtain ⟨cell, q1, q2, q3, -⟩ := g1
    rw [h2] at q1
    exact ⟨cell, q1, by rw [q3]; rfl, by rw [q2]; exact hfc⟩
  rcases h with ⟨rfl | rfl, h⟩
  · exact fin b3 (b1 h).1 (b1 h).2
  · exact fin b4 (b2 h).1 (b2 h).2
theorem g2_callV (F : Fx x cc own nm rm nL rt rty lw) (hm9 : lw < 2) {y : MethodName} {cc2 : ByteArray} {maxL2 n idx : Nat} {rty2 : Option FieldType} {R2 : Room} {rt2 : Option Nat} {f : V → Res} {k9 : Int → V → Res} {stk as : List AV} {K : Nat} (acts : List AV) (ts : List Nat) (wl : Cond.methodLink own idx y ∈ gtbl) (wi : Cond.instanceMethod y ∈ gtbl) (ws : Cond.selects y.cls y y ∈ gtbl) (hC : ∀ l, Ct2 l y cc2 maxL2 rty2 R2 rt2 ((K + 10, 0) :: as) f) (hmi : MI y cc2 maxL2 rty2 n) (hK : K = 7 ∨ K = 107) (hcl : ∃ q, vwCl[7]? = some q ∧ q.1 = y.cls) (h0 : 0 ≤ (0 : Int)) (hle : leA acts ts = some as) (hlen : acts.length = n) (hstk : acts.reverse ++ (K + 10, 0) :: st = stk) (hfr : R2.frames + 1 ≤ rm.frames) (hlo : 8 + (maxL2 + 11) + R2.locals ≤ rm.locals) (hc : cells + R2.cells ≤ rm.cells) (hs : slots + R2.slots ≤ rm.slots) (hW : catL st ≤ 8) (hd : decode cc pc = .ok (.invokevirtual idx, 3)) (k : ∀ z v1, f v = some (0, z, v1) → Gs2 x (k9 z v1) v1 (cells + R2.cells) (slots + R2.slots) (pc + 3) ls (pushR rt2 z st)) : Gs2 x (rB (f v) k9) v cells slots pc ls stk := by
  obtain ⟨⟨p, l, e, R, s, m⟩, ⟨args, below, meth, c⟩, ⟨nL', D, B, ad0, v0, rt', lw'⟩⟩ := x
  intro hr ad H locs lsA hS hE hV hl hls hst
  obtain ⟨hx, hb, hown, hR, hml, hnL, hrt, hret, hnm, hlk, het, hG⟩ := id F
  subst hR
  subst hnL
  subst hstk
  have hts : ∀ w ∈ gtbl, w.before args s = true := fun w hw => hG.2.2.1 w hw args
  obtain ⟨m1, m2, m3, m4⟩ := hmi
  obtain ⟨l1, l2⟩ := leA_spec (v := v) (ad := ad) hle
  have hf9 : f v ≠ none := fun q => hr (by rw [q]; rfl)
  have ob := hst (K + 10, 0) (by simp)
  have hst2 : ∀ a ∈ st, okv v a := fun a ha => hst a (by simp [ha])
  have hac : ∀ a ∈ acts, okv v a := fun a ha => hst a (by simp [ha])
  have hM := hC l D B ad v (ok_c ob (l2 hac)) hf9
  rw [List.map_cons, cv_pos h0, l1] at hM
  rw [List.map_append, List.map_cons, cv_pos h0, List.map_reverse]
  obtain ⟨q9, hq9, hC9⟩ := hcl
  have hrecv : ∃ cellB : Cell, H[ad K 0]? = some cellB ∧ cellB.vm.isStatics = false ∧ s.vm.findClass y.cls = some cellB.cls := by
    rw [← hC9]
    exact recv2 hS hG.2.2.2.1 hq9 ⟨hK, al_of h0 ob⟩
  refine g2_back hr hS hE hV hl hls hst2 het hm9 hlk hc hs (vx_runV (As := acts.map (cv ad)) ⟨hx, hb, hml, hown, hts⟩ hM ⟨⟨rfl, rfl, hfr, hlo, mi_ws m1 hG.2.2.1, List.mem_singleton.mpr rfl, hts _ m1, hts _ m4, m2, mi_len m3, hts _ wl⟩, hts _ wi, hts _ ws⟩ ⟨?_, hrecv, fun U hU hW9 => ⟨rfl, hG.moved hV hU hW9, by rw [hU]; exact hS⟩⟩ rfl (by rw [List.length_map]; exact hlen) hl.1 rfl (lv_room (by rw [catL_map]; exact hW)) hd ⟨hc, hs⟩) k
  exact fun _ _ _ _ h => ⟨h.1, h.2.1.calling, h.2.2⟩
theorem g2_callI (F : Fx x cc own nm rm nL rt rty lw) (hm9 : lw < 2) {y : MethodName} {cc2 : ByteArray} {maxL2 n idx : Nat} {R2 : Room} {f : V → Res} {k9 : Int → V → Res} {stk as : List AV} {K : Nat} {b : Int} (acts : List AV) (ts : List Nat) (wl : Cond.methodLink own idx y ∈ gtbl) (wi : Cond.instanceMethod y ∈ gtbl) (hy1 : y.name = "<init>") (hC : ∀ l, Ct2 l y cc2 maxL2 none R2 none ((K + 10, b) :: as) f) (hmi : MI y cc2 maxL2 none n) (h0 : 0 ≤ b) (hle : leA acts ts = some as) (hlen : acts.length = n) (hstk : acts.reverse ++ (K + 10, b) :: st = stk) (hfr : R2.frames + 1 ≤ rm.frames) (hlo : 8 + (maxL2 + 11) + R2.locals ≤ rm.locals) (hc : cells + R2.cells ≤ rm.cells) (hs : slots + R2.slots ≤ rm.slots) (hW : catL st ≤ 8) (hd : decode cc pc = .ok (.invokespecial idx, 3)) (k : ∀ z v1, f v = some (0, z, v1) → Gs2 x (k9 z v1) v1 (cells + R2.cells) (slots + R2.slots) (pc + 3) ls (st)) : Gs2 x (rB (f v) k9) v cells slots pc ls stk := by
  obtain ⟨⟨p, l, e, R, s, m⟩, ⟨args, below, meth, c⟩, ⟨nL', D, B, ad0, v0, rt', lw'⟩⟩ := x
  intro hr ad H locs lsA hS hE hV hl hls hst
  obtain ⟨hx, hb, hown, hR, hml, hnL, hrt, hret, hnm, hlk, het, hG⟩ := id F
  subst hR
  subst hnL
  subst hstk
  have hts : ∀ w ∈ gtbl, w.before args s = true := fun w hw => hG.2.2.1 w hw args
  obtain ⟨m1, m2, m3, m4⟩ := hmi
  obtain ⟨l1, l2⟩ := leA_spec (v := v) (ad := ad) hle
  have hf9 : f v ≠ none := fun q => hr (by rw [q]; rfl)
  have ob := hst (K + 10, b) (by simp)
  have hst2 : ∀ a ∈ st, okv v a := fun a ha => hst a (by simp [ha])
  have hac : ∀ a ∈ acts, okv v a := fun a ha => hst a (by simp [ha])
  have hM := hC l D B ad v (ok_c ob (l2 hac)) hf9
  rw [List.map_cons, cv_pos h0, l1] at hM
  rw [List.map_append, List.map_cons, cv_pos h0, List.map_reverse]
  refine g2_back (rt2 := none) hr hS hE hV hl hls hst2 het hm9 hlk hc hs (vx_runI (As := acts.map (cv ad)) ⟨hx, hb, hml, hown, hts⟩ hM ⟨⟨rfl, rfl, hfr, hlo, mi_ws m1 hG.2.2.1, List.mem_singleton.mpr rfl, hts _ m1, hts _ m4, m2, mi_len m3, hts _ wl⟩, hy1, hts _ wi⟩ ⟨?_, fun U hU hW9 => ⟨rfl, hG.moved hV hU hW9, by rw [hU]; exact hS⟩⟩ rfl (by rw [List.length_map]; exact hlen) hl.1 rfl (lv_room (by rw [catL_map]; exact hW)) hd ⟨hc, hs⟩) k
  exact fun _ _ _ _ h => ⟨h.1, h.2.1.calling, h.2.2⟩

end Core9

/-! CORE 5: ends, throws, calls, starts -/
section Core5
variable {x : Cx} {cc : ByteArray} {own nm : String} {rm : Room} {nL : Nat} {rt : Option Nat} {rty : Option FieldType} {lw : Nat} {r r1 r2 : Res} {v : V} {cells slots pc tgt : Nat} {ls ls' : List (Nat × AV)} {st : List AV} {t t1 t2 : Nat} {a b i z : Int} {ty : FieldType}
theorem g_ireturn (F : Fx x cc own nm rm nL (some t2) (some ty) lw) (hlw : (lw == 1) = false) (hty : tyOK t2 ty = true) (hi : il t2 = true) (ht : tle t t2 = true) (hc : cells ≤ rm.cells) (hs : slots ≤ rm.slots) (hd : decode cc pc = .ok (.ireturn, 1)) : Gs x (rOk a v) v cells slots pc ls [(t, a)] := by
  obtain ⟨⟨p, l, e, R, s, m⟩, ⟨args, below, meth, c⟩, ⟨nL', D, B, ad0, v0, rt', lw'⟩⟩ := x
  intro hr ad H locs lsA hS hE hV hl hls hst
  obtain ⟨hx, hb, hown, hR, hml, hnL, hrt, hret, hnm, hlk, het, hG⟩ := id F
  subst hR
  subst hrt
  have oa := okv_le ht (ok_h hst)
  have hn := ty_narrow (ad := ad) hty oa
  rw [List.map_cons, List.map_nil, cv_le ht, cv_il hi]
  rw [cv_il hi] at hn
  obtain ⟨rfl, -, -⟩ := het
  have hlw : ¬ lw' = 1 := by simpa using hlw
  unfold Qx
  rw [if_neg hlw]
  show W p l e R s m args below meth c H locs cells slots (vx_MQ below _ _ args s R.cells R.slots _) _
  refine vx_ret (W.widen (k := R.cells) (n := R.slots) hc hs ?_)
  exact W.zret hx hb hret hn (fun t ht _ => ⟨a, v, ad, rfl, by simp [cv_il hi], fun q hq => by cases hq; exact oa, hE, by rw [ht]; exact hS, hV.F ht⟩) hV.2.2 hd hlk
theorem g_lreturn (F : Fx x cc own nm rm nL (some 1) (some .long) lw) (hlw : (lw == 1) = false) (hc : cells ≤ rm.cells) (hs : slots ≤ rm.slots) (hd : decode cc pc = .ok (.lreturn, 1)) : Gs x (rOk a v) v cells slots pc ls [(1, a)] := by
  obtain ⟨⟨p, l, e, R, s, m⟩, ⟨args, below, meth, c⟩, ⟨nL', D, B, ad0, v0, rt', lw'⟩⟩ := x
  intro hr ad H locs lsA hS hE hV hl hls hst
  obtain ⟨hx, hb, hown, hR, hml, hnL, hrt, hret, hnm, hlk, het, hG⟩ := id F
  subst hR
  subst hrt
  obtain ⟨rfl, -, -⟩ := het
  have hlw : ¬ lw' = 1 := by simpa using hlw
  unfold Qx
  rw [if_neg hlw]
  show W p l e R s m args below meth c H locs cells slots (vx_MQ below _ _ args s R.cells R.slots _) _
  refine vx_ret (W.widen (k := R.cells) (n := R.slots) hc hs ?_)
  exact W.lret (v := Int64.ofInt a) hx hb hret (fun t ht _ => ⟨a, v, ad, rfl, rfl, fun q hq => by cases hq; exact ok_h hst, hE, by rw [ht]; exact hS, hV.F ht⟩) hV.2.2 hd hlk
theorem g_areturn {K : Nat} (F : Fx x cc own nm rm nL (some (K + 10)) (some ty) lw) (hlw : (lw == 1) = false) (hty : (∃ n, ty = .object n) ∨ ∃ t, ty = .array t) (hc : cells ≤ rm.cells) (hs : slots ≤ rm.slots) (hd : decode cc pc = .ok (.areturn, 1)) : Gs x (rOk a v) v cells slots pc ls [(K + 10, a)] := by
  obtain ⟨⟨p, l, e, R, s, m⟩, ⟨args, below, meth, c⟩, ⟨nL', D, B, ad0, v0, rt', lw'⟩⟩ := x
  intro hr ad H locs lsA hS hE hV hl hls hst
  obtain ⟨hx, hb, hown, hR, hml, hnL, hrt, hret, hnm, hlk, het, hG⟩ := id F
  subst hR
  subst hrt
  obtain ⟨rfl, -, -⟩ := het
  have hlw : ¬ lw' = 1 := by simpa using hlw
  unfold Qx
  rw [if_neg hlw]
  show W p l e R s m args below meth c H locs cells slots (vx_MQ below _ _ args s R.cells R.slots _) _
  refine vx_ret (W.widen (k := R.cells) (n := R.slots) hc hs ?_)
  refine W.aret (v := cv ad (K + 10, a)) hx hb hret hty ?_ (fun t ht _ => ⟨a, v, ad, rfl, rfl, fun q hq => by cases hq; exact ok_h hst, hE, by rw [ht]; exact hS, hV.F ht⟩) hV.2.2 hd hlk
  by_cases h9 : a < 0
  · exact Or.inl (cv_neg h9)
  · exact Or.inr ⟨_, cv_pos (by omega)⟩
theorem g_return (F : Fx x cc own nm rm nL none none lw) (hlw : (lw == 1) = false) (hc : cells ≤ rm.cells) (hs : slots ≤ rm.slots) (hd : decode cc pc = .ok (.return_, 1)) : Gs x (rOk a v) v cells slots pc ls [] := by
  obtain ⟨⟨p, l, e, R, s, m⟩, ⟨args, below, meth, c⟩, ⟨nL', D, B, ad0, v0, rt', lw'⟩⟩ := x
  intro hr ad H locs lsA hS hE hV hl hls hst
  obtain ⟨hx, hb, hown, hR, hml, hnL, hrt, hret, hnm, hlk, het, hG⟩ := id F
  subst hR
  subst hrt
  obtain ⟨rfl, -, -⟩ := het
  have hlw : ¬ lw' = 1 := by simpa using hlw
  unfold Qx
  rw [if_neg hlw]
  show W p l e R s m args below meth c H locs cells slots (vx_MQ below _ _ args s R.cells R.slots _) _
  refine vx_ret (W.widen (k := R.cells) (n := R.slots) hc hs ?_)
  exact W.vret hx hb hret (fun t ht _ => ⟨a, v, ad, rfl, rfl, (fun q hq => by cases hq), hE, by rw [ht]; exact hS, hV.F ht⟩) hV.2.2 hd hlk
def catL : List AV → Nat
  | [] => 0
  | q :: l => (if q.1 = 1 then 2 else 1) + catL l
theorem catL_map {ad : Ad} : ((st.map (cv ad)).map fun v => v.category).sum = catL st := by
  induction st with
  | nil => rfl
  | cons q l ih =>
    rw [List.map_cons, List.map_cons, List.sum_cons, ih, cat_cv]
    rfl
def exNs : List String := ["java/lang/RuntimeException", "java/lang/Exception"]
/-- a site of 'throw new E(text)' in the class own -/
def TH (own text : String) (ik is ic e : Nat) : Prop := Bundle.fit (exN e) = true ∧ Cond.classLink own ik (exN e) ∈ gtbl ∧ Cond.initialized (exN e) ∈ gtbl ∧ (own, is, text) ∈ strs ∧ (∀ w ∈ vx_atS own ic (exN e) exNs, w ∈ gtbl) ∧ (∀ w ∈ Cond.classLink own ik (exN e) :: Cond.initialized (exN e) :: vx_atS own ic (exN e) exNs, vx_ot w = true)
theorem g_throw (F : Fx x cc own nm rm nL rt rty 0) {text : String} {ik is ic e9 : Nat} (hT : TH own text ik is ic e9) (hf : 5 < rm.frames) (hl9 : catL st + 82 ≤ rm.locals) (hc : cells + 1 ≤ rm.cells) (hs : slots + 6 ≤ rm.slots)
    (d0 : decode cc pc = .ok (.new ik, 3)) (d3 : decode cc (pc + 3) = .ok (.dup, 1)) (d4 : decode cc (pc + 4) = .ok (.ldc is, 2)) (d6 : decode cc (pc + 6) = .ok (.invokespecial ic, 3)) (d9 : decode cc (pc + 9) = .ok (.athrow, 1)) : Gs x (rEx e9 v) v cells slots pc ls st := by
  obtain ⟨⟨p, l, e, R, s, m⟩, ⟨args, below, meth, c⟩, ⟨nL', D, B, ad0, v0, rt', lw'⟩⟩ := x
  intro hr ad H locs lsA hS hE hV hl hls hst
  obtain ⟨hx, hb, hown, hR, hml, hnL, hrt, hret, hnm, hlk, het, hG⟩ := id F
  subst hR
  obtain ⟨t1, t2, t3, t4, t5, t6⟩ := hT
  obtain ⟨g1, g2, g3, g4, g5, g6, g7, g8, g9, g10⟩ := hG
  obtain ⟨sa, hsa⟩ := g6 _ t4
  subst hnL
  obtain ⟨rfl, het, -⟩ := het
  have het := het rfl
  show W p l e R s m args below meth c H locs cells slots (vx_MQ below _ _ args s R.cells R.slots _) _
  exact vx_throwS hx hb g1 hown t1 (names := exNs) (by decide +kernel) (g3 _ t2 _) (g3 _ t3 _) hsa (fun w hw => g3 w (t5 w hw) _) t6 g9 g10 hV (hl.1.trans hml.symm) d0 d3 d4 d6 d9 (fun x hx => (het x hx).elim) hf (by rw [catL_map]; exact hl9) hc hs hlk
    (fun t _ h1 h2 => ⟨e9, v, ad, rfl, rfl, hE, hS.kept h2, Nat.le_trans hV.1 h1, fun q q1 q2 => (h2 q (Nat.lt_of_lt_of_le q1 hV.1)).trans (hV.2.1 q q1 q2)⟩) hV.2.2 hc hs
theorem g_throw0 (F : Fx x cc own nm rm nL rt rty lw) {e9 : Nat} (h : False) : Gs x (rEx e9 v) v cells slots pc ls st := h.elim
theorem g_objinit (F : Fx x cc own nm rm nL rt rty lw) {idx K : Nat} (w1 : Cond.methodLink own idx Lib.objectInit ∈ gtbl) (w2 : Cond.instanceMethod Lib.objectInit ∈ gtbl) (w3 : Cond.code Lib.objectInit ⟨#[0xb1]⟩ 1 none ∈ gtbl) (hf : 1 ≤ rm.frames) (h0 : 0 ≤ a) (hW : catL st + 12 ≤ rm.locals) (hd : decode cc pc = .ok (.invokespecial idx, 3)) (kk : Gs x r v cells slots (pc + 3) ls st) : Gs x r v cells slots pc ls ((K + 10, a) :: st) := by
  obtain ⟨⟨p, l, e, R, s, m⟩, ⟨args, below, meth, c⟩, ⟨nL', D, B, ad0, v0, rt', lw'⟩⟩ := x
  intro hr ad H locs lsA hS hE hV hl hls hst
  obtain ⟨hx, hb, hown, hR, hml, hnL, hrt, hret, hnm, hlk, het, hG⟩ := id F
  subst hR
  subst hnL
  have hts : ∀ w ∈ gtbl, w.before args s = true := fun w hw => hG.2.2.1 w hw args
  have k9 := kk hr ad H locs lsA hS hE hV hl hls (ok_t hst)
  rw [List.map_cons, cv_pos h0]
  refine W.objInit hx hb hown (hts _ w1) (hts _ w2) (hts _ w3) rfl (by rw [hml]; exact hl.1) rfl hd hf ?_ k9
  have h2 : ((st.map (cv ad)).map fun v => v.category).sum + 12 ≤ R.locals := by rw [catL_map]; exact hW
  first
    | (simp only [JFrame.monitorRoom]; simpa using h2)
    | (unfold JFrame.monitorRoom; simpa using h2)
def leA : List AV → List Nat → Option (List AV)
  | [], [] => some []
  | a :: l, t :: ts => if tle a.1 t = true then (leA l ts).map (fun q => (t, a.2) :: q) else none
  | _, _ => none
theorem leA_spec {v : V} {ad : Ad} : ∀ {acts : List AV} {ts : List Nat} {as : List AV}, leA acts ts = some as → as.map (cv ad) = acts.map (cv ad) ∧ ((∀ a ∈ acts, okv v a) → ∀ a ∈ as, okv v a)
  | [], [], as, h => by cases h; exact ⟨rfl, fun h => h⟩
  | [], _ :: _, as, h => by cases h
  | _ :: _, [], as, h => by cases h
  | (t0, z0) :: l, t :: ts, as, h => by
    unfold leA at h
    split at h
    · rename_i ht
      cases hq : leA l ts with
      | none => rw [hq] at h; cases h
      | some q =>
        rw [hq] at h
        cases h
        obtain ⟨i1, i2⟩ := leA_spec (v := v) (ad := ad) hq
        refine ⟨?_, fun ho => ok_c (okv_le ht (ok_h ho)) (i2 (ok_t ho))⟩
        rw [List.map_cons, List.map_cons, i1, cv_le ht]
    · cases h
/-- a method that is called: its code, its descriptor, its class ready -/
def MI (y : MethodName) (cc : ByteArray) (maxL : Nat) (rty : Option FieldType) (n : Nat) : Prop := Cond.code y cc maxL rty ∈ gtbl ∧ (y.cls ≠ "java/lang/invoke/MethodHandle" ∧ y.cls ≠ "java/lang/invoke/VarHandle") ∧ (parseMethodDescriptor y.desc).map (fun d => d.parameters.length) = some n ∧ Cond.initialized y.cls ∈ gtbl
def pushR : Option Nat → Int → List AV → List AV
  | none, _, st => st
  | some t, z, st => (t, z) :: st
theorem mi_len {y : MethodName} {n : Nat} (h : (parseMethodDescriptor y.desc).map (fun d => d.parameters.length) = some n) : ∀ sig, parseMethodDescriptor y.desc = some sig → n = sig.parameters.length := fun sig hs => by
  rw [hs] at h
  exact (Option.some.inj h).symm
theorem mi_ws {y : MethodName} {cc : ByteArray} {maxL : Nat} {rty : Option FieldType} {s : State} (h : Cond.code y cc maxL rty ∈ gtbl) (hts : ∀ w ∈ gtbl, ∀ a, w.before a s = true) : ∀ w ∈ [Cond.code y cc maxL rty], ∀ (a' : Array Value) (U : State), s.WarmedH U.vm → w.before a' U = true := fun w hw a' U hW => by
  rw [List.mem_singleton.mp hw]
  exact kw_move (List.mem_filter.mp h).2 hW (hts _ h #[])
theorem pc_blind {l : Launch} {D : va_G} {B : Nat → Prop} {ad : Ad} {as : List AV} : FrameBlind (va_Pc (as.map (cv ad)) (fun U => Gd l D B U ∧ Sto D B ad v U.heap)) := fun _ _ _ _ h => ⟨h.1, h.2.1.calling, h.2.2⟩
theorem g_back {p : Program} {l : Launch} {e : Env} {R : Room} {s : State} {m : MethodId} {args : Array Value} {below : List Frame} {meth : Method} {c : Code} {nL' : Nat} {D : va_G} {B : Nat → Prop} {ad0 ad : Ad} {v0 : V} {rt' rt2 : Option Nat} {lw lw' : Nat} {f : V → Res} {k9 : Int → V → Res} {H : Heap} {locs : List Loc} {lsA : Array Slot} {stk' : List Value} {mc ms : Nat} {Aa : Array Value}
    (hr : rB (f v) k9 ≠ none) (hS : Sto D B ad v H) (hE : Ext v0 ad0 v ad) (hV : va_S (fun q => B q) s.heap H locs) (hl : lv_has lsA nL' (ls.map (clv ad))) (hls : ∀ q ∈ ls, okv v q.2) (hst : ∀ a ∈ st, okv v a)
    (het : lw' = lw ∧ (lw = 0 → ∀ z ∈ c.exceptionTable.toList, False) ∧ (lw = 1 → (∀ q, B q → s.heap.size ≤ q))) (hm9 : lw < 2) (hlk : meth.locks = false) (hc : cells + mc ≤ R.cells) (hs : slots + ms ≤ R.slots)
    (hrun : vx_Run p l e R s m args below meth c H locs cells slots mc ms (F0 m pc lsA stk') (st.map (cv ad)) (PostC D B ad v rt2 (f v) Aa) (PostX D B ad v (f v)) (fun q => B q))
    (k : ∀ z v1, f v = some (0, z, v1) → Gs ((p, l, e, R, s, m), (args, below, meth, c), (nL', D, B, ad0, v0, rt', lw')) (k9 z v1) v1 (cells + mc) (slots + ms) (pc + 3) ls (pushR rt2 z st)) :
    W p l e R s m args below meth c H locs cells slots (Qx below D B ad0 v0 rt' lw' (rB (f v) k9) args s R) (F0 m pc lsA stk') := by
  intro T hT X
  rcases hrun T hT X with ⟨vv, st₀, t, T', L, h0, X', hL, e1, e2, ⟨z, v1, ad1, c1, c2, c3, c4, c5, c6⟩, hgo⟩ | ⟨q, st₀, t, T', L, E, ce, h0, X', hL, e1, e2, ⟨ee, v1, ad1, c1, c2, c4, c5, c6⟩, hce, hcv, hcl, hgo⟩
  · have e9 : rB (f v) k9 = k9 z v1 := by rw [c1]; rfl
    rw [e9] at hr ⊢
    obtain ⟨-, -, y3⟩ := vx_keep h0 e1 hV (A1 := fun q => B q) (fun q _ h => h) (fun q h => h) hL c6
    have hvv : vv = rt2.map fun q => cv ad1 (q, z) := by injection c2
    subst hvv
    have k2 := k z v1 c1 hr ad1 T'.heap (locs ++ L) lsA (by rw [e1]; exact c5) (hE.tr c4) y3 (by rw [ls_ext c4 hls]; exact hl) (fun q hq => ext_okv c4 (hls q hq)) (by
      cases rt2 with
      | none => exact fun a ha => ext_okv c4 (hst a ha)
      | some q => exact ok_c (c3 q rfl) (fun a ha => ext_okv c4 (hst a ha)))
    obtain ⟨t2, a1, b1⟩ := k2 T' rfl X'
    refine ⟨t2, hgo t2 ?_, b1⟩
    have e8 : (pushR rt2 z st).map (cv ad1) = (rt2.map fun q => cv ad1 (q, z)).toList ++ st.map (cv ad) := by
      cases rt2 with
      | none => exact st_ext c4 hst
      | some q =>
        show cv ad1 (q, z) :: st.map (cv ad1) = cv ad1 (q, z) :: st.map (cv ad)
        rw [st_ext c4 hst]
    rw [e8] at a1
    exact a1
  · have e9 : rB (f v) k9 = some (ee + 1, 0, v1) := by rw [c1]; rfl
    rw [e9]
    obtain ⟨-, -, y3⟩ := vx_keep h0 e1 hV (A1 := fun q => B q) (fun q _ h => h) (fun q h => h) hL c6
    obtain ⟨hlw, het, -⟩ := het
    rcases (show lw = 0 ∨ lw = 1 by omega) with h1 | h1
    · subst h1
      subst hlw
      have k2 : vx_W p l e R s m args below meth c T'.heap (locs ++ L) (cells + mc) (slots + ms) (vx_MQ below (PostC D B ad0 v0 rt' (some (ee + 1, 0, v1))) (PostX D B ad0 v0 (some (ee + 1, 0, v1))) args s R.cells R.slots (fun q => B q)) (F0 m pc lsA (st.map (cv ad))) q :=
        vx_out (fun x hx => (het rfl x hx).elim) hlk (by rw [e1]; exact hce) hcv hcl (fun t' ht _ => ⟨ee, v1, ad1, rfl, c2, hE.tr c4, by rw [ht, e1]; exact c5, y3.F ht⟩) y3.2.2 hc hs
      obtain ⟨t2, a1, b1⟩ := k2 T' rfl X'
      exact ⟨t2, hgo.trans a1, b1⟩
    · subst h1
      subst hlw
      refine ⟨_, hgo, ?_⟩
      intro hex
      obtain ⟨v9, h9⟩ := hex
      cases h9
theorem g_callV (F : Fx x cc own nm rm nL rt rty lw) (hm9 : lw < 2) {y : MethodName} {cc2 : ByteArray} {maxL2 n idx : Nat} {rty2 : Option FieldType} {R2 : Room} {rt2 : Option Nat} {f : V → Res} {k9 : Int → V → Res} {stk as : List AV} {K : Nat} {b : Int} (acts : List AV) (ts : List Nat) (wl : Cond.methodLink own idx y ∈ gtbl) (wi : Cond.instanceMethod y ∈ gtbl) (ws : Cond.selects y.cls y y ∈ gtbl) (hC : ∀ l, Ct l y cc2 maxL2 rty2 R2 rt2 ((K + 10, b) :: as) f) (hmi : MI y cc2 maxL2 rty2 n) (hK : K < 8) (hcl : ∃ q, vwCl[K]? = some q ∧ q.1 = y.cls) (h0 : 0 ≤ b) (hle : leA acts ts = some as) (hlen : acts.length = n) (hstk : acts.reverse ++ (K + 10, b) :: st = stk) (hfr : R2.frames + 1 ≤ rm.frames) (hlo : 8 + (maxL2 + 11) + R2.locals ≤ rm.locals) (hc : cells + R2.cells ≤ rm.cells) (hs : slots + R2.slots ≤ rm.slots) (hW : catL st ≤ 8) (hd : decode cc pc = .ok (.invokevirtual idx, 3)) (k : ∀ z v1, f v = some (0, z, v1) → Gs x (k9 z v1) v1 (cells + R2.cells) (slots + R2.slots) (pc + 3) ls (pushR rt2 z st)) : Gs x (rB (f v) k9) v cells slots pc ls stk := by
  obtain ⟨⟨p, l, e, R, s, m⟩, ⟨args, below, meth, c⟩, ⟨nL', D, B, ad0, v0, rt', lw'⟩⟩ := x
  intro hr ad H locs lsA hS hE hV hl hls hst
  obtain ⟨hx, hb, hown, hR, hml, hnL, hrt, hret, hnm, hlk, het, hG⟩ := id F
  subst hR
  subst hnL
  subst hstk
  have hts : ∀ w ∈ gtbl, w.before args s = true := fun w hw => hG.2.2.1 w hw args
  obtain ⟨m1, m2, m3, m4⟩ := hmi
  obtain ⟨l1, l2⟩ := leA_spec (v := v) (ad := ad) hle
  have hf9 : f v ≠ none := fun q => hr (by rw [q]; rfl)
  have ob := hst (K + 10, b) (by simp)
  have hst2 : ∀ a ∈ st, okv v a := fun a ha => hst a (by simp [ha])
  have hac : ∀ a ∈ acts, okv v a := fun a ha => hst a (by simp [ha])
  have hM := hC l D B ad v (ok_c ob (l2 hac)) hf9
  rw [List.map_cons, cv_pos h0, l1] at hM
  rw [List.map_append, List.map_cons, cv_pos h0, List.map_reverse]
  obtain ⟨q9, hq9, hC9⟩ := hcl
  obtain ⟨g1, -, -⟩ := hS.1 K b (by omega) (al_of h0 ob)
  unfold ClAt at g1
  rw [if_pos hK] at g1
  obtain ⟨cell, q1, q2, q3, -⟩ := g1
  obtain ⟨-, hfc, -⟩ := hG.2.2.2.1.1 K q9 hq9
  have hrecv : ∃ cellB : Cell, H[ad K b]? = some cellB ∧ cellB.vm.isStatics = false ∧ s.vm.findClass y.cls = some cellB.cls := ⟨cell, q1, by rw [q3]; rfl, by rw [q2, ← hC9]; exact hfc⟩
  refine g_back hr hS hE hV hl hls hst2 het hm9 hlk hc hs (vx_runV (As := acts.map (cv ad)) ⟨hx, hb, hml, hown, hts⟩ hM ⟨⟨rfl, rfl, hfr, hlo, mi_ws m1 hG.2.2.1, List.mem_singleton.mpr rfl, hts _ m1, hts _ m4, m2, mi_len m3, hts _ wl⟩, hts _ wi, hts _ ws⟩ ⟨?_, hrecv, fun U hU hW9 => ⟨rfl, hG.moved hV hU hW9, by rw [hU]; exact hS⟩⟩ rfl (by rw [List.length_map]; exact hlen) hl.1 rfl (lv_room (by rw [catL_map]; exact hW)) hd ⟨hc, hs⟩) k
  exact fun _ _ _ _ h => ⟨h.1, h.2.1.calling, h.2.2⟩
theorem g_callVN (F : Fx x cc own nm rm nL rt rty lw) (hm9 : lw < 2) {y : MethodName} {cc2 : ByteArray} {maxL2 n idx : Nat} {rty2 : Option FieldType} {R2 : Room} {rt2 : Option Nat} {f : V → Res} {k9 : Int → V → Res} {stk as : List AV} {K : Nat} {b : Int} (acts : List AV) (ts : List Nat) {host : String} (wl : Cond.methodLinkNest own idx y host ∈ gtbl) (wi : Cond.instanceMethod y ∈ gtbl) (ws : Cond.selects y.cls y y ∈ gtbl) (hC : ∀ l, Ct l y cc2 maxL2 rty2 R2 rt2 ((K + 10, b) :: as) f) (hmi : MI y cc2 maxL2 rty2 n) (hK : K < 8) (hcl : ∃ q, vwCl[K]? = some q ∧ q.1 = y.cls) (h0 : 0 ≤ b) (hle : leA acts ts = some as) (hlen : acts.length = n) (hstk : acts.reverse ++ (K + 10, b) :: st = stk) (hfr : R2.frames + 1 ≤ rm.frames) (hlo : 8 + (maxL2 + 11) + R2.locals ≤ rm.locals) (hc : cells + R2.cells ≤ rm.cells) (hs : slots + R2.slots ≤ rm.slots) (hW : catL st ≤ 8) (hd : decode cc pc = .ok (.invokevirtual idx, 3)) (k : ∀ z v1, f v = some (0, z, v1) → Gs x (k9 z v1) v1 (cells + R2.cells) (slots + R2.slots) (pc + 3) ls (pushR rt2 z st)) : Gs x (rB (f v) k9) v cells slots pc ls stk := by
  obtain ⟨⟨p, l, e, R, s, m⟩, ⟨args, below, meth, c⟩, ⟨nL', D, B, ad0, v0, rt', lw'⟩⟩ := x
  intro hr ad H locs lsA hS hE hV hl hls hst
  obtain ⟨hx, hb, hown, hR, hml, hnL, hrt, hret, hnm, hlk, het, hG⟩ := id F
  subst hR
  subst hnL
  subst hstk
  have hts : ∀ w ∈ gtbl, w.before args s = true := fun w hw => hG.2.2.1 w hw args
  obtain ⟨m1, m2, m3, m4⟩ := hmi
  obtain ⟨l1, l2⟩ := leA_spec (v := v) (ad := ad) hle
  have hf9 : f v ≠ none := fun q => hr (by rw [q]; rfl)
  have ob := hst (K + 10, b) (by simp)
  have hst2 : ∀ a ∈ st, okv v a := fun a ha => hst a (by simp [ha])
  have hac : ∀ a ∈ acts, okv v a := fun a ha => hst a (by simp [ha])
  have hM := hC l D B ad v (ok_c ob (l2 hac)) hf9
  rw [List.map_cons, cv_pos h0, l1] at hM
  rw [List.map_append, List.map_cons, cv_pos h0, List.map_reverse]
  obtain ⟨q9, hq9, hC9⟩ := hcl
  obtain ⟨g1, -, -⟩ := hS.1 K b (by omega) (al_of h0 ob)
  unfold ClAt at g1
  rw [if_pos hK] at g1
  obtain ⟨cell, q1, q2, q3, -⟩ := g1
  obtain ⟨-, hfc, -⟩ := hG.2.2.2.1.1 K q9 hq9
  have hrecv : ∃ cellB : Cell, H[ad K b]? = some cellB ∧ cellB.vm.isStatics = false ∧ s.vm.findClass y.cls = some cellB.cls := ⟨cell, q1, by rw [q3]; rfl, by rw [q2, ← hC9]; exact hfc⟩
  refine g_back hr hS hE hV hl hls hst2 het hm9 hlk hc hs (vx_runVN (As := acts.map (cv ad)) ⟨hx, hb, hml, hown, hts⟩ hM ⟨⟨⟨rfl, rfl, hfr, hlo, mi_ws m1 hG.2.2.1, List.mem_singleton.mpr rfl⟩, hts _ m1, hts _ m4, m2, mi_len m3, hts _ wl⟩, hts _ wi, hts _ ws⟩ ⟨?_, hrecv, fun U hU hW9 => ⟨rfl, hG.moved hV hU hW9, by rw [hU]; exact hS⟩⟩ rfl (by rw [List.length_map]; exact hlen) hl.1 rfl (lv_room (by rw [catL_map]; exact hW)) hd ⟨hc, hs⟩) k
  exact fun _ _ _ _ h => ⟨h.1, h.2.1.calling, h.2.2⟩
theorem g_callI (F : Fx x cc own nm rm nL rt rty lw) (hm9 : lw < 2) {y : MethodName} {cc2 : ByteArray} {maxL2 n idx : Nat} {R2 : Room} {f : V → Res} {k9 : Int → V → Res} {stk as : List AV} {K : Nat} {b : Int} (acts : List AV) (ts : List Nat) (wl : Cond.methodLink own idx y ∈ gtbl) (wi : Cond.instanceMethod y ∈ gtbl) (hy1 : y.name = "<init>") (hC : ∀ l, Ct l y cc2 maxL2 none R2 none ((K + 10, b) :: as) f) (hmi : MI y cc2 maxL2 none n) (h0 : 0 ≤ b) (hle : leA acts ts = some as) (hlen : acts.length = n) (hstk : acts.reverse ++ (K + 10, b) :: st = stk) (hfr : R2.frames + 1 ≤ rm.frames) (hlo : 8 + (maxL2 + 11) + R2.locals ≤ rm.locals) (hc : cells + R2.cells ≤ rm.cells) (hs : slots + R2.slots ≤ rm.slots) (hW : catL st ≤ 8) (hd : decode cc pc = .ok (.invokespecial idx, 3)) (k : ∀ z v1, f v = some (0, z, v1) → Gs x (k9 z v1) v1 (cells + R2.cells) (slots + R2.slots) (pc + 3) ls (st)) : Gs x (rB (f v) k9) v cells slots pc ls stk := by
  obtain ⟨⟨p, l, e, R, s, m⟩, ⟨args, below, meth, c⟩, ⟨nL', D, B, ad0, v0, rt', lw'⟩⟩ := x
  intro hr ad H locs lsA hS hE hV hl hls hst
  obtain ⟨hx, hb, hown, hR, hml, hnL, hrt, hret, hnm, hlk, het, hG⟩ := id F
  subst hR
  subst hnL
  subst hstk
  have hts : ∀ w ∈ gtbl, w.before args s = true := fun w hw => hG.2.2.1 w hw args
  obtain ⟨m1, m2, m3, m4⟩ := hmi
  obtain ⟨l1, l2⟩ := leA_spec (v := v) (ad := ad) hle
  have hf9 : f v ≠ none := fun q => hr (by rw [q]; rfl)
  have ob := hst (K + 10, b) (by simp)
  have hst2 : ∀ a ∈ st, okv v a := fun a ha => hst a (by simp [ha])
  have hac : ∀ a ∈ acts, okv v a := fun a ha => hst a (by simp [ha])
  have hM := hC l D B ad v (ok_c ob (l2 hac)) hf9
  rw [List.map_cons, cv_pos h0, l1] at hM
  rw [List.map_append, List.map_cons, cv_pos h0, List.map_reverse]
  refine g_back (rt2 := none) hr hS hE hV hl hls hst2 het hm9 hlk hc hs (vx_runI (As := acts.map (cv ad)) ⟨hx, hb, hml, hown, hts⟩ hM ⟨⟨rfl, rfl, hfr, hlo, mi_ws m1 hG.2.2.1, List.mem_singleton.mpr rfl, hts _ m1, hts _ m4, m2, mi_len m3, hts _ wl⟩, hy1, hts _ wi⟩ ⟨?_, fun U hU hW9 => ⟨rfl, hG.moved hV hU hW9, by rw [hU]; exact hS⟩⟩ rfl (by rw [List.length_map]; exact hlen) hl.1 rfl (lv_room (by rw [catL_map]; exact hW)) hd ⟨hc, hs⟩) k
  exact fun _ _ _ _ h => ⟨h.1, h.2.1.calling, h.2.2⟩
theorem g_callIN (F : Fx x cc own nm rm nL rt rty lw) (hm9 : lw < 2) {y : MethodName} {cc2 : ByteArray} {maxL2 n idx : Nat} {R2 : Room} {f : V → Res} {k9 : Int → V → Res} {stk as : List AV} {K : Nat} {b : Int} (acts : List AV) (ts : List Nat) {host : String} (wl : Cond.methodLinkNest own idx y host ∈ gtbl) (wi : Cond.instanceMethod y ∈ gtbl) (hy1 : y.name = "<init>") (hC : ∀ l, Ct l y cc2 maxL2 none R2 none ((K + 10, b) :: as) f) (hmi : MI y cc2 maxL2 none n) (h0 : 0 ≤ b) (hle : leA acts ts = some as) (hlen : acts.length = n) (hstk : acts.reverse ++ (K + 10, b) :: st = stk) (hfr : R2.frames + 1 ≤ rm.frames) (hlo : 8 + (maxL2 + 11) + R2.locals ≤ rm.locals) (hc : cells + R2.cells ≤ rm.cells) (hs : slots + R2.slots ≤ rm.slots) (hW : catL st ≤ 8) (hd : decode cc pc = .ok (.invokespecial idx, 3)) (k : ∀ z v1, f v = some (0, z, v1) → Gs x (k9 z v1) v1 (cells + R2.cells) (slots + R2.slots) (pc + 3) ls (st)) : Gs x (rB (f v) k9) v cells slots pc ls stk := by
  obtain ⟨⟨p, l, e, R, s, m⟩, ⟨args, below, meth, c⟩, ⟨nL', D, B, ad0, v0, rt', lw'⟩⟩ := x
  intro hr ad H locs lsA hS hE hV hl hls hst
  obtain ⟨hx, hb, hown, hR, hml, hnL, hrt, hret, hnm, hlk, het, hG⟩ := id F
  subst hR
  subst hnL
  subst hstk
  have hts : ∀ w ∈ gtbl, w.before args s = true := fun w hw => hG.2.2.1 w hw args
  obtain ⟨m1, m2, m3, m4⟩ := hmi
  obtain ⟨l1, l2⟩ := leA_spec (v := v) (ad := ad) hle
  have hf9 : f v ≠ none := fun q => hr (by rw [q]; rfl)
  have ob := hst (K + 10, b) (by simp)
  have hst2 : ∀ a ∈ st, okv v a := fun a ha => hst a (by simp [ha])
  have hac : ∀ a ∈ acts, okv v a := fun a ha => hst a (by simp [ha])
  have hM := hC l D B ad v (ok_c ob (l2 hac)) hf9
  rw [List.map_cons, cv_pos h0, l1] at hM
  rw [List.map_append, List.map_cons, cv_pos h0, List.map_reverse]
  refine g_back (rt2 := none) hr hS hE hV hl hls hst2 het hm9 hlk hc hs (vx_runIN (As := acts.map (cv ad)) ⟨hx, hb, hml, hown, hts⟩ hM ⟨⟨⟨rfl, rfl, hfr, hlo, mi_ws m1 hG.2.2.1, List.mem_singleton.mpr rfl⟩, hts _ m1, hts _ m4, m2, mi_len m3, hts _ wl⟩, hy1, hts _ wi⟩ ⟨?_, fun U hU hW9 => ⟨rfl, hG.moved hV hU hW9, by rw [hU]; exact hS⟩⟩ rfl (by rw [List.length_map]; exact hlen) hl.1 rfl (lv_room (by rw [catL_map]; exact hW)) hd ⟨hc, hs⟩) k
  exact fun _ _ _ _ h => ⟨h.1, h.2.1.calling, h.2.2⟩
theorem g_callS (F : Fx x cc own nm rm nL rt rty lw) (hm9 : lw < 2) {y : MethodName} {cc2 : ByteArray} {maxL2 n idx : Nat} {rty2 : Option FieldType} {R2 : Room} {rt2 : Option Nat} {f : V → Res} {k9 : Int → V → Res} {stk as : List AV} (acts : List AV) (ts : List Nat) (wl : Cond.methodLink own idx y ∈ gtbl) (wi : Cond.static y ∈ gtbl) (hC : ∀ l, Ct l y cc2 maxL2 rty2 R2 rt2 as f) (hmi : MI y cc2 maxL2 rty2 n) (hle : leA acts ts = some as) (hlen : acts.length = n) (hstk : acts.reverse ++ st = stk) (hfr : R2.frames + 1 ≤ rm.frames) (hlo : 8 + (maxL2 + 11) + R2.locals ≤ rm.locals) (hc : cells + R2.cells ≤ rm.cells) (hs : slots + R2.slots ≤ rm.slots) (hW : catL st ≤ 8) (hd : decode cc pc = .ok (.invokestatic idx, 3)) (k : ∀ z v1, f v = some (0, z, v1) → Gs x (k9 z v1) v1 (cells + R2.cells) (slots + R2.slots) (pc + 3) ls (pushR rt2 z st)) : Gs x (rB (f v) k9) v cells slots pc ls stk := by
  obtain ⟨⟨p, l, e, R, s, m⟩, ⟨args, below, meth, c⟩, ⟨nL', D, B, ad0, v0, rt', lw'⟩⟩ := x
  intro hr ad H locs lsA hS hE hV hl hls hst
  obtain ⟨hx, hb, hown, hR, hml, hnL, hrt, hret, hnm, hlk, het, hG⟩ := id F
  subst hR
  subst hnL
  subst hstk
  have hts : ∀ w ∈ gtbl, w.before args s = true := fun w hw => hG.2.2.1 w hw args
  obtain ⟨m1, m2, m3, m4⟩ := hmi
  obtain ⟨l1, l2⟩ := leA_spec (v := v) (ad := ad) hle
  have hf9 : f v ≠ none := fun q => hr (by rw [q]; rfl)
  have hst2 : ∀ a ∈ st, okv v a := fun a ha => hst a (by simp [ha])
  have hac : ∀ a ∈ acts, okv v a := fun a ha => hst a (by simp [ha])
  have hM := hC l D B ad v (l2 hac) hf9
  rw [l1] at hM
  rw [List.map_append, List.map_reverse]
  refine g_back hr hS hE hV hl hls hst2 het hm9 hlk hc hs (vx_runS (As := acts.map (cv ad)) ⟨hx, hb, hml, hown, hts⟩ hM ⟨⟨rfl, rfl, hfr, hlo, mi_ws m1 hG.2.2.1, List.mem_singleton.mpr rfl, hts _ m1, hts _ m4, m2, mi_len m3, hts _ wl⟩, hts _ wi⟩ ⟨?_, fun U hU hW9 => ⟨rfl, hG.moved hV hU hW9, by rw [hU]; exact hS⟩⟩ rfl (by rw [List.length_map]; exact hlen) hl.1 rfl (lv_room (by rw [catL_map]; exact hW)) hd ⟨hc, hs⟩) k
  exact fun _ _ _ _ h => ⟨h.1, h.2.1.calling, h.2.2⟩
theorem vx_ofWF {l : Launch} {y : MethodName} {ws ws' : List Cond} {rm : Room} {Pc : Array Value → State → Prop} {Qc : Array Value → State → Outcome → State → Prop} {XC : String → State → State → Prop} {mc ms : Nat} {free : Addr → Prop} {cc : ByteArray} {maxL : Nat} {ret : Option FieldType}
    (hy : plainFor y = true) (hw : ws = Cond.code y cc maxL ret :: ws')
    (body : ∀ p e s m args below meth c s₁, BodyLoose p l y (headSpec ws rm) cc maxL ret e s m args below meth c s₁ → c.maxLocals = maxL → (∀ x ∈ c.exceptionTable.toList, False) → Pc args s →
      W p l e (headSpec ws rm).room s m args below meth c s.heap [] 0 0 (vx_MQ below Qc XC args s mc ms free) (entryFrame m args maxL)) : vx_Met l y ws rm Pc Qc XC mc ms free := by
  refine MetFree.of_bodySF (code := cc) (maxLocals := maxL) (ret := ret) hy ?_ ?_
  · intro args s m h hn
    obtain ⟨meth, c, h1, h2, h3, h4, h5, h6, -, -⟩ := Cond.code_spec hn (atoms_spec (ws := ws) h _ (by rw [hw]; exact List.mem_cons_self))
    exact ⟨meth, c, h1, h2, h3, h4, h5, h6⟩
  · intro p e s m args below meth c s₁ B hml hP _
    have hh0 : s₁.heap = s.heap := by rw [B.state]; rfl
    have ht : ∀ x ∈ c.exceptionTable.toList, False := by
      obtain ⟨meth9, c9, h1, h2, -, -, -, -, h7, -⟩ := Cond.code_spec B.named (atoms_spec (ws := ws) B.pre _ (by rw [hw]; exact List.mem_cons_self))
      cases Option.some.inj (h1.symm.trans B.method)
      cases Option.some.inj (h2.symm.trans (Stand.of_body B).code)
      intro x hx
      rw [Array.isEmpty_iff.mp h7] at hx
      cases hx
    obtain ⟨t, a1, o, b1, b2, b3⟩ := body p e s m args below meth c s₁ B hml ht hP s₁ hh0 (Stand.of_body B)
    exact ⟨t, o, a1, b1, b2, b3⟩
def avArgs : Nat → List AV → List (Nat × AV)
  | _, [] => []
  | i, a :: l => (i, a) :: avArgs (if a.1 = 1 then i + 2 else i + 1) l
theorem avArgs_map {ad : Ad} : ∀ (i : Nat) (as : List AV), (avArgs i as).map (clv ad) = lv_args i (as.map (cv ad))
  | _, [] => rfl
  | i, a :: l => by
    rw [List.map_cons]
    unfold avArgs lv_args
    rw [List.map_cons, avArgs_map, cat_cv]
    congr 2
    by_cases h : a.1 = 1
    · rw [if_pos h, if_pos h, if_pos rfl]
    · rw [if_neg h, if_neg h, if_neg (by decide)]
theorem avArgs_ok : ∀ (i : Nat) (as : List AV), (∀ a ∈ as, okv v a) → ∀ q ∈ avArgs i as, okv v q.2
  | _, [], _ => fun q h => by cases h
  | i, a :: l, h => List.forall_mem_cons.mpr ⟨ok_h h, avArgs_ok _ l (ok_t h)⟩
theorem sl_len {ad : Ad} : ∀ (as : List AV), (lg_sl (as.map (cv ad))).length = catL as
  | [] => rfl
  | a :: l => by
    have ih := sl_len (ad := ad) l
    unfold lg_sl at ih ⊢
    rw [List.map_cons, List.flatMap_cons, List.length_append, ih, cat_cv]
    show _ = (if a.1 = 1 then 2 else 1) + catL l
    by_cases h : a.1 = 1
    · rw [if_pos h, if_pos rfl]; rfl
    · rw [if_neg h, if_neg (by decide)]; rfl
theorem g_method {y : MethodName} {maxL : Nat} {as : List AV} {f : V → Res} (hcls : plainFor y = true) (hlen : catL as ≤ maxL) (hk : ∀ (x : Cx) (v : V), Fx x cc y.cls y.name rm maxL rt rty 0 → (∀ a ∈ as, okv v a) → Gs x (f v) v 0 0 0 (avArgs 0 as) []) : ∀ l, Ct l y cc maxL rty rm rt as f := by
  intro l D B ad v hok hf
  refine vx_ofWF (cc := cc) (maxL := maxL) (ret := rty) hcls rfl ?_
  intro p e s m args below meth c s₁ B0 hml het hv
  obtain ⟨rfl, hG, hS⟩ := hv
  have hown : s.vm.findClass y.cls = some m.cls := findClass_of_methodNamed B0.named
  have hnm : meth.name = y.name := (name_of_methodNamed B0.named B0.method).1
  have k9 := hk ((p, l, e, rm, s, m), ((as.map (cv ad)).toArray, below, meth, c), (maxL, D, B, ad, v, rt, 0)) v ⟨B0.exec, B0.bytes, hown, rfl, hml, rfl, rfl, B0.returns, hnm, B0.notSynchronized, ⟨rfl, fun _ => het, fun h => by cases h⟩, hG⟩ hok
  rw [lg_entry_eq]
  have hent := lv_entry (as.map (cv ad)) (n := maxL) (by rw [sl_len]; exact hlen)
  exact k9 hf ad s.heap [] _ hS Ext.rf va_S.rf (by rw [avArgs_map]; exact hent) (avArgs_ok 0 as hok) (fun a ha => by cases ha)
theorem g_lawret (F : Fx x cc own nm rm nL rt rty 1) (hr9 : rty = some .boolean) (hc : cells ≤ rm.cells) (hs : slots ≤ rm.slots) (hi : il t = true) (hd : decode cc pc = .ok (.ireturn, 1)) : Gs x (rOk a v) v cells slots pc ls [(t, a)] := by
  obtain ⟨⟨p, l, e, R, s, m⟩, ⟨args, below, meth, c⟩, ⟨nL', D, B, ad0, v0, rt', lw'⟩⟩ := x
  intro hr ad H locs lsA hS hE hV hl hls hst
  obtain ⟨hx, hb, hown, hR, hml, hnL, hrt, hret, hnm, hlk, het, hG⟩ := id F
  subst hR
  obtain ⟨rfl, -, hB⟩ := het
  have hB := hB rfl
  show W p l e R s m args below meth c H locs cells slots (fun t => (∃ v', rOk a v = some (0, 1, v')) → ∃ o, t.status = .running ∧ Ended t below o ∧ o = .returned (some (.int 1)) ∧ Framed s o t [] R.cells R.slots) _
  by_cases h9 : a = 1
  · subst h9
    rw [List.map_cons, List.map_nil, cv_il hi]
    refine va_forget (fun q hq => hB _ (hV.2.2 q hq)) (W.widen (k := R.cells) (n := R.slots) hc hs ?_)
    intro T hT X
    obtain ⟨fs, hret2, hrun, hended, hW, hframe⟩ := X.leave (v := some (.int 1)) (hlocks := hlk) (fun h => by rw [hret, hr9] at h; cases h)
    have hmeth' : T.vm.method? m = some meth := X.method'
    refine ⟨T.setFrames fs, ?_, fun _ => ⟨.returned (some (.int 1)), hrun, hended, rfl, ⟨_, rfl⟩, hW, hframe⟩⟩
    have e1 : Int32.ofInt 1 = 1 := rfl
    jvm_step X.here [X.here.top, hx, hb, hd, hmeth', hret, hr9, e1, narrow_b1]
    (try refine ⟨rfl, ?_⟩); (try refine ⟨rfl, ?_⟩)
    first | (intro acts; rw [hret2 _ acts rfl rfl rfl]) | rw [hret2 _ _ rfl rfl rfl]
    exact Steps.refl _
  · intro T hT X
    exact ⟨_, Steps.refl _, fun h => by
      obtain ⟨v', h⟩ := h
      cases h
      exact absurd rfl h9⟩
end Core5

/-! CORE 7: a call under a table; a method with a table; the call of such a method -/
section Core7
variable {x : Cx} {cc : ByteArray} {own nm : String} {rm : Room} {nL : Nat} {rt : Option Nat} {rty : Option FieldType} {lw : Nat} {r r1 r2 : Res} {v : V} {cells slots pc tgt : Nat} {ls ls' : List (Nat × AV)} {st : List AV} {t t1 t2 : Nat} {a b i z : Int} {ty : FieldType} {hh : List (Nat × Nat × Nat × Nat)} {xs : List Nat}
def rBx (r : Res) (k : Int → V → Res) (kx : Nat → V → Res) : Res := match r with
  | none => none
  | some (0, a, v) => k a v
  | some (e + 1, _, v) => kx e v
/-- what irem leaves -/
def rem32 (a b : Int) : Int := w32 (a - w32 (w32 (a.tdiv b) * b))
theorem g_irem (F : Fx x cc own nm rm nL rt rty lw) (hne : ¬ b = 0) (h1 : il t1 = true) (h2 : il t2 = true) (hd : decode cc pc = .ok (.irem, 1)) (k : Gs x r v cells slots (pc + 1) ls ((0, rem32 a b) :: st)) : Gs x r v cells slots pc ls ((t2, b) :: (t1, a) :: st) := by
  obtain ⟨⟨p, l, e, R, s, m⟩, ⟨args, below, meth, c⟩, ⟨nL', D, B, ad0, v0, rt', lw'⟩⟩ := x
  intro hr ad H locs lsA hS hE hV hl hls hst
  obtain ⟨hx, hb, hown, hR, hml, hnL, hrt, hret, hnm, hlk, het, hG⟩ := id F
  have kk := k hr ad H locs lsA hS hE hV hl hls (ok_c (okv_0.mpr (w32_r _)) (ok_t (ok_t hst)))
  have ra := okv_il h1 (ok_h (ok_t hst))
  have rb := okv_il h2 (ok_h hst)
  rw [List.map_cons, List.map_cons, cv_il h1, cv_il h2]
  refine lv_irem hx hb hd (fun q => hne ((I_eq rb (R32_lit 0 (by decide))).mp q)) ?_
  rw [I_div ra rb, I_mul, I_sub]
  exact kk
/-- more room used than was -/
theorem g_wide {c2 s2 : Nat} (h1 : cells ≤ c2) (h2 : slots ≤ s2) (k : Gs x r v c2 s2 pc ls st) : Gs x r v cells slots pc ls st := by
  obtain ⟨⟨p, l, e, R, s, m⟩, ⟨args, below, meth, c⟩, ⟨nL', D, B, ad0, v0, rt', lw'⟩⟩ := x
  intro hr ad H locs lsA hS hE hV hl hls hst
  exact W.widen h1 h2 (k hr ad H locs lsA hS hE hV hl hls hst)
/-- what the handlers answer: one number -/
def kxC (z : Int) (l : List Nat) (e : Nat) (v : V) : Res := if e ∈ l then rOk z v else none
theorem kxC_spec {z : Int} {l : List Nat} {e : Nat} {v : V} (h : kxC z l e v ≠ none) : ∃ j : Nat, l[j]? = some e ∧ kxC z l e v = rOk z v := by
  unfold kxC at h ⊢
  split
  · rename_i he
    obtain ⟨j, hj⟩ := List.mem_iff_getElem?.mp he
    exact ⟨j, hj, rfl⟩
  · rename_i he
    rw [if_neg he] at h
    exact absurd rfl h
/-- the code of a handler: keep the exception, answer a number of the pool -/
def HC (own : String) (cc : ByteArray) (hp : Nat) (z : Int) (nL : Nat) : Prop := okc 0 z = true ∧ ∃ k i, k < nL ∧ decode cc hp = .ok (.astore k, 2) ∧ decode cc (hp + 2) = .ok (.ldc i, 2) ∧ decode cc (hp + 4) = .ok (.ireturn, 1) ∧ Cond.constant own i (Int32.ofInt z) ∈ gtbl
def HX (own : String) (cc : ByteArray) (nL pc : Nat) (z : Int) (hh : List (Nat × Nat × Nat × Nat)) (xs : List Nat) : Prop := ∀ (j : Nat) (e : Nat), xs[j]? = some e → ∃ q : Nat × Nat × Nat × Nat, hh[j]? = some q ∧ covers ⟨q.1, q.2.1, q.2.2.1, q.2.2.2⟩ pc = true ∧ q.2.2.2 ≠ 0 ∧ Cond.classLink own q.2.2.2 (exN e) ∈ gtbl ∧ Cond.castable (exN e) (exN e) ∈ gtbl ∧ (∀ z ∈ hh.take j, z.2.2.2 ≠ 0 ∧ ∃ n9, Cond.classLink own z.2.2.2 n9 ∈ gtbl ∧ (exN e, n9) ∈ ncL) ∧ HC own cc q.2.2.1 z nL
def Tb (x : Cx) (hh : List (Nat × Nat × Nat × Nat)) : Prop := match x with
  | ((p, l, e, R, s, m), (args, below, meth, c), q) => c.exceptionTable.toList = tableOf hh
theorem tb_split {hh : List (Nat × Nat × Nat × Nat)} {j : Nat} {q : Nat × Nat × Nat × Nat} (h : hh[j]? = some q) : tableOf hh = (hh.take j).map (fun q => ⟨q.1, q.2.1, q.2.2.1, q.2.2.2⟩) ++ ⟨q.1, q.2.1, q.2.2.1, q.2.2.2⟩ :: (hh.drop (j + 1)).map (fun q => ⟨q.1, q.2.1, q.2.2.1, q.2.2.2⟩) := by
  have h2 : hh = hh.take j ++ q :: hh.drop (j + 1) := by
    obtain ⟨h3, h4⟩ := List.getElem?_eq_some_iff.mp h
    rw [← h4, List.getElem_cons_drop, List.take_append_drop]
  unfold tableOf
  conv => lhs; rw [h2]
  rw [List.map_append, List.map_cons]
theorem g_backX {p : Program} {l : Launch} {e : Env} {R : Room} {s : State} {m : MethodId} {args : Array Value} {below : List Frame} {meth : Method} {c : Code} {nL' : Nat} {D : va_G} {B : Nat → Prop} {ad0 ad : Ad} {v0 : V} {rt' rt2 : Option Nat} {lw' : Nat} {f : V → Res} {k9 : Int → V → Res} {H : Heap} {locs : List Loc} {lsA : Array Slot} {stk' : List Value} {mc ms : Nat} {Aa : Array Value} {z9 : Int}
    (F : Fx ((p, l, e, R, s, m), (args, below, meth, c), (nL', D, B, ad0, v0, rt', lw')) cc own nm rm nL (some 0) (some .int) 2) (hTb : c.exceptionTable.toList = tableOf hh) (hHX : HX own cc nL pc z9 hh xs)
    (hr : rBx (f v) k9 (kxC z9 xs) ≠ none) (hS : Sto D B ad v H) (hE : Ext v0 ad0 v ad) (hV : va_S (fun q => B q) s.heap H locs) (hl : lv_has lsA nL' (ls.map (clv ad))) (hls : ∀ q ∈ ls, okv v q.2) (hst : ∀ a ∈ st, okv v a)
    (hc : cells + mc ≤ R.cells) (hs : slots + ms ≤ R.slots)
    (hrun : vx_Run p l e R s m args below meth c H locs cells slots mc ms (F0 m pc lsA stk') (st.map (cv ad)) (PostC D B ad v rt2 (f v) Aa) (PostX D B ad v (f v)) (fun q => B q))
    (k : ∀ z v1, f v = some (0, z, v1) → Gs ((p, l, e, R, s, m), (args, below, meth, c), (nL', D, B, ad0, v0, rt', lw')) (k9 z v1) v1 (cells + mc) (slots + ms) (pc + 3) ls (pushR rt2 z st)) :
    W p l e R s m args below meth c H locs cells slots (Qx below D B ad0 v0 rt' lw' (rBx (f v) k9 (kxC z9 xs)) args s R) (F0 m pc lsA stk') := by
  have kx : ∀ (v1 : V) (pc9 i9 : Nat), okc 0 z9 = true → decode cc pc9 = .ok (.ldc i9, 2) → decode cc (pc9 + 2) = .ok (.ireturn, 1) → Cond.constant own i9 (Int32.ofInt z9) ∈ gtbl → Gs ((p, l, e, R, s, m), (args, below, meth, c), (nL', D, B, ad0, v0, rt', lw')) (rOk z9 v1) v1 (cells + mc) (slots + ms) pc9 [] [] := fun v1 pc9 i9 q1 q2 q3 q4 =>
    g_ldc F q1 q4 q2 (g_ireturn F rfl rfl rfl rfl (by obtain ⟨-, -, -, hR, -⟩ := id F; rw [← hR]; exact hc) (by obtain ⟨-, -, -, hR, -⟩ := id F; rw [← hR]; exact hs) q3)
  obtain ⟨hx, hb, hown, hR, hml, hnL, hrt, hret, hnm, hlk, het, hG⟩ := id F
  subst hR
  subst hnL
  have hts : ∀ w ∈ gtbl, w.before args s = true := fun w hw => hG.2.2.1 w hw args
  intro T hT X
  rcases hrun T hT X with ⟨vv, st₀, t, T', L, h0, X', hL, e1, e2, ⟨z, v1, ad1, c1, c2, c3, c4, c5, c6⟩, hgo⟩ | ⟨q, st₀, t, T', L, E, ce, h0, X', hL, e1, e2, ⟨ee, v1, ad1, c1, c2, c4, c5, c6⟩, hce, hcv, hcl9, hgo⟩
  · have e9 : rBx (f v) k9 (kxC z9 xs) = k9 z v1 := by rw [c1]; rfl
    rw [e9] at hr ⊢
    obtain ⟨-, -, y3⟩ := vx_keep h0 e1 hV (A1 := fun q => B q) (fun q _ h => h) (fun q h => h) hL c6
    have hvv : vv = rt2.map fun q => cv ad1 (q, z) := by injection c2
    subst hvv
    have k2 := k z v1 c1 hr ad1 T'.heap (locs ++ L) lsA (by rw [e1]; exact c5) (hE.tr c4) y3 (by rw [ls_ext c4 hls]; exact hl) (fun q hq => ext_okv c4 (hls q hq)) (by
      cases rt2 with
      | none => exact fun a ha => ext_okv c4 (hst a ha)
      | some q => exact ok_c (c3 q rfl) (fun a ha => ext_okv c4 (hst a ha)))
    obtain ⟨t2, a1, b1⟩ := k2 T' rfl X'
    refine ⟨t2, hgo t2 ?_, b1⟩
    have e8 : (pushR rt2 z st).map (cv ad1) = (rt2.map fun q => cv ad1 (q, z)).toList ++ st.map (cv ad) := by
      cases rt2 with
      | none => exact st_ext c4 hst
      | some q =>
        show cv ad1 (q, z) :: st.map (cv ad1) = cv ad1 (q, z) :: st.map (cv ad)
        rw [st_ext c4 hst]
    rw [e8] at a1
    exact a1
  · have e9 : rBx (f v) k9 (kxC z9 xs) = kxC z9 xs ee v1 := by rw [c1]; rfl
    rw [e9] at hr ⊢
    obtain ⟨j, j1, j2⟩ := kxC_spec hr
    rw [j2]
    obtain ⟨-, -, y3⟩ := vx_keep h0 e1 hV (A1 := fun q => B q) (fun q _ h => h) (fun q h => h) hL c6
    obtain ⟨⟨q1, q2, q3, q4⟩, g1, g2, g3, g4, g5, g6, g7, g8⟩ := hHX j ee j1
    dsimp only at g2 g3 g4 g5 g6 g7 g8
    subst c2
    have hcw9 : vx_W p l e R s m args below meth c T'.heap (locs ++ L) (cells + mc) (slots + ms) (Qx below D B ad0 v0 rt' lw' (rOk z9 v1) args s R) (F0 m pc lsA (st.map (cv ad))) q := by
      refine vx_catch hown ((hh.take j).map (fun q => ⟨q.1, q.2.1, q.2.2.1, q.2.2.2⟩)) ⟨q1, q2, q3, q4⟩ ((hh.drop (j + 1)).map (fun q => ⟨q.1, q.2.1, q.2.2.1, q.2.2.2⟩)) (hTb.trans (tb_split g1)) (fun z hz => ?_) g2 g3 (hts _ g4) (hts _ g5) (by rw [e1]; exact hce) hcv hcl9 ?_
      · obtain ⟨z0, hz0, rfl⟩ := List.mem_map.mp hz
        obtain ⟨w1, n9, w2, w3⟩ := g6 z0 hz0
        exact Or.inr ⟨w1, n9, hts _ w2, hG.2.2.2.2.2.2.2.1 _ w3⟩
      · have hle9 : lv_has lsA c.maxLocals [] := ⟨by rw [hml]; exact hl.1, hl.2.1, fun q hq => by cases hq⟩
        obtain ⟨k, i9, h1, h2, h3, h4, h5⟩ := g8
        exact lv_astore (lv' := [(k, .ref q)]) hx hb h2 hle9 (by rw [hml]; exact h1) rfl (fun lsB hlB => kx v1 _ i9 g7 h3 h4 h5 (fun h => by cases h) ad1 T'.heap (locs ++ L) lsB (by rw [e1]; exact c5) (hE.tr c4) y3 (by rw [← hml]; exact ⟨hlB.1, hlB.2.1, fun q hq => by cases hq⟩) (fun q hq => by cases hq) (fun q hq => by cases hq))
    obtain ⟨t2, a1, b1⟩ := hcw9 T' rfl X'
    exact ⟨t2, hgo.trans a1, b1⟩
theorem g_callX (F : Fx x cc own nm rm nL (some 0) (some .int) 2) (hTb : Tb x hh) {z9 : Int} (hHX : HX own cc nL pc z9 hh xs) {y : MethodName} {cc2 : ByteArray} {maxL2 n idx : Nat} {rty2 : Option FieldType} {R2 : Room} {rt2 : Option Nat} {f : V → Res} {k9 : Int → V → Res} {stk as : List AV} {K : Nat} {b : Int} (acts : List AV) (ts : List Nat) (wl : Cond.methodLink own idx y ∈ gtbl) (wi : Cond.instanceMethod y ∈ gtbl) (ws : Cond.selects y.cls y y ∈ gtbl) (hC : ∀ l, Ct l y cc2 maxL2 rty2 R2 rt2 ((K + 10, b) :: as) f) (hmi : MI y cc2 maxL2 rty2 n) (hK : K < 8) (hcl : ∃ q, vwCl[K]? = some q ∧ q.1 = y.cls) (h0 : 0 ≤ b) (hle : leA acts ts = some as) (hlen : acts.length = n) (hstk : acts.reverse ++ (K + 10, b) :: st = stk) (hfr : R2.frames + 1 ≤ rm.frames) (hlo : 8 + (maxL2 + 11) + R2.locals ≤ rm.locals) (hc : cells + R2.cells ≤ rm.cells) (hs : slots + R2.slots ≤ rm.slots) (hW : catL st ≤ 8) (hd : decode cc pc = .ok (.invokevirtual idx, 3)) (k : ∀ z v1, f v = some (0, z, v1) → Gs x (k9 z v1) v1 (cells + R2.cells) (slots + R2.slots) (pc + 3) ls (pushR rt2 z st)) : Gs x (rBx (f v) k9 (kxC z9 xs)) v cells slots pc ls stk := by
  obtain ⟨⟨p, l, e, R, s, m⟩, ⟨args, below, meth, c⟩, ⟨nL', D, B, ad0, v0, rt', lw'⟩⟩ := x
  intro hr ad H locs lsA hS hE hV hl hls hst
  obtain ⟨hx, hb, hown, hR, hml, hnL, hrt, hret, hnm, hlk, het, hG⟩ := id F
  subst hR
  subst hnL
  subst hstk
  have hts : ∀ w ∈ gtbl, w.before args s = true := fun w hw => hG.2.2.1 w hw args
  obtain ⟨m1, m2, m3, m4⟩ := hmi
  obtain ⟨l1, l2⟩ := leA_spec (v := v) (ad := ad) hle
  have hf9 : f v ≠ none := fun q => hr (by rw [q]; rfl)
  have ob := hst (K + 10, b) (by simp)
  have hst2 : ∀ a ∈ st, okv v a := fun a ha => hst a (by simp [ha])
  have hac : ∀ a ∈ acts, okv v a := fun a ha => hst a (by simp [ha])
  have hM := hC l D B ad v (ok_c ob (l2 hac)) hf9
  rw [List.map_cons, cv_pos h0, l1] at hM
  rw [List.map_append, List.map_cons, cv_pos h0, List.map_reverse]
  obtain ⟨q9, hq9, hC9⟩ := hcl
  obtain ⟨g1, -, -⟩ := hS.1 K b (by omega) (al_of h0 ob)
  unfold ClAt at g1
  rw [if_pos hK] at g1
  obtain ⟨cell, q1, q2, q3, -⟩ := g1
  obtain ⟨-, hfc, -⟩ := hG.2.2.2.1.1 K q9 hq9
  have hrecv : ∃ cellB : Cell, H[ad K b]? = some cellB ∧ cellB.vm.isStatics = false ∧ s.vm.findClass y.cls = some cellB.cls := ⟨cell, q1, by rw [q3]; rfl, by rw [q2, ← hC9]; exact hfc⟩
  exact g_backX F hTb hHX hr hS hE hV hl hls hst2 hc hs (vx_runV (e := e) (below := below) (meth := meth) (cells := cells) (slots := slots) (locs := locs) (g := F0 m pc lsA ((acts.map (cv ad)).reverse ++ .ref (ad K b) :: st.map (cv ad))) (As := acts.map (cv ad)) (rest := st.map (cv ad)) (own := own) ⟨hx, hb, hml, hown, hts⟩ hM ⟨⟨rfl, rfl, hfr, hlo, mi_ws m1 hG.2.2.1, List.mem_singleton.mpr rfl, hts _ m1, hts _ m4, m2, mi_len m3, hts _ wl⟩, hts _ wi, hts _ ws⟩ ⟨fun _ _ _ _ h => ⟨h.1, h.2.1.calling, h.2.2⟩, hrecv, fun U hU hW9 => ⟨rfl, hG.moved hV hU hW9, by rw [hU]; exact hS⟩⟩ rfl (by rw [List.length_map]; exact hlen) hl.1 rfl (lv_room (by rw [catL_map]; exact hW)) hd ⟨hc, hs⟩) k
theorem g_callXS (F : Fx x cc own nm rm nL (some 0) (some .int) 2) (hTb : Tb x hh) {z9 : Int} (hHX : HX own cc nL pc z9 hh xs) {y : MethodName} {cc2 : ByteArray} {maxL2 n idx : Nat} {rty2 : Option FieldType} {R2 : Room} {rt2 : Option Nat} {f : V → Res} {k9 : Int → V → Res} {stk as : List AV} (acts : List AV) (ts : List Nat) (wl : Cond.methodLink own idx y ∈ gtbl) (wi : Cond.static y ∈ gtbl) (hC : ∀ l, Ct l y cc2 maxL2 rty2 R2 rt2 as f) (hmi : MI y cc2 maxL2 rty2 n) (hle : leA acts ts = some as) (hlen : acts.length = n) (hstk : acts.reverse ++ st = stk) (hfr : R2.frames + 1 ≤ rm.frames) (hlo : 8 + (maxL2 + 11) + R2.locals ≤ rm.locals) (hc : cells + R2.cells ≤ rm.cells) (hs : slots + R2.slots ≤ rm.slots) (hW : catL st ≤ 8) (hd : decode cc pc = .ok (.invokestatic idx, 3)) (k : ∀ z v1, f v = some (0, z, v1) → Gs x (k9 z v1) v1 (cells + R2.cells) (slots + R2.slots) (pc + 3) ls (pushR rt2 z st)) : Gs x (rBx (f v) k9 (kxC z9 xs)) v cells slots pc ls stk := by
  obtain ⟨⟨p, l, e, R, s, m⟩, ⟨args, below, meth, c⟩, ⟨nL', D, B, ad0, v0, rt', lw'⟩⟩ := x
  intro hr ad H locs lsA hS hE hV hl hls hst
  obtain ⟨hx, hb, hown, hR, hml, hnL, hrt, hret, hnm, hlk, het, hG⟩ := id F
  subst hR
  subst hnL
  subst hstk
  have hts : ∀ w ∈ gtbl, w.before args s = true := fun w hw => hG.2.2.1 w hw args
  obtain ⟨m1, m2, m3, m4⟩ := hmi
  obtain ⟨l1, l2⟩ := leA_spec (v := v) (ad := ad) hle
  have hf9 : f v ≠ none := fun q => hr (by rw [q]; rfl)
  have hst2 : ∀ a ∈ st, okv v a := fun a ha => hst a (by simp [ha])
  have hac : ∀ a ∈ acts, okv v a := fun a ha => hst a (by simp [ha])
  have hM := hC l D B ad v (l2 hac) hf9
  rw [l1] at hM
  rw [List.map_append, List.map_reverse]
  exact g_backX F hTb hHX hr hS hE hV hl hls hst2 hc hs (vx_runS (e := e) (below := below) (meth := meth) (cells := cells) (slots := slots) (locs := locs) (g := F0 m pc lsA ((acts.map (cv ad)).reverse ++ st.map (cv ad))) (As := acts.map (cv ad)) (rest := st.map (cv ad)) (own := own) ⟨hx, hb, hml, hown, hts⟩ hM ⟨⟨rfl, rfl, hfr, hlo, mi_ws m1 hG.2.2.1, List.mem_singleton.mpr rfl, hts _ m1, hts _ m4, m2, mi_len m3, hts _ wl⟩, hts _ wi⟩ ⟨fun _ _ _ _ h => ⟨h.1, h.2.1.calling, h.2.2⟩, fun U hU hW9 => ⟨rfl, hG.moved hV hU hW9, by rw [hU]; exact hS⟩⟩ rfl (by rw [List.length_map]; exact hlen) hl.1 rfl (lv_room (by rw [catL_map]; exact hW)) hd ⟨hc, hs⟩) k
def CtW (l : Launch) (y : MethodName) (cc : ByteArray) (maxL : Nat) (rty : Option FieldType) (hh : List (Nat × Nat × Nat × Nat)) (rm : Room) (rt : Option Nat) (as : List AV) (f : V → Res) : Prop :=
  ∀ (D : va_G) (B : Nat → Prop) (ad : Ad) (v : V), (∀ a ∈ as, okv v a) → f v ≠ none → vx_Met l y [.codeWith y cc maxL rty hh] rm (va_Pc (as.map (cv ad)) (fun U => Gd l D B U ∧ Sto D B ad v U.heap)) (PostC D B ad v rt (f v)) (PostX D B ad v (f v)) rm.cells rm.slots (fun q => B q)
theorem g_methodW {y : MethodName} {maxL : Nat} {hh : List (Nat × Nat × Nat × Nat)} {as : List AV} {f : V → Res} (hcls : plainName y.cls = true) (hlen : catL as ≤ maxL) (hk : ∀ (x : Cx) (v : V), Fx x cc y.cls y.name rm maxL rt rty 2 → Tb x hh → (∀ a ∈ as, okv v a) → Gs x (f v) v 0 0 0 (avArgs 0 as) []) : ∀ l, CtW l y cc maxL rty hh rm rt as f := by
  intro l D B ad v hok hf
  refine vx_ofWH (cc := cc) (maxL := maxL) (ret := rty) (hh := hh) hcls rfl ?_
  intro p e s m args below meth c s₁ B0 hml hv
  obtain ⟨rfl, hG, hS⟩ := hv
  have hown : s.vm.findClass y.cls = some m.cls := findClass_of_methodNamed B0.named
  have hnm : meth.name = y.name := (name_of_methodNamed B0.named B0.method).1
  have htb : c.exceptionTable.toList = tableOf hh := vx_table (x := y) (hh := hh) B0 (atoms_spec (ws := [.codeWith y cc maxL rty hh]) B0.pre _ (List.mem_singleton.mpr rfl))
  have k9 := hk ((p, l, e, rm, s, m), ((as.map (cv ad)).toArray, below, meth, c), (maxL, D, B, ad, v, rt, 2)) v ⟨B0.exec, B0.bytes, hown, rfl, hml, rfl, rfl, B0.returns, hnm, B0.notSynchronized, ⟨rfl, (fun h => absurd h (by decide)), (fun h => absurd h (by decide))⟩, hG⟩ htb hok
  rw [lg_entry_eq]
  have hent := lv_entry (as.map (cv ad)) (n := maxL) (by rw [sl_len]; exact hlen)
  exact k9 hf ad s.heap [] _ hS Ext.rf va_S.rf (by rw [avArgs_map]; exact hent) (avArgs_ok 0 as hok) (fun a ha => by cases ha)
def MW (y : MethodName) (cc : ByteArray) (maxL : Nat) (rty : Option FieldType) (hh : List (Nat × Nat × Nat × Nat)) (n : Nat) : Prop := Cond.codeWith y cc maxL rty hh ∈ gtbl ∧ (y.cls ≠ "java/lang/invoke/MethodHandle" ∧ y.cls ≠ "java/lang/invoke/VarHandle") ∧ (parseMethodDescriptor y.desc).map (fun d => d.parameters.length) = some n ∧ Cond.initialized y.cls ∈ gtbl
theorem g_callSX (F : Fx x cc own nm rm nL rt rty lw) (hm9 : lw < 2) {y : MethodName} {cc2 : ByteArray} {maxL2 n idx : Nat} {rty2 : Option FieldType} {R2 : Room} {rt2 : Option Nat} {f : V → Res} {k9 : Int → V → Res} {stk as : List AV} (acts : List AV) (ts : List Nat) (wl : Cond.methodLink own idx y ∈ gtbl) (wi : Cond.static y ∈ gtbl) (hC : ∀ l, CtW l y cc2 maxL2 rty2 hh R2 rt2 as f) (hmi : MW y cc2 maxL2 rty2 hh n) (hle : leA acts ts = some as) (hlen : acts.length = n) (hstk : acts.reverse ++ st = stk) (hfr : R2.frames + 1 ≤ rm.frames) (hlo : 8 + (maxL2 + 11) + R2.locals ≤ rm.locals) (hc : cells + R2.cells ≤ rm.cells) (hs : slots + R2.slots ≤ rm.slots) (hW : catL st ≤ 8) (hd : decode cc pc = .ok (.invokestatic idx, 3)) (k : ∀ z v1, f v = some (0, z, v1) → Gs x (k9 z v1) v1 (cells + R2.cells) (slots + R2.slots) (pc + 3) ls (pushR rt2 z st)) : Gs x (rB (f v) k9) v cells slots pc ls stk := by
  obtain ⟨⟨p, l, e, R, s, m⟩, ⟨args, below, meth, c⟩, ⟨nL', D, B, ad0, v0, rt', lw'⟩⟩ := x
  intro hr ad H locs lsA hS hE hV hl hls hst
  obtain ⟨hx, hb, hown, hR, hml, hnL, hrt, hret, hnm, hlk, het, hG⟩ := id F
  subst hR
  subst hnL
  subst hstk
  have hts : ∀ w ∈ gtbl, w.before args s = true := fun w hw => hG.2.2.1 w hw args
  obtain ⟨m1, m2, m3, m4⟩ := hmi
  obtain ⟨l1, l2⟩ := leA_spec (v := v) (ad := ad) hle
  have hf9 : f v ≠ none := fun q => hr (by rw [q]; rfl)
  have hst2 : ∀ a ∈ st, okv v a := fun a ha => hst a (by simp [ha])
  have hac : ∀ a ∈ acts, okv v a := fun a ha => hst a (by simp [ha])
  have hM := hC l D B ad v (l2 hac) hf9
  rw [l1] at hM
  rw [List.map_append, List.map_reverse]
  have hws : ∀ w ∈ [Cond.codeWith y cc2 maxL2 rty2 hh], ∀ (a' : Array Value) (U : State), s.WarmedH U.vm → w.before a' U = true := fun w hw a' U hW => by
    rw [List.mem_singleton.mp hw]
    exact kw_move (List.mem_filter.mp m1).2 hW (hG.2.2.1 _ m1 #[])
  refine g_back hr hS hE hV hl hls hst2 het hm9 hlk hc hs (vx_runSX (hh := hh) (As := acts.map (cv ad)) ⟨hx, hb, hml, hown, hts⟩ hM ⟨⟨rfl, rfl, hfr, hlo, hws, List.mem_singleton.mpr rfl⟩, hts _ m1, hts _ m4, m2, mi_len m3, hts _ wl, hts _ wi⟩ ⟨?_, fun U hU hW9 => ⟨rfl, hG.moved hV hU hW9, by rw [hU]; exact hS⟩⟩ rfl (by rw [List.length_map]; exact hlen) hl.1 rfl (lv_room (by rw [catL_map]; exact hW)) hd ⟨hc, hs⟩) k
  exact fun _ _ _ _ h => ⟨h.1, h.2.1.calling, h.2.2⟩
end Core7

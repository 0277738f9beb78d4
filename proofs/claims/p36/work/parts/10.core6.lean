/-! CORE 6: the rows as the programs use them -/
section Core6
variable {x : Cx} {cc : ByteArray} {own nm : String} {rm : Room} {nL : Nat} {rt : Option Nat} {rty : Option FieldType} {lw : Nat} {r r1 r2 : Res} {v : V} {cells slots pc tgt : Nat} {ls ls' : List (Nat × AV)} {st : List AV} {t t1 t2 : Nat} {a b i z : Int}
/-- what is known of an array's kind -/
def AK (K tag : Nat) (ty : FieldType) (n : Int) : Prop := isAr K = true ∧ aty K = ty ∧ (∀ a, tg K a = tag) ∧ ((ln K : Nat) : Int) = n
theorem ak_of {K tag : Nat} {ty : FieldType} {n : Int} (h1 : isAr K = true) (h2 : aty K = ty) (h3 : (arL K arT).1 = tag) (h4 : ((ln K : Nat) : Int) = n) : AK K tag ty n := ⟨h1, h2, fun a => (tg_ar h1 a).trans h3, h4⟩
theorem h_iald (F : Fx x cc own nm rm nL rt rty lw) {K : Nat} {n : Int} (hk : AK K 0 .int n) (h0 : 0 ≤ b) (h : 0 ≤ a ∧ a < n) (h1 : il t1 = true) (hd : decode cc pc = .ok (.iaload, 1)) (kk : Gs x r v cells slots (pc + 1) ls ((0, v K b a) :: st)) : Gs x r v cells slots pc ls ((t1, a) :: (K + 10, b) :: st) :=
  g_iald F hk.1 hk.2.1 (hk.2.2.1 a) h0 (by rw [hk.2.2.2]; exact h) h1 hd kk
theorem h_lald (F : Fx x cc own nm rm nL rt rty lw) {K : Nat} {n : Int} (hk : AK K 1 .long n) (h0 : 0 ≤ b) (h : 0 ≤ a ∧ a < n) (h1 : il t1 = true) (hd : decode cc pc = .ok (.laload, 1)) (kk : Gs x r v cells slots (pc + 1) ls ((1, v K b a) :: st)) : Gs x r v cells slots pc ls ((t1, a) :: (K + 10, b) :: st) :=
  g_lald F hk.1 hk.2.1 (hk.2.2.1 a) h0 (by rw [hk.2.2.2]; exact h) h1 hd kk
theorem h_zald (F : Fx x cc own nm rm nL rt rty lw) {K : Nat} {n : Int} (hk : AK K 2 .boolean n) (h0 : 0 ≤ b) (h : 0 ≤ a ∧ a < n) (h1 : il t1 = true) (hd : decode cc pc = .ok (.baload, 1)) (kk : Gs x r v cells slots (pc + 1) ls ((2, v K b a) :: st)) : Gs x r v cells slots pc ls ((t1, a) :: (K + 10, b) :: st) :=
  g_zald F hk.1 hk.2.1 (hk.2.2.1 a) h0 (by rw [hk.2.2.2]; exact h) h1 hd kk
theorem h_aald (F : Fx x cc own nm rm nL rt rty lw) {K tag : Nat} {C : String} {n : Int} (hk : AK K tag (.object C) n) (h0 : 0 ≤ b) (h : 0 ≤ a ∧ a < n) (h1 : il t1 = true) (hd : decode cc pc = .ok (.aaload, 1)) (kk : Gs x r v cells slots (pc + 1) ls ((tag, v K b a) :: st)) : Gs x r v cells slots pc ls ((t1, a) :: (K + 10, b) :: st) :=
  g_aald F hk.1 (by rw [hk.2.1]; rfl) (hk.2.2.1 a) h0 (by rw [hk.2.2.2]; exact h) h1 hd kk
theorem h_iast (F : Fx x cc own nm rm nL rt rty lw) {k9 : V → Res} {K : Nat} {n : Int} (hk : AK K 0 .int n) (ht : tle t 0 = true) (h0 : 0 ≤ b) (h : 0 ≤ a ∧ a < n) (h1 : il t1 = true) (hd : decode cc pc = .ok (.iastore, 1)) (kk : ∀ v1, Gs x (k9 v1) v1 cells slots (pc + 1) ls st) : Gs x (rLet (up v K b a z) k9) v cells slots pc ls ((t, z) :: (t1, a) :: (K + 10, b) :: st) :=
  g_iast F hk.1 hk.2.1 (hk.2.2.1 a) (by rw [hk.2.2.1 a]; exact ht) h0 (by rw [hk.2.2.2]; exact h) h1 hd (kk _)
theorem h_last (F : Fx x cc own nm rm nL rt rty lw) {k9 : V → Res} {K : Nat} {n : Int} (hk : AK K 1 .long n) (ht : tle t 1 = true) (h0 : 0 ≤ b) (h : 0 ≤ a ∧ a < n) (h1 : il t1 = true) (hd : decode cc pc = .ok (.lastore, 1)) (kk : ∀ v1, Gs x (k9 v1) v1 cells slots (pc + 1) ls st) : Gs x (rLet (up v K b a z) k9) v cells slots pc ls ((t, z) :: (t1, a) :: (K + 10, b) :: st) :=
  g_last F hk.1 hk.2.1 (hk.2.2.1 a) (by rw [hk.2.2.1 a]; exact ht) h0 (by rw [hk.2.2.2]; exact h) h1 hd (kk _)
theorem h_zast (F : Fx x cc own nm rm nL rt rty lw) {k9 : V → Res} {K : Nat} {n : Int} (hk : AK K 2 .boolean n) (ht : tle t 2 = true) (h0 : 0 ≤ b) (h : 0 ≤ a ∧ a < n) (h1 : il t1 = true) (hd : decode cc pc = .ok (.bastore, 1)) (kk : ∀ v1, Gs x (k9 v1) v1 cells slots (pc + 1) ls st) : Gs x (rLet (up v K b a z) k9) v cells slots pc ls ((t, z) :: (t1, a) :: (K + 10, b) :: st) :=
  g_zast F hk.1 hk.2.1 (hk.2.2.1 a) (by rw [hk.2.2.1 a]; exact ht) h0 (by rw [hk.2.2.2]; exact h) h1 hd (kk _)
theorem h_aast (F : Fx x cc own nm rm nL rt rty lw) {k9 : V → Res} {K K2 : Nat} {n : Int} (hk : AK K (K2 + 10) (.object ((vwCl[K2]?).getD ("", fun _ => ("", "", "", false), 0)).1) n) (hK2 : K2 < 8) (h0 : 0 ≤ b) (h : 0 ≤ a ∧ a < n) (hz0 : 0 ≤ z) (h1 : il t1 = true) (hd : decode cc pc = .ok (.aastore, 1)) (kk : ∀ v1, Gs x (k9 v1) v1 cells slots (pc + 1) ls st) : Gs x (rLet (up v K b a z) k9) v cells slots pc ls ((K2 + 10, z) :: (t1, a) :: (K + 10, b) :: st) :=
  g_aast F hk.1 hK2 hk.2.1 (hk.2.2.1 a) h0 (by rw [hk.2.2.2]; exact h) hz0 h1 hd (kk _)
theorem h_put (F : Fx x cc own nm rm nL rt rty lw) {k9 : V → Res} {idx K k : Nat} {sI : Int} (hf : FL own idx K k) (hp : FP own nm K k) (ht : tle t (tg K sI) = true) (hs : ((k : Nat) : Int) = sI) (h : 0 ≤ i) (hd : decode cc pc = .ok (.putfield idx, 3)) (kk : ∀ v1, Gs x (k9 v1) v1 cells slots (pc + 3) ls st) : Gs x (rLet (up v K i sI z) k9) v cells slots pc ls ((t, z) :: (K + 10, i) :: st) := g_put F hf hp ht hs h hd (kk _)
theorem h_new (F : Fx x cc own nm rm nL rt rty lw) {k9 : V → Res} {idx K n : Nat} {Kz : Int} (i : Int) (hf : FN own idx K) (hn : ln K = n) (hKz : ((K : Nat) : Int) = Kz) (h : 0 ≤ i ∧ ¬ v 99 Kz i = 1) (hc : cells + 1 ≤ rm.cells) (hs : slots + n ≤ rm.slots) (hd : decode cc pc = .ok (.new idx, 3)) (kk : ∀ v1, Gs x (k9 v1) v1 (cells + 1) (slots + n) (pc + 3) ls ((K + 10, i) :: st)) : Gs x (rLet (nw v K i) k9) v cells slots pc ls st := g_new F i hf hn (by rw [hKz]; exact h) hc hs hd (kk _)
theorem h_newa (F : Fx x cc own nm rm nL rt rty lw) {k9 : V → Res} {K n tag : Nat} {ty : FieldType} {nI Kz : Int} {atype : ArrayType} (i : Int) (hk : AK K tag ty nI) (hty : newarray.typeOf atype = ty) (hok : tyOK tag ty = true) (hw : Cond.arrayClass ty ∈ gtbl) (hn : ((n : Nat) : Int) = nI) (hb9 : n * componentBytes ty ≤ 536870912) (hKz : ((K : Nat) : Int) = Kz) (h : 0 ≤ i ∧ ¬ v 99 Kz i = 1) (h1 : il t1 = true) (hc : cells + 1 ≤ rm.cells) (hs : slots + n ≤ rm.slots) (hd : decode cc pc = .ok (.newarray atype, 2)) (kk : ∀ v1, Gs x (k9 v1) v1 (cells + 1) (slots + n) (pc + 2) ls ((K + 10, i) :: st)) : Gs x (rLet (nw v K i) k9) v cells slots pc ls ((t1, nI) :: st) := by
  obtain ⟨k1, k2, k3, k4⟩ := hk
  subst hn
  subst k2
  have e : ln K = n := by omega
  have e2 : (arL K arT).1 = tag := by have := k3 0; rw [tg_ar k1] at this; exact this
  exact g_newa F i k1 hty (by rw [e2]; exact hok) hw e hb9 (by rw [hKz]; exact h) h1 hc hs hd (kk _)
theorem h_anewa (F : Fx x cc own nm rm nL rt rty lw) {k9 : V → Res} {idx K n tag : Nat} {C : String} {nI Kz : Int} (i : Int) (hk : AK K tag (.object C) nI) (hok : tyOK tag (.object C) = true) (hw : Cond.classLink own idx C ∈ gtbl) (hC : C ∈ aoL) (hn : ((n : Nat) : Int) = nI) (hb9 : n * 4 ≤ 536870912) (hKz : ((K : Nat) : Int) = Kz) (h : 0 ≤ i ∧ ¬ v 99 Kz i = 1) (h1 : il t1 = true) (hc : cells + 1 ≤ rm.cells) (hs : slots + n ≤ rm.slots) (hd : decode cc pc = .ok (.anewarray idx, 3)) (kk : ∀ v1, Gs x (k9 v1) v1 (cells + 1) (slots + n) (pc + 3) ls ((K + 10, i) :: st)) : Gs x (rLet (nw v K i) k9) v cells slots pc ls ((t1, nI) :: st) := by
  obtain ⟨k1, k2, k3, k4⟩ := hk
  subst hn
  have e : ln K = n := by omega
  have e2 : (arL K arT).1 = tag := by have := k3 0; rw [tg_ar k1] at this; exact this
  exact g_anewa F i k1 k2 (by rw [e2, k2]; exact hok) hw hC e hb9 (by rw [hKz]; exact h) h1 hc hs hd (kk _)
/-- a note in kind 98 -/
theorem h_note (F : Fx x cc own nm rm nL rt rty lw) {k9 : V → Res} {j : Int} (kk : ∀ v1, Gs x (k9 v1) v1 cells slots pc ls st) : Gs x (rLet (up v 98 i j z) k9) v cells slots pc ls st := by
  have k := kk (up v 98 i j z)
  obtain ⟨⟨p, l, e, R, s, m⟩, ⟨args, below, meth, c⟩, ⟨nL', D, B, ad0, v0, rt', lw'⟩⟩ := x
  intro hr ad H locs lsA hS hE hV hl hls hst
  have h99 : (98 : Nat) ≠ 99 := by decide
  have al : ∀ {K : Nat} {i' : Int}, up v 98 i j z 99 (K : Int) i' = 1 → v 99 (K : Int) i' = 1 := fun q => by rwa [up_99 h99] at q
  have e1 : ∀ {K : Nat} {i' j' : Int}, K < 98 → up v 98 i j z K i' j' = v K i' j' := fun hK => by unfold up; rw [if_neg (by omega)]
  refine k hr ad H locs lsA ⟨fun K i' hK hi => ?_, fun K1 K2 i1 i2 h1 h2 h3 h4 h5 => hS.2 K1 K2 i1 i2 h1 h2 (al h3) (al h4) h5⟩ (ext_up hE h99) hV hl (fun q hq => (okv_up h99).mpr (hls q hq)) (fun a ha => (okv_up h99).mpr (hst a ha))
  obtain ⟨y1, y2, y3⟩ := hS.1 K i' hK (al hi)
  exact ⟨y1.kept rfl (fun q _ => by rw [e1 hK]), y2, fun q hq => by rw [okv_up h99, e1 hK]; exact y3 q hq⟩
end Core6
/-! a throw, the text by a wide index -/
section Core6b
variable {x : Cx} {cc : ByteArray} {own nm : String} {rm : Room} {nL : Nat} {rt : Option Nat} {rty : Option FieldType} {lw : Nat} {r : Res} {v : V} {cells slots pc : Nat} {ls : List (Nat × AV)} {st : List AV}
theorem g_throwW (F : Fx x cc own nm rm nL rt rty 0) {text : String} {ik is ic e9 : Nat} (hT : TH own text ik is ic e9) (hf : 5 < rm.frames) (hl9 : catL st + 82 ≤ rm.locals) (hc : cells + 1 ≤ rm.cells) (hs : slots + 6 ≤ rm.slots)
    (d0 : decode cc pc = .ok (.new ik, 3)) (d3 : decode cc (pc + 3) = .ok (.dup, 1)) (d4 : decode cc (pc + 4) = .ok (.ldc_w is, 3)) (d6 : decode cc (pc + 7) = .ok (.invokespecial ic, 3)) (d9 : decode cc (pc + 10) = .ok (.athrow, 1)) : Gs x (rEx e9 v) v cells slots pc ls st := by
  obtain ⟨⟨p, l, e, R, s, m⟩, ⟨args, below, meth, c⟩, ⟨nL', D, B, ad0, v0, rt', lw'⟩⟩ := x
  intro hr ad H locs lsA hS hE hV hl hls hst
  obtain ⟨hx, hb, hown, hR, hml, hnL, hrt, hret, hnm, hlk, het, hG⟩ := id F
  subst hR
  obtain ⟨t1, t2, t3, t4, t5, t6⟩ := hT
  obtain ⟨g1, g2, g3, g4, g5, g6, g7, g8, g9, g10⟩ := hG
  obtain ⟨sa, hsa⟩ := g6 _ t4
  subst hnL
  obtain ⟨rfl, het, -⟩ := het
  have het := het rfl
  show W p l e R s m args below meth c H locs cells slots (vx_MQ below _ _ args s R.cells R.slots _) _
  exact vx_throwSW hx hb g1 hown t1 (names := exNs) (by decide +kernel) (g3 _ t2 _) (g3 _ t3 _) hsa (fun w hw => g3 w (t5 w hw) _) t6 g9 g10 hV (hl.1.trans hml.symm) d0 d3 d4 d6 d9 (fun x hx => (het x hx).elim) hf (by rw [catL_map]; exact hl9) hc hs hlk
    (fun t _ h1 h2 => ⟨e9, v, ad, rfl, rfl, hE, hS.kept h2, Nat.le_trans hV.1 h1, fun q q1 q2 => (h2 q (Nat.lt_of_lt_of_le q1 hV.1)).trans (hV.2.1 q q1 q2)⟩) hV.2.2 hc hs
end Core6b

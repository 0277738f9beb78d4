/-! CORE 4: instructions over the heap -/
def tyOK (t : Nat) (ty : FieldType) : Bool := match ty with
  | .int => t == 0
  | .long => t == 1
  | .boolean => t == 2
  | .object _ => decide (10 ≤ t)
  | .array _ => decide (10 ≤ t)
  | _ => false
theorem and1 {z : Int} (h : z = 0 ∨ z = 1) : Int32.ofInt z &&& 1 = Int32.ofInt z := by rcases h with rfl | rfl <;> decide
theorem ty_narrow {v : V} {ad : Ad} {t : Nat} {z : Int} {ty : FieldType} (h : tyOK t ty = true) (ho : okv v (t, z)) : narrow ty (cv ad (t, z)) = cv ad (t, z) := by
  unfold tyOK at h
  split at h
  · simp only [beq_iff_eq] at h
    subst h
    rfl
  · simp only [beq_iff_eq] at h
    subst h
    rfl
  · simp only [beq_iff_eq] at h
    subst h
    show Value.int (Int32.ofInt z &&& 1) = Value.int (Int32.ofInt z)
    rw [and1 (okv_2.mp ho)]
  · simp only [decide_eq_true_eq] at h
    obtain ⟨K, rfl⟩ : ∃ K, t = K + 10 := ⟨t - 10, by omega⟩
    rw [cv_ref]
    split <;> rfl
  · simp only [decide_eq_true_eq] at h
    obtain ⟨K, rfl⟩ : ∃ K, t = K + 10 := ⟨t - 10, by omega⟩
    rw [cv_ref]
    split <;> rfl
  · cases h
theorem ty_fits {v : V} {ad : Ad} {t : Nat} {z : Int} {ty : FieldType} (h : tyOK t ty = true) (ho : okv v (t, z)) : fits ty (cv ad (t, z)) = true := by
  unfold tyOK at h
  split at h
  · simp only [beq_iff_eq] at h
    subst h
    rfl
  · simp only [beq_iff_eq] at h
    subst h
    rfl
  · simp only [beq_iff_eq] at h
    subst h
    rcases okv_2.mp ho with rfl | rfl <;> rfl
  · simp only [decide_eq_true_eq] at h
    obtain ⟨K, rfl⟩ : ∃ K, t = K + 10 := ⟨t - 10, by omega⟩
    rw [cv_ref]
    split <;> rfl
  · simp only [decide_eq_true_eq] at h
    obtain ⟨K, rfl⟩ : ∃ K, t = K + 10 := ⟨t - 10, by omega⟩
    rw [cv_ref]
    split <;> rfl
  · cases h
theorem ty_def {ad : Ad} {K : Nat} {j : Int} {ty : FieldType} (h : tyOK (tg K j) ty = true) : cv ad (tg K j, df K j) = defaultValue ty := by
  unfold df
  generalize tg K j = t at h
  unfold tyOK at h
  split at h
  · simp only [beq_iff_eq] at h
    subst h
    rfl
  · simp only [beq_iff_eq] at h
    subst h
    rfl
  · simp only [beq_iff_eq] at h
    subst h
    rfl
  · simp only [decide_eq_true_eq] at h
    rw [if_neg (by omega)]
    obtain ⟨K, rfl⟩ : ∃ K, t = K + 10 := ⟨t - 10, by omega⟩
    rw [cv_ref]
    rfl
  · simp only [decide_eq_true_eq] at h
    rw [if_neg (by omega)]
    obtain ⟨K, rfl⟩ : ∃ K, t = K + 10 := ⟨t - 10, by omega⟩
    rw [cv_ref]
    rfl
  · cases h
def clOk (K : Nat) : Bool := match vwCl[K]? with
  | some q => q.2.2 == ln K && ((List.range q.2.2).all (fun k => match parseFieldDescriptor (q.2.1 k).2.2.1 with
      | some ty => tyOK (tg K (k : Int)) ty
      | none => false) && (List.range q.2.2).all (fun a => (List.range q.2.2).all (fun b => a == b || (q.2.1 a).2.1 != (q.2.1 b).2.1)) && (u_ws q.1 q.2.1 q.2.2).all (fun w => decide (w ∈ gtbl)))
  | none => false
theorem cl_ok0 : clOk 0 = true := by decide +kernel
theorem cl_ok1 : clOk 1 = true := by decide +kernel
theorem cl_ok2 : clOk 2 = true := by decide +kernel
theorem cl_ok3 : clOk 3 = true := by decide +kernel
theorem cl_ok4 : clOk 4 = true := by decide +kernel
theorem cl_ok5 : clOk 5 = true := by decide +kernel
theorem cl_ok6 : clOk 6 = true := by decide +kernel
theorem cl_ok7 : clOk 7 = true := by decide +kernel
theorem cl_ok {K : Nat} (h : K < 8) : clOk K = true := by
  rcases (show K = 0 ∨ K = 1 ∨ K = 2 ∨ K = 3 ∨ K = 4 ∨ K = 5 ∨ K = 6 ∨ K = 7 by omega) with rfl | rfl | rfl | rfl | rfl | rfl | rfl | rfl
  · exact cl_ok0
  · exact cl_ok1
  · exact cl_ok2
  · exact cl_ok3
  · exact cl_ok4
  · exact cl_ok5
  · exact cl_ok6
  · exact cl_ok7
theorem cl_spec {K : Nat} {q : vw_C} (hK : K < 8) (hq : vwCl[K]? = some q) : q.2.2 = ln K ∧ (∀ k, k < q.2.2 → ∃ ty, parseFieldDescriptor (q.2.1 k).2.2.1 = some ty ∧ tyOK (tg K (k : Int)) ty = true) ∧ (∀ a, a < q.2.2 → ∀ b, b < q.2.2 → a ≠ b → (q.2.1 a).2.1 ≠ (q.2.1 b).2.1) ∧ ∀ w ∈ u_ws q.1 q.2.1 q.2.2, w ∈ gtbl := by
  have h := cl_ok hK
  unfold clOk at h
  rw [hq] at h
  simp only [Bool.and_eq_true, beq_iff_eq, List.all_eq_true, List.mem_range, decide_eq_true_eq, Bool.or_eq_true, bne_iff_ne] at h
  refine ⟨h.1, fun k hk => ?_, fun a ha b hb hab => (h.2.1.2 a ha b hb).resolve_left hab, h.2.2⟩
  have h2 := h.2.1.1 k hk
  split at h2
  · rename_i ty hty
    exact ⟨ty, hty, h2⟩
  · cases h2
/-- a field's site in a method of the class own -/
def FL (own : String) (idx K k : Nat) : Prop := K < 8 ∧ ∃ q : vw_C, vwCl[K]? = some q ∧ k < q.2.2 ∧ (Cond.fieldLink own idx (q.2.1 k).1 (q.2.1 k).2.1 (q.2.1 k).2.2.1 ∈ gtbl ∨ ∃ host, Cond.fieldLinkNest own idx (q.2.1 k).1 (q.2.1 k).2.1 (q.2.1 k).2.2.1 host ∈ gtbl)
theorem isAr_ge {K : Nat} (h : isAr K = true) : 9 ≤ K ∧ K < 98 ∧ ¬ K < 8 := by
  unfold isAr at h
  obtain ⟨q, hq, he⟩ := List.any_eq_true.mp h
  have e : q.1 = K := by simpa using he
  have h2 : ∀ q ∈ arT, 9 ≤ q.1 ∧ q.1 < 98 := by decide
  have := h2 q hq
  omega
theorem ln_lt (K : Nat) : ln K < 2 ^ 31 := by
  unfold ln
  split
  · rename_i h
    rcases (show K = 0 ∨ K = 1 ∨ K = 2 ∨ K = 3 ∨ K = 4 ∨ K = 5 ∨ K = 6 ∨ K = 7 by omega) with rfl | rfl | rfl | rfl | rfl | rfl | rfl | rfl <;> decide
  · have h : ∀ l : List (Nat × Nat × Nat), (∀ q ∈ l, q.2.2 < 2 ^ 31) → (arL K l).2 < 2 ^ 31 := by
      intro l
      induction l with
      | nil => intro _; exact (by decide : (0 : Nat) < 2 ^ 31)
      | cons q l ih =>
        intro hq
        unfold arL
        split
        · exact hq q List.mem_cons_self
        · exact ih (fun z hz => hq z (List.mem_cons_of_mem _ hz))
    exact h arT (by decide)
theorem ix_nat {i : Int} {n : Nat} (h : 0 ≤ i ∧ i < (n : Int)) (hn : n < 2 ^ 31) : ∃ k : Nat, (k : Int) = i ∧ k < n ∧ vp_in (Int32.ofInt i) n ∧ (Int32.ofInt i).toNatClampNeg = k := by
  obtain ⟨k, rfl⟩ := Int.eq_ofNat_of_zero_le h.1
  have hk : k < n := by omega
  have e : Int32.ofInt (k : Int) = nI k := Int32.ofInt_eq_ofNat
  exact ⟨k, rfl, hk, by rw [e]; exact vp_in_nI hk hn, by rw [e]; exact nI_clamp (by omega)⟩
section Core4
variable {x : Cx} {cc : ByteArray} {own nm : String} {rm : Room} {nL : Nat} {rt : Option Nat} {rty : Option FieldType} {lw : Nat} {r r1 r2 : Res} {v : V} {cells slots pc tgt : Nat} {ls ls' : List (Nat × AV)} {st : List AV} {t t1 t2 : Nat} {a b i z : Int}
theorem ar_at {l : Launch} {D : va_G} {B : Nat → Prop} {ad : Ad} {H : Heap} {s : State} (hS : Sto D B ad v H) (hG : Gd l D B s) {K : Nat} (hA : isAr K = true) (hb : 0 ≤ b) (ob : okv v (K + 10, b)) :
    v 99 (K : Int) b = 1 ∧ ∃ cell : Cell, H[ad K b]? = some cell ∧ s.isArrayOf cell (aty K) ∧ cell.vm ≠ .unknown ∧ (∀ q, cell.vm ≠ .statics q) ∧ cell.cls = D.1 K ∧ cell.slots.size = ln K ∧ ∀ j, j < ln K → cell.slots[j]? = some (cv ad (tg K (j : Int), v K b (j : Int))) := by
  obtain ⟨h9, h98, hn9⟩ := isAr_ge hA
  have hal : v 99 (K : Int) b = 1 := by
    rcases okv_ref.mp ob with h | h
    · omega
    · exact h.2
  obtain ⟨g1, -, -⟩ := hS.1 K b h98 hal
  unfold ClAt at g1
  rw [if_neg hn9] at g1
  obtain ⟨cell, c1, c2, c3, c4, c5, c6⟩ := g1
  obtain ⟨⟨k, comp, d1, d2, d3⟩, d4⟩ := hG.2.2.2.2.1 K hA
  exact ⟨hal, cell, c1, ⟨c3, k, by rw [c2]; exact d1, comp, d2⟩, c4, c3, c2, c5, c6⟩
theorem al_of {K : Nat} (hb : 0 ≤ b) (ob : okv v (K + 10, b)) : v 99 (K : Int) b = 1 := by
  rcases okv_ref.mp ob with h | h
  · omega
  · exact h.2
theorem g_get (F : Fx x cc own nm rm nL rt rty lw) {idx K k : Nat} {sI : Int} (hf : FL own idx K k) (ht : tg K sI = t) (hs : ((k : Nat) : Int) = sI) (h : 0 ≤ i) (hd : decode cc pc = .ok (.getfield idx, 3)) (kk : Gs x r v cells slots (pc + 3) ls ((t, v K i sI) :: st)) : Gs x r v cells slots pc ls ((K + 10, i) :: st) := by
  obtain ⟨⟨p, l, e, R, s, m⟩, ⟨args, below, meth, c⟩, ⟨nL', D, B, ad0, v0, rt', lw'⟩⟩ := x
  intro hr ad H locs lsA hS hE hV hl hls hst
  obtain ⟨hx, hb, hown, hR, hml, hnL, hrt, hret, hnm, hlk, het, hG⟩ := id F
  subst ht
  subst hs
  obtain ⟨hK, q, hq, hk, hlink⟩ := hf
  have hal := al_of h (ok_h hst)
  obtain ⟨g1, g2, g3⟩ := hS.1 K i (by omega) hal
  obtain ⟨e1, e2, e3, e4⟩ := cl_spec hK hq
  have k9 := kk hr ad H locs lsA hS hE hV hl hls (ok_c (g3 k (by omega)) (ok_t hst))
  unfold ClAt at g1
  rw [if_pos hK] at g1
  obtain ⟨cell, q1, q2, q3, q4⟩ := g1
  obtain ⟨hSl, hfc, kC, hkC, hkind⟩ := hG.2.2.2.1.1 K q hq
  obtain ⟨cf, kf, fi, f, hi, hsl⟩ := hSl k hk
  have hst0 := (u_facts hfc hkC (u_lays (fun w hw => hG.2.2.1 w hw args) e4 hk) hi).1
  rw [List.map_cons, cv_pos h]
  rcases hlink with hlink | ⟨host, hlink⟩
  · exact W.getf hx hb hown (hG.2.2.1 _ hlink _) hi hst0 q1 (by rw [q3]; exact fun h => by cases h) (by rw [hsl]; exact q4 k (by omega)) rfl rfl hd k9
  · exact va_Wgetf hx hb hown (hG.2.2.1 _ hlink _) hi hst0 q1 (by rw [q3]; exact fun h => by cases h) (by rw [hsl]; exact q4 k (by omega)) rfl rfl hd k9
/-- what a site of putfield must be: not final, or in the constructor -/
def FP (own nm : String) (K k : Nat) : Prop := ∃ q : vw_C, vwCl[K]? = some q ∧ ((q.2.1 k).2.2.2 = false ∨ (nm = "<init>" ∧ (q.2.1 k).1 = own))
theorem g_put (F : Fx x cc own nm rm nL rt rty lw) {idx K k : Nat} {sI : Int} (hf : FL own idx K k) (hp : FP own nm K k) (ht : tle t (tg K sI) = true) (hs : ((k : Nat) : Int) = sI) (h : 0 ≤ i) (hd : decode cc pc = .ok (.putfield idx, 3)) (kk : Gs x r (up v K i sI z) cells slots (pc + 3) ls st) : Gs x r v cells slots pc ls ((t, z) :: (K + 10, i) :: st) := by
  obtain ⟨⟨p, l, e, R, s, m⟩, ⟨args, below, meth, c⟩, ⟨nL', D, B, ad0, v0, rt', lw'⟩⟩ := x
  intro hr ad H locs lsA hS hE hV hl hls hst
  obtain ⟨hx, hb, hown, hR, hml, hnL, hrt, hret, hnm, hlk, het, hG⟩ := id F
  subst hs
  obtain ⟨hK, q, hq, hk, hlink⟩ := hf
  obtain ⟨q', hq', hfin⟩ := hp
  cases Option.some.inj (hq.symm.trans hq')
  have oz := okv_le ht (ok_h hst)
  have hal := al_of h (ok_h (ok_t hst))
  obtain ⟨g1, g2, g3⟩ := hS.1 K i (by omega) hal
  obtain ⟨e1, e2, e3, e4⟩ := cl_spec hK hq
  obtain ⟨ty, p1, p2⟩ := e2 k hk
  have hts : ∀ w ∈ gtbl, w.before args s = true := fun w hw => hG.2.2.1 w hw args
  have g1' := g1
  unfold ClAt at g1
  rw [if_pos hK] at g1
  obtain ⟨cell, q1, q2, q3, q4⟩ := g1
  obtain ⟨hSl, hfc, kC, hkC, hkind⟩ := hG.2.2.2.1.1 K q hq
  obtain ⟨cf, kf, fi, f, hi, hsl⟩ := hSl k hk
  have hst0 := (u_facts hfc hkC (u_lays hts e4 hk) hi).1
  have hap : ∀ a b, a < ln K → b < ln K → a ≠ b → D.2 K a ≠ D.2 K b := by
    intro a b ha hb' hne
    obtain ⟨_, _, _, fa, hia, ea⟩ := hSl a (by omega)
    obtain ⟨_, _, _, fb, hib, eb⟩ := hSl b (by omega)
    obtain ⟨ta, pa, -⟩ := e2 a (by omega)
    obtain ⟨tb, pb, -⟩ := e2 b (by omega)
    rw [← ea, ← eb]
    refine u_apart (u_lays hts e4 (by omega)) (u_lays hts e4 (by omega)) hia hib ?_
    rw [(State.fieldFound?_type hia pa).1, (State.fieldFound?_type hib pb).1]
    exact e3 a (by omega) b (by omega) hne
  have hlay := hts _ (e4 _ (u_in_lay hk))
  have hnr := ty_narrow (ad := ad) p2 oz
  have hft := ty_fits (ad := ad) p2 oz
  have kfin : ∀ H' : Heap, H'[ad K i]? = some (cell.setSlot f.slot (cv ad (tg K (k : Int), z))) → H'.size = H.size → (∀ q, q ≠ ad K i → H'[q]? = H[q]?) → W p l e R s m args below meth c H' (locs ++ [⟨ad K i, f.slot⟩]) cells slots (Qx below D B ad0 v0 rt' lw' r args s R) (F0 m (pc + 3) lsA (st.map (cv ad))) := fun H' c1 c2 c3 => by
    have h99 : K ≠ 99 := by omega
    refine kk hr ad H' _ lsA (hS.put (by omega) hal rfl (by omega) oz ?_ c3) (ext_up hE h99) (hV.put c2 c3 g2) hl (fun q hq => (okv_up h99).mpr (hls q hq)) (fun a ha => (okv_up h99).mpr (ok_t (ok_t hst) a ha))
    unfold ClAt
    rw [if_pos hK]
    refine ⟨_, c1, q2, q3, fun j hj => ?_⟩
    rw [hsl]
    exact t_set q4 hap (by omega) _ j hj
  rw [List.map_cons, List.map_cons, cv_pos h, cv_le ht]
  rcases hfin with hfin | ⟨hfin1, hfin2⟩
  · unfold u_lay at hlay
    by_cases hF : (q.2.1 k).2.2.2 = true
    · rw [hF] at hfin; cases hfin
    · rw [if_neg hF] at hlay
      have h6 := u_store hfc hkC hkind hlay hi p1 hnr hft
      rcases hlink with hlink | ⟨host, hlink⟩
      · exact W.putK hx hb (f := f) ⟨hown, hG.2.2.1 _ hlink _, ⟨_, _, _, hi⟩, hst0⟩ (by rw [q2]; exact h6) q1 q3 (by rw [hsl]; exact k2_hasslot (q4 k (by omega))) rfl rfl hd kfin
      · exact va_WputK hx hb (f := f) hown (hG.2.2.1 _ hlink _) hi hst0 (by rw [q2]; exact h6) q1 q3 (by rw [hsl]; exact k2_hasslot (q4 k (by omega))) rfl rfl hd kfin
  · rcases hlink with hlink | ⟨host, hlink⟩
    · by_cases hF : (q.2.1 k).2.2.2 = true
      · unfold u_lay at hlay
        rw [if_pos hF] at hlay
        have hcf : m.cls = cf := by
          obtain ⟨_, _, c', _, _, _, -, -, hf', -, -, -, hown2, -⟩ := Cond.laysFinal_spec hlay
          have e1 : c' = cf := by have := hi.symm.trans hf'; simp at this; exact this.1.symm
          rw [hfin2] at hown2
          rw [← e1]; exact Option.some.inj (hown.symm.trans hown2)
        have h6 := u_fits hfc hkC hkind (Or.inr hlay) hi p1 hnr hft
        exact W.putFinK hx hb hown (hG.2.2.1 _ hlink _) hi hst0 hcf (hnm.trans hfin1) (by rw [q2]; exact h6) q1 q3 (by rw [hsl]; exact k2_hasslot (q4 k (by omega))) rfl rfl hd kfin
      · unfold u_lay at hlay
        rw [if_neg hF] at hlay
        have h6 := u_store hfc hkC hkind hlay hi p1 hnr hft
        exact W.putK hx hb (f := f) ⟨hown, hG.2.2.1 _ hlink _, ⟨_, _, _, hi⟩, hst0⟩ (by rw [q2]; exact h6) q1 q3 (by rw [hsl]; exact k2_hasslot (q4 k (by omega))) rfl rfl hd kfin
    · by_cases hF : (q.2.1 k).2.2.2 = true
      · unfold u_lay at hlay
        rw [if_pos hF] at hlay
        have hcf : m.cls = cf := by
          obtain ⟨_, _, c', _, _, _, -, -, hf', -, -, -, hown2, -⟩ := Cond.laysFinal_spec hlay
          have e1 : c' = cf := by have := hi.symm.trans hf'; simp at this; exact this.1.symm
          rw [hfin2] at hown2
          rw [← e1]; exact Option.some.inj (hown.symm.trans hown2)
        have h6 := u_fits hfc hkC hkind (Or.inr hlay) hi p1 hnr hft
        refine va_Wputf hx hb hown (hG.2.2.1 _ hlink _) hi hst0 (Or.inr ⟨hcf, hnm.trans hfin1⟩) q1 (by rw [q3]; exact fun h => by cases h) (by rw [hsl]; exact k2_hasslot (q4 k (by omega))) h6.1 (by rw [q2, q3]; exact h6.2) rfl rfl hd ?_
        have hlt : ad K i < H.size := (Array.getElem?_eq_some_iff.mp q1).1
        refine kfin _ ?_ ?_ ?_
        · simp [hlt]
        · simp
        · intro z hz
          rw [Array.getElem?_setIfInBounds_ne (Ne.symm hz)]
      · unfold u_lay at hlay
        rw [if_neg hF] at hlay
        have h6 := u_store hfc hkC hkind hlay hi p1 hnr hft
        exact va_WputK hx hb (f := f) hown (hG.2.2.1 _ hlink _) hi hst0 (by rw [q2]; exact h6) q1 q3 (by rw [hsl]; exact k2_hasslot (q4 k (by omega))) rfl rfl hd kfin
theorem g_iald (F : Fx x cc own nm rm nL rt rty lw) {K : Nat} (hA : isAr K = true) (hy : aty K = .int) (hg : tg K a = t) (h0 : 0 ≤ b) (h : 0 ≤ a ∧ a < (ln K : Int)) (h1 : il t1 = true) (hd : decode cc pc = .ok (.iaload, 1)) (kk : Gs x r v cells slots (pc + 1) ls ((t, v K b a) :: st)) : Gs x r v cells slots pc ls ((t1, a) :: (K + 10, b) :: st) := by
  obtain ⟨⟨p, l, e, R, s, m⟩, ⟨args, below, meth, c⟩, ⟨nL', D, B, ad0, v0, rt', lw'⟩⟩ := x
  intro hr ad H locs lsA hS hE hV hl hls hst
  obtain ⟨hx, hb, hown, hR, hml, hnL, hrt, hret, hnm, hlk, het, hG⟩ := id F
  subst hg
  obtain ⟨hal, cell, c1, c2, c3, c4, c5, c6, c7⟩ := ar_at hS hG hA h0 (ok_h (ok_t hst))
  obtain ⟨k, rfl, hk, hin, hcl⟩ := ix_nat h (ln_lt K)
  obtain ⟨-, -, g3⟩ := hS.1 K b (isAr_ge hA).2.1 hal
  have k9 := kk hr ad H locs lsA hS hE hV hl hls (ok_c (g3 k hk) (ok_t (ok_t hst)))
  rw [List.map_cons, List.map_cons, cv_il h1, cv_pos h0]
  exact W.iald hx hb c1 (by rw [← hy]; exact c2) c3 (by rw [c6]; exact hin) (by rw [hcl]; exact c7 k hk) rfl rfl hd k9
theorem g_lald (F : Fx x cc own nm rm nL rt rty lw) {K : Nat} (hA : isAr K = true) (hy : aty K = .long) (hg : tg K a = t) (h0 : 0 ≤ b) (h : 0 ≤ a ∧ a < (ln K : Int)) (h1 : il t1 = true) (hd : decode cc pc = .ok (.laload, 1)) (kk : Gs x r v cells slots (pc + 1) ls ((t, v K b a) :: st)) : Gs x r v cells slots pc ls ((t1, a) :: (K + 10, b) :: st) := by
  obtain ⟨⟨p, l, e, R, s, m⟩, ⟨args, below, meth, c⟩, ⟨nL', D, B, ad0, v0, rt', lw'⟩⟩ := x
  intro hr ad H locs lsA hS hE hV hl hls hst
  obtain ⟨hx, hb, hown, hR, hml, hnL, hrt, hret, hnm, hlk, het, hG⟩ := id F
  subst hg
  obtain ⟨hal, cell, c1, c2, c3, c4, c5, c6, c7⟩ := ar_at hS hG hA h0 (ok_h (ok_t hst))
  obtain ⟨k, rfl, hk, hin, hcl⟩ := ix_nat h (ln_lt K)
  obtain ⟨-, -, g3⟩ := hS.1 K b (isAr_ge hA).2.1 hal
  have k9 := kk hr ad H locs lsA hS hE hV hl hls (ok_c (g3 k hk) (ok_t (ok_t hst)))
  rw [List.map_cons, List.map_cons, cv_il h1, cv_pos h0]
  exact W.lald hx hb c1 (by rw [← hy]; exact c2) c3 (by rw [c6]; exact hin) (by rw [hcl]; exact c7 k hk) rfl rfl hd k9
theorem g_zald (F : Fx x cc own nm rm nL rt rty lw) {K : Nat} (hA : isAr K = true) (hy : aty K = .boolean) (hg : tg K a = t) (h0 : 0 ≤ b) (h : 0 ≤ a ∧ a < (ln K : Int)) (h1 : il t1 = true) (hd : decode cc pc = .ok (.baload, 1)) (kk : Gs x r v cells slots (pc + 1) ls ((t, v K b a) :: st)) : Gs x r v cells slots pc ls ((t1, a) :: (K + 10, b) :: st) := by
  obtain ⟨⟨p, l, e, R, s, m⟩, ⟨args, below, meth, c⟩, ⟨nL', D, B, ad0, v0, rt', lw'⟩⟩ := x
  intro hr ad H locs lsA hS hE hV hl hls hst
  obtain ⟨hx, hb, hown, hR, hml, hnL, hrt, hret, hnm, hlk, het, hG⟩ := id F
  subst hg
  obtain ⟨hal, cell, c1, c2, c3, c4, c5, c6, c7⟩ := ar_at hS hG hA h0 (ok_h (ok_t hst))
  obtain ⟨k, rfl, hk, hin, hcl⟩ := ix_nat h (ln_lt K)
  obtain ⟨-, -, g3⟩ := hS.1 K b (isAr_ge hA).2.1 hal
  have k9 := kk hr ad H locs lsA hS hE hV hl hls (ok_c (g3 k hk) (ok_t (ok_t hst)))
  rw [List.map_cons, List.map_cons, cv_il h1, cv_pos h0]
  exact W.zald hx hb c1 (by rw [← hy]; exact c2) c3 (by rw [c6]; exact hin) (by rw [hcl]; exact c7 k hk) rfl rfl hd k9
theorem g_aald (F : Fx x cc own nm rm nL rt rty lw) {K : Nat} (hA : isAr K = true) (hy : (aty K).isReference = true) (hg : tg K a = t) (h0 : 0 ≤ b) (h : 0 ≤ a ∧ a < (ln K : Int)) (h1 : il t1 = true) (hd : decode cc pc = .ok (.aaload, 1)) (kk : Gs x r v cells slots (pc + 1) ls ((t, v K b a) :: st)) : Gs x r v cells slots pc ls ((t1, a) :: (K + 10, b) :: st) := by
  obtain ⟨⟨p, l, e, R, s, m⟩, ⟨args, below, meth, c⟩, ⟨nL', D, B, ad0, v0, rt', lw'⟩⟩ := x
  intro hr ad H locs lsA hS hE hV hl hls hst
  obtain ⟨hx, hb, hown, hR, hml, hnL, hrt, hret, hnm, hlk, het, hG⟩ := id F
  subst hg
  obtain ⟨hal, cell, c1, c2, c3, c4, c5, c6, c7⟩ := ar_at hS hG hA h0 (ok_h (ok_t hst))
  obtain ⟨k, rfl, hk, hin, hcl⟩ := ix_nat h (ln_lt K)
  obtain ⟨-, -, g3⟩ := hS.1 K b (isAr_ge hA).2.1 hal
  have k9 := kk hr ad H locs lsA hS hE hV hl hls (ok_c (g3 k hk) (ok_t (ok_t hst)))
  rw [List.map_cons, List.map_cons, cv_il h1, cv_pos h0]
  exact W.aald hx hb c1 c2 hy c3 (by rw [c6]; exact hin) (by rw [hcl]; exact c7 k hk) rfl rfl hd k9
theorem g_iast (F : Fx x cc own nm rm nL rt rty lw) {K : Nat} (hA : isAr K = true) (hy : aty K = .int) (hg : tg K a = 0) (ht : tle t (tg K a) = true) (h0 : 0 ≤ b) (h : 0 ≤ a ∧ a < (ln K : Int)) (h1 : il t1 = true) (hd : decode cc pc = .ok (.iastore, 1)) (kk : Gs x r (up v K b a z) cells slots (pc + 1) ls st) : Gs x r v cells slots pc ls ((t, z) :: (t1, a) :: (K + 10, b) :: st) := by
  obtain ⟨⟨p, l, e, R, s, m⟩, ⟨args, below, meth, c⟩, ⟨nL', D, B, ad0, v0, rt', lw'⟩⟩ := x
  intro hr ad H locs lsA hS hE hV hl hls hst
  obtain ⟨hx, hb, hown, hR, hml, hnL, hrt, hret, hnm, hlk, het, hG⟩ := id F
  have oz := okv_le ht (ok_h hst)
  obtain ⟨hal, cell, c1, c2, c3, c4, c5, c6, c7⟩ := ar_at hS hG hA h0 (ok_h (ok_t (ok_t hst)))
  obtain ⟨k, rfl, hk, hin, hcl⟩ := ix_nat h (ln_lt K)
  obtain ⟨-, g2, g3⟩ := hS.1 K b (isAr_ge hA).2.1 hal
  have kfin : ∀ H' : Heap, H'[ad K b]? = some (cell.setSlot (Int32.ofInt (k : Int)).toNatClampNeg (cv ad (tg K (k : Int), z))) → H'.size = H.size → (∀ q, q ≠ ad K b → H'[q]? = H[q]?) → W p l e R s m args below meth c H' (locs ++ [⟨ad K b, (Int32.ofInt (k : Int)).toNatClampNeg⟩]) cells slots (Qx below D B ad0 v0 rt' lw' r args s R) (F0 m (pc + 1) lsA (st.map (cv ad))) := fun H' d1 d2 d3 => by
    have h98 := isAr_ge hA
    have h99 : K ≠ 99 := by omega
    refine kk hr ad H' _ lsA (hS.put h98.2.1 hal rfl hk oz ?_ d3) (ext_up hE h99) (hV.put d2 d3 g2) hl (fun q hq => (okv_up h99).mpr (hls q hq)) (fun a ha => (okv_up h99).mpr (ok_t (ok_t (ok_t hst)) a ha))
    unfold ClAt
    rw [if_neg h98.2.2]
    rw [hcl] at d1
    refine ⟨_, d1, c5, c4, c3, ?_, fun j hj => ?_⟩
    · rw [← c6]
      unfold Cell.setSlot
      simp
    · exact t_set (iS := fun j => j) c7 (fun _ _ _ _ h => h) hk _ j hj
  rw [List.map_cons, List.map_cons, List.map_cons, cv_le ht, hg, show cv ad (0, z) = Value.int (Int32.ofInt z) from rfl, cv_il h1, cv_pos h0]
  exact W.iast hx hb c1 (by rw [← hy]; exact c2) c3 (by rw [c6]; exact hin) rfl rfl hd (fun H' d1 d2 d3 => kfin H' (by rw [d1, hg]; rfl) d2 d3)
theorem g_last (F : Fx x cc own nm rm nL rt rty lw) {K : Nat} (hA : isAr K = true) (hy : aty K = .long) (hg : tg K a = 1) (ht : tle t (tg K a) = true) (h0 : 0 ≤ b) (h : 0 ≤ a ∧ a < (ln K : Int)) (h1 : il t1 = true) (hd : decode cc pc = .ok (.lastore, 1)) (kk : Gs x r (up v K b a z) cells slots (pc + 1) ls st) : Gs x r v cells slots pc ls ((t, z) :: (t1, a) :: (K + 10, b) :: st) := by
  obtain ⟨⟨p, l, e, R, s, m⟩, ⟨args, below, meth, c⟩, ⟨nL', D, B, ad0, v0, rt', lw'⟩⟩ := x
  intro hr ad H locs lsA hS hE hV hl hls hst
  obtain ⟨hx, hb, hown, hR, hml, hnL, hrt, hret, hnm, hlk, het, hG⟩ := id F
  have oz := okv_le ht (ok_h hst)
  obtain ⟨hal, cell, c1, c2, c3, c4, c5, c6, c7⟩ := ar_at hS hG hA h0 (ok_h (ok_t (ok_t hst)))
  obtain ⟨k, rfl, hk, hin, hcl⟩ := ix_nat h (ln_lt K)
  obtain ⟨-, g2, g3⟩ := hS.1 K b (isAr_ge hA).2.1 hal
  have kfin : ∀ H' : Heap, H'[ad K b]? = some (cell.setSlot (Int32.ofInt (k : Int)).toNatClampNeg (cv ad (tg K (k : Int), z))) → H'.size = H.size → (∀ q, q ≠ ad K b → H'[q]? = H[q]?) → W p l e R s m args below meth c H' (locs ++ [⟨ad K b, (Int32.ofInt (k : Int)).toNatClampNeg⟩]) cells slots (Qx below D B ad0 v0 rt' lw' r args s R) (F0 m (pc + 1) lsA (st.map (cv ad))) := fun H' d1 d2 d3 => by
    have h98 := isAr_ge hA
    have h99 : K ≠ 99 := by omega
    refine kk hr ad H' _ lsA (hS.put h98.2.1 hal rfl hk oz ?_ d3) (ext_up hE h99) (hV.put d2 d3 g2) hl (fun q hq => (okv_up h99).mpr (hls q hq)) (fun a ha => (okv_up h99).mpr (ok_t (ok_t (ok_t hst)) a ha))
    unfold ClAt
    rw [if_neg h98.2.2]
    rw [hcl] at d1
    refine ⟨_, d1, c5, c4, c3, ?_, fun j hj => ?_⟩
    · rw [← c6]
      unfold Cell.setSlot
      simp
    · exact t_set (iS := fun j => j) c7 (fun _ _ _ _ h => h) hk _ j hj
  rw [List.map_cons, List.map_cons, List.map_cons, cv_le ht, hg, show cv ad (1, z) = Value.long (Int64.ofInt z) from rfl, cv_il h1, cv_pos h0]
  exact W.last hx hb c1 (by rw [← hy]; exact c2) c3 (by rw [c6]; exact hin) rfl rfl hd (fun H' d1 d2 d3 => kfin H' (by rw [d1, hg]; rfl) d2 d3)
theorem g_zast (F : Fx x cc own nm rm nL rt rty lw) {K : Nat} (hA : isAr K = true) (hy : aty K = .boolean) (hg : tg K a = 2) (ht : tle t (tg K a) = true) (h0 : 0 ≤ b) (h : 0 ≤ a ∧ a < (ln K : Int)) (h1 : il t1 = true) (hd : decode cc pc = .ok (.bastore, 1)) (kk : Gs x r (up v K b a z) cells slots (pc + 1) ls st) : Gs x r v cells slots pc ls ((t, z) :: (t1, a) :: (K + 10, b) :: st) := by
  obtain ⟨⟨p, l, e, R, s, m⟩, ⟨args, below, meth, c⟩, ⟨nL', D, B, ad0, v0, rt', lw'⟩⟩ := x
  intro hr ad H locs lsA hS hE hV hl hls hst
  obtain ⟨hx, hb, hown, hR, hml, hnL, hrt, hret, hnm, hlk, het, hG⟩ := id F
  have oz := okv_le ht (ok_h hst)
  obtain ⟨hal, cell, c1, c2, c3, c4, c5, c6, c7⟩ := ar_at hS hG hA h0 (ok_h (ok_t (ok_t hst)))
  obtain ⟨k, rfl, hk, hin, hcl⟩ := ix_nat h (ln_lt K)
  obtain ⟨-, g2, g3⟩ := hS.1 K b (isAr_ge hA).2.1 hal
  have kfin : ∀ H' : Heap, H'[ad K b]? = some (cell.setSlot (Int32.ofInt (k : Int)).toNatClampNeg (cv ad (tg K (k : Int), z))) → H'.size = H.size → (∀ q, q ≠ ad K b → H'[q]? = H[q]?) → W p l e R s m args below meth c H' (locs ++ [⟨ad K b, (Int32.ofInt (k : Int)).toNatClampNeg⟩]) cells slots (Qx below D B ad0 v0 rt' lw' r args s R) (F0 m (pc + 1) lsA (st.map (cv ad))) := fun H' d1 d2 d3 => by
    have h98 := isAr_ge hA
    have h99 : K ≠ 99 := by omega
    refine kk hr ad H' _ lsA (hS.put h98.2.1 hal rfl hk oz ?_ d3) (ext_up hE h99) (hV.put d2 d3 g2) hl (fun q hq => (okv_up h99).mpr (hls q hq)) (fun a ha => (okv_up h99).mpr (ok_t (ok_t (ok_t hst)) a ha))
    unfold ClAt
    rw [if_neg h98.2.2]
    rw [hcl] at d1
    refine ⟨_, d1, c5, c4, c3, ?_, fun j hj => ?_⟩
    · rw [← c6]
      unfold Cell.setSlot
      simp
    · exact t_set (iS := fun j => j) c7 (fun _ _ _ _ h => h) hk _ j hj
  have hz : narrow .boolean (Value.int (Int32.ofInt z)) = cv ad (tg K (k : Int), z) := by
    rw [hg]
    rw [hg] at oz
    show Value.int (Int32.ofInt z &&& 1) = Value.int (Int32.ofInt z)
    rw [and1 (okv_2.mp oz)]
  rw [List.map_cons, List.map_cons, List.map_cons, cv_le ht, hg, show cv ad (2, z) = Value.int (Int32.ofInt z) from rfl, cv_il h1, cv_pos h0]
  exact W.zast hx hb c1 (by rw [← hy]; exact c2) c3 (by rw [c6]; exact hin) rfl rfl hd (fun H' d1 d2 d3 => kfin H' (by rw [d1, hz]) d2 d3)
theorem g_aast (F : Fx x cc own nm rm nL rt rty lw) {K K2 : Nat} (hA : isAr K = true) (hK2 : K2 < 8) (hy : aty K = .object ((vwCl[K2]?).getD ("", fun _ => ("", "", "", false), 0)).1) (hg : tg K a = K2 + 10) (h0 : 0 ≤ b) (h : 0 ≤ a ∧ a < (ln K : Int)) (hz0 : 0 ≤ z) (h1 : il t1 = true) (hd : decode cc pc = .ok (.aastore, 1)) (kk : Gs x r (up v K b a z) cells slots (pc + 1) ls st) : Gs x r v cells slots pc ls ((K2 + 10, z) :: (t1, a) :: (K + 10, b) :: st) := by
  obtain ⟨⟨p, l, e, R, s, m⟩, ⟨args, below, meth, c⟩, ⟨nL', D, B, ad0, v0, rt', lw'⟩⟩ := x
  intro hr ad H locs lsA hS hE hV hl hls hst
  obtain ⟨hx, hb, hown, hR, hml, hnL, hrt, hret, hnm, hlk, het, hG⟩ := id F
  have oz : okv v (tg K a, z) := by rw [hg]; exact ok_h hst
  obtain ⟨hal, cell, c1, c2, c3, c4, c5, c6, c7⟩ := ar_at hS hG hA h0 (ok_h (ok_t (ok_t hst)))
  obtain ⟨k, rfl, hk, hin, hcl⟩ := ix_nat h (ln_lt K)
  obtain ⟨-, g2, g3⟩ := hS.1 K b (isAr_ge hA).2.1 hal
  have kfin : ∀ H' : Heap, H'[ad K b]? = some (cell.setSlot (Int32.ofInt (k : Int)).toNatClampNeg (cv ad (tg K (k : Int), z))) → H'.size = H.size → (∀ q, q ≠ ad K b → H'[q]? = H[q]?) → W p l e R s m args below meth c H' (locs ++ [⟨ad K b, (Int32.ofInt (k : Int)).toNatClampNeg⟩]) cells slots (Qx below D B ad0 v0 rt' lw' r args s R) (F0 m (pc + 1) lsA (st.map (cv ad))) := fun H' d1 d2 d3 => by
    have h98 := isAr_ge hA
    have h99 : K ≠ 99 := by omega
    refine kk hr ad H' _ lsA (hS.put h98.2.1 hal rfl hk oz ?_ d3) (ext_up hE h99) (hV.put d2 d3 g2) hl (fun q hq => (okv_up h99).mpr (hls q hq)) (fun a ha => (okv_up h99).mpr (ok_t (ok_t (ok_t hst)) a ha))
    unfold ClAt
    rw [if_neg h98.2.2]
    rw [hcl] at d1
    refine ⟨_, d1, c5, c4, c3, ?_, fun j hj => ?_⟩
    · rw [← c6]
      unfold Cell.setSlot
      simp
    · exact t_set (iS := fun j => j) c7 (fun _ _ _ _ h => h) hk _ j hj
  have hal2 := al_of hz0 (ok_h hst)
  obtain ⟨y1, -, -⟩ := hS.1 K2 z (by omega) hal2
  unfold ClAt at y1
  rw [if_pos hK2] at y1
  obtain ⟨cz, z1, z2, z3, z4⟩ := y1
  obtain ⟨q, hq⟩ : ∃ q, vwCl[K2]? = some q := by
    have := cl_ok hK2
    unfold clOk at this
    split at this
    · exact ⟨_, by assumption⟩
    · cases this
  obtain ⟨hSl, hfc, kC, hkC, hkind⟩ := hG.2.2.2.1.1 K2 q hq
  obtain ⟨⟨kA, comp, d1, d2, d3⟩, d4⟩ := hG.2.2.2.2.1 K hA
  rw [hq] at hy
  have hcomp : s.vm.findClass q.1 = some comp := d3 _ hy
  have hcc : comp = D.1 K2 := Option.some.inj (hcomp.symm.trans hfc)
  rw [List.map_cons, List.map_cons, List.map_cons, cv_pos hz0, cv_il h1, cv_pos h0]
  refine W.aast hx hb c1 c4 c3 (by rw [c5]; exact d1) d2 (by rw [hy]; rfl) (kcomp := kC) (by rw [hcc]; exact hkC) ⟨fun q => hin (Or.inl q), by rw [c6]; exact Nat.not_le.mp fun q => hin (Or.inr q)⟩ z1 (fun q => by rw [z3]; exact fun h => by cases h) (kv := kC) (by rw [z2]; exact hkC) (by rw [z2, hcc]; exact Vm.assignable_self _ _) rfl rfl hd (fun H' d1 d2 d3 => kfin H' (by rw [d1, hg, cv_pos hz0]) d2 d3)
/-- a site of new -/
def FN (own : String) (idx K : Nat) : Prop := K < 8 ∧ ∃ q : vw_C, vwCl[K]? = some q ∧ Cond.classLink own idx q.1 ∈ gtbl ∧ Cond.instantiable q.1 q.2.2 ∈ gtbl ∧ Cond.initialized q.1 ∈ gtbl
theorem ls_ext {v' : V} {ad ad' : Ad} (h : Ext v ad v' ad') (hls : ∀ q ∈ ls, okv v q.2) : ls.map (clv ad') = ls.map (clv ad) := by
  apply List.map_congr_left
  intro q hq
  unfold clv
  rw [ext_cv h (hls q hq)]
theorem st_ext {v' : V} {ad ad' : Ad} (h : Ext v ad v' ad') (hst : ∀ q ∈ st, okv v q) : st.map (cv ad') = st.map (cv ad) := by
  apply List.map_congr_left
  intro q hq
  rw [ext_cv h (hst q hq)]
theorem g_new (F : Fx x cc own nm rm nL rt rty lw) {idx K n : Nat} (i : Int) (hf : FN own idx K) (hn : ln K = n) (h : 0 ≤ i ∧ ¬ v 99 (K : Int) i = 1) (hc : cells + 1 ≤ rm.cells) (hs : slots + n ≤ rm.slots) (hd : decode cc pc = .ok (.new idx, 3)) (kk : Gs x r (nw v K i) (cells + 1) (slots + n) (pc + 3) ls ((K + 10, i) :: st)) : Gs x r v cells slots pc ls st := by
  obtain ⟨⟨p, l, e, R, s, m⟩, ⟨args, below, meth, c⟩, ⟨nL', D, B, ad0, v0, rt', lw'⟩⟩ := x
  intro hr ad H locs lsA hS hE hV hl hls hst
  obtain ⟨hx, hb, hown, hR, hml, hnL, hrt, hret, hnm, hlk, het, hG⟩ := id F
  obtain ⟨hK, q, hq, w1, w2, w3⟩ := hf
  obtain ⟨e1, e2, e3, e4⟩ := cl_spec hK hq
  obtain ⟨hSl, hfc, kC, hkC, hkind⟩ := hG.2.2.2.1.1 K q hq
  have hts : ∀ w ∈ gtbl, w.before args s = true := fun w hw => hG.2.2.1 w hw args
  subst hR
  have hn2 : n = q.2.2 := by omega
  subst hn2
  refine W.newcK hx hb hown (hts _ w1) (hts _ w2) (hts _ w3) rfl hd hc hs hfc rfl fun H1 kC2 hkC2 d1 d2 d3 => ?_
  have hEx : Ext v ad (nw v K i) (adN ad K i H.size) := Ext.nw (by omega) h.2
  obtain ⟨tyf, htyf⟩ : ∃ tyf : Nat → FieldType, ∀ k, k < q.2.2 → parseFieldDescriptor (q.2.1 k).2.2.1 = some (tyf k) ∧ tyOK (tg K (k : Int)) (tyf k) = true := by
    refine ⟨fun k => (parseFieldDescriptor (q.2.1 k).2.2.1).getD .int, fun k hk => ?_⟩
    obtain ⟨ty, p1, p2⟩ := e2 k hk
    dsimp only
    rw [p1]
    exact ⟨rfl, p2⟩
  have hob := u_born tyf hts e4 (hG.2.2.2.1.1 K q hq) hkC2 d1 (fun k hk => (htyf k hk).1)
  have hSt : Sto D B (adN ad K i H.size) (nw v K i) H1 := hS.new (by omega) h.2 (hG.2.1 _ hV.1) (by
    unfold ClAt
    rw [if_pos hK, ← e1]
    exact hob.to (fun k hk => (ty_def (htyf k hk).2).symm)) d3
  have k9 := kk hr (adN ad K i H.size) H1 locs lsA hSt (hE.tr hEx) ⟨by rw [d2]; exact Nat.le_succ_of_le hV.1, fun q h1 h2 => (d3 q (Nat.lt_of_lt_of_le h1 hV.1)).trans (hV.2.1 q h1 h2), hV.2.2⟩ (by rw [ls_ext hEx hls]; exact hl) (fun q hq => ext_okv hEx (hls q hq)) (ok_c (okv_ref.mpr (Or.inr ⟨h.1, by unfold nw; rw [if_neg (by omega), if_pos ⟨rfl, rfl, rfl⟩]⟩)) (fun q hq => ext_okv hEx (hst q hq)))
  rw [List.map_cons, st_ext hEx hst, cv_pos h.1] at k9
  have e9 : adN ad K i H.size K i = H.size := by unfold adN; rw [if_pos ⟨rfl, rfl⟩]
  rw [e9] at k9
  exact k9
theorem ar_born {D : va_G} {K a : Nat} {ad : Ad} {H : Heap} {cA : ClassId} {ty : FieldType} (hA : isAr K = true) (hc : cA = D.1 K) (hy : ∀ j : Nat, tyOK (tg K (j : Int)) ty = true) (h : H[a]? = some (arrV cA (ln K) (fun _ => defaultValue ty))) : ClAt D K a H (fun q => cv ad (tg K (q : Int), df K (q : Int))) := by
  unfold ClAt
  rw [if_neg (isAr_ge hA).2.2]
  refine ⟨_, h, hc, (fun q h => by unfold arrV at h; cases h), (fun h => by unfold arrV at h; cases h), arrV_size _ _ _, fun j hj => ?_⟩
  rw [arrV_read _ _ hj]
  exact congrArg some (ty_def (hy j)).symm
theorem tg_ar {K : Nat} (hA : isAr K = true) (j : Int) : tg K j = (arL K arT).1 := by
  unfold tg
  rw [if_neg (isAr_ge hA).2.2]
theorem g_newa (F : Fx x cc own nm rm nL rt rty lw) {K n : Nat} {atype : ArrayType} (i : Int) (hA : isAr K = true) (hty : newarray.typeOf atype = aty K) (hok : tyOK (arL K arT).1 (aty K) = true) (hw : Cond.arrayClass (aty K) ∈ gtbl) (hn : ln K = n) (hb9 : n * componentBytes (aty K) ≤ 536870912) (h : 0 ≤ i ∧ ¬ v 99 (K : Int) i = 1) (h1 : il t1 = true) (hc : cells + 1 ≤ rm.cells) (hs : slots + n ≤ rm.slots) (hd : decode cc pc = .ok (.newarray atype, 2)) (kk : Gs x r (nw v K i) (cells + 1) (slots + n) (pc + 2) ls ((K + 10, i) :: st)) : Gs x r v cells slots pc ls ((t1, ((n : Nat) : Int)) :: st) := by
  obtain ⟨⟨p, l, e, R, s, m⟩, ⟨args, below, meth, c⟩, ⟨nL', D, B, ad0, v0, rt', lw'⟩⟩ := x
  intro hr ad H locs lsA hS hE hV hl hls hst
  obtain ⟨hx, hb, hown, hR, hml, hnL, hrt, hret, hnm, hlk, het, hG⟩ := id F
  have hts : ∀ w ∈ gtbl, w.before args s = true := fun w hw => hG.2.2.1 w hw args
  subst hR
  subst hn
  have h98 := isAr_ge hA
  have e0 : Int32.ofInt ((ln K : Nat) : Int) = nI (ln K) := Int32.ofInt_eq_ofNat
  have hcl : (nI (ln K)).toNatClampNeg = ln K := nI_clamp (ln_lt K)
  obtain ⟨⟨kA, comp, a1, a2, a3⟩, a4⟩ := hG.2.2.2.2.1 K hA
  rw [List.map_cons, cv_il h1, e0]
  refine va_newaK hx hb (by rw [hty]; exact hts _ hw) rfl hd rfl (nI_pos (ln_lt K)) hcl (by rw [hty]; exact hb9) hc hs rfl fun H1 cA d1 d2 d3 d4 d5 => ?_
  rw [hty] at d1 d5
  have hcA : cA = D.1 K := Option.some.inj (d5.symm.trans a4)
  have hEx : Ext v ad (nw v K i) (adN ad K i H.size) := Ext.nw h98.2.1 h.2
  have hSt : Sto D B (adN ad K i H.size) (nw v K i) H1 := hS.new h98.2.1 h.2 (hG.2.1 _ hV.1) (ar_born hA hcA (fun j => by rw [tg_ar hA]; exact hok) d1) d3
  have k9 := kk hr (adN ad K i H.size) H1 locs lsA hSt (hE.tr hEx) ⟨by rw [d2]; exact Nat.le_succ_of_le hV.1, fun q h1 h2 => (d3 q (Nat.lt_of_lt_of_le h1 hV.1)).trans (hV.2.1 q h1 h2), hV.2.2⟩ (by rw [ls_ext hEx hls]; exact hl) (fun q hq => ext_okv hEx (hls q hq)) (ok_c (okv_ref.mpr (Or.inr ⟨h.1, by unfold nw; rw [if_neg (by omega), if_pos ⟨rfl, rfl, rfl⟩]⟩)) (fun q hq => ext_okv hEx (ok_t hst q hq)))
  rw [List.map_cons, st_ext hEx (ok_t hst), cv_pos h.1] at k9
  have e9 : adN ad K i H.size K i = H.size := by unfold adN; rw [if_pos ⟨rfl, rfl⟩]
  rw [e9] at k9
  exact k9
theorem g_anewa (F : Fx x cc own nm rm nL rt rty lw) {idx K n : Nat} {C : String} (i : Int) (hA : isAr K = true) (hy : aty K = .object C) (hok : tyOK (arL K arT).1 (aty K) = true) (hw : Cond.classLink own idx C ∈ gtbl) (hC : C ∈ aoL) (hn : ln K = n) (hb9 : n * 4 ≤ 536870912) (h : 0 ≤ i ∧ ¬ v 99 (K : Int) i = 1) (h1 : il t1 = true) (hc : cells + 1 ≤ rm.cells) (hs : slots + n ≤ rm.slots) (hd : decode cc pc = .ok (.anewarray idx, 3)) (kk : Gs x r (nw v K i) (cells + 1) (slots + n) (pc + 3) ls ((K + 10, i) :: st)) : Gs x r v cells slots pc ls ((t1, ((n : Nat) : Int)) :: st) := by
  obtain ⟨⟨p, l, e, R, s, m⟩, ⟨args, below, meth, c⟩, ⟨nL', D, B, ad0, v0, rt', lw'⟩⟩ := x
  intro hr ad H locs lsA hS hE hV hl hls hst
  obtain ⟨hx, hb, hown, hR, hml, hnL, hrt, hret, hnm, hlk, het, hG⟩ := id F
  have hts : ∀ w ∈ gtbl, w.before args s = true := fun w hw => hG.2.2.1 w hw args
  subst hR
  subst hn
  have h98 := isAr_ge hA
  have e0 : Int32.ofInt ((ln K : Nat) : Int) = nI (ln K) := Int32.ofInt_eq_ofNat
  have hcl : (nI (ln K)).toNatClampNeg = ln K := nI_clamp (ln_lt K)
  obtain ⟨⟨kA, comp, a1, a2, a3⟩, a4⟩ := hG.2.2.2.2.1 K hA
  rw [hy] at a4
  rw [List.map_cons, cv_il h1, e0]
  refine W.anew hx hb hown (hts _ hw) (va_AO.use (hG.2.2.2.2.2.2.1 C hC)) rfl hd rfl (nI_pos (ln_lt K)) (by rw [hcl]; exact hb9) hc (by rw [hcl]; exact hs) fun cA kA comp f1 f2 f3 f4 => ?_
  have hcA : cA = D.1 K := Option.some.inj (f1.symm.trans a4)
  have hEx : Ext v ad (nw v K i) (adN ad K i H.size) := Ext.nw h98.2.1 h.2
  rw [hcl]
  obtain ⟨H1, hH1⟩ : ∃ H1, H1 = H.push { cls := cA, slots := Array.replicate (ln K) .null, vm := .none } := ⟨_, rfl⟩
  rw [← hH1]
  have d1 : H1[H.size]? = some (arrV cA (ln K) (fun _ => defaultValue (aty K))) := by rw [hH1, hy, ← arrV_new]; simp [defaultValue]
  have d2 : H1.size = H.size + 1 := by rw [hH1]; simp
  have d3 : ∀ q, q < H.size → H1[q]? = H[q]? := fun q hq => by rw [hH1, Array.getElem?_push, if_neg (Nat.ne_of_lt hq)]
  have hSt : Sto D B (adN ad K i H.size) (nw v K i) H1 := hS.new h98.2.1 h.2 (hG.2.1 _ hV.1) (ar_born hA hcA (fun j => by rw [tg_ar hA]; exact hok) d1) d3
  have k9 := kk hr (adN ad K i H.size) H1 locs lsA hSt (hE.tr hEx) ⟨by rw [d2]; exact Nat.le_succ_of_le hV.1, fun q h1 h2 => (d3 q (Nat.lt_of_lt_of_le h1 hV.1)).trans (hV.2.1 q h1 h2), hV.2.2⟩ (by rw [ls_ext hEx hls]; exact hl) (fun q hq => ext_okv hEx (hls q hq)) (ok_c (okv_ref.mpr (Or.inr ⟨h.1, by unfold nw; rw [if_neg (by omega), if_pos ⟨rfl, rfl, rfl⟩]⟩)) (fun q hq => ext_okv hEx (ok_t hst q hq)))
  rw [List.map_cons, st_ext hEx (ok_t hst), cv_pos h.1] at k9
  have e9 : adN ad K i H.size K i = H.size := by unfold adN; rw [if_pos ⟨rfl, rfl⟩]
  rw [e9] at k9
  exact k9
end Core4

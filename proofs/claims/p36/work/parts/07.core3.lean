/-! CORE 3: instructions that touch no heap -/
section Core3
variable {x : Cx} {cc : ByteArray} {own nm : String} {rm : Room} {nL : Nat} {rt : Option Nat} {rty : Option FieldType} {lw : Nat} {r r1 r2 : Res} {v : V} {cells slots pc tgt : Nat} {ls ls' : List (Nat × AV)} {st : List AV} {t t1 t2 : Nat} {a b : Int}
def il (t : Nat) : Bool := t == 0 || t == 2
theorem cv_il {ad : Ad} (h : il t = true) : cv ad (t, a) = .int (Int32.ofInt a) := by
  unfold il at h
  simp only [Bool.or_eq_true, beq_iff_eq] at h
  rcases h with rfl | rfl <;> rfl
theorem cv_0 {ad : Ad} : cv ad (0, a) = .int (Int32.ofInt a) := rfl
theorem cv_1 {ad : Ad} : cv ad (1, a) = .long (Int64.ofInt a) := rfl
theorem cv_ref {ad : Ad} {K : Nat} : cv ad (K + 10, a) = va_rf (if a < 0 then none else some (ad K a)) := by
  unfold cv
  dsimp only
  rw [if_neg (by omega), if_neg (by omega), Nat.add_sub_cancel]
  split <;> rfl
theorem cv_neg {ad : Ad} {K : Nat} (h : a < 0) : cv ad (K + 10, a) = .null := by rw [cv_ref, if_pos h]; rfl
theorem cv_pos {ad : Ad} {K : Nat} (h : 0 ≤ a) : cv ad (K + 10, a) = .ref (ad K a) := by rw [cv_ref, if_neg (by omega)]; rfl
theorem okv_0 : okv v (0, a) ↔ R32 a := by unfold okv; dsimp only; rw [if_neg (by decide), if_pos rfl]
theorem okv_1 : okv v (1, a) ↔ R64 a := by unfold okv; dsimp only; rw [if_pos rfl]
theorem okv_2 : okv v (2, a) ↔ (a = 0 ∨ a = 1) := by unfold okv; dsimp only; rw [if_neg (by decide), if_neg (by decide), if_pos (by decide)]
theorem okv_ref {K : Nat} : okv v (K + 10, a) ↔ (a = -1 ∨ (0 ≤ a ∧ v 99 (K : Int) a = 1)) := by
  unfold okv
  dsimp only
  rw [if_neg (by omega), if_neg (by omega), if_neg (by omega), Nat.add_sub_cancel]
theorem okv_il (h : il t = true) (k : okv v (t, a)) : R32 a := by
  unfold il at h
  simp only [Bool.or_eq_true, beq_iff_eq] at h
  rcases h with rfl | rfl
  · exact okv_0.mp k
  · exact R32_01 (okv_2.mp k)
theorem cat_cv {ad : Ad} {q : AV} : (cv ad q).category = if q.1 = 1 then 2 else 1 := by
  unfold cv
  split
  · rfl
  · split
    · rfl
    · split <;> rfl
theorem ok_c {q : AV} (h : okv v q) (h2 : ∀ q ∈ st, okv v q) : ∀ q' ∈ q :: st, okv v q' := List.forall_mem_cons.mpr ⟨h, h2⟩
theorem ok_h {q : AV} (h : ∀ q' ∈ q :: st, okv v q') : okv v q := h q List.mem_cons_self
theorem ok_t {q : AV} (h : ∀ q' ∈ q :: st, okv v q') : ∀ q' ∈ st, okv v q' := fun q' h' => h q' (List.mem_cons_of_mem _ h')
def okc (t : Nat) (n : Int) : Bool := (t == 0 && (decide (-2147483648 ≤ n) && decide (n < 2147483648))) || (t == 2 && (n == 0 || n == 1))
theorem okc_il (h : okc t a = true) : il t = true := by
  unfold okc at h
  unfold il
  simp only [Bool.or_eq_true, Bool.and_eq_true, beq_iff_eq] at h ⊢
  omega
theorem okc_ok (h : okc t a = true) : okv v (t, a) := by
  unfold okc at h
  simp only [Bool.or_eq_true, Bool.and_eq_true, beq_iff_eq, decide_eq_true_eq] at h
  rcases h with ⟨rfl, h⟩ | ⟨rfl, h⟩
  · exact okv_0.mpr h
  · exact okv_2.mpr h
theorem g_chk {q : Prop} [Decidable q] (k : q → Gs x r v cells slots pc ls st) : Gs x (chk q r) v cells slots pc ls st := by
  by_cases h : q
  · rw [chk, if_pos h]; exact k h
  · rw [chk, if_neg h]
    obtain ⟨⟨p, l, e, R, s, m⟩, ⟨args, below, meth, c⟩, ⟨nL', D, B, ad0, v0, rt', lw'⟩⟩ := x
    intro hr
    exact absurd rfl hr
theorem g_if {q : Prop} [Decidable q] (k1 : q → Gs x r1 v cells slots pc ls st) (k2 : ¬ q → Gs x r2 v cells slots pc ls st) : Gs x (if q then r1 else r2) v cells slots pc ls st := by
  by_cases h : q
  · rw [if_pos h]; exact k1 h
  · rw [if_neg h]; exact k2 h
theorem g_none : Gs x none v cells slots pc ls st := by
  obtain ⟨⟨p, l, e, R, s, m⟩, ⟨args, below, meth, c⟩, ⟨nL', D, B, ad0, v0, rt', lw'⟩⟩ := x
  intro hr
  exact absurd rfl hr
theorem g_iadd (F : Fx x cc own nm rm nL rt rty lw) (h1 : il t1 = true) (h2 : il t2 = true) (hd : decode cc pc = .ok (.iadd, 1)) (k : Gs x r v cells slots (pc + 1) ls ((0, w32 (a + b)) :: st)) : Gs x r v cells slots pc ls ((t2, b) :: (t1, a) :: st) := by
  obtain ⟨⟨p, l, e, R, s, m⟩, ⟨args, below, meth, c⟩, ⟨nL', D, B, ad0, v0, rt', lw'⟩⟩ := x
  intro hr ad H locs lsA hS hE hV hl hls hst
  obtain ⟨hx, hb, hown, hR, hml, hnL, hrt, hret, hnm, hlk, het, hG⟩ := id F
  have kk := k hr ad H locs lsA hS hE hV hl hls (ok_c (okv_0.mpr (by first | exact w32_r _ | exact I_r _)) (ok_t (ok_t hst)))
  rw [List.map_cons, List.map_cons, cv_il h1, cv_il h2]
  refine lv_iadd hx hb hd ?_
  rw [I_add]
  exact kk
theorem g_isub (F : Fx x cc own nm rm nL rt rty lw) (h1 : il t1 = true) (h2 : il t2 = true) (hd : decode cc pc = .ok (.isub, 1)) (k : Gs x r v cells slots (pc + 1) ls ((0, w32 (a - b)) :: st)) : Gs x r v cells slots pc ls ((t2, b) :: (t1, a) :: st) := by
  obtain ⟨⟨p, l, e, R, s, m⟩, ⟨args, below, meth, c⟩, ⟨nL', D, B, ad0, v0, rt', lw'⟩⟩ := x
  intro hr ad H locs lsA hS hE hV hl hls hst
  obtain ⟨hx, hb, hown, hR, hml, hnL, hrt, hret, hnm, hlk, het, hG⟩ := id F
  have kk := k hr ad H locs lsA hS hE hV hl hls (ok_c (okv_0.mpr (by first | exact w32_r _ | exact I_r _)) (ok_t (ok_t hst)))
  rw [List.map_cons, List.map_cons, cv_il h1, cv_il h2]
  refine lv_isub hx hb hd ?_
  rw [I_sub]
  exact kk
theorem g_imul (F : Fx x cc own nm rm nL rt rty lw) (h1 : il t1 = true) (h2 : il t2 = true) (hd : decode cc pc = .ok (.imul, 1)) (k : Gs x r v cells slots (pc + 1) ls ((0, w32 (a * b)) :: st)) : Gs x r v cells slots pc ls ((t2, b) :: (t1, a) :: st) := by
  obtain ⟨⟨p, l, e, R, s, m⟩, ⟨args, below, meth, c⟩, ⟨nL', D, B, ad0, v0, rt', lw'⟩⟩ := x
  intro hr ad H locs lsA hS hE hV hl hls hst
  obtain ⟨hx, hb, hown, hR, hml, hnL, hrt, hret, hnm, hlk, het, hG⟩ := id F
  have kk := k hr ad H locs lsA hS hE hV hl hls (ok_c (okv_0.mpr (by first | exact w32_r _ | exact I_r _)) (ok_t (ok_t hst)))
  rw [List.map_cons, List.map_cons, cv_il h1, cv_il h2]
  refine lv_imul hx hb hd ?_
  rw [I_mul]
  exact kk
theorem g_iand (F : Fx x cc own nm rm nL rt rty lw) (h1 : il t1 = true) (h2 : il t2 = true) (hd : decode cc pc = .ok (.iand, 1)) (k : Gs x r v cells slots (pc + 1) ls ((0, and32 a b) :: st)) : Gs x r v cells slots pc ls ((t2, b) :: (t1, a) :: st) := by
  obtain ⟨⟨p, l, e, R, s, m⟩, ⟨args, below, meth, c⟩, ⟨nL', D, B, ad0, v0, rt', lw'⟩⟩ := x
  intro hr ad H locs lsA hS hE hV hl hls hst
  obtain ⟨hx, hb, hown, hR, hml, hnL, hrt, hret, hnm, hlk, het, hG⟩ := id F
  have kk := k hr ad H locs lsA hS hE hV hl hls (ok_c (okv_0.mpr (by first | exact w32_r _ | exact I_r _)) (ok_t (ok_t hst)))
  rw [List.map_cons, List.map_cons, cv_il h1, cv_il h2]
  refine lv_iand hx hb hd ?_
  rw [show Int32.ofInt a &&& Int32.ofInt b = Int32.ofInt (and32 a b) from (I_of _).symm]
  exact kk
theorem g_ior (F : Fx x cc own nm rm nL rt rty lw) (h1 : il t1 = true) (h2 : il t2 = true) (hd : decode cc pc = .ok (.ior, 1)) (k : Gs x r v cells slots (pc + 1) ls ((0, or32 a b) :: st)) : Gs x r v cells slots pc ls ((t2, b) :: (t1, a) :: st) := by
  obtain ⟨⟨p, l, e, R, s, m⟩, ⟨args, below, meth, c⟩, ⟨nL', D, B, ad0, v0, rt', lw'⟩⟩ := x
  intro hr ad H locs lsA hS hE hV hl hls hst
  obtain ⟨hx, hb, hown, hR, hml, hnL, hrt, hret, hnm, hlk, het, hG⟩ := id F
  have kk := k hr ad H locs lsA hS hE hV hl hls (ok_c (okv_0.mpr (by first | exact w32_r _ | exact I_r _)) (ok_t (ok_t hst)))
  rw [List.map_cons, List.map_cons, cv_il h1, cv_il h2]
  refine lv_ior hx hb hd ?_
  rw [show Int32.ofInt a ||| Int32.ofInt b = Int32.ofInt (or32 a b) from (I_of _).symm]
  exact kk
theorem g_ishl (F : Fx x cc own nm rm nL rt rty lw) (h1 : il t1 = true) (h2 : il t2 = true) (hd : decode cc pc = .ok (.ishl, 1)) (k : Gs x r v cells slots (pc + 1) ls ((0, shl32 a b) :: st)) : Gs x r v cells slots pc ls ((t2, b) :: (t1, a) :: st) := by
  obtain ⟨⟨p, l, e, R, s, m⟩, ⟨args, below, meth, c⟩, ⟨nL', D, B, ad0, v0, rt', lw'⟩⟩ := x
  intro hr ad H locs lsA hS hE hV hl hls hst
  obtain ⟨hx, hb, hown, hR, hml, hnL, hrt, hret, hnm, hlk, het, hG⟩ := id F
  have kk := k hr ad H locs lsA hS hE hV hl hls (ok_c (okv_0.mpr (by first | exact w32_r _ | exact I_r _)) (ok_t (ok_t hst)))
  rw [List.map_cons, List.map_cons, cv_il h1, cv_il h2]
  refine lv_ishl hx hb hd ?_
  rw [show Int32.ofInt a <<< (Int32.ofInt b &&& 31) = Int32.ofInt (shl32 a b) from (I_of _).symm]
  exact kk
theorem g_ishr (F : Fx x cc own nm rm nL rt rty lw) (h1 : il t1 = true) (h2 : il t2 = true) (hd : decode cc pc = .ok (.ishr, 1)) (k : Gs x r v cells slots (pc + 1) ls ((0, shr32 a b) :: st)) : Gs x r v cells slots pc ls ((t2, b) :: (t1, a) :: st) := by
  obtain ⟨⟨p, l, e, R, s, m⟩, ⟨args, below, meth, c⟩, ⟨nL', D, B, ad0, v0, rt', lw'⟩⟩ := x
  intro hr ad H locs lsA hS hE hV hl hls hst
  obtain ⟨hx, hb, hown, hR, hml, hnL, hrt, hret, hnm, hlk, het, hG⟩ := id F
  have kk := k hr ad H locs lsA hS hE hV hl hls (ok_c (okv_0.mpr (by first | exact w32_r _ | exact I_r _)) (ok_t (ok_t hst)))
  rw [List.map_cons, List.map_cons, cv_il h1, cv_il h2]
  refine lv_ishr hx hb hd ?_
  rw [show Int32.ofInt a >>> (Int32.ofInt b &&& 31) = Int32.ofInt (shr32 a b) from (I_of _).symm]
  exact kk
theorem g_iushr (F : Fx x cc own nm rm nL rt rty lw) (h1 : il t1 = true) (h2 : il t2 = true) (hd : decode cc pc = .ok (.iushr, 1)) (k : Gs x r v cells slots (pc + 1) ls ((0, ushr32 a b) :: st)) : Gs x r v cells slots pc ls ((t2, b) :: (t1, a) :: st) := by
  obtain ⟨⟨p, l, e, R, s, m⟩, ⟨args, below, meth, c⟩, ⟨nL', D, B, ad0, v0, rt', lw'⟩⟩ := x
  intro hr ad H locs lsA hS hE hV hl hls hst
  obtain ⟨hx, hb, hown, hR, hml, hnL, hrt, hret, hnm, hlk, het, hG⟩ := id F
  have kk := k hr ad H locs lsA hS hE hV hl hls (ok_c (okv_0.mpr (I_r _)) (ok_t (ok_t hst)))
  rw [List.map_cons, List.map_cons, cv_il h1, cv_il h2]
  exact lv_iushr (v := Int32.ofInt (ushr32 a b)) hx hb hd (I_of _).symm kk
theorem g_idiv (F : Fx x cc own nm rm nL rt rty lw) (hne : ¬ b = 0) (h1 : il t1 = true) (h2 : il t2 = true) (hd : decode cc pc = .ok (.idiv, 1)) (k : Gs x r v cells slots (pc + 1) ls ((0, w32 (a.tdiv b)) :: st)) : Gs x r v cells slots pc ls ((t2, b) :: (t1, a) :: st) := by
  obtain ⟨⟨p, l, e, R, s, m⟩, ⟨args, below, meth, c⟩, ⟨nL', D, B, ad0, v0, rt', lw'⟩⟩ := x
  intro hr ad H locs lsA hS hE hV hl hls hst
  obtain ⟨hx, hb, hown, hR, hml, hnL, hrt, hret, hnm, hlk, het, hG⟩ := id F
  have kk := k hr ad H locs lsA hS hE hV hl hls (ok_c (okv_0.mpr (w32_r _)) (ok_t (ok_t hst)))
  have ra := okv_il h1 (ok_h (ok_t hst))
  have rb := okv_il h2 (ok_h hst)
  rw [List.map_cons, List.map_cons, cv_il h1, cv_il h2]
  refine lv_idiv hx hb hd (fun q => hne ((I_eq rb (R32_lit 0 (by decide))).mp q)) ?_
  rw [I_div ra rb]
  exact kk
theorem g_ineg (F : Fx x cc own nm rm nL rt rty lw) (h1 : il t = true) (hd : decode cc pc = .ok (.ineg, 1)) (k : Gs x r v cells slots (pc + 1) ls ((0, w32 (-a)) :: st)) : Gs x r v cells slots pc ls ((t, a) :: st) := by
  obtain ⟨⟨p, l, e, R, s, m⟩, ⟨args, below, meth, c⟩, ⟨nL', D, B, ad0, v0, rt', lw'⟩⟩ := x
  intro hr ad H locs lsA hS hE hV hl hls hst
  obtain ⟨hx, hb, hown, hR, hml, hnL, hrt, hret, hnm, hlk, het, hG⟩ := id F
  have kk := k hr ad H locs lsA hS hE hV hl hls (ok_c (okv_0.mpr (w32_r _)) (ok_t hst))
  rw [List.map_cons, cv_il h1]
  refine lv_ineg hx hb hd ?_
  rw [I_neg]
  exact kk
theorem g_i2l (F : Fx x cc own nm rm nL rt rty lw) (h1 : il t = true) (hd : decode cc pc = .ok (.i2l, 1)) (k : Gs x r v cells slots (pc + 1) ls ((1, a) :: st)) : Gs x r v cells slots pc ls ((t, a) :: st) := by
  obtain ⟨⟨p, l, e, R, s, m⟩, ⟨args, below, meth, c⟩, ⟨nL', D, B, ad0, v0, rt', lw'⟩⟩ := x
  intro hr ad H locs lsA hS hE hV hl hls hst
  obtain ⟨hx, hb, hown, hR, hml, hnL, hrt, hret, hnm, hlk, het, hG⟩ := id F
  have ra := okv_il h1 (ok_h hst)
  have kk := k hr ad H locs lsA hS hE hV hl hls (ok_c (okv_1.mpr (R64_32 ra)) (ok_t hst))
  rw [List.map_cons, cv_il h1]
  exact lv_i2l hx hb hd (I_i2l ra) kk
theorem g_l2i (F : Fx x cc own nm rm nL rt rty lw) (hd : decode cc pc = .ok (.l2i, 1)) (k : Gs x r v cells slots (pc + 1) ls ((0, w32 a) :: st)) : Gs x r v cells slots pc ls ((1, a) :: st) := by
  obtain ⟨⟨p, l, e, R, s, m⟩, ⟨args, below, meth, c⟩, ⟨nL', D, B, ad0, v0, rt', lw'⟩⟩ := x
  intro hr ad H locs lsA hS hE hV hl hls hst
  obtain ⟨hx, hb, hown, hR, hml, hnL, hrt, hret, hnm, hlk, het, hG⟩ := id F
  have ra := okv_1.mp (ok_h hst)
  have kk := k hr ad H locs lsA hS hE hV hl hls (ok_c (okv_0.mpr (w32_r _)) (ok_t hst))
  rw [List.map_cons, cv_1]
  exact lv_l2i hx hb hd (L_l2i ra) kk
theorem g_lcmp (F : Fx x cc own nm rm nL rt rty lw) (hd : decode cc pc = .ok (.lcmp, 1)) (k : Gs x r v cells slots (pc + 1) ls ((0, lcmp a b) :: st)) : Gs x r v cells slots pc ls ((1, b) :: (1, a) :: st) := by
  obtain ⟨⟨p, l, e, R, s, m⟩, ⟨args, below, meth, c⟩, ⟨nL', D, B, ad0, v0, rt', lw'⟩⟩ := x
  intro hr ad H locs lsA hS hE hV hl hls hst
  obtain ⟨hx, hb, hown, hR, hml, hnL, hrt, hret, hnm, hlk, het, hG⟩ := id F
  have rb := okv_1.mp (ok_h hst)
  have ra := okv_1.mp (ok_h (ok_t hst))
  have kk := k hr ad H locs lsA hS hE hV hl hls (ok_c (okv_0.mpr (lcmp_r _ _)) (ok_t (ok_t hst)))
  rw [List.map_cons, List.map_cons, cv_1, cv_1]
  refine W.lcmp hx hb hd ?_
  have e9 : lg_cmp (Int64.ofInt a) (Int64.ofInt b) = Int32.ofInt (lcmp a b) := by
    unfold lg_cmp lcmp
    simp only [L_lt rb ra, L_eq ra rb]
    by_cases q1 : a < b
    · rw [if_pos q1, if_neg (by omega), if_neg (by omega)]; rfl
    · rw [if_neg q1]
      by_cases q3 : a = b
      · rw [if_pos q3, if_neg (by omega), if_pos q3]; rfl
      · rw [if_neg q3, if_neg q3, if_pos (by omega)]; rfl
  rw [e9]
  exact kk
theorem g_ladd (F : Fx x cc own nm rm nL rt rty lw) (hd : decode cc pc = .ok (.ladd, 1)) (k : Gs x r v cells slots (pc + 1) ls ((1, w64 (a + b)) :: st)) : Gs x r v cells slots pc ls ((1, b) :: (1, a) :: st) := by
  obtain ⟨⟨p, l, e, R, s, m⟩, ⟨args, below, meth, c⟩, ⟨nL', D, B, ad0, v0, rt', lw'⟩⟩ := x
  intro hr ad H locs lsA hS hE hV hl hls hst
  obtain ⟨hx, hb, hown, hR, hml, hnL, hrt, hret, hnm, hlk, het, hG⟩ := id F
  have kk := k hr ad H locs lsA hS hE hV hl hls (ok_c (okv_1.mpr (w64_r _)) (ok_t (ok_t hst)))
  rw [List.map_cons, List.map_cons, cv_1, cv_1]
  refine lv_ladd hx hb hd ?_
  rw [L_add]
  exact kk
theorem g_lsub (F : Fx x cc own nm rm nL rt rty lw) (hd : decode cc pc = .ok (.lsub, 1)) (k : Gs x r v cells slots (pc + 1) ls ((1, w64 (a - b)) :: st)) : Gs x r v cells slots pc ls ((1, b) :: (1, a) :: st) := by
  obtain ⟨⟨p, l, e, R, s, m⟩, ⟨args, below, meth, c⟩, ⟨nL', D, B, ad0, v0, rt', lw'⟩⟩ := x
  intro hr ad H locs lsA hS hE hV hl hls hst
  obtain ⟨hx, hb, hown, hR, hml, hnL, hrt, hret, hnm, hlk, het, hG⟩ := id F
  have kk := k hr ad H locs lsA hS hE hV hl hls (ok_c (okv_1.mpr (w64_r _)) (ok_t (ok_t hst)))
  rw [List.map_cons, List.map_cons, cv_1, cv_1]
  refine lv_lsub hx hb hd ?_
  rw [L_sub]
  exact kk
theorem g_lmul (F : Fx x cc own nm rm nL rt rty lw) (hd : decode cc pc = .ok (.lmul, 1)) (k : Gs x r v cells slots (pc + 1) ls ((1, w64 (a * b)) :: st)) : Gs x r v cells slots pc ls ((1, b) :: (1, a) :: st) := by
  obtain ⟨⟨p, l, e, R, s, m⟩, ⟨args, below, meth, c⟩, ⟨nL', D, B, ad0, v0, rt', lw'⟩⟩ := x
  intro hr ad H locs lsA hS hE hV hl hls hst
  obtain ⟨hx, hb, hown, hR, hml, hnL, hrt, hret, hnm, hlk, het, hG⟩ := id F
  have kk := k hr ad H locs lsA hS hE hV hl hls (ok_c (okv_1.mpr (w64_r _)) (ok_t (ok_t hst)))
  rw [List.map_cons, List.map_cons, cv_1, cv_1]
  refine lv_lmul hx hb hd ?_
  rw [L_mul]
  exact kk
theorem g_ldiv (F : Fx x cc own nm rm nL rt rty lw) (hne : ¬ b = 0) (hd : decode cc pc = .ok (.ldiv, 1)) (k : Gs x r v cells slots (pc + 1) ls ((1, w64 (a.tdiv b)) :: st)) : Gs x r v cells slots pc ls ((1, b) :: (1, a) :: st) := by
  obtain ⟨⟨p, l, e, R, s, m⟩, ⟨args, below, meth, c⟩, ⟨nL', D, B, ad0, v0, rt', lw'⟩⟩ := x
  intro hr ad H locs lsA hS hE hV hl hls hst
  obtain ⟨hx, hb, hown, hR, hml, hnL, hrt, hret, hnm, hlk, het, hG⟩ := id F
  have kk := k hr ad H locs lsA hS hE hV hl hls (ok_c (okv_1.mpr (w64_r _)) (ok_t (ok_t hst)))
  have rb := okv_1.mp (ok_h hst)
  have ra := okv_1.mp (ok_h (ok_t hst))
  rw [List.map_cons, List.map_cons, cv_1, cv_1]
  refine lv_ldiv hx hb hd (fun q => hne ((L_eq rb (R64_lit 0 (by decide))).mp q)) ?_
  rw [L_div ra rb]
  exact kk
theorem g_iconst (F : Fx x cc own nm rm nL rt rty lw) {n : Int} (t : Nat) (hk : okc t n = true) (hd : decode cc pc = .ok (.iconst n, 1)) (k : Gs x r v cells slots (pc + 1) ls ((t, n) :: st)) : Gs x r v cells slots pc ls st := by
  obtain ⟨⟨p, l, e, R, s, m⟩, ⟨args, below, meth, c⟩, ⟨nL', D, B, ad0, v0, rt', lw'⟩⟩ := x
  intro hr ad H locs lsA hS hE hV hl hls hst
  obtain ⟨hx, hb, hown, hR, hml, hnL, hrt, hret, hnm, hlk, het, hG⟩ := id F
  have kk := k hr ad H locs lsA hS hE hV hl hls (ok_c (okc_ok hk) hst)
  rw [List.map_cons, cv_il (okc_il hk)] at kk
  exact lv_iconst hx hb hd rfl kk
theorem g_bipush (F : Fx x cc own nm rm nL rt rty lw) {n : Int} (hk : okc 0 n = true) (hv : (Int8.ofInt n).toInt32 = Int32.ofInt n) (hd : decode cc pc = .ok (.bipush n, 2)) (k : Gs x r v cells slots (pc + 2) ls ((0, n) :: st)) : Gs x r v cells slots pc ls st := by
  obtain ⟨⟨p, l, e, R, s, m⟩, ⟨args, below, meth, c⟩, ⟨nL', D, B, ad0, v0, rt', lw'⟩⟩ := x
  intro hr ad H locs lsA hS hE hV hl hls hst
  obtain ⟨hx, hb, hown, hR, hml, hnL, hrt, hret, hnm, hlk, het, hG⟩ := id F
  have kk := k hr ad H locs lsA hS hE hV hl hls (ok_c (okc_ok hk) hst)
  exact lv_bipush hx hb hd hv kk
theorem g_sipush (F : Fx x cc own nm rm nL rt rty lw) {n : Int} (hk : okc 0 n = true) (hv : (Int16.ofInt n).toInt32 = Int32.ofInt n) (hd : decode cc pc = .ok (.sipush n, 3)) (k : Gs x r v cells slots (pc + 3) ls ((0, n) :: st)) : Gs x r v cells slots pc ls st := by
  obtain ⟨⟨p, l, e, R, s, m⟩, ⟨args, below, meth, c⟩, ⟨nL', D, B, ad0, v0, rt', lw'⟩⟩ := x
  intro hr ad H locs lsA hS hE hV hl hls hst
  obtain ⟨hx, hb, hown, hR, hml, hnL, hrt, hret, hnm, hlk, het, hG⟩ := id F
  have kk := k hr ad H locs lsA hS hE hV hl hls (ok_c (okc_ok hk) hst)
  exact lv_sipush hx hb hd hv kk
theorem g_ldc (F : Fx x cc own nm rm nL rt rty lw) {n : Int} {i : Nat} (hk : okc 0 n = true) (hw : Cond.constant own i (Int32.ofInt n) ∈ gtbl) (hd : decode cc pc = .ok (.ldc i, 2)) (k : Gs x r v cells slots (pc + 2) ls ((0, n) :: st)) : Gs x r v cells slots pc ls st := by
  obtain ⟨⟨p, l, e, R, s, m⟩, ⟨args, below, meth, c⟩, ⟨nL', D, B, ad0, v0, rt', lw'⟩⟩ := x
  intro hr ad H locs lsA hS hE hV hl hls hst
  obtain ⟨hx, hb, hown, hR, hml, hnL, hrt, hret, hnm, hlk, het, hG⟩ := id F
  have kk := k hr ad H locs lsA hS hE hV hl hls (ok_c (okc_ok hk) hst)
  exact lv_ldc hx hb hown (hG.2.2.1 _ hw _) hd kk
theorem g_ldcw (F : Fx x cc own nm rm nL rt rty lw) {n : Int} {i : Nat} (hk : okc 0 n = true) (hw : Cond.constant own i (Int32.ofInt n) ∈ gtbl) (hd : decode cc pc = .ok (.ldc_w i, 3)) (k : Gs x r v cells slots (pc + 3) ls ((0, n) :: st)) : Gs x r v cells slots pc ls st := by
  obtain ⟨⟨p, l, e, R, s, m⟩, ⟨args, below, meth, c⟩, ⟨nL', D, B, ad0, v0, rt', lw'⟩⟩ := x
  intro hr ad H locs lsA hS hE hV hl hls hst
  obtain ⟨hx, hb, hown, hR, hml, hnL, hrt, hret, hnm, hlk, het, hG⟩ := id F
  have kk := k hr ad H locs lsA hS hE hV hl hls (ok_c (okc_ok hk) hst)
  exact lv_ldcw hx hb hown (hG.2.2.1 _ hw _) hd kk
theorem g_lconst (F : Fx x cc own nm rm nL rt rty lw) {n : Fin 2} {z : Int} (hz : ((n : Nat) : Int) = z) (hd : decode cc pc = .ok (.lconst n, 1)) (k : Gs x r v cells slots (pc + 1) ls ((1, z) :: st)) : Gs x r v cells slots pc ls st := by
  obtain ⟨⟨p, l, e, R, s, m⟩, ⟨args, below, meth, c⟩, ⟨nL', D, B, ad0, v0, rt', lw'⟩⟩ := x
  intro hr ad H locs lsA hS hE hV hl hls hst
  obtain ⟨hx, hb, hown, hR, hml, hnL, hrt, hret, hnm, hlk, het, hG⟩ := id F
  subst hz
  have kk := k hr ad H locs lsA hS hE hV hl hls (ok_c (okv_1.mpr (by have := n.isLt; unfold R64; omega)) hst)
  refine lv_lconst (v := Int64.ofInt ((n : Nat) : Int)) hx hb hd ?_ kk
  rw [Int64.ofInt_eq_ofNat]
theorem g_ldc2 (F : Fx x cc own nm rm nL rt rty lw) {n : Int} {i : Nat} (hk : (decide (-9223372036854775808 ≤ n) && decide (n < 9223372036854775808)) = true) (hw : Cond.constantLong own i (Int64.ofInt n) ∈ gtbl) (hd : decode cc pc = .ok (.ldc2_w i, 3)) (k : Gs x r v cells slots (pc + 3) ls ((1, n) :: st)) : Gs x r v cells slots pc ls st := by
  obtain ⟨⟨p, l, e, R, s, m⟩, ⟨args, below, meth, c⟩, ⟨nL', D, B, ad0, v0, rt', lw'⟩⟩ := x
  intro hr ad H locs lsA hS hE hV hl hls hst
  obtain ⟨hx, hb, hown, hR, hml, hnL, hrt, hret, hnm, hlk, het, hG⟩ := id F
  have kk := k hr ad H locs lsA hS hE hV hl hls (ok_c (okv_1.mpr (R64_lit n hk)) hst)
  exact lv_ldc2 hx hb hown (hG.2.2.1 _ hw _) hd kk
theorem g_null (F : Fx x cc own nm rm nL rt rty lw) (K : Nat) (hd : decode cc pc = .ok (.aconst_null, 1)) (k : Gs x r v cells slots (pc + 1) ls ((K + 10, -1) :: st)) : Gs x r v cells slots pc ls st := by
  obtain ⟨⟨p, l, e, R, s, m⟩, ⟨args, below, meth, c⟩, ⟨nL', D, B, ad0, v0, rt', lw'⟩⟩ := x
  intro hr ad H locs lsA hS hE hV hl hls hst
  obtain ⟨hx, hb, hown, hR, hml, hnL, hrt, hret, hnm, hlk, het, hG⟩ := id F
  have kk := k hr ad H locs lsA hS hE hV hl hls (ok_c (okv_ref.mpr (Or.inl rfl)) hst)
  rw [List.map_cons, cv_neg (by decide)] at kk
  exact lv_null hx hb hd kk
theorem lv_q {ad : Ad} {lsA : Array Slot} {i j : Nat} {q : AV} (hl : lv_has lsA nL (ls.map (clv ad))) (hj : ls[j]? = some (i, q)) : lsA[i]? = some (.val (cv ad q)) := by
  refine lv_at hl j ?_
  rw [List.getElem?_map, hj]
  rfl
theorem ok_q {i j : Nat} {q : AV} (hls : ∀ q ∈ ls, okv v q.2) (hj : ls[j]? = some (i, q)) : okv v q := hls (i, q) (List.mem_of_getElem? hj)
theorem g_iload_n (F : Fx x cc own nm rm nL rt rty lw) {k9 : Fin 4} {i : Nat} (hi : (k9 : Nat) = i) (j : Nat) (ht : il t = true) (hj : ls[j]? = some (i, (t, a))) (hd : decode cc pc = .ok (.iload_n k9, 1)) (k : Gs x r v cells slots (pc + 1) ls ((t, a) :: st)) : Gs x r v cells slots pc ls st := by
  obtain ⟨⟨p, l, e, R, s, m⟩, ⟨args, below, meth, c⟩, ⟨nL', D, B, ad0, v0, rt', lw'⟩⟩ := x
  intro hr ad H locs lsA hS hE hV hl hls hst
  obtain ⟨hx, hb, hown, hR, hml, hnL, hrt, hret, hnm, hlk, het, hG⟩ := id F
  have kk := k hr ad H locs lsA hS hE hV hl hls (ok_c (ok_q hls hj) hst)
  have hq := lv_q hl hj
  rw [cv_il ht] at hq
  rw [List.map_cons, cv_il ht] at kk
  exact lv_iload_n hx hb hd hi hq kk
theorem g_iload (F : Fx x cc own nm rm nL rt rty lw) {i : Nat} (j : Nat) (ht : il t = true) (hj : ls[j]? = some (i, (t, a))) (hd : decode cc pc = .ok (.iload i, 2)) (k : Gs x r v cells slots (pc + 2) ls ((t, a) :: st)) : Gs x r v cells slots pc ls st := by
  obtain ⟨⟨p, l, e, R, s, m⟩, ⟨args, below, meth, c⟩, ⟨nL', D, B, ad0, v0, rt', lw'⟩⟩ := x
  intro hr ad H locs lsA hS hE hV hl hls hst
  obtain ⟨hx, hb, hown, hR, hml, hnL, hrt, hret, hnm, hlk, het, hG⟩ := id F
  have kk := k hr ad H locs lsA hS hE hV hl hls (ok_c (ok_q hls hj) hst)
  have hq := lv_q hl hj
  rw [cv_il ht] at hq
  rw [List.map_cons, cv_il ht] at kk
  exact lv_iload hx hb hd hq kk
theorem g_aload_n (F : Fx x cc own nm rm nL rt rty lw) {k9 : Fin 4} {i : Nat} (hi : (k9 : Nat) = i) (j : Nat) {K : Nat} (hj : ls[j]? = some (i, (K + 10, a))) (hd : decode cc pc = .ok (.aload_n k9, 1)) (k : Gs x r v cells slots (pc + 1) ls ((K + 10, a) :: st)) : Gs x r v cells slots pc ls st := by
  obtain ⟨⟨p, l, e, R, s, m⟩, ⟨args, below, meth, c⟩, ⟨nL', D, B, ad0, v0, rt', lw'⟩⟩ := x
  intro hr ad H locs lsA hS hE hV hl hls hst
  obtain ⟨hx, hb, hown, hR, hml, hnL, hrt, hret, hnm, hlk, het, hG⟩ := id F
  have kk := k hr ad H locs lsA hS hE hV hl hls (ok_c (ok_q hls hj) hst)
  have hq := lv_q hl hj
  by_cases h9 : a < 0
  · rw [cv_neg h9] at hq
    rw [List.map_cons, cv_neg h9] at kk
    exact lv_aload_nN hx hb hd hi hq kk
  · rw [cv_pos (by omega)] at hq
    rw [List.map_cons, cv_pos (by omega)] at kk
    exact lv_aload_n hx hb hd hi hq kk
theorem g_aload (F : Fx x cc own nm rm nL rt rty lw) {i : Nat} (j : Nat) {K : Nat} (hj : ls[j]? = some (i, (K + 10, a))) (hd : decode cc pc = .ok (.aload i, 2)) (k : Gs x r v cells slots (pc + 2) ls ((K + 10, a) :: st)) : Gs x r v cells slots pc ls st := by
  obtain ⟨⟨p, l, e, R, s, m⟩, ⟨args, below, meth, c⟩, ⟨nL', D, B, ad0, v0, rt', lw'⟩⟩ := x
  intro hr ad H locs lsA hS hE hV hl hls hst
  obtain ⟨hx, hb, hown, hR, hml, hnL, hrt, hret, hnm, hlk, het, hG⟩ := id F
  have kk := k hr ad H locs lsA hS hE hV hl hls (ok_c (ok_q hls hj) hst)
  have hq := lv_q hl hj
  by_cases h9 : a < 0
  · rw [cv_neg h9] at hq
    rw [List.map_cons, cv_neg h9] at kk
    exact lv_aloadN hx hb hd hq kk
  · rw [cv_pos (by omega)] at hq
    rw [List.map_cons, cv_pos (by omega)] at kk
    exact lv_aload hx hb hd hq kk
theorem g_lload_n (F : Fx x cc own nm rm nL rt rty lw) {k9 : Fin 4} {i : Nat} (hi : (k9 : Nat) = i) (j : Nat) (hj : ls[j]? = some (i, (1, a))) (hd : decode cc pc = .ok (.lload_n k9, 1)) (k : Gs x r v cells slots (pc + 1) ls ((1, a) :: st)) : Gs x r v cells slots pc ls st := by
  obtain ⟨⟨p, l, e, R, s, m⟩, ⟨args, below, meth, c⟩, ⟨nL', D, B, ad0, v0, rt', lw'⟩⟩ := x
  intro hr ad H locs lsA hS hE hV hl hls hst
  obtain ⟨hx, hb, hown, hR, hml, hnL, hrt, hret, hnm, hlk, het, hG⟩ := id F
  have kk := k hr ad H locs lsA hS hE hV hl hls (ok_c (ok_q hls hj) hst)
  have hq := lv_q hl hj
  exact lv_lload_n hx hb hd hi hq kk
theorem g_lload (F : Fx x cc own nm rm nL rt rty lw) {i : Nat} (j : Nat) (hj : ls[j]? = some (i, (1, a))) (hd : decode cc pc = .ok (.lload i, 2)) (k : Gs x r v cells slots (pc + 2) ls ((1, a) :: st)) : Gs x r v cells slots pc ls st := by
  obtain ⟨⟨p, l, e, R, s, m⟩, ⟨args, below, meth, c⟩, ⟨nL', D, B, ad0, v0, rt', lw'⟩⟩ := x
  intro hr ad H locs lsA hS hE hV hl hls hst
  obtain ⟨hx, hb, hown, hR, hml, hnL, hrt, hret, hnm, hlk, het, hG⟩ := id F
  have kk := k hr ad H locs lsA hS hE hV hl hls (ok_c (ok_q hls hj) hst)
  have hq := lv_q hl hj
  exact lv_lload hx hb hd hq kk
def lput (l : List (Nat × AV)) (i : Nat) (q : AV) : List (Nat × AV) := (i, q) :: l.filter (fun z => !(z.1 == i) && !(z.1 + 1 == i && z.2.1 == 1))
def lput2 (l : List (Nat × AV)) (i : Nat) (q : AV) : List (Nat × AV) := (i, q) :: l.filter (fun z => !(z.1 == i) && (!(z.1 == i + 1) && !(z.1 + 1 == i && z.2.1 == 1)))
theorem cat2 {ad : Ad} {q : AV} : ((cv ad q).category == 2) = (q.1 == 1) := by
  rw [cat_cv]
  by_cases h : q.1 = 1
  · rw [if_pos h, h]; rfl
  · rw [if_neg h]
    simp [h]
theorem lput_map {ad : Ad} {l : List (Nat × AV)} {i : Nat} {q : AV} : (i, cv ad q) :: (l.map (clv ad)).filter (fun z => !(z.1 == i) && !(z.1 + 1 == i && z.2.category == 2)) = (lput l i q).map (clv ad) := by
  unfold lput
  rw [List.map_cons, List.filter_map]
  congr 2
  apply List.filter_congr
  intro z _
  simp only [Function.comp_apply, clv, cat2]
theorem lput2_map {ad : Ad} {l : List (Nat × AV)} {i : Nat} {q : AV} : (i, cv ad q) :: (l.map (clv ad)).filter (fun z => !(z.1 == i) && (!(z.1 == i + 1) && !(z.1 + 1 == i && z.2.category == 2))) = (lput2 l i q).map (clv ad) := by
  unfold lput2
  rw [List.map_cons, List.filter_map]
  congr 2
  apply List.filter_congr
  intro z _
  simp only [Function.comp_apply, clv, cat2]
theorem ok_put {i : Nat} {q : AV} (h : okv v q) (hls : ∀ q ∈ ls, okv v q.2) : ∀ z ∈ lput ls i q, okv v z.2 := List.forall_mem_cons.mpr ⟨h, fun z hz => hls z (List.mem_filter.mp hz).1⟩
theorem ok_put2 {i : Nat} {q : AV} (h : okv v q) (hls : ∀ q ∈ ls, okv v q.2) : ∀ z ∈ lput2 ls i q, okv v z.2 := List.forall_mem_cons.mpr ⟨h, fun z hz => hls z (List.mem_filter.mp hz).1⟩
theorem g_istore_n (F : Fx x cc own nm rm nL rt rty lw) {k9 : Fin 4} {i : Nat} (hi : (k9 : Nat) = i) (ht : il t = true) (hn : i < nL) (he : lput ls i (t, a) = ls') (hd : decode cc pc = .ok (.istore_n k9, 1)) (k : Gs x r v cells slots (pc + 1) ls' st) : Gs x r v cells slots pc ls ((t, a) :: st) := by
  obtain ⟨⟨p, l, e, R, s, m⟩, ⟨args, below, meth, c⟩, ⟨nL', D, B, ad0, v0, rt', lw'⟩⟩ := x
  intro hr ad H locs lsA hS hE hV hl hls hst
  obtain ⟨hx, hb, hown, hR, hml, hnL, hrt, hret, hnm, hlk, het, hG⟩ := id F
  subst he
  subst hnL
  have kk := fun lsB hlB => k hr ad H locs lsB hS hE hV hlB (ok_put (ok_h hst) hls) (ok_t hst)
  rw [List.map_cons, cv_il ht]
  exact lv_istore_n hx hb hd hi hl hn (by rw [← lput_map, cv_il ht]) kk
theorem g_istore (F : Fx x cc own nm rm nL rt rty lw) {i : Nat} (ht : il t = true) (hn : i < nL) (he : lput ls i (t, a) = ls') (hd : decode cc pc = .ok (.istore i, 2)) (k : Gs x r v cells slots (pc + 2) ls' st) : Gs x r v cells slots pc ls ((t, a) :: st) := by
  obtain ⟨⟨p, l, e, R, s, m⟩, ⟨args, below, meth, c⟩, ⟨nL', D, B, ad0, v0, rt', lw'⟩⟩ := x
  intro hr ad H locs lsA hS hE hV hl hls hst
  obtain ⟨hx, hb, hown, hR, hml, hnL, hrt, hret, hnm, hlk, het, hG⟩ := id F
  subst he
  subst hnL
  have kk := fun lsB hlB => k hr ad H locs lsB hS hE hV hlB (ok_put (ok_h hst) hls) (ok_t hst)
  rw [List.map_cons, cv_il ht]
  exact lv_istore hx hb hd hl hn (by rw [← lput_map, cv_il ht]) kk
theorem g_astore_n (F : Fx x cc own nm rm nL rt rty lw) {k9 : Fin 4} {i : Nat} (hi : (k9 : Nat) = i) {K : Nat} (hn : i < nL) (he : lput ls i (K + 10, a) = ls') (hd : decode cc pc = .ok (.astore_n k9, 1)) (k : Gs x r v cells slots (pc + 1) ls' st) : Gs x r v cells slots pc ls ((K + 10, a) :: st) := by
  obtain ⟨⟨p, l, e, R, s, m⟩, ⟨args, below, meth, c⟩, ⟨nL', D, B, ad0, v0, rt', lw'⟩⟩ := x
  intro hr ad H locs lsA hS hE hV hl hls hst
  obtain ⟨hx, hb, hown, hR, hml, hnL, hrt, hret, hnm, hlk, het, hG⟩ := id F
  subst he
  subst hnL
  have kk := fun lsB hlB => k hr ad H locs lsB hS hE hV hlB (ok_put (ok_h hst) hls) (ok_t hst)
  by_cases h9 : a < 0
  · rw [List.map_cons, cv_neg h9]
    exact lv_astore_nN hx hb hd hi hl hn (by rw [← lput_map, cv_neg h9]) kk
  · rw [List.map_cons, cv_pos (by omega)]
    exact lv_astore_n hx hb hd hi hl hn (by rw [← lput_map, cv_pos (by omega)]) kk
theorem g_astore (F : Fx x cc own nm rm nL rt rty lw) {i : Nat} {K : Nat} (hn : i < nL) (he : lput ls i (K + 10, a) = ls') (hd : decode cc pc = .ok (.astore i, 2)) (k : Gs x r v cells slots (pc + 2) ls' st) : Gs x r v cells slots pc ls ((K + 10, a) :: st) := by
  obtain ⟨⟨p, l, e, R, s, m⟩, ⟨args, below, meth, c⟩, ⟨nL', D, B, ad0, v0, rt', lw'⟩⟩ := x
  intro hr ad H locs lsA hS hE hV hl hls hst
  obtain ⟨hx, hb, hown, hR, hml, hnL, hrt, hret, hnm, hlk, het, hG⟩ := id F
  subst he
  subst hnL
  have kk := fun lsB hlB => k hr ad H locs lsB hS hE hV hlB (ok_put (ok_h hst) hls) (ok_t hst)
  by_cases h9 : a < 0
  · rw [List.map_cons, cv_neg h9]
    exact lv_astoreN hx hb hd hl hn (by rw [← lput_map, cv_neg h9]) kk
  · rw [List.map_cons, cv_pos (by omega)]
    exact lv_astore hx hb hd hl hn (by rw [← lput_map, cv_pos (by omega)]) kk
theorem g_lstore_n (F : Fx x cc own nm rm nL rt rty lw) {k9 : Fin 4} {i : Nat} (hi : (k9 : Nat) = i) (hn : i + 1 < nL) (he : lput2 ls i (1, a) = ls') (hd : decode cc pc = .ok (.lstore_n k9, 1)) (k : Gs x r v cells slots (pc + 1) ls' st) : Gs x r v cells slots pc ls ((1, a) :: st) := by
  obtain ⟨⟨p, l, e, R, s, m⟩, ⟨args, below, meth, c⟩, ⟨nL', D, B, ad0, v0, rt', lw'⟩⟩ := x
  intro hr ad H locs lsA hS hE hV hl hls hst
  obtain ⟨hx, hb, hown, hR, hml, hnL, hrt, hret, hnm, hlk, het, hG⟩ := id F
  subst he
  subst hnL
  have kk := fun lsB hlB => k hr ad H locs lsB hS hE hV hlB (ok_put2 (ok_h hst) hls) (ok_t hst)
  exact lv_lstore_n hx hb hd hi hl hn (by rw [← lput2_map]; rfl) kk
theorem g_lstore (F : Fx x cc own nm rm nL rt rty lw) {i : Nat} (hn : i + 1 < nL) (he : lput2 ls i (1, a) = ls') (hd : decode cc pc = .ok (.lstore i, 2)) (k : Gs x r v cells slots (pc + 2) ls' st) : Gs x r v cells slots pc ls ((1, a) :: st) := by
  obtain ⟨⟨p, l, e, R, s, m⟩, ⟨args, below, meth, c⟩, ⟨nL', D, B, ad0, v0, rt', lw'⟩⟩ := x
  intro hr ad H locs lsA hS hE hV hl hls hst
  obtain ⟨hx, hb, hown, hR, hml, hnL, hrt, hret, hnm, hlk, het, hG⟩ := id F
  subst he
  subst hnL
  have kk := fun lsB hlB => k hr ad H locs lsB hS hE hV hlB (ok_put2 (ok_h hst) hls) (ok_t hst)
  exact lv_lstore hx hb hd hl hn (by rw [← lput2_map]; rfl) kk
theorem g_iinc (F : Fx x cc own nm rm nL rt rty lw) {i : Nat} {n : Int} (j : Nat) (ht : il t = true) (hj : ls[j]? = some (i, (t, a))) (hn : i < nL) (he : lput ls i (0, w32 (a + n)) = ls') (hd : decode cc pc = .ok (.iinc i n, 3)) (k : Gs x r v cells slots (pc + 3) ls' st) : Gs x r v cells slots pc ls st := by
  obtain ⟨⟨p, l, e, R, s, m⟩, ⟨args, below, meth, c⟩, ⟨nL', D, B, ad0, v0, rt', lw'⟩⟩ := x
  intro hr ad H locs lsA hS hE hV hl hls hst
  obtain ⟨hx, hb, hown, hR, hml, hnL, hrt, hret, hnm, hlk, het, hG⟩ := id F
  subst he
  subst hnL
  have kk := fun lsB hlB => k hr ad H locs lsB hS hE hV hlB (ok_put (okv_0.mpr (w32_r _)) hls) hst
  refine lv_iinc (k := j) (x := Int32.ofInt a) (v := Int32.ofInt (w32 (a + n))) hx hb hd hl ?_ ?_ hn (by rw [← lput_map]; rfl) kk
  · rw [List.getElem?_map, hj]
    show some (i, cv ad (t, a)) = _
    rw [cv_il ht]
  · rw [I_add]
theorem g_if_eq (F : Fx x cc own nm rm nL rt rty lw) (h1 : il t = true) {off : Int} (ht : (pc : Int) + off = (tgt : Int)) (hd : decode cc pc = .ok (.ifCond .eq off, 3)) (k1 : a = 0 → Gs x r1 v cells slots tgt ls st) (k2 : ¬ (a = 0) → Gs x r2 v cells slots (pc + 3) ls st) : Gs x (if a = 0 then r1 else r2) v cells slots pc ls ((t, a) :: st) := by
  by_cases h9 : a = 0
  · rw [if_pos h9]
    have k := k1 h9
    clear k1 k2
    obtain ⟨⟨p, l, e, R, s, m⟩, ⟨args, below, meth, c⟩, ⟨nL', D, B, ad0, v0, rt', lw'⟩⟩ := x
    intro hr ad H locs lsA hS hE hV hl hls hst
    obtain ⟨hx, hb, hown, hR, hml, hnL, hrt, hret, hnm, hlk, het, hG⟩ := id F
    have kk := k hr ad H locs lsA hS hE hV hl hls (ok_t hst)
    have ra := okv_il h1 (ok_h hst)
    have z0 : R32 0 := R32_lit 0 (by decide)
    rw [List.map_cons, cv_il h1]
    exact lv_if_eq hx hb hd ht (fun _ => kk) (fun q => absurd ((I_eq ra z0).mpr h9) q)
  · rw [if_neg h9]
    have k := k2 h9
    clear k1 k2
    obtain ⟨⟨p, l, e, R, s, m⟩, ⟨args, below, meth, c⟩, ⟨nL', D, B, ad0, v0, rt', lw'⟩⟩ := x
    intro hr ad H locs lsA hS hE hV hl hls hst
    obtain ⟨hx, hb, hown, hR, hml, hnL, hrt, hret, hnm, hlk, het, hG⟩ := id F
    have kk := k hr ad H locs lsA hS hE hV hl hls (ok_t hst)
    have ra := okv_il h1 (ok_h hst)
    have z0 : R32 0 := R32_lit 0 (by decide)
    rw [List.map_cons, cv_il h1]
    exact lv_if_eq hx hb hd ht (fun q => absurd ((I_eq ra z0).mp q) h9) (fun _ => kk)
theorem g_if_eq_t (F : Fx x cc own nm rm nL rt rty lw) (h1 : il t = true) {off : Int} (h9 : a = 0) (ht : (pc : Int) + off = (tgt : Int)) (hd : decode cc pc = .ok (.ifCond .eq off, 3)) (k : Gs x r v cells slots tgt ls st) : Gs x r v cells slots pc ls ((t, a) :: st) := by
  have h := g_if_eq (r1 := r) (r2 := r) F h1 ht hd (fun _ => k) (fun q => absurd h9 q)
  rwa [if_pos h9] at h
theorem g_if_eq_f (F : Fx x cc own nm rm nL rt rty lw) (h1 : il t = true) {off : Int} (h9 : ¬ (a = 0)) (ht : (pc : Int) + off = (tgt : Int)) (hd : decode cc pc = .ok (.ifCond .eq off, 3)) (k : Gs x r v cells slots (pc + 3) ls st) : Gs x r v cells slots pc ls ((t, a) :: st) := by
  have h := g_if_eq (r1 := r) (r2 := r) F h1 ht hd (fun q => absurd q h9) (fun _ => k)
  rwa [if_neg h9] at h
theorem g_icmp_eq (F : Fx x cc own nm rm nL rt rty lw) (h1 : il t1 = true) (h2 : il t2 = true) {off : Int} (ht : (pc : Int) + off = (tgt : Int)) (hd : decode cc pc = .ok (.if_icmp .eq off, 3)) (k1 : a = b → Gs x r1 v cells slots tgt ls st) (k2 : ¬ (a = b) → Gs x r2 v cells slots (pc + 3) ls st) : Gs x (if a = b then r1 else r2) v cells slots pc ls ((t2, b) :: (t1, a) :: st) := by
  by_cases h9 : a = b
  · rw [if_pos h9]
    have k := k1 h9
    clear k1 k2
    obtain ⟨⟨p, l, e, R, s, m⟩, ⟨args, below, meth, c⟩, ⟨nL', D, B, ad0, v0, rt', lw'⟩⟩ := x
    intro hr ad H locs lsA hS hE hV hl hls hst
    obtain ⟨hx, hb, hown, hR, hml, hnL, hrt, hret, hnm, hlk, het, hG⟩ := id F
    have kk := k hr ad H locs lsA hS hE hV hl hls (ok_t (ok_t hst))
    have ra := okv_il h1 (ok_h (ok_t hst))
    have rb := okv_il h2 (ok_h hst)
    rw [List.map_cons, List.map_cons, cv_il h1, cv_il h2]
    exact lv_icmp_eq hx hb hd ht (fun _ => kk) (fun q => absurd ((I_eq ra rb).mpr h9) q)
  · rw [if_neg h9]
    have k := k2 h9
    clear k1 k2
    obtain ⟨⟨p, l, e, R, s, m⟩, ⟨args, below, meth, c⟩, ⟨nL', D, B, ad0, v0, rt', lw'⟩⟩ := x
    intro hr ad H locs lsA hS hE hV hl hls hst
    obtain ⟨hx, hb, hown, hR, hml, hnL, hrt, hret, hnm, hlk, het, hG⟩ := id F
    have kk := k hr ad H locs lsA hS hE hV hl hls (ok_t (ok_t hst))
    have ra := okv_il h1 (ok_h (ok_t hst))
    have rb := okv_il h2 (ok_h hst)
    rw [List.map_cons, List.map_cons, cv_il h1, cv_il h2]
    exact lv_icmp_eq hx hb hd ht (fun q => absurd ((I_eq ra rb).mp q) h9) (fun _ => kk)
theorem g_icmp_eq_t (F : Fx x cc own nm rm nL rt rty lw) (h1 : il t1 = true) (h2 : il t2 = true) {off : Int} (h9 : a = b) (ht : (pc : Int) + off = (tgt : Int)) (hd : decode cc pc = .ok (.if_icmp .eq off, 3)) (k : Gs x r v cells slots tgt ls st) : Gs x r v cells slots pc ls ((t2, b) :: (t1, a) :: st) := by
  have h := g_icmp_eq (r1 := r) (r2 := r) F h1 h2 ht hd (fun _ => k) (fun q => absurd h9 q)
  rwa [if_pos h9] at h
theorem g_icmp_eq_f (F : Fx x cc own nm rm nL rt rty lw) (h1 : il t1 = true) (h2 : il t2 = true) {off : Int} (h9 : ¬ (a = b)) (ht : (pc : Int) + off = (tgt : Int)) (hd : decode cc pc = .ok (.if_icmp .eq off, 3)) (k : Gs x r v cells slots (pc + 3) ls st) : Gs x r v cells slots pc ls ((t2, b) :: (t1, a) :: st) := by
  have h := g_icmp_eq (r1 := r) (r2 := r) F h1 h2 ht hd (fun q => absurd q h9) (fun _ => k)
  rwa [if_neg h9] at h
theorem g_if_ne (F : Fx x cc own nm rm nL rt rty lw) (h1 : il t = true) {off : Int} (ht : (pc : Int) + off = (tgt : Int)) (hd : decode cc pc = .ok (.ifCond .ne off, 3)) (k1 : ¬ a = 0 → Gs x r1 v cells slots tgt ls st) (k2 : ¬ (¬ a = 0) → Gs x r2 v cells slots (pc + 3) ls st) : Gs x (if ¬ a = 0 then r1 else r2) v cells slots pc ls ((t, a) :: st) := by
  by_cases h9 : ¬ a = 0
  · rw [if_pos h9]
    have k := k1 h9
    clear k1 k2
    obtain ⟨⟨p, l, e, R, s, m⟩, ⟨args, below, meth, c⟩, ⟨nL', D, B, ad0, v0, rt', lw'⟩⟩ := x
    intro hr ad H locs lsA hS hE hV hl hls hst
    obtain ⟨hx, hb, hown, hR, hml, hnL, hrt, hret, hnm, hlk, het, hG⟩ := id F
    have kk := k hr ad H locs lsA hS hE hV hl hls (ok_t hst)
    have ra := okv_il h1 (ok_h hst)
    have z0 : R32 0 := R32_lit 0 (by decide)
    rw [List.map_cons, cv_il h1]
    exact lv_if_ne hx hb hd ht (fun _ => kk) (fun q => absurd q ((not_congr (I_eq ra z0)).mpr h9))
  · rw [if_neg h9]
    have k := k2 h9
    clear k1 k2
    obtain ⟨⟨p, l, e, R, s, m⟩, ⟨args, below, meth, c⟩, ⟨nL', D, B, ad0, v0, rt', lw'⟩⟩ := x
    intro hr ad H locs lsA hS hE hV hl hls hst
    obtain ⟨hx, hb, hown, hR, hml, hnL, hrt, hret, hnm, hlk, het, hG⟩ := id F
    have kk := k hr ad H locs lsA hS hE hV hl hls (ok_t hst)
    have ra := okv_il h1 (ok_h hst)
    have z0 : R32 0 := R32_lit 0 (by decide)
    rw [List.map_cons, cv_il h1]
    exact lv_if_ne hx hb hd ht (fun q => absurd ((not_congr (I_eq ra z0)).mp q) h9) (fun _ => kk)
theorem g_if_ne_t (F : Fx x cc own nm rm nL rt rty lw) (h1 : il t = true) {off : Int} (h9 : ¬ a = 0) (ht : (pc : Int) + off = (tgt : Int)) (hd : decode cc pc = .ok (.ifCond .ne off, 3)) (k : Gs x r v cells slots tgt ls st) : Gs x r v cells slots pc ls ((t, a) :: st) := by
  have h := g_if_ne (r1 := r) (r2 := r) F h1 ht hd (fun _ => k) (fun q => absurd h9 q)
  rwa [if_pos h9] at h
theorem g_if_ne_f (F : Fx x cc own nm rm nL rt rty lw) (h1 : il t = true) {off : Int} (h9 : ¬ (¬ a = 0)) (ht : (pc : Int) + off = (tgt : Int)) (hd : decode cc pc = .ok (.ifCond .ne off, 3)) (k : Gs x r v cells slots (pc + 3) ls st) : Gs x r v cells slots pc ls ((t, a) :: st) := by
  have h := g_if_ne (r1 := r) (r2 := r) F h1 ht hd (fun q => absurd q h9) (fun _ => k)
  rwa [if_neg h9] at h
theorem g_icmp_ne (F : Fx x cc own nm rm nL rt rty lw) (h1 : il t1 = true) (h2 : il t2 = true) {off : Int} (ht : (pc : Int) + off = (tgt : Int)) (hd : decode cc pc = .ok (.if_icmp .ne off, 3)) (k1 : ¬ a = b → Gs x r1 v cells slots tgt ls st) (k2 : ¬ (¬ a = b) → Gs x r2 v cells slots (pc + 3) ls st) : Gs x (if ¬ a = b then r1 else r2) v cells slots pc ls ((t2, b) :: (t1, a) :: st) := by
  by_cases h9 : ¬ a = b
  · rw [if_pos h9]
    have k := k1 h9
    clear k1 k2
    obtain ⟨⟨p, l, e, R, s, m⟩, ⟨args, below, meth, c⟩, ⟨nL', D, B, ad0, v0, rt', lw'⟩⟩ := x
    intro hr ad H locs lsA hS hE hV hl hls hst
    obtain ⟨hx, hb, hown, hR, hml, hnL, hrt, hret, hnm, hlk, het, hG⟩ := id F
    have kk := k hr ad H locs lsA hS hE hV hl hls (ok_t (ok_t hst))
    have ra := okv_il h1 (ok_h (ok_t hst))
    have rb := okv_il h2 (ok_h hst)
    rw [List.map_cons, List.map_cons, cv_il h1, cv_il h2]
    exact lv_icmp_ne hx hb hd ht (fun _ => kk) (fun q => absurd q ((not_congr (I_eq ra rb)).mpr h9))
  · rw [if_neg h9]
    have k := k2 h9
    clear k1 k2
    obtain ⟨⟨p, l, e, R, s, m⟩, ⟨args, below, meth, c⟩, ⟨nL', D, B, ad0, v0, rt', lw'⟩⟩ := x
    intro hr ad H locs lsA hS hE hV hl hls hst
    obtain ⟨hx, hb, hown, hR, hml, hnL, hrt, hret, hnm, hlk, het, hG⟩ := id F
    have kk := k hr ad H locs lsA hS hE hV hl hls (ok_t (ok_t hst))
    have ra := okv_il h1 (ok_h (ok_t hst))
    have rb := okv_il h2 (ok_h hst)
    rw [List.map_cons, List.map_cons, cv_il h1, cv_il h2]
    exact lv_icmp_ne hx hb hd ht (fun q => absurd ((not_congr (I_eq ra rb)).mp q) h9) (fun _ => kk)
theorem g_icmp_ne_t (F : Fx x cc own nm rm nL rt rty lw) (h1 : il t1 = true) (h2 : il t2 = true) {off : Int} (h9 : ¬ a = b) (ht : (pc : Int) + off = (tgt : Int)) (hd : decode cc pc = .ok (.if_icmp .ne off, 3)) (k : Gs x r v cells slots tgt ls st) : Gs x r v cells slots pc ls ((t2, b) :: (t1, a) :: st) := by
  have h := g_icmp_ne (r1 := r) (r2 := r) F h1 h2 ht hd (fun _ => k) (fun q => absurd h9 q)
  rwa [if_pos h9] at h
theorem g_icmp_ne_f (F : Fx x cc own nm rm nL rt rty lw) (h1 : il t1 = true) (h2 : il t2 = true) {off : Int} (h9 : ¬ (¬ a = b)) (ht : (pc : Int) + off = (tgt : Int)) (hd : decode cc pc = .ok (.if_icmp .ne off, 3)) (k : Gs x r v cells slots (pc + 3) ls st) : Gs x r v cells slots pc ls ((t2, b) :: (t1, a) :: st) := by
  have h := g_icmp_ne (r1 := r) (r2 := r) F h1 h2 ht hd (fun q => absurd q h9) (fun _ => k)
  rwa [if_neg h9] at h
theorem g_if_lt (F : Fx x cc own nm rm nL rt rty lw) (h1 : il t = true) {off : Int} (ht : (pc : Int) + off = (tgt : Int)) (hd : decode cc pc = .ok (.ifCond .lt off, 3)) (k1 : a < 0 → Gs x r1 v cells slots tgt ls st) (k2 : ¬ (a < 0) → Gs x r2 v cells slots (pc + 3) ls st) : Gs x (if a < 0 then r1 else r2) v cells slots pc ls ((t, a) :: st) := by
  by_cases h9 : a < 0
  · rw [if_pos h9]
    have k := k1 h9
    clear k1 k2
    obtain ⟨⟨p, l, e, R, s, m⟩, ⟨args, below, meth, c⟩, ⟨nL', D, B, ad0, v0, rt', lw'⟩⟩ := x
    intro hr ad H locs lsA hS hE hV hl hls hst
    obtain ⟨hx, hb, hown, hR, hml, hnL, hrt, hret, hnm, hlk, het, hG⟩ := id F
    have kk := k hr ad H locs lsA hS hE hV hl hls (ok_t hst)
    have ra := okv_il h1 (ok_h hst)
    have z0 : R32 0 := R32_lit 0 (by decide)
    rw [List.map_cons, cv_il h1]
    exact lv_if_lt hx hb hd ht (fun _ => kk) (fun q => absurd ((I_lt ra z0).mpr h9) q)
  · rw [if_neg h9]
    have k := k2 h9
    clear k1 k2
    obtain ⟨⟨p, l, e, R, s, m⟩, ⟨args, below, meth, c⟩, ⟨nL', D, B, ad0, v0, rt', lw'⟩⟩ := x
    intro hr ad H locs lsA hS hE hV hl hls hst
    obtain ⟨hx, hb, hown, hR, hml, hnL, hrt, hret, hnm, hlk, het, hG⟩ := id F
    have kk := k hr ad H locs lsA hS hE hV hl hls (ok_t hst)
    have ra := okv_il h1 (ok_h hst)
    have z0 : R32 0 := R32_lit 0 (by decide)
    rw [List.map_cons, cv_il h1]
    exact lv_if_lt hx hb hd ht (fun q => absurd ((I_lt ra z0).mp q) h9) (fun _ => kk)
theorem g_if_lt_t (F : Fx x cc own nm rm nL rt rty lw) (h1 : il t = true) {off : Int} (h9 : a < 0) (ht : (pc : Int) + off = (tgt : Int)) (hd : decode cc pc = .ok (.ifCond .lt off, 3)) (k : Gs x r v cells slots tgt ls st) : Gs x r v cells slots pc ls ((t, a) :: st) := by
  have h := g_if_lt (r1 := r) (r2 := r) F h1 ht hd (fun _ => k) (fun q => absurd h9 q)
  rwa [if_pos h9] at h
theorem g_if_lt_f (F : Fx x cc own nm rm nL rt rty lw) (h1 : il t = true) {off : Int} (h9 : ¬ (a < 0)) (ht : (pc : Int) + off = (tgt : Int)) (hd : decode cc pc = .ok (.ifCond .lt off, 3)) (k : Gs x r v cells slots (pc + 3) ls st) : Gs x r v cells slots pc ls ((t, a) :: st) := by
  have h := g_if_lt (r1 := r) (r2 := r) F h1 ht hd (fun q => absurd q h9) (fun _ => k)
  rwa [if_neg h9] at h
theorem g_icmp_lt (F : Fx x cc own nm rm nL rt rty lw) (h1 : il t1 = true) (h2 : il t2 = true) {off : Int} (ht : (pc : Int) + off = (tgt : Int)) (hd : decode cc pc = .ok (.if_icmp .lt off, 3)) (k1 : a < b → Gs x r1 v cells slots tgt ls st) (k2 : ¬ (a < b) → Gs x r2 v cells slots (pc + 3) ls st) : Gs x (if a < b then r1 else r2) v cells slots pc ls ((t2, b) :: (t1, a) :: st) := by
  by_cases h9 : a < b
  · rw [if_pos h9]
    have k := k1 h9
    clear k1 k2
    obtain ⟨⟨p, l, e, R, s, m⟩, ⟨args, below, meth, c⟩, ⟨nL', D, B, ad0, v0, rt', lw'⟩⟩ := x
    intro hr ad H locs lsA hS hE hV hl hls hst
    obtain ⟨hx, hb, hown, hR, hml, hnL, hrt, hret, hnm, hlk, het, hG⟩ := id F
    have kk := k hr ad H locs lsA hS hE hV hl hls (ok_t (ok_t hst))
    have ra := okv_il h1 (ok_h (ok_t hst))
    have rb := okv_il h2 (ok_h hst)
    rw [List.map_cons, List.map_cons, cv_il h1, cv_il h2]
    exact lv_icmp_lt hx hb hd ht (fun _ => kk) (fun q => absurd ((I_lt ra rb).mpr h9) q)
  · rw [if_neg h9]
    have k := k2 h9
    clear k1 k2
    obtain ⟨⟨p, l, e, R, s, m⟩, ⟨args, below, meth, c⟩, ⟨nL', D, B, ad0, v0, rt', lw'⟩⟩ := x
    intro hr ad H locs lsA hS hE hV hl hls hst
    obtain ⟨hx, hb, hown, hR, hml, hnL, hrt, hret, hnm, hlk, het, hG⟩ := id F
    have kk := k hr ad H locs lsA hS hE hV hl hls (ok_t (ok_t hst))
    have ra := okv_il h1 (ok_h (ok_t hst))
    have rb := okv_il h2 (ok_h hst)
    rw [List.map_cons, List.map_cons, cv_il h1, cv_il h2]
    exact lv_icmp_lt hx hb hd ht (fun q => absurd ((I_lt ra rb).mp q) h9) (fun _ => kk)
theorem g_icmp_lt_t (F : Fx x cc own nm rm nL rt rty lw) (h1 : il t1 = true) (h2 : il t2 = true) {off : Int} (h9 : a < b) (ht : (pc : Int) + off = (tgt : Int)) (hd : decode cc pc = .ok (.if_icmp .lt off, 3)) (k : Gs x r v cells slots tgt ls st) : Gs x r v cells slots pc ls ((t2, b) :: (t1, a) :: st) := by
  have h := g_icmp_lt (r1 := r) (r2 := r) F h1 h2 ht hd (fun _ => k) (fun q => absurd h9 q)
  rwa [if_pos h9] at h
theorem g_icmp_lt_f (F : Fx x cc own nm rm nL rt rty lw) (h1 : il t1 = true) (h2 : il t2 = true) {off : Int} (h9 : ¬ (a < b)) (ht : (pc : Int) + off = (tgt : Int)) (hd : decode cc pc = .ok (.if_icmp .lt off, 3)) (k : Gs x r v cells slots (pc + 3) ls st) : Gs x r v cells slots pc ls ((t2, b) :: (t1, a) :: st) := by
  have h := g_icmp_lt (r1 := r) (r2 := r) F h1 h2 ht hd (fun q => absurd q h9) (fun _ => k)
  rwa [if_neg h9] at h
theorem g_if_ge (F : Fx x cc own nm rm nL rt rty lw) (h1 : il t = true) {off : Int} (ht : (pc : Int) + off = (tgt : Int)) (hd : decode cc pc = .ok (.ifCond .ge off, 3)) (k1 : 0 ≤ a → Gs x r1 v cells slots tgt ls st) (k2 : ¬ (0 ≤ a) → Gs x r2 v cells slots (pc + 3) ls st) : Gs x (if 0 ≤ a then r1 else r2) v cells slots pc ls ((t, a) :: st) := by
  by_cases h9 : 0 ≤ a
  · rw [if_pos h9]
    have k := k1 h9
    clear k1 k2
    obtain ⟨⟨p, l, e, R, s, m⟩, ⟨args, below, meth, c⟩, ⟨nL', D, B, ad0, v0, rt', lw'⟩⟩ := x
    intro hr ad H locs lsA hS hE hV hl hls hst
    obtain ⟨hx, hb, hown, hR, hml, hnL, hrt, hret, hnm, hlk, het, hG⟩ := id F
    have kk := k hr ad H locs lsA hS hE hV hl hls (ok_t hst)
    have ra := okv_il h1 (ok_h hst)
    have z0 : R32 0 := R32_lit 0 (by decide)
    rw [List.map_cons, cv_il h1]
    exact lv_if_ge hx hb hd ht (fun _ => kk) (fun q => absurd ((I_le z0 ra).mpr h9) q)
  · rw [if_neg h9]
    have k := k2 h9
    clear k1 k2
    obtain ⟨⟨p, l, e, R, s, m⟩, ⟨args, below, meth, c⟩, ⟨nL', D, B, ad0, v0, rt', lw'⟩⟩ := x
    intro hr ad H locs lsA hS hE hV hl hls hst
    obtain ⟨hx, hb, hown, hR, hml, hnL, hrt, hret, hnm, hlk, het, hG⟩ := id F
    have kk := k hr ad H locs lsA hS hE hV hl hls (ok_t hst)
    have ra := okv_il h1 (ok_h hst)
    have z0 : R32 0 := R32_lit 0 (by decide)
    rw [List.map_cons, cv_il h1]
    exact lv_if_ge hx hb hd ht (fun q => absurd ((I_le z0 ra).mp q) h9) (fun _ => kk)
theorem g_if_ge_t (F : Fx x cc own nm rm nL rt rty lw) (h1 : il t = true) {off : Int} (h9 : 0 ≤ a) (ht : (pc : Int) + off = (tgt : Int)) (hd : decode cc pc = .ok (.ifCond .ge off, 3)) (k : Gs x r v cells slots tgt ls st) : Gs x r v cells slots pc ls ((t, a) :: st) := by
  have h := g_if_ge (r1 := r) (r2 := r) F h1 ht hd (fun _ => k) (fun q => absurd h9 q)
  rwa [if_pos h9] at h
theorem g_if_ge_f (F : Fx x cc own nm rm nL rt rty lw) (h1 : il t = true) {off : Int} (h9 : ¬ (0 ≤ a)) (ht : (pc : Int) + off = (tgt : Int)) (hd : decode cc pc = .ok (.ifCond .ge off, 3)) (k : Gs x r v cells slots (pc + 3) ls st) : Gs x r v cells slots pc ls ((t, a) :: st) := by
  have h := g_if_ge (r1 := r) (r2 := r) F h1 ht hd (fun q => absurd q h9) (fun _ => k)
  rwa [if_neg h9] at h
theorem g_icmp_ge (F : Fx x cc own nm rm nL rt rty lw) (h1 : il t1 = true) (h2 : il t2 = true) {off : Int} (ht : (pc : Int) + off = (tgt : Int)) (hd : decode cc pc = .ok (.if_icmp .ge off, 3)) (k1 : b ≤ a → Gs x r1 v cells slots tgt ls st) (k2 : ¬ (b ≤ a) → Gs x r2 v cells slots (pc + 3) ls st) : Gs x (if b ≤ a then r1 else r2) v cells slots pc ls ((t2, b) :: (t1, a) :: st) := by
  by_cases h9 : b ≤ a
  · rw [if_pos h9]
    have k := k1 h9
    clear k1 k2
    obtain ⟨⟨p, l, e, R, s, m⟩, ⟨args, below, meth, c⟩, ⟨nL', D, B, ad0, v0, rt', lw'⟩⟩ := x
    intro hr ad H locs lsA hS hE hV hl hls hst
    obtain ⟨hx, hb, hown, hR, hml, hnL, hrt, hret, hnm, hlk, het, hG⟩ := id F
    have kk := k hr ad H locs lsA hS hE hV hl hls (ok_t (ok_t hst))
    have ra := okv_il h1 (ok_h (ok_t hst))
    have rb := okv_il h2 (ok_h hst)
    rw [List.map_cons, List.map_cons, cv_il h1, cv_il h2]
    exact lv_icmp_ge hx hb hd ht (fun _ => kk) (fun q => absurd ((I_le rb ra).mpr h9) q)
  · rw [if_neg h9]
    have k := k2 h9
    clear k1 k2
    obtain ⟨⟨p, l, e, R, s, m⟩, ⟨args, below, meth, c⟩, ⟨nL', D, B, ad0, v0, rt', lw'⟩⟩ := x
    intro hr ad H locs lsA hS hE hV hl hls hst
    obtain ⟨hx, hb, hown, hR, hml, hnL, hrt, hret, hnm, hlk, het, hG⟩ := id F
    have kk := k hr ad H locs lsA hS hE hV hl hls (ok_t (ok_t hst))
    have ra := okv_il h1 (ok_h (ok_t hst))
    have rb := okv_il h2 (ok_h hst)
    rw [List.map_cons, List.map_cons, cv_il h1, cv_il h2]
    exact lv_icmp_ge hx hb hd ht (fun q => absurd ((I_le rb ra).mp q) h9) (fun _ => kk)
theorem g_icmp_ge_t (F : Fx x cc own nm rm nL rt rty lw) (h1 : il t1 = true) (h2 : il t2 = true) {off : Int} (h9 : b ≤ a) (ht : (pc : Int) + off = (tgt : Int)) (hd : decode cc pc = .ok (.if_icmp .ge off, 3)) (k : Gs x r v cells slots tgt ls st) : Gs x r v cells slots pc ls ((t2, b) :: (t1, a) :: st) := by
  have h := g_icmp_ge (r1 := r) (r2 := r) F h1 h2 ht hd (fun _ => k) (fun q => absurd h9 q)
  rwa [if_pos h9] at h
theorem g_icmp_ge_f (F : Fx x cc own nm rm nL rt rty lw) (h1 : il t1 = true) (h2 : il t2 = true) {off : Int} (h9 : ¬ (b ≤ a)) (ht : (pc : Int) + off = (tgt : Int)) (hd : decode cc pc = .ok (.if_icmp .ge off, 3)) (k : Gs x r v cells slots (pc + 3) ls st) : Gs x r v cells slots pc ls ((t2, b) :: (t1, a) :: st) := by
  have h := g_icmp_ge (r1 := r) (r2 := r) F h1 h2 ht hd (fun q => absurd q h9) (fun _ => k)
  rwa [if_neg h9] at h
theorem g_if_gt (F : Fx x cc own nm rm nL rt rty lw) (h1 : il t = true) {off : Int} (ht : (pc : Int) + off = (tgt : Int)) (hd : decode cc pc = .ok (.ifCond .gt off, 3)) (k1 : 0 < a → Gs x r1 v cells slots tgt ls st) (k2 : ¬ (0 < a) → Gs x r2 v cells slots (pc + 3) ls st) : Gs x (if 0 < a then r1 else r2) v cells slots pc ls ((t, a) :: st) := by
  by_cases h9 : 0 < a
  · rw [if_pos h9]
    have k := k1 h9
    clear k1 k2
    obtain ⟨⟨p, l, e, R, s, m⟩, ⟨args, below, meth, c⟩, ⟨nL', D, B, ad0, v0, rt', lw'⟩⟩ := x
    intro hr ad H locs lsA hS hE hV hl hls hst
    obtain ⟨hx, hb, hown, hR, hml, hnL, hrt, hret, hnm, hlk, het, hG⟩ := id F
    have kk := k hr ad H locs lsA hS hE hV hl hls (ok_t hst)
    have ra := okv_il h1 (ok_h hst)
    have z0 : R32 0 := R32_lit 0 (by decide)
    rw [List.map_cons, cv_il h1]
    exact lv_if_gt hx hb hd ht (fun _ => kk) (fun q => absurd ((I_lt z0 ra).mpr h9) q)
  · rw [if_neg h9]
    have k := k2 h9
    clear k1 k2
    obtain ⟨⟨p, l, e, R, s, m⟩, ⟨args, below, meth, c⟩, ⟨nL', D, B, ad0, v0, rt', lw'⟩⟩ := x
    intro hr ad H locs lsA hS hE hV hl hls hst
    obtain ⟨hx, hb, hown, hR, hml, hnL, hrt, hret, hnm, hlk, het, hG⟩ := id F
    have kk := k hr ad H locs lsA hS hE hV hl hls (ok_t hst)
    have ra := okv_il h1 (ok_h hst)
    have z0 : R32 0 := R32_lit 0 (by decide)
    rw [List.map_cons, cv_il h1]
    exact lv_if_gt hx hb hd ht (fun q => absurd ((I_lt z0 ra).mp q) h9) (fun _ => kk)
theorem g_if_gt_t (F : Fx x cc own nm rm nL rt rty lw) (h1 : il t = true) {off : Int} (h9 : 0 < a) (ht : (pc : Int) + off = (tgt : Int)) (hd : decode cc pc = .ok (.ifCond .gt off, 3)) (k : Gs x r v cells slots tgt ls st) : Gs x r v cells slots pc ls ((t, a) :: st) := by
  have h := g_if_gt (r1 := r) (r2 := r) F h1 ht hd (fun _ => k) (fun q => absurd h9 q)
  rwa [if_pos h9] at h
theorem g_if_gt_f (F : Fx x cc own nm rm nL rt rty lw) (h1 : il t = true) {off : Int} (h9 : ¬ (0 < a)) (ht : (pc : Int) + off = (tgt : Int)) (hd : decode cc pc = .ok (.ifCond .gt off, 3)) (k : Gs x r v cells slots (pc + 3) ls st) : Gs x r v cells slots pc ls ((t, a) :: st) := by
  have h := g_if_gt (r1 := r) (r2 := r) F h1 ht hd (fun q => absurd q h9) (fun _ => k)
  rwa [if_neg h9] at h
theorem g_icmp_gt (F : Fx x cc own nm rm nL rt rty lw) (h1 : il t1 = true) (h2 : il t2 = true) {off : Int} (ht : (pc : Int) + off = (tgt : Int)) (hd : decode cc pc = .ok (.if_icmp .gt off, 3)) (k1 : b < a → Gs x r1 v cells slots tgt ls st) (k2 : ¬ (b < a) → Gs x r2 v cells slots (pc + 3) ls st) : Gs x (if b < a then r1 else r2) v cells slots pc ls ((t2, b) :: (t1, a) :: st) := by
  by_cases h9 : b < a
  · rw [if_pos h9]
    have k := k1 h9
    clear k1 k2
    obtain ⟨⟨p, l, e, R, s, m⟩, ⟨args, below, meth, c⟩, ⟨nL', D, B, ad0, v0, rt', lw'⟩⟩ := x
    intro hr ad H locs lsA hS hE hV hl hls hst
    obtain ⟨hx, hb, hown, hR, hml, hnL, hrt, hret, hnm, hlk, het, hG⟩ := id F
    have kk := k hr ad H locs lsA hS hE hV hl hls (ok_t (ok_t hst))
    have ra := okv_il h1 (ok_h (ok_t hst))
    have rb := okv_il h2 (ok_h hst)
    rw [List.map_cons, List.map_cons, cv_il h1, cv_il h2]
    exact lv_icmp_gt hx hb hd ht (fun _ => kk) (fun q => absurd ((I_lt rb ra).mpr h9) q)
  · rw [if_neg h9]
    have k := k2 h9
    clear k1 k2
    obtain ⟨⟨p, l, e, R, s, m⟩, ⟨args, below, meth, c⟩, ⟨nL', D, B, ad0, v0, rt', lw'⟩⟩ := x
    intro hr ad H locs lsA hS hE hV hl hls hst
    obtain ⟨hx, hb, hown, hR, hml, hnL, hrt, hret, hnm, hlk, het, hG⟩ := id F
    have kk := k hr ad H locs lsA hS hE hV hl hls (ok_t (ok_t hst))
    have ra := okv_il h1 (ok_h (ok_t hst))
    have rb := okv_il h2 (ok_h hst)
    rw [List.map_cons, List.map_cons, cv_il h1, cv_il h2]
    exact lv_icmp_gt hx hb hd ht (fun q => absurd ((I_lt rb ra).mp q) h9) (fun _ => kk)
theorem g_icmp_gt_t (F : Fx x cc own nm rm nL rt rty lw) (h1 : il t1 = true) (h2 : il t2 = true) {off : Int} (h9 : b < a) (ht : (pc : Int) + off = (tgt : Int)) (hd : decode cc pc = .ok (.if_icmp .gt off, 3)) (k : Gs x r v cells slots tgt ls st) : Gs x r v cells slots pc ls ((t2, b) :: (t1, a) :: st) := by
  have h := g_icmp_gt (r1 := r) (r2 := r) F h1 h2 ht hd (fun _ => k) (fun q => absurd h9 q)
  rwa [if_pos h9] at h
theorem g_icmp_gt_f (F : Fx x cc own nm rm nL rt rty lw) (h1 : il t1 = true) (h2 : il t2 = true) {off : Int} (h9 : ¬ (b < a)) (ht : (pc : Int) + off = (tgt : Int)) (hd : decode cc pc = .ok (.if_icmp .gt off, 3)) (k : Gs x r v cells slots (pc + 3) ls st) : Gs x r v cells slots pc ls ((t2, b) :: (t1, a) :: st) := by
  have h := g_icmp_gt (r1 := r) (r2 := r) F h1 h2 ht hd (fun q => absurd q h9) (fun _ => k)
  rwa [if_neg h9] at h
theorem g_if_le (F : Fx x cc own nm rm nL rt rty lw) (h1 : il t = true) {off : Int} (ht : (pc : Int) + off = (tgt : Int)) (hd : decode cc pc = .ok (.ifCond .le off, 3)) (k1 : a ≤ 0 → Gs x r1 v cells slots tgt ls st) (k2 : ¬ (a ≤ 0) → Gs x r2 v cells slots (pc + 3) ls st) : Gs x (if a ≤ 0 then r1 else r2) v cells slots pc ls ((t, a) :: st) := by
  by_cases h9 : a ≤ 0
  · rw [if_pos h9]
    have k := k1 h9
    clear k1 k2
    obtain ⟨⟨p, l, e, R, s, m⟩, ⟨args, below, meth, c⟩, ⟨nL', D, B, ad0, v0, rt', lw'⟩⟩ := x
    intro hr ad H locs lsA hS hE hV hl hls hst
    obtain ⟨hx, hb, hown, hR, hml, hnL, hrt, hret, hnm, hlk, het, hG⟩ := id F
    have kk := k hr ad H locs lsA hS hE hV hl hls (ok_t hst)
    have ra := okv_il h1 (ok_h hst)
    have z0 : R32 0 := R32_lit 0 (by decide)
    rw [List.map_cons, cv_il h1]
    exact lv_if_le hx hb hd ht (fun _ => kk) (fun q => absurd ((I_le ra z0).mpr h9) q)
  · rw [if_neg h9]
    have k := k2 h9
    clear k1 k2
    obtain ⟨⟨p, l, e, R, s, m⟩, ⟨args, below, meth, c⟩, ⟨nL', D, B, ad0, v0, rt', lw'⟩⟩ := x
    intro hr ad H locs lsA hS hE hV hl hls hst
    obtain ⟨hx, hb, hown, hR, hml, hnL, hrt, hret, hnm, hlk, het, hG⟩ := id F
    have kk := k hr ad H locs lsA hS hE hV hl hls (ok_t hst)
    have ra := okv_il h1 (ok_h hst)
    have z0 : R32 0 := R32_lit 0 (by decide)
    rw [List.map_cons, cv_il h1]
    exact lv_if_le hx hb hd ht (fun q => absurd ((I_le ra z0).mp q) h9) (fun _ => kk)
theorem g_if_le_t (F : Fx x cc own nm rm nL rt rty lw) (h1 : il t = true) {off : Int} (h9 : a ≤ 0) (ht : (pc : Int) + off = (tgt : Int)) (hd : decode cc pc = .ok (.ifCond .le off, 3)) (k : Gs x r v cells slots tgt ls st) : Gs x r v cells slots pc ls ((t, a) :: st) := by
  have h := g_if_le (r1 := r) (r2 := r) F h1 ht hd (fun _ => k) (fun q => absurd h9 q)
  rwa [if_pos h9] at h
theorem g_if_le_f (F : Fx x cc own nm rm nL rt rty lw) (h1 : il t = true) {off : Int} (h9 : ¬ (a ≤ 0)) (ht : (pc : Int) + off = (tgt : Int)) (hd : decode cc pc = .ok (.ifCond .le off, 3)) (k : Gs x r v cells slots (pc + 3) ls st) : Gs x r v cells slots pc ls ((t, a) :: st) := by
  have h := g_if_le (r1 := r) (r2 := r) F h1 ht hd (fun q => absurd q h9) (fun _ => k)
  rwa [if_neg h9] at h
theorem g_icmp_le (F : Fx x cc own nm rm nL rt rty lw) (h1 : il t1 = true) (h2 : il t2 = true) {off : Int} (ht : (pc : Int) + off = (tgt : Int)) (hd : decode cc pc = .ok (.if_icmp .le off, 3)) (k1 : a ≤ b → Gs x r1 v cells slots tgt ls st) (k2 : ¬ (a ≤ b) → Gs x r2 v cells slots (pc + 3) ls st) : Gs x (if a ≤ b then r1 else r2) v cells slots pc ls ((t2, b) :: (t1, a) :: st) := by
  by_cases h9 : a ≤ b
  · rw [if_pos h9]
    have k := k1 h9
    clear k1 k2
    obtain ⟨⟨p, l, e, R, s, m⟩, ⟨args, below, meth, c⟩, ⟨nL', D, B, ad0, v0, rt', lw'⟩⟩ := x
    intro hr ad H locs lsA hS hE hV hl hls hst
    obtain ⟨hx, hb, hown, hR, hml, hnL, hrt, hret, hnm, hlk, het, hG⟩ := id F
    have kk := k hr ad H locs lsA hS hE hV hl hls (ok_t (ok_t hst))
    have ra := okv_il h1 (ok_h (ok_t hst))
    have rb := okv_il h2 (ok_h hst)
    rw [List.map_cons, List.map_cons, cv_il h1, cv_il h2]
    exact lv_icmp_le hx hb hd ht (fun _ => kk) (fun q => absurd ((I_le ra rb).mpr h9) q)
  · rw [if_neg h9]
    have k := k2 h9
    clear k1 k2
    obtain ⟨⟨p, l, e, R, s, m⟩, ⟨args, below, meth, c⟩, ⟨nL', D, B, ad0, v0, rt', lw'⟩⟩ := x
    intro hr ad H locs lsA hS hE hV hl hls hst
    obtain ⟨hx, hb, hown, hR, hml, hnL, hrt, hret, hnm, hlk, het, hG⟩ := id F
    have kk := k hr ad H locs lsA hS hE hV hl hls (ok_t (ok_t hst))
    have ra := okv_il h1 (ok_h (ok_t hst))
    have rb := okv_il h2 (ok_h hst)
    rw [List.map_cons, List.map_cons, cv_il h1, cv_il h2]
    exact lv_icmp_le hx hb hd ht (fun q => absurd ((I_le ra rb).mp q) h9) (fun _ => kk)
theorem g_icmp_le_t (F : Fx x cc own nm rm nL rt rty lw) (h1 : il t1 = true) (h2 : il t2 = true) {off : Int} (h9 : a ≤ b) (ht : (pc : Int) + off = (tgt : Int)) (hd : decode cc pc = .ok (.if_icmp .le off, 3)) (k : Gs x r v cells slots tgt ls st) : Gs x r v cells slots pc ls ((t2, b) :: (t1, a) :: st) := by
  have h := g_icmp_le (r1 := r) (r2 := r) F h1 h2 ht hd (fun _ => k) (fun q => absurd h9 q)
  rwa [if_pos h9] at h
theorem g_icmp_le_f (F : Fx x cc own nm rm nL rt rty lw) (h1 : il t1 = true) (h2 : il t2 = true) {off : Int} (h9 : ¬ (a ≤ b)) (ht : (pc : Int) + off = (tgt : Int)) (hd : decode cc pc = .ok (.if_icmp .le off, 3)) (k : Gs x r v cells slots (pc + 3) ls st) : Gs x r v cells slots pc ls ((t2, b) :: (t1, a) :: st) := by
  have h := g_icmp_le (r1 := r) (r2 := r) F h1 h2 ht hd (fun q => absurd q h9) (fun _ => k)
  rwa [if_neg h9] at h
theorem g_goto (F : Fx x cc own nm rm nL rt rty lw) {off : Int} (ht : (pc : Int) + off = (tgt : Int)) (hd : decode cc pc = .ok (.goto off, 3)) (k : Gs x r v cells slots tgt ls st) : Gs x r v cells slots pc ls st := by
  obtain ⟨⟨p, l, e, R, s, m⟩, ⟨args, below, meth, c⟩, ⟨nL', D, B, ad0, v0, rt', lw'⟩⟩ := x
  intro hr ad H locs lsA hS hE hV hl hls hst
  obtain ⟨hx, hb, hown, hR, hml, hnL, hrt, hret, hnm, hlk, het, hG⟩ := id F
  exact lv_goto hx hb hd ht (k hr ad H locs lsA hS hE hV hl hls hst)
theorem g_ifnull (F : Fx x cc own nm rm nL rt rty lw) {K : Nat} {off : Int} (ht : (pc : Int) + off = (tgt : Int)) (hd : decode cc pc = .ok (.ifnull off, 3)) (k1 : a < 0 → Gs x r1 v cells slots tgt ls st) (k2 : ¬ a < 0 → Gs x r2 v cells slots (pc + 3) ls st) : Gs x (if a < 0 then r1 else r2) v cells slots pc ls ((K + 10, a) :: st) := by
  by_cases h9 : a < 0
  · rw [if_pos h9]
    have k := k1 h9
    clear k1 k2
    obtain ⟨⟨p, l, e, R, s, m⟩, ⟨args, below, meth, c⟩, ⟨nL', D, B, ad0, v0, rt', lw'⟩⟩ := x
    intro hr ad H locs lsA hS hE hV hl hls hst
    obtain ⟨hx, hb, hown, hR, hml, hnL, hrt, hret, hnm, hlk, het, hG⟩ := id F
    rw [List.map_cons, cv_neg h9]
    exact lv_ifnullN hx hb hd ht (k hr ad H locs lsA hS hE hV hl hls (ok_t hst))
  · rw [if_neg h9]
    have k := k2 h9
    clear k1 k2
    obtain ⟨⟨p, l, e, R, s, m⟩, ⟨args, below, meth, c⟩, ⟨nL', D, B, ad0, v0, rt', lw'⟩⟩ := x
    intro hr ad H locs lsA hS hE hV hl hls hst
    obtain ⟨hx, hb, hown, hR, hml, hnL, hrt, hret, hnm, hlk, het, hG⟩ := id F
    rw [List.map_cons, cv_pos (by omega)]
    exact lv_ifnull hx hb hd (k hr ad H locs lsA hS hE hV hl hls (ok_t hst))
theorem g_ifnonnull (F : Fx x cc own nm rm nL rt rty lw) {K : Nat} {off : Int} (ht : (pc : Int) + off = (tgt : Int)) (hd : decode cc pc = .ok (.ifnonnull off, 3)) (k1 : a < 0 → Gs x r1 v cells slots (pc + 3) ls st) (k2 : ¬ a < 0 → Gs x r2 v cells slots tgt ls st) : Gs x (if a < 0 then r1 else r2) v cells slots pc ls ((K + 10, a) :: st) := by
  by_cases h9 : a < 0
  · rw [if_pos h9]
    have k := k1 h9
    clear k1 k2
    obtain ⟨⟨p, l, e, R, s, m⟩, ⟨args, below, meth, c⟩, ⟨nL', D, B, ad0, v0, rt', lw'⟩⟩ := x
    intro hr ad H locs lsA hS hE hV hl hls hst
    obtain ⟨hx, hb, hown, hR, hml, hnL, hrt, hret, hnm, hlk, het, hG⟩ := id F
    rw [List.map_cons, cv_neg h9]
    exact lv_ifnonnullN hx hb hd (k hr ad H locs lsA hS hE hV hl hls (ok_t hst))
  · rw [if_neg h9]
    have k := k2 h9
    clear k1 k2
    obtain ⟨⟨p, l, e, R, s, m⟩, ⟨args, below, meth, c⟩, ⟨nL', D, B, ad0, v0, rt', lw'⟩⟩ := x
    intro hr ad H locs lsA hS hE hV hl hls hst
    obtain ⟨hx, hb, hown, hR, hml, hnL, hrt, hret, hnm, hlk, het, hG⟩ := id F
    rw [List.map_cons, cv_pos (by omega)]
    exact lv_ifnonnull hx hb hd ht (k hr ad H locs lsA hS hE hV hl hls (ok_t hst))
theorem g_ifnull_t (F : Fx x cc own nm rm nL rt rty lw) {K : Nat} {off : Int} (h9 : a < 0) (ht : (pc : Int) + off = (tgt : Int)) (hd : decode cc pc = .ok (.ifnull off, 3)) (k : Gs x r v cells slots tgt ls st) : Gs x r v cells slots pc ls ((K + 10, a) :: st) := by
  have h := g_ifnull (r1 := r) (r2 := r) (K := K) F ht hd (fun _ => k) (fun q => absurd h9 q)
  rwa [if_pos h9] at h
theorem g_ifnull_f (F : Fx x cc own nm rm nL rt rty lw) {K : Nat} {off : Int} (h9 : ¬ a < 0) (ht : (pc : Int) + off = (tgt : Int)) (hd : decode cc pc = .ok (.ifnull off, 3)) (k : Gs x r v cells slots (pc + 3) ls st) : Gs x r v cells slots pc ls ((K + 10, a) :: st) := by
  have h := g_ifnull (r1 := r) (r2 := r) (K := K) F ht hd (fun q => absurd q h9) (fun _ => k)
  rwa [if_neg h9] at h
theorem g_ifnonnull_t (F : Fx x cc own nm rm nL rt rty lw) {K : Nat} {off : Int} (h9 : a < 0) (ht : (pc : Int) + off = (tgt : Int)) (hd : decode cc pc = .ok (.ifnonnull off, 3)) (k : Gs x r v cells slots (pc + 3) ls st) : Gs x r v cells slots pc ls ((K + 10, a) :: st) := by
  have h := g_ifnonnull (r1 := r) (r2 := r) (K := K) F ht hd (fun _ => k) (fun q => absurd h9 q)
  rwa [if_pos h9] at h
theorem g_ifnonnull_f (F : Fx x cc own nm rm nL rt rty lw) {K : Nat} {off : Int} (h9 : ¬ a < 0) (ht : (pc : Int) + off = (tgt : Int)) (hd : decode cc pc = .ok (.ifnonnull off, 3)) (k : Gs x r v cells slots tgt ls st) : Gs x r v cells slots pc ls ((K + 10, a) :: st) := by
  have h := g_ifnonnull (r1 := r) (r2 := r) (K := K) F ht hd (fun q => absurd q h9) (fun _ => k)
  rwa [if_neg h9] at h
theorem acmp_iff {D : va_G} {B : Nat → Prop} {ad : Ad} {H : Heap} {K : Nat} (hS : Sto D B ad v H) (hK : K < 98) (oa : okv v (K + 10, a)) (ob : okv v (K + 10, b)) : ((if a < 0 then none else some (ad K a)) = (if b < 0 then none else some (ad K b) : Option Nat)) ↔ a = b := by
  rcases okv_ref.mp oa with rfl | ⟨p1, p2⟩ <;> rcases okv_ref.mp ob with rfl | ⟨q1, q2⟩
  · simp
  · rw [if_pos (by decide), if_neg (by omega)]
    constructor
    · intro h; cases h
    · intro h; omega
  · rw [if_neg (by omega), if_pos (by decide)]
    constructor
    · intro h; cases h
    · intro h; omega
  · rw [if_neg (by omega), if_neg (by omega)]
    constructor
    · intro h
      exact (hS.2 K K a b hK hK p2 q2 (Option.some.inj h)).2
    · intro h; rw [h]
theorem g_acmp_eq (F : Fx x cc own nm rm nL rt rty lw) {K : Nat} (hK : K < 98) {off : Int} (ht : (pc : Int) + off = (tgt : Int)) (hd : decode cc pc = .ok (.if_acmp .eq off, 3)) (k1 : a = b → Gs x r1 v cells slots tgt ls st) (k2 : ¬ a = b → Gs x r2 v cells slots (pc + 3) ls st) : Gs x (if a = b then r1 else r2) v cells slots pc ls ((K + 10, b) :: (K + 10, a) :: st) := by
  by_cases h9 : a = b
  · rw [if_pos h9]
    have k := k1 h9
    clear k1 k2
    obtain ⟨⟨p, l, e, R, s, m⟩, ⟨args, below, meth, c⟩, ⟨nL', D, B, ad0, v0, rt', lw'⟩⟩ := x
    intro hr ad H locs lsA hS hE hV hl hls hst
    obtain ⟨hx, hb, hown, hR, hml, hnL, hrt, hret, hnm, hlk, het, hG⟩ := id F
    have kk := k hr ad H locs lsA hS hE hV hl hls (ok_t (ok_t hst))
    have oa := ok_h (ok_t hst)
    have ob := ok_h hst
    rw [List.map_cons, List.map_cons, cv_ref, cv_ref]
    exact lv_acmp_eq hx hb hd ht (fun _ => kk) (fun q => absurd ((acmp_iff hS hK oa ob).mpr h9) q)
  · rw [if_neg h9]
    have k := k2 h9
    clear k1 k2
    obtain ⟨⟨p, l, e, R, s, m⟩, ⟨args, below, meth, c⟩, ⟨nL', D, B, ad0, v0, rt', lw'⟩⟩ := x
    intro hr ad H locs lsA hS hE hV hl hls hst
    obtain ⟨hx, hb, hown, hR, hml, hnL, hrt, hret, hnm, hlk, het, hG⟩ := id F
    have kk := k hr ad H locs lsA hS hE hV hl hls (ok_t (ok_t hst))
    have oa := ok_h (ok_t hst)
    have ob := ok_h hst
    rw [List.map_cons, List.map_cons, cv_ref, cv_ref]
    exact lv_acmp_eq hx hb hd ht (fun q => absurd ((acmp_iff hS hK oa ob).mp q) h9) (fun _ => kk)
theorem g_acmp_ne (F : Fx x cc own nm rm nL rt rty lw) {K : Nat} (hK : K < 98) {off : Int} (ht : (pc : Int) + off = (tgt : Int)) (hd : decode cc pc = .ok (.if_acmp .ne off, 3)) (k1 : a = b → Gs x r1 v cells slots (pc + 3) ls st) (k2 : ¬ a = b → Gs x r2 v cells slots tgt ls st) : Gs x (if a = b then r1 else r2) v cells slots pc ls ((K + 10, b) :: (K + 10, a) :: st) := by
  by_cases h9 : a = b
  · rw [if_pos h9]
    have k := k1 h9
    clear k1 k2
    obtain ⟨⟨p, l, e, R, s, m⟩, ⟨args, below, meth, c⟩, ⟨nL', D, B, ad0, v0, rt', lw'⟩⟩ := x
    intro hr ad H locs lsA hS hE hV hl hls hst
    obtain ⟨hx, hb, hown, hR, hml, hnL, hrt, hret, hnm, hlk, het, hG⟩ := id F
    have kk := k hr ad H locs lsA hS hE hV hl hls (ok_t (ok_t hst))
    have oa := ok_h (ok_t hst)
    have ob := ok_h hst
    rw [List.map_cons, List.map_cons, cv_ref, cv_ref]
    exact lv_acmp_ne hx hb hd ht (fun q => absurd ((acmp_iff hS hK oa ob).mpr h9) q) (fun q => kk)
  · rw [if_neg h9]
    have k := k2 h9
    clear k1 k2
    obtain ⟨⟨p, l, e, R, s, m⟩, ⟨args, below, meth, c⟩, ⟨nL', D, B, ad0, v0, rt', lw'⟩⟩ := x
    intro hr ad H locs lsA hS hE hV hl hls hst
    obtain ⟨hx, hb, hown, hR, hml, hnL, hrt, hret, hnm, hlk, het, hG⟩ := id F
    have kk := k hr ad H locs lsA hS hE hV hl hls (ok_t (ok_t hst))
    have oa := ok_h (ok_t hst)
    have ob := ok_h hst
    rw [List.map_cons, List.map_cons, cv_ref, cv_ref]
    exact lv_acmp_ne hx hb hd ht (fun _ => kk) (fun q => absurd ((acmp_iff hS hK oa ob).mp q) h9)
theorem g_tabIn (F : Fx x cc own nm rm nL rt rty lw) (h1 : il t = true) {dflt lo hi off : Int} {offs : Array Int} {len : Nat} (g1 : ¬ a < lo) (g2 : ¬ hi < a) (ho : offs[(a - lo).toNat]? = some off) (ht : (pc : Int) + off = (tgt : Int)) (hd : decode cc pc = .ok (.tableswitch dflt lo hi offs, len)) (k : Gs x r v cells slots tgt ls st) : Gs x r v cells slots pc ls ((t, a) :: st) := by
  obtain ⟨⟨p, l, e, R, s, m⟩, ⟨args, below, meth, c⟩, ⟨nL', D, B, ad0, v0, rt', lw'⟩⟩ := x
  intro hr ad H locs lsA hS hE hV hl hls hst
  obtain ⟨hx, hb, hown, hR, hml, hnL, hrt, hret, hnm, hlk, het, hG⟩ := id F
  have ra := okv_il h1 (ok_h hst)
  have kk := k hr ad H locs lsA hS hE hV hl hls (ok_t hst)
  rw [List.map_cons, cv_il h1]
  exact lv_tableIn hx hb hd (by rw [I_t, w32_id ra]; exact g1) (by rw [I_t, w32_id ra]; exact g2) (by rw [I_t, w32_id ra]; exact ho) ht kk
theorem g_tabOut (F : Fx x cc own nm rm nL rt rty lw) (h1 : il t = true) {dflt lo hi : Int} {offs : Array Int} {len : Nat} (g1 : a < lo ∨ hi < a) (ht : (pc : Int) + dflt = (tgt : Int)) (hd : decode cc pc = .ok (.tableswitch dflt lo hi offs, len)) (k : Gs x r v cells slots tgt ls st) : Gs x r v cells slots pc ls ((t, a) :: st) := by
  obtain ⟨⟨p, l, e, R, s, m⟩, ⟨args, below, meth, c⟩, ⟨nL', D, B, ad0, v0, rt', lw'⟩⟩ := x
  intro hr ad H locs lsA hS hE hV hl hls hst
  obtain ⟨hx, hb, hown, hR, hml, hnL, hrt, hret, hnm, hlk, het, hG⟩ := id F
  have ra := okv_il h1 (ok_h hst)
  have kk := k hr ad H locs lsA hS hE hV hl hls (ok_t hst)
  rw [List.map_cons, cv_il h1]
  exact lv_tableOut hx hb hd (by rw [I_t, w32_id ra]; exact g1) ht kk
theorem g_dup (F : Fx x cc own nm rm nL rt rty lw) {q : AV} (hq : (q.1 == 1) = false) (hd : decode cc pc = .ok (.dup, 1)) (k : Gs x r v cells slots (pc + 1) ls (q :: q :: st)) : Gs x r v cells slots pc ls (q :: st) := by
  obtain ⟨⟨p, l, e, R, s, m⟩, ⟨args, below, meth, c⟩, ⟨nL', D, B, ad0, v0, rt', lw'⟩⟩ := x
  intro hr ad H locs lsA hS hE hV hl hls hst
  obtain ⟨hx, hb, hown, hR, hml, hnL, hrt, hret, hnm, hlk, het, hG⟩ := id F
  have kk := k hr ad H locs lsA hS hE hV hl hls (ok_c (ok_h hst) hst)
  have h2 : (cv ad q).category = 1 := by
    rw [cat_cv, if_neg]
    intro h
    rw [h] at hq
    cases hq
  exact lv_dup hx hb hd h2 kk
theorem g_pop (F : Fx x cc own nm rm nL rt rty lw) {q : AV} (hq : (q.1 == 1) = false) (hd : decode cc pc = .ok (.pop, 1)) (k : Gs x r v cells slots (pc + 1) ls st) : Gs x r v cells slots pc ls (q :: st) := by
  obtain ⟨⟨p, l, e, R, s, m⟩, ⟨args, below, meth, c⟩, ⟨nL', D, B, ad0, v0, rt', lw'⟩⟩ := x
  intro hr ad H locs lsA hS hE hV hl hls hst
  obtain ⟨hx, hb, hown, hR, hml, hnL, hrt, hret, hnm, hlk, het, hG⟩ := id F
  have kk := k hr ad H locs lsA hS hE hV hl hls (ok_t hst)
  have h2 : (cv ad q).category = 1 := by
    rw [cat_cv, if_neg]
    intro h
    rw [h] at hq
    cases hq
  exact lv_pop hx hb hd h2 kk
theorem g_dup2 (F : Fx x cc own nm rm nL rt rty lw) {q q2 : AV} (hq : (q.1 == 1) = false) (hq2 : (q2.1 == 1) = false) (hd : decode cc pc = .ok (.dup2, 1)) (k : Gs x r v cells slots (pc + 1) ls (q :: q2 :: q :: q2 :: st)) : Gs x r v cells slots pc ls (q :: q2 :: st) := by
  obtain ⟨⟨p, l, e, R, s, m⟩, ⟨args, below, meth, c⟩, ⟨nL', D, B, ad0, v0, rt', lw'⟩⟩ := x
  intro hr ad H locs lsA hS hE hV hl hls hst
  obtain ⟨hx, hb, hown, hR, hml, hnL, hrt, hret, hnm, hlk, het, hG⟩ := id F
  have kk := k hr ad H locs lsA hS hE hV hl hls (ok_c (ok_h hst) (ok_c (ok_h (ok_t hst)) hst))
  have h2 : ∀ {q : AV}, (q.1 == 1) = false → (cv ad q).category = 1 := fun {q} hq => by
    rw [cat_cv, if_neg]
    intro h
    rw [h] at hq
    cases hq
  exact lv_dup2_11 hx hb hd (h2 hq) (h2 hq2) kk
/-- a state seen anew: fewer locals, in another order, a truth value as an int -/
def tle (t t' : Nat) : Bool := t == t' || (t == 2 && t' == 0)
theorem okv_le (h : tle t t2 = true) (k : okv v (t, a)) : okv v (t2, a) := by
  unfold tle at h
  simp only [Bool.or_eq_true, Bool.and_eq_true, beq_iff_eq] at h
  rcases h with rfl | ⟨rfl, rfl⟩
  · exact k
  · exact okv_0.mpr (R32_01 (okv_2.mp k))
theorem cv_le {ad : Ad} (h : tle t t2 = true) : cv ad (t, a) = cv ad (t2, a) := by
  unfold tle at h
  simp only [Bool.or_eq_true, Bool.and_eq_true, beq_iff_eq] at h
  rcases h with rfl | ⟨rfl, rfl⟩ <;> rfl
def lpk (l : List (Nat × AV)) (ks : List (Nat × Nat)) : List (Nat × AV) := ks.filterMap (fun k => match l[k.1]? with
  | some q => if tle q.2.1 k.2 = true then some (q.1, (k.2, q.2.2)) else none
  | none => none)
theorem lpk_mem {l : List (Nat × AV)} {ks : List (Nat × Nat)} {q : Nat × AV} (h : q ∈ lpk l ks) : ∃ z ∈ l, z.1 = q.1 ∧ z.2.2 = q.2.2 ∧ tle z.2.1 q.2.1 = true := by
  obtain ⟨k, -, hk⟩ := List.mem_filterMap.mp h
  split at hk
  · rename_i z hz
    split at hk
    · rename_i ht
      cases hk
      exact ⟨z, List.mem_of_getElem? hz, rfl, rfl, ht⟩
    · cases hk
  · cases hk
theorem g_loc (ks : List (Nat × Nat)) (he : lpk ls ks = ls') (k : Gs x r v cells slots pc ls' st) : Gs x r v cells slots pc ls st := by
  obtain ⟨⟨p, l, e, R, s, m⟩, ⟨args, below, meth, c⟩, ⟨nL', D, B, ad0, v0, rt', lw'⟩⟩ := x
  intro hr ad H locs lsA hS hE hV hl hls hst
  subst he
  refine k hr ad H locs lsA hS hE hV ⟨hl.1, hl.2.1, fun q hq => ?_⟩ (fun q hq => ?_) hst
  · obtain ⟨q0, h0, rfl⟩ := List.mem_map.mp hq
    obtain ⟨⟨z1, z2, z3⟩, hz, h1, h2, h3⟩ := lpk_mem h0
    obtain ⟨y1, y2, y3⟩ := q0
    dsimp only at h1 h2 h3
    subst h1
    subst h2
    have h4 := hl.2.2 (z1, cv ad (z2, z3)) (List.mem_map.mpr ⟨_, hz, rfl⟩)
    rw [cv_le h3] at h4
    exact h4
  · obtain ⟨⟨z1, z2, z3⟩, hz, h1, h2, h3⟩ := lpk_mem hq
    obtain ⟨y1, y2, y3⟩ := q
    dsimp only at h1 h2 h3
    subst h2
    exact okv_le h3 (hls _ hz)
end Core3

/-! CORE 8: the script in the law's body -/
section Core8
variable {x : Cx} {cc : ByteArray} {own nm : String} {rm : Room} {nL : Nat} {rt : Option Nat} {rty : Option FieldType} {lw : Nat} {r r1 r2 : Res} {v : V} {cells slots pc tgt : Nat} {ls ls' : List (Nat × AV)} {st : List AV} {t t1 t2 : Nat} {a b i z : Int}
/-- the law's script: thing 0 of kind 98 -/
def FxS (x : Cx) (L : Nat) (xs : Nat → Int32) : Prop := match x with
  | ((p, l, e, R, s, m), (args, below, meth, c), (nL, D, B, ad0, v0, rt, lw)) => va_X (ad0 98 0) L xs s s.heap ∧ ad0 98 0 < s.heap.size ∧ (∀ q, B q → s.heap.size ≤ q) ∧ v0 99 98 0 = 1 ∧ L < 2 ^ 31
def xi (xs : Nat → Int32) (j : Int) : Int := (xs j.toNat).toInt
theorem g_slen (F : Fx x cc own nm rm nL rt rty lw) {L : Nat} {xs : Nat → Int32} (hX : FxS x L xs) (hd : decode cc pc = .ok (.arraylength, 1)) (kk : Gs x r v cells slots (pc + 1) ls ((0, (L : Int)) :: st)) : Gs x r v cells slots pc ls ((108, 0) :: st) := by
  obtain ⟨⟨p, l, e, R, s, m⟩, ⟨args, below, meth, c⟩, ⟨nL', D, B, ad0, v0, rt', lw'⟩⟩ := x
  intro hr ad H locs lsA hS hE hV hl hls hst
  obtain ⟨hx, hb, hown, hR, hml, hnL, hrt, hret, hnm, hlk, het, hG⟩ := id F
  obtain ⟨x1, x2, x3, x4, x5⟩ := hX
  have e1 : ad 98 0 = ad0 98 0 := (hE 98 0 x4).2
  have k9 := kk hr ad H locs lsA hS hE hV hl hls (ok_c (okv_0.mpr (by unfold R32; omega)) (ok_t hst))
  rw [List.map_cons, show cv ad (108, 0) = .ref (ad 98 0) from cv_pos (K := 98) (by decide), e1]
  refine va_slen hx hb x1 x2 (fun h => by have := x3 _ h; omega) hV hd ?_
  have e2 : Int32.ofNat L = Int32.ofInt (L : Int) := Int32.ofInt_eq_ofNat.symm
  rw [e2]
  exact k9
theorem g_sld (F : Fx x cc own nm rm nL rt rty lw) {L : Nat} {xs : Nat → Int32} (hX : FxS x L xs) (h : 0 ≤ a ∧ a < (L : Int)) (h1 : il t1 = true) (hd : decode cc pc = .ok (.iaload, 1)) (kk : Gs x r v cells slots (pc + 1) ls ((0, xi xs a) :: st)) : Gs x r v cells slots pc ls ((t1, a) :: (108, 0) :: st) := by
  obtain ⟨⟨p, l, e, R, s, m⟩, ⟨args, below, meth, c⟩, ⟨nL', D, B, ad0, v0, rt', lw'⟩⟩ := x
  intro hr ad H locs lsA hS hE hV hl hls hst
  obtain ⟨hx, hb, hown, hR, hml, hnL, hrt, hret, hnm, hlk, het, hG⟩ := id F
  obtain ⟨x1, x2, x3, x4, x5⟩ := hX
  have e1 : ad 98 0 = ad0 98 0 := (hE 98 0 x4).2
  have k9 := kk hr ad H locs lsA hS hE hV hl hls (ok_c (okv_0.mpr (I_r _)) (ok_t (ok_t hst)))
  obtain ⟨k, rfl, hk, hin, hcl⟩ := ix_nat h x5
  rw [List.map_cons, List.map_cons, cv_il h1, show cv ad (108, 0) = .ref (ad 98 0) from cv_pos (K := 98) (by decide), e1]
  refine va_sld hx hb x1 x2 (fun h => by have := x3 _ h; omega) hV hin hd ?_
  rw [hcl]
  rw [List.map_cons, cv_0] at k9
  unfold xi at k9
  rw [I_of] at k9
  exact k9
end Core8

/-! A method that leaves nothing but garbage: what it made is forgotten -/
/-- what lived before is as it was -/
def Sam (v v' : V) : Prop := ∀ (K : Nat) (i j : Int), K < 98 → v 99 (K : Int) i = 1 → v' K i j = v K i j
noncomputable def fgt (f : V → Res) (v : V) : Res := match f v with
  | some (0, a, v') => @ite Res (Sam v v') (Classical.propDecidable _) (some (0, a, v)) none
  | _ => none
theorem fgt_ok {f : V → Res} {v v' : V} {a : Int} (h : f v = some (0, a, v')) (hs : Sam v v') : fgt f v = some (0, a, v) := by
  unfold fgt
  rw [h]
  exact if_pos hs
theorem fgt_inv {f : V → Res} {v : V} (h : fgt f v ≠ none) : ∃ a v', f v = some (0, a, v') ∧ Sam v v' ∧ fgt f v = some (0, a, v) := by
  match hf : f v with
  | none => exact absurd (show fgt f v = none by unfold fgt; rw [hf]) h
  | some (e + 1, a, v') => exact absurd (show fgt f v = none by unfold fgt; simp only [hf]) h
  | some (0, a, v') =>
    by_cases hs : Sam v v'
    · exact ⟨a, v', rfl, hs, fgt_ok hf hs⟩
    · exact absurd (show fgt f v = none by unfold fgt; rw [hf]; exact if_neg hs) h
theorem Sto_forget {D : va_G} {B : Nat → Prop} {ad ad1 : Ad} {v v1 : V} {H0 H1 : Heap} (h0 : Sto D B ad v H0) (h1 : Sto D B ad1 v1 H1) (hE : Ext v ad v1 ad1) (hs : Sam v v1) : Sto D B ad v H1 := by
  refine ⟨fun K i hK hi => ?_, h0.2⟩
  obtain ⟨e1, e2⟩ := hE K i hi
  obtain ⟨g1, g2, g3⟩ := h1.1 K i hK e1
  obtain ⟨f1, f2, f3⟩ := h0.1 K i hK hi
  rw [e2] at g1 g2
  refine ⟨g1.kept rfl (fun j hj => ?_), g2, f3⟩
  rw [hs K i (j : Int) hK hi, ext_cv hE (f3 j hj)]
theorem ct_fgt {l : Launch} {y : MethodName} {cc : ByteArray} {maxL : Nat} {rty : Option FieldType} {rm : Room} {rt : Option Nat} {as : List AV} {f : V → Res} (h : Ct l y cc maxL rty rm rt as f) (hrt : ∀ q, rt = some q → q < 10) : Ct l y cc maxL rty rm rt as (fgt f) := by
  intro D B ad v hok hf
  obtain ⟨a, v', e1, hs, e2⟩ := fgt_inv hf
  intro p e ha9 hc9 hk9 s m args below hfr happ hP hK9
  obtain ⟨n, o, g1, g2, g3, g4⟩ := h D B ad v hok (by rw [e1]; exact fun q => by cases q) p e ha9 hc9 hk9 s m args below hfr happ hP hK9
  obtain ⟨hav, hG, hS⟩ := hP
  refine ⟨n, o, g1, g2, g3, ?_⟩
  rcases g4 with ⟨⟨z, v1, ad1, c1, c2, c3, c4, c5, c6⟩, L, d1, d2⟩ | ⟨q, d0, E, ce, L, ⟨ee, v1, ad1, c1, -⟩, -⟩
  · rw [e1] at c1
    cases c1
    refine Or.inl ⟨⟨a, v, ad, e2, ?_, fun q hq => (okv_prim (hrt q hq)).mp (c3 q hq), Ext.rf, Sto_forget hS c5 c4 hs, c6⟩, L, d1, d2⟩
    rw [c2]
    cases rt with
    | none => rfl
    | some q =>
      have := cv_prim (as := [(q, a)]) (fun a h9 => by rw [List.mem_singleton.mp h9]; exact hrt q rfl) ad1 ad
      simp only [List.map_cons, List.map_nil, List.cons.injEq, and_true] at this
      show Outcome.returned (some (cv ad1 (q, a))) = .returned (some (cv ad (q, a)))
      rw [this]
  · rw [e1] at c1
    cases c1

/-! CORE 1: numbers; the abstract store; results -/
def R32 (x : Int) : Prop := -2147483648 ≤ x ∧ x < 2147483648
def R64 (x : Int) : Prop := -9223372036854775808 ≤ x ∧ x < 9223372036854775808
def w32 (x : Int) : Int := x.bmod 4294967296
def w64 (x : Int) : Int := x.bmod 18446744073709551616
theorem w32_r (x : Int) : R32 (w32 x) := by
  have h1 := Int.le_bmod (x := x) (m := 4294967296) (by decide)
  have h2 := Int.bmod_lt (x := x) (m := 4294967296) (by decide)
  unfold R32 w32
  omega
theorem w64_r (x : Int) : R64 (w64 x) := by
  have h1 := Int.le_bmod (x := x) (m := 18446744073709551616) (by decide)
  have h2 := Int.bmod_lt (x := x) (m := 18446744073709551616) (by decide)
  unfold R64 w64
  omega
theorem w32_id {x : Int} (h : R32 x) : w32 x = x := by
  unfold R32 at h
  unfold w32
  exact Int.bmod_eq_of_le (by omega) (by omega)
theorem w64_id {x : Int} (h : R64 x) : w64 x = x := by
  unfold R64 at h
  unfold w64
  exact Int.bmod_eq_of_le (by omega) (by omega)
theorem I_t (x : Int) : (Int32.ofInt x).toInt = w32 x := by rw [Int32.toInt_ofInt]; rfl
theorem L_t (x : Int) : (Int64.ofInt x).toInt = w64 x := by rw [Int64.toInt_ofInt]; rfl
theorem I_w (x : Int) : Int32.ofInt (w32 x) = Int32.ofInt x := by
  rw [← I_t, Int32.ofInt_toInt]
theorem L_w (x : Int) : Int64.ofInt (w64 x) = Int64.ofInt x := by
  rw [← L_t, Int64.ofInt_toInt]
theorem I_of (x : Int32) : Int32.ofInt x.toInt = x := Int32.ofInt_toInt x
theorem I_r (x : Int32) : R32 x.toInt := by
  have h1 := Int32.le_toInt x
  have h2 := Int32.toInt_lt x
  unfold R32
  omega
theorem L_r (x : Int64) : R64 x.toInt := by
  have h1 := Int64.le_toInt x
  have h2 := Int64.toInt_lt x
  unfold R64
  omega
theorem I_eq {a b : Int} (ha : R32 a) (hb : R32 b) : Int32.ofInt a = Int32.ofInt b ↔ a = b := by
  rw [← Int32.toInt_inj, I_t, I_t, w32_id ha, w32_id hb]
theorem I_lt {a b : Int} (ha : R32 a) (hb : R32 b) : Int32.ofInt a < Int32.ofInt b ↔ a < b := by
  rw [Int32.lt_iff_toInt_lt, I_t, I_t, w32_id ha, w32_id hb]
theorem I_le {a b : Int} (ha : R32 a) (hb : R32 b) : Int32.ofInt a ≤ Int32.ofInt b ↔ a ≤ b := by
  rw [Int32.le_iff_toInt_le, I_t, I_t, w32_id ha, w32_id hb]
theorem L_eq {a b : Int} (ha : R64 a) (hb : R64 b) : Int64.ofInt a = Int64.ofInt b ↔ a = b := by
  rw [← Int64.toInt_inj, L_t, L_t, w64_id ha, w64_id hb]
theorem L_lt {a b : Int} (ha : R64 a) (hb : R64 b) : Int64.ofInt a < Int64.ofInt b ↔ a < b := by
  rw [Int64.lt_iff_toInt_lt, L_t, L_t, w64_id ha, w64_id hb]
theorem R32_lit (x : Int) (h : (decide (-2147483648 ≤ x) && decide (x < 2147483648)) = true) : R32 x := by
  simp only [Bool.and_eq_true, decide_eq_true_eq] at h
  exact h
theorem R64_lit (x : Int) (h : (decide (-9223372036854775808 ≤ x) && decide (x < 9223372036854775808)) = true) : R64 x := by
  simp only [Bool.and_eq_true, decide_eq_true_eq] at h
  exact h
theorem R64_32 {x : Int} (h : R32 x) : R64 x := by unfold R32 at h; unfold R64; omega
theorem R32_01 {x : Int} (h : x = 0 ∨ x = 1) : R32 x := by unfold R32; omega
theorem I_add (a b : Int) : Int32.ofInt a + Int32.ofInt b = Int32.ofInt (w32 (a + b)) := by rw [I_w, Int32.ofInt_add]
theorem I_sub (a b : Int) : Int32.ofInt a - Int32.ofInt b = Int32.ofInt (w32 (a - b)) := by rw [I_w, Int32.ofInt_sub]
theorem I_mul (a b : Int) : Int32.ofInt a * Int32.ofInt b = Int32.ofInt (w32 (a * b)) := by rw [I_w, Int32.ofInt_mul]
theorem I_neg (a : Int) : -Int32.ofInt a = Int32.ofInt (w32 (-a)) := by rw [I_w, Int32.ofInt_neg]
theorem L_add (a b : Int) : Int64.ofInt a + Int64.ofInt b = Int64.ofInt (w64 (a + b)) := by rw [L_w, Int64.ofInt_add]
theorem L_sub (a b : Int) : Int64.ofInt a - Int64.ofInt b = Int64.ofInt (w64 (a - b)) := by rw [L_w, Int64.ofInt_sub]
theorem L_mul (a b : Int) : Int64.ofInt a * Int64.ofInt b = Int64.ofInt (w64 (a * b)) := by rw [L_w, Int64.ofInt_mul]
theorem I_div {a b : Int} (ha : R32 a) (hb : R32 b) : Int32.ofInt a / Int32.ofInt b = Int32.ofInt (w32 (a.tdiv b)) := by
  apply Int32.toInt_inj.1
  rw [Int32.toInt_div, I_t, I_t, I_t, w32_id ha, w32_id hb, w32_id (w32_r _)]
  rfl
theorem L_div {a b : Int} (ha : R64 a) (hb : R64 b) : Int64.ofInt a / Int64.ofInt b = Int64.ofInt (w64 (a.tdiv b)) := by
  apply Int64.toInt_inj.1
  rw [Int64.toInt_div, L_t, L_t, L_t, w64_id ha, w64_id hb, w64_id (w64_r _)]
  rfl
theorem I_i2l {a : Int} (ha : R32 a) : (Int32.ofInt a).toInt64 = Int64.ofInt a := by
  apply Int64.toInt_inj.1
  rw [Int32.toInt_toInt64, I_t, L_t, w32_id ha, w64_id (R64_32 ha)]
theorem L_l2i {a : Int} (ha : R64 a) : (Int64.ofInt a).toInt32 = Int32.ofInt (w32 a) := by
  apply Int32.toInt_inj.1
  rw [Int64.toInt_toInt32, I_t, L_t, w64_id ha, w32_id (w32_r _)]
  rfl
def and32 (a b : Int) : Int := (Int32.ofInt a &&& Int32.ofInt b).toInt
def or32 (a b : Int) : Int := (Int32.ofInt a ||| Int32.ofInt b).toInt
def shl32 (a b : Int) : Int := (Int32.ofInt a <<< (Int32.ofInt b &&& 31)).toInt
def shr32 (a b : Int) : Int := (Int32.ofInt a >>> (Int32.ofInt b &&& 31)).toInt
def ushr32 (a b : Int) : Int := ((Int32.ofInt a).toUInt32 >>> ((Int32.ofInt b).toUInt32 &&& Int32.toUInt32 31)).toInt32.toInt
def lcmp (a b : Int) : Int := if a < b then -1 else if a = b then 0 else 1
theorem lcmp_r (a b : Int) : R32 (lcmp a b) := by
  unfold lcmp R32
  split
  · omega
  · split <;> omega

abbrev V : Type := Nat → Int → Int → Int
abbrev AV : Type := Nat × Int
abbrev Ad : Type := Nat → Int → Nat
abbrev Res : Type := Option (Nat × Int × V)
def rOk (a : Int) (v : V) : Res := some (0, a, v)
def rEx (e : Nat) (v : V) : Res := some (e + 1, 0, v)
def rB (r : Res) (k : Int → V → Res) : Res := match r with
  | none => none
  | some (0, a, v) => k a v
  | some (e + 1, _, v) => some (e + 1, 0, v)
def chk (q : Prop) [Decidable q] (r : Res) : Res := if q then r else none
def rLet (v : V) (k : V → Res) : Res := k v
def up (v : V) (K : Nat) (i j z : Int) : V := fun K' i' j' => if K' = K ∧ i' = i ∧ j' = j then z else v K' i' j'
/-- the kinds: 0 to 7 the classes X0 to X7; 10 to 16 FreePort's arrays; 17 and 18 the law's two counts by works; 98 the script -/
def tgT : List (List Nat) := [
  [13, 0, 0, 0],
  [0, 13, 0, 0, 0, 0, 13, 2],
  [0, 16, 12, 13, 0, 11, 10, 14],
  [0, 0, 0, 0, 2, 0],
  [0, 0, 0, 2, 0],
  [13, 0, 2],
  [0, 13, 25, 26, 0, 0, 0, 2, 0, 0],
  [20, 21, 22, 23, 24, 0, 0, 0, 0, 0]]
/-- the arrays' kinds: the elements' tag, the length -/
def arT : List (Nat × Nat × Nat) := [(10, 13, 10), (11, 16, 12), (12, 12, 60), (13, 11, 20), (14, 0, 4), (15, 15, 50), (16, 2, 101), (17, 0, 12), (18, 0, 12)]
def arL (K : Nat) : List (Nat × Nat × Nat) → Nat × Nat
  | [] => (0, 0)
  | q :: l => if q.1 = K then q.2 else arL K l
def isAr (K : Nat) : Bool := arT.any (fun q => q.1 == K)
def tg (K : Nat) (j : Int) : Nat := if K < 8 then (tgT.getD K []).getD j.toNat 0 else (arL K arT).1
def ln (K : Nat) : Nat := if K < 8 then (tgT.getD K []).length else (arL K arT).2
/-- the elements' type -/
def aty (K : Nat) : FieldType :=
  let t := (arL K arT).1
  if t = 0 then .int else if t = 1 then .long else if t = 2 then .boolean else if t = 13 then .object "FreePort$Party" else if t = 16 then .object "FreePort$Work" else if t = 12 then .object "FreePort$Lot" else if t = 11 then .object "FreePort$Loan" else .object "FreePort$Word"
def df (K : Nat) (j : Int) : Int := if tg K j < 10 then 0 else -1
def nw (v : V) (K : Nat) (i : Int) : V := fun K' i' j' => if K' = K ∧ i' = i then df K j' else if K' = 99 ∧ i' = (K : Int) ∧ j' = i then 1 else v K' i' j'
def cv (ad : Ad) (a : AV) : Value := if a.1 = 1 then .long (Int64.ofInt a.2) else if a.1 < 10 then .int (Int32.ofInt a.2) else if a.2 < 0 then .null else .ref (ad (a.1 - 10) a.2)
def okv (v : V) (a : AV) : Prop := if a.1 = 1 then R64 a.2 else if a.1 = 0 then R32 a.2 else if a.1 < 10 then (a.2 = 0 ∨ a.2 = 1) else (a.2 = -1 ∨ (0 ≤ a.2 ∧ v 99 ((a.1 - 10 : Nat) : Int) a.2 = 1))
def Ext (v0 : V) (ad0 : Ad) (v : V) (ad : Ad) : Prop := ∀ (K : Nat) (i : Int), v0 99 (K : Int) i = 1 → v 99 (K : Int) i = 1 ∧ ad K i = ad0 K i
theorem Ext.rf {v : V} {ad : Ad} : Ext v ad v ad := fun _ _ h => ⟨h, rfl⟩
theorem Ext.tr {v0 v1 v2 : V} {a0 a1 a2 : Ad} (h1 : Ext v0 a0 v1 a1) (h2 : Ext v1 a1 v2 a2) : Ext v0 a0 v2 a2 := fun K i h => ⟨(h2 K i (h1 K i h).1).1, ((h2 K i (h1 K i h).1).2).trans (h1 K i h).2⟩
theorem ext_okv {v0 v : V} {a0 a1 : Ad} (h : Ext v0 a0 v a1) {a : AV} (k : okv v0 a) : okv v a := by
  unfold okv at k ⊢
  split
  · rwa [if_pos (by assumption)] at k
  · rw [if_neg (by assumption)] at k
    split
    · rwa [if_pos (by assumption)] at k
    · rw [if_neg (by assumption)] at k
      split
      · rwa [if_pos (by assumption)] at k
      · rw [if_neg (by assumption)] at k
        rcases k with k | ⟨k1, k2⟩
        · exact Or.inl k
        · exact Or.inr ⟨k1, (h _ _ k2).1⟩
theorem ext_cv {v0 v : V} {a0 a1 : Ad} (h : Ext v0 a0 v a1) {a : AV} (k : okv v0 a) : cv a1 a = cv a0 a := by
  unfold cv
  unfold okv at k
  split
  · rfl
  · rw [if_neg (by assumption)] at k
    split
    · rfl
    · rw [if_neg (by omega), if_neg (by assumption)] at k
      split
      · rfl
      · rcases k with k | ⟨k1, k2⟩
        · omega
        · rw [(h _ _ k2).2]
theorem up_same (v : V) (K : Nat) (i j z : Int) : up v K i j z K i j = z := by unfold up; rw [if_pos ⟨rfl, rfl, rfl⟩]
theorem up_99 {v : V} {K : Nat} {i j z i' j' : Int} (h : K ≠ 99) : up v K i j z 99 i' j' = v 99 i' j' := by unfold up; rw [if_neg (fun q => h q.1.symm)]
theorem ext_up {v0 v : V} {a0 a1 : Ad} (h : Ext v0 a0 v a1) {K : Nat} {i j z : Int} (hK : K ≠ 99) : Ext v0 a0 (up v K i j z) a1 := fun K' i' h' => by rw [up_99 hK]; exact h K' i' h'
theorem okv_up {v : V} {a : AV} {K : Nat} {i j z : Int} (hK : K ≠ 99) : okv (up v K i j z) a ↔ okv v a := by
  unfold okv
  rw [up_99 hK]

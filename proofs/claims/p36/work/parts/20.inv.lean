/-! PURE 1: reading a store behind writes; small specs; the invariant -/
theorem up_r (v : V) (K : Nat) (i j z : Int) (K' : Nat) (i' j' : Int) : up v K i j z K' i' j' = if K' = K ∧ i' = i ∧ j' = j then z else v K' i' j' := rfl
theorem nw_r (v : V) (K : Nat) (i : Int) (K' : Nat) (i' j' : Int) : nw v K i K' i' j' = if K' = K ∧ i' = i then df K j' else if K' = 99 ∧ i' = (K : Int) ∧ j' = i then 1 else v K' i' j' := rfl
theorem rB_ok (a : Int) (v : V) (k : Int → V → Res) : rB (rOk a v) k = k a v := rfl
theorem rB_ex (e : Nat) (v : V) (k : Int → V → Res) : rB (rEx e v) k = rEx e v := rfl
theorem rBx_ok (a : Int) (v : V) (k : Int → V → Res) (kx : Nat → V → Res) : rBx (rOk a v) k kx = k a v := rfl
theorem rBx_ex (e : Nat) (v : V) (k : Int → V → Res) (kx : Nat → V → Res) : rBx (rEx e v) k kx = kx e v := rfl
theorem rB_ite {q : Prop} [Decidable q] (a b : Res) (k : Int → V → Res) : rB (if q then a else b) k = if q then rB a k else rB b k := by split <;> rfl
theorem rBx_ite {q : Prop} [Decidable q] (a b : Res) (k : Int → V → Res) (kx : Nat → V → Res) : rBx (if q then a else b) k kx = if q then rBx a k kx else rBx b k kx := by split <;> rfl
theorem chk_t {q : Prop} [Decidable q] (h : q) (r : Res) : chk q r = r := by unfold chk; rw [if_pos h]
theorem rLet_r (v : V) (k : V → Res) : rLet v k = k v := rfl
theorem w32_i {z : Int} (h1 : -2147483648 ≤ z) (h2 : z < 2147483648) : w32 z = z := w32_id ⟨h1, h2⟩
theorem w64_i {z : Int} (h1 : -9223372036854775808 ≤ z) (h2 : z < 9223372036854775808) : w64 z = z := w64_id ⟨h1, h2⟩
theorem lcmp_0 (a b : Int) : lcmp a b = 0 ↔ a = b := by
  unfold lcmp
  split
  · constructor <;> intro h <;> omega
  · split
    · constructor <;> intro h <;> first | rfl | assumption
    · constructor <;> intro h <;> omega
/-! the small specs -/
theorem e_range (x lo hi : Int) (v : V) : sp_X7_requireRange x lo hi v = if lo ≤ x ∧ x ≤ hi then rOk 0 v else rEx 2 v := by
  unfold sp_X7_requireRange
  split
  · rw [if_neg (by omega)]
  · split
    · rw [if_pos (by omega)]
    · rw [if_neg (by omega)]
theorem e_land (x : Int) (v : V) : sp_X7_requireLand x v = if 0 ≤ x ∧ x < 4 then rOk 0 v else rEx 1 v := by
  unfold sp_X7_requireLand
  split
  · rw [if_neg (by omega)]
  · split
    · rw [if_pos (by omega)]
    · rw [if_neg (by omega)]
theorem e_state (b : Int) (v : V) : sp_X7_requireState b v = if b = 0 then rEx 3 v else rOk 0 v := by
  unfold sp_X7_requireState
  by_cases h : b = 0
  · simp [h]
  · simp [h]
/-! the invariant of one object -/
def IS (v : V) : Prop :=
  v 7 0 0 = 0 ∧ v 7 0 1 = 0 ∧ v 7 0 2 = 0 ∧ v 7 0 3 = 0 ∧ v 7 0 4 = 0 ∧
  0 ≤ v 7 0 9 ∧ v 7 0 9 ≤ 20000 ∧ 0 ≤ v 7 0 5 ∧ v 7 0 5 ≤ 10 ∧ 0 ≤ v 7 0 6 ∧ v 7 0 6 ≤ 12 ∧ 0 ≤ v 7 0 7 ∧ v 7 0 7 ≤ 60 ∧ 0 ≤ v 7 0 8 ∧ v 7 0 8 ≤ 20 ∧ 0 ≤ v 98 0 0
def IR (v : V) : Prop := ∀ i : Int, 0 ≤ i → i < 4 → 0 ≤ v 14 0 i ∧ v 14 0 i ≤ 20
def IP (v : V) : Prop := ∀ i : Int, 0 ≤ i → i < v 7 0 5 → v 10 0 i = i ∧ v 3 i 0 = i ∧ 0 ≤ v 3 i 1 ∧ v 3 i 1 < 4 ∧ 0 ≤ v 3 i 2 ∧ 0 ≤ v 3 i 3 ∧ v 3 i 3 ≤ 9 ∧ (v 3 i 4 = 0 ∨ v 3 i 4 = 1) ∧ 0 ≤ v 3 i 5 ∧ v 3 i 5 < 1024
/-- who punishes is an artist of some work -/
def IB (v : V) : Prop := ∀ p a : Int, 0 ≤ p → p < v 7 0 5 → 0 ≤ a → a < 10 → ¬ and32 (v 3 p 5) (shl32 1 a) = 0 → ∃ w : Int, 0 ≤ w ∧ w < v 7 0 6 ∧ v 6 w 1 = a
def IW (v : V) : Prop := ∀ i : Int, 0 ≤ i → i < v 7 0 6 → v 11 0 i = i ∧ v 6 i 0 = i ∧ 0 ≤ v 6 i 1 ∧ v 6 i 1 < v 7 0 5 ∧ v 6 i 2 = i ∧ v 6 i 3 = i ∧ 0 ≤ v 6 i 4 ∧ v 6 i 4 ≤ 50 ∧ 0 ≤ v 6 i 5 ∧ v 6 i 5 ≤ 1000000 ∧ 0 ≤ v 6 i 6 ∧ v 6 i 6 < 4 ∧ (v 6 i 7 = 0 ∨ v 6 i 7 = 1) ∧ 0 ≤ v 6 i 8 ∧ v 6 i 8 ≤ 21000 ∧ -1 ≤ v 6 i 9 ∧ v 6 i 9 ≤ v 7 0 9
def ID (v : V) : Prop := ∀ i k : Int, 0 ≤ i → i < v 7 0 6 → 0 ≤ k → k < v 6 i 4 → v 15 i k = 50 * i + k ∧ 0 ≤ v 5 (50 * i + k) 0 ∧ v 5 (50 * i + k) 0 < v 7 0 5
/-- a lot's consignment; its sale -/
def ICo (v : V) (i : Int) : Prop := v 2 i 6 = -1 ∨ (0 ≤ v 2 i 6 ∧ v 2 i 6 < v 98 0 0 ∧ 0 ≤ v 0 (v 2 i 6) 0 ∧ v 0 (v 2 i 6) 0 < v 7 0 5 ∧ ¬ v 0 (v 2 i 6) 0 = v 2 i 3 ∧ 0 ≤ v 0 (v 2 i 6) 2 ∧ v 0 (v 2 i 6) 2 ≤ 50 ∧ 0 < v 2 i 4)
def ISa (v : V) (i : Int) : Prop := v 2 i 7 = -1 ∨ (v 2 i 7 = i ∧ 0 ≤ v 4 i 0 ∧ v 4 i 0 ≤ v 7 0 9 ∧ 0 ≤ v 4 i 1 ∧ v 4 i 1 ≤ 1000000 ∧ 1 ≤ v 4 i 2 ∧ v 4 i 2 ≤ 60 ∧ (v 4 i 3 = 0 ∨ v 4 i 3 = 1) ∧ 0 ≤ v 4 i 4 ∧ v 4 i 4 < 1024 ∧ 0 ≤ v 2 i 2)
def IL (v : V) : Prop := ∀ i : Int, 0 ≤ i → i < v 7 0 7 → (v 12 0 i = i ∧ v 2 i 0 = i ∧ 0 ≤ v 2 i 1 ∧ v 2 i 1 < v 7 0 6 ∧ -1 ≤ v 2 i 2 ∧ v 2 i 2 < i ∧ 0 ≤ v 2 i 3 ∧ v 2 i 3 < v 7 0 5 ∧ 0 ≤ v 2 i 4 ∧ v 2 i 4 ≤ 60 ∧ -1 ≤ v 2 i 5 ∧ v 2 i 5 < v 7 0 8 ∧ (v 2 i 5 = -1 ∨ v 1 (v 2 i 5) 7 = 0)) ∧ ICo v i ∧ ISa v i
def IN (v : V) : Prop := ∀ i : Int, 0 ≤ i → i < v 7 0 8 → v 13 0 i = i ∧ v 1 i 0 = i ∧ 0 ≤ v 1 i 1 ∧ v 1 i 1 < v 7 0 5 ∧ 1 ≤ v 1 i 2 ∧ v 1 i 2 ≤ 500000 ∧ 0 ≤ v 1 i 3 ∧ v 1 i 3 ≤ 100 ∧ 0 ≤ v 1 i 4 ∧ v 1 i 4 ≤ v 7 0 9 ∧ 0 ≤ v 1 i 5 ∧ v 1 i 5 ≤ 21000 ∧ 0 ≤ v 1 i 6 ∧ v 1 i 6 < v 7 0 5 ∧ (v 1 i 7 = 0 ∨ v 1 i 7 = 1)
def IA (v : V) : Prop := (∀ i : Int, v 7 0 5 ≤ i → ¬ v 99 3 i = 1) ∧ (∀ i : Int, v 7 0 6 ≤ i → ¬ v 99 6 i = 1 ∧ ¬ v 99 15 i = 1 ∧ ¬ v 99 16 i = 1) ∧ (∀ i : Int, v 7 0 7 ≤ i → ¬ v 99 2 i = 1 ∧ ¬ v 99 4 i = 1) ∧ (∀ i : Int, v 7 0 8 ≤ i → ¬ v 99 1 i = 1) ∧ (∀ i : Int, v 98 0 0 ≤ i → ¬ v 99 0 i = 1) ∧ (∀ i k : Int, 0 ≤ i → i < v 7 0 6 → v 6 i 4 ≤ k → k < 50 → ¬ v 99 5 (50 * i + k) = 1) ∧ ∀ k : Int, 50 * v 7 0 6 ≤ k → ¬ v 99 5 k = 1
/-- the money of all -/
def monF (v : V) (i : Int) : Int := v 3 i 2
def mon (v : V) : Int := sumD (monF v) (v 7 0 5) 0
def IM (v : V) : Prop := mon v ≤ 1000000 * v 7 0 5
/-- the parts of a work -/
def ptF (v : V) (w i : Int) : Int := if v 2 i 1 = w then v 2 i 4 else 0
def IT (v : V) : Prop := ∀ w : Int, 0 ≤ w → w < v 7 0 6 → sumD (ptF v w) (v 7 0 7) 0 = 60
def Inv (v : V) : Prop := IS v ∧ IR v ∧ IP v ∧ IB v ∧ IW v ∧ ID v ∧ IL v ∧ IN v ∧ IA v ∧ IM v ∧ IT v
/-- what every call keeps; the law's two counts (kinds 17 and 18) aren't there -/
def Kp (v w : V) : Prop := w 7 0 5 = v 7 0 5 ∧ w 7 0 6 = v 7 0 6 ∧ mon w = mon v ∧ w 99 17 0 = v 99 17 0 ∧ w 99 18 0 = v 99 18 0

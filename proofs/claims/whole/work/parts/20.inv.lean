/-! PURE 1: reading a store behind writes; small specs; the invariant -/
theorem up_r (v : V) (K : Nat) (i j z : Int) (K' : Nat) (i' j' : Int) : up v K i j z K' i' j' = if K' = K ∧ i' = i ∧ j' = j then z else v K' i' j' := rfl
theorem nw_r (v : V) (K : Nat) (i : Int) (K' : Nat) (i' j' : Int) : nw v K i K' i' j' = if K' = K ∧ i' = i then df K j' else if K' = 99 ∧ i' = (K : Int) ∧ j' = i then 1 else v K' i' j' := rfl
theorem rB_ok (a : Int) (v : V) (k : Int → V → Res) : rB (rOk a v) k = k a v := rfl
theorem rB_ex (e : Nat) (v : V) (k : Int → V → Res) : rB (rEx e v) k = rEx e v := rfl
theorem rBx_ok (a : Int) (v : V) (k : Int → V → Res) (kx : Nat → V → Res) : rBx (rOk a v) k kx = k a v := rfl
theorem rBx_ex (e : Nat) (v : V) (k : Int → V → Res) (kx : Nat → V → Res) : rBx (rEx e v) k kx = kx e v := rfl
theorem rB_ite {q : Prop} [Decidable q] (a b : Res) (k : Int → V → Res) : rB (if q then a else b) k = if q then rB a k else rB b k := by split <;> rfl
theorem rBx_ite {q : Prop} [Decidable q] (a b : Res) (k : Int → V → Res) (kx : Nat → V → Res) : rBx (if q then a else b) k kx = if q then rBx a k kx else rBx b k kx := by split <;> rfl
theorem chk_t {q : Prop} [Decidable q] (h : q) (r : Res) : chk q r = r := by unfold chk; rw [if_pos h]
theorem rLet_r (v : V) (k : V → Res) : rLet v k = k v := rfl
theorem kx_nil (i : Int) (e : Nat) (v : V) : kxAt i [] e v = none := rfl
theorem kx_cons (i : Int) (e0 : Nat) (l : List Nat) (e : Nat) (v : V) : kxAt i (e0 :: l) e v = if e = e0 then rOk i v else kxAt (i + 1) l e v := rfl
theorem w32_i {z : Int} (h1 : -2147483648 ≤ z) (h2 : z < 2147483648) : w32 z = z := w32_id ⟨h1, h2⟩
theorem w64_i {z : Int} (h1 : -9223372036854775808 ≤ z) (h2 : z < 9223372036854775808) : w64 z = z := w64_id ⟨h1, h2⟩
theorem lcmp_0 (a b : Int) : lcmp a b = 0 ↔ a = b := by
  unfold lcmp
  split
  · constructor <;> intro h <;> omega
  · split
    · constructor <;> intro h <;> first | rfl | assumption
    · constructor <;> intro h <;> omega
/-! the small specs -/
theorem e_range (x lo hi : Int) (v : V) : sp_X7_requireRange x lo hi v = if lo ≤ x ∧ x ≤ hi then rOk 0 v else rEx 2 v := by
  unfold sp_X7_requireRange
  split
  · rw [if_neg (by omega)]
  · split
    · rw [if_pos (by omega)]
    · rw [if_neg (by omega)]
theorem e_land (x : Int) (v : V) : sp_X7_requireLand x v = if 0 ≤ x ∧ x < 4 then rOk 0 v else rEx 1 v := by
  unfold sp_X7_requireLand
  split
  · rw [if_neg (by omega)]
  · split
    · rw [if_pos (by omega)]
    · rw [if_neg (by omega)]
theorem e_state (b : Int) (v : V) : sp_X7_requireState b v = if b = 0 then rEx 3 v else rOk 0 v := by
  unfold sp_X7_requireState
  by_cases h : b = 0
  · simp [h]
  · simp [h]
theorem e_in (x lo hi : Int) (v : V) : sp_X8_in x lo hi v = rOk (if lo ≤ x ∧ x ≤ hi then 1 else 0) v := by
  unfold sp_X8_in
  split
  · rw [if_neg (by omega)]
  · split
    · rw [if_neg (by omega)]
    · rw [if_pos (by omega)]
theorem e_holds (n : Int) (v : V) : sp_X8_holds 0 n v = rOk (if n = 0 then 1 else 0) (up v 8 0 0 n) := by
  unfold sp_X8_holds
  rw [rLet_r]
  by_cases h : n = 0
  · simp [h]
  · simp [h]
/-! the invariant: the class's things (kinds 0 to 7, 10 to 16) tell what the model's rows (kind 8, kinds 43 to 83) tell -/
def F8 (v : V) : Prop := ∀ j : Int, ((3 ≤ j ∧ j ≤ 8) ∨ (10 ≤ j ∧ j ≤ 20) ∨ (22 ≤ j ∧ j ≤ 35) ∨ (37 ≤ j ∧ j ≤ 43)) → v 8 0 j = 0
def IS (v : V) : Prop :=
  v 7 0 0 = 0 ∧ v 7 0 1 = 0 ∧ v 7 0 2 = 0 ∧ v 7 0 3 = 0 ∧ v 7 0 4 = 0 ∧
  v 7 0 5 = v 8 0 2 ∧ v 7 0 6 = v 8 0 9 ∧ v 7 0 7 = v 8 0 21 ∧ v 7 0 8 = v 8 0 36 ∧ v 7 0 9 = v 8 0 1 ∧
  0 ≤ v 8 0 1 ∧ v 8 0 1 ≤ 20000 ∧ 0 ≤ v 8 0 2 ∧ v 8 0 2 ≤ 10 ∧ 0 ≤ v 8 0 9 ∧ v 8 0 9 ≤ 12 ∧ 0 ≤ v 8 0 21 ∧ v 8 0 21 ≤ 60 ∧ 0 ≤ v 8 0 36 ∧ v 8 0 36 ≤ 20 ∧ 0 ≤ v 98 0 0
def IR (v : V) : Prop := ∀ i : Int, 0 ≤ i → i < 4 → v 14 0 i = v 48 0 i ∧ 0 ≤ v 48 0 i ∧ v 48 0 i ≤ 20
def IP (v : V) : Prop := ∀ i : Int, 0 ≤ i → i < v 8 0 2 → v 10 0 i = i ∧ v 3 i 0 = i ∧ v 3 i 1 = v 44 0 i ∧ 0 ≤ v 44 0 i ∧ v 44 0 i < 4 ∧ v 3 i 2 = v 43 0 i ∧ 0 ≤ v 43 0 i ∧ v 3 i 3 = v 46 0 i ∧ 0 ≤ v 46 0 i ∧ v 46 0 i ≤ 9 ∧ v 3 i 4 = v 45 0 i ∧ (v 45 0 i = 0 ∨ v 45 0 i = 1)
def IP2 (v : V) : Prop := ∀ i : Int, v 8 0 2 ≤ i → i < 10 → v 43 0 i = 0 ∧ v 46 0 i = 0 ∧ v 45 0 i = 0
/-- who punishes: bits against rows -/
def IB (v : V) : Prop := (∀ p : Int, 0 ≤ p → p < v 8 0 2 → 0 ≤ v 3 p 5 ∧ v 3 p 5 < 1024) ∧ (∀ p a : Int, 0 ≤ p → p < v 8 0 2 → 0 ≤ a → a < 10 → (v 47 0 (10 * a + p) = 0 ∨ v 47 0 (10 * a + p) = 1) ∧ (and32 (v 3 p 5) (shl32 1 a) = 0 ↔ v 47 0 (10 * a + p) = 0)) ∧ ∀ p a : Int, v 8 0 2 ≤ p → p < 10 → 0 ≤ a → a < 10 → v 47 0 (10 * a + p) = 0
def IW (v : V) : Prop := ∀ i : Int, 0 ≤ i → i < v 8 0 9 → v 11 0 i = i ∧ v 6 i 0 = i ∧ v 6 i 1 = v 50 0 i ∧ 0 ≤ v 50 0 i ∧ v 50 0 i < v 8 0 2 ∧ v 6 i 2 = i ∧ v 6 i 3 = i ∧ v 6 i 4 = v 57 0 i ∧ 0 ≤ v 57 0 i ∧ v 57 0 i ≤ 50 ∧ v 6 i 5 = v 51 0 i ∧ 0 ≤ v 51 0 i ∧ v 51 0 i ≤ 1000000 ∧ v 6 i 6 = v 52 0 i ∧ 0 ≤ v 52 0 i ∧ v 52 0 i < 4 ∧ v 6 i 7 = v 53 0 i ∧ (v 53 0 i = 0 ∨ v 53 0 i = 1) ∧ v 6 i 8 = v 54 0 i ∧ 0 ≤ v 54 0 i ∧ v 54 0 i ≤ 21000 ∧ v 6 i 9 = v 55 0 i ∧ -1 ≤ v 55 0 i ∧ v 55 0 i ≤ v 8 0 1
def IW2 (v : V) : Prop := ∀ i : Int, v 8 0 9 ≤ i → i < 12 → v 53 0 i = 0 ∧ v 54 0 i = 0 ∧ v 57 0 i = 0
def ID (v : V) : Prop := ∀ i k : Int, 0 ≤ i → i < v 8 0 9 → 0 ≤ k → k < v 57 0 i → v 15 i k = 50 * i + k ∧ v 5 (50 * i + k) 0 = v 58 0 (50 * i + k) ∧ 0 ≤ v 58 0 (50 * i + k) ∧ v 58 0 (50 * i + k) < v 8 0 2 ∧ v 5 (50 * i + k) 1 = v 59 0 (50 * i + k) ∧ 0 ≤ v 59 0 (50 * i + k) ∧ v 59 0 (50 * i + k) ≤ v 8 0 1 ∧ v 5 (50 * i + k) 2 = v 60 0 (50 * i + k) ∧ (v 60 0 (50 * i + k) = 0 ∨ v 60 0 (50 * i + k) = 1)
def IY (v : V) : Prop := (∀ i y : Int, 0 ≤ i → i < v 8 0 9 → 0 ≤ y → y < 101 → v 16 i y = v 56 0 (101 * i + y) ∧ (v 56 0 (101 * i + y) = 0 ∨ v 56 0 (101 * i + y) = 1)) ∧ ∀ i y : Int, v 8 0 9 ≤ i → i < 12 → 0 ≤ y → y < 101 → v 56 0 (101 * i + y) = 0
/-- a lot's consignment; its sale -/
def ICo (v : V) (i : Int) : Prop := (v 66 0 i = -1 ∧ v 2 i 6 = -1) ∨ (0 ≤ v 66 0 i ∧ v 66 0 i < v 8 0 2 ∧ 0 ≤ v 2 i 6 ∧ v 2 i 6 < v 98 0 0 ∧ v 0 (v 2 i 6) 0 = v 66 0 i ∧ v 0 (v 2 i 6) 1 = v 67 0 i ∧ v 0 (v 2 i 6) 2 = v 68 0 i ∧ 0 ≤ v 68 0 i ∧ v 68 0 i ≤ 50 ∧ v 0 (v 2 i 6) 3 = v 69 0 i ∧ 0 < v 64 0 i)
def ISa (v : V) (i : Int) : Prop := (v 71 0 i = -1 ∧ v 2 i 7 = -1) ∨ (0 ≤ v 71 0 i ∧ v 71 0 i ≤ v 8 0 1 ∧ v 2 i 7 = i ∧ v 4 i 0 = v 71 0 i ∧ v 4 i 1 = v 72 0 i ∧ 0 ≤ v 72 0 i ∧ v 72 0 i ≤ 1000000 ∧ v 4 i 2 = v 73 0 i ∧ 1 ≤ v 73 0 i ∧ v 73 0 i ≤ 60 ∧ v 4 i 3 = v 74 0 i ∧ (v 74 0 i = 0 ∨ v 74 0 i = 1) ∧ v 4 i 4 = v 75 0 i ∧ 0 ≤ v 75 0 i ∧ v 75 0 i < 1024 ∧ 0 ≤ v 70 0 i)
def IL (v : V) : Prop := ∀ i : Int, 0 ≤ i → i < v 8 0 21 → (v 12 0 i = i ∧ v 2 i 0 = i ∧ v 2 i 1 = v 62 0 i ∧ 0 ≤ v 62 0 i ∧ v 62 0 i < v 8 0 9 ∧ v 2 i 2 = v 70 0 i ∧ -1 ≤ v 70 0 i ∧ v 70 0 i < i ∧ v 2 i 3 = v 63 0 i ∧ 0 ≤ v 63 0 i ∧ v 63 0 i < v 8 0 2 ∧ v 2 i 4 = v 64 0 i ∧ 0 ≤ v 64 0 i ∧ v 64 0 i ≤ 60 ∧ v 2 i 5 = v 65 0 i ∧ -1 ≤ v 65 0 i ∧ v 65 0 i < v 8 0 36) ∧ ICo v i ∧ ISa v i
def IN (v : V) : Prop := ∀ i : Int, 0 ≤ i → i < v 8 0 36 → v 13 0 i = i ∧ v 1 i 0 = i ∧ v 1 i 1 = v 77 0 i ∧ 0 ≤ v 77 0 i ∧ v 77 0 i < v 8 0 2 ∧ v 1 i 2 = v 79 0 i ∧ 1 ≤ v 79 0 i ∧ v 79 0 i ≤ 500000 ∧ v 1 i 3 = v 80 0 i ∧ 0 ≤ v 80 0 i ∧ v 80 0 i ≤ 100 ∧ v 1 i 4 = v 81 0 i ∧ 0 ≤ v 81 0 i ∧ v 81 0 i ≤ v 8 0 1 ∧ v 1 i 5 = v 82 0 i ∧ 0 ≤ v 82 0 i ∧ v 82 0 i ≤ 21000 ∧ v 1 i 6 = v 78 0 i ∧ 0 ≤ v 78 0 i ∧ v 78 0 i < v 8 0 2 ∧ v 1 i 7 = v 83 0 i ∧ (v 83 0 i = 0 ∨ v 83 0 i = 1)
def IN2 (v : V) : Prop := ∀ i : Int, v 8 0 36 ≤ i → i < 20 → v 83 0 i = 0
def IA (v : V) : Prop := (∀ i : Int, v 8 0 2 ≤ i → ¬ v 99 3 i = 1) ∧ (∀ i : Int, v 8 0 9 ≤ i → ¬ v 99 6 i = 1 ∧ ¬ v 99 15 i = 1 ∧ ¬ v 99 16 i = 1) ∧ (∀ i : Int, v 8 0 21 ≤ i → ¬ v 99 2 i = 1 ∧ ¬ v 99 4 i = 1) ∧ (∀ i : Int, v 8 0 36 ≤ i → ¬ v 99 1 i = 1) ∧ (∀ i : Int, v 98 0 0 ≤ i → ¬ v 99 0 i = 1) ∧ ∀ i k : Int, 0 ≤ i → i < 12 → v 57 0 i ≤ k → k < 50 → ¬ v 99 5 (50 * i + k) = 1
def s10 (f : Int → Int) : Int := f 0 + f 1 + f 2 + f 3 + f 4 + f 5 + f 6 + f 7 + f 8 + f 9
def IM (v : V) : Prop := s10 (v 43 0) ≤ 1000000 * v 8 0 2
def Inv (v : V) : Prop := IS v ∧ F8 v ∧ IR v ∧ IP v ∧ IP2 v ∧ IB v ∧ IW v ∧ IW2 v ∧ ID v ∧ IY v ∧ IL v ∧ IN v ∧ IN2 v ∧ IA v ∧ IM v

/-! PURE 0: bits; sums over a range -/
theorem ofi_nat {a : Int} (h0 : 0 ≤ a) (h1 : a < 2147483648) : (Int32.ofInt a).toBitVec.toNat = a.toNat := by
  have e : (Int32.ofInt a).toBitVec = BitVec.ofInt 32 a := rfl
  rw [e, BitVec.toNat_ofInt]
  have : a % ((2 ^ 32 : Nat) : Int) = a := Int.emod_eq_of_lt h0 (by omega)
  rw [this]
theorem and32_n {a b : Int} (h0 : 0 ≤ a) (h1 : a < 2147483648) (g0 : 0 ≤ b) (g1 : b < 2147483648) : and32 a b = ((a.toNat &&& b.toNat : Nat) : Int) := by
  unfold and32
  show (((Int32.ofInt a).toBitVec &&& (Int32.ofInt b).toBitVec)).toInt = _
  have e : ((Int32.ofInt a).toBitVec &&& (Int32.ofInt b).toBitVec).toNat = a.toNat &&& b.toNat := by
    rw [BitVec.toNat_and, ofi_nat h0 h1, ofi_nat g0 g1]
  have l : a.toNat &&& b.toNat ≤ a.toNat := Nat.and_le_left
  rw [BitVec.toInt_eq_toNat_of_lt (by rw [e]; omega), e]
theorem or32_n {a b : Int} (h0 : 0 ≤ a) (h1 : a < 1024) (g0 : 0 ≤ b) (g1 : b < 1024) : or32 a b = ((a.toNat ||| b.toNat : Nat) : Int) := by
  unfold or32
  show (((Int32.ofInt a).toBitVec ||| (Int32.ofInt b).toBitVec)).toInt = _
  have e : ((Int32.ofInt a).toBitVec ||| (Int32.ofInt b).toBitVec).toNat = a.toNat ||| b.toNat := by
    rw [BitVec.toNat_or, ofi_nat h0 (by omega), ofi_nat g0 (by omega)]
  have l : a.toNat ||| b.toNat < 2 ^ 10 := Nat.or_lt_two_pow (by omega) (by omega)
  rw [BitVec.toInt_eq_toNat_of_lt (by rw [e]; omega), e]
theorem shl_1 {e : Int} (h0 : 0 ≤ e) (h1 : e < 10) : shl32 1 e = ((2 ^ e.toNat : Nat) : Int) := by
  have h : e = 0 ∨ e = 1 ∨ e = 2 ∨ e = 3 ∨ e = 4 ∨ e = 5 ∨ e = 6 ∨ e = 7 ∨ e = 8 ∨ e = 9 := by omega
  rcases h with rfl | rfl | rfl | rfl | rfl | rfl | rfl | rfl | rfl | rfl <;> decide
theorem pw_lt {e : Int} (h0 : 0 ≤ e) (h1 : e < 10) : (2 ^ e.toNat : Nat) < 1024 := by
  have : (2 ^ e.toNat : Nat) < 2 ^ 10 := Nat.pow_lt_pow_right (by omega) (by omega)
  omega
theorem nand_bit (n i : Nat) : n &&& 2 ^ i = 0 ↔ n.testBit i = false := by
  constructor
  · intro h
    have h2 : (n &&& 2 ^ i).testBit i = false := by rw [h, Nat.zero_testBit]
    rw [Nat.testBit_and, Nat.testBit_two_pow] at h2
    simpa using h2
  · intro h
    apply Nat.eq_of_testBit_eq
    intro j
    rw [Nat.testBit_and, Nat.testBit_two_pow, Nat.zero_testBit]
    by_cases q : i = j
    · subst q
      simp [h]
    · simp [q]
theorem and_bit {h e : Int} (h0 : 0 ≤ h) (h1 : h < 1024) (e0 : 0 ≤ e) (e1 : e < 10) : and32 h (shl32 1 e) = 0 ↔ h.toNat.testBit e.toNat = false := by
  have p := pw_lt e0 e1
  rw [shl_1 e0 e1, ← nand_bit]
  generalize 2 ^ e.toNat = P at *
  rw [and32_n h0 (by omega) (by omega) (by omega), Int.toNat_natCast]
  omega
theorem or_rng {h e : Int} (h0 : 0 ≤ h) (h1 : h < 1024) (e0 : 0 ≤ e) (e1 : e < 10) : 0 ≤ or32 h (shl32 1 e) ∧ or32 h (shl32 1 e) < 1024 ∧ (or32 h (shl32 1 e)).toNat = h.toNat ||| 2 ^ e.toNat := by
  have p := pw_lt e0 e1
  have l : h.toNat ||| 2 ^ e.toNat < 2 ^ 10 := Nat.or_lt_two_pow (by omega) (by omega)
  rw [shl_1 e0 e1]
  generalize 2 ^ e.toNat = P at *
  rw [or32_n h0 h1 (by omega) (by omega), Int.toNat_natCast, Int.toNat_natCast]
  generalize h.toNat ||| P = X at *
  exact ⟨by omega, by omega, rfl⟩
theorem or_bit {h e e' : Int} (h0 : 0 ≤ h) (h1 : h < 1024) (e0 : 0 ≤ e) (e1 : e < 10) (f0 : 0 ≤ e') (f1 : e' < 10) : and32 (or32 h (shl32 1 e)) (shl32 1 e') = 0 ↔ (¬ e' = e ∧ and32 h (shl32 1 e') = 0) := by
  have o := or_rng h0 h1 e0 e1
  rw [and_bit o.1 o.2.1 f0 f1, and_bit h0 h1 f0 f1, o.2.2, Nat.testBit_or, Nat.testBit_two_pow]
  by_cases q : e.toNat = e'.toNat
  · have q2 : e' = e := by omega
    simp [q, q2]
  · have q2 : ¬ e' = e := by omega
    simp [q, q2]
theorem or_comm32 (a b : Int) : or32 a b = or32 b a := by
  unfold or32
  rw [Int32.or_comm]
theorem shr_bit {h e : Int} (h0 : 0 ≤ h) (h1 : h < 1024) (e0 : 0 ≤ e) (e1 : e < 10) : and32 (shr32 h e) 1 = 1 ↔ ¬ and32 h (shl32 1 e) = 0 := by
  rw [and_bit h0 h1 e0 e1]
  have hs : shr32 h e = ((h.toNat >>> e.toNat : Nat) : Int) := by
    have hx : (Int32.ofInt h).toBitVec.toInt = h := by
      rw [BitVec.toInt_eq_toNat_of_lt (by rw [ofi_nat h0 (by omega)]; omega), ofi_nat h0 (by omega)]
      omega
    have h9 : e = 0 ∨ e = 1 ∨ e = 2 ∨ e = 3 ∨ e = 4 ∨ e = 5 ∨ e = 6 ∨ e = 7 ∨ e = 8 ∨ e = 9 := by omega
    unfold shr32
    have g : (Int32.ofInt h >>> (Int32.ofInt e &&& 31)).toInt = (Int32.ofInt h).toBitVec.toInt >>> e.toNat := by
      show (((Int32.ofInt h).toBitVec).sshiftRight' ((Int32.ofInt e &&& 31).toBitVec.smod 32)).toInt = _
      have q : ((Int32.ofInt e &&& 31).toBitVec.smod 32).toNat = e.toNat := by
        rcases h9 with rfl | rfl | rfl | rfl | rfl | rfl | rfl | rfl | rfl | rfl <;> decide
      show (((Int32.ofInt h).toBitVec).sshiftRight ((Int32.ofInt e &&& 31).toBitVec.smod 32).toNat).toInt = _
      rw [q, BitVec.toInt_sshiftRight]
    rw [g, hx]
    obtain ⟨m, rfl⟩ := Int.eq_ofNat_of_zero_le h0
    rfl
  have hl : h.toNat >>> e.toNat ≤ h.toNat := by
    rw [Nat.shiftRight_eq_div_pow]
    exact Nat.div_le_self _ _
  rw [hs]
  unfold Nat.testBit
  generalize h.toNat >>> e.toNat = X at *
  rw [and32_n (by omega) (by omega) (by omega) (by omega), Int.toNat_natCast]
  have : (1 : Int).toNat = 1 := rfl
  rw [this]
  rw [Nat.and_comm]
  have h2 : 1 &&& X ≤ 1 := Nat.and_le_left
  generalize 1 &&& X = x at *
  have : x = 0 ∨ x = 1 := by omega
  rcases this with rfl | rfl <;> simp
/-- the sum of f from t up to N - 1 -/
def sumR (f : Int → Int) : Nat → Int → Int
  | 0, _ => 0
  | n + 1, t => f t + sumR f n (t + 1)
def sumD (f : Int → Int) (N t : Int) : Int := sumR f (N - t).toNat t
section Sums
variable {f g : Int → Int} {N t B : Int}
theorem sumD_e (h : N ≤ t) : sumD f N t = 0 := by
  unfold sumD
  rw [show (N - t).toNat = 0 by omega]
  rfl
theorem sumD_s (h : t < N) : sumD f N t = f t + sumD f N (t + 1) := by
  unfold sumD
  rw [show (N - t).toNat = (N - (t + 1)).toNat + 1 by omega]
  rfl
theorem sumR_b (n : Nat) : ∀ t : Int, (∀ s, t ≤ s → s < t + n → 0 ≤ f s ∧ f s ≤ B) → 0 ≤ sumR f n t ∧ sumR f n t ≤ n * B := by
  induction n with
  | zero => intro t h; simp [sumR]
  | succ n ih =>
    intro t h
    have h1 := ih (t + 1) (fun s a b => h s (by omega) (by omega))
    have h2 := h t (by omega) (by omega)
    simp only [sumR]
    rw [show ((n + 1 : Nat) : Int) * B = n * B + B by rw [Int.natCast_add, Int.add_mul]; simp]
    omega
theorem sumR_nn (n : Nat) : ∀ t : Int, (∀ s, t ≤ s → s < t + n → 0 ≤ f s) → 0 ≤ sumR f n t := by
  induction n with
  | zero => intro t h; simp [sumR]
  | succ n ih =>
    intro t h
    have h1 := ih (t + 1) (fun s a b => h s (by omega) (by omega))
    have h2 := h t (by omega) (by omega)
    simp only [sumR]
    omega
theorem sumD_b (ht : t ≤ N) (h : ∀ s, t ≤ s → s < N → 0 ≤ f s ∧ f s ≤ B) : 0 ≤ sumD f N t ∧ sumD f N t ≤ (N - t) * B := by
  have h1 := sumR_b (f := f) (B := B) (N - t).toNat t (fun s a b => h s a (by omega))
  rw [show (((N - t).toNat : Nat) : Int) = N - t by omega] at h1
  exact h1
theorem sumR_c (n : Nat) : ∀ t : Int, (∀ s, t ≤ s → s < t + n → f s = g s) → sumR f n t = sumR g n t := by
  induction n with
  | zero => intro t h; rfl
  | succ n ih =>
    intro t h
    simp only [sumR]
    rw [ih (t + 1) (fun s a b => h s (by omega) (by omega)), h t (by omega) (by omega)]
theorem sumD_c (h : ∀ s, t ≤ s → s < N → f s = g s) : sumD f N t = sumD g N t := by
  exact sumR_c _ t (fun s a b => h s a (by omega))
/-- f and g differ at one place -/
theorem sumR_1 {e d : Int} (n : Nat) : ∀ t : Int, (∀ s, t ≤ s → s < t + n → ¬ s = e → g s = f s) → g e = f e + d → sumR g n t = sumR f n t + (if t ≤ e ∧ e < t + n then d else 0) := by
  induction n with
  | zero => intro t h _; simp only [sumR]; rw [if_neg (by omega)]; rfl
  | succ n ih =>
    intro t h h2
    have h1 := ih (t + 1) (fun s a b c => h s (by omega) (by omega) c) h2
    simp only [sumR]
    rw [h1]
    by_cases q : t = e
    · subst q
      rw [h2, if_neg (by omega), if_pos (by omega)]
      omega
    · rw [h t (by omega) (by omega) q]
      by_cases q2 : t + 1 ≤ e ∧ e < t + 1 + n
      · rw [if_pos q2, if_pos (by omega)]
        omega
      · rw [if_neg q2, if_neg (by omega)]
        omega
theorem sumD_1 {e d : Int} (h0 : t ≤ e) (h1 : e < N) (h : ∀ s, t ≤ s → s < N → ¬ s = e → g s = f s) (h2 : g e = f e + d) : sumD g N t = sumD f N t + d := by
  unfold sumD
  rw [sumR_1 (e := e) (d := d) _ t (fun s a b c => h s a (by omega) c) h2, if_pos (by omega)]
theorem sumR_top (n : Nat) : ∀ t : Int, sumR f (n + 1) t = sumR f n t + f (t + n) := by
  induction n with
  | zero => intro t; simp [sumR]
  | succ n ih =>
    intro t
    have h1 := ih (t + 1)
    rw [sumR, h1]
    simp only [sumR]
    rw [show t + 1 + (n : Int) = t + ((n + 1 : Nat) : Int) by omega]
    omega
theorem sumD_top (h : t ≤ N) : sumD f (N + 1) t = sumD f N t + f N := by
  unfold sumD
  rw [show (N + 1 - t).toNat = (N - t).toNat + 1 by omega, sumR_top, show t + (((N - t).toNat : Nat) : Int) = N by omega]
theorem sumD_z (ht : t ≤ N) (h : ∀ s, t ≤ s → s < N → f s = 0) : sumD f N t = 0 := by
  have h3 := sumD_b (f := f) (B := 0) (N := N) (t := t) ht (fun s a b => by rw [h s a b]; omega)
  omega
theorem sumD_le {e : Int} (h0 : t ≤ e) (h1 : e < N) (h : ∀ s, t ≤ s → s < N → 0 ≤ f s) : f e ≤ sumD f N t := by
  have h2 := sumD_1 (f := fun s => if s = e then 0 else f s) (g := f) (d := f e) h0 h1 (fun s _ _ q => by simp [q]) (by simp)
  have h3 : 0 ≤ sumD (fun s => if s = e then 0 else f s) N t := by
    have h4 := sumR_nn (f := fun s => if s = e then 0 else f s) (N - t).toNat t (fun s a b => by
      split
      · omega
      · exact h s a (by omega))
    exact h4
  omega
end Sums

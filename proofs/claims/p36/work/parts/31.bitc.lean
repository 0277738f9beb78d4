/-! PURE 17: bitCount -/
def bcF (x : Int) : Int := sumD (fun e => if and32 x (shl32 1 e) = 0 then 0 else 1) 10 0
def bcOk (n : Nat) : Bool := match sp_J6_bitCount_0f7a4 (n : Int) (fun _ _ _ => 0) with
  | some (0, z, _) => decide (z = bcF n)
  | _ => false
def bcAll (lo : Nat) : Nat → Bool
  | 0 => true
  | n + 1 => bcOk (lo + n) && bcAll lo n
set_option maxRecDepth 100000 in
set_option maxHeartbeats 4000000 in
theorem bc_0 : bcAll 0 64 = true := by decide
set_option maxRecDepth 100000 in
set_option maxHeartbeats 4000000 in
theorem bc_1 : bcAll 64 64 = true := by decide
set_option maxRecDepth 100000 in
set_option maxHeartbeats 4000000 in
theorem bc_2 : bcAll 128 64 = true := by decide
set_option maxRecDepth 100000 in
set_option maxHeartbeats 4000000 in
theorem bc_3 : bcAll 192 64 = true := by decide
set_option maxRecDepth 100000 in
set_option maxHeartbeats 4000000 in
theorem bc_4 : bcAll 256 64 = true := by decide
set_option maxRecDepth 100000 in
set_option maxHeartbeats 4000000 in
theorem bc_5 : bcAll 320 64 = true := by decide
set_option maxRecDepth 100000 in
set_option maxHeartbeats 4000000 in
theorem bc_6 : bcAll 384 64 = true := by decide
set_option maxRecDepth 100000 in
set_option maxHeartbeats 4000000 in
theorem bc_7 : bcAll 448 64 = true := by decide
set_option maxRecDepth 100000 in
set_option maxHeartbeats 4000000 in
theorem bc_8 : bcAll 512 64 = true := by decide
set_option maxRecDepth 100000 in
set_option maxHeartbeats 4000000 in
theorem bc_9 : bcAll 576 64 = true := by decide
set_option maxRecDepth 100000 in
set_option maxHeartbeats 4000000 in
theorem bc_10 : bcAll 640 64 = true := by decide
set_option maxRecDepth 100000 in
set_option maxHeartbeats 4000000 in
theorem bc_11 : bcAll 704 64 = true := by decide
set_option maxRecDepth 100000 in
set_option maxHeartbeats 4000000 in
theorem bc_12 : bcAll 768 64 = true := by decide
set_option maxRecDepth 100000 in
set_option maxHeartbeats 4000000 in
theorem bc_13 : bcAll 832 64 = true := by decide
set_option maxRecDepth 100000 in
set_option maxHeartbeats 4000000 in
theorem bc_14 : bcAll 896 64 = true := by decide
set_option maxRecDepth 100000 in
set_option maxHeartbeats 4000000 in
theorem bc_15 : bcAll 960 64 = true := by decide
theorem bcAll_at (lo n k : Nat) (h : bcAll lo n = true) (hk : k < n) : bcOk (lo + k) = true := by
  induction n with
  | zero => omega
  | succ n ih =>
    simp only [bcAll, Bool.and_eq_true] at h
    by_cases q : k = n
    · subst q
      exact h.1
    · exact ih h.2 (by omega)
theorem bc_all (n : Nat) (h : n < 1024) : bcOk n = true := by
  by_cases h0 : n < 64
  · have := bcAll_at 0 64 (n - 0) bc_0 (by omega)
    rwa [show 0 + (n - 0) = n by omega] at this
  by_cases h1 : n < 128
  · have := bcAll_at 64 64 (n - 64) bc_1 (by omega)
    rwa [show 64 + (n - 64) = n by omega] at this
  by_cases h2 : n < 192
  · have := bcAll_at 128 64 (n - 128) bc_2 (by omega)
    rwa [show 128 + (n - 128) = n by omega] at this
  by_cases h3 : n < 256
  · have := bcAll_at 192 64 (n - 192) bc_3 (by omega)
    rwa [show 192 + (n - 192) = n by omega] at this
  by_cases h4 : n < 320
  · have := bcAll_at 256 64 (n - 256) bc_4 (by omega)
    rwa [show 256 + (n - 256) = n by omega] at this
  by_cases h5 : n < 384
  · have := bcAll_at 320 64 (n - 320) bc_5 (by omega)
    rwa [show 320 + (n - 320) = n by omega] at this
  by_cases h6 : n < 448
  · have := bcAll_at 384 64 (n - 384) bc_6 (by omega)
    rwa [show 384 + (n - 384) = n by omega] at this
  by_cases h7 : n < 512
  · have := bcAll_at 448 64 (n - 448) bc_7 (by omega)
    rwa [show 448 + (n - 448) = n by omega] at this
  by_cases h8 : n < 576
  · have := bcAll_at 512 64 (n - 512) bc_8 (by omega)
    rwa [show 512 + (n - 512) = n by omega] at this
  by_cases h9 : n < 640
  · have := bcAll_at 576 64 (n - 576) bc_9 (by omega)
    rwa [show 576 + (n - 576) = n by omega] at this
  by_cases h10 : n < 704
  · have := bcAll_at 640 64 (n - 640) bc_10 (by omega)
    rwa [show 640 + (n - 640) = n by omega] at this
  by_cases h11 : n < 768
  · have := bcAll_at 704 64 (n - 704) bc_11 (by omega)
    rwa [show 704 + (n - 704) = n by omega] at this
  by_cases h12 : n < 832
  · have := bcAll_at 768 64 (n - 768) bc_12 (by omega)
    rwa [show 768 + (n - 768) = n by omega] at this
  by_cases h13 : n < 896
  · have := bcAll_at 832 64 (n - 832) bc_13 (by omega)
    rwa [show 832 + (n - 832) = n by omega] at this
  by_cases h14 : n < 960
  · have := bcAll_at 896 64 (n - 896) bc_14 (by omega)
    rwa [show 896 + (n - 896) = n by omega] at this
  by_cases h15 : n < 1024
  · have := bcAll_at 960 64 (n - 960) bc_15 (by omega)
    rwa [show 960 + (n - 960) = n by omega] at this
  omega
theorem bc_spec {x : Int} {v : V} (h0 : 0 ≤ x) (h1 : x < 1024) : sp_J6_bitCount_0f7a4 x v = rOk (bcF x) v := by
  have h := bc_all x.toNat (by omega)
  unfold bcOk at h
  rw [show ((x.toNat : Nat) : Int) = x by omega] at h
  unfold sp_J6_bitCount_0f7a4 rOk at h ⊢
  simp only [decide_eq_true_eq] at h
  rw [h]
section Bc
variable {v : V} {Q : Int → V → Prop} {E : Nat → V → Prop} {a : Int}
theorem wp_bc (hI : Inv v) (ha : 0 ≤ a ∧ a < v 7 0 5) (h : Q (bcF (v 3 a 5)) v) : Wp (sp_J6_bitCount_0f7a4 (v 3 a 5) v) Q E := by
  have hp := hI.p a ha.1 ha.2
  rw [bc_spec (by omega) (by omega)]
  exact h
end Bc

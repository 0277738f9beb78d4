/-! PURE 40: the start of the law -/
def S7 : V := (up (nw (up (nw (up (nw (up (nw (up (nw (nw v00 7 0) 10 0) 7 0 0 0) 11 0) 7 0 1 0) 12 0) 7 0 2 0) 13 0) 7 0 3 0) 14 0) 7 0 4 0)
def S8 : V := (up (nw (up (nw (up (nw (up (nw (up (nw (up (nw (up (nw (up (nw (up (nw (up (nw (up (nw (up (nw (up (nw (up (nw (up (nw (up (nw (up (nw (up (nw (up (nw (up (nw (up (nw (up (nw (up (nw (up (nw (up (nw (up (nw (up (nw (up (nw (up (nw (up (nw (up (nw (up (nw (up (nw (up (nw (up (nw (up (nw (up (nw (up (nw (nw S7 8 0) 43 0) 8 0 3 0) 44 0) 8 0 4 0) 45 0) 8 0 5 0) 46 0) 8 0 6 0) 47 0) 8 0 7 0) 48 0) 8 0 8 0) 50 0) 8 0 10 0) 51 0) 8 0 11 0) 52 0) 8 0 12 0) 53 0) 8 0 13 0) 54 0) 8 0 14 0) 55 0) 8 0 15 0) 56 0) 8 0 16 0) 57 0) 8 0 17 0) 58 0) 8 0 18 0) 59 0) 8 0 19 0) 60 0) 8 0 20 0) 62 0) 8 0 22 0) 63 0) 8 0 23 0) 64 0) 8 0 24 0) 65 0) 8 0 25 0) 66 0) 8 0 26 0) 67 0) 8 0 27 0) 68 0) 8 0 28 0) 69 0) 8 0 29 0) 70 0) 8 0 30 0) 71 0) 8 0 31 0) 72 0) 8 0 32 0) 73 0) 8 0 33 0) 74 0) 8 0 34 0) 75 0) 8 0 35 0) 77 0) 8 0 37 0) 78 0) 8 0 38 0) 79 0) 8 0 39 0) 80 0) 8 0 40 0) 81 0) 8 0 41 0) 82 0) 8 0 42 0) 83 0) 8 0 43 0)
def S0 : V := nw S8 9 0
section Pr
variable {L : Nat} {xs : Nat → Int32}
theorem e7_init : sp_X7_init 0 (nw v00 7 0) = rOk 0 S7 := by
  unfold sp_X7_init
  rw [chk_t (by decide +kernel), rLet_r, rLet_r, chk_t (by decide +kernel), rLet_r, rLet_r, chk_t (by decide +kernel), rLet_r, rLet_r, chk_t (by decide +kernel), rLet_r, rLet_r, chk_t (by decide +kernel), rLet_r, rLet_r]
  rfl
set_option maxRecDepth 100000 in
theorem e8_init : sp_X8_init 0 (nw S7 8 0) = rOk 0 S8 := by
  unfold sp_X8_init
  rw [chk_t (by decide +kernel), rLet_r, rLet_r, chk_t (by decide +kernel), rLet_r, rLet_r, chk_t (by decide +kernel), rLet_r, rLet_r, chk_t (by decide +kernel), rLet_r, rLet_r, chk_t (by decide +kernel), rLet_r, rLet_r, chk_t (by decide +kernel), rLet_r, rLet_r, chk_t (by decide +kernel), rLet_r, rLet_r, chk_t (by decide +kernel), rLet_r, rLet_r, chk_t (by decide +kernel), rLet_r, rLet_r, chk_t (by decide +kernel), rLet_r, rLet_r, chk_t (by decide +kernel), rLet_r, rLet_r, chk_t (by decide +kernel), rLet_r, rLet_r, chk_t (by decide +kernel), rLet_r, rLet_r, chk_t (by decide +kernel), rLet_r, rLet_r, chk_t (by decide +kernel), rLet_r, rLet_r, chk_t (by decide +kernel), rLet_r, rLet_r, chk_t (by decide +kernel), rLet_r, rLet_r, chk_t (by decide +kernel), rLet_r, rLet_r, chk_t (by decide +kernel), rLet_r, rLet_r, chk_t (by decide +kernel), rLet_r, rLet_r, chk_t (by decide +kernel), rLet_r, rLet_r, chk_t (by decide +kernel), rLet_r, rLet_r, chk_t (by decide +kernel), rLet_r, rLet_r, chk_t (by decide +kernel), rLet_r, rLet_r, chk_t (by decide +kernel), rLet_r, rLet_r, chk_t (by decide +kernel), rLet_r, rLet_r, chk_t (by decide +kernel), rLet_r, rLet_r, chk_t (by decide +kernel), rLet_r, rLet_r, chk_t (by decide +kernel), rLet_r, rLet_r, chk_t (by decide +kernel), rLet_r, rLet_r, chk_t (by decide +kernel), rLet_r, rLet_r, chk_t (by decide +kernel), rLet_r, rLet_r, chk_t (by decide +kernel), rLet_r, rLet_r, chk_t (by decide +kernel), rLet_r, rLet_r, chk_t (by decide +kernel), rLet_r, rLet_r, chk_t (by decide +kernel), rLet_r, rLet_r, chk_t (by decide +kernel), rLet_r, rLet_r, chk_t (by decide +kernel), rLet_r, rLet_r]
  rfl
theorem e_pro : sp_law L xs v00 = law_lp L xs 514 S0 0 := by
  unfold sp_law
  rw [chk_t (by decide +kernel), rLet_r, e7_init, rB_ok, chk_t (by decide +kernel), rLet_r, e8_init, rB_ok, chk_t (by decide +kernel), rLet_r]
  rfl
theorem S0_8 : ∀ j ∈ [(1 : Int), 2, 3, 4, 5, 6, 7, 8, 9, 10, 11, 12, 13, 14, 15, 16, 17, 18, 19, 20, 21, 22, 23, 24, 25, 26, 27, 28, 29, 30, 31, 32, 33, 34, 35, 36, 37, 38, 39, 40, 41, 42, 43], S0 8 0 j = 0 := by decide +kernel
theorem S0_7 : ∀ j ∈ [(0 : Int), 1, 2, 3, 4, 5, 6, 7, 8, 9], S0 7 0 j = 0 := by decide +kernel
theorem S0_r14 (i : Int) : S0 14 0 i = 0 := rfl
theorem S0_r48 (i : Int) : S0 48 0 i = 0 := rfl
theorem S0_r43 (i : Int) : S0 43 0 i = 0 := rfl
theorem S0_r46 (i : Int) : S0 46 0 i = 0 := rfl
theorem S0_r45 (i : Int) : S0 45 0 i = 0 := rfl
theorem S0_r47 (i : Int) : S0 47 0 i = 0 := rfl
theorem S0_r53 (i : Int) : S0 53 0 i = 0 := rfl
theorem S0_r54 (i : Int) : S0 54 0 i = 0 := rfl
theorem S0_r57 (i : Int) : S0 57 0 i = 0 := rfl
theorem S0_r56 (i : Int) : S0 56 0 i = 0 := rfl
theorem S0_r83 (i : Int) : S0 83 0 i = 0 := rfl
theorem S0_a3 (i : Int) : S0 99 3 i = 0 := rfl
theorem S0_a6 (i : Int) : S0 99 6 i = 0 := rfl
theorem S0_a15 (i : Int) : S0 99 15 i = 0 := rfl
theorem S0_a16 (i : Int) : S0 99 16 i = 0 := rfl
theorem S0_a2 (i : Int) : S0 99 2 i = 0 := rfl
theorem S0_a4 (i : Int) : S0 99 4 i = 0 := rfl
theorem S0_a1 (i : Int) : S0 99 1 i = 0 := rfl
theorem S0_a0 (i : Int) : S0 99 0 i = 0 := rfl
theorem S0_a5 (i : Int) : S0 99 5 i = 0 := rfl
theorem Inv_S0 : Inv S0 := by
  have h8 : ∀ j, 1 ≤ j → j ≤ 43 → S0 8 0 j = 0 := fun j g0 g1 => S0_8 j (by
    have : j = 1 ∨ j = 2 ∨ j = 3 ∨ j = 4 ∨ j = 5 ∨ j = 6 ∨ j = 7 ∨ j = 8 ∨ j = 9 ∨ j = 10 ∨ j = 11 ∨ j = 12 ∨ j = 13 ∨ j = 14 ∨ j = 15 ∨ j = 16 ∨ j = 17 ∨ j = 18 ∨ j = 19 ∨ j = 20 ∨ j = 21 ∨ j = 22 ∨ j = 23 ∨ j = 24 ∨ j = 25 ∨ j = 26 ∨ j = 27 ∨ j = 28 ∨ j = 29 ∨ j = 30 ∨ j = 31 ∨ j = 32 ∨ j = 33 ∨ j = 34 ∨ j = 35 ∨ j = 36 ∨ j = 37 ∨ j = 38 ∨ j = 39 ∨ j = 40 ∨ j = 41 ∨ j = 42 ∨ j = 43 := by omega
    simp only [List.mem_cons, List.not_mem_nil, or_false]
    exact this)
  have n1 := h8 1 (by decide) (by decide)
  have n2 := h8 2 (by decide) (by decide)
  have n9 := h8 9 (by decide) (by decide)
  have n21 := h8 21 (by decide) (by decide)
  have n36 := h8 36 (by decide) (by decide)
  have n98 : S0 98 0 0 = 0 := rfl
  refine ⟨?_, fun j hj => h8 j (by omega) (by omega), fun i _ _ => ?_, fun i g0 g1 => ?_, fun i _ _ => ⟨S0_r43 i, S0_r46 i, S0_r45 i⟩, ⟨fun i g0 g1 => ?_, fun i _ g0 g1 => ?_, fun i j _ _ _ _ => S0_r47 _⟩, fun i g0 g1 => ?_, fun i _ _ => ⟨S0_r53 i, S0_r54 i, S0_r57 i⟩, fun i _ g0 g1 => ?_, ⟨fun i _ g0 g1 => ?_, fun i j _ _ _ _ => S0_r56 _⟩, fun i g0 g1 => ?_, fun i g0 g1 => ?_, fun i _ _ => S0_r83 i, ?_, ?_⟩
  · unfold IS
    rw [n1, n2, n9, n21, n36, n98]
    refine ⟨?_, ?_, ?_, ?_, ?_, ?_, ?_, ?_, ?_, ?_, by decide⟩
    all_goals exact S0_7 _ (by simp only [List.mem_cons, List.not_mem_nil, or_false]; decide)
  · rw [S0_r14, S0_r48]
    omega
  · omega
  · omega
  · omega
  · omega
  · omega
  · omega
  · omega
  · omega
  · refine ⟨fun i _ => ?_, fun i _ => ⟨?_, ?_, ?_⟩, fun i _ => ⟨?_, ?_⟩, fun i _ => ?_, fun i _ => ?_, fun i j _ _ _ _ => ?_⟩
    · rw [S0_a3]; decide
    · rw [S0_a6]; decide
    · rw [S0_a15]; decide
    · rw [S0_a16]; decide
    · rw [S0_a2]; decide
    · rw [S0_a4]; decide
    · rw [S0_a1]; decide
    · rw [S0_a0]; decide
    · rw [S0_a5]; decide
  · unfold IM s10
    rw [n2]
    simp only [S0_r43]
    decide
theorem law_ok (h2 : L ≤ 3072) : ∃ v1, sp_law L xs v00 = some (0, 1, v1) := by
  rw [e_pro]
  exact law_lp_1 h2 513 S0 0 Inv_S0 (by decide) (by omega) (by omega)
end Pr
theorem whole_start {p : Program} {e : Env} {s : State} {m : MethodId} {below : List Frame} {meth : Method} {c : Code} (l : Launch) (hflags : l.flags = flags0) {b L : Nat} {xs : Nat → Int32} (hL : L ≤ 3072) (C0 : lw_At p s m meth c b L xs) : W p l e room_1 s m #[Value.ref b] below meth c s.heap [] 0 0 (lw_Z below #[Value.ref b] s) (entryFrame m ([Value.ref b] : List Value).toArray 7) := whole_start0 l hflags hL C0 (law_ok hL)

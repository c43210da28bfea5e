/-! calls side by side: counts -/
def cb (b : Bool) (k : Int) : Int := if b = true then iShl 1 k else 0
theorem bt_cb {b : Bool} {j : Int} {k : Nat} (j0 : 0 ≤ j) (j1 : j < 32) (hk : k < 32) : bt (cb b j) k = (b && decide (j = (k : Int))) := by
  unfold cb
  cases b
  · rw [if_neg (by decide), bt_0]; rfl
  · rw [if_pos rfl, bt_shl j0 j1 hk]; rfl
def rsof (a b c d e f g h i j k l : Bool) : Int := iOr (iOr (iOr (cb a 1) (cb b 2)) (iOr (cb c 3) (cb d 4))) (iOr (iOr (iOr (cb e 6) (cb f 7)) (iOr (cb g 8) (cb h 9))) (iOr (iOr (cb i 11) (cb j 12)) (iOr (cb k 13) (cb l 14))))
set_option maxRecDepth 100000
theorem bc_rsof : ∀ a b c d e f g h i j k l : Bool, bc (rsof a b c d e f g h i j k l) = b01 a + b01 b + b01 c + b01 d + b01 e + b01 f + b01 g + b01 h + b01 i + b01 j + b01 k + b01 l ∧ 0 ≤ rsof a b c d e f g h i j k l ∧ rsof a b c d e f g h i j k l < 65536 := by decide +kernel
theorem tr_rsof {R Q : Int} (ht : tr R Q) : R = rsof (bt R 1) (bt R 2) (bt R 3) (bt R 4) (bt R 6) (bt R 7) (bt R 8) (bt R 9) (bt R 11) (bt R 12) (bt R 13) (bt R 14) := by
  refine bt_ext ht.1 (inR_iOr _ _) (fun k hk => ?_)
  have d0 := (ht.2.2.1 0 0 (by decide) (by decide)).2 rfl
  have d1 := (ht.2.2.1 1 1 (by decide) (by decide)).2 rfl
  have d2 := (ht.2.2.1 2 2 (by decide) (by decide)).2 rfl
  have d3 := (ht.2.2.1 3 3 (by decide) (by decide)).2 rfl
  simp only [Nat.mul_zero, Nat.zero_add, Nat.mul_one] at d0 d1 d2 d3
  unfold rsof
  simp only [bt_or, bt_cb (show (0 : Int) ≤ 1 by decide) (show (1 : Int) < 32 by decide) hk, bt_cb (show (0 : Int) ≤ 2 by decide) (show (2 : Int) < 32 by decide) hk, bt_cb (show (0 : Int) ≤ 3 by decide) (show (3 : Int) < 32 by decide) hk, bt_cb (show (0 : Int) ≤ 4 by decide) (show (4 : Int) < 32 by decide) hk, bt_cb (show (0 : Int) ≤ 6 by decide) (show (6 : Int) < 32 by decide) hk, bt_cb (show (0 : Int) ≤ 7 by decide) (show (7 : Int) < 32 by decide) hk, bt_cb (show (0 : Int) ≤ 8 by decide) (show (8 : Int) < 32 by decide) hk, bt_cb (show (0 : Int) ≤ 9 by decide) (show (9 : Int) < 32 by decide) hk, bt_cb (show (0 : Int) ≤ 11 by decide) (show (11 : Int) < 32 by decide) hk, bt_cb (show (0 : Int) ≤ 12 by decide) (show (12 : Int) < 32 by decide) hk, bt_cb (show (0 : Int) ≤ 13 by decide) (show (13 : Int) < 32 by decide) hk, bt_cb (show (0 : Int) ≤ 14 by decide) (show (14 : Int) < 32 by decide) hk]
  by_cases h16 : 16 ≤ k
  · rw [(ht.2.2.2 k h16).1]
    have n : ∀ x : Int, x < 16 → decide (x = (k : Int)) = false := fun x hx => decide_eq_false (by omega)
    rw [n 1 (by decide), n 2 (by decide), n 3 (by decide), n 4 (by decide), n 6 (by decide), n 7 (by decide), n 8 (by decide), n 9 (by decide), n 11 (by decide), n 12 (by decide), n 13 (by decide), n 14 (by decide)]
    simp only [Bool.and_false, Bool.or_false]
  · have : k = 0 ∨ k = 1 ∨ k = 2 ∨ k = 3 ∨ k = 4 ∨ k = 5 ∨ k = 6 ∨ k = 7 ∨ k = 8 ∨ k = 9 ∨ k = 10 ∨ k = 11 ∨ k = 12 ∨ k = 13 ∨ k = 14 ∨ k = 15 := by omega
    rcases this with rfl | rfl | rfl | rfl | rfl | rfl | rfl | rfl | rfl | rfl | rfl | rfl | rfl | rfl | rfl | rfl
    · rw [d0]; simp
    · simp
    · simp
    · simp
    · simp
    · rw [d1]; simp
    · simp
    · simp
    · simp
    · simp
    · rw [d2]; simp
    · simp
    · simp
    · simp
    · simp
    · rw [d3]; simp
theorem on_bits (Q : Int) : on16 Q = sm (fun k => b01 (bt Q k.toNat)) 16 := by
  unfold on16
  refine sm_cong fun k hk => ?_
  rw [bit_of (by omega) (by omega)]
  rfl
theorem tr_count {R Q : Int} (ht : tr R Q) : bc R = on16 Q ∧ 0 ≤ R ∧ R < 65536 := by
  have hr := bc_rsof (bt R 1) (bt R 2) (bt R 3) (bt R 4) (bt R 6) (bt R 7) (bt R 8) (bt R 9) (bt R 11) (bt R 12) (bt R 13) (bt R 14)
  rw [← tr_rsof ht] at hr
  refine ⟨?_, hr.2⟩
  rw [hr.1, on_bits]
  have t : ∀ a b : Nat, a < 4 → b < 4 → bt R (4 * a + b) = bt Q (4 * b + a) := fun a b ha hb => (ht.2.2.1 a b ha hb).1
  have z : ∀ a : Nat, a < 4 → bt Q (4 * a + a) = false := fun a ha => by rw [← t a a ha ha]; exact (ht.2.2.1 a a ha ha).2 rfl
  have e1 : bt R 1 = bt Q 4 := t 0 1 (by decide) (by decide)
  have e2 : bt R 2 = bt Q 8 := t 0 2 (by decide) (by decide)
  have e3 : bt R 3 = bt Q 12 := t 0 3 (by decide) (by decide)
  have e4 : bt R 4 = bt Q 1 := t 1 0 (by decide) (by decide)
  have e6 : bt R 6 = bt Q 9 := t 1 2 (by decide) (by decide)
  have e7 : bt R 7 = bt Q 13 := t 1 3 (by decide) (by decide)
  have e8 : bt R 8 = bt Q 2 := t 2 0 (by decide) (by decide)
  have e9 : bt R 9 = bt Q 6 := t 2 1 (by decide) (by decide)
  have e11 : bt R 11 = bt Q 14 := t 2 3 (by decide) (by decide)
  have e12 : bt R 12 = bt Q 3 := t 3 0 (by decide) (by decide)
  have e13 : bt R 13 = bt Q 7 := t 3 1 (by decide) (by decide)
  have e14 : bt R 14 = bt Q 11 := t 3 2 (by decide) (by decide)
  have z0 : bt Q 0 = false := z 0 (by decide)
  have z5 : bt Q 5 = false := z 1 (by decide)
  have z10 : bt Q 10 = false := z 2 (by decide)
  have z15 : bt Q 15 = false := z 3 (by decide)
  have us : ∀ f : Int → Int, sm f 16 = f 0 + f 1 + f 2 + f 3 + f 4 + f 5 + f 6 + f 7 + f 8 + f 9 + f 10 + f 11 + f 12 + f 13 + f 14 + f 15 := fun f => by
    show 0 + f 0 + f 1 + f 2 + f 3 + f 4 + f 5 + f 6 + f 7 + f 8 + f 9 + f 10 + f 11 + f 12 + f 13 + f 14 + f 15 = _
    omega
  rw [us]
  show _ = b01 (bt Q 0) + b01 (bt Q 1) + b01 (bt Q 2) + b01 (bt Q 3) + b01 (bt Q 4) + b01 (bt Q 5) + b01 (bt Q 6) + b01 (bt Q 7) + b01 (bt Q 8) + b01 (bt Q 9) + b01 (bt Q 10) + b01 (bt Q 11) + b01 (bt Q 12) + b01 (bt Q 13) + b01 (bt Q 14) + b01 (bt Q 15)
  rw [e1, e2, e3, e4, e6, e7, e8, e9, e11, e12, e13, e14, z0, z5, z10, z15]
  have zf : b01 false = 0 := rfl
  rw [zf]
  omega

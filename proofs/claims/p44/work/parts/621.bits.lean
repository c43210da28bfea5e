/-! bits of numbers -/
def bt (a : Int) (k : Nat) : Bool := (Int32.ofInt a).toBitVec.getLsbD k
theorem bt_ofto (x : Int32) (k : Nat) : bt x.toInt k = x.toBitVec.getLsbD k := by unfold bt; rw [Int32.ofInt_toInt]
theorem bt_and (a b : Int) (k : Nat) : bt (iAnd a b) k = (bt a k && bt b k) := by
  unfold iAnd
  rw [bt_ofto, Int32.toBitVec_and, BitVec.getLsbD_and]
  rfl
theorem bt_or (a b : Int) (k : Nat) : bt (iOr a b) k = (bt a k || bt b k) := by
  unfold iOr
  rw [bt_ofto, Int32.toBitVec_or, BitVec.getLsbD_or]
  rfl
theorem bt_xor (a b : Int) (k : Nat) : bt (iXor a b) k = (bt a k ^^ bt b k) := by
  unfold iXor
  rw [bt_ofto, Int32.toBitVec_xor, BitVec.getLsbD_xor]
  rfl
theorem bt_shl0 : ∀ j k : Fin 32, bt (iShl 1 ((j : Nat) : Int)) k = decide (j = k) := by decide +kernel
theorem bt_shl {j : Int} {k : Nat} (h0 : 0 ≤ j) (h1 : j < 32) (hk : k < 32) : bt (iShl 1 j) k = decide (j = (k : Int)) := by
  have e : ((j.toNat : Nat) : Int) = j := by omega
  have h := bt_shl0 ⟨j.toNat, by omega⟩ ⟨k, hk⟩
  rw [show (((⟨j.toNat, by omega⟩ : Fin 32) : Nat) : Int) = j from e] at h
  rw [h]
  congr 1
  apply propext
  constructor
  · intro z
    have : j.toNat = k := congrArg Fin.val z
    omega
  · intro z
    apply Fin.ext
    show j.toNat = k
    omega
theorem sh_amt : ∀ j : Fin 32, ((Int32.ofInt ((j : Nat) : Int) &&& 31).toBitVec.smod 32).toNat = (j : Nat) := by decide +kernel
theorem bt_shr {a j : Int} {k : Nat} (h0 : 0 ≤ j) (h : j + k < 32) : bt (iShr a j) k = bt a (j.toNat + k) := by
  have e : ((j.toNat : Nat) : Int) = j := by omega
  have h2 := sh_amt ⟨j.toNat, by omega⟩
  rw [show (((⟨j.toNat, by omega⟩ : Fin 32) : Nat) : Int) = j from e] at h2
  have h3 : ((Int32.ofInt j &&& 31).toBitVec.smod 32).toNat = j.toNat := h2
  unfold iShr
  rw [bt_ofto, Int32.toBitVec_shiftRight, BitVec.sshiftRight', h3, BitVec.getLsbD_sshiftRight]
  have h4 : j.toNat + k < 32 := by omega
  rw [if_pos h4]
  have h5 : ¬ 32 ≤ k := by omega
  unfold bt
  simp [h5]
theorem bt_big {a : Int} {k : Nat} (h : 32 ≤ k) : bt a k = false := BitVec.getLsbD_of_ge _ _ h
theorem bt_ext {a b : Int} (ha : inR a) (hb : inR b) (h : ∀ k : Nat, k < 32 → bt a k = bt b k) : a = b := by
  have e : Int32.ofInt a = Int32.ofInt b := Int32.toBitVec_inj.mp (BitVec.eq_of_getLsbD_eq fun i hi => h i hi)
  exact (oI_eq ha hb).mp e
theorem bt_0 (k : Nat) : bt 0 k = false := by
  unfold bt
  rw [oI_0]
  exact BitVec.getLsbD_zero
theorem bt_10 : ∀ k : Fin 32, bt 1 k = decide ((k : Nat) = 0) := by decide +kernel
theorem bt_1 {k : Nat} : bt 1 k = decide (k = 0) := by
  by_cases h : k < 32
  · exact bt_10 ⟨k, h⟩
  · rw [bt_big (by omega)]
    have : ¬ k = 0 := by omega
    simp [this]
/-- a bit taken out -/
theorem bit_of {a j : Int} (h0 : 0 ≤ j) (h1 : j < 32) : iAnd (iShr a j) 1 = if bt a j.toNat then 1 else 0 := by
  apply bt_ext (inR_iAnd _ _) (by split <;> decide)
  intro k hk
  rw [bt_and, bt_1]
  by_cases h : k = 0
  · subst h
    rw [bt_shr h0 (by omega)]
    cases bt a j.toNat <;> decide
  · simp only [h, decide_false, Bool.and_false]
    split
    · rw [bt_1]; simp [h]
    · rw [bt_0]
theorem bit_0 {a j : Int} (h0 : 0 ≤ j) (h1 : j < 32) : iAnd (iShr a j) 1 = 0 ↔ bt a j.toNat = false := by
  rw [bit_of h0 h1]
  cases bt a j.toNat <;> simp
theorem bit_1 {a j : Int} (h0 : 0 ≤ j) (h1 : j < 32) : iAnd (iShr a j) 1 = 1 ↔ bt a j.toNat = true := by
  rw [bit_of h0 h1]
  cases bt a j.toNat <;> simp
theorem and_0 {a b : Int} : iAnd a b = 0 ↔ ∀ k : Nat, k < 32 → ¬ (bt a k = true ∧ bt b k = true) := by
  constructor
  · intro h k hk ⟨h1, h2⟩
    have e := bt_and a b k
    rw [h, bt_0, h1, h2] at e
    cases e
  · intro h
    apply bt_ext (inR_iAnd _ _) inR_0
    intro k hk
    rw [bt_and, bt_0]
    have := h k hk
    cases h1 : bt a k <;> cases h2 : bt b k <;> simp_all
theorem bt_16 : ∀ h : Fin 16, ∀ k : Fin 32, 4 ≤ (k : Nat) → bt ((h : Nat) : Int) k = false := by decide +kernel
theorem bt_lt {h : Int} {k : Nat} (h0 : 0 ≤ h) (h1 : h < 16) (hk : 4 ≤ k) : bt h k = false := by
  by_cases h2 : k < 32
  · have e : ((h.toNat : Nat) : Int) = h := by omega
    have := bt_16 ⟨h.toNat, by omega⟩ ⟨k, h2⟩ hk
    rw [show (((⟨h.toNat, by omega⟩ : Fin 16) : Nat) : Int) = h from e] at this
    exact this
  · exact bt_big (by omega)
theorem nb16 : ∀ a : Fin 16, ∀ i : Fin 4, bt ((a : Nat) : Int) i = decide ((a : Nat) / 2 ^ (i : Nat) % 2 = 1) := by decide +kernel
theorem bt_div {a : Int} {k : Nat} (h0 : 0 ≤ a) (h1 : a < 16) (hk : k < 4) : bt a k = decide (a.toNat / 2 ^ k % 2 = 1) := by
  have e : ((a.toNat : Nat) : Int) = a := by omega
  have := nb16 ⟨a.toNat, by omega⟩ ⟨k, hk⟩
  rw [show (((⟨a.toNat, by omega⟩ : Fin 16) : Nat) : Int) = a from e] at this
  exact this
/-- reasons of both: who follows from whom, transposed; none from itself -/
def tr (R Q : Int) : Prop := inR R ∧ inR Q ∧ (∀ a b : Nat, a < 4 → b < 4 → bt R (4 * a + b) = bt Q (4 * b + a) ∧ (a = b → bt R (4 * a + b) = false)) ∧ ∀ k : Nat, 16 ≤ k → bt R k = false ∧ bt Q k = false
theorem tr_00 : tr 0 0 := ⟨inR_0, inR_0, fun a b _ _ => ⟨by rw [bt_0, bt_0], fun _ => bt_0 _⟩, fun _ _ => ⟨bt_0 _, bt_0 _⟩⟩
theorem tr_or {R Q f t : Int} (h : tr R Q) (f0 : 0 ≤ f) (f4 : f < 4) (t0 : 0 ≤ t) (t4 : t < 4) (hne : ¬ f = t) : tr (iOr R (iShl 1 (4 * t + f))) (iOr Q (iShl 1 (4 * f + t))) := by
  refine ⟨inR_iOr _ _, inR_iOr _ _, fun a b ha hb => ?_, fun k hk => ?_⟩
  · obtain ⟨h1, h2⟩ := h.2.2.1 a b ha hb
    rw [bt_or, bt_or, bt_shl (by omega) (by omega) (by omega), bt_shl (by omega) (by omega) (by omega), h1]
    have e : decide (4 * t + f = ((4 * a + b : Nat) : Int)) = decide (4 * f + t = ((4 * b + a : Nat) : Int)) := by
      congr 1
      apply propext
      omega
    refine ⟨by rw [e], fun hab => ?_⟩
    rw [← h1, h2 hab]
    have : ¬ 4 * t + f = ((4 * a + b : Nat) : Int) := by omega
    rw [decide_eq_false this]
    rfl
  · obtain ⟨h1, h2⟩ := h.2.2.2 k hk
    by_cases h32 : k < 32
    · rw [bt_or, bt_or, bt_shl (by omega) (by omega) h32, bt_shl (by omega) (by omega) h32, h1, h2, decide_eq_false (by omega), decide_eq_false (by omega)]
      exact ⟨rfl, rfl⟩
    · exact ⟨bt_big (by omega), bt_big (by omega)⟩

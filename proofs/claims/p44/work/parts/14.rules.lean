/-! RULES: what a run of the little machine is owed at each instruction, in whole numbers -/
abbrev inR (a : Int) : Prop := -2147483648 ≤ a ∧ a < 2147483648
abbrev inJ (a : Int) : Prop := -9223372036854775808 ≤ a ∧ a < 9223372036854775808
def F (k pc : Nat) (i : Instr) (q : Nat) : Prop := ∃ l, decode (m_b k) pc = .ok (i, l) ∧ l = m_ln i l ∧ q = pc + l
theorem F.at {k pc q c : Nat} {i : Instr} (f : F k pc i q) (h : ∀ l, m_ln i l = c) : q = pc + c := by
  obtain ⟨l, -, h2, h3⟩ := f
  rw [h] at h2
  omega
-- ----- numbers -----
theorem oI_toInt {a : Int} (h : inR a) : (Int32.ofInt a).toInt = a := Int32.toInt_ofInt_of_le h.1 h.2
theorem oJ_toInt {a : Int} (h : inJ a) : (Int64.ofInt a).toInt = a := Int64.toInt_ofInt_of_le h.1 h.2
theorem oI_lt {a b : Int} (ha : inR a) (hb : inR b) : Int32.ofInt a < Int32.ofInt b ↔ a < b := by rw [Int32.lt_iff_toInt_lt, oI_toInt ha, oI_toInt hb]
theorem oI_le {a b : Int} (ha : inR a) (hb : inR b) : Int32.ofInt a ≤ Int32.ofInt b ↔ a ≤ b := by rw [Int32.le_iff_toInt_le, oI_toInt ha, oI_toInt hb]
theorem oI_eq {a b : Int} (ha : inR a) (hb : inR b) : Int32.ofInt a = Int32.ofInt b ↔ a = b := by rw [← Int32.toInt_inj, oI_toInt ha, oI_toInt hb]
theorem oJ_eq {a b : Int} (ha : inJ a) (hb : inJ b) : Int64.ofInt a = Int64.ofInt b ↔ a = b := by rw [← Int64.toInt_inj, oJ_toInt ha, oJ_toInt hb]
theorem oI_0 : Int32.ofInt 0 = 0 := rfl
theorem oJ_0 : Int64.ofInt 0 = 0 := rfl
theorem inR_0 : inR 0 := by decide
theorem inJ_0 : inJ 0 := by decide
theorem oI_ix {i n : Int} (h0 : 0 ≤ i) (h1 : i < n) (hn : n ≤ 2147483648) : ¬ (Int32.ofInt i < 0 ∨ n.toNat ≤ (Int32.ofInt i).toNatClampNeg) ∧ (Int32.ofInt i).toNatClampNeg = i.toNat := by
  have hr : inR i := ⟨by omega, by omega⟩
  have h2 : (Int32.ofInt i).toNatClampNeg = i.toNat := Int32.toNatClampNeg_ofInt_of_le hr.1 hr.2
  refine ⟨?_, h2⟩
  rw [h2, ← oI_0, oI_lt hr inR_0]
  omega
def iAnd (a b : Int) : Int := (Int32.ofInt a &&& Int32.ofInt b).toInt
def iOr (a b : Int) : Int := (Int32.ofInt a ||| Int32.ofInt b).toInt
def iXor (a b : Int) : Int := (Int32.ofInt a ^^^ Int32.ofInt b).toInt
def iShl (a b : Int) : Int := (Int32.ofInt a <<< (Int32.ofInt b &&& 31)).toInt
def iShr (a b : Int) : Int := (Int32.ofInt a >>> (Int32.ofInt b &&& 31)).toInt
def iUshr (a b : Int) : Int := ((Int32.ofInt a).toUInt32 >>> ((Int32.ofInt b).toUInt32 &&& Int32.toUInt32 31)).toInt32.toInt
def i2B (a : Int) : Int := (Int32.ofInt a).toInt8.toInt32.toInt
def cmpJ (a b : Int) : Int := (lg_cmp (Int64.ofInt a) (Int64.ofInt b)).toInt
theorem vI_toInt (x : Int32) : vI x.toInt = .int x := by unfold vI; rw [Int32.ofInt_toInt]
theorem inR_toInt (x : Int32) : inR x.toInt := ⟨Int32.le_toInt x, Int32.toInt_lt x⟩
theorem inR_cmpJ (a b : Int) : inR (cmpJ a b) := inR_toInt _
theorem inR_iAnd (a b : Int) : inR (iAnd a b) := inR_toInt _
theorem inR_iOr (a b : Int) : inR (iOr a b) := inR_toInt _
theorem inR_iXor (a b : Int) : inR (iXor a b) := inR_toInt _
theorem inR_iShl (a b : Int) : inR (iShl a b) := inR_toInt _
theorem inR_iShr (a b : Int) : inR (iShr a b) := inR_toInt _
theorem inR_iUshr (a b : Int) : inR (iUshr a b) := inR_toInt _
theorem inR_i2B (a : Int) : inR (i2B a) := inR_toInt _
theorem w_iald {X : List Int32} {k pc a : Nat} {L : m_L} {st : List Value} {h : m_H} {x : Int32} (ha : ¬ 1000 ≤ a) : m_sB X k .iaload pc L (.int x :: .ref a :: st) h = m_rd h 20 a x fun v => m_vi v fun x => some (pc + 1, L, .int x :: st, h) := if_neg ha
theorem w_lald {X : List Int32} {k pc a : Nat} {L : m_L} {st : List Value} {h : m_H} {x : Int32} : m_sB X k .laload pc L (.int x :: .ref a :: st) h = m_rd h 21 a x fun v => m_vj v fun x => some (pc + 1, L, .long x :: st, h) := rfl
theorem w_aald {X : List Int32} {k pc a t : Nat} {L : m_L} {st : List Value} {h : m_H} {x : Int32} {vs : List Value} (hh : h[a]? = some (t, vs)) (ht : t = 23 ∨ t = 24) : m_sB X k .aaload pc L (.int x :: .ref a :: st) h = m_rd h t a x fun v => m_vr v fun x => some (pc + 1, L, .ref x :: st, h) := by
  rcases ht with rfl | rfl
  · refine (if_pos (by rw [hh]; rfl) : (if (h[a]?).map (fun c => c.1) = some 23 then (m_rd h 23 a x fun v => m_vr v fun x => some (pc + 1, L, .ref x :: st, h)) else _) = _)
  · refine (if_neg (by rw [hh]; simp) : (if (h[a]?).map (fun c => c.1) = some 23 then (m_rd h 23 a x fun v => m_vr v fun x => some (pc + 1, L, .ref x :: st, h)) else _) = _)
theorem w_iast {X : List Int32} {k pc a : Nat} {L : m_L} {st : List Value} {h : m_H} {x z : Int32} : m_sB X k .iastore pc L (.int z :: .int x :: .ref a :: st) h = m_wr h 20 a x (.int z) fun h' => some (pc + 1, L, st, h') := rfl
theorem w_last {X : List Int32} {k pc a : Nat} {L : m_L} {st : List Value} {h : m_H} {x : Int32} {z : Int64} : m_sB X k .lastore pc L (.long z :: .int x :: .ref a :: st) h = m_wr h 21 a x (.long z) fun h' => some (pc + 1, L, st, h') := rfl
theorem w_alen {X : List Int32} {k pc a t : Nat} {L : m_L} {st : List Value} {h : m_H} {vs : List Value} (ha : ¬ a = 1000) (hh : h[a]? = some (t, vs)) (ht : 20 ≤ t ∧ t ≤ 24) : m_sB X k .arraylength pc L (.ref a :: st) h = some (pc + 1, L, .int (Int32.ofNat vs.length) :: st, h) := by
  refine (if_neg ha).trans ?_
  rw [hh]
  exact m_c_t ht
theorem w_alenX {X : List Int32} {k pc : Nat} {L : m_L} {st : List Value} {h : m_H} : m_sB X k .arraylength pc L (.ref 1000 :: st) h = some (pc + 1, L, .int (Int32.ofNat X.length) :: st, h) := rfl
theorem w_ialS {X : List Int32} {k pc a : Nat} {L : m_L} {st : List Value} {h : m_H} {x : Int32} {l : List Int32} (ha : 1000 ≤ a) (hl : m_ex X a = some l) (hx : ¬ (x < 0 ∨ l.length ≤ x.toNatClampNeg)) : m_sB X k .iaload pc L (.int x :: .ref a :: st) h = some (pc + 1, L, .int (l.getD x.toNatClampNeg 0) :: st, h) := by
  refine (if_pos ha).trans ?_
  rw [hl]
  exact m_c_t hx
theorem w_mmax {k ix pc : Nat} {L : m_L} {st : List Value} {h : m_H} {x y : Int32} {w : Nat} (hl : m_mm.lookup (m_o k, ix) = some (0, w)) (hr : m_sum st ≤ 8) : m_sC k (.invokestatic ix) pc L (.int y :: .int x :: st) h = some (pc + 3, L, .int (if x < y then y else x) :: st, h) := by
  unfold m_sC
  dsimp only
  rw [hl]
  exact m_c_t hr
theorem w_mmin {k ix pc : Nat} {L : m_L} {st : List Value} {h : m_H} {x y : Int32} {w : Nat} (hl : m_mm.lookup (m_o k, ix) = some (1, w)) (hr : m_sum st ≤ 8) : m_sC k (.invokestatic ix) pc L (.int y :: .int x :: st) h = some (pc + 3, L, .int (if y < x then y else x) :: st, h) := by
  unfold m_sC
  dsimp only
  rw [hl]
  exact m_c_t hr
theorem w_acopy {k ix pc a b : Nat} {L : m_L} {st : List Value} {h : m_H} {n dp sp : Int32} {c0 c1 : Nat × List Value} (hl : m_mm.lookup (m_o k, ix) = none) (h0 : h[a]? = some c0) (h1 : h[b]? = some c1) (hc : (m_ac.lookup (m_o k, ix)).isSome = true ∧ m_sum st ≤ 8 ∧ c0.1 = 20 ∧ c1.1 = 20 ∧ ¬ sp < 0 ∧ ¬ dp < 0 ∧ ¬ n < 0 ∧ sp.toNatClampNeg + n.toNatClampNeg ≤ c0.2.length ∧ dp.toNatClampNeg + n.toNatClampNeg ≤ c1.2.length) :
    m_sC k (.invokestatic ix) pc L (.int n :: .int dp :: .ref b :: .int sp :: .ref a :: st) h = some (pc + 3, L, st, h.set b (20, (List.range c1.2.length).map (fun j => if dp.toNatClampNeg ≤ j ∧ j < dp.toNatClampNeg + n.toNatClampNeg then c0.2.getD (sp.toNatClampNeg + (j - dp.toNatClampNeg)) .null else c1.2.getD j .null))) := by
  unfold m_sC
  dsimp only
  rw [hl]
  dsimp only
  rw [h0, h1]
  exact m_c_t hc
section RUL
variable {X : m_X} {d k pc q t o ix y n c j w : Nat} {L L' : m_L} {st r : List Value} {s : m_St} {P : Option Value → m_St → Prop} {a b i e J : Int} {v : Value} {A : List Value} {off : Int} {cc : ClassFile.Cond}
theorem Rn_S {i : Instr} {pc' : Nat} {st' : List Value} {s' : m_St} (f : F k pc i q) (h1 : m_ret k i st = none) (h2 : m_inv k i st (m_mk X.2 s) = none) (h3 : m_step X.1 k i pc L st (m_mk X.2 s) = some (pc', L', st', m_mk X.2 s')) (kk : Rn X d k pc' L' st' s' P) : Rn X d k pc L st s P := by
  obtain ⟨n, v, s2, ⟨G, hr, hG⟩, hP⟩ := kk
  obtain ⟨l, f1, f2, f3⟩ := f
  refine ⟨n + 1, v, s2, ⟨G, ?_, hG⟩, hP⟩
  rw [m_run.eq_def]
  dsimp only
  rw [f1]
  dsimp only
  rw [if_pos f2, h1]
  dsimp only
  rw [h2]
  dsimp only
  rw [h3]
  dsimp only
  exact hr
theorem Rn_A {i : Instr} {pc' : Nat} {st' : List Value} (f : F k pc i q) (h1 : m_ret k i st = none) (h2 : m_inv k i st (m_mk X.2 s) = none) (h3 : m_sA k i pc L st (m_mk X.2 s) = some (pc', L', st', m_mk X.2 s)) (kk : Rn X d k pc' L' st' s P) : Rn X d k pc L st s P :=
  Rn_S f h1 h2 (by unfold m_step; rw [h3]) kk
theorem Rn_B {i : Instr} {pc' : Nat} {st' : List Value} {s' : m_St} (f : F k pc i q) (h1 : m_ret k i st = none) (h2 : m_inv k i st (m_mk X.2 s) = none) (h0 : m_sA k i pc L st (m_mk X.2 s) = none) (h3 : m_sB X.1 k i pc L st (m_mk X.2 s) = some (pc', L', st', m_mk X.2 s')) (kk : Rn X d k pc' L' st' s' P) : Rn X d k pc L st s P :=
  Rn_S f h1 h2 (by unfold m_step; rw [h0]; dsimp only; rw [h3]) kk
-- constants, locals, stack
theorem r_iconst {z : Int} (f : F k pc (.iconst z) q) (kk : Rn X d k q L (vI z :: st) s P) : Rn X d k pc L st s P := by
  obtain rfl := f.at (c := 1) fun _ => rfl
  exact Rn_A f rfl rfl rfl kk
theorem r_bipush {z : Int} (f : F k pc (.bipush z) q) (hz : (Int8.ofInt z).toInt32 = Int32.ofInt z) (kk : Rn X d k q L (vI z :: st) s P) : Rn X d k pc L st s P := by
  obtain rfl := f.at (c := 2) fun _ => rfl
  refine Rn_A f rfl rfl ?_ kk
  show some (pc + 2, L, Value.int (Int8.ofInt z).toInt32 :: st, m_mk X.2 s) = _
  rw [hz]
  rfl
theorem r_sipush {z : Int} (f : F k pc (.sipush z) q) (hz : (Int16.ofInt z).toInt32 = Int32.ofInt z) (kk : Rn X d k q L (vI z :: st) s P) : Rn X d k pc L st s P := by
  obtain rfl := f.at (c := 3) fun _ => rfl
  refine Rn_A f rfl rfl ?_ kk
  show some (pc + 3, L, Value.int (Int16.ofInt z).toInt32 :: st, m_mk X.2 s) = _
  rw [hz]
  rfl
theorem r_ldcI {e0 : Int32 × Nat} (f : F k pc (.ldc_w ix) q) (ho : m_o k = o) (hl : m_k32.lookup (o, ix) = some e0) (hz : e0.1 = Int32.ofInt e) (kk : Rn X d k q L (vI e :: st) s P) : Rn X d k pc L st s P := by
  obtain rfl := f.at (c := 3) fun _ => rfl
  subst ho
  refine Rn_A f rfl rfl ?_ kk
  unfold m_sA
  dsimp only
  rw [hl]
  dsimp only
  rw [hz]
  rfl
theorem r_ldcJ {e0 : Int64 × Nat} (f : F k pc (.ldc2_w ix) q) (ho : m_o k = o) (hl : m_k64.lookup (o, ix) = some e0) (hz : e0.1 = Int64.ofInt e) (kk : Rn X d k q L (vJ e :: st) s P) : Rn X d k pc L st s P := by
  obtain rfl := f.at (c := 3) fun _ => rfl
  subst ho
  refine Rn_A f rfl rfl ?_ kk
  unfold m_sA
  dsimp only
  rw [hl]
  dsimp only
  rw [hz]
  rfl
theorem r_ldI_n {m : Fin 4} (f : F k pc (.iload_n m) q) (hL : L[(m : Nat)]? = some (some (vI a))) (kk : Rn X d k q L (vI a :: st) s P) : Rn X d k pc L st s P := by
  obtain rfl := f.at (c := 1) fun _ => rfl
  refine Rn_A f rfl rfl ?_ kk
  unfold m_sA m_ldi
  dsimp only
  rw [hL]
  rfl
theorem r_ldI {m : Nat} (f : F k pc (.iload m) q) (hL : L[m]? = some (some (vI a))) (kk : Rn X d k q L (vI a :: st) s P) : Rn X d k pc L st s P := by
  obtain rfl := f.at (c := 2) fun _ => rfl
  refine Rn_A f rfl rfl ?_ kk
  unfold m_sA m_ldi
  dsimp only
  rw [hL]
  rfl
theorem r_ldJ_n {m : Fin 4} (f : F k pc (.lload_n m) q) (hL : L[(m : Nat)]? = some (some (vJ a))) (kk : Rn X d k q L (vJ a :: st) s P) : Rn X d k pc L st s P := by
  obtain rfl := f.at (c := 1) fun _ => rfl
  refine Rn_A f rfl rfl ?_ kk
  unfold m_sA m_ldj
  dsimp only
  rw [hL]
  rfl
theorem r_ldJ {m : Nat} (f : F k pc (.lload m) q) (hL : L[m]? = some (some (vJ a))) (kk : Rn X d k q L (vJ a :: st) s P) : Rn X d k pc L st s P := by
  obtain rfl := f.at (c := 2) fun _ => rfl
  refine Rn_A f rfl rfl ?_ kk
  unfold m_sA m_ldj
  dsimp only
  rw [hL]
  rfl
theorem r_ldR_n {m : Fin 4} (f : F k pc (.aload_n m) q) (hL : L[(m : Nat)]? = some (some (vR a))) (kk : Rn X d k q L (vR a :: st) s P) : Rn X d k pc L st s P := by
  obtain rfl := f.at (c := 1) fun _ => rfl
  refine Rn_A f rfl rfl ?_ kk
  unfold m_sA m_lda
  dsimp only
  rw [hL]
  rfl
theorem r_ldR {m : Nat} (f : F k pc (.aload m) q) (hL : L[m]? = some (some (vR a))) (kk : Rn X d k q L (vR a :: st) s P) : Rn X d k pc L st s P := by
  obtain rfl := f.at (c := 2) fun _ => rfl
  refine Rn_A f rfl rfl ?_ kk
  unfold m_sA m_lda
  dsimp only
  rw [hL]
  rfl
theorem r_stI_n {m : Fin 4} (f : F k pc (.istore_n m) q) (hm : Nat.blt (m : Nat) L.length = true) (hL : m_st1 L (m : Nat) (vI a) = L') (kk : Rn X d k q L' st s P) : Rn X d k pc L (vI a :: st) s P := by
  obtain rfl := f.at (c := 1) fun _ => rfl
  subst hL
  refine Rn_A f rfl rfl ?_ kk
  exact m_c_t (Nat.le_of_ble_eq_true hm)
theorem r_stI {m : Nat} (f : F k pc (.istore m) q) (hm : Nat.blt m L.length = true) (hL : m_st1 L m (vI a) = L') (kk : Rn X d k q L' st s P) : Rn X d k pc L (vI a :: st) s P := by
  obtain rfl := f.at (c := 2) fun _ => rfl
  subst hL
  refine Rn_A f rfl rfl ?_ kk
  exact m_c_t (Nat.le_of_ble_eq_true hm)
theorem r_stJ_n {m : Fin 4} (f : F k pc (.lstore_n m) q) (hm : Nat.blt ((m : Nat) + 1) L.length = true) (hL : m_st2 L (m : Nat) (vJ a) = L') (kk : Rn X d k q L' st s P) : Rn X d k pc L (vJ a :: st) s P := by
  obtain rfl := f.at (c := 1) fun _ => rfl
  subst hL
  refine Rn_A f rfl rfl ?_ kk
  exact m_c_t (Nat.le_of_ble_eq_true hm)
theorem r_stJ {m : Nat} (f : F k pc (.lstore m) q) (hm : Nat.blt (m + 1) L.length = true) (hL : m_st2 L m (vJ a) = L') (kk : Rn X d k q L' st s P) : Rn X d k pc L (vJ a :: st) s P := by
  obtain rfl := f.at (c := 2) fun _ => rfl
  subst hL
  refine Rn_A f rfl rfl ?_ kk
  exact m_c_t (Nat.le_of_ble_eq_true hm)
theorem r_stR_n {m : Fin 4} (f : F k pc (.astore_n m) q) (hm : Nat.blt (m : Nat) L.length = true) (hL : m_st1 L (m : Nat) (vR a) = L') (kk : Rn X d k q L' st s P) : Rn X d k pc L (vR a :: st) s P := by
  obtain rfl := f.at (c := 1) fun _ => rfl
  subst hL
  refine Rn_A f rfl rfl ?_ kk
  exact m_c_t (Nat.le_of_ble_eq_true hm)
theorem r_stR {m : Nat} (f : F k pc (.astore m) q) (hm : Nat.blt m L.length = true) (hL : m_st1 L m (vR a) = L') (kk : Rn X d k q L' st s P) : Rn X d k pc L (vR a :: st) s P := by
  obtain rfl := f.at (c := 2) fun _ => rfl
  subst hL
  refine Rn_A f rfl rfl ?_ kk
  exact m_c_t (Nat.le_of_ble_eq_true hm)
theorem r_iinc {m : Nat} {z : Int} (f : F k pc (.iinc m z) q) (hL0 : L[m]? = some (some (vI a))) (hm : Nat.blt m L.length = true) (he : a + z = e) (hL : m_st1 L m (vI e) = L') (kk : Rn X d k q L' st s P) : Rn X d k pc L st s P := by
  obtain rfl := f.at (c := 3) fun _ => rfl
  subst hL he
  refine Rn_A f rfl rfl ?_ kk
  unfold m_sA m_ldi
  dsimp only
  rw [hL0]
  show m_c _ (some (pc + 3, m_st1 L m (.int (Int32.ofInt a + Int32.ofInt z)), st, m_mk X.2 s)) = _
  rw [← Int32.ofInt_add]
  exact m_c_t (Nat.le_of_ble_eq_true hm)
theorem r_dupI (f : F k pc .dup q) (kk : Rn X d k q L (vI a :: vI a :: st) s P) : Rn X d k pc L (vI a :: st) s P := by
  obtain rfl := f.at (c := 1) fun _ => rfl
  exact Rn_A f rfl rfl rfl kk
theorem r_dupR (f : F k pc .dup q) (kk : Rn X d k q L (vR a :: vR a :: st) s P) : Rn X d k pc L (vR a :: st) s P := by
  obtain rfl := f.at (c := 1) fun _ => rfl
  exact Rn_A f rfl rfl rfl kk
theorem r_dup2 (f : F k pc .dup2 q) (kk : Rn X d k q L (vI b :: vR a :: vI b :: vR a :: st) s P) : Rn X d k pc L (vI b :: vR a :: st) s P := by
  obtain rfl := f.at (c := 1) fun _ => rfl
  exact Rn_A f rfl rfl rfl kk
theorem r_popI (f : F k pc .pop q) (kk : Rn X d k q L st s P) : Rn X d k pc L (vI a :: st) s P := by
  obtain rfl := f.at (c := 1) fun _ => rfl
  exact Rn_A f rfl rfl rfl kk
-- arithmetic
theorem r_iadd (f : F k pc .iadd q) (he : a + b = e) (kk : Rn X d k q L (vI e :: st) s P) : Rn X d k pc L (vI b :: vI a :: st) s P := by
  obtain rfl := f.at (c := 1) fun _ => rfl
  subst he
  refine Rn_A f rfl rfl ?_ kk
  unfold vI
  rw [Int32.ofInt_add]
  rfl
theorem r_isub (f : F k pc .isub q) (he : a - b = e) (kk : Rn X d k q L (vI e :: st) s P) : Rn X d k pc L (vI b :: vI a :: st) s P := by
  obtain rfl := f.at (c := 1) fun _ => rfl
  subst he
  refine Rn_A f rfl rfl ?_ kk
  unfold vI
  rw [Int32.ofInt_sub]
  rfl
theorem r_imul (f : F k pc .imul q) (he : a * b = e) (kk : Rn X d k q L (vI e :: st) s P) : Rn X d k pc L (vI b :: vI a :: st) s P := by
  obtain rfl := f.at (c := 1) fun _ => rfl
  subst he
  refine Rn_A f rfl rfl ?_ kk
  unfold vI
  rw [Int32.ofInt_mul]
  rfl
theorem oI_div {a b : Int} (ha : inR a) (h0 : 0 ≤ a) (hb : inR b) (h1 : 0 < b) : ¬ Int32.ofInt b = 0 ∧ Int32.ofInt a / Int32.ofInt b = Int32.ofInt (a / b) := by
  refine ⟨fun h => ?_, ?_⟩
  · rw [← oI_0, oI_eq hb inR_0] at h
    omega
  · rw [← Int32.ofInt_tdiv (by exact ha.1) (Int.le_of_lt_add_one (by exact ha.2)) (by exact hb.1) (Int.le_of_lt_add_one (by exact hb.2)), Int.tdiv_eq_ediv_of_nonneg h0]
theorem r_idiv (f : F k pc .idiv q) (ha : inR a) (h0 : 0 ≤ a) (hb : inR b) (h1 : 0 < b) (kk : Rn X d k q L (vI (a / b) :: st) s P) : Rn X d k pc L (vI b :: vI a :: st) s P := by
  obtain rfl := f.at (c := 1) fun _ => rfl
  refine Rn_A f rfl rfl ?_ kk
  obtain ⟨g1, g2⟩ := oI_div ha h0 hb h1
  refine (m_c_t g1).trans ?_
  unfold vI
  rw [← g2]
theorem r_irem (f : F k pc .irem q) (ha : inR a) (h0 : 0 ≤ a) (hb : inR b) (h1 : 0 < b) (kk : Rn X d k q L (vI (a % b) :: st) s P) : Rn X d k pc L (vI b :: vI a :: st) s P := by
  obtain rfl := f.at (c := 1) fun _ => rfl
  refine Rn_A f rfl rfl ?_ kk
  obtain ⟨g1, g2⟩ := oI_div ha h0 hb h1
  refine (m_c_t g1).trans ?_
  unfold vI
  rw [g2, ← Int32.ofInt_mul, ← Int32.ofInt_sub, Int.emod_def, Int.mul_comm b]
theorem r_iand (f : F k pc .iand q) (he : iAnd a b = e) (kk : Rn X d k q L (vI e :: st) s P) : Rn X d k pc L (vI b :: vI a :: st) s P := by
  obtain rfl := f.at (c := 1) fun _ => rfl
  subst he
  refine Rn_A f rfl rfl ?_ kk
  unfold iAnd
  rw [vI_toInt]
  rfl
theorem r_ior (f : F k pc .ior q) (he : iOr a b = e) (kk : Rn X d k q L (vI e :: st) s P) : Rn X d k pc L (vI b :: vI a :: st) s P := by
  obtain rfl := f.at (c := 1) fun _ => rfl
  subst he
  refine Rn_A f rfl rfl ?_ kk
  unfold iOr
  rw [vI_toInt]
  rfl
theorem r_ixor (f : F k pc .ixor q) (he : iXor a b = e) (kk : Rn X d k q L (vI e :: st) s P) : Rn X d k pc L (vI b :: vI a :: st) s P := by
  obtain rfl := f.at (c := 1) fun _ => rfl
  subst he
  refine Rn_A f rfl rfl ?_ kk
  unfold iXor
  rw [vI_toInt]
  rfl
theorem r_ishl (f : F k pc .ishl q) (he : iShl a b = e) (kk : Rn X d k q L (vI e :: st) s P) : Rn X d k pc L (vI b :: vI a :: st) s P := by
  obtain rfl := f.at (c := 1) fun _ => rfl
  subst he
  refine Rn_A f rfl rfl ?_ kk
  unfold iShl
  rw [vI_toInt]
  rfl
theorem r_ishr (f : F k pc .ishr q) (he : iShr a b = e) (kk : Rn X d k q L (vI e :: st) s P) : Rn X d k pc L (vI b :: vI a :: st) s P := by
  obtain rfl := f.at (c := 1) fun _ => rfl
  subst he
  refine Rn_A f rfl rfl ?_ kk
  unfold iShr
  rw [vI_toInt]
  rfl
theorem r_iushr (f : F k pc .iushr q) (he : iUshr a b = e) (kk : Rn X d k q L (vI e :: st) s P) : Rn X d k pc L (vI b :: vI a :: st) s P := by
  obtain rfl := f.at (c := 1) fun _ => rfl
  subst he
  refine Rn_A f rfl rfl ?_ kk
  unfold iUshr
  rw [vI_toInt]
  rfl
theorem r_i2b (f : F k pc .i2b q) (kk : Rn X d k q L (vI (i2B a) :: st) s P) : Rn X d k pc L (vI a :: st) s P := by
  obtain rfl := f.at (c := 1) fun _ => rfl
  refine Rn_A f rfl rfl ?_ kk
  unfold i2B
  rw [vI_toInt]
  rfl
theorem r_i2l (f : F k pc .i2l q) (ha : inR a) (kk : Rn X d k q L (vJ a :: st) s P) : Rn X d k pc L (vI a :: st) s P := by
  obtain rfl := f.at (c := 1) fun _ => rfl
  refine Rn_A f rfl rfl ?_ kk
  unfold vJ
  rw [← Int32.toInt64_ofInt (by exact ha.1) (Int.le_of_lt_add_one (by exact ha.2))]
  rfl
theorem r_l2i (f : F k pc .l2i q) (kk : Rn X d k q L (vI a :: st) s P) : Rn X d k pc L (vJ a :: st) s P := by
  obtain rfl := f.at (c := 1) fun _ => rfl
  refine Rn_A f rfl rfl ?_ kk
  unfold vI
  rw [← Int64.toInt32_ofInt]
  rfl
theorem r_lconst {m : Fin 2} (f : F k pc (.lconst m) q) (hz : Int64.ofNat (m : Nat) = Int64.ofInt e) (kk : Rn X d k q L (vJ e :: st) s P) : Rn X d k pc L st s P := by
  obtain rfl := f.at (c := 1) fun _ => rfl
  refine Rn_A f rfl rfl ?_ kk
  unfold vJ
  rw [← hz]
  rfl
theorem r_ladd (f : F k pc .ladd q) (he : a + b = e) (kk : Rn X d k q L (vJ e :: st) s P) : Rn X d k pc L (vJ b :: vJ a :: st) s P := by
  obtain rfl := f.at (c := 1) fun _ => rfl
  subst he
  refine Rn_A f rfl rfl ?_ kk
  unfold vJ
  rw [Int64.ofInt_add]
  rfl
theorem r_lmul (f : F k pc .lmul q) (he : a * b = e) (kk : Rn X d k q L (vJ e :: st) s P) : Rn X d k pc L (vJ b :: vJ a :: st) s P := by
  obtain rfl := f.at (c := 1) fun _ => rfl
  subst he
  refine Rn_A f rfl rfl ?_ kk
  unfold vJ
  rw [Int64.ofInt_mul]
  rfl
theorem oJ_div {a b : Int} (ha : inJ a) (hb : inJ b) (h1 : 0 < b) : ¬ Int64.ofInt b = 0 ∧ Int64.ofInt a / Int64.ofInt b = Int64.ofInt (a.tdiv b) := by
  refine ⟨fun h => ?_, ?_⟩
  · rw [← oJ_0, oJ_eq hb inJ_0] at h
    omega
  · rw [← Int64.ofInt_tdiv (by exact ha.1) (Int.le_of_lt_add_one (by exact ha.2)) (by exact hb.1) (Int.le_of_lt_add_one (by exact hb.2))]
theorem r_ldivT (f : F k pc .ldiv q) (ha : inJ a) (hb : inJ b) (h1 : 0 < b) (kk : Rn X d k q L (vJ (a.tdiv b) :: st) s P) : Rn X d k pc L (vJ b :: vJ a :: st) s P := by
  obtain rfl := f.at (c := 1) fun _ => rfl
  refine Rn_A f rfl rfl ?_ kk
  obtain ⟨g1, g2⟩ := oJ_div ha hb h1
  refine (m_c_t g1).trans ?_
  unfold vJ
  rw [← g2]
theorem r_ldiv (f : F k pc .ldiv q) (ha : inJ a) (h0 : 0 ≤ a) (hb : inJ b) (h1 : 0 < b) (kk : Rn X d k q L (vJ (a / b) :: st) s P) : Rn X d k pc L (vJ b :: vJ a :: st) s P := by
  refine r_ldivT f ha hb h1 ?_
  rw [Int.tdiv_eq_ediv_of_nonneg h0]
  exact kk
theorem r_lrem (f : F k pc .lrem q) (ha : inJ a) (h0 : 0 ≤ a) (hb : inJ b) (h1 : 0 < b) (kk : Rn X d k q L (vJ (a % b) :: st) s P) : Rn X d k pc L (vJ b :: vJ a :: st) s P := by
  obtain rfl := f.at (c := 1) fun _ => rfl
  refine Rn_A f rfl rfl ?_ kk
  obtain ⟨g1, g2⟩ := oJ_div ha hb h1
  refine (m_c_t g1).trans ?_
  unfold vJ
  rw [g2, Int.tdiv_eq_ediv_of_nonneg h0, ← Int64.ofInt_mul, ← Int64.ofInt_sub, Int.emod_def, Int.mul_comm b]
theorem r_lcmp (f : F k pc .lcmp q) (kk : Rn X d k q L (vI (cmpJ a b) :: st) s P) : Rn X d k pc L (vJ b :: vJ a :: st) s P := by
  obtain rfl := f.at (c := 1) fun _ => rfl
  refine Rn_A f rfl rfl ?_ kk
  unfold cmpJ
  rw [vI_toInt]
  rfl
-- jumps
def cI (c : ClassFile.Cond) (a b : Int) : Prop := match c with
  | .eq => a = b
  | .ne => ¬ a = b
  | .lt => a < b
  | .ge => b ≤ a
  | .gt => b < a
  | .le => a ≤ b
theorem r_goto (f : F k pc (.goto off) q) (ht : (pc : Int) + off = (t : Int)) (kk : Rn X d k t L st s P) : Rn X d k pc L st s P := by
  refine Rn_A (pc' := t) f rfl rfl ?_ kk
  show m_go pc off L st (m_mk X.2 s) = _
  unfold m_go
  rw [ht]
  exact m_c_t (by omega)
theorem m_br_T {pc t : Nat} {off : Int} {b : Prop} [Decidable b] {L : m_L} {st : List Value} {h : m_H} (ht : (pc : Int) + off = (t : Int)) (hb : b) : m_br pc off b L st h = some (t, L, st, h) := by
  unfold m_br
  rw [ht, if_pos hb]
  exact m_c_t (by omega)
theorem m_br_F {pc t : Nat} {off : Int} {b : Prop} [Decidable b] {L : m_L} {st : List Value} {h : m_H} (ht : (pc : Int) + off = (t : Int)) (hb : ¬ b) : m_br pc off b L st h = some (pc + 3, L, st, h) := by
  unfold m_br
  rw [ht, if_neg hb]
  exact m_c_t (by omega)
theorem m_icmp_T {pc t : Nat} {off : Int} {L : m_L} {st : List Value} {h : m_H} {cc : ClassFile.Cond} {a b : Int} (ht : (pc : Int) + off = (t : Int)) (ha : inR a) (hb : inR b) (hc : cI cc a b) : m_icmp cc pc off (Int32.ofInt a) (Int32.ofInt b) L st h = some (t, L, st, h) := by
  unfold m_icmp
  cases cc <;> dsimp only <;> refine m_br_T ht ?_
  · exact (oI_eq ha hb).mpr hc
  · exact fun h => hc ((oI_eq ha hb).mp h)
  · exact (oI_lt ha hb).mpr hc
  · exact (oI_le hb ha).mpr hc
  · exact (oI_lt hb ha).mpr hc
  · exact (oI_le ha hb).mpr hc
theorem m_icmp_F {pc t : Nat} {off : Int} {L : m_L} {st : List Value} {h : m_H} {cc : ClassFile.Cond} {a b : Int} (ht : (pc : Int) + off = (t : Int)) (ha : inR a) (hb : inR b) (hc : ¬ cI cc a b) : m_icmp cc pc off (Int32.ofInt a) (Int32.ofInt b) L st h = some (pc + 3, L, st, h) := by
  unfold m_icmp
  cases cc <;> dsimp only <;> refine m_br_F ht ?_
  · exact fun h => hc ((oI_eq ha hb).mp h)
  · exact fun h => hc (fun z => h ((oI_eq ha hb).mpr z))
  · exact fun h => hc ((oI_lt ha hb).mp h)
  · exact fun h => hc ((oI_le hb ha).mp h)
  · exact fun h => hc ((oI_lt hb ha).mp h)
  · exact fun h => hc ((oI_le ha hb).mp h)
theorem r_icmpT (f : F k pc (.if_icmp cc off) q) (ht : (pc : Int) + off = (t : Int)) (ha : inR a) (hb : inR b) (hc : cI cc a b) (kk : Rn X d k t L st s P) : Rn X d k pc L (vI b :: vI a :: st) s P :=
  Rn_A (pc' := t) f rfl rfl (m_icmp_T ht ha hb hc) kk
theorem r_icmpF (f : F k pc (.if_icmp cc off) q) (ht : (pc : Int) + off = (t : Int)) (ha : inR a) (hb : inR b) (hc : ¬ cI cc a b) (kk : Rn X d k q L st s P) : Rn X d k pc L (vI b :: vI a :: st) s P := by
  obtain rfl := f.at (c := 3) fun _ => rfl
  exact Rn_A f rfl rfl (m_icmp_F ht ha hb hc) kk
theorem r_icmp (f : F k pc (.if_icmp cc off) q) (ht : (pc : Int) + off = (t : Int)) (ha : inR a) (hb : inR b) (k1 : cI cc a b → Rn X d k t L st s P) (k2 : ¬ cI cc a b → Rn X d k q L st s P) : Rn X d k pc L (vI b :: vI a :: st) s P := by
  by_cases hc : cI cc a b
  · exact r_icmpT f ht ha hb hc (k1 hc)
  · exact r_icmpF f ht ha hb hc (k2 hc)
theorem m_if_icmp {cc : ClassFile.Cond} {pc : Nat} {off : Int} {x : Int32} {L : m_L} {st : List Value} {h : m_H} : m_if cc pc off x L st h = m_icmp cc pc off x (Int32.ofInt 0) L st h := by
  rw [oI_0]
  cases cc <;> rfl
theorem r_ifT (f : F k pc (.ifCond cc off) q) (ht : (pc : Int) + off = (t : Int)) (ha : inR a) (hc : cI cc a 0) (kk : Rn X d k t L st s P) : Rn X d k pc L (vI a :: st) s P := by
  refine Rn_A (pc' := t) f rfl rfl ?_ kk
  show m_if cc pc off (Int32.ofInt a) L st (m_mk X.2 s) = _
  rw [m_if_icmp]
  exact m_icmp_T ht ha inR_0 hc
theorem r_ifF (f : F k pc (.ifCond cc off) q) (ht : (pc : Int) + off = (t : Int)) (ha : inR a) (hc : ¬ cI cc a 0) (kk : Rn X d k q L st s P) : Rn X d k pc L (vI a :: st) s P := by
  obtain rfl := f.at (c := 3) fun _ => rfl
  refine Rn_A f rfl rfl ?_ kk
  show m_if cc pc off (Int32.ofInt a) L st (m_mk X.2 s) = _
  rw [m_if_icmp]
  exact m_icmp_F ht ha inR_0 hc
theorem r_if (f : F k pc (.ifCond cc off) q) (ht : (pc : Int) + off = (t : Int)) (ha : inR a) (k1 : cI cc a 0 → Rn X d k t L st s P) (k2 : ¬ cI cc a 0 → Rn X d k q L st s P) : Rn X d k pc L (vI a :: st) s P := by
  by_cases hc : cI cc a 0
  · exact r_ifT f ht ha hc (k1 hc)
  · exact r_ifF f ht ha hc (k2 hc)
theorem r_tsw {dd lo hi : Int} {offs : Array Int} (f : F k pc (.tableswitch dd lo hi offs) q) (ha : inR a) (hd : (pc : Int) + dd = (t : Int)) (k1 : ∀ (u : Nat) (z : Int), lo ≤ a → a ≤ hi → offs[(a - lo).toNat]? = some z → (pc : Int) + z = (u : Int) → Rn X d k u L st s P) (hoffs : ∀ z ∈ offs.toList, 0 ≤ (pc : Int) + z) (hlen : hi - lo < (offs.size : Int)) (k2 : (a < lo ∨ hi < a) → Rn X d k t L st s P) : Rn X d k pc L (vI a :: st) s P := by
  by_cases hc : a < lo ∨ hi < a
  · refine Rn_A (pc' := t) f rfl rfl ?_ (k2 hc)
    show (if (Int32.ofInt a).toInt < lo ∨ hi < (Int32.ofInt a).toInt then m_go pc dd L st (m_mk X.2 s) else _) = _
    rw [oI_toInt ha, if_pos hc]
    unfold m_go
    rw [hd]
    exact m_c_t (by omega)
  · have hlt : (a - lo).toNat < offs.size := by omega
    have hz : offs[(a - lo).toNat]? = some offs[(a - lo).toNat] := Array.getElem?_eq_getElem hlt
    have h0 := hoffs _ (Array.mem_toList_iff.mpr (Array.getElem_mem hlt))
    refine Rn_A (pc' := ((pc : Int) + offs[(a - lo).toNat]).toNat) f rfl rfl ?_ (k1 _ _ (by omega) (by omega) hz (by omega))
    show (if (Int32.ofInt a).toInt < lo ∨ hi < (Int32.ofInt a).toInt then _ else match offs[((Int32.ofInt a).toInt - lo).toNat]? with
      | some o => m_go pc o L st (m_mk X.2 s)
      | none => none) = _
    rw [oI_toInt ha, if_neg hc, hz]
    exact m_c_t h0
-- ends
theorem r_ireturn (f : F k pc .ireturn q) (hk : m_r k = some .int) (kk : P (some (vI a)) s) : Rn X d k pc L [vI a] s P := by
  obtain ⟨l, f1, f2, f3⟩ := f
  refine ⟨1, some (vI a), s, ⟨X.2, ?_, fun _ => rfl⟩, kk⟩
  rw [m_run.eq_def]
  dsimp only
  rw [f1]
  dsimp only
  rw [if_pos f2]
  have : m_ret k .ireturn [vI a] = some (some (vI a)) := by
    show (if m_rok k (Int32.ofInt a) = true then _ else _) = _
    unfold m_rok
    rw [hk]
    exact if_pos (decide_eq_true rfl)
  rw [this]
theorem r_zreturn (f : F k pc .ireturn q) (hk : m_r k = some .boolean) (hz : a = 0 ∨ a = 1) (kk : P (some (vI a)) s) : Rn X d k pc L [vI a] s P := by
  obtain ⟨l, f1, f2, f3⟩ := f
  refine ⟨1, some (vI a), s, ⟨X.2, ?_, fun _ => rfl⟩, kk⟩
  rw [m_run.eq_def]
  dsimp only
  rw [f1]
  dsimp only
  rw [if_pos f2]
  have : m_ret k .ireturn [vI a] = some (some (vI a)) := by
    show (if m_rok k (Int32.ofInt a) = true then _ else _) = _
    unfold m_rok
    rw [hk]
    rcases hz with rfl | rfl <;> rfl
  rw [this]
theorem r_lreturn (f : F k pc .lreturn q) (hk : m_r k = some .long) (kk : P (some (vJ a)) s) : Rn X d k pc L [vJ a] s P := by
  obtain ⟨l, f1, f2, f3⟩ := f
  refine ⟨1, some (vJ a), s, ⟨X.2, ?_, fun _ => rfl⟩, kk⟩
  rw [m_run.eq_def]
  dsimp only
  rw [f1]
  dsimp only
  rw [if_pos f2]
  have : m_ret k .lreturn [vJ a] = some (some (vJ a)) := if_pos hk
  rw [this]
theorem r_areturn (f : F k pc .areturn q) (hk : m_rob k = true) (kk : P (some (vR a)) s) : Rn X d k pc L [vR a] s P := by
  obtain ⟨l, f1, f2, f3⟩ := f
  refine ⟨1, some (vR a), s, ⟨X.2, ?_, fun _ => rfl⟩, kk⟩
  rw [m_run.eq_def]
  dsimp only
  rw [f1]
  dsimp only
  rw [if_pos f2]
  have : m_ret k .areturn [vR a] = some (some (vR a)) := if_pos hk
  rw [this]
theorem r_return (f : F k pc .return_ q) (hk : m_r k = none) (kk : P none s) : Rn X d k pc L [] s P := by
  obtain ⟨l, f1, f2, f3⟩ := f
  refine ⟨1, none, s, ⟨X.2, ?_, fun _ => rfl⟩, kk⟩
  rw [m_run.eq_def]
  dsimp only
  rw [f1]
  dsimp only
  rw [if_pos f2]
  have : m_ret k .return_ [] = some none := if_pos hk
  rw [this]
-- calls
theorem r_inv {i : Instr} (hy : y < m_law) (f : F k pc i q) (h1 : m_ret k i st = none) (h2 : m_inv k i st (m_mk X.2 s) = some (y, A, r)) (hl : Nat.ble (m_lay A).length (m_n y) = true) (kk : Cl X d y A s (fun v s' => Rn X (d + 1) k (pc + 3) L (m_push v r) s' P)) : Rn X (d + 1) k pc L st s P := by
  obtain ⟨n1, v1, s1, ⟨G1, g1, hG1⟩, n2, v2, s2, ⟨G2, g2, hG2⟩, hP⟩ := kk
  obtain rfl := hG1 hy
  obtain ⟨l, f1, f2, f3⟩ := f
  refine ⟨max n1 n2 + 1, v2, s2, ⟨G2, ?_, hG2⟩, hP⟩
  rw [m_run.eq_def]
  dsimp only
  rw [f1]
  dsimp only
  rw [if_pos f2, h1]
  dsimp only
  rw [h2]
  dsimp only
  rw [if_pos (Nat.le_of_ble_eq_true hl), m_run_up _ _ _ _ _ _ _ _ g1 (max n1 n2) d (Nat.le_max_left _ _) (Nat.le_refl d)]
  dsimp only
  rw [if_pos (by unfold m_okc; rw [m_mk_len, m_mk_len]; simp)]
  exact m_run_up _ _ _ _ _ _ _ _ g2 (max n1 n2) (d + 1) (Nat.le_max_right _ _) (Nat.le_refl _)
theorem r_virt {z : Nat × Nat × Nat × Nat} (f : F k pc (.invokevirtual ix) q) (ho : m_o k = o) (hl : m_il.lookup (o, ix) = some (0, y, n, z)) (hn : Nat.ble n st.length = true) (hst : st.drop n = vR b :: r) (hA : (st.take n).reverse = A) (hr : Nat.ble (m_sum r) 8 = true) (hb : ty b = t) (hc : (m_cls t).1 = (m_y y).cls ∧ t < m_cl.length) (hlay : Nat.ble (m_lay (vR b :: A)).length (m_n y) = true)
    (kk : Cl X d y (vR b :: A) s (fun v s' => Rn X (d + 1) k q L (m_push v r) s' P)) : Rn X (d + 1) k pc L st s P := by
  have hq := f.at (c := 3) fun _ => rfl
  subst hq ho hA
  refine r_inv (m_il_use hl).1 f rfl ?_ hlay kk
  have ht9 : t < 99 := Nat.lt_of_lt_of_le hc.2 (Nat.le_of_ble_eq_true rfl)
  obtain ⟨e, -, -, -, h3, -⟩ := m_mk_at (s := s) hb ht9
  unfold m_inv
  dsimp only
  rw [hl]
  dsimp only
  rw [hst]
  show m_c _ _ = _
  rw [m_c_t ⟨rfl, Nat.le_of_ble_eq_true hr, Nat.le_of_ble_eq_true hn, by rw [h3]; exact congrArg some hc.1, by rw [h3]; exact congrArg some (decide_eq_true hc.2)⟩]
  rfl
theorem r_stat {kd : Nat} {z : Nat × Nat × Nat × Nat} (f : F k pc (.invokestatic ix) q) (ho : m_o k = o) (hl : m_il.lookup (o, ix) = some (kd, y, n, z)) (hkd : kd = 1 ∨ kd = 3) (hn : Nat.ble n st.length = true) (hst : st.drop n = r) (hA : (st.take n).reverse = A) (hr : Nat.ble (m_sum r) 8 = true) (hlay : Nat.ble (m_lay A).length (m_n y) = true)
    (kk : Cl X d y A s (fun v s' => Rn X (d + 1) k q L (m_push v r) s' P)) : Rn X (d + 1) k pc L st s P := by
  have hq := f.at (c := 3) fun _ => rfl
  subst hq ho hA hst
  refine r_inv (m_il_use hl).1 f rfl ?_ hlay kk
  unfold m_inv
  dsimp only
  rw [hl]
  exact m_c_t ⟨hkd, Nat.le_of_ble_eq_true hr, Nat.le_of_ble_eq_true hn⟩
-- fields
theorem m_slot (ht : ty a = t) (h9 : t < 99) (hk : kd a J = c) (hc : c < 999) (hJ : 0 ≤ J) : ∃ vs, (m_mk X.2 s)[a.toNat]? = some (t, vs) ∧ vs[J.toNat]? = some (m_mkv s a.toNat J.toNat c) ∧ ((a.toNat : Nat) : Int) = a ∧ ((J.toNat : Nat) : Int) = J := by
  obtain ⟨e, h1, h2, h3, h4, h5⟩ := m_mk_at (s := s) ht h9
  refine ⟨_, h4, ?_, h5, Int.toNat_of_nonneg hJ⟩
  unfold kd at hk
  rw [h1] at hk
  simp only [Option.bind_some] at hk
  rw [List.getElem?_mapIdx]
  cases hj : e.2[J.toNat]? with
  | none => rw [hj] at hk; simp at hk; omega
  | some z => rw [hj] at hk; simp at hk; rw [hk]; rfl
theorem m_getf {v : Value} (ho : m_o k = o) (hl : m_fl.lookup (o, ix) = some (t, j, w)) (ht : ty a = t) (h9 : t < 99) (hj : (j : Int) = J) (hk : kd a J = c) (hc : c < 999) (hv : m_mkv s a.toNat J.toNat c = v) : m_sB X.1 k (.getfield ix) pc L (vR a :: st) (m_mk X.2 s) = some (pc + 3, L, v :: st, m_mk X.2 s) := by
  subst ho hj
  obtain ⟨vs, h1, h2, h3, h4⟩ := m_slot (X := X) (s := s) ht h9 hk hc (by omega)
  unfold m_sB m_a vR
  dsimp only
  rw [hl]
  dsimp only
  rw [h1]
  dsimp only
  rw [m_c_t rfl, show vs[j]? = some _ from h2, hv]
theorem r_getI (f : F k pc (.getfield ix) q) (ho : m_o k = o) (hl : m_fl.lookup (o, ix) = some (t, j, w)) (ht : ty a = t) (h9 : t < 99) (hj : (j : Int) = J) (hk : kd a J = 0) (he : s a J = e) (kk : Rn X d k q L (vI e :: st) s P) : Rn X d k pc L (vR a :: st) s P := by
  obtain rfl := f.at (c := 3) fun _ => rfl
  obtain ⟨vs, h1, h2, h3, h4⟩ := m_slot (X := X) (s := s) ht h9 hk (by omega) (by omega)
  refine Rn_B f rfl rfl rfl (m_getf ho hl ht h9 hj hk (by omega) ?_) kk
  unfold m_mkv
  rw [if_pos rfl, h3, h4, he]
theorem r_getJ (f : F k pc (.getfield ix) q) (ho : m_o k = o) (hl : m_fl.lookup (o, ix) = some (t, j, w)) (ht : ty a = t) (h9 : t < 99) (hj : (j : Int) = J) (hk : kd a J = 1) (he : s a J = e) (kk : Rn X d k q L (vJ e :: st) s P) : Rn X d k pc L (vR a :: st) s P := by
  obtain rfl := f.at (c := 3) fun _ => rfl
  obtain ⟨vs, h1, h2, h3, h4⟩ := m_slot (X := X) (s := s) ht h9 hk (by omega) (by omega)
  refine Rn_B f rfl rfl rfl (m_getf ho hl ht h9 hj hk (by omega) ?_) kk
  unfold m_mkv
  rw [if_neg (by decide), if_pos rfl, h3, h4, he]
theorem m_mkv_ref (hk : 2 ≤ c) (hc : kd a J = c) : m_mkv s a.toNat J.toNat c = vR (rf a J) := by
  unfold m_mkv rf vR
  rw [if_neg (by omega), if_neg (by omega), hc]
  exact congrArg Value.ref (show (c - 2 : Nat) = ((c : Int) - 2).toNat by omega)
theorem r_getR (f : F k pc (.getfield ix) q) (ho : m_o k = o) (hl : m_fl.lookup (o, ix) = some (t, j, w)) (ht : ty a = t) (h9 : t < 99) (hj : (j : Int) = J) (hk : Nat.ble 2 (kd a J) = true) (hk9 : Nat.blt (kd a J) 999 = true) (he : rf a J = e) (kk : Rn X d k q L (vR e :: st) s P) : Rn X d k pc L (vR a :: st) s P := by
  obtain rfl := f.at (c := 3) fun _ => rfl
  refine Rn_B f rfl rfl rfl (m_getf ho hl ht h9 hj rfl (Nat.le_of_ble_eq_true hk9) ?_) kk
  rw [m_mkv_ref (Nat.le_of_ble_eq_true hk) rfl, he]
theorem m_putf {v : Value} (ho : m_o k = o) (hl : m_fl.lookup (o, ix) = some (t, j, w)) (ht : ty a = t) (h9 : t < 99) (hj : (j : Int) = J) (hk : kd a J = c) (hc : c < 999) (hfin : ((m_cls t).2.1 j).2.2.2 = false) (h5 : narrow (m_fty t j) v = v) (h6 : fits (m_fty t j) v = true) (hv : m_mkv (m_upd s a J e) a.toNat J.toNat c = v) :
    m_sB X.1 k (.putfield ix) pc L (v :: vR a :: st) (m_mk X.2 s) = some (pc + 3, L, st, m_mk X.2 (m_upd s a J e)) := by
  subst ho hj
  obtain ⟨e0, g1, g2, g3, g4, g5⟩ := m_mk_at (s := s) ht h9
  have hj2 : e0.2[(j : Int).toNat]? = some c := by
    unfold kd at hk
    rw [g1] at hk
    simp only [Option.bind_some] at hk
    cases hj : e0.2[(j : Int).toNat]? with
    | none => rw [hj] at hk; simp at hk; omega
    | some z => rw [hj] at hk; simp at hk; rw [hk]
  unfold m_sB m_va vR
  dsimp only
  rw [hl]
  dsimp only
  rw [g4]
  dsimp only
  rw [m_mk_upd (s := s) (v := e) g1 (m_ty_lt ht h9).1 (by omega) hj2 hv, g2]
  exact m_c_t ⟨rfl, by rw [List.length_mapIdx]; exact (List.getElem?_eq_some_iff.mp hj2).1, h5, h6, Or.inl hfin⟩
def pfT (t j : Nat) (T : FieldType) : Bool := decide (m_fty t j = T) && !((m_cls t).2.1 j).2.2.2
theorem pfT_use {T : FieldType} (h : pfT t j T = true) : m_fty t j = T ∧ ((m_cls t).2.1 j).2.2.2 = false := by
  unfold pfT at h
  rw [Bool.and_eq_true, decide_eq_true_eq, Bool.not_eq_true'] at h
  exact h
theorem m_mkv_I : m_mkv (m_upd s a J e) a.toNat J.toNat 0 = vI e ∨ ¬ (0 ≤ a ∧ 0 ≤ J) := by
  by_cases h : 0 ≤ a ∧ 0 ≤ J
  · left
    unfold m_mkv m_upd
    rw [if_pos rfl, if_pos ⟨Int.toNat_of_nonneg h.1, Int.toNat_of_nonneg h.2⟩]
  · exact Or.inr h
theorem m_mkv_J : m_mkv (m_upd s a J e) a.toNat J.toNat 1 = vJ e ∨ ¬ (0 ≤ a ∧ 0 ≤ J) := by
  by_cases h : 0 ≤ a ∧ 0 ≤ J
  · left
    unfold m_mkv m_upd
    rw [if_neg (by decide), if_pos rfl, if_pos ⟨Int.toNat_of_nonneg h.1, Int.toNat_of_nonneg h.2⟩]
  · exact Or.inr h
theorem r_putI (f : F k pc (.putfield ix) q) (ho : m_o k = o) (hl : m_fl.lookup (o, ix) = some (t, j, w)) (ht : ty a = t) (h9 : t < 99) (hj : (j : Int) = J) (hk : kd a J = 0) (hp : pfT t j .int = true) (kk : Rn X d k q L st (m_upd s a J e) P) : Rn X d k pc L (vI e :: vR a :: st) s P := by
  obtain rfl := f.at (c := 3) fun _ => rfl
  obtain ⟨p1, p2⟩ := pfT_use hp
  refine Rn_B f rfl rfl rfl (m_putf ho hl ht h9 hj hk (by omega) p2 (by rw [p1]; rfl) (by rw [p1]; rfl) ?_) kk
  exact (m_mkv_I (s := s)).resolve_right (fun z => z ⟨(m_ty_lt ht h9).1, by omega⟩)
theorem r_putZ (f : F k pc (.putfield ix) q) (ho : m_o k = o) (hl : m_fl.lookup (o, ix) = some (t, j, w)) (ht : ty a = t) (h9 : t < 99) (hj : (j : Int) = J) (hk : kd a J = 0) (hp : pfT t j .boolean = true) (hz : e = 0 ∨ e = 1) (kk : Rn X d k q L st (m_upd s a J e) P) : Rn X d k pc L (vI e :: vR a :: st) s P := by
  obtain rfl := f.at (c := 3) fun _ => rfl
  obtain ⟨p1, p2⟩ := pfT_use hp
  refine Rn_B f rfl rfl rfl (m_putf ho hl ht h9 hj hk (by omega) p2 (by rw [p1]; rcases hz with rfl | rfl <;> rfl) (by rw [p1]; rcases hz with rfl | rfl <;> rfl) ?_) kk
  exact (m_mkv_I (s := s)).resolve_right (fun z => z ⟨(m_ty_lt ht h9).1, by omega⟩)
theorem r_putJ (f : F k pc (.putfield ix) q) (ho : m_o k = o) (hl : m_fl.lookup (o, ix) = some (t, j, w)) (ht : ty a = t) (h9 : t < 99) (hj : (j : Int) = J) (hk : kd a J = 1) (hp : pfT t j .long = true) (kk : Rn X d k q L st (m_upd s a J e) P) : Rn X d k pc L (vJ e :: vR a :: st) s P := by
  obtain rfl := f.at (c := 3) fun _ => rfl
  obtain ⟨p1, p2⟩ := pfT_use hp
  refine Rn_B f rfl rfl rfl (m_putf ho hl ht h9 hj hk (by omega) p2 (by rw [p1]; rfl) (by rw [p1]; rfl) ?_) kk
  exact (m_mkv_J (s := s)).resolve_right (fun z => z ⟨(m_ty_lt ht h9).1, by omega⟩)
theorem r_gets (f : F k pc (.getstatic ix) q) (ho : m_o k = o) (hl : m_gl.lookup (o, ix) = some c) (he : (c : Int) = e) (kk : Rn X d k q L (vR e :: st) s P) : Rn X d k pc L st s P := by
  obtain rfl := f.at (c := 3) fun _ => rfl
  subst ho he
  refine Rn_B f rfl rfl rfl ?_ kk
  unfold m_sB
  dsimp only
  rw [hl]
  rfl
-- arrays
theorem m_arr (ht : ty a = t) (h9 : t < 99) (h0 : 0 ≤ i) (h1 : i < ln a) : ∃ e, m_sh[a.toNat]? = some e ∧ e.1 = t ∧ ∃ vs, (m_mk X.2 s)[a.toNat]? = some (t, vs) ∧ (vs.length : Int) = ln a ∧ ∃ c, e.2[i.toNat]? = some c ∧ vs[i.toNat]? = some (m_mkv s a.toNat i.toNat c) ∧ kd a i = c ∧ c ∈ e.2 ∧ ((a.toNat : Nat) : Int) = a ∧ ((i.toNat : Nat) : Int) = i ∧ vs = e.2.mapIdx (fun j k => m_mkv s a.toNat j k) ∧ ln a ≤ 1000 := by
  obtain ⟨e, g1, g2, g3, g4, g5⟩ := m_mk_at (s := s) ht h9
  have hlt : i.toNat < e.2.length := by omega
  have hmem := List.mem_of_getElem? g1
  refine ⟨e, g1, g2, _, g4, by rw [List.length_mapIdx, g3], e.2[i.toNat], List.getElem?_eq_getElem hlt, by rw [List.getElem?_mapIdx, List.getElem?_eq_getElem hlt]; rfl, ?_, List.getElem_mem hlt, g5, Int.toNat_of_nonneg h0, rfl, ?_⟩
  · unfold kd
    rw [g1]
    simp only [Option.bind_some]
    rw [List.getElem?_eq_getElem hlt]
    rfl
  · have := (m_sh_ints e hmem).2.2.2
    omega
theorem m_mkv_0 {u v : Nat} : m_mkv s u v 0 = vI (s (u : Int) (v : Int)) := rfl
theorem m_mkv_1 {u v : Nat} : m_mkv s u v 1 = vJ (s (u : Int) (v : Int)) := rfl
theorem m_rd_ok {f : Value → Option m_S} {vs : List Value} {v : Value} (h : (m_mk X.2 s)[a.toNat]? = some (t, vs)) (hl : (vs.length : Int) = ln a) (h0 : 0 ≤ i) (h1 : i < ln a) (h2 : ln a ≤ 1000) (hv : vs[i.toNat]? = some v) : m_rd (m_mk X.2 s) t a.toNat (Int32.ofInt i) f = f v := by
  obtain ⟨g1, g2⟩ := oI_ix h0 h1 (by omega)
  unfold m_rd
  rw [h]
  dsimp only
  rw [m_c_t ⟨rfl, by rw [show vs.length = (ln a).toNat by omega]; exact g1⟩, g2, hv]
theorem ty_big (ht : ty a = t) (h9 : t < 99) : ¬ 1000 ≤ a.toNat := by
  obtain ⟨h0, e, he, -⟩ := m_ty_lt ht h9
  have h1 := (List.getElem?_eq_some_iff.mp he).1
  have h2 : m_sh.length ≤ 1000 := Nat.le_of_ble_eq_true rfl
  omega
theorem r_iald (f : F k pc .iaload q) (ht : ty a = 20) (h0 : 0 ≤ i) (h1 : i < ln a) (he : s a i = e) (kk : Rn X d k q L (vI e :: st) s P) : Rn X d k pc L (vI i :: vR a :: st) s P := by
  obtain rfl := f.at (c := 1) fun _ => rfl
  obtain ⟨e0, g1, g2, vs, g3, g4, c, g5, g6, g7, g8, g9, g10, -, g12⟩ := m_arr (s := s) ht (by omega) h0 h1
  obtain rfl := (m_sh_ints e0 (List.mem_of_getElem? g1)).1 (Or.inl g2) c g8
  refine Rn_B f rfl rfl rfl ?_ kk
  refine (w_iald (ty_big ht (by omega))).trans ((m_rd_ok g3 g4 h0 h1 g12 g6).trans ?_)
  rw [m_mkv_0, g9, g10, he]
  rfl
theorem r_lald (f : F k pc .laload q) (ht : ty a = 21) (h0 : 0 ≤ i) (h1 : i < ln a) (he : s a i = e) (kk : Rn X d k q L (vJ e :: st) s P) : Rn X d k pc L (vI i :: vR a :: st) s P := by
  obtain rfl := f.at (c := 1) fun _ => rfl
  obtain ⟨e0, g1, g2, vs, g3, g4, c, g5, g6, g7, g8, g9, g10, -, g12⟩ := m_arr (s := s) ht (by omega) h0 h1
  obtain rfl := (m_sh_ints e0 (List.mem_of_getElem? g1)).2.1 g2 c g8
  refine Rn_B f rfl rfl rfl ?_ kk
  refine w_lald.trans ((m_rd_ok g3 g4 h0 h1 g12 g6).trans ?_)
  rw [m_mkv_1, g9, g10, he]
  rfl
theorem r_aald (f : F k pc .aaload q) (ht : ty a = t) (ht2 : t = 23 ∨ t = 24) (h0 : 0 ≤ i) (h1 : i < ln a) (he : rf a i = e) (kk : Rn X d k q L (vR e :: st) s P) : Rn X d k pc L (vI i :: vR a :: st) s P := by
  obtain rfl := f.at (c := 1) fun _ => rfl
  obtain ⟨e0, g1, g2, vs, g3, g4, c, g5, g6, g7, g8, g9, g10, -, g12⟩ := m_arr (s := s) ht (by omega) h0 h1
  have hc := (m_sh_ints e0 (List.mem_of_getElem? g1)).2.2.1 (by omega) c g8
  refine Rn_B f rfl rfl rfl ?_ kk
  refine (w_aald g3 ht2).trans ((m_rd_ok g3 g4 h0 h1 g12 g6).trans ?_)
  rw [m_mkv_ref hc g7, he]
  rfl
theorem m_wr_ok {f : m_H → Option m_S} {vs : List Value} {v : Value} {z : m_H} (h : (m_mk X.2 s)[a.toNat]? = some (t, vs)) (hl : (vs.length : Int) = ln a) (h0 : 0 ≤ i) (h1 : i < ln a) (h2 : ln a ≤ 1000) (hz : (m_mk X.2 s).set a.toNat (t, vs.set i.toNat v) = z) : m_wr (m_mk X.2 s) t a.toNat (Int32.ofInt i) v f = f z := by
  obtain ⟨g1, g2⟩ := oI_ix h0 h1 (by omega)
  unfold m_wr
  rw [h]
  dsimp only
  rw [m_c_t ⟨rfl, by rw [show vs.length = (ln a).toNat by omega]; exact g1⟩, g2, hz]
theorem r_iast (f : F k pc .iastore q) (ht : ty a = 20) (h0 : 0 ≤ i) (h1 : i < ln a) (kk : Rn X d k q L st (m_upd s a i e) P) : Rn X d k pc L (vI e :: vI i :: vR a :: st) s P := by
  obtain rfl := f.at (c := 1) fun _ => rfl
  obtain ⟨e0, g1, g2, vs, g3, g4, c, g5, g6, g7, g8, g9, g10, g11, g12⟩ := m_arr (s := s) ht (by omega) h0 h1
  obtain rfl := (m_sh_ints e0 (List.mem_of_getElem? g1)).1 (Or.inl g2) c g8
  refine Rn_B (s' := m_upd s a i e) f rfl rfl rfl ?_ kk
  refine w_iast.trans (m_wr_ok (v := vI e) g3 g4 h0 h1 g12 ?_)
  rw [m_mk_upd (s := s) (v := e) (w := vI e) g1 (m_ty_lt ht (by omega)).1 h0 g5 ((m_mkv_I (s := s)).resolve_right (fun z => z ⟨(m_ty_lt ht (by omega)).1, h0⟩)), g2, g11]
theorem r_last (f : F k pc .lastore q) (ht : ty a = 21) (h0 : 0 ≤ i) (h1 : i < ln a) (kk : Rn X d k q L st (m_upd s a i e) P) : Rn X d k pc L (vJ e :: vI i :: vR a :: st) s P := by
  obtain rfl := f.at (c := 1) fun _ => rfl
  obtain ⟨e0, g1, g2, vs, g3, g4, c, g5, g6, g7, g8, g9, g10, g11, g12⟩ := m_arr (s := s) ht (by omega) h0 h1
  obtain rfl := (m_sh_ints e0 (List.mem_of_getElem? g1)).2.1 g2 c g8
  refine Rn_B (s' := m_upd s a i e) f rfl rfl rfl ?_ kk
  refine w_last.trans (m_wr_ok (v := vJ e) g3 g4 h0 h1 g12 ?_)
  rw [m_mk_upd (s := s) (v := e) (w := vJ e) g1 (m_ty_lt ht (by omega)).1 h0 g5 ((m_mkv_J (s := s)).resolve_right (fun z => z ⟨(m_ty_lt ht (by omega)).1, h0⟩)), g2, g11]
theorem r_alen (f : F k pc .arraylength q) (ht : ty a = t) (ht2 : 20 ≤ t ∧ t ≤ 24) (he : ln a = e) (kk : Rn X d k q L (vI e :: st) s P) : Rn X d k pc L (vR a :: st) s P := by
  obtain rfl := f.at (c := 1) fun _ => rfl
  obtain ⟨e0, g1, g2, g3, g4, g5⟩ := m_mk_at (s := s) ht (by omega)
  refine Rn_B f rfl rfl rfl ?_ kk
  refine (w_alen (fun z => ty_big ht (by omega) (by omega)) g4 ht2).trans ?_
  rw [List.length_mapIdx, ← he, g3]
  unfold vI
  rw [Int32.ofInt_eq_ofNat]
-- arrays that nobody writes
def xs_ (X : List Int32) (i : Int) : Int := (X.getD i.toNat 0).toInt
theorem r_alenX (f : F k pc .arraylength q) (kk : Rn X d k q L (vI (X.1.length : Int) :: st) s P) : Rn X d k pc L (vR 1000 :: st) s P := by
  obtain rfl := f.at (c := 1) fun _ => rfl
  refine Rn_B f rfl rfl rfl ?_ kk
  refine w_alenX.trans ?_
  unfold vI
  rw [Int32.ofInt_eq_ofNat]
theorem r_ialdX (f : F k pc .iaload q) (h0 : 0 ≤ i) (h1 : i < (X.1.length : Int)) (hX : X.1.length < 2147483648) (kk : Rn X d k q L (vI (xs_ X.1 i) :: st) s P) : Rn X d k pc L (vI i :: vR 1000 :: st) s P := by
  obtain rfl := f.at (c := 1) fun _ => rfl
  refine Rn_B f rfl rfl rfl ?_ kk
  obtain ⟨g1, g2⟩ := oI_ix h0 h1 (by omega)
  refine (w_ialS (Nat.le_refl 1000) rfl (by rw [show X.1.length = ((X.1.length : Nat) : Int).toNat by omega]; exact g1)).trans ?_
  rw [g2]
  unfold xs_
  rw [vI_toInt]
theorem r_ialdS {l : List Int32} (f : F k pc .iaload q) (hl : m_ex [] a.toNat = some l) (ha : 1000 < a) (h0 : 0 ≤ i) (h1 : i < (l.length : Int)) (hl2 : l.length < 1000) (he : (l.getD i.toNat 0).toInt = e) (kk : Rn X d k q L (vI e :: st) s P) : Rn X d k pc L (vI i :: vR a :: st) s P := by
  obtain rfl := f.at (c := 1) fun _ => rfl
  refine Rn_B f rfl rfl rfl ?_ kk
  obtain ⟨g1, g2⟩ := oI_ix h0 h1 (by omega)
  have hex : m_ex X.1 a.toNat = some l := by
    unfold m_ex at hl ⊢
    rw [if_neg (by omega)] at hl ⊢
    exact hl
  refine (w_ialS (by omega) hex (by rw [show l.length = ((l.length : Nat) : Int).toNat by omega]; exact g1)).trans ?_
  rw [g2, ← he, vI_toInt]
-- natives
theorem m_natA {i : Instr} {pc' : Nat} {st' : List Value} {s' : m_St} (f : F k pc i q) (h1 : m_ret k i st = none) (h2 : m_inv k i st (m_mk X.2 s) = none) (h0 : m_sA k i pc L st (m_mk X.2 s) = none) (h0b : m_sB X.1 k i pc L st (m_mk X.2 s) = none) (h3 : m_sC k i pc L st (m_mk X.2 s) = some (pc', L', st', m_mk X.2 s')) (kk : Rn X d k pc' L' st' s' P) : Rn X d k pc L st s P :=
  Rn_S f h1 h2 (by unfold m_step; rw [h0]; dsimp only; rw [h0b]; dsimp only; exact h3) kk
theorem r_mmax (f : F k pc (.invokestatic ix) q) (ho : m_o k = o) (hn : m_il.lookup (o, ix) = none) (hl : m_mm.lookup (o, ix) = some (0, w)) (hr : Nat.ble (m_sum st) 8 = true) (ha : inR a) (hb : inR b) (kk : Rn X d k q L (vI (max a b) :: st) s P) : Rn X d k pc L (vI b :: vI a :: st) s P := by
  have hq := f.at (c := 3) fun _ => rfl
  subst hq ho
  refine m_natA f rfl (by unfold m_inv; dsimp only; rw [hn]) rfl rfl ?_ kk
  refine (w_mmax hl (Nat.le_of_ble_eq_true hr)).trans ?_
  unfold vI
  by_cases h : a < b
  · rw [if_pos ((oI_lt ha hb).mpr h), Int.max_eq_right (by omega)]
  · rw [if_neg (fun z => h ((oI_lt ha hb).mp z)), Int.max_eq_left (by omega)]
theorem r_mmin (f : F k pc (.invokestatic ix) q) (ho : m_o k = o) (hn : m_il.lookup (o, ix) = none) (hl : m_mm.lookup (o, ix) = some (1, w)) (hr : Nat.ble (m_sum st) 8 = true) (ha : inR a) (hb : inR b) (kk : Rn X d k q L (vI (min a b) :: st) s P) : Rn X d k pc L (vI b :: vI a :: st) s P := by
  have hq := f.at (c := 3) fun _ => rfl
  subst hq ho
  refine m_natA f rfl (by unfold m_inv; dsimp only; rw [hn]) rfl rfl ?_ kk
  refine (w_mmin hl (Nat.le_of_ble_eq_true hr)).trans ?_
  unfold vI
  by_cases h : b < a
  · rw [if_pos ((oI_lt hb ha).mpr h), Int.min_eq_right (by omega)]
  · rw [if_neg (fun z => h ((oI_lt hb ha).mp z)), Int.min_eq_left (by omega)]
def m_cpy (s : m_St) (a sp b dp n : Int) : m_St := fun c j => if c = b ∧ dp ≤ j ∧ j < dp + n then s a (sp + (j - dp)) else s c j
end RUL
-- ----- guests: a cell of three places, its weights behind it -----
theorem gw {g : Int} (h : ty g = 0) : 0 ≤ g ∧ kd g 0 = (g.toNat + 1) + 2 ∧ kd g 1 = 0 ∧ kd g 2 = 0 ∧ ty (g + 1) = 20 ∧ ln (g + 1) = 4 ∧ rf g 0 = g + 1 ∧ g < 77 := by
  obtain ⟨h0, e, he, -⟩ := m_ty_lt h (by omega)
  have hlt := (List.getElem?_eq_some_iff.mp he).1
  have hl : m_sh.length = 77 := rfl
  have key : (List.range 77).all (fun n => decide (ty (n : Int) = 0) == false || (decide (kd (n : Int) 0 = (n + 1) + 2) && decide (kd (n : Int) 1 = 0) && decide (kd (n : Int) 2 = 0) && decide (ty ((n : Int) + 1) = 20) && decide (ln ((n : Int) + 1) = 4))) = true := by decide +kernel
  obtain ⟨n, rfl⟩ : ∃ n : Nat, g = n := ⟨g.toNat, (Int.toNat_of_nonneg h0).symm⟩
  have h1 := List.all_eq_true.mp key n (List.mem_range.mpr (by omega))
  rw [h] at h1
  simp only [Bool.and_eq_true, Bool.or_eq_true, decide_eq_true_eq] at h1
  obtain ⟨⟨⟨⟨g1, g2⟩, g3⟩, g4⟩, g5⟩ := h1.resolve_left (by decide)
  refine ⟨h0, g1, g2, g3, g4, g5, ?_, by omega⟩
  unfold rf
  rw [g1]
  omega
-- ----- the law's own arrays -----
section RULX
variable {X : m_X} {d k pc q : Nat} {L L' : m_L} {st : List Value} {s : m_St} {P : Option Value → m_St → Prop} {a i e : Int} {c len : Nat}
theorem shx_at {G : Nat} {e : Nat × List Nat} (hc : m_shx[c]? = some e) (hG : c < G) : (m_shG G)[77 + c]? = some e := by
  unfold m_shG
  rw [List.getElem?_append_right (by show 77 ≤ 77 + c; omega), show 77 + c - m_sh.length = c by show 77 + c - 77 = c; omega, List.getElem?_take, if_pos hG, hc]
theorem m_mk_x {G : Nat} (hc : m_shx[c]? = some (20, List.replicate len 0)) (hG : c < G) : (m_mk G s)[77 + c]? = some (20, (List.replicate len 0).mapIdx fun j k => m_mkv s (77 + c) j k) := by
  unfold m_mk
  rw [List.getElem?_mapIdx, shx_at hc hG]
  rfl
theorem r_ialdU (f : F k pc .iaload q) (ha : a = ((77 + c : Nat) : Int)) (hc : m_shx[c]? = some (20, List.replicate len 0)) (hG : c < X.2) (hl : len < 1000) (hc2 : c < 900) (h0 : 0 ≤ i) (h1 : i < (len : Int)) (he : s a i = e) (kk : Rn X d k q L (vI e :: st) s P) : Rn X d k pc L (vI i :: vR a :: st) s P := by
  subst ha
  obtain rfl := f.at (c := 1) fun _ => rfl
  obtain ⟨g1, g2⟩ := oI_ix h0 h1 (by omega)
  refine Rn_B f rfl rfl rfl ?_ kk
  refine (w_iald (a := 77 + c) (by omega)).trans ?_
  unfold m_rd
  rw [m_mk_x hc hG]
  dsimp only
  rw [List.length_mapIdx, List.length_replicate, m_c_t ⟨rfl, by rw [show len = ((len : Nat) : Int).toNat by omega]; exact g1⟩, g2, List.getElem?_mapIdx, List.getElem?_replicate, if_pos (by omega)]
  show m_vi (vI (s ((77 + c : Nat) : Int) ((i.toNat : Nat) : Int))) _ = _
  rw [show ((i.toNat : Nat) : Int) = i by omega, he]
  rfl
theorem r_iastU (f : F k pc .iastore q) (ha : a = ((77 + c : Nat) : Int)) (hc : m_shx[c]? = some (20, List.replicate len 0)) (hG : c < X.2) (hl : len < 1000) (hc2 : c < 900) (h0 : 0 ≤ i) (h1 : i < (len : Int)) (kk : Rn X d k q L st (m_upd s a i e) P) : Rn X d k pc L (vI e :: vI i :: vR a :: st) s P := by
  subst ha
  obtain rfl := f.at (c := 1) fun _ => rfl
  obtain ⟨g1, g2⟩ := oI_ix h0 h1 (by omega)
  refine Rn_B (s' := m_upd s ((77 + c : Nat) : Int) i e) f rfl rfl rfl ?_ kk
  refine (w_iast (a := 77 + c)).trans ?_
  unfold m_wr
  rw [m_mk_x hc hG]
  dsimp only
  rw [List.length_mapIdx, List.length_replicate, m_c_t ⟨rfl, by rw [show len = ((len : Nat) : Int).toNat by omega]; exact g1⟩, g2]
  have hu := m_mk_updG (s := s) (a := ((77 + c : Nat) : Int)) (j := i) (v := e) (w := vI e) (k := 0) (shx_at hc hG) (by omega) h0 (by rw [List.getElem?_replicate, if_pos (by omega)]) (by
    unfold m_mkv m_upd
    rw [if_pos rfl, if_pos ⟨by omega, by omega⟩])
  rw [hu]
  rfl
/-- a cell more of the law's own -/
theorem m_mk_more {G : Nat} (hc : m_shx[G]? = some (20, List.replicate len 0)) (hz : ∀ j, s ((77 + G : Nat) : Int) j = 0) : m_mk G s ++ [(20, List.replicate len (.int 0))] = m_mk (G + 1) s := by
  have hG : G < m_shx.length := (List.getElem?_eq_some_iff.mp hc).1
  have hlen : (m_shG G).length = 77 + G := by
    unfold m_shG
    rw [List.length_append, List.length_take]
    show 77 + min G m_shx.length = 77 + G
    omega
  have hs : m_shG (G + 1) = m_shG G ++ [(20, List.replicate len 0)] := by
    unfold m_shG
    rw [List.take_add_one, hc, List.append_assoc]
    rfl
  unfold m_mk
  rw [hs, List.mapIdx_append, hlen]
  congr 1
  show [_] = [_]
  congr 2
  apply List.ext_getElem?
  intro j
  rw [List.getElem?_mapIdx, List.getElem?_replicate, List.getElem?_replicate]
  split
  · show some (Value.int 0) = some (m_mkv s (0 + (77 + G)) j 0)
    unfold m_mkv
    rw [if_pos rfl, show ((0 + (77 + G) : Nat) : Int) = ((77 + G : Nat) : Int) by omega, hz]
    rfl
  · rfl
theorem r_newU (f : F m_law pc (.newarray .int) q) (hc : m_shx[X.2]? = some (20, List.replicate len 0)) (hl : len < 1000) (hz : ∀ j, s ((77 + X.2 : Nat) : Int) j = 0)
    (hL : m_okL (77 + X.2) (77 + X.2 + 1) L = true) (hS : m_okS (77 + X.2) (77 + X.2 + 1) st = true) (hH : m_okH (77 + X.2) (77 + X.2 + 1) (m_mk X.2 s) = true)
    (kk : Rn (X.1, X.2 + 1) d m_law q L (vR ((77 + X.2 : Nat) : Int) :: st) s P) : Rn X d m_law pc L (vI (len : Int) :: st) s P := by
  obtain ⟨n, v, s2, ⟨G, hr, hG⟩, hP⟩ := kk
  have hq := f.at (c := 2) fun _ => rfl
  obtain ⟨l, f1, f2, f3⟩ := f
  subst hq
  refine ⟨n + 1, v, s2, ⟨G, ?_, fun z => absurd z (Nat.lt_irrefl _)⟩, hP⟩
  have hG4 : X.2 < m_shx.length := (List.getElem?_eq_some_iff.mp hc).1
  have h4 : m_shx.length = 4 := rfl
  have hlen : (m_mk X.2 s).length = 77 + X.2 := by
    rw [m_mk_len, List.length_take]
    show 77 + min X.2 m_shx.length = _
    omega
  have hn : (Int32.ofInt (len : Int)).toNatClampNeg = len := by
    rw [Int32.toNatClampNeg_ofInt_of_le (by omega) (by omega)]
    omega
  have hn0 : ¬ Int32.ofInt (len : Int) < 0 := by
    rw [← oI_0, oI_lt ⟨by omega, by omega⟩ inR_0]
    omega
  have hs : m_step X.1 m_law (.newarray .int) pc L (vI (len : Int) :: st) (m_mk X.2 s) = some (pc + 2, L, .ref (77 + X.2) :: st, m_mk (X.2 + 1) s) := by
    unfold m_step
    rw [show m_sA m_law (.newarray .int) pc L (vI (len : Int) :: st) (m_mk X.2 s) = none from rfl]
    dsimp only
    rw [show m_sB X.1 m_law (.newarray .int) pc L (vI (len : Int) :: st) (m_mk X.2 s) = none from rfl]
    dsimp only
    show m_c (¬ Int32.ofInt (len : Int) < 0 ∧ (Int32.ofInt (len : Int)).toNatClampNeg ≤ 1000000) (m_al1 L st (m_mk X.2 s) (20, List.replicate (Int32.ofInt (len : Int)).toNatClampNeg (.int 0)) (pc + 2)) = _
    rw [m_c_t ⟨hn0, by rw [hn]; omega⟩, hn]
    unfold m_al1
    rw [hlen, if_pos (by rw [hL, hS, hH, decide_eq_true (by omega : 77 + X.2 + 1 ≤ 1000)]; rfl), m_mk_more hc hz]
  rw [m_run.eq_def]
  dsimp only
  rw [f1]
  dsimp only
  rw [if_pos f2, show m_ret m_law (.newarray .int) (vI (len : Int) :: st) = none from rfl]
  dsimp only
  rw [show m_inv m_law (.newarray .int) (vI (len : Int) :: st) (m_mk X.2 s) = none from rfl]
  dsimp only
  rw [hs]
  exact hr
theorem r_ldcI2 {o ix : Nat} {e0 : Int32 × Nat} (f : F k pc (.ldc ix) q) (ho : m_o k = o) (hl : m_k32.lookup (o, ix) = some e0) (hz : e0.1 = Int32.ofInt e) (kk : Rn X d k q L (vI e :: st) s P) : Rn X d k pc L st s P := by
  obtain rfl := f.at (c := 2) fun _ => rfl
  subst ho
  refine Rn_A f rfl rfl ?_ kk
  unfold m_sA
  dsimp only
  rw [hl]
  dsimp only
  rw [hz]
  rfl
end RULX

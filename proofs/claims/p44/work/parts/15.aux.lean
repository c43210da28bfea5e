/-! small helpers of the walks -/
theorem Cl_of {X : m_X} {d k n : Nat} {A : List Value} {L : m_L} {s : m_St} {P : Option Value → m_St → Prop} (hn : m_n k = n) (hL : m_lay A ++ List.replicate (n - (m_lay A).length) none = L) (h : Rn X d k 0 L [] s P) : Cl X d k A s P := by
  unfold Cl m_ent
  rw [hn, hL]
  exact h
theorem upd_eq {s : m_St} {c j v : Int} : m_upd s c j v c j = v := if_pos ⟨rfl, rfl⟩
theorem upd_nc {s : m_St} {c j v c' j' : Int} (h : ¬ c' = c) : m_upd s c j v c' j' = s c' j' := if_neg fun z => h z.1
theorem upd_nj {s : m_St} {c j v c' j' : Int} (h : ¬ j' = j) : m_upd s c j v c' j' = s c' j' := if_neg fun z => h z.2
theorem lt_ln {a i n : Int} (h : ln a = n) (hi : i < n) : i < ln a := h ▸ hi
theorem le_ln {a i n : Int} (h : ln a = n) (hi : i ≤ n) : i ≤ ln a := h ▸ hi
theorem kd2 {a J : Int} {c : Nat} (h : kd a J = c) (hc : 2 ≤ c) : Nat.ble 2 (kd a J) = true := by rw [h]; exact Nat.ble_eq.mpr hc
theorem kd9 {a J : Int} {c : Nat} (h : kd a J = c) (hc : c < 999) : Nat.blt (kd a J) 999 = true := by rw [h]; exact Nat.ble_eq.mpr hc
theorem gw2 {g : Int} (h : ty g = 0) : Nat.ble 2 (kd g 0) = true ∧ Nat.blt (kd g 0) 999 = true := by
  obtain ⟨h0, h1, -, -, -, -, -, h7⟩ := gw h
  exact ⟨kd2 h1 (by omega), kd9 h1 (by omega)⟩
theorem lay_le {y N : Nat} {A : List Value} (hN : m_n y = N) (h : Nat.ble (m_lay A).length N = true) : Nat.ble (m_lay A).length (m_n y) = true := by rw [hN]; exact h
theorem r_tswI {X : m_X} {d k pc q t i : Nat} {L : m_L} {st : List Value} {s : m_St} {P : Option Value → m_St → Prop} {a z dd lo hi : Int} {offs : Array Int} (f : F k pc (.tableswitch dd lo hi offs) q) (ha : inR a) (hz : offs[i]? = some z) (ht : (pc : Int) + z = (t : Int)) (he : a = lo + (i : Int)) (hle : lo + (i : Int) ≤ hi) (kk : Rn X d k t L st s P) : Rn X d k pc L (vI a :: st) s P := by
  refine Rn_A (pc' := t) f rfl rfl ?_ kk
  show (if (Int32.ofInt a).toInt < lo ∨ hi < (Int32.ofInt a).toInt then _ else match offs[((Int32.ofInt a).toInt - lo).toNat]? with
      | some o => m_go pc o L st (m_mk X.2 s)
      | none => none) = _
  rw [oI_toInt ha, if_neg (by omega), show (a - lo).toNat = i by omega, hz]
  unfold m_go
  dsimp only
  rw [ht]
  exact m_c_t (by omega)
theorem r_tswD {X : m_X} {d k pc q t : Nat} {L : m_L} {st : List Value} {s : m_St} {P : Option Value → m_St → Prop} {a dd lo hi : Int} {offs : Array Int} (f : F k pc (.tableswitch dd lo hi offs) q) (ha : inR a) (ht : (pc : Int) + dd = (t : Int)) (hc : a < lo ∨ hi < a) (kk : Rn X d k t L st s P) : Rn X d k pc L (vI a :: st) s P := by
  refine Rn_A (pc' := t) f rfl rfl ?_ kk
  show (if (Int32.ofInt a).toInt < lo ∨ hi < (Int32.ofInt a).toInt then m_go pc dd L st (m_mk X.2 s) else _) = _
  rw [oI_toInt ha, if_pos hc]
  unfold m_go
  rw [ht]
  exact m_c_t (by omega)
theorem r_lsw {X : m_X} {d k pc q t : Nat} {L : m_L} {st : List Value} {s : m_St} {P : Option Value → m_St → Prop} {a z dd : Int} {ps : Array (Int × Int)} (f : F k pc (.lookupswitch dd ps) q) (ha : inR a) (hs : (ps.toList.zip (ps.toList.drop 1)).all (fun (a, next) => a.1 < next.1) = true) (ho : Op.lookupswitch.offset ps.toList dd a = z) (ht : (pc : Int) + z = (t : Int)) (kk : Rn X d k t L st s P) : Rn X d k pc L (vI a :: st) s P := by
  refine Rn_A (pc' := t) f rfl rfl ?_ kk
  show m_c _ (m_go pc (Op.lookupswitch.offset ps.toList dd (Int32.ofInt a).toInt) L st (m_mk X.2 s)) = _
  rw [oI_toInt ha, ho, m_c_t hs]
  unfold m_go
  rw [ht]
  exact m_c_t (by omega)
def sx_1001 (i : Int) : Int := (([5, 5, 5, 5, 7, 3] : List Int32).getD i.toNat 0).toInt
def sx_1002 (i : Int) : Int := (([103, 98, 97, 109, 99, 104] : List Int32).getD i.toNat 0).toInt
def sx_1003 (i : Int) : Int := (([0, 1, 2, 3, 1, 2] : List Int32).getD i.toNat 0).toInt
theorem inR_sx_1001 (i : Int) : inR (sx_1001 i) := inR_toInt _
theorem inR_sx_1002 (i : Int) : inR (sx_1002 i) := inR_toInt _
theorem inR_sx_1003 (i : Int) : inR (sx_1003 i) := inR_toInt _
def ilq (o ix kd y n : Nat) : Bool := match m_il.lookup (o, ix) with
  | some (a, b, c, _) => a == kd && (b == y && c == n)
  | none => false
theorem ilq_use {o ix kd y n : Nat} (h : ilq o ix kd y n = true) : ∃ z, m_il.lookup (o, ix) = some (kd, y, n, z) := by
  unfold ilq at h
  split at h
  · next a b c z e =>
    simp only [Bool.and_eq_true, beq_iff_eq] at h
    obtain ⟨rfl, rfl, rfl⟩ := h
    exact ⟨z, e⟩
  · cases h
theorem r_virt2 {X : m_X} {d k pc q t o ix y n : Nat} {L : m_L} {st r : List Value} {s : m_St} {P : Option Value → m_St → Prop} {b : Int} {A : List Value} (f : F k pc (.invokevirtual ix) q) (ho : m_o k = o) (hl : ilq o ix 0 y n = true) (hn : Nat.ble n st.length = true) (hst : st.drop n = vR b :: r) (hA : (st.take n).reverse = A) (hr : Nat.ble (m_sum r) 8 = true) (hb : ty b = t) (hc : (m_cls t).1 = (m_y y).cls ∧ t < m_cl.length) (hlay : Nat.ble (m_lay (vR b :: A)).length (m_n y) = true)
    (kk : Cl X d y (vR b :: A) s (fun v s' => Rn X (d + 1) k q L (m_push v r) s' P)) : Rn X (d + 1) k pc L st s P := by
  obtain ⟨z, hz⟩ := ilq_use hl
  exact r_virt f ho hz hn hst hA hr hb hc hlay kk
theorem r_stat2 {X : m_X} {d k pc q o ix y n : Nat} {L : m_L} {st r : List Value} {s : m_St} {P : Option Value → m_St → Prop} {A : List Value} {kd : Nat} (f : F k pc (.invokestatic ix) q) (ho : m_o k = o) (hl : ilq o ix kd y n = true) (hkd : kd = 1 ∨ kd = 3) (hn : Nat.ble n st.length = true) (hst : st.drop n = r) (hA : (st.take n).reverse = A) (hr : Nat.ble (m_sum r) 8 = true) (hlay : Nat.ble (m_lay A).length (m_n y) = true)
    (kk : Cl X d y A s (fun v s' => Rn X (d + 1) k q L (m_push v r) s' P)) : Rn X (d + 1) k pc L st s P := by
  obtain ⟨z, hz⟩ := ilq_use hl
  exact r_stat f ho hz hkd hn hst hA hr hlay kk

/-! the fewest sayings; ways; duels; chances: from without -/
def fews (F : Nat → Option (List Int)) : Nat → Nat → Option (Nat × List Int)
  | 0, _ => none
  | k + 1, n => match F n with
    | some p => some (n, p)
    | none => fews F k (n + 1)
def fwF (s : m_St) (c : Int) : Nat → Option (List Int) := fun m => rF (s 67 1) (s 69 1) (s 66 2) c m (wOf s)
def qFw (s : m_St) (c m v : Int) (s' : m_St) : Prop := (∀ a j, ¬ a = 71 → ¬ (a = 66 ∧ j = 4) → s' a j = s a j) ∧ s' 66 4 = c ∧ (match fews (fwF s c) (m + 1).toNat 0 with
  | none => v = -9
  | some np => v = np.1 ∧ ∀ i : Nat, i < np.2.length → s' 71 i = np.2.getD i 0)
def tlS (s : m_St) (c n : Int) : m_St := taS (m_upd (m_upd (m_upd s 66 4 c) 66 5 0) 66 6 15) n 1
/-- before the branching -/
def hs0 (s : m_St) (r p : Int) : m_St := fil (m_upd (cpf (m_upd s 66 8 (s 2 r)) 72 (s 2 r) (s (4 + r))) 66 9 p) 73 16 0
def cho (s : m_St) (c : Int) : Int := sm (fun a => if iAnd (iShr a c) 1 = 0 then 0 else s 73 a) 16
section TKF
variable {X : List Int32} {d : Nat} {s : m_St} {P : Option Value → m_St → Prop} {n c m r p : Int}
theorem wOf_cong {s t : m_St} (e : ∀ c j, 67 ≤ c → c ≤ 70 → t c j = s c j) : wOf t = wOf s := by
  funext j
  unfold wOf
  rw [e _ _ (by omega) (by omega), e _ _ (by omega) (by omega)]
theorem sp_fewest (h : tkok s) (rc : inR c) (m0 : -1 ≤ m) (m5 : m ≤ 5) (k : ∀ v s', qFw s c m v s' → P (some (vI v)) s') : Cl X (d + 13) 111 [vR 66, vI c, vI m] s P := by
  refine t_X4_fewest ?_
  have key : ∀ (j : Nat) (n : Nat), (n : Int) + j = m + 1 → ∀ s1 : m_St, (∀ a i, ¬ a = 71 → ¬ (a = 66 ∧ i = 4) → s1 a i = s a i) → s1 66 4 = c → (∀ (v : Int) (s' : m_St), (∀ a i, ¬ a = 71 → ¬ (a = 66 ∧ i = 4) → s' a i = s a i) → s' 66 4 = c → (match fews (fwF s c) j n with
      | none => v = -9
      | some np => v = np.1 ∧ ∀ i : Nat, i < np.2.length → s' 71 i = np.2.getD i 0) → P (some (vI v)) s') → Rn X (d + 13) 111 7 [some (vR 66), some (vI c), some (vI m), some (vI n)] [] s1 P := by
    intro j
    induction j with
    | zero =>
      intro n hn s1 e1 e2 kk
      apply t_X4_fewest_7 (show (0 : Int) ≤ n by omega) <;> intros
      all_goals first | omega | skip
      exact kk (-9) s1 e1 e2 rfl
    | succ j ih =>
      intro n hn s1 e1 e2 kk
      have hag : ∀ c j, 67 ≤ c → c ≤ 70 → s1 c j = s c j := fun c j c0 c1 => e1 c j (by omega) (by omega)
      have ef : rF (s1 67 1) (s1 69 1) (s1 66 2) (s1 66 4) (n : Int).toNat (wOf s1) = fwF s c n := by
        unfold fwF
        rw [wOf_cong hag, hag 67 1 (by omega) (by omega), hag 69 1 (by omega) (by omega), e1 66 2 (by omega) (by omega), e2, Int.toNat_natCast]
      unfold fews at kk
      apply t_X4_fewest_7 (show (0 : Int) ≤ n by omega) <;> intros
      all_goals first | omega | exact tkok_cong hag h | skip
      · next hq =>
        obtain ⟨q1, q2⟩ := hq
        revert q2
        split <;> intro q2 <;> omega
      · next v5 s5 hq hv =>
        obtain ⟨q1, q2⟩ := hq
        rw [ef] at q2
        cases hF : fwF s c n with
        | none =>
          rw [hF] at kk
          rw [show ((n : Int) + 1) = ((n + 1 : Nat) : Int) by omega]
          exact ih (n + 1) (by omega) s5 (fun a i ha hb => by rw [q1 a i ha]; exact e1 a i ha hb) (by rw [q1 66 4 (by omega)]; exact e2) kk
        | some p =>
          rw [hF] at q2
          exact absurd (q2.1.symm.trans hv) (by decide)
      · next v5 s5 hq hv =>
        obtain ⟨q1, q2⟩ := hq
        rw [ef] at q2
        cases hF : fwF s c n with
        | none =>
          rw [hF] at q2
          exact absurd q2 hv
        | some p =>
          rw [hF] at q2 kk
          exact kk n s5 (fun a i ha hb => by rw [q1 a i ha]; exact e1 a i ha hb) (by rw [q1 66 4 (by omega)]; exact e2) ⟨rfl, q2.2⟩
  exact key (m + 1).toNat 0 (by omega) _ (fun a i _ hb => upd_o2 (by omega)) upd_eq (fun v s' q1 q2 q3 => k v s' ⟨q1, q2, q3⟩)
theorem sp_talksTo (h : tkok s) (rc : inR c) (n0 : 0 ≤ n) (n5 : n ≤ 5) (k : P (some (vJ (tlS s c n 66 5))) (tlS s c n)) : Cl X (d + 13) 117 [vR 66, vI c, vI n] s P := by
  have hm : min n 5 = n := by omega
  have o : ∀ a i, ¬ a = 66 → (m_upd (m_upd (m_upd s 66 4 c) 66 5 0) 66 6 15) a i = s a i := fun a i ha => by rw [upd_nc ha, upd_nc ha, upd_nc ha]
  have e6 : (m_upd (m_upd (m_upd s 66 4 c) 66 5 0) 66 6 15) 66 6 = 15 := upd_eq
  have e4 : (m_upd (m_upd (m_upd s 66 4 c) 66 5 0) 66 6 15) 66 4 = c := by rw [upd_nj (by omega), upd_nj (by omega), upd_eq]
  apply t_X4_talksTo <;> intros
  all_goals first | omega | (exact tkok_cong (fun a i a0 a1 => o a i (by omega)) h) | skip
  rw [hm]
  exact k
theorem sp_duelled (h : tkok s) (n0 : 0 ≤ n) (n5 : n ≤ 5) (k : P (some (vI (bFs s n 1))) s) : Cl X (d + 13) 133 [vR 66, vI n] s P := by
  have hm : min n 5 = n := by omega
  apply t_X4_duelled <;> intros
  all_goals first | omega | exact h | skip
  rw [hm]
  exact k
theorem sp_hearSome (h0 : 0 ≤ r) (h6 : r < 6) (z0 : 0 ≤ s 2 r) (z6 : s 2 r ≤ 6) (p0 : 0 ≤ p) (p12 : p ≤ 12) (hw : ∀ j, 0 ≤ j → j < s 2 r → inR (s (4 + r) j)) (hok : brok (hs0 s r p)) (k : P none (brS (hs0 s r p))) : Cl X (d + 13) 136 [vR 66, vR 1, vI r, vI p] s P := by
  have hz : ¬ s 2 r = -1 := by omega
  refine t_X4_hearSome h0 h6 hz (by omega) (by omega) (by omega) ?_
  rw [show max 0 (min (s 2 r) 6) = s 2 r by omega]
  have two : Rn X (d + 13) 136 67 [some (vR 66), some (vR 1), some (vI r), some (vI p), some (vI 0)] [] (fil (m_upd (cpf (m_upd s 66 8 (s 2 r)) 72 (s 2 r) (s (4 + r))) 66 9 p) 73 0 0) P := by
    refine up_loop (fun i => Rn X (d + 13) 136 67 [some (vR 66), some (vR 1), some (vI r), some (vI p), some (vI i)] [] (fil (m_upd (cpf (m_upd s 66 8 (s 2 r)) 72 (s 2 r) (s (4 + r))) 66 9 p) 73 i 0) P) 16 (by omega) ?_ ?_
    · intro i i0 i1 hnext
      have e : (fil (m_upd (cpf (m_upd s 66 8 (s 2 r)) 72 (s 2 r) (s (4 + r))) 66 9 p) 73 i 0) 2 r = s 2 r := by
        unfold fil
        rw [if_neg (by omega), upd_nc (by omega), cpf_o (by omega), upd_nc (by omega)]
      refine t_X4_hearSome_67 h0 h6 (by rw [e]; exact hz) i0 (by omega) (by omega) (by omega) (by omega) (fun _ => ?_)
      rw [fil_up i0]
      exact hnext
    · have e : (fil (m_upd (cpf (m_upd s 66 8 (s 2 r)) 72 (s 2 r) (s (4 + r))) 66 9 p) 73 16 0) 2 r = s 2 r := by
        unfold fil
        rw [if_neg (by omega), upd_nc (by omega), cpf_o (by omega), upd_nc (by omega)]
      exact t_X4_hearSome_67 h0 h6 (by rw [e]; exact hz) (by omega) (by omega) (fun _ => hok) (fun _ => k) (by omega) (by omega)
  rw [fil_0] at two
  have one : Rn X (d + 13) 136 21 [some (vR 66), some (vR 1), some (vI r), some (vI p), some (vI 0)] [] (cpf (m_upd s 66 8 (s 2 r)) 72 0 (s (4 + r))) P := by
    have e2 : ∀ i, cpf (m_upd s 66 8 (s 2 r)) 72 i (s (4 + r)) 2 r = s 2 r := fun i => by rw [cpf_o (by omega), upd_nc (by omega)]
    have e8 : ∀ i, cpf (m_upd s 66 8 (s 2 r)) 72 i (s (4 + r)) 66 8 = s 2 r := fun i => by rw [cpf_o (by omega), upd_eq]
    have e4 : ∀ i j, cpf (m_upd s 66 8 (s 2 r)) 72 i (s (4 + r)) (4 + r) j = s (4 + r) j := fun i j => by rw [cpf_o (by omega), upd_nc (by omega)]
    refine up_loop (fun i => Rn X (d + 13) 136 21 [some (vR 66), some (vR 1), some (vI r), some (vI p), some (vI i)] [] (cpf (m_upd s 66 8 (s 2 r)) 72 i (s (4 + r))) P) (s 2 r) z0 ?_ ?_
    · intro i i0 i1 hnext
      have q2 := e2 i
      have q8 := e8 i
      apply t_X4_hearSome_21 h0 h6 (by rw [q2]; exact hz) i0 <;> intros
      all_goals first | omega | skip
      rw [e4, cpf_up i0]
      exact hnext
    · have q2 := e2 (s 2 r)
      have q8 := e8 (s 2 r)
      have hmx : max 0 (min p 12) = p := by omega
      apply t_X4_hearSome_21 h0 h6 (by rw [q2]; exact hz) z0 <;> intros
      all_goals first | omega | skip
      rw [hmx]
      exact two
  rw [cpf_0] at one
  exact one
theorem sp_chancesOf (k : P (some (vJ (cho s c))) s) : Cl X d 138 [vR 66, vI c] s P := by
  refine t_X4_chancesOf ?_
  refine up_loop (fun i => Rn X d 138 5 [some (vR 66), some (vI c), some (vJ (sm (fun a => if iAnd (iShr a c) 1 = 0 then 0 else s 73 a) i.toNat)), none, some (vI i)] [] s P) 16 (by omega) ?_ ?_
  · intro i i0 i1 hnext
    rw [sm_up i0] at hnext
    refine t_X4_chancesOf_5 i0 ⟨by omega, by omega⟩ (by omega) (fun _ q => ?_) (by omega) (fun _ q => ?_)
    · rw [if_pos q, Int.add_zero] at hnext; exact hnext
    · rw [if_neg q] at hnext; exact hnext
  · exact t_X4_chancesOf_5 (by omega) (by decide) (fun _ => k) (by omega) (by omega) (by omega)
theorem sp_allChances (k : P (some (vJ (sm (s 73) 16))) s) : Cl X d 139 [vR 66] s P := by
  refine t_X4_allChances ?_
  refine up_loop (fun i => Rn X d 139 4 [some (vR 66), some (vJ (sm (s 73) i.toNat)), none, some (vI i)] [] s P) 16 (by omega) ?_ ?_
  · intro i i0 i1 hnext
    rw [sm_up i0] at hnext
    exact t_X4_allChances_4 i0 ⟨by omega, by omega⟩ (by omega) (by omega) (fun _ => hnext)
  · exact t_X4_allChances_4 (by omega) (by decide) (fun _ => k) (by omega) (by omega)
end TKF

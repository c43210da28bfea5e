/-! the reference notes a deed -/
def ntf (h : Int → Int) (e a b c : Int) : Int → Int := fun j => if j = 3 then h 3 + 1 else if j = 38 + 4 * h 3 then e else if j = 38 + 4 * h 3 + 1 then a else if j = 38 + 4 * h 3 + 2 then b else if j = 38 + 4 * h 3 + 3 then c else h j
def nts (s : m_St) (e a b c : Int) : m_St := fun x j => if x = 83 then ntf (s 83) e a b c j else s x j
theorem nts_o {s : m_St} {e a b c x j : Int} (h : ¬ x = 83) : nts s e a b c x j = s x j := by unfold nts; rw [if_neg h]
theorem nts_83 {s : m_St} {e a b c j : Int} : nts s e a b c 83 j = ntf (s 83) e a b c j := by unfold nts; rw [if_pos rfl]
theorem ntf_o {h : Int → Int} {e a b c j : Int} (h3 : ¬ j = 3) (hj : ¬ (38 + 4 * h 3 ≤ j ∧ j ≤ 38 + 4 * h 3 + 3)) : ntf h e a b c j = h j := by
  unfold ntf
  rw [if_neg h3, if_neg (by omega), if_neg (by omega), if_neg (by omega), if_neg (by omega)]
section SPDA
variable {X : List Int32} {d : Nat} {s : m_St} {P : Option Value → m_St → Prop} {e a b c : Int}
theorem sp_notes (h0 : 0 ≤ s 83 3) (h4 : s 83 3 < 40) (kk : P none (nts s e a b c)) : Cl X d 200 [vR 77, vI e, vI a, vI b, vI c] s P := by
  apply t_X6_notes <;> intros
  all_goals first | omega | skip
  refine PS kk ?_
  funext x j
  unfold nts ntf m_upd
  by_cases hx : x = 83
  · subst hx
    rw [if_pos rfl]
    by_cases j3 : j = 3
    · subst j3
      rw [if_pos rfl, if_pos ⟨rfl, rfl⟩, if_neg (by omega), if_neg (by omega), if_neg (by omega), if_neg (by omega)]
    · rw [if_neg j3, if_neg (show ¬ ((83 : Int) = 83 ∧ j = 3) from fun z => j3 z.2)]
      by_cases j4 : j = 38 + 4 * s 83 3
      · subst j4
        rw [if_pos rfl, if_neg (by omega), if_neg (by omega), if_neg (by omega), if_pos ⟨rfl, rfl⟩]
      · rw [if_neg j4]
        by_cases j5 : j = 38 + 4 * s 83 3 + 1
        · subst j5
          rw [if_pos rfl, if_neg (by omega), if_neg (by omega), if_pos ⟨rfl, rfl⟩]
        · rw [if_neg j5]
          by_cases j6 : j = 38 + 4 * s 83 3 + 2
          · subst j6
            rw [if_pos rfl, if_neg (by omega), if_pos ⟨rfl, rfl⟩]
          · rw [if_neg j6]
            by_cases j7 : j = 38 + 4 * s 83 3 + 3
            · subst j7
              rw [if_pos rfl, if_pos ⟨rfl, rfl⟩]
            · rw [if_neg j7, if_neg (fun z => j7 z.2), if_neg (fun z => j6 z.2), if_neg (fun z => j5 z.2), if_neg (fun z => j4 z.2)]
  · rw [if_neg hx, if_neg (fun z => hx z.1), if_neg (fun z => hx z.1), if_neg (fun z => hx z.1), if_neg (fun z => hx z.1), if_neg (fun z => hx z.1)]
end SPDA

section RDF
variable {X : m_X} {d : Nat} {s : m_St} {P : Option Value → m_St → Prop} {t : Int}
theorem x0_ok {n : Int} (h : 0 ≤ n) : xok n x0 := by
  have e : ∀ j, ¬ j = -2 → x0 j = 0 := fun j hj => if_neg hj
  have e2 : x0 (-2) = -9 := by unfold x0 setf; rw [if_pos rfl]
  unfold xok
  rw [e2, e (-1) (by omega), e 0 (by omega), e 1 (by omega), e 2 (by omega), e 5 (by omega), e 6 (by omega), e 3 (by omega), e 4 (by omega), e (-3) (by omega), e 7 (by omega)]
  exact ⟨by omega, h, by omega, by omega, by omega, by omega, rfl, rfl, rfl, rfl, rfl, rfl, by decide, by decide, fun i h0 h1 => by omega⟩
theorem opR_x0 (ht : tok (s 11 t) (s (13 + t))) (hg : rgk s) : rsx (opR s t) (s 11 t) (s (13 + t)) x0 := by
  have e : ∀ j, ¬ j = -2 → x0 j = 0 := fun j hj => if_neg hj
  unfold rsx
  rw [e (-1) (by omega), e 0 (by omega), e 1 (by omega), e (-3) (by omega)]
  unfold opR
  refine ⟨?_, ?_, ?_, ?_, ?_, fun j j0 j1 => ?_, fun i h0 h6 => ?_, fun i h0 h1 => by omega⟩
  · rw [upd_nj (by decide), upd_nj (by decide), upd_nj (by decide), upd_nj (by decide), cpf_o (by decide), upd_eq]
  · rw [upd_nj (by decide), upd_nj (by decide), upd_nj (by decide), upd_eq]
  · rw [upd_nj (by decide), upd_nj (by decide), upd_eq]
  · rw [upd_nj (by decide), upd_eq]
  · rw [upd_eq]
  · rw [upd_nc (by decide), upd_nc (by decide), upd_nc (by decide), upd_nc (by decide), cpf_in j0 j1]
  · refine gok_cong (fun x => ?_) (fun x => ?_) (hg i h0 h6)
    · rw [upd_nc (by omega), upd_nc (by omega), upd_nc (by omega), upd_nc (by omega), cpf_o (by omega), upd_nc (by omega)]
    · rw [upd_nc (by omega), upd_nc (by omega), upd_nc (by omega), upd_nc (by omega), cpf_o (by omega), upd_nc (by omega)]
theorem opR_rfr : rfr s (opR s t) := fun c j hc => by
  unfold opR
  rw [upd_nc (by omega), upd_nc (by omega), upd_nc (by omega), upd_nc (by omega), cpf_o (by omega), upd_nc (by omega)]
theorem rfr.trans {a b c : m_St} (h1 : rfr a b) (h2 : rfr b c) : rfr a c := fun x j hx => by rw [h2 x j hx, h1 x j hx]
theorem rfr_upd {q j : Int} {a : m_St} : rfr a (m_upd a 23 j q) := fun c i hc => upd_nc (by omega)
theorem pW_2 {n : Int} {sg x : Int → Int} (h : ¬ fW n sg (x (-1)) = -9) : pW n sg x (-2) = fW n sg (x (-1)) := by
  unfold pW setf
  rw [if_neg h]; (try dsimp only); rw [if_pos rfl]
theorem sp_read (h0 : 0 ≤ t) (h4 : t < 4) (ht : tok (s 11 t) (s (13 + t))) (hg : rgk s) (k : ∀ v s', qD s t v s' → P (some (vI v)) s') : Cl X (d + 6) 31 [vR 23, vR 10, vI t] s P := by
  have hx0 := x0_ok ht.1
  have hr0 := opR_x0 ht hg
  have hs0 := rsx_sok hr0 hx0 ht
  have hr1 := rsx_skip hr0 hx0
  have hx1 := xok_skp (sg := s (13 + t)) hx0
  have hs1 := rsx_sok hr1 hx1 ht
  have hle : (m_upd (opR s t) 23 3 (skb (opR s t 23 2) (opR s t 25) (opR s t 23 3))) 23 3 ≤ (m_upd (opR s t) 23 3 (skb (opR s t 23 2) (opR s t 25) (opR s t 23 3))) 23 2 := by
    rw [hr1.1, hr1.2.1]
    exact hx1.2.1
  refine t_X2_read h0 h4 ht hs0 hs1 hle (fun v s1 hq => wkR_sok hq.2.1 hs1) (fun v s1 hq => ?_)
  have f1 : rfr s (m_upd (opR s t) 23 3 (skb (opR s t 23 2) (opR s t 25) (opR s t 23 3))) := opR_rfr.trans rfr_upd
  have f2 := f1.trans (wkR_rfr hq.2.1)
  have hrd : rdv (s 11 t) (s (13 + t)) = rdf (s 11 t) (rdx (s 11 t) (s (13 + t))) := rfl
  have hqv := hq.1
  rw [hr1.1, hr1.2.1, fW_cong hr1.2.2.2.2.2.1 hx1.1] at hqv
  by_cases hv : v = -9
  · obtain ⟨hf, hr2⟩ := rsx_W hr1 hx1 hq hv
    have hx2 := xok_pW hx1 hf
    have hr3 := rsx_skip hr2 hx2
    have hx3 := xok_skp (sg := s (13 + t)) hx2
    subst hv
    refine read_loop h0 h4 ht 60 0 (by omega) (by omega) _ _ hr3 hx3 (fun s' w1 w2 w3 => ?_)
    exact k _ s' ⟨hrd.symm, f2.trans (rfr_upd.trans w1), w2, w3⟩
  · have hf : ¬ fW (s 11 t) (s (13 + t)) (skp (s 11 t) (s (13 + t)) x0 (-1)) = -9 := by omega
    have hb := hx1.1
    have hb2 := hx1.2.1
    have hn6 := ht.2.1
    have hvr : 0 ≤ v ∧ v ≤ 62 := by
      rw [hqv] at hv ⊢
      unfold fW at hv ⊢
      omega
    have e2 : xW (s 11 t) (s (13 + t)) (-2) = v := by
      unfold xW
      rw [skp_o (by omega), pW_2 hf, hqv]
    have e3 : rdx (s 11 t) (s (13 + t)) = xW (s 11 t) (s (13 + t)) := pL_out (by omega)
    have e4 : rdv (s 11 t) (s (13 + t)) = v := by
      rw [hrd, e3]
      unfold rdf
      rw [if_neg (by omega), e2]
    have hp := k v (m_upd s1 23 3 (skb (s1 23 2) (s1 25) (s1 23 3))) ⟨e4.symm, f2.trans rfr_upd, rgk_upd (wkR_rgk hq.2.1 hr1.2.2.2.2.2.2.1), fun z => absurd z hv⟩
    apply t_X2_read_22 h0 h4 <;> intros <;> first | exact hp | omega
end RDF

/-! the class reads a text: the fault, and what was read -/
theorem at_cong {n p : Int} {f g : Int → Int} (h : ∀ j, 0 ≤ j → j < n → f j = g j) (hp : 0 ≤ p) : at_ n f p = at_ n g p := by
  unfold at_
  split
  · exact h p hp (by assumption)
  · rfl
theorem skb_cong {n : Int} {f g : Int → Int} (h : ∀ j, 0 ≤ j → j < n → f j = g j) {p : Int} (hp : 0 ≤ p) : skb n f p = skb n g p := by
  unfold skb
  generalize (n - p).toNat = k
  induction k generalizing p with
  | zero => rfl
  | succ k ih =>
    unfold skbN
    rw [ih (p := p + 1) (by omega)]
    by_cases hn : p < n
    · rw [h p hp hn]
    · rw [if_neg (by omega), if_neg (by omega)]
theorem fW_cong {n p : Int} {f g : Int → Int} (h : ∀ j, 0 ≤ j → j < n → f j = g j) (hp : 0 ≤ p) : fW n f p = fW n g p := by
  unfold fW
  rw [at_cong h hp, at_cong h (show 0 ≤ p + 1 by omega), at_cong h (show 0 ≤ p + 2 by omega)]
theorem fR_cong {n p : Int} {f g : Int → Int} (h : ∀ j, 0 ≤ j → j < n → f j = g j) (hp : 0 ≤ p) : fR n f p = fR n g p := by
  unfold fR
  rw [at_cong h (show 0 ≤ p + 1 by omega), at_cong h (show 0 ≤ p + 2 by omega)]
theorem fG_cong {n p c : Int} {f g : Int → Int} (h : ∀ j, 0 ≤ j → j < n → f j = g j) (hp : 0 ≤ p) : fG n f p c = fG n g p c := by
  unfold fG
  rw [at_cong h hp, at_cong h (show 0 ≤ p + 1 by omega), at_cong h (show 0 ≤ p + 2 by omega), at_cong h (show 0 ≤ p + 3 by omega), at_cong h (show 0 ≤ p + 4 by omega)]
def rfr (s s' : m_St) : Prop := ∀ c j, ¬ (23 ≤ c ∧ c ≤ 37) → s' c j = s c j
def rsx (s : m_St) (n : Int) (sg x : Int → Int) : Prop := s 23 2 = n ∧ s 23 3 = x (-1) ∧ s 23 4 = x 0 ∧ s 23 5 = x 1 ∧ s 23 6 = x (-3) ∧ (∀ j, 0 ≤ j → j < n → s 25 j = sg j) ∧ rgk s ∧ ∀ i, 0 ≤ i → i < x 0 → s (26 + 2 * i) 1 = x (8 + 5 * i) ∧ ∀ c, 0 ≤ c → c < 4 → s (26 + 2 * i + 1) c = x (9 + 5 * i + c)
def qD (s : m_St) (t v : Int) (s' : m_St) : Prop := v = rdv (s 11 t) (s (13 + t)) ∧ rfr s s' ∧ rgk s' ∧ (v = -9 → rsx s' (s 11 t) (s (13 + t)) (rdx (s 11 t) (s (13 + t))))
theorem pL_out {n : Int} {sg x : Int → Int} {k : Nat} (h : ¬ (x (-2) = -9 ∧ x (-1) < n)) : pL n sg k x = x := by
  cases k with
  | zero => rfl
  | succ k => exact if_neg h
theorem skp_o {n : Int} {sg x : Int → Int} {j : Int} (h : ¬ j = -1) : skp n sg x j = x j := if_neg h
theorem skp_1 {n : Int} {sg x : Int → Int} : skp n sg x (-1) = skb n sg (x (-1)) := by unfold skp setf; rw [if_pos rfl]
section RDE
variable {X : m_X} {d : Nat} {s s1 : m_St} {P : Option Value → m_St → Prop} {t n : Int} {sg x : Int → Int}
theorem rsx_sok (hr : rsx s n sg x) (hx : xok n x) (ht : tok n sg) : sok s := by
  obtain ⟨r1, r2, r3, r4, r5, r6, r7, r8⟩ := hr
  obtain ⟨t0, t1, t2⟩ := ht
  unfold sok
  rw [r1, r2]
  have := hx.1
  have := hx.2.1
  exact ⟨by omega, by omega, t0, t1, fun j j0 j1 => by rw [r6 j j0 j1]; exact t2 j j0 j1⟩
theorem rgk_upd {q : Int} (h : rgk s) {j : Int} : rgk (m_upd s 23 j q) := fun i h0 h6 => gok_cong (fun x => upd_nc (by omega)) (fun x => upd_nc (by omega)) (h i h0 h6)
theorem rsx_skip (hr : rsx s n sg x) (hx : xok n x) : rsx (m_upd s 23 3 (skb (s 23 2) (s 25) (s 23 3))) n sg (skp n sg x) := by
  obtain ⟨r1, r2, r3, r4, r5, r6, r7, r8⟩ := hr
  unfold rsx
  rw [upd_nj (by decide), upd_eq, upd_nj (by decide), upd_nj (by decide), upd_nj (by decide), upd_fun (by decide), skp_1, skp_o (by decide), skp_o (by decide), skp_o (by decide), r1, r2]
  refine ⟨rfl, skb_cong r6 hx.1, r3, r4, r5, r6, rgk_upd r7, fun i h0 h1 => ?_⟩
  rw [upd_nc (by omega), skp_o (by omega)]
  obtain ⟨q1, q2⟩ := r8 i h0 h1
  exact ⟨q1, fun c c0 c1 => by rw [upd_nc (by omega), skp_o (by omega)]; exact q2 c c0 c1⟩
theorem wkR_rfr (h : wkR s s1) : rfr s s1 := fun c j hc => h.1 c j (by omega)
theorem wkR_rgk (h : wkR s s1) (hg : rgk s) : rgk s1 := fun i h0 h6 => gok_cong (fun j => h.1 _ _ (by omega)) (fun j => h.1 _ _ (by omega)) (hg i h0 h6)
theorem wkR_sok (h : wkR s s1) (hs : sok s) : sok s1 := by
  obtain ⟨h1, h2, h3⟩ := h
  obtain ⟨a0, a1, a2, a3, a4⟩ := hs
  have e2 : s1 23 2 = s 23 2 := h1 _ _ (by omega)
  have e25 : s1 25 = s 25 := funext fun j => h1 _ _ (by omega)
  unfold sok
  rw [e2, e25]
  exact ⟨h2, by omega, a2, a3, a4⟩
theorem wkG_rfr {c0 : Int} (h : wkG s c0 s1) (h0 : 0 ≤ c0) (h6 : c0 < 6) : rfr s s1 := fun c j hc => h.1 c j (by omega) (by omega) (by omega)
theorem wkG_sok {c0 : Int} (h : wkG s c0 s1) (h0 : 0 ≤ c0) (hs : sok s) : sok s1 := by
  obtain ⟨h1, h2, h3, -⟩ := h
  obtain ⟨a0, a1, a2, a3, a4⟩ := hs
  have e2 : s1 23 2 = s 23 2 := h1 _ _ (by omega) (by omega) (by omega)
  have e25 : s1 25 = s 25 := funext fun j => h1 _ _ (by omega) (by omega) (by omega)
  unfold sok
  rw [e2, e25]
  exact ⟨h2, by omega, a2, a3, a4⟩
theorem rsx_W (hr : rsx s n sg x) (hx : xok n x) {v : Int} (hq : qW s v s1) (hv : v = -9) : fW n sg (x (-1)) = -9 ∧ rsx s1 n sg (pW n sg x) := by
  obtain ⟨r1, r2, r3, r4, r5, r6, r7, r8⟩ := hr
  obtain ⟨q1, q2, q3⟩ := hq
  obtain ⟨q3, q4, q5⟩ := q3 hv
  rw [r1, r2, fW_cong r6 hx.1] at q1
  have hf : fW n sg (x (-1)) = -9 := by omega
  have e : ∀ j, ¬ j = -1 → ¬ j = 1 → ¬ j = 2 → pW n sg x j = x j := fun j a b c => by unfold pW setf; rw [if_pos hf]; (try dsimp only); rw [if_neg c, if_neg b, if_neg a]
  have e1 : pW n sg x (-1) = x (-1) + 3 := by unfold pW setf; rw [if_pos hf]; (try dsimp only); rw [if_neg (by omega), if_neg (by omega), if_pos rfl]
  have e2 : pW n sg x 1 = 10 * (at_ n sg (x (-1) + 1) - 48) + (at_ n sg (x (-1) + 2) - 48) := by unfold pW setf; rw [if_pos hf]; (try dsimp only); rw [if_neg (by omega), if_pos rfl]
  have h0 := hx.1
  refine ⟨hf, by rw [q2.1 23 2 (by omega)]; exact r1, by rw [q3, e1]; omega, by rw [q2.1 23 4 (by omega), e 0 (by omega) (by omega) (by omega)]; exact r3, ?_, by rw [q4, e (-3) (by omega) (by omega) (by omega)]; exact r5, fun j j0 j1 => by rw [q2.1 25 j (by omega)]; exact r6 j j0 j1, wkR_rgk q2 r7, fun i h0 h1 => ?_⟩
  · rw [q5, e2, r1, r2, at_cong r6 (show 0 ≤ x (-1) + 1 by omega), at_cong r6 (show 0 ≤ x (-1) + 2 by omega)]
  · rw [e 0 (by omega) (by omega) (by omega)] at h1
    obtain ⟨w1, w2⟩ := r8 i h0 h1
    rw [q2.1 _ _ (by omega), e _ (by omega) (by omega) (by omega)]
    exact ⟨w1, fun c c0 c1 => by rw [q2.1 _ _ (by omega), e _ (by omega) (by omega) (by omega)]; exact w2 c c0 c1⟩
theorem rsx_R (hr : rsx s n sg x) (hx : xok n x) {v : Int} (hq : qR s v s1) (hv : v = -9) : fR n sg (x (-1)) = -9 ∧ rsx s1 n sg (pR n sg x) := by
  obtain ⟨r1, r2, r3, r4, r5, r6, r7, r8⟩ := hr
  obtain ⟨q1, q2, q3⟩ := hq
  obtain ⟨q3, q4, q5⟩ := q3 hv
  rw [r1, r2, fR_cong r6 hx.1] at q1
  have hf : fR n sg (x (-1)) = -9 := by omega
  have e : ∀ j, ¬ j = -1 → ¬ j = -3 → ¬ j = 7 → pR n sg x j = x j := fun j a b c => by unfold pR setf; rw [if_pos hf]; (try dsimp only); rw [if_neg c, if_neg b, if_neg a]
  have e1 : pR n sg x (-1) = x (-1) + 3 := by unfold pR setf; rw [if_pos hf]; (try dsimp only); rw [if_neg (by omega), if_neg (by omega), if_pos rfl]
  have e2 : pR n sg x (-3) = iOr (x (-3)) (iShl 1 (4 * (at_ n sg (x (-1) + 2) - 48) + (at_ n sg (x (-1) + 1) - 48))) := by unfold pR setf; rw [if_pos hf]; (try dsimp only); rw [if_neg (by omega), if_pos rfl]
  have h0 := hx.1
  refine ⟨hf, by rw [q2.1 23 2 (by omega)]; exact r1, by rw [q3, e1]; omega, by rw [q2.1 23 4 (by omega), e 0 (by omega) (by omega) (by omega)]; exact r3, by rw [q4, e 1 (by omega) (by omega) (by omega)]; exact r4, ?_, fun j j0 j1 => by rw [q2.1 25 j (by omega)]; exact r6 j j0 j1, wkR_rgk q2 r7, fun i h0 h1 => ?_⟩
  · rw [q5, e2, r1, r2, r5, at_cong r6 (show 0 ≤ x (-1) + 1 by omega), at_cong r6 (show 0 ≤ x (-1) + 2 by omega)]
  · rw [e 0 (by omega) (by omega) (by omega)] at h1
    obtain ⟨w1, w2⟩ := r8 i h0 h1
    rw [q2.1 _ _ (by omega), e _ (by omega) (by omega) (by omega)]
    exact ⟨w1, fun c c0 c1 => by rw [q2.1 _ _ (by omega), e _ (by omega) (by omega) (by omega)]; exact w2 c c0 c1⟩
theorem rsx_G (hr : rsx s n sg x) (hx : xok n x) {v : Int} (hq : qG s v s1) (hv : v = -9) : fG n sg (x (-1)) (x 0) = -9 ∧ rsx s1 n sg (pG n sg x) := by
  obtain ⟨r1, r2, r3, r4, r5, r6, r7, r8⟩ := hr
  obtain ⟨q1, q2, q3⟩ := hq
  obtain ⟨q3, q4, q5, q6⟩ := q3 hv
  rw [r1, r2, r3, fG_cong r6 hx.1] at q1
  have hf : fG n sg (x (-1)) (x 0) = -9 := by omega
  have h0 := hx.1
  have hc6 := (fG_ok h0 hf).2.1
  have hc0 := hx.2.2.1
  obtain ⟨q2, -⟩ := q2
  rw [r3] at q2 q5 q6
  have e0 : pG n sg x = pG1 n sg x := if_pos hf
  have e : ∀ j, ¬ j = -1 → ¬ j = 0 → ¬ (8 + 5 * x 0 ≤ j ∧ j < 13 + 5 * x 0) → pG n sg x j = x j := fun j a b c => by rw [e0]; unfold pG1; rw [if_neg a, if_neg b, if_neg (by omega), if_neg (by omega)]
  have e1 : pG n sg x (-1) = x (-1) + 5 := by rw [e0]; unfold pG1; rw [if_pos rfl]
  have e2 : pG n sg x 0 = x 0 + 1 := by rw [e0]; unfold pG1; rw [if_neg (by omega), if_pos rfl]
  refine ⟨hf, by rw [q2.1 23 2 (by omega) (by omega) (by omega)]; exact r1, by rw [q3, e1]; omega, by rw [q4, e2]; omega, by rw [q2.1 23 5 (by omega) (by omega) (by omega), e 1 (by omega) (by omega) (by omega)]; exact r4, by rw [q2.1 23 6 (by omega) (by omega) (by omega), e (-3) (by omega) (by omega) (by omega)]; exact r5, fun j j0 j1 => by rw [q2.1 25 j (by omega) (by omega) (by omega)]; exact r6 j j0 j1, q2.2.2.2, fun i h0 h1 => ?_⟩
  rw [e2] at h1
  by_cases hi : i = x 0
  · subst hi
    have e3 : pG n sg x (8 + 5 * x 0) = kOf (at_ n sg (x (-1))) := by rw [e0]; unfold pG1; rw [if_neg (by omega), if_neg (by omega), if_pos rfl]
    have e4 : ∀ c, 0 ≤ c → c < 4 → pG n sg x (9 + 5 * x 0 + c) = at_ n sg (x (-1) + 1 + c) - 48 := fun c c0 c1 => by rw [e0]; unfold pG1; rw [if_neg (by omega), if_neg (by omega), if_neg (by omega), if_pos (by omega), show 9 + 5 * x 0 + c - (9 + 5 * x 0) = c by omega]
    have hx1 := hx.1
    rw [q5, e3, r1, r2, at_cong r6 hx1]
    exact ⟨rfl, fun c c0 c1 => by rw [q6 c c0 c1, e4 c c0 c1, r1, r2, at_cong r6 (show 0 ≤ x (-1) + 1 + c by omega)]⟩
  · rw [e _ (by omega) (by omega) (by omega), q2.1 _ _ (by omega) (by omega) (by omega)]
    obtain ⟨w1, w2⟩ := r8 i h0 (by omega)
    exact ⟨w1, fun c c0 c1 => by rw [e _ (by omega) (by omega) (by omega), q2.1 _ _ (by omega) (by omega) (by omega)]; exact w2 c c0 c1⟩
def rdf (n : Int) (x : Int → Int) : Int := if x (-2) = -9 then (if x 0 < 2 then n else -9) else x (-2)
theorem pR_2 {n : Int} {sg x : Int → Int} : (fR n sg (x (-1)) = -9 → pR n sg x (-2) = x (-2)) ∧ (¬ fR n sg (x (-1)) = -9 → pR n sg x (-2) = fR n sg (x (-1))) := by
  unfold pR setf
  refine ⟨fun h => ?_, fun h => ?_⟩
  · rw [if_pos h]; (try dsimp only); rw [if_neg (by omega), if_neg (by omega), if_neg (by omega)]
  · rw [if_neg h]; (try dsimp only); rw [if_pos rfl]
theorem pG_2 {n : Int} {sg x : Int → Int} (h0 : 0 ≤ x 0) : (fG n sg (x (-1)) (x 0) = -9 → pG n sg x (-2) = x (-2)) ∧ (¬ fG n sg (x (-1)) (x 0) = -9 → pG n sg x (-2) = fG n sg (x (-1)) (x 0)) := by
  unfold pG
  refine ⟨fun h => ?_, fun h => ?_⟩
  · rw [if_pos h]; unfold pG1; rw [if_neg (by omega), if_neg (by omega), if_neg (by omega), if_neg (by omega)]
  · rw [if_neg h]; unfold setf; rw [if_pos rfl]
theorem read_loop (h0 : 0 ≤ t) (h4 : t < 4) (ht : tok n sg) : ∀ (k : Nat) (i : Int), 0 ≤ i → i + k = 60 → ∀ (s1 : m_St) (x : Int → Int), rsx s1 n sg x → xok n x → (∀ s', rfr s1 s' → rgk s' → (rdf n (pL n sg k x) = -9 → rsx s' n sg (pL n sg k x)) → P (some (vI (rdf n (pL n sg k x)))) s') → Rn X (d + 6) 31 22 [some (vR 23), some (vR 10), some (vI t), some (vI (-9)), some (vI i)] [] s1 P := by
  have fin : ∀ (i : Int) (k : Nat), 0 ≤ i → i + k = 60 → ∀ (s1 : m_St) (x : Int → Int), rsx s1 n sg x → xok n x → (60 ≤ i ∨ n ≤ x (-1)) → (∀ s', rfr s1 s' → rgk s' → (rdf n x = -9 → rsx s' n sg x) → P (some (vI (rdf n x))) s') → Rn X (d + 6) 31 22 [some (vR 23), some (vR 10), some (vI t), some (vI (-9)), some (vI i)] [] s1 P := by
    intro i k hi hik s1 x hr hx hend hk
    have hsok := rsx_sok hr hx ht
    have hs := sgn_r hsok
    obtain ⟨r1, r2, r3, r4, r5, r6, r7, r8⟩ := id hr
    have hp := hk s1 (fun _ _ _ => rfl) r7 (fun _ => hr)
    have x2 := hx.2.2.2.2.2.2.2.1
    have x0_ := hx.2.2.1
    have x6_ := hx.2.2.2.1
    unfold rdf at hp
    rw [if_pos x2] at hp
    obtain ⟨n0, n6, -⟩ := ht
    apply t_X2_read_22 h0 h4 <;> intros
    all_goals first | omega | exact hsok | exact r7 | skip
    all_goals first | (rw [if_neg (by omega)] at hp; exact hp) | (rw [if_pos (by omega)] at hp; rw [r1]; exact hp)
  have flt : ∀ (i f : Int) (s1 : m_St), inR f → inR i → ¬ f = -9 → P (some (vI f)) s1 → Rn X (d + 6) 31 22 [some (vR 23), some (vR 10), some (vI t), some (vI f), some (vI i)] [] s1 P := by
    intro i f s1 rf_ ri hf hp
    apply t_X2_read_22 h0 h4 <;> intros <;> first | exact hp | omega
  intro k
  induction k with
  | zero =>
    intro i hi hik s1 x hr hx hk
    exact fin i 0 hi hik s1 x hr hx (by omega) hk
  | succ k ih =>
    intro i hi hik s1 x hr hx hk
    have x2 := hx.2.2.2.2.2.2.2.1
    by_cases hend : n ≤ x (-1)
    · rw [pL_out (by omega)] at hk
      exact fin i (k + 1) hi hik s1 x hr hx (Or.inr hend) hk
    · have hsok := rsx_sok hr hx ht
      have hs := sgn_r hsok
      obtain ⟨r1, r2, r3, r4, r5, r6, r7, r8⟩ := id hr
      obtain ⟨n0, n6, -⟩ := id ht
      have hx1 := hx.1
      have hc0 := hx.2.2.1
      have hc6 := hx.2.2.2.1
      have hsg : sgn s1 = at_ n sg (x (-1)) := by unfold sgn; rw [r1, r2, at_cong r6 hx1]
      have hstep : pL n sg (k + 1) x = pL n sg k (pI n sg x) := if_pos ⟨x2, by omega⟩
      rw [hstep] at hk
      have rfr_skip : ∀ s2 : m_St, rfr s1 s2 → ∀ q, rfr s1 (m_upd s2 23 3 q) := fun s2 h q c j hc => by rw [upd_nc (by omega)]; exact h c j hc
      have hvR : ∀ p, 0 ≤ p → fR n sg p = -9 ∨ (0 ≤ fR n sg p ∧ fR n sg p ≤ p + 2) := fun p hp => by unfold fR; omega
      have hvG : ∀ p c, 0 ≤ p → fG n sg p c = -9 ∨ (0 ≤ fG n sg p c ∧ fG n sg p c ≤ p + 4) := fun p c hp => by unfold fG; omega
      have vR_ := hvR (x (-1)) hx1
      have vG_ := hvG (x (-1)) (x 0) hx1
      refine t_X2_read_22 h0 h4 ⟨by omega, by omega⟩ (by omega) (by omega) (by omega) (by omega) (by omega) (fun _ => by decide) (by omega) (fun _ _ => hsok) (by omega) (by omega) (by omega) (by omega) (by omega) (fun _ _ _ _ => r7) (by omega) (by omega) (fun _ _ _ h102 v s2 hq => wkG_sok hq.2.1.1 (by omega) hsok) (fun _ _ _ h102 v s2 hq => ?_) (by omega) (fun _ _ _ h102 v s2 hq => wkR_sok hq.2.1 hsok) (fun _ _ _ h102 v s2 hq => ?_)
      · rw [hsg] at h102
        have ePI : pI n sg x = skp n sg (pG n sg x) := by unfold pI; rw [if_neg h102]
        have hqv := hq.1
        rw [r1, r2, r3, fG_cong r6 hx1] at hqv
        by_cases hv : v = -9
        · obtain ⟨hf, hr2⟩ := rsx_G hr hx hq hv
          have hx2 := xok_pG hx hf
          rw [ePI] at hk
          subst hv
          refine ih (i + 1) (by omega) (by omega) _ _ (rsx_skip hr2 hx2) (xok_skp hx2) (fun s' w1 w2 w3 => hk s' (fun c j hc => ?_) w2 w3)
          rw [w1 c j hc, upd_nc (by omega)]
          exact wkG_rfr hq.2.1.1 (by omega) (by have := (fG_ok hx1 hf).2.1; omega) c j hc
        · have hf : ¬ fG n sg (x (-1)) (x 0) = -9 := by omega
          have e2 : pI n sg x (-2) = fG n sg (x (-1)) (x 0) := by rw [ePI, skp_o (by omega)]; exact (pG_2 hc0).2 hf
          rw [pL_out (by omega)] at hk
          have erd : rdf n (pI n sg x) = v := by unfold rdf; rw [if_neg (by omega)]; omega
          rw [erd] at hk
          refine flt _ _ _ (by omega) ⟨by omega, by omega⟩ hv (hk _ (rfr_skip _ (fun c j hc => ?_) _) (rgk_upd hq.2.1.1.2.2.2) (fun z => absurd z hv))
          by_cases hc5 : s1 23 4 < 6
          · exact wkG_rfr hq.2.1.1 (by omega) hc5 c j hc
          · rw [hq.2.1.2 (by omega)]
      · rw [hsg] at h102
        have ePI : pI n sg x = skp n sg (pR n sg x) := by unfold pI; rw [if_pos h102]
        have hqv := hq.1
        rw [r1, r2, fR_cong r6 hx1] at hqv
        by_cases hv : v = -9
        · obtain ⟨hf, hr2⟩ := rsx_R hr hx hq hv
          have hx2 := xok_pR hx hf
          rw [ePI] at hk
          subst hv
          refine ih (i + 1) (by omega) (by omega) _ _ (rsx_skip hr2 hx2) (xok_skp hx2) (fun s' w1 w2 w3 => hk s' (fun c j hc => ?_) w2 w3)
          rw [w1 c j hc, upd_nc (by omega)]
          exact wkR_rfr hq.2.1 c j hc
        · have hf : ¬ fR n sg (x (-1)) = -9 := by omega
          have e2 : pI n sg x (-2) = fR n sg (x (-1)) := by rw [ePI, skp_o (by omega)]; exact pR_2.2 hf
          rw [pL_out (by omega)] at hk
          have erd : rdf n (pI n sg x) = v := by unfold rdf; rw [if_neg (by omega)]; omega
          rw [erd] at hk
          exact flt _ _ _ (by omega) ⟨by omega, by omega⟩ hv (hk _ (rfr_skip _ (wkR_rfr hq.2.1) _) (rgk_upd (wkR_rgk hq.2.1 r7)) (fun z => absurd z hv))
end RDE

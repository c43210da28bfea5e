/-! the class and the reference, side by side -/
def Jr (s : m_St) : Prop := s 1 2 = 40 ∧ ∀ r, 0 ≤ r → r < 6 → -1 ≤ s 2 r ∧ s 2 r ≤ 40 ∧ s 78 r = s 2 r ∧ ∀ j, 0 ≤ j → j < s 2 r → inR (s (4 + r) j) ∧ s 79 (40 * r + j) = s (4 + r) j
def Jt (s : m_St) : Prop := s 10 2 = 60 ∧ ∀ t, 0 ≤ t → t < 4 → -1 ≤ s 11 t ∧ s 11 t ≤ 60 ∧ s 81 t = s 11 t ∧ ∀ j, 0 ≤ j → j < s 11 t → -128 ≤ s (13 + t) j ∧ s (13 + t) j ≤ 127 ∧ s 82 (60 * t + j) = s (13 + t) j
def Jf (s : m_St) : Prop := s 77 10 = s 0 8 ∧ s 77 11 = s 0 9 ∧ s 77 12 = s 0 10 ∧ s 77 13 = s 0 11 ∧ ∀ f, 1 ≤ f → f ≤ 5 → s 87 f = s 76 f
/-- what the reference notes of a deed -/
def note (m : Int → Int) (k : Nat) (d : Int) (h : Int → Int) : Prop :=
  (d < 8 → m (38 + 4 * k) = 1 ∧ m (38 + 4 * k + 1) = 9 + 5 * hrr h d + d % 4 ∧ m (38 + 4 * k + 2) = h (9 + 5 * hrr h d + d % 4)) ∧
  (d = 8 → m (38 + 4 * k) = 2 ∧ m (38 + 4 * k + 1) = h 1) ∧
  (9 ≤ d → m (38 + 4 * k) = 0 ∧ m (38 + 4 * k + 1) = h 5 ∧ m (38 + 4 * k + 2) = h 6)
def hj (b0 j : Int) : Prop := (0 ≤ j ∧ j ≤ 2) ∨ j = 5 ∨ j = 6 ∨ (8 ≤ j ∧ j < 8 + 5 * b0)
def sayn (ds : Int → Int) : Nat → Int := sm (fun i => if ds i < 8 then 1 else 0)
/-- a hut of the reference that n deeds have led to -/
def HM (R : Int) (b ds : Int → Int) (n : Int) (m : Int → Int) : Prop :=
  0 ≤ n ∧ n ≤ 40 ∧ m 3 = n ∧ m 4 = sayn ds n.toNat ∧ tr R (m 7) ∧ (∀ k : Nat, (k : Int) < n → dok (hst R b ds k) (ds k)) ∧ (∀ j, hj (b 0) j → m j = hst R b ds n.toNat j) ∧ ∀ k : Nat, (k : Int) < n → note m k (ds k) (hst R b ds k)
def Jh (s : m_St) : Prop := bok s ∧ HM (s 38 5) (hbase s) (s 41) (s 38 9) (s 83) ∧ rep s (hst (s 38 5) (hbase s) (s 41) (s 38 9).toNat)
def Jk (s : m_St) : Prop := s 17 2 = 40 ∧ ∀ k, 0 ≤ k → k < 3 → -1 ≤ s 18 k ∧ s 18 k ≤ 40 ∧ (s 18 k = -1 → s 86 k = 0) ∧ (¬ s 18 k = -1 → s 86 k = 1 ∧ HM (s 38 5) (hbase s) (s (20 + k)) (s 18 k) (fun j => s 85 (198 * k + j)))
def Jg (s : m_St) : Prop := rgk s ∧ tkok s ∧ ∀ i, inR (s 72 i)
def J (s : m_St) : Prop := Jr s ∧ Jt s ∧ Jf s ∧ Jh s ∧ Jk s ∧ Jg s
/-- where each part looks -/
def uR (c j : Int) : Prop := (c = 1 ∧ j = 2) ∨ c = 2 ∨ (4 ≤ c ∧ c ≤ 9) ∨ c = 78 ∨ c = 79
def uT (c j : Int) : Prop := (c = 10 ∧ j = 2) ∨ c = 11 ∨ (13 ≤ c ∧ c ≤ 16) ∨ c = 81 ∨ c = 82
def uF (c j : Int) : Prop := (c = 0 ∧ 8 ≤ j ∧ j ≤ 11) ∨ c = 76 ∨ (c = 77 ∧ 10 ≤ j ∧ j ≤ 13) ∨ c = 87
def uB (c j : Int) : Prop := (c = 38 ∧ (j = 3 ∨ j = 4 ∨ j = 5)) ∨ (42 ≤ c ∧ 2 ≤ c % 4 ∧ c ≤ 65)
def uH (c j : Int) : Prop := (c = 38 ∧ 3 ≤ j ∧ j ≤ 9) ∨ c = 41 ∨ (42 ≤ c ∧ c ≤ 65) ∨ c = 83
def uK (c j : Int) : Prop := uB c j ∨ (c = 17 ∧ j = 2) ∨ c = 18 ∨ (20 ≤ c ∧ c ≤ 22) ∨ c = 85 ∨ c = 86
def uG (c _j : Int) : Prop := (26 ≤ c ∧ c ≤ 37) ∨ (67 ≤ c ∧ c ≤ 70) ∨ c = 72
theorem Jr_cong {s t : m_St} (e : ∀ c j, uR c j → t c j = s c j) (h : Jr s) : Jr t := by
  obtain ⟨h1, h2⟩ := h
  refine ⟨by rw [e 1 2 (Or.inl ⟨rfl, rfl⟩)]; exact h1, fun r r0 r6 => ?_⟩
  obtain ⟨a1, a2, a3, a4⟩ := h2 r r0 r6
  have e2 : t 2 r = s 2 r := e _ _ (Or.inr (Or.inl rfl))
  rw [e2, e 78 r (by unfold uR; omega)]
  refine ⟨a1, a2, a3, fun j j0 j1 => ?_⟩
  rw [e (4 + r) j (by unfold uR; omega), e 79 _ (by unfold uR; omega)]
  exact a4 j j0 j1
theorem Jt_cong {s t : m_St} (e : ∀ c j, uT c j → t c j = s c j) (h : Jt s) : Jt t := by
  obtain ⟨h1, h2⟩ := h
  refine ⟨by rw [e 10 2 (Or.inl ⟨rfl, rfl⟩)]; exact h1, fun r r0 r6 => ?_⟩
  obtain ⟨a1, a2, a3, a4⟩ := h2 r r0 r6
  have e2 : t 11 r = s 11 r := e _ _ (Or.inr (Or.inl rfl))
  rw [e2, e 81 r (by unfold uT; omega)]
  refine ⟨a1, a2, a3, fun j j0 j1 => ?_⟩
  rw [e (13 + r) j (by unfold uT; omega), e 82 _ (by unfold uT; omega)]
  exact a4 j j0 j1
theorem Jf_cong {s t : m_St} (e : ∀ c j, uF c j → t c j = s c j) (h : Jf s) : Jf t := by
  obtain ⟨h1, h2, h3, h4, h5⟩ := h
  unfold Jf
  rw [e 77 10 (by unfold uF; omega), e 77 11 (by unfold uF; omega), e 77 12 (by unfold uF; omega), e 77 13 (by unfold uF; omega), e 0 8 (by unfold uF; omega), e 0 9 (by unfold uF; omega), e 0 10 (by unfold uF; omega), e 0 11 (by unfold uF; omega)]
  refine ⟨h1, h2, h3, h4, fun f f1 f5 => ?_⟩
  rw [e 87 f (by unfold uF; omega), e 76 f (by unfold uF; omega)]
  exact h5 f f1 f5
theorem hbase_cong {s t : m_St} (e : ∀ c j, uB c j → t c j = s c j) (b0 : 0 ≤ s 38 3) : ∀ j, j < 8 + 5 * 6 → hbase t j = hbase s j := by
  intro j hj
  unfold hbase
  rw [e 38 3 (by unfold uB; omega), e 38 4 (by unfold uB; omega)]
  split
  · rfl
  · split
    · rfl
    · split
      · split
        · rw [e _ _ (by unfold uB; omega)]
        · rw [e _ _ (by unfold uB; omega)]
      · rfl
theorem stp_cong {R : Int} {h h' : Int → Int} {d : Int} (e : ∀ j, j < 38 → h' j = h j) (hh : hok h) (hd : dok h d) : ∀ j, j < 38 → stp R h' d j = stp R h d j := by
  intro j hj
  have e5 := e 5 (by omega)
  have e6 := e 6 (by omega)
  have er : hrr h' d = hrr h d := by unfold hrr; rw [e5, e6]
  have h06 := hh.2.1
  unfold stp
  by_cases h8 : d < 8
  · obtain ⟨r0, r1⟩ := hrr_r hh hd h8
    rw [if_pos h8, if_pos h8, er]
    have e9 := e (9 + 5 * hrr h d + d % 4) (by omega)
    have e8 := e (8 + 5 * hrr h d) (by omega)
    have eh : hld h' (hrr h d) = hld h (hrr h d) := by
      unfold hld
      rw [e8]
      exact hset_cong fun c c0 c1 => e _ (by omega)
    rw [e9, e8, eh, e 1 (by omega)]
    unfold setf
    split
    · rfl
    · split
      · rfl
      · exact e j hj
  · rw [if_neg h8, if_neg h8]
    by_cases h9 : d = 8
    · rw [if_pos h9, if_pos h9, e 2 (by omega)]
      unfold setf
      split
      · rfl
      · exact e j hj
    · rw [if_neg h9, if_neg h9]
      unfold setf
      split
      · rfl
      · split
        · rfl
        · exact e j hj
theorem dok_cong {h h' : Int → Int} {d : Int} (e : ∀ j, j < 38 → h' j = h j) (hd : dok h d) : dok h' d := by
  unfold dok at hd ⊢
  rw [e 5 (by omega), e 1 (by omega), e 0 (by omega)]
  exact hd
theorem hok_cong {h h' : Int → Int} (e : ∀ j, j < 38 → h' j = h j) (hh : hok h) : hok h' := by
  have h06 := hh.2.1
  unfold hok at hh ⊢
  rw [e 0 (by omega), e 1 (by omega), e 2 (by omega), e 5 (by omega), e 6 (by omega)]
  obtain ⟨a1, a2, a3, a4, a5, a6, a7, a8, a9, a10, a11, a12⟩ := hh
  refine ⟨a1, a2, a3, a4, a5, a6, a7, a8, a9, a10, a11, fun i i0 i1 => ?_⟩
  rw [e (8 + 5 * i) (by omega)]
  obtain ⟨b1, b2, b3⟩ := a12 i i0 i1
  refine ⟨b1, b2, fun c c0 c1 => ?_⟩
  rw [e (9 + 5 * i + c) (by omega)]
  exact b3 c c0 c1
theorem hst_cong {R : Int} {b b' ds ds' : Int → Int} {n : Nat} (e : ∀ j, j < 38 → b' j = b j) (ed : ∀ k : Nat, k < n → ds' k = ds k) (hb : hok b) (hd : ∀ k : Nat, k < n → dok (hst R b ds k) (ds k)) : ∀ k : Nat, k ≤ n → ∀ j, j < 38 → hst R b' ds' k j = hst R b ds k j := by
  intro k
  induction k with
  | zero => exact fun _ => e
  | succ k ih =>
    intro hk
    have hh := hst_ok hb hd k (by omega)
    show ∀ j, j < 38 → stp R (hst R b' ds' k) (ds' k) j = stp R (hst R b ds k) (ds k) j
    rw [ed k (by omega)]
    exact stp_cong (ih (by omega)) hh (hd k (by omega))
theorem note_cong {m m' : Int → Int} {k : Nat} {d : Int} {h h' : Int → Int} (em : ∀ j, 38 ≤ j → j < 198 → m' j = m j) (e : ∀ j, j < 38 → h' j = h j) (hk : k < 40) (hh : hok h) (hd : dok h d) (hn : note m k d h) : note m' k d h' := by
  unfold note at hn ⊢
  have h06 := hh.2.1
  have er : hrr h' d = hrr h d := by unfold hrr; rw [e 5 (by omega), e 6 (by omega)]
  rw [em _ (by omega) (by omega), em (38 + 4 * (k : Int) + 1) (by omega) (by omega), em (38 + 4 * (k : Int) + 2) (by omega) (by omega), er, e 1 (by omega), e 5 (by omega), e 6 (by omega)]
  refine ⟨fun h8 => ?_, hn.2⟩
  obtain ⟨r0, r1⟩ := hrr_r hh hd h8
  rw [e (9 + 5 * hrr h d + d % 4) (by omega)]
  exact hn.1 h8
theorem sm_cong {f f' : Int → Int} {n : Nat} (e : ∀ k : Nat, k < n → f' k = f k) : sm f' n = sm f n := by
  induction n with
  | zero => rfl
  | succ n ih =>
    rw [sm_s, sm_s, ih (fun k hk => e k (by omega)), e n (by omega)]
theorem HM_cong {R : Int} {b b' ds ds' m m' : Int → Int} {n : Int} (eb : ∀ j, j < 38 → b' j = b j) (ed : ∀ k, 0 ≤ k → k < n → ds' k = ds k) (em : ∀ j, 0 ≤ j → j < 198 → m' j = m j) (hb : hok b) (h : HM R b ds n m) : HM R b' ds' n m' := by
  obtain ⟨n0, n4, m3, m4, mt, hd, hv, hn⟩ := h
  have hd' : ∀ k : Nat, k < n.toNat → dok (hst R b ds k) (ds k) := fun k hk => hd k (by omega)
  have ed' : ∀ k : Nat, k < n.toNat → ds' k = ds k := fun k hk => ed k (by omega) (by omega)
  have hc := hst_cong (R := R) eb ed' hb hd'
  have h06 := hb.2.1
  refine ⟨n0, n4, by rw [em 3 (by omega) (by omega)]; exact m3, ?_, by rw [em 7 (by omega) (by omega)]; exact mt, fun k hk => ?_, fun j hj_ => ?_, fun k hk => ?_⟩
  · rw [em 4 (by omega) (by omega), m4]
    exact (sm_cong fun k hk => by rw [ed' k hk]).symm
  · rw [ed' k (by omega)]
    exact dok_cong (hc k (by omega)) (hd k hk)
  · rw [eb 0 (by omega)] at hj_
    have hj2 := hj_
    unfold hj at hj2
    rw [em j (by omega) (by omega), hc n.toNat (by omega) j (by omega)]
    exact hv j hj_
  · rw [ed' k (by omega)]
    exact note_cong (fun j j0 j1 => em j (by omega) j1) (hc k (by omega)) (by omega) (hst_ok hb hd' k (by omega)) (hd k hk) (hn k hk)
def uH0 (c j : Int) : Prop := (c = 38 ∧ 3 ≤ j ∧ j ≤ 9) ∨ c = 41 ∨ (42 ≤ c ∧ c ≤ 65)
theorem uH0_uH {c j : Int} (h : uH0 c j) : uH c j := by unfold uH0 at h; unfold uH; omega
theorem rep_cong {s t : m_St} {h h' : Int → Int} (e : ∀ c j, uH0 c j → t c j = s c j) (eh : ∀ j, j < 38 → h' j = h j) (hh : hok h) (hr : rep s h) : rep t h' := by
  have h06 := hh.2.1
  unfold rep at hr ⊢
  rw [e 38 3 (by unfold uH0; omega), e 38 6 (by unfold uH0; omega), e 38 4 (by unfold uH0; omega), e 38 7 (by unfold uH0; omega), e 38 8 (by unfold uH0; omega), eh 0 (by omega), eh 1 (by omega), eh 2 (by omega), eh 5 (by omega), eh 6 (by omega)]
  obtain ⟨a1, a2, a3, a4, a5, a6, a7⟩ := hr
  refine ⟨a1, a2, a3, a4, a5, fun i i0 i6 => gok_cong (fun j => e _ _ (by unfold uH0; omega)) (fun j => e _ _ (by unfold uH0; omega)) (a6 i i0 i6), fun i i0 i1 => ?_⟩
  obtain ⟨b1, b2⟩ := a7 i i0 i1
  rw [e (44 + 4 * i) 1 (by unfold uH0; omega), eh (8 + 5 * i) (by omega)]
  refine ⟨b1, fun c c0 c1 => ?_⟩
  rw [e (44 + 4 * i + 1) c (by unfold uH0; omega), eh (9 + 5 * i + c) (by omega)]
  exact b2 c c0 c1
theorem bok_cong {s t : m_St} (e : ∀ c j, uH0 c j → t c j = s c j) (h : bok s) : bok t := by
  unfold bok aok at h ⊢
  rw [e 38 3 (by unfold uH0; omega), e 38 4 (by unfold uH0; omega)]
  obtain ⟨a1, a2, a3, a4, a5, a6⟩ := h
  refine ⟨a1, a2, a3, a4, fun i i0 i1 => ?_, fun i i0 i6 => gok_cong (fun j => e _ _ (by unfold uH0; omega)) (fun j => e _ _ (by unfold uH0; omega)) (a6 i i0 i6)⟩
  obtain ⟨b1, b2, b3⟩ := a5 i i0 i1
  rw [e (42 + 4 * i) 1 (by unfold uH0; omega)]
  refine ⟨b1, b2, fun c c0 c1 => ?_⟩
  rw [e (42 + 4 * i + 1) c (by unfold uH0; omega)]
  exact b3 c c0 c1
theorem uB_uH {c j : Int} (h : uB c j) : uH c j := by unfold uB at h; unfold uH; omega
theorem Jh_cong {s t : m_St} (e : ∀ c j, uH c j → t c j = s c j) (h : Jh s) : Jh t := by
  obtain ⟨hb, hm, hr⟩ := h
  have hbo := hbase_ok hb
  have eb : ∀ j, j < 38 → hbase t j = hbase s j := hbase_cong (fun c j hc => e c j (uB_uH hc)) hb.1
  have e5 : t 38 5 = s 38 5 := e _ _ (by unfold uH; omega)
  have e9 : t 38 9 = s 38 9 := e _ _ (by unfold uH; omega)
  have n0 := hm.1
  have hm2 := HM_cong eb (fun k _ _ => e 41 k (by unfold uH; omega)) (fun j _ _ => e 83 j (by unfold uH; omega)) hbo hm
  have hd' : ∀ k : Nat, k < (s 38 9).toNat → dok (hst (s 38 5) (hbase s) (s 41) k) (s 41 k) := fun k hk => hm.2.2.2.2.2.1 k (by omega)
  refine ⟨bok_cong (fun c j hc => e c j (uH0_uH hc)) hb, by rw [e5, e9]; exact hm2, ?_⟩
  rw [e5, e9]
  exact rep_cong (fun c j hc => e c j (uH0_uH hc)) (hst_cong eb (fun k _ => e 41 k (by unfold uH; omega)) hbo hd' _ (Nat.le_refl _)) (hst_ok hbo hd' _ (Nat.le_refl _)) hr
theorem Jk_cong {s t : m_St} (e : ∀ c j, uK c j → t c j = s c j) (hb : bok s) (h : Jk s) : Jk t := by
  obtain ⟨h1, h2⟩ := h
  refine ⟨by rw [e 17 2 (by unfold uK; omega)]; exact h1, fun k k0 k3 => ?_⟩
  obtain ⟨a1, a2, a3, a4⟩ := h2 k k0 k3
  rw [e 18 k (by unfold uK; omega), e 86 k (by unfold uK; omega), e 38 5 (by unfold uK uB; omega)]
  refine ⟨a1, a2, a3, fun hz => ?_⟩
  obtain ⟨b1, b2⟩ := a4 hz
  exact ⟨b1, HM_cong (hbase_cong (fun c j hc => e c j (Or.inl hc)) hb.1) (fun i _ _ => e _ _ (by unfold uK; omega)) (fun j _ _ => e 85 _ (by unfold uK; omega)) (hbase_ok hb) b2⟩
theorem Jg_cong {s t : m_St} (e : ∀ c j, uG c j → t c j = s c j) (h : Jg s) : Jg t := by
  obtain ⟨h1, h2, h3⟩ := h
  refine ⟨fun i i0 i6 => gok_cong (fun j => e _ _ (by unfold uG; omega)) (fun j => e _ _ (by unfold uG; omega)) (h1 i i0 i6), tkok_cong (fun c j c0 c1 => e _ _ (by unfold uG; omega)) h2, fun i => ?_⟩
  rw [e 72 i (by unfold uG; omega)]
  exact h3 i

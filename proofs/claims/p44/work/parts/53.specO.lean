/-! places of shelves; two put aside -/
def btw (s : m_St) (g o a : Int) : m_St := m_upd (lk (lk s 67 g (s g 1)) 69 o (s o 1)) 66 2 a
section SPO
variable {X : m_X} {d : Nat} {s : m_St} {P : Option Value → m_St → Prop} {r j v i k c g o a : Int}
theorem sp_get1 (h0 : 0 ≤ r) (h6 : r < 6) (j0 : 0 ≤ j) (j1 : j < s 2 r) (hM : s 2 r ≤ 40) (kk : P (some (vI (s (4 + r) j))) s) : Cl X (d + 4) 18 [vR 1, vI r, vI j] s P := by
  apply t_get1 h0 h6 (by omega) j0 (by omega) <;> first | exact kk | omega
theorem sp_set1 (h0 : 0 ≤ r) (h6 : r < 6) (j0 : 0 ≤ j) (j1 : j < s 2 r) (hM : s 2 r ≤ 40) (kk : P none (m_upd s (4 + r) j v)) : Cl X (d + 4) 19 [vR 1, vI r, vI j, vI v] s P := by
  apply t_set1 h0 h6 (by omega) j0 (by omega) <;> first | exact kk | omega
theorem sp_get10 (h0 : 0 ≤ r) (h6 : r < 4) (j0 : 0 ≤ j) (j1 : j < s 11 r) (hM : s 11 r ≤ 60) (kk : P (some (vI (s (13 + r) j))) s) : Cl X (d + 4) 18 [vR 10, vI r, vI j] s P := by
  apply t_get10 h0 h6 (by omega) j0 (by omega) <;> first | exact kk | omega
theorem sp_set10 (h0 : 0 ≤ r) (h6 : r < 4) (j0 : 0 ≤ j) (j1 : j < s 11 r) (hM : s 11 r ≤ 60) (kk : P none (m_upd s (13 + r) j v)) : Cl X (d + 4) 19 [vR 10, vI r, vI j, vI v] s P := by
  apply t_set10 h0 h6 (by omega) j0 (by omega) <;> first | exact kk | omega
theorem sp_get17 (h0 : 0 ≤ r) (h6 : r < 3) (j0 : 0 ≤ j) (j1 : j < s 18 r) (hM : s 18 r ≤ 40) (kk : P (some (vI (s (20 + r) j))) s) : Cl X (d + 4) 18 [vR 17, vI r, vI j] s P := by
  apply t_get17 h0 h6 (by omega) j0 (by omega) <;> first | exact kk | omega
theorem sp_set17 (h0 : 0 ≤ r) (h6 : r < 3) (j0 : 0 ≤ j) (j1 : j < s 18 r) (hM : s 18 r ≤ 40) (kk : P none (m_upd s (20 + r) j v)) : Cl X (d + 4) 19 [vR 17, vI r, vI j, vI v] s P := by
  apply t_set17 h0 h6 (by omega) j0 (by omega) <;> first | exact kk | omega
theorem sp_between (hg : ty g = 0) (ho : ty o = 0) (kg : gok s g) (ko : gok s o) (g6 : g < 66) (o6 : o < 66) (kk : P none (btw s g o a)) : Cl X (d + 4) 101 [vR 66, vR g, vR o, vI a] s P := by
  have e : lk s 67 g (s g 1) o 1 = s o 1 := lk_o (by omega) (by omega)
  have e2 : lk s 67 g (s g 1) (o + 1) = s (o + 1) := funext fun j => lk_o (by omega) (by omega)
  apply t_X4_between hg ho
  · exact kg.1
  · exact kg.2.1
  · exact kg.wr
  · rw [e]; exact ko.1
  · rw [e]; exact ko.2.1
  · rw [e2]; exact ko.wr
  · rw [e]; exact kk
end SPO

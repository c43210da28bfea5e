/-! A LITTLE MACHINE: the same bytecode, over a heap that is a list of cells (a tag, its slots); references are places in that list. From 1000 on: arrays that nobody writes (1000 the script, the others statics). -/
abbrev m_H : Type := List (Nat × List Value)
abbrev m_L : Type := List (Option Value)
abbrev m_S : Type := Nat × m_L × List Value × m_H
-- ----- stack patterns -----
def m_i {α : Type} (st : List Value) (f : Int32 → List Value → Option α) : Option α := match st with
  | .int x :: r => f x r
  | _ => none
theorem m_i_s {α : Type} {st : List Value} {f : Int32 → List Value → Option α} {q : α} (h : m_i st f = some q) : ∃ x r, st = .int x :: r ∧ f x r = some q := by
  unfold m_i at h
  split at h
  · exact ⟨_, _, rfl, h⟩
  · cases h
def m_ii {α : Type} (st : List Value) (f : Int32 → Int32 → List Value → Option α) : Option α := match st with
  | .int y :: .int x :: r => f x y r
  | _ => none
theorem m_ii_s {α : Type} {st : List Value} {f : Int32 → Int32 → List Value → Option α} {q : α} (h : m_ii st f = some q) : ∃ x y r, st = .int y :: .int x :: r ∧ f x y r = some q := by
  unfold m_ii at h
  split at h
  · exact ⟨_, _, _, rfl, h⟩
  · cases h
def m_j {α : Type} (st : List Value) (f : Int64 → List Value → Option α) : Option α := match st with
  | .long x :: r => f x r
  | _ => none
theorem m_j_s {α : Type} {st : List Value} {f : Int64 → List Value → Option α} {q : α} (h : m_j st f = some q) : ∃ x r, st = .long x :: r ∧ f x r = some q := by
  unfold m_j at h
  split at h
  · exact ⟨_, _, rfl, h⟩
  · cases h
def m_jj {α : Type} (st : List Value) (f : Int64 → Int64 → List Value → Option α) : Option α := match st with
  | .long y :: .long x :: r => f x y r
  | _ => none
theorem m_jj_s {α : Type} {st : List Value} {f : Int64 → Int64 → List Value → Option α} {q : α} (h : m_jj st f = some q) : ∃ x y r, st = .long y :: .long x :: r ∧ f x y r = some q := by
  unfold m_jj at h
  split at h
  · exact ⟨_, _, _, rfl, h⟩
  · cases h
def m_a {α : Type} (st : List Value) (f : Nat → List Value → Option α) : Option α := match st with
  | .ref a :: r => f a r
  | _ => none
theorem m_a_s {α : Type} {st : List Value} {f : Nat → List Value → Option α} {q : α} (h : m_a st f = some q) : ∃ a r, st = .ref a :: r ∧ f a r = some q := by
  unfold m_a at h
  split at h
  · exact ⟨_, _, rfl, h⟩
  · cases h
def m_ai {α : Type} (st : List Value) (f : Nat → Int32 → List Value → Option α) : Option α := match st with
  | .int i :: .ref a :: r => f a i r
  | _ => none
theorem m_ai_s {α : Type} {st : List Value} {f : Nat → Int32 → List Value → Option α} {q : α} (h : m_ai st f = some q) : ∃ a i r, st = .int i :: .ref a :: r ∧ f a i r = some q := by
  unfold m_ai at h
  split at h
  · exact ⟨_, _, _, rfl, h⟩
  · cases h
def m_aii {α : Type} (st : List Value) (f : Nat → Int32 → Int32 → List Value → Option α) : Option α := match st with
  | .int x :: .int i :: .ref a :: r => f a i x r
  | _ => none
theorem m_aii_s {α : Type} {st : List Value} {f : Nat → Int32 → Int32 → List Value → Option α} {q : α} (h : m_aii st f = some q) : ∃ a i x r, st = .int x :: .int i :: .ref a :: r ∧ f a i x r = some q := by
  unfold m_aii at h
  split at h
  · exact ⟨_, _, _, _, rfl, h⟩
  · cases h
def m_aij {α : Type} (st : List Value) (f : Nat → Int32 → Int64 → List Value → Option α) : Option α := match st with
  | .long x :: .int i :: .ref a :: r => f a i x r
  | _ => none
theorem m_aij_s {α : Type} {st : List Value} {f : Nat → Int32 → Int64 → List Value → Option α} {q : α} (h : m_aij st f = some q) : ∃ a i x r, st = .long x :: .int i :: .ref a :: r ∧ f a i x r = some q := by
  unfold m_aij at h
  split at h
  · exact ⟨_, _, _, _, rfl, h⟩
  · cases h
def m_aia {α : Type} (st : List Value) (f : Nat → Int32 → Nat → List Value → Option α) : Option α := match st with
  | .ref x :: .int i :: .ref a :: r => f a i x r
  | _ => none
theorem m_aia_s {α : Type} {st : List Value} {f : Nat → Int32 → Nat → List Value → Option α} {q : α} (h : m_aia st f = some q) : ∃ a i x r, st = .ref x :: .int i :: .ref a :: r ∧ f a i x r = some q := by
  unfold m_aia at h
  split at h
  · exact ⟨_, _, _, _, rfl, h⟩
  · cases h
def m_va {α : Type} (st : List Value) (f : Nat → Value → List Value → Option α) : Option α := match st with
  | v :: .ref a :: r => f a v r
  | _ => none
theorem m_va_s {α : Type} {st : List Value} {f : Nat → Value → List Value → Option α} {q : α} (h : m_va st f = some q) : ∃ a v r, st = v :: .ref a :: r ∧ f a v r = some q := by
  unfold m_va at h
  split at h
  · exact ⟨_, _, _, rfl, h⟩
  · cases h
def m_v {α : Type} (st : List Value) (f : Value → List Value → Option α) : Option α := match st with
  | v :: r => f v r
  | _ => none
theorem m_v_s {α : Type} {st : List Value} {f : Value → List Value → Option α} {q : α} (h : m_v st f = some q) : ∃ v r, st = v :: r ∧ f v r = some q := by
  unfold m_v at h
  split at h
  · exact ⟨_, _, rfl, h⟩
  · cases h
def m_c {α : Type} (b : Prop) [Decidable b] (x : Option α) : Option α := if b then x else none
theorem m_c_s {α : Type} {b : Prop} [Decidable b] {x : Option α} {q : α} (h : m_c b x = some q) : b ∧ x = some q := by
  unfold m_c at h
  split at h
  · next hb => exact ⟨hb, h⟩
  · cases h
theorem m_c_t {α : Type} {b : Prop} [Decidable b] {x : Option α} (h : b) : m_c b x = x := if_pos h
-- ----- locals -----
def m_clr (L : m_L) (i : Nat) : m_L := match i with
  | 0 => L
  | j + 1 => match L[j]? with
    | some (some w) => if w.category = 2 then L.set j none else L
    | _ => L
def m_st1 (L : m_L) (i : Nat) (v : Value) : m_L := (m_clr L i).set i (some v)
def m_st2 (L : m_L) (i : Nat) (v : Value) : m_L := ((m_clr L i).set i (some v)).set (i + 1) none
def m_ldi (L : m_L) (i : Nat) (f : Int32 → Option m_S) : Option m_S := match L[i]? with
  | some (some (.int x)) => f x
  | _ => none
theorem m_ldi_s {L : m_L} {i : Nat} {f : Int32 → Option m_S} {q : m_S} (h : m_ldi L i f = some q) : ∃ x, L[i]? = some (some (.int x)) ∧ f x = some q := by
  unfold m_ldi at h
  split at h
  · next e => exact ⟨_, e, h⟩
  · cases h
def m_ldj (L : m_L) (i : Nat) (f : Int64 → Option m_S) : Option m_S := match L[i]? with
  | some (some (.long x)) => f x
  | _ => none
theorem m_ldj_s {L : m_L} {i : Nat} {f : Int64 → Option m_S} {q : m_S} (h : m_ldj L i f = some q) : ∃ x, L[i]? = some (some (.long x)) ∧ f x = some q := by
  unfold m_ldj at h
  split at h
  · next e => exact ⟨_, e, h⟩
  · cases h
def m_lda (L : m_L) (i : Nat) (f : Nat → Option m_S) : Option m_S := match L[i]? with
  | some (some (.ref x)) => f x
  | _ => none
theorem m_lda_s {L : m_L} {i : Nat} {f : Nat → Option m_S} {q : m_S} (h : m_lda L i f = some q) : ∃ x, L[i]? = some (some (.ref x)) ∧ f x = some q := by
  unfold m_lda at h
  split at h
  · next e => exact ⟨_, e, h⟩
  · cases h
-- ----- jumps -----
def m_go (pc : Nat) (off : Int) (L : m_L) (st : List Value) (h : m_H) : Option m_S := m_c (0 ≤ (pc : Int) + off) (some (((pc : Int) + off).toNat, L, st, h))
def m_br (pc : Nat) (off : Int) (b : Prop) [Decidable b] (L : m_L) (st : List Value) (h : m_H) : Option m_S := m_c (0 ≤ (pc : Int) + off) (if b then some (((pc : Int) + off).toNat, L, st, h) else some (pc + 3, L, st, h))
def m_if (c : ClassFile.Cond) (pc : Nat) (off : Int) (x : Int32) (L : m_L) (st : List Value) (h : m_H) : Option m_S := match c with
  | .eq => m_br pc off (x = 0) L st h
  | .ne => m_br pc off (¬ x = 0) L st h
  | .lt => m_br pc off (x < 0) L st h
  | .ge => m_br pc off (0 ≤ x) L st h
  | .gt => m_br pc off (0 < x) L st h
  | .le => m_br pc off (x ≤ 0) L st h
def m_icmp (c : ClassFile.Cond) (pc : Nat) (off : Int) (x y : Int32) (L : m_L) (st : List Value) (h : m_H) : Option m_S := match c with
  | .eq => m_br pc off (x = y) L st h
  | .ne => m_br pc off (¬ x = y) L st h
  | .lt => m_br pc off (x < y) L st h
  | .ge => m_br pc off (y ≤ x) L st h
  | .gt => m_br pc off (y < x) L st h
  | .le => m_br pc off (x ≤ y) L st h
-- ----- what an instruction's length is -----
def m_ln (i : Instr) (len : Nat) : Nat := match i with
  | .aload _ | .astore _ | .iload _ | .istore _ | .lload _ | .lstore _ | .bipush _ | .ldc _ | .newarray _ => 2
  | .anewarray _ | .getfield _ | .putfield _ | .getstatic _ | .goto _ | .if_icmp _ _ | .ifCond _ _ | .iinc _ _ | .invokespecial _ | .invokestatic _ | .invokevirtual _ | .ldc_w _ | .ldc2_w _ | .new _ | .sipush _ => 3
  | .multianewarray _ _ => 4
  | .tableswitch _ _ _ _ | .lookupswitch _ _ => len
  | _ => 1
-- ----- instructions that leave the heap alone -----
def m_sA (k : Nat) (i : Instr) (pc : Nat) (L : m_L) (st : List Value) (h : m_H) : Option m_S := match i with
  | .iconst n => some (pc + 1, L, .int (Int32.ofInt n) :: st, h)
  | .bipush n => some (pc + 2, L, .int (Int8.ofInt n).toInt32 :: st, h)
  | .sipush n => some (pc + 3, L, .int (Int16.ofInt n).toInt32 :: st, h)
  | .lconst n => some (pc + 1, L, .long (Int64.ofNat (n : Nat)) :: st, h)
  | .ldc_w ix => match m_k32.lookup (m_o k, ix) with
    | some e => some (pc + 3, L, .int e.1 :: st, h)
    | none => none
  | .ldc ix => match m_k32.lookup (m_o k, ix) with
    | some e => some (pc + 2, L, .int e.1 :: st, h)
    | none => none
  | .ldc2_w ix => match m_k64.lookup (m_o k, ix) with
    | some e => some (pc + 3, L, .long e.1 :: st, h)
    | none => none
  | .iload_n n => m_ldi L (n : Nat) fun x => some (pc + 1, L, .int x :: st, h)
  | .iload n => m_ldi L n fun x => some (pc + 2, L, .int x :: st, h)
  | .lload_n n => m_ldj L (n : Nat) fun x => some (pc + 1, L, .long x :: st, h)
  | .lload n => m_ldj L n fun x => some (pc + 2, L, .long x :: st, h)
  | .aload_n n => m_lda L (n : Nat) fun x => some (pc + 1, L, .ref x :: st, h)
  | .aload n => m_lda L n fun x => some (pc + 2, L, .ref x :: st, h)
  | .istore_n n => m_i st fun x r => m_c ((n : Nat) < L.length) (some (pc + 1, m_st1 L (n : Nat) (.int x), r, h))
  | .istore n => m_i st fun x r => m_c (n < L.length) (some (pc + 2, m_st1 L n (.int x), r, h))
  | .lstore_n n => m_j st fun x r => m_c ((n : Nat) + 1 < L.length) (some (pc + 1, m_st2 L (n : Nat) (.long x), r, h))
  | .lstore n => m_j st fun x r => m_c (n + 1 < L.length) (some (pc + 2, m_st2 L n (.long x), r, h))
  | .astore_n n => m_a st fun x r => m_c ((n : Nat) < L.length) (some (pc + 1, m_st1 L (n : Nat) (.ref x), r, h))
  | .astore n => m_a st fun x r => m_c (n < L.length) (some (pc + 2, m_st1 L n (.ref x), r, h))
  | .iinc n z => m_ldi L n fun x => m_c (n < L.length) (some (pc + 3, m_st1 L n (.int (x + Int32.ofInt z)), st, h))
  | .iadd => m_ii st fun x y r => some (pc + 1, L, .int (x + y) :: r, h)
  | .isub => m_ii st fun x y r => some (pc + 1, L, .int (x - y) :: r, h)
  | .imul => m_ii st fun x y r => some (pc + 1, L, .int (x * y) :: r, h)
  | .idiv => m_ii st fun x y r => m_c (¬ y = 0) (some (pc + 1, L, .int (x / y) :: r, h))
  | .irem => m_ii st fun x y r => m_c (¬ y = 0) (some (pc + 1, L, .int (x - x / y * y) :: r, h))
  | .iand => m_ii st fun x y r => some (pc + 1, L, .int (x &&& y) :: r, h)
  | .ior => m_ii st fun x y r => some (pc + 1, L, .int (x ||| y) :: r, h)
  | .ixor => m_ii st fun x y r => some (pc + 1, L, .int (x ^^^ y) :: r, h)
  | .ishl => m_ii st fun x y r => some (pc + 1, L, .int (x <<< (y &&& 31)) :: r, h)
  | .ishr => m_ii st fun x y r => some (pc + 1, L, .int (x >>> (y &&& 31)) :: r, h)
  | .iushr => m_ii st fun x y r => some (pc + 1, L, .int (x.toUInt32 >>> (y.toUInt32 &&& Int32.toUInt32 31)).toInt32 :: r, h)
  | .ladd => m_jj st fun x y r => some (pc + 1, L, .long (x + y) :: r, h)
  | .lmul => m_jj st fun x y r => some (pc + 1, L, .long (x * y) :: r, h)
  | .ldiv => m_jj st fun x y r => m_c (¬ y = 0) (some (pc + 1, L, .long (x / y) :: r, h))
  | .lrem => m_jj st fun x y r => m_c (¬ y = 0) (some (pc + 1, L, .long (x - x / y * y) :: r, h))
  | .lcmp => m_jj st fun x y r => some (pc + 1, L, .int (lg_cmp x y) :: r, h)
  | .i2l => m_i st fun x r => some (pc + 1, L, .long x.toInt64 :: r, h)
  | .l2i => m_j st fun x r => some (pc + 1, L, .int x.toInt32 :: r, h)
  | .i2b => m_i st fun x r => some (pc + 1, L, .int x.toInt8.toInt32 :: r, h)
  | .dup => m_v st fun v r => m_c (v.category = 1) (some (pc + 1, L, v :: v :: r, h))
  | .pop => m_v st fun v r => m_c (v.category = 1) (some (pc + 1, L, r, h))
  | .dup2 => m_v st fun v r => if v.category = 2 then some (pc + 1, L, v :: v :: r, h) else m_v r fun w r2 => m_c (w.category = 1) (some (pc + 1, L, v :: w :: v :: w :: r2, h))
  | .ifCond c off => m_i st fun x r => m_if c pc off x L r h
  | .if_icmp c off => m_ii st fun x y r => m_icmp c pc off x y L r h
  | .goto off => m_go pc off L st h
  | .tableswitch d lo hi offs => m_i st fun x r => if x.toInt < lo ∨ hi < x.toInt then m_go pc d L r h else match offs[(x.toInt - lo).toNat]? with
    | some o => m_go pc o L r h
    | none => none
  | .lookupswitch d ps => m_i st fun x r => m_c ((ps.toList.zip (ps.toList.drop 1)).all (fun (a, next) => a.1 < next.1) = true) (m_go pc (Op.lookupswitch.offset ps.toList d x.toInt) L r h)
  | _ => none
-- ----- reads and writes -----
def m_ex (X : List Int32) (a : Nat) : Option (List Int32) := if a = 1000 then some X else (m_sx.find? (fun e => e.1 == a)).map (fun e => e.2.2)
def m_rd (h : m_H) (t a : Nat) (i : Int32) (f : Value → Option m_S) : Option m_S := match h[a]? with
  | some c => m_c (c.1 = t ∧ ¬ (i < 0 ∨ c.2.length ≤ i.toNatClampNeg)) (match c.2[i.toNatClampNeg]? with
    | some v => f v
    | none => none)
  | none => none
theorem m_rd_s {h : m_H} {t a : Nat} {i : Int32} {f : Value → Option m_S} {q : m_S} (e : m_rd h t a i f = some q) : ∃ vs v, h[a]? = some (t, vs) ∧ vp_in i vs.length ∧ vs[i.toNatClampNeg]? = some v ∧ f v = some q := by
  unfold m_rd at e
  split at e
  · next c hc =>
    obtain ⟨⟨h1, h2⟩, e⟩ := m_c_s e
    split at e
    · next v hv => exact ⟨c.2, v, by rw [hc, ← h1], h2, hv, e⟩
    · cases e
  · cases e
def m_wr (h : m_H) (t a : Nat) (i : Int32) (v : Value) (f : m_H → Option m_S) : Option m_S := match h[a]? with
  | some c => m_c (c.1 = t ∧ ¬ (i < 0 ∨ c.2.length ≤ i.toNatClampNeg)) (f (h.set a (t, c.2.set i.toNatClampNeg v)))
  | none => none
theorem m_wr_s {h : m_H} {t a : Nat} {i : Int32} {v : Value} {f : m_H → Option m_S} {q : m_S} (e : m_wr h t a i v f = some q) : ∃ vs, h[a]? = some (t, vs) ∧ vp_in i vs.length ∧ f (h.set a (t, vs.set i.toNatClampNeg v)) = some q := by
  unfold m_wr at e
  split at e
  · next c hc =>
    obtain ⟨⟨h1, h2⟩, e⟩ := m_c_s e
    exact ⟨c.2, by rw [hc, ← h1], h2, e⟩
  · cases e
def m_vi (v : Value) (f : Int32 → Option m_S) : Option m_S := match v with
  | .int x => f x
  | _ => none
theorem m_vi_s {v : Value} {f : Int32 → Option m_S} {q : m_S} (e : m_vi v f = some q) : ∃ x, v = .int x ∧ f x = some q := by
  unfold m_vi at e
  split at e
  · exact ⟨_, rfl, e⟩
  · cases e
def m_vj (v : Value) (f : Int64 → Option m_S) : Option m_S := match v with
  | .long x => f x
  | _ => none
theorem m_vj_s {v : Value} {f : Int64 → Option m_S} {q : m_S} (e : m_vj v f = some q) : ∃ x, v = .long x ∧ f x = some q := by
  unfold m_vj at e
  split at e
  · exact ⟨_, rfl, e⟩
  · cases e
def m_vr (v : Value) (f : Nat → Option m_S) : Option m_S := match v with
  | .ref x => f x
  | _ => none
theorem m_vr_s {v : Value} {f : Nat → Option m_S} {q : m_S} (e : m_vr v f = some q) : ∃ x, v = .ref x ∧ f x = some q := by
  unfold m_vr at e
  split at e
  · exact ⟨_, rfl, e⟩
  · cases e
def m_cls (c : Nat) : vw_C := m_cl.getD c ("", fun _ => ("", "", "", false), 0)
def m_fty (c k : Nat) : FieldType := (parseFieldDescriptor ((m_cls c).2.1 k).2.2.1).getD .int
def m_sB (X : List Int32) (k : Nat) (i : Instr) (pc : Nat) (L : m_L) (st : List Value) (h : m_H) : Option m_S := match i with
  | .getfield ix => m_a st fun a r => match m_fl.lookup (m_o k, ix) with
    | some e => match h[a]? with
      | some c => m_c (c.1 = e.1) (match c.2[e.2.1]? with
        | some v => some (pc + 3, L, v :: r, h)
        | none => none)
      | none => none
    | none => none
  | .putfield ix => m_va st fun a v r => match m_fl.lookup (m_o k, ix) with
    | some e => match h[a]? with
      | some c => m_c (c.1 = e.1 ∧ e.2.1 < c.2.length ∧ narrow (m_fty e.1 e.2.1) v = v ∧ fits (m_fty e.1 e.2.1) v = true ∧ (((m_cls e.1).2.1 e.2.1).2.2.2 = false ∨ ((m_y k).name = "<init>" ∧ (m_cls e.1).1 = m_cn (m_o k)))) (some (pc + 3, L, r, h.set a (e.1, c.2.set e.2.1 v)))
      | none => none
    | none => none
  | .getstatic ix => match m_gl.lookup (m_o k, ix) with
    | some e => some (pc + 3, L, .ref e :: st, h)
    | none => none
  | .iaload => m_ai st fun a i r => if 1000 ≤ a then (match m_ex X a with
      | some l => m_c (¬ (i < 0 ∨ l.length ≤ i.toNatClampNeg)) (some (pc + 1, L, .int (l.getD i.toNatClampNeg 0) :: r, h))
      | none => none)
    else m_rd h 20 a i fun v => m_vi v fun x => some (pc + 1, L, .int x :: r, h)
  | .laload => m_ai st fun a i r => m_rd h 21 a i fun v => m_vj v fun x => some (pc + 1, L, .long x :: r, h)
  | .aaload => m_ai st fun a i r => if (h[a]?).map (fun c => c.1) = some 23 then m_rd h 23 a i fun v => m_vr v fun x => some (pc + 1, L, .ref x :: r, h) else m_rd h 24 a i fun v => m_vr v fun x => some (pc + 1, L, .ref x :: r, h)
  | .iastore => m_aii st fun a i x r => m_wr h 20 a i (.int x) fun h' => some (pc + 1, L, r, h')
  | .lastore => m_aij st fun a i x r => m_wr h 21 a i (.long x) fun h' => some (pc + 1, L, r, h')
  | .aastore => m_aia st fun a i x r => m_c ((h[x]?).map (fun c => c.1) = some 0) (m_wr h 23 a i (.ref x) fun h' => some (pc + 1, L, r, h'))
  | .arraylength => m_a st fun a r => if a = 1000 then some (pc + 1, L, .int (Int32.ofNat X.length) :: r, h) else match h[a]? with
    | some c => m_c (20 ≤ c.1 ∧ c.1 ≤ 24) (some (pc + 1, L, .int (Int32.ofNat c.2.length) :: r, h))
    | none => none
  | _ => none
-- ----- new cells; natives -----
def m_okv (lo hi : Nat) (v : Value) : Bool := match v with
  | .ref a => decide (a < lo) || decide (hi ≤ a)
  | _ => true
def m_okL (lo hi : Nat) (L : m_L) : Bool := L.all (fun o => match o with
  | some v => m_okv lo hi v
  | none => true)
def m_okS (lo hi : Nat) (st : List Value) : Bool := st.all (m_okv lo hi)
def m_okH (lo hi : Nat) (h : m_H) : Bool := h.all (fun c => c.2.all (m_okv lo hi))
def m_ok (lo hi : Nat) (L : m_L) (st : List Value) (h : m_H) : Prop := m_okL lo hi L = true ∧ m_okS lo hi st = true ∧ m_okH lo hi h = true ∧ hi ≤ 1000
def m_dec_ok (lo hi : Nat) (L : m_L) (st : List Value) (h : m_H) : Decidable (m_ok lo hi L st h) := by unfold m_ok; exact inferInstance
def m_al1 (L : m_L) (st : List Value) (h : m_H) (c : Nat × List Value) (pc : Nat) : Option m_S := if m_okL h.length (h.length + 1) L && m_okS h.length (h.length + 1) st && m_okH h.length (h.length + 1) h && decide (h.length + 1 ≤ 1000) then some (pc, L, .ref h.length :: st, h ++ [c]) else none
def m_sum (st : List Value) : Nat := (st.map fun v => v.category).sum
def m_sC (k : Nat) (i : Instr) (pc : Nat) (L : m_L) (st : List Value) (h : m_H) : Option m_S := match i with
  | .new ix => match m_nl.lookup (m_o k, ix) with
    | some e => m_al1 L st h (e.1, (List.range (m_cls e.1).2.2).map (fun j => defaultValue (m_fty e.1 j))) (pc + 3)
    | none => none
  | .newarray ty => m_i st fun n r => m_c (¬ n < 0 ∧ n.toNatClampNeg ≤ 1000000) (match ty with
    | .int => m_al1 L r h (20, List.replicate n.toNatClampNeg (.int 0)) (pc + 2)
    | .long => m_al1 L r h (21, List.replicate n.toNatClampNeg (.long 0)) (pc + 2)
    | _ => none)
  | .anewarray ix => m_i st fun n r => m_c (¬ n < 0 ∧ n.toNatClampNeg ≤ 1000000 ∧ (m_al.lookup (m_o k, ix)).isSome = true) (m_al1 L r h (23, List.replicate n.toNatClampNeg .null) (pc + 3))
  | .multianewarray ix dims => m_ii st fun n z r => m_c (dims = 2 ∧ ¬ n < 0 ∧ ¬ z < 0 ∧ n.toNatClampNeg ≤ 1000 ∧ z.toNatClampNeg ≤ 1000 ∧ (m_ml.lookup (m_o k, ix)).isSome = true ∧
      m_okL h.length (h.length + 1 + n.toNatClampNeg) L = true ∧ m_okS h.length (h.length + 1 + n.toNatClampNeg) r = true ∧ m_okH h.length (h.length + 1 + n.toNatClampNeg) h = true ∧ h.length + 1 + n.toNatClampNeg ≤ 1000)
    (some (pc + 4, L, .ref h.length :: r, (h ++ [(24, (List.range n.toNatClampNeg).map (fun i => .ref (h.length + 1 + i)))]) ++ List.replicate n.toNatClampNeg (20, List.replicate z.toNatClampNeg (.int 0))))
  | .invokespecial ix => m_a st fun _ r => m_c ((m_oi.lookup (m_o k, ix)).isSome = true ∧ m_sum r ≤ 8) (some (pc + 3, L, r, h))
  | .invokestatic ix => match m_mm.lookup (m_o k, ix) with
    | some e => m_ii st fun x y r => m_c (m_sum r ≤ 8) (if e.1 = 0 then some (pc + 3, L, .int (if x < y then y else x) :: r, h) else some (pc + 3, L, .int (if y < x then y else x) :: r, h))
    | none => match st with
      | .int n :: .int dp :: .ref a :: .int sp :: .ref a0 :: r => match h[a0]?, h[a]? with
        | some c0, some c1 => m_c ((m_ac.lookup (m_o k, ix)).isSome = true ∧ m_sum r ≤ 8 ∧ c0.1 = 20 ∧ c1.1 = 20 ∧ ¬ sp < 0 ∧ ¬ dp < 0 ∧ ¬ n < 0 ∧ sp.toNatClampNeg + n.toNatClampNeg ≤ c0.2.length ∧ dp.toNatClampNeg + n.toNatClampNeg ≤ c1.2.length)
            (some (pc + 3, L, r, h.set a (20, (List.range c1.2.length).map (fun j => if dp.toNatClampNeg ≤ j ∧ j < dp.toNatClampNeg + n.toNatClampNeg then c0.2.getD (sp.toNatClampNeg + (j - dp.toNatClampNeg)) .null else c1.2.getD j .null))))
        | _, _ => none
      | _ => none
  | _ => none
def m_step (X : List Int32) (k : Nat) (i : Instr) (pc : Nat) (L : m_L) (st : List Value) (h : m_H) : Option m_S := match m_sA k i pc L st h with
  | some q => some q
  | none => match m_sB X k i pc L st h with
    | some q => some q
    | none => m_sC k i pc L st h
-- ----- returns and calls -----
def m_rok (k : Nat) (x : Int32) : Bool := match m_r k with
  | some ty => decide (narrow ty (.int x) = .int x)
  | none => false
def m_rob (k : Nat) : Bool := match m_r k with
  | some (.object _) => true
  | _ => false
def m_ret (k : Nat) (i : Instr) (st : List Value) : Option (Option Value) := match i with
  | .ireturn => match st with
    | [.int x] => if m_rok k x = true then some (some (.int x)) else none
    | _ => none
  | .lreturn => match st with
    | [.long x] => if m_r k = some .long then some (some (.long x)) else none
    | _ => none
  | .areturn => match st with
    | [.ref a] => if m_rob k = true then some (some (.ref a)) else none
    | _ => none
  | .return_ => match st with
    | [] => if m_r k = none then some none else none
    | _ => none
  | _ => none
/-- a call: of whom, with what, what stays on the stack -/
def m_inv (k : Nat) (i : Instr) (st : List Value) (h : m_H) : Option (Nat × List Value × List Value) := match i with
  | .invokevirtual ix => match m_il.lookup (m_o k, ix) with
    | some (kd, y, n, _) => match st.drop n with
      | .ref b :: r => m_c (kd = 0 ∧ m_sum r ≤ 8 ∧ n ≤ st.length ∧ (h[b]?).map (fun c => (m_cls c.1).1) = some (m_y y).cls ∧ (h[b]?).map (fun c => decide (c.1 < m_cl.length)) = some true) (some (y, .ref b :: (st.take n).reverse, r))
      | _ => none
    | none => none
  | .invokestatic ix => match m_il.lookup (m_o k, ix) with
    | some (kd, y, n, _) => m_c ((kd = 1 ∨ kd = 3) ∧ m_sum (st.drop n) ≤ 8 ∧ n ≤ st.length) (some (y, (st.take n).reverse, st.drop n))
    | none => none
  | .invokespecial ix => match m_il.lookup (m_o k, ix) with
    | some (kd, y, n, _) => match st.drop n with
      | .ref b :: r => m_c ((kd = 2 ∨ kd = 4) ∧ m_sum r ≤ 8 ∧ n ≤ st.length) (some (y, .ref b :: (st.take n).reverse, r))
      | _ => none
    | none => none
  | _ => none
def m_lay : List Value → m_L
  | [] => []
  | v :: vs => if v.category = 2 then some v :: none :: m_lay vs else some v :: m_lay vs
def m_ent (y : Nat) (As : List Value) : m_L := m_lay As ++ List.replicate (m_n y - (m_lay As).length) none
def m_push (v : Option Value) (r : List Value) : List Value := match v with
  | some x => x :: r
  | none => r
/-- what stays on the stack and among the locals speaks of no new cell -/
def m_okc (L : m_L) (r : List Value) (h h' : m_H) : Bool := (decide (h'.length = h.length)) || (m_okL h.length h'.length L && m_okS h.length h'.length r)
def m_run (X : List Int32) : Nat → Nat → Nat → Nat → m_L → List Value → m_H → Option (Option Value × m_H)
  | 0, _, _, _, _, _, _ => none
  | n + 1, d, k, pc, L, st, h => match decode (m_b k) pc with
    | .error _ => none
    | .ok (i, len) => if len = m_ln i len then (match m_ret k i st with
      | some v => some (v, h)
      | none => match m_inv k i st h with
        | some (y, As, r) => match d with
          | 0 => none
          | d' + 1 => if (m_lay As).length ≤ m_n y then (match m_run X n d' y 0 (m_ent y As) [] h with
            | some (v, h') => if m_okc L r h h' then m_run X n (d' + 1) k (pc + 3) L (m_push v r) h' else none
            | none => none) else none
        | none => match m_step X k i pc L st h with
          | some q => m_run X n d k q.1 q.2.1 q.2.2.1 q.2.2.2
          | none => none) else none

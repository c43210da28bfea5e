-- ===== PART A: goes FIRST, ahead of the names: the tables' words, and 'selects' of the private methods out of them =====
/-- a private method of a class that the tables say can be made, by its rows of tables_1 -/
def lw_okq (q : MethodName × Nat) : Prop := (q.1.cls ≠ "java/lang/invoke/MethodHandle" ∧ q.1.cls ≠ "java/lang/invoke/VarHandle") ∧ Cond.instantiable q.1.cls q.2 ∈ tables_1 ∧ Cond.privateMethod q.1 ∈ tables_1 ∧ Cond.instanceMethod q.1 ∈ tables_1
theorem lw_p0 : lw_okq (⟨"SnowHut", "tell", "(I)I"⟩, 12) := ⟨⟨by decide +kernel, by decide +kernel⟩, List.mem_of_getElem? (i := 10) (by decide +kernel), List.mem_of_getElem? (i := 237) (by decide +kernel), List.mem_of_getElem? (i := 238) (by decide +kernel)⟩
theorem lw_p1 : lw_okq (⟨"SnowHut$Hut", "perform", "(I)V"⟩, 10) := ⟨⟨by decide +kernel, by decide +kernel⟩, List.mem_of_getElem? (i := 85) (by decide +kernel), List.mem_of_getElem? (i := 257) (by decide +kernel), List.mem_of_getElem? (i := 258) (by decide +kernel)⟩
theorem lw_p2 : lw_okq (⟨"SnowHut", "takeAside", "()V"⟩, 12) := ⟨⟨by decide +kernel, by decide +kernel⟩, List.mem_of_getElem? (i := 10) (by decide +kernel), List.mem_of_getElem? (i := 339) (by decide +kernel), List.mem_of_getElem? (i := 340) (by decide +kernel)⟩
theorem lw_p3 : lw_okq (⟨"SnowHut", "found", "(I)I"⟩, 12) := ⟨⟨by decide +kernel, by decide +kernel⟩, List.mem_of_getElem? (i := 10) (by decide +kernel), List.mem_of_getElem? (i := 455) (by decide +kernel), List.mem_of_getElem? (i := 456) (by decide +kernel)⟩
theorem lw_p4 : lw_okq (⟨"SnowHut", "placeRefusal", "(LSnowHut$Shelf;II)I"⟩, 12) := ⟨⟨by decide +kernel, by decide +kernel⟩, List.mem_of_getElem? (i := 10) (by decide +kernel), List.mem_of_getElem? (i := 470) (by decide +kernel), List.mem_of_getElem? (i := 471) (by decide +kernel)⟩
theorem lw_p5 : lw_okq (⟨"SnowHut", "missingRefusal", "(LSnowHut$Shelf;I)I"⟩, 12) := ⟨⟨by decide +kernel, by decide +kernel⟩, List.mem_of_getElem? (i := 10) (by decide +kernel), List.mem_of_getElem? (i := 474) (by decide +kernel), List.mem_of_getElem? (i := 475) (by decide +kernel)⟩
theorem lw_p6 : lw_okq (⟨"SnowHut$Reader", "open", "(LSnowHut$Shelf;I)V"⟩, 7) := ⟨⟨by decide +kernel, by decide +kernel⟩, List.mem_of_getElem? (i := 40) (by decide +kernel), List.mem_of_getElem? (i := 503) (by decide +kernel), List.mem_of_getElem? (i := 504) (by decide +kernel)⟩
theorem lw_p7 : lw_okq (⟨"SnowHut$Reader", "skipBlanks", "()V"⟩, 7) := ⟨⟨by decide +kernel, by decide +kernel⟩, List.mem_of_getElem? (i := 40) (by decide +kernel), List.mem_of_getElem? (i := 510) (by decide +kernel), List.mem_of_getElem? (i := 511) (by decide +kernel)⟩
theorem lw_p8 : lw_okq (⟨"SnowHut$Reader", "sign", "()I"⟩, 7) := ⟨⟨by decide +kernel, by decide +kernel⟩, List.mem_of_getElem? (i := 40) (by decide +kernel), List.mem_of_getElem? (i := 514) (by decide +kernel), List.mem_of_getElem? (i := 515) (by decide +kernel)⟩
theorem lw_p9 : lw_okq (⟨"SnowHut$Reader", "readWood", "()I"⟩, 7) := ⟨⟨by decide +kernel, by decide +kernel⟩, List.mem_of_getElem? (i := 40) (by decide +kernel), List.mem_of_getElem? (i := 518) (by decide +kernel), List.mem_of_getElem? (i := 519) (by decide +kernel)⟩
theorem lw_p10 : lw_okq (⟨"SnowHut$Reader", "figure", "(I)I"⟩, 7) := ⟨⟨by decide +kernel, by decide +kernel⟩, List.mem_of_getElem? (i := 40) (by decide +kernel), List.mem_of_getElem? (i := 522) (by decide +kernel), List.mem_of_getElem? (i := 523) (by decide +kernel)⟩
theorem lw_p11 : lw_okq (⟨"SnowHut$Reader", "readReason", "()I"⟩, 7) := ⟨⟨by decide +kernel, by decide +kernel⟩, List.mem_of_getElem? (i := 40) (by decide +kernel), List.mem_of_getElem? (i := 526) (by decide +kernel), List.mem_of_getElem? (i := 527) (by decide +kernel)⟩
theorem lw_p12 : lw_okq (⟨"SnowHut$Reader", "readGuest", "()I"⟩, 7) := ⟨⟨by decide +kernel, by decide +kernel⟩, List.mem_of_getElem? (i := 40) (by decide +kernel), List.mem_of_getElem? (i := 530) (by decide +kernel), List.mem_of_getElem? (i := 531) (by decide +kernel)⟩
def lw_privs_1 : List (MethodName × Nat) := [(⟨"SnowHut", "tell", "(I)I"⟩, 12), (⟨"SnowHut$Hut", "perform", "(I)V"⟩, 10), (⟨"SnowHut", "takeAside", "()V"⟩, 12), (⟨"SnowHut", "found", "(I)I"⟩, 12), (⟨"SnowHut", "placeRefusal", "(LSnowHut$Shelf;II)I"⟩, 12), (⟨"SnowHut", "missingRefusal", "(LSnowHut$Shelf;I)I"⟩, 12), (⟨"SnowHut$Reader", "open", "(LSnowHut$Shelf;I)V"⟩, 7), (⟨"SnowHut$Reader", "skipBlanks", "()V"⟩, 7), (⟨"SnowHut$Reader", "sign", "()I"⟩, 7), (⟨"SnowHut$Reader", "readWood", "()I"⟩, 7), (⟨"SnowHut$Reader", "figure", "(I)I"⟩, 7), (⟨"SnowHut$Reader", "readReason", "()I"⟩, 7), (⟨"SnowHut$Reader", "readGuest", "()I"⟩, 7)]
theorem lw_r1 : ∀ q ∈ lw_privs_1, lw_okq q := List.forall_mem_cons.mpr ⟨lw_p0, List.forall_mem_cons.mpr ⟨lw_p1, List.forall_mem_cons.mpr ⟨lw_p2, List.forall_mem_cons.mpr ⟨lw_p3, List.forall_mem_cons.mpr ⟨lw_p4, List.forall_mem_cons.mpr ⟨lw_p5, List.forall_mem_cons.mpr ⟨lw_p6, List.forall_mem_cons.mpr ⟨lw_p7, List.forall_mem_cons.mpr ⟨lw_p8, List.forall_mem_cons.mpr ⟨lw_p9, List.forall_mem_cons.mpr ⟨lw_p10, List.forall_mem_cons.mpr ⟨lw_p11, List.forall_mem_cons.mpr ⟨lw_p12, fun _ h => absurd h List.not_mem_nil⟩⟩⟩⟩⟩⟩⟩⟩⟩⟩⟩⟩⟩
def lw_privs : List (MethodName × Nat) := lw_privs_1
def lw_tbl : List Cond := k2_sels lw_privs ++ tables_1
theorem lw_privs_ok : ∀ q ∈ lw_privs, lw_okq q := lw_r1
-- ===== the words that a callee may be given =====
def m_tb : List Cond := lw_tbl.filter goodWord
def m_ch (c : Nat) : List Cond := match c with
  | 0 => k2_sels lw_privs
  | 1 => tables_1_1
  | 2 => tables_1_2
  | 3 => tables_1_3
  | _ => []
theorem m_ch_in {w : Cond} (c : Nat) (h : w ∈ m_ch c) : w ∈ lw_tbl := by
  unfold m_ch at h
  split at h <;> first | exact absurd h List.not_mem_nil | (simp only [lw_tbl, tables_1, List.mem_append]; simp [h])
def m_at (i : Nat) : Option Cond := (m_ch (i / 1000))[i % 1000]?
theorem m_at_in {i : Nat} {w : Cond} (h : m_at i = some w) : w ∈ lw_tbl := m_ch_in _ (List.mem_of_getElem? h)
def m_has (i : Nat) (w : Cond) : Bool := decide (m_at i = some w) && goodWord w
theorem m_has_mem {i : Nat} {w : Cond} (h : m_has i w = true) : w ∈ m_tb := by
  unfold m_has at h
  rw [Bool.and_eq_true] at h
  exact List.mem_filter.mpr ⟨m_at_in (of_decide_eq_true h.1), h.2⟩
-- ===== classes =====
def m_cn (c : Nat) : String := match c with
  | 0 => "SnowHut$Guest"
  | 1 => "SnowHut$Hut"
  | 2 => "SnowHut$Reader"
  | 3 => "SnowHut$Shelf"
  | 4 => "SnowHut$Talks"
  | 5 => "SnowHut"
  | 6 => "SnowHutLaw"
  | 7 => "java/lang/Integer"
  | 8 => "java/lang/Math"
  | _ => "java/lang/System"
def m_T0 : u_T := fun k => match k with
  | 0 => ("SnowHut$Guest", "weights", "[I", true)
  | 1 => ("SnowHut$Guest", "kind", "I", false)
  | _ => ("SnowHut$Guest", "held", "I", false)
def m_T1 : u_T := fun k => match k with
  | 0 => ("SnowHut$Hut", "atFirst", "[LSnowHut$Guest;", true)
  | 1 => ("SnowHut$Hut", "guests", "[LSnowHut$Guest;", true)
  | 2 => ("SnowHut$Hut", "deeds", "[I", true)
  | 3 => ("SnowHut$Hut", "guestCount", "I", false)
  | 4 => ("SnowHut$Hut", "woodAtFirst", "I", false)
  | 5 => ("SnowHut$Hut", "reasons", "I", false)
  | 6 => ("SnowHut$Hut", "wood", "I", false)
  | 7 => ("SnowHut$Hut", "first", "I", false)
  | 8 => ("SnowHut$Hut", "second", "I", false)
  | _ => ("SnowHut$Hut", "deedCount", "I", false)
def m_T2 : u_T := fun k => match k with
  | 0 => ("SnowHut$Reader", "guests", "[LSnowHut$Guest;", true)
  | 1 => ("SnowHut$Reader", "signs", "[I", true)
  | 2 => ("SnowHut$Reader", "size", "I", false)
  | 3 => ("SnowHut$Reader", "place", "I", false)
  | 4 => ("SnowHut$Reader", "guestCount", "I", false)
  | 5 => ("SnowHut$Reader", "wood", "I", false)
  | _ => ("SnowHut$Reader", "reasons", "I", false)
def m_T3 : u_T := fun k => match k with
  | 0 => ("SnowHut$Shelf", "sizes", "[I", true)
  | 1 => ("SnowHut$Shelf", "places", "[[I", true)
  | _ => ("SnowHut$Shelf", "most", "I", true)
def m_T4 : u_T := fun k => match k with
  | 0 => ("SnowHut$Talks", "one", "LSnowHut$Guest;", true)
  | 1 => ("SnowHut$Talks", "two", "LSnowHut$Guest;", true)
  | 2 => ("SnowHut$Talks", "reasons", "I", false)
  | 3 => ("SnowHut$Talks", "said", "[I", true)
  | 4 => ("SnowHut$Talks", "wanted", "I", false)
  | 5 => ("SnowHut$Talks", "talksFound", "J", false)
  | 6 => ("SnowHut$Talks", "inAll", "I", false)
  | 7 => ("SnowHut$Talks", "script", "[I", true)
  | 8 => ("SnowHut$Talks", "scriptSize", "I", false)
  | 9 => ("SnowHut$Talks", "unheard", "I", false)
  | _ => ("SnowHut$Talks", "chances", "[J", true)
def m_T5 : u_T := fun k => match k with
  | 0 => ("SnowHut", "rows", "LSnowHut$Shelf;", true)
  | 1 => ("SnowHut", "texts", "LSnowHut$Shelf;", true)
  | 2 => ("SnowHut", "kept", "LSnowHut$Shelf;", true)
  | 3 => ("SnowHut", "reader", "LSnowHut$Reader;", true)
  | 4 => ("SnowHut", "now", "LSnowHut$Hut;", true)
  | 5 => ("SnowHut", "aside", "LSnowHut$Talks;", true)
  | 6 => ("SnowHut", "supposed", "LSnowHut$Guest;", true)
  | 7 => ("SnowHut", "foundHowOften", "[I", true)
  | 8 => ("SnowHut", "latestFinding", "I", false)
  | 9 => ("SnowHut", "latestAsked", "I", false)
  | 10 => ("SnowHut", "latestUpper", "J", false)
  | _ => ("SnowHut", "latestLower", "J", false)
def m_cl : List vw_C := [("SnowHut$Guest", m_T0, 3), ("SnowHut$Hut", m_T1, 10), ("SnowHut$Reader", m_T2, 7), ("SnowHut$Shelf", m_T3, 3), ("SnowHut$Talks", m_T4, 11), ("SnowHut", m_T5, 12)]
-- ===== methods: class, name, code, locals, answer =====
abbrev m_M : Type := Nat × MethodName × ByteArray × Nat × Option FieldType
def m_mt_0 : List m_M := [(5, ⟨"SnowHut", "<init>", "()V"⟩, prog_1_method_1_code, 1, none), (99, ⟨"java/lang/Object", "<init>", "()V"⟩, object_method_1_code, 1, none), (3, ⟨"SnowHut$Shelf", "<init>", "(II)V"⟩, prog_5_method_1_code, 5, none), (99, ⟨"java/lang/Math", "max", "(II)I"⟩, prog_10_method_65_code, 2, (some .int)), (2, ⟨"SnowHut$Reader", "<init>", "()V"⟩, prog_4_method_1_code, 2, none), (0, ⟨"SnowHut$Guest", "<init>", "()V"⟩, prog_2_method_1_code, 1, none), (1, ⟨"SnowHut$Hut", "<init>", "()V"⟩, prog_3_method_1_code, 2, none), (4, ⟨"SnowHut$Talks", "<init>", "()V"⟩, prog_6_method_1_code, 1, none), (5, ⟨"SnowHut", "guest", "(II)I"⟩, prog_1_method_12_code, 3, (some .int)), (1, ⟨"SnowHut$Hut", "isGuest", "(I)Z"⟩, prog_3_method_10_code, 2, (some .boolean)), (1, ⟨"SnowHut$Hut", "told", "(II)I"⟩, prog_3_method_12_code, 4, (some .int)), (1, ⟨"SnowHut$Hut", "guestAt", "(I)LSnowHut$Guest;"⟩, prog_3_method_11_code, 2, (some (.object "SnowHut$Guest"))), (0, ⟨"SnowHut$Guest", "kind", "()I"⟩, prog_2_method_5_code, 1, (some .int)), (0, ⟨"SnowHut$Guest", "held", "()I"⟩, prog_2_method_6_code, 1, (some .int)), (0, ⟨"SnowHut$Guest", "weight", "(I)I"⟩, prog_2_method_7_code, 2, (some .int)), (5, ⟨"SnowHut", "isClaim", "(I)Z"⟩, prog_1_method_55_code, 1, (some .boolean)), (5, ⟨"SnowHut", "tell", "(I)I"⟩, prog_1_method_43_code, 2, (some .int))]
def m_mt_1 : List m_M := [(5, ⟨"SnowHut", "send", "(II)I"⟩, prog_1_method_16_code, 3, (some .int)), (1, ⟨"SnowHut$Hut", "areUp", "(II)Z"⟩, prog_3_method_14_code, 3, (some .boolean)), (1, ⟨"SnowHut$Hut", "hasPlace", "(I)Z"⟩, prog_3_method_6_code, 2, (some .boolean)), (1, ⟨"SnowHut$Hut", "act", "(I)V"⟩, prog_3_method_7_code, 2, none), (1, ⟨"SnowHut$Hut", "perform", "(I)V"⟩, prog_3_method_8_code, 2, none), (1, ⟨"SnowHut$Hut", "hearer", "(I)LSnowHut$Guest;"⟩, prog_3_method_18_code, 2, (some (.object "SnowHut$Guest"))), (0, ⟨"SnowHut$Guest", "hears", "(II)I"⟩, prog_2_method_12_code, 4, (some .int)), (0, ⟨"SnowHut$Guest", "moves", "(II)I"⟩, prog_2_method_11_code, 4, (some .int)), (0, ⟨"SnowHut$Guest", "movedAs", "(I)I"⟩, prog_2_method_16_code, 1, (some .int)), (0, ⟨"SnowHut$Guest", "holds", "(I)Z"⟩, prog_2_method_8_code, 2, (some .boolean)), (0, ⟨"SnowHut$Guest", "weigh", "(II)V"⟩, prog_2_method_4_code, 3, none), (99, ⟨"java/lang/Math", "min", "(II)I"⟩, prog_10_method_69_code, 2, (some .int)), (0, ⟨"SnowHut$Guest", "holdsFrom", "(I)I"⟩, prog_2_method_15_code, 1, (some .int)), (1, ⟨"SnowHut$Hut", "shared", "()I"⟩, prog_3_method_20_code, 1, (some .int)), (1, ⟨"SnowHut$Hut", "someUp", "()Z"⟩, prog_3_method_13_code, 1, (some .boolean)), (5, ⟨"SnowHut", "say", "(I)I"⟩, prog_1_method_17_code, 2, (some .int)), (5, ⟨"SnowHut", "isSaying", "(I)Z"⟩, prog_1_method_57_code, 1, (some .boolean)), (1, ⟨"SnowHut$Hut", "canSay", "(I)Z"⟩, prog_3_method_19_code, 2, (some .boolean)), (1, ⟨"SnowHut$Hut", "woodLeft", "()I"⟩, prog_3_method_21_code, 1, (some .int)), (5, ⟨"SnowHut", "wood", "()I"⟩, prog_1_method_18_code, 2, (some .int)), (1, ⟨"SnowHut$Hut", "guests", "()I"⟩, prog_3_method_9_code, 1, (some .int)), (1, ⟨"SnowHut$Hut", "woodAtFirst", "()I"⟩, prog_3_method_22_code, 1, (some .int)), (5, ⟨"SnowHut", "both", "()I"⟩, prog_1_method_22_code, 1, (some .int)), (5, ⟨"SnowHut", "takeAside", "()V"⟩, prog_1_method_54_code, 1, none), (1, ⟨"SnowHut$Hut", "firstUp", "()I"⟩, prog_3_method_16_code, 1, (some .int)), (1, ⟨"SnowHut$Hut", "secondUp", "()I"⟩, prog_3_method_17_code, 1, (some .int)), (1, ⟨"SnowHut$Hut", "reasons", "()I"⟩, prog_3_method_25_code, 1, (some .int)), (4, ⟨"SnowHut$Talks", "between", "(LSnowHut$Guest;LSnowHut$Guest;I)V"⟩, prog_6_method_2_code, 4, none), (0, ⟨"SnowHut$Guest", "beLike", "(LSnowHut$Guest;I)V"⟩, prog_2_method_3_code, 4, none), (0, ⟨"SnowHut$Guest", "be", "(I)V"⟩, prog_2_method_2_code, 2, none), (0, ⟨"SnowHut$Guest", "heldAs", "(I)I"⟩, prog_2_method_9_code, 4, (some .int)), (4, ⟨"SnowHut$Talks", "unshared", "()I"⟩, prog_6_method_6_code, 1, (some .int)), (4, ⟨"SnowHut$Talks", "shared", "()I"⟩, prog_6_method_5_code, 1, (some .int)), (5, ⟨"SnowHut", "asked", "()I"⟩, prog_1_method_36_code, 1, (some .int)), (5, ⟨"SnowHut", "count", "(I)I"⟩, prog_1_method_39_code, 2, (some .int)), (1, ⟨"SnowHut$Hut", "deeds", "()I"⟩, prog_3_method_23_code, 1, (some .int)), (1, ⟨"SnowHut$Hut", "sayingsDone", "()I"⟩, prog_3_method_24_code, 3, (some .int)), (1, ⟨"SnowHut$Hut", "whoIsUp", "()I"⟩, prog_3_method_15_code, 1, (some .int)), (7, ⟨"java/lang/Integer", "bitCount", "(I)I"⟩, prog_9_method_49_code, 1, (some .int)), (1, ⟨"SnowHut$Hut", "heldByAll", "()I"⟩, prog_3_method_27_code, 3, (some .int)), (1, ⟨"SnowHut$Hut", "bishops", "()I"⟩, prog_3_method_28_code, 3, (some .int)), (0, ⟨"SnowHut$Guest", "isOf", "(I)Z"⟩, prog_2_method_10_code, 2, (some .boolean)), (3, ⟨"SnowHut$Shelf", "there", "()I"⟩, prog_5_method_13_code, 3, (some .int)), (3, ⟨"SnowHut$Shelf", "has", "(I)Z"⟩, prog_5_method_3_code, 2, (some .boolean)), (3, ⟨"SnowHut$Shelf", "size", "(I)I"⟩, prog_5_method_4_code, 2, (some .int)), (3, ⟨"SnowHut$Shelf", "names", "(I)Z"⟩, prog_5_method_2_code, 2, (some .boolean)), (6, ⟨"SnowHutLaw", "cell", "([II)I"⟩, method_2_code, 2, (some .int)), (6, ⟨"SnowHutLaw", "less", "(II)I"⟩, method_3_code, 2, (some .int)), (6, ⟨"SnowHutLaw", "draws", "([III[II[I)V"⟩, method_6_code, 10, none), (6, ⟨"SnowHutLaw", "makes", "(LSnowHut;II[II[II)Z"⟩, method_7_code, 13, (some .boolean)), (5, ⟨"SnowHut", "text", "(II)I"⟩, prog_1_method_8_code, 3, (some .int)), (5, ⟨"SnowHut", "found", "(I)I"⟩, prog_1_method_45_code, 2, (some .int)), (3, ⟨"SnowHut$Shelf", "make", "(III)V"⟩, prog_5_method_8_code, 5, none), (6, ⟨"SnowHutLaw", "put", "(LSnowHut;II)I"⟩, method_4_code, 3, (some .int)), (5, ⟨"SnowHut", "put", "(III)I"⟩, prog_1_method_9_code, 6, (some .int)), (5, ⟨"SnowHut", "placeRefusal", "(LSnowHut$Shelf;II)I"⟩, prog_1_method_47_code, 5, (some .int)), (5, ⟨"SnowHut", "missingRefusal", "(LSnowHut$Shelf;I)I"⟩, prog_1_method_46_code, 3, (some .int))]
def m_mt_2 : List m_M := [(3, ⟨"SnowHut$Shelf", "spans", "(III)Z"⟩, prog_5_method_5_code, 4, (some .boolean)), (3, ⟨"SnowHut$Shelf", "get", "(II)I"⟩, prog_5_method_6_code, 3, (some .int)), (3, ⟨"SnowHut$Shelf", "set", "(III)V"⟩, prog_5_method_7_code, 4, none), (6, ⟨"SnowHutLaw", "letter", "(I)I"⟩, method_5_code, 1, (some .int)), (5, ⟨"SnowHut", "fault", "(I)I"⟩, prog_1_method_10_code, 3, (some .int)), (2, ⟨"SnowHut$Reader", "read", "(LSnowHut$Shelf;I)I"⟩, prog_4_method_2_code, 5, (some .int)), (2, ⟨"SnowHut$Reader", "open", "(LSnowHut$Shelf;I)V"⟩, prog_4_method_7_code, 4, none), (2, ⟨"SnowHut$Reader", "skipBlanks", "()V"⟩, prog_4_method_13_code, 2, none), (2, ⟨"SnowHut$Reader", "sign", "()I"⟩, prog_4_method_11_code, 1, (some .int)), (2, ⟨"SnowHut$Reader", "readWood", "()I"⟩, prog_4_method_8_code, 4, (some .int)), (2, ⟨"SnowHut$Reader", "figure", "(I)I"⟩, prog_4_method_12_code, 3, (some .int)), (2, ⟨"SnowHut$Reader", "readReason", "()I"⟩, prog_4_method_9_code, 3, (some .int)), (2, ⟨"SnowHut$Reader", "readGuest", "()I"⟩, prog_4_method_10_code, 5, (some .int)), (2, ⟨"SnowHut$Reader", "kindOf", "(I)I"⟩, prog_4_method_14_code, 2, (some .int)), (2, ⟨"SnowHut$Reader", "guestAt", "(I)LSnowHut$Guest;"⟩, prog_4_method_4_code, 2, (some (.object "SnowHut$Guest"))), (5, ⟨"SnowHut", "hut", "(I)I"⟩, prog_1_method_11_code, 3, (some .int)), (1, ⟨"SnowHut$Hut", "open", "(LSnowHut$Reader;)V"⟩, prog_3_method_2_code, 4, none), (2, ⟨"SnowHut$Reader", "guests", "()I"⟩, prog_4_method_3_code, 1, (some .int)), (2, ⟨"SnowHut$Reader", "woodRead", "()I"⟩, prog_4_method_5_code, 1, (some .int)), (2, ⟨"SnowHut$Reader", "reasonsRead", "()I"⟩, prog_4_method_6_code, 1, (some .int)), (1, ⟨"SnowHut$Hut", "goBack", "(I)V"⟩, prog_3_method_3_code, 3, none), (3, ⟨"SnowHut$Shelf", "dropAll", "()V"⟩, prog_5_method_10_code, 2, none), (6, ⟨"SnowHutLaw", "can", "([I[II)Z"⟩, method_14_code, 4, (some .boolean)), (6, ⟨"SnowHutLaw", "holds", "(I[II)I"⟩, method_8_code, 6, (some .int)), (6, ⟨"SnowHutLaw", "says", "(I[I[I[II)V"⟩, method_15_code, 6, none), (6, ⟨"SnowHutLaw", "hears", "(I[II[III)V"⟩, method_11_code, 7, none), (6, ⟨"SnowHutLaw", "moved", "(I[II[III)I"⟩, method_10_code, 9, (some .int)), (6, ⟨"SnowHutLaw", "told", "(I[III)Z"⟩, method_9_code, 6, (some .boolean)), (6, ⟨"SnowHutLaw", "held", "([II)I"⟩, method_16_code, 2, (some .int))]
def m_mt : List m_M := m_mt_0 ++ (m_mt_1 ++ (m_mt_2))
/-- by its number: its place in that list -/
def m_pm : List Nat := [0, 1, 2, 3, 4, 5, 6, 7, 1, 62, 68, 69, 1, 72, 73, 60, 61, 74, 75, 76, 16, 1, 1, 1, 1, 1, 1, 1, 67, 71, 78, 79, 80, 28, 81, 82, 83, 84, 85, 86, 87, 88, 46, 47, 29, 27, 15, 89, 90, 91, 92, 93, 12, 45, 14, 94, 21, 22, 11, 23, 24, 25, 26, 95, 37, 8, 9, 10, 13, 1, 58, 43, 1, 1, 55, 1, 1, 1, 1, 17, 18, 19, 20, 30, 31, 32, 33, 34, 35, 36, 38, 1, 52, 1, 1, 1, 1, 39, 40, 41, 42, 44, 48, 49, 1, 1, 1, 1, 1, 1, 1, 1, 1, 1, 1, 1, 1, 1, 1, 1, 1, 1, 1, 1, 1, 1, 1, 1, 1, 1, 1, 1, 1, 1, 1, 1, 1, 1, 1, 1, 1, 1, 1, 1, 50, 1, 1, 51, 53, 54, 56, 57, 59, 1, 1, 1, 1, 63, 64, 65, 66, 70, 77, 96, 97, 98, 99, 100, 101, 102]
def m_m (k : Nat) : m_M := m_mt.getD (m_pm.getD k 9999) (6, ⟨"SnowHutLaw", "law", "([I)Z"⟩, code, 20, some .boolean)
def m_o (k : Nat) : Nat := (m_m k).1
def m_y (k : Nat) : MethodName := (m_m k).2.1
def m_b (k : Nat) : ByteArray := (m_m k).2.2.1
def m_n (k : Nat) : Nat := (m_m k).2.2.2.1
def m_r (k : Nat) : Option FieldType := (m_m k).2.2.2.2
def m_law : Nat := 170
-- ===== links: (class, place in its pool) and what it stands for =====
def m_fl : List ((Nat × Nat) × (Nat × Nat × Nat)) := [((5, 14), (5, 0, 1168)), ((5, 18), (5, 1, 1169)), ((5, 21), (5, 2, 1170)), ((5, 27), (5, 3, 1171)), ((5, 34), (5, 4, 1172)), ((5, 41), (5, 5, 1173)), ((5, 48), (5, 6, 1174)), ((5, 52), (5, 7, 1175)), ((5, 56), (5, 8, 1176)), ((5, 60), (5, 9, 1177)), ((5, 63), (5, 10, 1178)), ((5, 67), (5, 11, 1179)), ((0, 9), (0, 0, 1052)), ((0, 15), (0, 1, 1053)), ((0, 19), (0, 2, 1054)), ((1, 11), (1, 0, 1092)), ((1, 17), (1, 1, 1093)), ((1, 20), (1, 2, 1094)), ((1, 24), (1, 3, 1095)), ((1, 28), (1, 4, 1096)), ((1, 31), (1, 5, 1097)), ((1, 34), (1, 6, 1098)), ((1, 37), (1, 7, 1099)), ((1, 40), (1, 8, 1100)), ((1, 43), (1, 9, 1101)), ((2, 11), (2, 0, 1062)), ((2, 17), (2, 1, 1063)), ((2, 21), (2, 2, 1064)), ((2, 25), (2, 3, 1065)), ((2, 28), (2, 4, 1066)), ((2, 31), (2, 5, 1067)), ((2, 34), (2, 6, 1068)), ((3, 13), (3, 2, 1030)), ((3, 19), (3, 0, 1028)), ((3, 25), (3, 1, 1029)), ((4, 12), (4, 0, 1131)), ((4, 18), (4, 1, 1132)), ((4, 21), (4, 2, 1133)), ((4, 25), (4, 3, 1134)), ((4, 29), (4, 4, 1135)), ((4, 32), (4, 5, 1136)), ((4, 36), (4, 6, 1137)), ((4, 39), (4, 7, 1138)), ((4, 42), (4, 8, 1139)), ((4, 45), (4, 9, 1140)), ((4, 48), (4, 10, 1141))]
def m_il_0 : List ((Nat × Nat) × (Nat × Nat × Nat × Nat × Nat × Nat × Nat)) := [((5, 11), (2, 2, 2, 1019, 1020, 0, 1002)), ((5, 26), (2, 4, 0, 1041, 1042, 0, 1004)), ((5, 33), (2, 6, 0, 1086, 1087, 0, 1006)), ((5, 40), (4, 7, 0, 0, 1126, 0, 1007)), ((5, 47), (4, 5, 0, 0, 1049, 0, 1005)), ((5, 70), (0, 9, 1, 2213, 2192, 2193, 1002)), ((5, 74), (0, 10, 1, 2214, 2216, 3, 1001)), ((5, 78), (0, 11, 3, 2218, 2219, 2220, 1002)), ((5, 82), (0, 13, 3, 2229, 2231, 4, 1001)), ((5, 86), (0, 18, 2, 3002, 3003, 3004, 1002)), ((5, 90), (0, 19, 3, 3007, 3008, 3009, 1002)), ((5, 96), (0, 14, 2, 2233, 2235, 5, 1001)), ((5, 122), (0, 31, 2, 3018, 3019, 3020, 1004)), ((5, 125), (0, 48, 1, 3068, 3069, 3070, 1006)), ((5, 129), (0, 63, 0, 3092, 3093, 3094, 1002)), ((5, 132), (0, 64, 0, 2085, 2086, 2087, 1006)), ((5, 136), (0, 66, 1, 1209, 1210, 1211, 1006)), ((5, 139), (0, 67, 2, 1213, 1214, 1215, 1006)), ((5, 93), (0, 20, 1, 1236, 1238, 0, 1001)), ((5, 181), (0, 80, 2, 2004, 2005, 2006, 1006)), ((5, 185), (0, 81, 1, 2008, 2009, 2010, 1006)), ((5, 188), (0, 82, 1, 2012, 2013, 2014, 1006)), ((5, 191), (0, 83, 0, 2055, 2056, 2057, 1006)), ((5, 194), (1, 86, 1, 2067, 2068, 0, 1001)), ((5, 197), (0, 87, 1, 2070, 2071, 2072, 1006)), ((5, 200), (0, 88, 0, 2075, 2076, 2077, 1006)), ((5, 203), (0, 57, 1, 2079, 2021, 2022, 1006)), ((5, 206), (0, 54, 1, 2080, 1230, 1231, 1005)), ((5, 209), (0, 90, 0, 2089, 2090, 2091, 1006)), ((5, 225), (0, 84, 0, 2097, 2060, 2061, 1006)), ((5, 229), (0, 98, 0, 2098, 2100, 2, 1001)), ((5, 232), (0, 102, 0, 2132, 2133, 2134, 1007)), ((5, 235), (0, 103, 0, 2137, 2138, 2139, 1007)), ((5, 212), (0, 92, 0, 2149, 2150, 2151, 1006)), ((5, 297), (0, 148, 0, 2153, 2154, 2155, 1006)), ((5, 300), (0, 149, 0, 2157, 2158, 2159, 1006)), ((5, 149), (0, 71, 0, 2111, 2112, 2113, 1006)), ((5, 161), (1, 74, 1, 2161, 2162, 0, 1008)), ((5, 303), (0, 150, 0, 2167, 2168, 2169, 1006)), ((5, 306), (0, 151, 0, 2171, 2172, 2173, 1006)), ((5, 309), (0, 152, 0, 2179, 2180, 2181, 1002)), ((5, 104), (0, 15, 1, 2237, 2184, 2185, 1002)), ((5, 107), (0, 17, 3, 2238, 2239, 3000, 1002)), ((5, 345), (0, 99, 0, 2102, 2103, 2104, 1006)), ((5, 142), (0, 58, 1, 2106, 1218, 1219, 1006)), ((5, 348), (0, 100, 0, 2107, 2108, 2109, 1006)), ((5, 259), (0, 101, 3, 2115, 2116, 2117, 1007)), ((0, 22), (0, 43, 1, 2128, 2129, 2130, 1005)), ((0, 26), (0, 54, 1, 2028, 1230, 1231, 1005)), ((0, 29), (0, 42, 1, 2124, 2125, 2126, 1005)), ((0, 33), (3, 46, 1, 0, 1234, 0, 1001)), ((0, 46), (1, 44, 1, 2050, 2051, 0, 1005)), ((0, 49), (1, 61, 1, 2033, 2034, 0, 1005)), ((0, 52), (0, 62, 1, 2038, 2039, 2040, 1005)), ((0, 55), (0, 60, 2, 2029, 2030, 2031, 1005)), ((0, 58), (0, 45, 2, 2042, 2043, 2044, 1005)), ((1, 46), (4, 5, 0, 0, 1049, 0, 1005)), ((1, 47), (0, 49, 0, 3072, 3073, 3074, 1004)), ((1, 58), (0, 50, 0, 3077, 3078, 3079, 1004)), ((1, 61), (0, 51, 0, 3081, 3082, 3083, 1004))]
def m_il_1 : List ((Nat × Nat) × (Nat × Nat × Nat × Nat × Nat × Nat × Nat)) := [((1, 64), (0, 41, 1, 3085, 3059, 3060, 1004)), ((1, 68), (0, 52, 0, 1221, 1222, 1223, 1005)), ((1, 71), (0, 53, 2, 3086, 2121, 2122, 1005)), ((1, 75), (0, 55, 1, 3087, 3088, 3089, 1006)), ((1, 82), (0, 56, 1, 2016, 2018, 1, 1006)), ((1, 101), (0, 57, 1, 2020, 2021, 2022, 1006)), ((1, 104), (0, 59, 2, 2024, 2025, 2026, 1005)), ((1, 107), (0, 58, 1, 1217, 1218, 1219, 1006)), ((1, 108), (0, 68, 0, 1225, 1226, 1227, 1005)), ((1, 111), (0, 54, 1, 1229, 1230, 1231, 1005)), ((1, 114), (0, 84, 0, 2059, 2060, 2061, 1006)), ((1, 118), (0, 62, 1, 2074, 2039, 2040, 1005)), ((1, 122), (0, 70, 1, 2175, 2176, 2177, 1005)), ((2, 37), (4, 5, 0, 0, 1049, 0, 1005)), ((2, 38), (0, 32, 2, 3022, 3024, 6, 1004)), ((2, 42), (0, 34, 0, 3029, 3031, 7, 1004)), ((2, 45), (0, 36, 0, 3037, 3039, 9, 1004)), ((2, 49), (0, 35, 0, 3033, 3035, 8, 1004)), ((2, 52), (0, 38, 0, 3045, 3047, 11, 1004)), ((2, 55), (0, 39, 0, 3049, 3051, 12, 1004)), ((2, 58), (0, 16, 1, 3026, 2188, 2189, 1002)), ((2, 69), (0, 18, 2, 3028, 3003, 3004, 1002)), ((2, 72), (0, 37, 1, 3041, 3043, 10, 1004)), ((2, 75), (1, 40, 1, 3053, 3054, 0, 1004)), ((2, 78), (0, 41, 1, 3058, 3059, 3060, 1004)), ((2, 82), (0, 42, 1, 3062, 2125, 2126, 1005)), ((2, 86), (0, 45, 2, 3063, 2043, 2044, 1005)), ((3, 28), (0, 16, 1, 2187, 2188, 2189, 1002)), ((3, 32), (0, 9, 1, 2191, 2192, 2193, 1002)), ((3, 36), (0, 15, 1, 2183, 2184, 2185, 1002)), ((3, 39), (0, 17, 3, 3006, 2239, 3000, 1002)), ((4, 11), (4, 5, 0, 0, 1049, 0, 1005)), ((4, 52), (0, 52, 0, 2119, 1222, 1223, 1005)), ((4, 56), (0, 53, 2, 2120, 2121, 2122, 1005)), ((4, 67), (0, 68, 0, 2136, 1226, 1227, 1005)), ((6, 9), (0, 29, 3, 2225, 2226, 2227, 1001)), ((6, 15), (1, 157, 2, 2195, 2196, 0, 1000)), ((6, 21), (1, 158, 2, 2199, 2200, 0, 1000)), ((6, 25), (0, 28, 2, 2209, 2210, 2211, 1001)), ((6, 28), (1, 161, 3, 2222, 2223, 0, 1000)), ((6, 31), (1, 162, 1, 3011, 3012, 0, 1000)), ((6, 35), (0, 30, 1, 3014, 3015, 3016, 1001)), ((6, 38), (0, 47, 1, 3064, 3065, 3066, 1001)), ((6, 41), (1, 164, 3, 3099, 3100, 0, 1000)), ((6, 45), (1, 168, 4, 3111, 3112, 0, 1000)), ((6, 49), (1, 167, 6, 3108, 3109, 0, 1000)), ((6, 53), (1, 166, 6, 3105, 3106, 0, 1000)), ((6, 57), (2, 0, 0, 1011, 1012, 0, 1001)), ((6, 58), (1, 159, 6, 2203, 2204, 0, 1000)), ((6, 62), (1, 160, 7, 2206, 2207, 0, 1000)), ((6, 66), (0, 79, 2, 2000, 2001, 2002, 1001)), ((6, 69), (1, 169, 2, 3114, 3115, 0, 1000)), ((6, 72), (0, 89, 0, 2081, 2082, 2083, 1001)), ((6, 76), (1, 163, 3, 3096, 3097, 0, 1000)), ((6, 80), (1, 165, 5, 3102, 3103, 0, 1000)), ((6, 84), (0, 85, 1, 2063, 2064, 2065, 1001)), ((6, 87), (0, 97, 0, 2093, 2094, 2095, 1001)), ((6, 90), (0, 147, 1, 2145, 2146, 2147, 1001)), ((6, 93), (0, 65, 2, 1205, 1206, 1207, 1001)), ((6, 96), (0, 144, 0, 2141, 2142, 2143, 1001))]
def m_il : List ((Nat × Nat) × (Nat × Nat × Nat × Nat × Nat × Nat × Nat)) := m_il_0 ++ (m_il_1)
def m_oi : List ((Nat × Nat) × Nat) := [((5, 1), 1014), ((0, 3), 1051), ((1, 3), 1089), ((2, 3), 1044), ((3, 1), 1022), ((4, 3), 1128)]
def m_ac : List ((Nat × Nat) × Nat) := []
def m_mm : List ((Nat × Nat) × (Nat × Nat)) := [((0, 37), (1, 2046)), ((0, 43), (0, 2049)), ((1, 52), (1, 3076)), ((1, 79), (0, 3091)), ((2, 63), (1, 3027)), ((3, 7), (0, 1023))]
def m_nl : List ((Nat × Nat) × (Nat × Nat × Nat × Nat)) := [((5, 7), (3, 1017, 1018, 1002)), ((5, 24), (2, 1039, 1040, 1004)), ((5, 31), (1, 1084, 1085, 1006)), ((5, 38), (4, 1123, 1124, 1007)), ((5, 45), (0, 1166, 1047, 1005)), ((1, 9), (0, 1090, 1047, 1005)), ((2, 9), (0, 1045, 1047, 1005)), ((4, 9), (0, 1129, 1047, 1005)), ((6, 10), (5, 1009, 1010, 1001))]
def m_al : List ((Nat × Nat) × Nat) := [((1, 9), 1090), ((2, 9), 1045)]
def m_ml : List ((Nat × Nat) × Nat) := [((3, 23), 1026)]
def m_k32 : List ((Nat × Nat) × (Int32 × Nat)) := [((6, 7), (495397697, 2198)), ((6, 8), (2147483647, 2202)), ((7, 265), (1431655765, 2164)), ((7, 266), (858993459, 2165)), ((7, 267), (252645135, 2166))]
def m_k64 : List ((Nat × Nat) × (Int64 × Nat)) := []
def m_gl : List ((Nat × Nat) × Nat) := [((0, 62), 1001), ((0, 65), 1003), ((2, 90), 1002)]
def m_sx : List (Nat × String × List Int32) := [(1001, "HOLDS_FROM", [5, 5, 5, 5, 7, 3]), (1002, "LETTERS", [103, 98, 97, 109, 99, 104]), (1003, "MOVED_AS", [0, 1, 2, 3, 1, 2])]
def m_nw : List Cond := [.methodLinkNest "SnowHut" 40 ⟨"SnowHut$Talks", "<init>", "()V"⟩ "SnowHut", .methodLinkNest "SnowHut" 47 ⟨"SnowHut$Guest", "<init>", "()V"⟩ "SnowHut", .methodLinkNest "SnowHut$Guest" 33 ⟨"SnowHut", "isClaim", "(I)Z"⟩ "SnowHut", .fieldLinkNest "SnowHut$Guest" 62 "SnowHut" "HOLDS_FROM" "[I" "SnowHut", .fieldLinkNest "SnowHut$Guest" 65 "SnowHut" "MOVED_AS" "[I" "SnowHut", .methodLinkNest "SnowHut$Hut" 46 ⟨"SnowHut$Guest", "<init>", "()V"⟩ "SnowHut", .methodLinkNest "SnowHut$Reader" 37 ⟨"SnowHut$Guest", "<init>", "()V"⟩ "SnowHut", .fieldLinkNest "SnowHut$Reader" 90 "SnowHut" "LETTERS" "[I" "SnowHut", .methodLinkNest "SnowHut$Talks" 11 ⟨"SnowHut$Guest", "<init>", "()V"⟩ "SnowHut"]
-- ===== the checks =====
def m_flc (e : (Nat × Nat) × (Nat × Nat × Nat)) : Bool := match m_cl[e.2.1]? with
  | some (C, T, N) => decide (e.2.2.1 < N) && decide ((T e.2.2.1).1 = C) && m_has e.2.2.2 (.fieldLink (m_cn e.1.1) e.1.2 C (T e.2.2.1).2.1 (T e.2.2.1).2.2.1)
  | none => false
theorem m_fl_ok : m_fl.all m_flc = true := by decide +kernel
def m_ilc (e : (Nat × Nat) × (Nat × Nat × Nat × Nat × Nat × Nat × Nat)) : Bool :=
  let o := m_cn e.1.1; let ix := e.1.2; let y := m_y e.2.2.1; let n := e.2.2.2.1; let w1 := e.2.2.2.2.1; let w2 := e.2.2.2.2.2.1; let w3 := e.2.2.2.2.2.2.1; let w4 := e.2.2.2.2.2.2.2
  decide (e.2.2.1 < m_law) && decide (m_o e.2.2.1 < 8) && decide (y.cls ≠ "java/lang/invoke/MethodHandle") && decide (y.cls ≠ "java/lang/invoke/VarHandle") && decide ((parseMethodDescriptor y.desc).map (fun d => d.parameters.length) = some n) && m_has w4 (.initialized y.cls) &&
  (match e.2.1 with
  | 0 => m_has w1 (.methodLink o ix y) && m_has w2 (.instanceMethod y) && m_has w3 (.selects y.cls y y)
  | 1 => m_has w1 (.methodLink o ix y) && m_has w2 (.static y)
  | 2 => m_has w1 (.methodLink o ix y) && m_has w2 (.instanceMethod y) && decide (y.name = "<init>") && decide (m_r e.2.2.1 = none)
  | 3 => decide (Cond.methodLinkNest o ix y "SnowHut" ∈ m_nw) && m_has w2 (.static y)
  | 4 => decide (Cond.methodLinkNest o ix y "SnowHut" ∈ m_nw) && m_has w2 (.instanceMethod y) && decide (y.name = "<init>") && decide (m_r e.2.2.1 = none)
  | _ => false)

section
-- ===== PART A: goes FIRST, ahead of the names: the tables' words, and 'selects' of the private methods out of them =====
/-- a private method of a class that the tables say can be made, by its rows of tables_1 -/
def lw_okq (q : MethodName × Nat) : Prop := (q.1.cls ≠ "java/lang/invoke/MethodHandle" ∧ q.1.cls ≠ "java/lang/invoke/VarHandle") ∧ Cond.instantiable q.1.cls q.2 ∈ tables_1 ∧ Cond.privateMethod q.1 ∈ tables_1 ∧ Cond.instanceMethod q.1 ∈ tables_1
theorem lw_p0 : lw_okq (⟨"SnowHut", "tell", "(I)I"⟩, 12) := ⟨⟨by decide +kernel, by decide +kernel⟩, List.mem_of_getElem? (i := 10) (by decide +kernel), List.mem_of_getElem? (i := 237) (by decide +kernel), List.mem_of_getElem? (i := 238) (by decide +kernel)⟩
theorem lw_p1 : lw_okq (⟨"SnowHut$Hut", "perform", "(I)V"⟩, 10) := ⟨⟨by decide +kernel, by decide +kernel⟩, List.mem_of_getElem? (i := 85) (by decide +kernel), List.mem_of_getElem? (i := 257) (by decide +kernel), List.mem_of_getElem? (i := 258) (by decide +kernel)⟩
theorem lw_p2 : lw_okq (⟨"SnowHut", "takeAside", "()V"⟩, 12) := ⟨⟨by decide +kernel, by decide +kernel⟩, List.mem_of_getElem? (i := 10) (by decide +kernel), List.mem_of_getElem? (i := 339) (by decide +kernel), List.mem_of_getElem? (i := 340) (by decide +kernel)⟩
theorem lw_p3 : lw_okq (⟨"SnowHut", "found", "(I)I"⟩, 12) := ⟨⟨by decide +kernel, by decide +kernel⟩, List.mem_of_getElem? (i := 10) (by decide +kernel), List.mem_of_getElem? (i := 455) (by decide +kernel), List.mem_of_getElem? (i := 456) (by decide +kernel)⟩
theorem lw_p4 : lw_okq (⟨"SnowHut", "placeRefusal", "(LSnowHut$Shelf;II)I"⟩, 12) := ⟨⟨by decide +kernel, by decide +kernel⟩, List.mem_of_getElem? (i := 10) (by decide +kernel), List.mem_of_getElem? (i := 470) (by decide +kernel), List.mem_of_getElem? (i := 471) (by decide +kernel)⟩
theorem lw_p5 : lw_okq (⟨"SnowHut", "missingRefusal", "(LSnowHut$Shelf;I)I"⟩, 12) := ⟨⟨by decide +kernel, by decide +kernel⟩, List.mem_of_getElem? (i := 10) (by decide +kernel), List.mem_of_getElem? (i := 474) (by decide +kernel), List.mem_of_getElem? (i := 475) (by decide +kernel)⟩
theorem lw_p6 : lw_okq (⟨"SnowHut$Reader", "open", "(LSnowHut$Shelf;I)V"⟩, 7) := ⟨⟨by decide +kernel, by decide +kernel⟩, List.mem_of_getElem? (i := 40) (by decide +kernel), List.mem_of_getElem? (i := 503) (by decide +kernel), List.mem_of_getElem? (i := 504) (by decide +kernel)⟩
theorem lw_p7 : lw_okq (⟨"SnowHut$Reader", "skipBlanks", "()V"⟩, 7) := ⟨⟨by decide +kernel, by decide +kernel⟩, List.mem_of_getElem? (i := 40) (by decide +kernel), List.mem_of_getElem? (i := 510) (by decide +kernel), List.mem_of_getElem? (i := 511) (by decide +kernel)⟩
theorem lw_p8 : lw_okq (⟨"SnowHut$Reader", "sign", "()I"⟩, 7) := ⟨⟨by decide +kernel, by decide +kernel⟩, List.mem_of_getElem? (i := 40) (by decide +kernel), List.mem_of_getElem? (i := 514) (by decide +kernel), List.mem_of_getElem? (i := 515) (by decide +kernel)⟩
theorem lw_p9 : lw_okq (⟨"SnowHut$Reader", "readWood", "()I"⟩, 7) := ⟨⟨by decide +kernel, by decide +kernel⟩, List.mem_of_getElem? (i := 40) (by decide +kernel), List.mem_of_getElem? (i := 518) (by decide +kernel), List.mem_of_getElem? (i := 519) (by decide +kernel)⟩
theorem lw_p10 : lw_okq (⟨"SnowHut$Reader", "figure", "(I)I"⟩, 7) := ⟨⟨by decide +kernel, by decide +kernel⟩, List.mem_of_getElem? (i := 40) (by decide +kernel), List.mem_of_getElem? (i := 522) (by decide +kernel), List.mem_of_getElem? (i := 523) (by decide +kernel)⟩
theorem lw_p11 : lw_okq (⟨"SnowHut$Reader", "readReason", "()I"⟩, 7) := ⟨⟨by decide +kernel, by decide +kernel⟩, List.mem_of_getElem? (i := 40) (by decide +kernel), List.mem_of_getElem? (i := 526) (by decide +kernel), List.mem_of_getElem? (i := 527) (by decide +kernel)⟩
theorem lw_p12 : lw_okq (⟨"SnowHut$Reader", "readGuest", "()I"⟩, 7) := ⟨⟨by decide +kernel, by decide +kernel⟩, List.mem_of_getElem? (i := 40) (by decide +kernel), List.mem_of_getElem? (i := 530) (by decide +kernel), List.mem_of_getElem? (i := 531) (by decide +kernel)⟩
def lw_privs_1 : List (MethodName × Nat) := [(⟨"SnowHut", "tell", "(I)I"⟩, 12), (⟨"SnowHut$Hut", "perform", "(I)V"⟩, 10), (⟨"SnowHut", "takeAside", "()V"⟩, 12), (⟨"SnowHut", "found", "(I)I"⟩, 12), (⟨"SnowHut", "placeRefusal", "(LSnowHut$Shelf;II)I"⟩, 12), (⟨"SnowHut", "missingRefusal", "(LSnowHut$Shelf;I)I"⟩, 12), (⟨"SnowHut$Reader", "open", "(LSnowHut$Shelf;I)V"⟩, 7), (⟨"SnowHut$Reader", "skipBlanks", "()V"⟩, 7), (⟨"SnowHut$Reader", "sign", "()I"⟩, 7), (⟨"SnowHut$Reader", "readWood", "()I"⟩, 7), (⟨"SnowHut$Reader", "figure", "(I)I"⟩, 7), (⟨"SnowHut$Reader", "readReason", "()I"⟩, 7), (⟨"SnowHut$Reader", "readGuest", "()I"⟩, 7)]
theorem lw_r1 : ∀ q ∈ lw_privs_1, lw_okq q := List.forall_mem_cons.mpr ⟨lw_p0, List.forall_mem_cons.mpr ⟨lw_p1, List.forall_mem_cons.mpr ⟨lw_p2, List.forall_mem_cons.mpr ⟨lw_p3, List.forall_mem_cons.mpr ⟨lw_p4, List.forall_mem_cons.mpr ⟨lw_p5, List.forall_mem_cons.mpr ⟨lw_p6, List.forall_mem_cons.mpr ⟨lw_p7, List.forall_mem_cons.mpr ⟨lw_p8, List.forall_mem_cons.mpr ⟨lw_p9, List.forall_mem_cons.mpr ⟨lw_p10, List.forall_mem_cons.mpr ⟨lw_p11, List.forall_mem_cons.mpr ⟨lw_p12, fun _ h => absurd h List.not_mem_nil⟩⟩⟩⟩⟩⟩⟩⟩⟩⟩⟩⟩⟩
def lw_privs : List (MethodName × Nat) := lw_privs_1
def lw_tbl : List Cond := k2_sels lw_privs ++ tables_1
theorem lw_privs_ok : ∀ q ∈ lw_privs, lw_okq q := lw_r1
-- ===== the words that a callee may be given =====
def m_tb : List Cond := lw_tbl.filter goodWord
def m_ch (c : Nat) : List Cond := match c with
  | 0 => k2_sels lw_privs
  | 1 => tables_1_1
  | 2 => tables_1_2
  | 3 => tables_1_3
  | _ => []
theorem m_ch_in {w : Cond} (c : Nat) (h : w ∈ m_ch c) : w ∈ lw_tbl := by
  unfold m_ch at h
  split at h <;> first | exact absurd h List.not_mem_nil | (simp only [lw_tbl, tables_1, List.mem_append]; simp [h])
def m_at (i : Nat) : Option Cond := (m_ch (i / 1000))[i % 1000]?
theorem m_at_in {i : Nat} {w : Cond} (h : m_at i = some w) : w ∈ lw_tbl := m_ch_in _ (List.mem_of_getElem? h)
def m_has (i : Nat) (w : Cond) : Bool := decide (m_at i = some w) && goodWord w
theorem m_has_mem {i : Nat} {w : Cond} (h : m_has i w = true) : w ∈ m_tb := by
  unfold m_has at h
  rw [Bool.and_eq_true] at h
  exact List.mem_filter.mpr ⟨m_at_in (of_decide_eq_true h.1), h.2⟩
-- ===== classes =====
def m_cn (c : Nat) : String := match c with
  | 0 => "SnowHut$Guest"
  | 1 => "SnowHut$Hut"
  | 2 => "SnowHut$Reader"
  | 3 => "SnowHut$Shelf"
  | 4 => "SnowHut$Talks"
  | 5 => "SnowHut"
  | 6 => "SnowHutLaw"
  | 7 => "java/lang/Integer"
  | 8 => "java/lang/Math"
  | _ => "java/lang/System"
def m_T0 : u_T := fun k => match k with
  | 0 => ("SnowHut$Guest", "weights", "[I", true)
  | 1 => ("SnowHut$Guest", "kind", "I", false)
  | _ => ("SnowHut$Guest", "held", "I", false)
def m_T1 : u_T := fun k => match k with
  | 0 => ("SnowHut$Hut", "atFirst", "[LSnowHut$Guest;", true)
  | 1 => ("SnowHut$Hut", "guests", "[LSnowHut$Guest;", true)
  | 2 => ("SnowHut$Hut", "deeds", "[I", true)
  | 3 => ("SnowHut$Hut", "guestCount", "I", false)
  | 4 => ("SnowHut$Hut", "woodAtFirst", "I", false)
  | 5 => ("SnowHut$Hut", "reasons", "I", false)
  | 6 => ("SnowHut$Hut", "wood", "I", false)
  | 7 => ("SnowHut$Hut", "first", "I", false)
  | 8 => ("SnowHut$Hut", "second", "I", false)
  | _ => ("SnowHut$Hut", "deedCount", "I", false)
def m_T2 : u_T := fun k => match k with
  | 0 => ("SnowHut$Reader", "guests", "[LSnowHut$Guest;", true)
  | 1 => ("SnowHut$Reader", "signs", "[I", true)
  | 2 => ("SnowHut$Reader", "size", "I", false)
  | 3 => ("SnowHut$Reader", "place", "I", false)
  | 4 => ("SnowHut$Reader", "guestCount", "I", false)
  | 5 => ("SnowHut$Reader", "wood", "I", false)
  | _ => ("SnowHut$Reader", "reasons", "I", false)
def m_T3 : u_T := fun k => match k with
  | 0 => ("SnowHut$Shelf", "sizes", "[I", true)
  | 1 => ("SnowHut$Shelf", "places", "[[I", true)
  | _ => ("SnowHut$Shelf", "most", "I", true)
def m_T4 : u_T := fun k => match k with
  | 0 => ("SnowHut$Talks", "one", "LSnowHut$Guest;", true)
  | 1 => ("SnowHut$Talks", "two", "LSnowHut$Guest;", true)
  | 2 => ("SnowHut$Talks", "reasons", "I", false)
  | 3 => ("SnowHut$Talks", "said", "[I", true)
  | 4 => ("SnowHut$Talks", "wanted", "I", false)
  | 5 => ("SnowHut$Talks", "talksFound", "J", false)
  | 6 => ("SnowHut$Talks", "inAll", "I", false)
  | 7 => ("SnowHut$Talks", "script", "[I", true)
  | 8 => ("SnowHut$Talks", "scriptSize", "I", false)
  | 9 => ("SnowHut$Talks", "unheard", "I", false)
  | _ => ("SnowHut$Talks", "chances", "[J", true)
def m_T5 : u_T := fun k => match k with
  | 0 => ("SnowHut", "rows", "LSnowHut$Shelf;", true)
  | 1 => ("SnowHut", "texts", "LSnowHut$Shelf;", true)
  | 2 => ("SnowHut", "kept", "LSnowHut$Shelf;", true)
  | 3 => ("SnowHut", "reader", "LSnowHut$Reader;", true)
  | 4 => ("SnowHut", "now", "LSnowHut$Hut;", true)
  | 5 => ("SnowHut", "aside", "LSnowHut$Talks;", true)
  | 6 => ("SnowHut", "supposed", "LSnowHut$Guest;", true)
  | 7 => ("SnowHut", "foundHowOften", "[I", true)
  | 8 => ("SnowHut", "latestFinding", "I", false)
  | 9 => ("SnowHut", "latestAsked", "I", false)
  | 10 => ("SnowHut", "latestUpper", "J", false)
  | _ => ("SnowHut", "latestLower", "J", false)
def m_cl : List vw_C := [("SnowHut$Guest", m_T0, 3), ("SnowHut$Hut", m_T1, 10), ("SnowHut$Reader", m_T2, 7), ("SnowHut$Shelf", m_T3, 3), ("SnowHut$Talks", m_T4, 11), ("SnowHut", m_T5, 12)]
-- ===== methods: class, name, code, locals, answer =====
abbrev m_M : Type := Nat × MethodName × ByteArray × Nat × Option FieldType
def m_mt_0 : List m_M := [(5, ⟨"SnowHut", "<init>", "()V"⟩, prog_1_method_1_code, 1, none), (99, ⟨"java/lang/Object", "<init>", "()V"⟩, object_method_1_code, 1, none), (3, ⟨"SnowHut$Shelf", "<init>", "(II)V"⟩, prog_5_method_1_code, 5, none), (99, ⟨"java/lang/Math", "max", "(II)I"⟩, prog_10_method_65_code, 2, (some .int)), (2, ⟨"SnowHut$Reader", "<init>", "()V"⟩, prog_4_method_1_code, 2, none), (0, ⟨"SnowHut$Guest", "<init>", "()V"⟩, prog_2_method_1_code, 1, none), (1, ⟨"SnowHut$Hut", "<init>", "()V"⟩, prog_3_method_1_code, 2, none), (4, ⟨"SnowHut$Talks", "<init>", "()V"⟩, prog_6_method_1_code, 1, none), (5, ⟨"SnowHut", "guest", "(II)I"⟩, prog_1_method_12_code, 3, (some .int)), (1, ⟨"SnowHut$Hut", "isGuest", "(I)Z"⟩, prog_3_method_10_code, 2, (some .boolean)), (1, ⟨"SnowHut$Hut", "told", "(II)I"⟩, prog_3_method_12_code, 4, (some .int)), (1, ⟨"SnowHut$Hut", "guestAt", "(I)LSnowHut$Guest;"⟩, prog_3_method_11_code, 2, (some (.object "SnowHut$Guest"))), (0, ⟨"SnowHut$Guest", "kind", "()I"⟩, prog_2_method_5_code, 1, (some .int)), (0, ⟨"SnowHut$Guest", "held", "()I"⟩, prog_2_method_6_code, 1, (some .int)), (0, ⟨"SnowHut$Guest", "weight", "(I)I"⟩, prog_2_method_7_code, 2, (some .int)), (5, ⟨"SnowHut", "isClaim", "(I)Z"⟩, prog_1_method_55_code, 1, (some .boolean)), (5, ⟨"SnowHut", "tell", "(I)I"⟩, prog_1_method_43_code, 2, (some .int))]
def m_mt_1 : List m_M := [(5, ⟨"SnowHut", "send", "(II)I"⟩, prog_1_method_16_code, 3, (some .int)), (1, ⟨"SnowHut$Hut", "areUp", "(II)Z"⟩, prog_3_method_14_code, 3, (some .boolean)), (1, ⟨"SnowHut$Hut", "hasPlace", "(I)Z"⟩, prog_3_method_6_code, 2, (some .boolean)), (1, ⟨"SnowHut$Hut", "act", "(I)V"⟩, prog_3_method_7_code, 2, none), (1, ⟨"SnowHut$Hut", "perform", "(I)V"⟩, prog_3_method_8_code, 2, none), (1, ⟨"SnowHut$Hut", "hearer", "(I)LSnowHut$Guest;"⟩, prog_3_method_18_code, 2, (some (.object "SnowHut$Guest"))), (0, ⟨"SnowHut$Guest", "hears", "(II)I"⟩, prog_2_method_12_code, 4, (some .int)), (0, ⟨"SnowHut$Guest", "moves", "(II)I"⟩, prog_2_method_11_code, 4, (some .int)), (0, ⟨"SnowHut$Guest", "movedAs", "(I)I"⟩, prog_2_method_16_code, 1, (some .int)), (0, ⟨"SnowHut$Guest", "holds", "(I)Z"⟩, prog_2_method_8_code, 2, (some .boolean)), (0, ⟨"SnowHut$Guest", "weigh", "(II)V"⟩, prog_2_method_4_code, 3, none), (99, ⟨"java/lang/Math", "min", "(II)I"⟩, prog_10_method_69_code, 2, (some .int)), (0, ⟨"SnowHut$Guest", "holdsFrom", "(I)I"⟩, prog_2_method_15_code, 1, (some .int)), (1, ⟨"SnowHut$Hut", "shared", "()I"⟩, prog_3_method_20_code, 1, (some .int)), (1, ⟨"SnowHut$Hut", "someUp", "()Z"⟩, prog_3_method_13_code, 1, (some .boolean)), (5, ⟨"SnowHut", "say", "(I)I"⟩, prog_1_method_17_code, 2, (some .int)), (5, ⟨"SnowHut", "isSaying", "(I)Z"⟩, prog_1_method_57_code, 1, (some .boolean)), (1, ⟨"SnowHut$Hut", "canSay", "(I)Z"⟩, prog_3_method_19_code, 2, (some .boolean)), (1, ⟨"SnowHut$Hut", "woodLeft", "()I"⟩, prog_3_method_21_code, 1, (some .int)), (5, ⟨"SnowHut", "wood", "()I"⟩, prog_1_method_18_code, 2, (some .int)), (1, ⟨"SnowHut$Hut", "guests", "()I"⟩, prog_3_method_9_code, 1, (some .int)), (1, ⟨"SnowHut$Hut", "woodAtFirst", "()I"⟩, prog_3_method_22_code, 1, (some .int)), (5, ⟨"SnowHut", "both", "()I"⟩, prog_1_method_22_code, 1, (some .int)), (5, ⟨"SnowHut", "takeAside", "()V"⟩, prog_1_method_54_code, 1, none), (1, ⟨"SnowHut$Hut", "firstUp", "()I"⟩, prog_3_method_16_code, 1, (some .int)), (1, ⟨"SnowHut$Hut", "secondUp", "()I"⟩, prog_3_method_17_code, 1, (some .int)), (1, ⟨"SnowHut$Hut", "reasons", "()I"⟩, prog_3_method_25_code, 1, (some .int)), (4, ⟨"SnowHut$Talks", "between", "(LSnowHut$Guest;LSnowHut$Guest;I)V"⟩, prog_6_method_2_code, 4, none), (0, ⟨"SnowHut$Guest", "beLike", "(LSnowHut$Guest;I)V"⟩, prog_2_method_3_code, 4, none), (0, ⟨"SnowHut$Guest", "be", "(I)V"⟩, prog_2_method_2_code, 2, none), (0, ⟨"SnowHut$Guest", "heldAs", "(I)I"⟩, prog_2_method_9_code, 4, (some .int)), (4, ⟨"SnowHut$Talks", "unshared", "()I"⟩, prog_6_method_6_code, 1, (some .int)), (4, ⟨"SnowHut$Talks", "shared", "()I"⟩, prog_6_method_5_code, 1, (some .int)), (5, ⟨"SnowHut", "asked", "()I"⟩, prog_1_method_36_code, 1, (some .int)), (5, ⟨"SnowHut", "count", "(I)I"⟩, prog_1_method_39_code, 2, (some .int)), (1, ⟨"SnowHut$Hut", "deeds", "()I"⟩, prog_3_method_23_code, 1, (some .int)), (1, ⟨"SnowHut$Hut", "sayingsDone", "()I"⟩, prog_3_method_24_code, 3, (some .int)), (1, ⟨"SnowHut$Hut", "whoIsUp", "()I"⟩, prog_3_method_15_code, 1, (some .int)), (7, ⟨"java/lang/Integer", "bitCount", "(I)I"⟩, prog_9_method_49_code, 1, (some .int)), (1, ⟨"SnowHut$Hut", "heldByAll", "()I"⟩, prog_3_method_27_code, 3, (some .int)), (1, ⟨"SnowHut$Hut", "bishops", "()I"⟩, prog_3_method_28_code, 3, (some .int)), (0, ⟨"SnowHut$Guest", "isOf", "(I)Z"⟩, prog_2_method_10_code, 2, (some .boolean)), (3, ⟨"SnowHut$Shelf", "there", "()I"⟩, prog_5_method_13_code, 3, (some .int)), (3, ⟨"SnowHut$Shelf", "has", "(I)Z"⟩, prog_5_method_3_code, 2, (some .boolean)), (3, ⟨"SnowHut$Shelf", "size", "(I)I"⟩, prog_5_method_4_code, 2, (some .int)), (3, ⟨"SnowHut$Shelf", "names", "(I)Z"⟩, prog_5_method_2_code, 2, (some .boolean)), (6, ⟨"SnowHutLaw", "cell", "([II)I"⟩, method_2_code, 2, (some .int)), (6, ⟨"SnowHutLaw", "less", "(II)I"⟩, method_3_code, 2, (some .int)), (6, ⟨"SnowHutLaw", "draws", "([III[II[I)V"⟩, method_6_code, 10, none), (6, ⟨"SnowHutLaw", "makes", "(LSnowHut;II[II[II)Z"⟩, method_7_code, 13, (some .boolean)), (5, ⟨"SnowHut", "text", "(II)I"⟩, prog_1_method_8_code, 3, (some .int)), (5, ⟨"SnowHut", "found", "(I)I"⟩, prog_1_method_45_code, 2, (some .int)), (3, ⟨"SnowHut$Shelf", "make", "(III)V"⟩, prog_5_method_8_code, 5, none), (6, ⟨"SnowHutLaw", "put", "(LSnowHut;II)I"⟩, method_4_code, 3, (some .int)), (5, ⟨"SnowHut", "put", "(III)I"⟩, prog_1_method_9_code, 6, (some .int)), (5, ⟨"SnowHut", "placeRefusal", "(LSnowHut$Shelf;II)I"⟩, prog_1_method_47_code, 5, (some .int)), (5, ⟨"SnowHut", "missingRefusal", "(LSnowHut$Shelf;I)I"⟩, prog_1_method_46_code, 3, (some .int))]
def m_mt_2 : List m_M := [(3, ⟨"SnowHut$Shelf", "spans", "(III)Z"⟩, prog_5_method_5_code, 4, (some .boolean)), (3, ⟨"SnowHut$Shelf", "get", "(II)I"⟩, prog_5_method_6_code, 3, (some .int)), (3, ⟨"SnowHut$Shelf", "set", "(III)V"⟩, prog_5_method_7_code, 4, none), (6, ⟨"SnowHutLaw", "letter", "(I)I"⟩, method_5_code, 1, (some .int)), (5, ⟨"SnowHut", "fault", "(I)I"⟩, prog_1_method_10_code, 3, (some .int)), (2, ⟨"SnowHut$Reader", "read", "(LSnowHut$Shelf;I)I"⟩, prog_4_method_2_code, 5, (some .int)), (2, ⟨"SnowHut$Reader", "open", "(LSnowHut$Shelf;I)V"⟩, prog_4_method_7_code, 4, none), (2, ⟨"SnowHut$Reader", "skipBlanks", "()V"⟩, prog_4_method_13_code, 2, none), (2, ⟨"SnowHut$Reader", "sign", "()I"⟩, prog_4_method_11_code, 1, (some .int)), (2, ⟨"SnowHut$Reader", "readWood", "()I"⟩, prog_4_method_8_code, 4, (some .int)), (2, ⟨"SnowHut$Reader", "figure", "(I)I"⟩, prog_4_method_12_code, 3, (some .int)), (2, ⟨"SnowHut$Reader", "readReason", "()I"⟩, prog_4_method_9_code, 3, (some .int)), (2, ⟨"SnowHut$Reader", "readGuest", "()I"⟩, prog_4_method_10_code, 5, (some .int)), (2, ⟨"SnowHut$Reader", "kindOf", "(I)I"⟩, prog_4_method_14_code, 2, (some .int)), (2, ⟨"SnowHut$Reader", "guestAt", "(I)LSnowHut$Guest;"⟩, prog_4_method_4_code, 2, (some (.object "SnowHut$Guest"))), (5, ⟨"SnowHut", "hut", "(I)I"⟩, prog_1_method_11_code, 3, (some .int)), (1, ⟨"SnowHut$Hut", "open", "(LSnowHut$Reader;)V"⟩, prog_3_method_2_code, 4, none), (2, ⟨"SnowHut$Reader", "guests", "()I"⟩, prog_4_method_3_code, 1, (some .int)), (2, ⟨"SnowHut$Reader", "woodRead", "()I"⟩, prog_4_method_5_code, 1, (some .int)), (2, ⟨"SnowHut$Reader", "reasonsRead", "()I"⟩, prog_4_method_6_code, 1, (some .int)), (1, ⟨"SnowHut$Hut", "goBack", "(I)V"⟩, prog_3_method_3_code, 3, none), (3, ⟨"SnowHut$Shelf", "dropAll", "()V"⟩, prog_5_method_10_code, 2, none), (6, ⟨"SnowHutLaw", "can", "([I[II)Z"⟩, method_14_code, 4, (some .boolean)), (6, ⟨"SnowHutLaw", "holds", "(I[II)I"⟩, method_8_code, 6, (some .int)), (6, ⟨"SnowHutLaw", "says", "(I[I[I[II)V"⟩, method_15_code, 6, none), (6, ⟨"SnowHutLaw", "hears", "(I[II[III)V"⟩, method_11_code, 7, none), (6, ⟨"SnowHutLaw", "moved", "(I[II[III)I"⟩, method_10_code, 9, (some .int)), (6, ⟨"SnowHutLaw", "told", "(I[III)Z"⟩, method_9_code, 6, (some .boolean)), (6, ⟨"SnowHutLaw", "held", "([II)I"⟩, method_16_code, 2, (some .int))]
def m_mt : List m_M := m_mt_0 ++ (m_mt_1 ++ (m_mt_2))
/-- by its number: its place in that list -/
def m_pm : List Nat := [0, 1, 2, 3, 4, 5, 6, 7, 1, 62, 68, 69, 1, 72, 73, 60, 61, 74, 75, 76, 16, 1, 1, 1, 1, 1, 1, 1, 67, 71, 78, 79, 80, 28, 81, 82, 83, 84, 85, 86, 87, 88, 46, 47, 29, 27, 15, 89, 90, 91, 92, 93, 12, 45, 14, 94, 21, 22, 11, 23, 24, 25, 26, 95, 37, 8, 9, 10, 13, 1, 58, 43, 1, 1, 55, 1, 1, 1, 1, 17, 18, 19, 20, 30, 31, 32, 33, 34, 35, 36, 38, 1, 52, 1, 1, 1, 1, 39, 40, 41, 42, 44, 48, 49, 1, 1, 1, 1, 1, 1, 1, 1, 1, 1, 1, 1, 1, 1, 1, 1, 1, 1, 1, 1, 1, 1, 1, 1, 1, 1, 1, 1, 1, 1, 1, 1, 1, 1, 1, 1, 1, 1, 1, 1, 50, 1, 1, 51, 53, 54, 56, 57, 59, 1, 1, 1, 1, 63, 64, 65, 66, 70, 77, 96, 97, 98, 99, 100, 101, 102]
def m_m (k : Nat) : m_M := m_mt.getD (m_pm.getD k 9999) (6, ⟨"SnowHutLaw", "law", "([I)Z"⟩, code, 20, some .boolean)
def m_o (k : Nat) : Nat := (m_m k).1
def m_y (k : Nat) : MethodName := (m_m k).2.1
def m_b (k : Nat) : ByteArray := (m_m k).2.2.1
def m_n (k : Nat) : Nat := (m_m k).2.2.2.1
def m_r (k : Nat) : Option FieldType := (m_m k).2.2.2.2
def m_law : Nat := 170
-- ===== links: (class, place in its pool) and what it stands for =====
def m_fl : List ((Nat × Nat) × (Nat × Nat × Nat)) := [((5, 14), (5, 0, 1168)), ((5, 18), (5, 1, 1169)), ((5, 21), (5, 2, 1170)), ((5, 27), (5, 3, 1171)), ((5, 34), (5, 4, 1172)), ((5, 41), (5, 5, 1173)), ((5, 48), (5, 6, 1174)), ((5, 52), (5, 7, 1175)), ((5, 56), (5, 8, 1176)), ((5, 60), (5, 9, 1177)), ((5, 63), (5, 10, 1178)), ((5, 67), (5, 11, 1179)), ((0, 9), (0, 0, 1052)), ((0, 15), (0, 1, 1053)), ((0, 19), (0, 2, 1054)), ((1, 11), (1, 0, 1092)), ((1, 17), (1, 1, 1093)), ((1, 20), (1, 2, 1094)), ((1, 24), (1, 3, 1095)), ((1, 28), (1, 4, 1096)), ((1, 31), (1, 5, 1097)), ((1, 34), (1, 6, 1098)), ((1, 37), (1, 7, 1099)), ((1, 40), (1, 8, 1100)), ((1, 43), (1, 9, 1101)), ((2, 11), (2, 0, 1062)), ((2, 17), (2, 1, 1063)), ((2, 21), (2, 2, 1064)), ((2, 25), (2, 3, 1065)), ((2, 28), (2, 4, 1066)), ((2, 31), (2, 5, 1067)), ((2, 34), (2, 6, 1068)), ((3, 13), (3, 2, 1030)), ((3, 19), (3, 0, 1028)), ((3, 25), (3, 1, 1029)), ((4, 12), (4, 0, 1131)), ((4, 18), (4, 1, 1132)), ((4, 21), (4, 2, 1133)), ((4, 25), (4, 3, 1134)), ((4, 29), (4, 4, 1135)), ((4, 32), (4, 5, 1136)), ((4, 36), (4, 6, 1137)), ((4, 39), (4, 7, 1138)), ((4, 42), (4, 8, 1139)), ((4, 45), (4, 9, 1140)), ((4, 48), (4, 10, 1141))]
def m_il_0 : List ((Nat × Nat) × (Nat × Nat × Nat × Nat × Nat × Nat × Nat)) := [((5, 11), (2, 2, 2, 1019, 1020, 0, 1002)), ((5, 26), (2, 4, 0, 1041, 1042, 0, 1004)), ((5, 33), (2, 6, 0, 1086, 1087, 0, 1006)), ((5, 40), (4, 7, 0, 0, 1126, 0, 1007)), ((5, 47), (4, 5, 0, 0, 1049, 0, 1005)), ((5, 70), (0, 9, 1, 2213, 2192, 2193, 1002)), ((5, 74), (0, 10, 1, 2214, 2216, 3, 1001)), ((5, 78), (0, 11, 3, 2218, 2219, 2220, 1002)), ((5, 82), (0, 13, 3, 2229, 2231, 4, 1001)), ((5, 86), (0, 18, 2, 3002, 3003, 3004, 1002)), ((5, 90), (0, 19, 3, 3007, 3008, 3009, 1002)), ((5, 96), (0, 14, 2, 2233, 2235, 5, 1001)), ((5, 122), (0, 31, 2, 3018, 3019, 3020, 1004)), ((5, 125), (0, 48, 1, 3068, 3069, 3070, 1006)), ((5, 129), (0, 63, 0, 3092, 3093, 3094, 1002)), ((5, 132), (0, 64, 0, 2085, 2086, 2087, 1006)), ((5, 136), (0, 66, 1, 1209, 1210, 1211, 1006)), ((5, 139), (0, 67, 2, 1213, 1214, 1215, 1006)), ((5, 93), (0, 20, 1, 1236, 1238, 0, 1001)), ((5, 181), (0, 80, 2, 2004, 2005, 2006, 1006)), ((5, 185), (0, 81, 1, 2008, 2009, 2010, 1006)), ((5, 188), (0, 82, 1, 2012, 2013, 2014, 1006)), ((5, 191), (0, 83, 0, 2055, 2056, 2057, 1006)), ((5, 194), (1, 86, 1, 2067, 2068, 0, 1001)), ((5, 197), (0, 87, 1, 2070, 2071, 2072, 1006)), ((5, 200), (0, 88, 0, 2075, 2076, 2077, 1006)), ((5, 203), (0, 57, 1, 2079, 2021, 2022, 1006)), ((5, 206), (0, 54, 1, 2080, 1230, 1231, 1005)), ((5, 209), (0, 90, 0, 2089, 2090, 2091, 1006)), ((5, 225), (0, 84, 0, 2097, 2060, 2061, 1006)), ((5, 229), (0, 98, 0, 2098, 2100, 2, 1001)), ((5, 232), (0, 102, 0, 2132, 2133, 2134, 1007)), ((5, 235), (0, 103, 0, 2137, 2138, 2139, 1007)), ((5, 212), (0, 92, 0, 2149, 2150, 2151, 1006)), ((5, 297), (0, 148, 0, 2153, 2154, 2155, 1006)), ((5, 300), (0, 149, 0, 2157, 2158, 2159, 1006)), ((5, 149), (0, 71, 0, 2111, 2112, 2113, 1006)), ((5, 161), (1, 74, 1, 2161, 2162, 0, 1008)), ((5, 303), (0, 150, 0, 2167, 2168, 2169, 1006)), ((5, 306), (0, 151, 0, 2171, 2172, 2173, 1006)), ((5, 309), (0, 152, 0, 2179, 2180, 2181, 1002)), ((5, 104), (0, 15, 1, 2237, 2184, 2185, 1002)), ((5, 107), (0, 17, 3, 2238, 2239, 3000, 1002)), ((5, 345), (0, 99, 0, 2102, 2103, 2104, 1006)), ((5, 142), (0, 58, 1, 2106, 1218, 1219, 1006)), ((5, 348), (0, 100, 0, 2107, 2108, 2109, 1006)), ((5, 259), (0, 101, 3, 2115, 2116, 2117, 1007)), ((0, 22), (0, 43, 1, 2128, 2129, 2130, 1005)), ((0, 26), (0, 54, 1, 2028, 1230, 1231, 1005)), ((0, 29), (0, 42, 1, 2124, 2125, 2126, 1005)), ((0, 33), (3, 46, 1, 0, 1234, 0, 1001)), ((0, 46), (1, 44, 1, 2050, 2051, 0, 1005)), ((0, 49), (1, 61, 1, 2033, 2034, 0, 1005)), ((0, 52), (0, 62, 1, 2038, 2039, 2040, 1005)), ((0, 55), (0, 60, 2, 2029, 2030, 2031, 1005)), ((0, 58), (0, 45, 2, 2042, 2043, 2044, 1005)), ((1, 46), (4, 5, 0, 0, 1049, 0, 1005)), ((1, 47), (0, 49, 0, 3072, 3073, 3074, 1004)), ((1, 58), (0, 50, 0, 3077, 3078, 3079, 1004)), ((1, 61), (0, 51, 0, 3081, 3082, 3083, 1004))]
def m_il_1 : List ((Nat × Nat) × (Nat × Nat × Nat × Nat × Nat × Nat × Nat)) := [((1, 64), (0, 41, 1, 3085, 3059, 3060, 1004)), ((1, 68), (0, 52, 0, 1221, 1222, 1223, 1005)), ((1, 71), (0, 53, 2, 3086, 2121, 2122, 1005)), ((1, 75), (0, 55, 1, 3087, 3088, 3089, 1006)), ((1, 82), (0, 56, 1, 2016, 2018, 1, 1006)), ((1, 101), (0, 57, 1, 2020, 2021, 2022, 1006)), ((1, 104), (0, 59, 2, 2024, 2025, 2026, 1005)), ((1, 107), (0, 58, 1, 1217, 1218, 1219, 1006)), ((1, 108), (0, 68, 0, 1225, 1226, 1227, 1005)), ((1, 111), (0, 54, 1, 1229, 1230, 1231, 1005)), ((1, 114), (0, 84, 0, 2059, 2060, 2061, 1006)), ((1, 118), (0, 62, 1, 2074, 2039, 2040, 1005)), ((1, 122), (0, 70, 1, 2175, 2176, 2177, 1005)), ((2, 37), (4, 5, 0, 0, 1049, 0, 1005)), ((2, 38), (0, 32, 2, 3022, 3024, 6, 1004)), ((2, 42), (0, 34, 0, 3029, 3031, 7, 1004)), ((2, 45), (0, 36, 0, 3037, 3039, 9, 1004)), ((2, 49), (0, 35, 0, 3033, 3035, 8, 1004)), ((2, 52), (0, 38, 0, 3045, 3047, 11, 1004)), ((2, 55), (0, 39, 0, 3049, 3051, 12, 1004)), ((2, 58), (0, 16, 1, 3026, 2188, 2189, 1002)), ((2, 69), (0, 18, 2, 3028, 3003, 3004, 1002)), ((2, 72), (0, 37, 1, 3041, 3043, 10, 1004)), ((2, 75), (1, 40, 1, 3053, 3054, 0, 1004)), ((2, 78), (0, 41, 1, 3058, 3059, 3060, 1004)), ((2, 82), (0, 42, 1, 3062, 2125, 2126, 1005)), ((2, 86), (0, 45, 2, 3063, 2043, 2044, 1005)), ((3, 28), (0, 16, 1, 2187, 2188, 2189, 1002)), ((3, 32), (0, 9, 1, 2191, 2192, 2193, 1002)), ((3, 36), (0, 15, 1, 2183, 2184, 2185, 1002)), ((3, 39), (0, 17, 3, 3006, 2239, 3000, 1002)), ((4, 11), (4, 5, 0, 0, 1049, 0, 1005)), ((4, 52), (0, 52, 0, 2119, 1222, 1223, 1005)), ((4, 56), (0, 53, 2, 2120, 2121, 2122, 1005)), ((4, 67), (0, 68, 0, 2136, 1226, 1227, 1005)), ((6, 9), (0, 29, 3, 2225, 2226, 2227, 1001)), ((6, 15), (1, 157, 2, 2195, 2196, 0, 1000)), ((6, 21), (1, 158, 2, 2199, 2200, 0, 1000)), ((6, 25), (0, 28, 2, 2209, 2210, 2211, 1001)), ((6, 28), (1, 161, 3, 2222, 2223, 0, 1000)), ((6, 31), (1, 162, 1, 3011, 3012, 0, 1000)), ((6, 35), (0, 30, 1, 3014, 3015, 3016, 1001)), ((6, 38), (0, 47, 1, 3064, 3065, 3066, 1001)), ((6, 41), (1, 164, 3, 3099, 3100, 0, 1000)), ((6, 45), (1, 168, 4, 3111, 3112, 0, 1000)), ((6, 49), (1, 167, 6, 3108, 3109, 0, 1000)), ((6, 53), (1, 166, 6, 3105, 3106, 0, 1000)), ((6, 57), (2, 0, 0, 1011, 1012, 0, 1001)), ((6, 58), (1, 159, 6, 2203, 2204, 0, 1000)), ((6, 62), (1, 160, 7, 2206, 2207, 0, 1000)), ((6, 66), (0, 79, 2, 2000, 2001, 2002, 1001)), ((6, 69), (1, 169, 2, 3114, 3115, 0, 1000)), ((6, 72), (0, 89, 0, 2081, 2082, 2083, 1001)), ((6, 76), (1, 163, 3, 3096, 3097, 0, 1000)), ((6, 80), (1, 165, 5, 3102, 3103, 0, 1000)), ((6, 84), (0, 85, 1, 2063, 2064, 2065, 1001)), ((6, 87), (0, 97, 0, 2093, 2094, 2095, 1001)), ((6, 90), (0, 147, 1, 2145, 2146, 2147, 1001)), ((6, 93), (0, 65, 2, 1205, 1206, 1207, 1001)), ((6, 96), (0, 144, 0, 2141, 2142, 2143, 1001))]
def m_il : List ((Nat × Nat) × (Nat × Nat × Nat × Nat × Nat × Nat × Nat)) := m_il_0 ++ (m_il_1)
def m_oi : List ((Nat × Nat) × Nat) := [((5, 1), 1014), ((0, 3), 1051), ((1, 3), 1089), ((2, 3), 1044), ((3, 1), 1022), ((4, 3), 1128)]
def m_ac : List ((Nat × Nat) × Nat) := []
def m_mm : List ((Nat × Nat) × (Nat × Nat)) := [((0, 37), (1, 2046)), ((0, 43), (0, 2049)), ((1, 52), (1, 3076)), ((1, 79), (0, 3091)), ((2, 63), (1, 3027)), ((3, 7), (0, 1023))]
def m_nl : List ((Nat × Nat) × (Nat × Nat × Nat × Nat)) := [((5, 7), (3, 1017, 1018, 1002)), ((5, 24), (2, 1039, 1040, 1004)), ((5, 31), (1, 1084, 1085, 1006)), ((5, 38), (4, 1123, 1124, 1007)), ((5, 45), (0, 1166, 1047, 1005)), ((1, 9), (0, 1090, 1047, 1005)), ((2, 9), (0, 1045, 1047, 1005)), ((4, 9), (0, 1129, 1047, 1005)), ((6, 10), (5, 1009, 1010, 1001))]
def m_al : List ((Nat × Nat) × Nat) := [((1, 9), 1090), ((2, 9), 1045)]
def m_ml : List ((Nat × Nat) × Nat) := [((3, 23), 1026)]
def m_k32 : List ((Nat × Nat) × (Int32 × Nat)) := [((6, 7), (495397697, 2198)), ((6, 8), (2147483647, 2202)), ((7, 265), (1431655765, 2164)), ((7, 266), (858993459, 2165)), ((7, 267), (252645135, 2166))]
def m_k64 : List ((Nat × Nat) × (Int64 × Nat)) := []
def m_gl : List ((Nat × Nat) × Nat) := [((0, 62), 1001), ((0, 65), 1003), ((2, 90), 1002)]
def m_sx : List (Nat × String × List Int32) := [(1001, "HOLDS_FROM", [5, 5, 5, 5, 7, 3]), (1002, "LETTERS", [103, 98, 97, 109, 99, 104]), (1003, "MOVED_AS", [0, 1, 2, 3, 1, 2])]
def m_nw : List Cond := [.methodLinkNest "SnowHut" 40 ⟨"SnowHut$Talks", "<init>", "()V"⟩ "SnowHut", .methodLinkNest "SnowHut" 47 ⟨"SnowHut$Guest", "<init>", "()V"⟩ "SnowHut", .methodLinkNest "SnowHut$Guest" 33 ⟨"SnowHut", "isClaim", "(I)Z"⟩ "SnowHut", .fieldLinkNest "SnowHut$Guest" 62 "SnowHut" "HOLDS_FROM" "[I" "SnowHut", .fieldLinkNest "SnowHut$Guest" 65 "SnowHut" "MOVED_AS" "[I" "SnowHut", .methodLinkNest "SnowHut$Hut" 46 ⟨"SnowHut$Guest", "<init>", "()V"⟩ "SnowHut", .methodLinkNest "SnowHut$Reader" 37 ⟨"SnowHut$Guest", "<init>", "()V"⟩ "SnowHut", .fieldLinkNest "SnowHut$Reader" 90 "SnowHut" "LETTERS" "[I" "SnowHut", .methodLinkNest "SnowHut$Talks" 11 ⟨"SnowHut$Guest", "<init>", "()V"⟩ "SnowHut"]
-- ===== the checks =====
def m_flc (e : (Nat × Nat) × (Nat × Nat × Nat)) : Bool := match m_cl[e.2.1]? with
  | some (C, T, N) => decide (e.2.2.1 < N) && decide ((T e.2.2.1).1 = C) && m_has e.2.2.2 (.fieldLink (m_cn e.1.1) e.1.2 C (T e.2.2.1).2.1 (T e.2.2.1).2.2.1)
  | none => false
theorem m_fl_ok : m_fl.all m_flc = true := by decide +kernel
def m_ilc (e : (Nat × Nat) × (Nat × Nat × Nat × Nat × Nat × Nat × Nat)) : Bool :=
  let o := m_cn e.1.1; let ix := e.1.2; let y := m_y e.2.2.1; let n := e.2.2.2.1; let w1 := e.2.2.2.2.1; let w2 := e.2.2.2.2.2.1; let w3 := e.2.2.2.2.2.2.1; let w4 := e.2.2.2.2.2.2.2
  decide (e.2.2.1 < m_law) && decide (m_o e.2.2.1 < 8) && decide (y.cls ≠ "java/lang/invoke/MethodHandle") && decide (y.cls ≠ "java/lang/invoke/VarHandle") && decide ((parseMethodDescriptor y.desc).map (fun d => d.parameters.length) = some n) && m_has w4 (.initialized y.cls) &&
  (match e.2.1 with
  | 0 => m_has w1 (.methodLink o ix y) && m_has w2 (.instanceMethod y) && m_has w3 (.selects y.cls y y)
  | 1 => m_has w1 (.methodLink o ix y) && m_has w2 (.static y)
  | 2 => m_has w1 (.methodLink o ix y) && m_has w2 (.instanceMethod y) && decide (y.name = "<init>") && decide (m_r e.2.2.1 = none)
  | 3 => decide (Cond.methodLinkNest o ix y "SnowHut" ∈ m_nw) && m_has w2 (.static y)
  | 4 => decide (Cond.methodLinkNest o ix y "SnowHut" ∈ m_nw) && m_has w2 (.instanceMethod y) && decide (y.name = "<init>") && decide (m_r e.2.2.1 = none)
  | _ => false)
end
section
theorem m_il_ok_0 : m_il_0.all m_ilc = true := by decide +kernel
end
section
theorem m_il_ok_1 : m_il_1.all m_ilc = true := by decide +kernel
end
section
theorem m_il_ok : m_il.all m_ilc = true := by
  simp only [m_il, List.all_append, m_il_ok_0, m_il_ok_1, Bool.and_self]
def m_oic (e : (Nat × Nat) × Nat) : Bool := m_has e.2 (.methodLink (m_cn e.1.1) e.1.2 objectInit) && m_has 1015 (.instanceMethod objectInit) && m_has 1016 (.code objectInit ⟨#[0xb1]⟩ 1 none)
theorem m_oi_ok : m_oi.all m_oic = true := by decide +kernel
def m_acc (_ : (Nat × Nat) × Nat) : Bool := false
theorem m_ac_ok : m_ac.all m_acc = true := rfl
def m_mmc (e : (Nat × Nat) × (Nat × Nat)) : Bool := m_has 1003 (.initialized "java/lang/Math") && (match e.2.1 with
  | 0 => m_has e.2.2 (.methodLink (m_cn e.1.1) e.1.2 Lib.Math.max.name) && m_has 1024 (.static Lib.Math.max.name) && m_has 1025 (.code Lib.Math.max.name Lib.Math.max.code 2 (some .int))
  | 1 => m_has e.2.2 (.methodLink (m_cn e.1.1) e.1.2 Lib.Math.min.name) && m_has 2047 (.static Lib.Math.min.name) && m_has 2048 (.code Lib.Math.min.name Lib.Math.min.code 2 (some .int))
  | _ => false)
theorem m_mm_ok : m_mm.all m_mmc = true := by decide +kernel
def m_nlc (e : (Nat × Nat) × (Nat × Nat × Nat × Nat)) : Bool := match m_cl[e.2.1]? with
  | some (C, _, N) => m_has e.2.2.1 (.classLink (m_cn e.1.1) e.1.2 C) && m_has e.2.2.2.1 (.instantiable C N) && m_has e.2.2.2.2 (.initialized C)
  | none => false
theorem m_nl_ok : m_nl.all m_nlc = true := by decide +kernel
def m_alc (e : (Nat × Nat) × Nat) : Bool := m_has e.2 (.classLink (m_cn e.1.1) e.1.2 "SnowHut$Guest")
theorem m_al_ok : m_al.all m_alc = true := by decide +kernel
def m_mlc (e : (Nat × Nat) × Nat) : Bool := m_has e.2 (.classLink (m_cn e.1.1) e.1.2 "[[I")
theorem m_ml_ok : m_ml.all m_mlc = true := by decide +kernel
def m_k32c (e : (Nat × Nat) × (Int32 × Nat)) : Bool := m_has e.2.2 (.constant (m_cn e.1.1) e.1.2 e.2.1)
theorem m_k32_ok : m_k32.all m_k32c = true := by decide +kernel
def m_k64c (e : (Nat × Nat) × (Int64 × Nat)) : Bool := m_has e.2.2 (.constantLong (m_cn e.1.1) e.1.2 e.2.1)
theorem m_k64_ok : m_k64.all m_k64c = true := by decide +kernel
def m_glc (e : (Nat × Nat) × Nat) : Bool := m_sx.any (fun x => decide (x.1 = e.2) && decide (Cond.fieldLinkNest (m_cn e.1.1) e.1.2 "SnowHut" x.2.1 "[I" "SnowHut" ∈ m_nw))
theorem m_gl_ok : m_gl.all m_glc = true := by decide +kernel
theorem m_nw_in : m_nw.all (fun w => decide (w ∈ lw_tbl)) = true := by decide +kernel
def m_clc (q : vw_C) : Bool := (u_ws q.1 q.2.1 q.2.2).all (fun w => decide (w ∈ lw_tbl) && goodWord w) && (List.range q.2.2).all (fun a => (List.range q.2.2).all (fun b => decide (a = b) || decide ((q.2.1 a).2.1 ≠ (q.2.1 b).2.1)) && (parseFieldDescriptor (q.2.1 a).2.2.1).isSome)
theorem m_cl_ok : m_cl.all m_clc = true := by decide +kernel
def m_cd (w : Cond) : Option (MethodName × ByteArray × Nat × Option FieldType) := match w with
  | .code y b n r => some (y, b, n, r)
  | _ => none
set_option maxRecDepth 100000 in
theorem m_mt_e_0 : tables_1_1.filterMap m_cd = m_mt_0.map (fun e => e.2) := rfl
set_option maxRecDepth 100000 in
theorem m_mt_e_1 : tables_1_2.filterMap m_cd = m_mt_1.map (fun e => e.2) := rfl
set_option maxRecDepth 100000 in
theorem m_mt_e_2 : tables_1_3.filterMap m_cd = m_mt_2.map (fun e => e.2) := rfl
theorem m_mt_all : ∀ e ∈ m_mt, Cond.code e.2.1 e.2.2.1 e.2.2.2.1 e.2.2.2.2 ∈ m_tb := by
  have key : ∀ (c : Nat) (l : List m_M), (m_ch c).filterMap m_cd = l.map (fun e => e.2) → ∀ e ∈ l, Cond.code e.2.1 e.2.2.1 e.2.2.2.1 e.2.2.2.2 ∈ m_tb := by
    intro c l h e he
    have h1 : e.2 ∈ (m_ch c).filterMap m_cd := by rw [h]; exact List.mem_map.mpr ⟨e, he, rfl⟩
    obtain ⟨w, hw, hw2⟩ := List.mem_filterMap.mp h1
    unfold m_cd at hw2
    split at hw2
    · have h3 := Option.some.inj hw2
      rw [← h3]
      exact List.mem_filter.mpr ⟨m_ch_in c hw, rfl⟩
    · cases hw2
  intro e he
  unfold m_mt at he
  simp only [List.mem_append] at he
  rcases he with he | he | he
  · exact key 1 _ m_mt_e_0 e he
  · exact key 2 _ m_mt_e_1 e he
  · exact key 3 _ m_mt_e_2 e he
def m_mtc (e : m_M) : Bool := decide (20 ≤ e.1) || decide (e.2.1.cls = m_cn e.1)
theorem m_mt_c_0 : m_mt_0.all m_mtc = true := by decide +kernel
theorem m_mt_c_1 : m_mt_1.all m_mtc = true := by decide +kernel
theorem m_mt_c_2 : m_mt_2.all m_mtc = true := by decide +kernel
theorem m_cn_plain : (List.range 8).all (fun c => plainName (m_cn c)) = true := by decide +kernel
theorem m_m_in (k : Nat) (hk : k < m_law) : m_m k ∈ m_mt := by
  have hl : m_pm.length = m_law := by decide +kernel
  have ha : m_pm.all (fun i => decide (i < m_mt.length)) = true := by decide +kernel
  have hk1 : k < m_pm.length := by rw [hl]; exact hk
  have hk2 : m_pm[k] < m_mt.length := of_decide_eq_true (List.all_eq_true.mp ha _ (List.getElem_mem hk1))
  have e : m_m k = m_mt[m_pm[k]] := by
    unfold m_m
    rw [List.getD_eq_getElem?_getD (l := m_pm), List.getElem?_eq_getElem hk1, Option.getD_some, List.getD_eq_getElem?_getD, List.getElem?_eq_getElem hk2, Option.getD_some]
  rw [e]
  exact List.getElem_mem hk2
theorem m_code_in (k : Nat) (hk : k < m_law) : Cond.code (m_y k) (m_b k) (m_n k) (m_r k) ∈ m_tb := m_mt_all _ (m_m_in k hk)
theorem m_mt_cn (k : Nat) (hk : k < m_law) (h20 : m_o k < 8) : (m_y k).cls = m_cn (m_o k) := by
  have h : m_mt.all m_mtc = true := by
    simp only [m_mt, List.all_append, m_mt_c_0, m_mt_c_1, m_mt_c_2, Bool.and_self]
  have h1 := List.all_eq_true.mp h _ (m_m_in k hk)
  unfold m_mtc at h1
  rw [Bool.or_eq_true, decide_eq_true_eq, decide_eq_true_eq] at h1
  have h2 : m_o k = (m_m k).1 := rfl
  rcases h1 with h1 | h1
  · omega
  · exact h1
theorem m_aw_ok : [Cond.arrayClass .int, .arrayClass .long].all (fun w => decide (w ∈ lw_tbl) && goodWord w) = true := by decide +kernel
theorem m_ao_ok : [Cond.arrayOver (.object "SnowHut$Guest"), .arrayOver (.array .int)].all (fun w => decide (w ∈ lw_tbl)) = true := by decide +kernel
end
section
/-! A LITTLE MACHINE: the same bytecode, over a heap that is a list of cells (a tag, its slots); references are places in that list. From 1000 on: arrays that nobody writes (1000 the script, the others statics). -/
abbrev m_H : Type := List (Nat × List Value)
abbrev m_L : Type := List (Option Value)
abbrev m_S : Type := Nat × m_L × List Value × m_H
-- ----- stack patterns -----
def m_i {α : Type} (st : List Value) (f : Int32 → List Value → Option α) : Option α := match st with
  | .int x :: r => f x r
  | _ => none
theorem m_i_s {α : Type} {st : List Value} {f : Int32 → List Value → Option α} {q : α} (h : m_i st f = some q) : ∃ x r, st = .int x :: r ∧ f x r = some q := by
  unfold m_i at h
  split at h
  · exact ⟨_, _, rfl, h⟩
  · cases h
def m_ii {α : Type} (st : List Value) (f : Int32 → Int32 → List Value → Option α) : Option α := match st with
  | .int y :: .int x :: r => f x y r
  | _ => none
theorem m_ii_s {α : Type} {st : List Value} {f : Int32 → Int32 → List Value → Option α} {q : α} (h : m_ii st f = some q) : ∃ x y r, st = .int y :: .int x :: r ∧ f x y r = some q := by
  unfold m_ii at h
  split at h
  · exact ⟨_, _, _, rfl, h⟩
  · cases h
def m_j {α : Type} (st : List Value) (f : Int64 → List Value → Option α) : Option α := match st with
  | .long x :: r => f x r
  | _ => none
theorem m_j_s {α : Type} {st : List Value} {f : Int64 → List Value → Option α} {q : α} (h : m_j st f = some q) : ∃ x r, st = .long x :: r ∧ f x r = some q := by
  unfold m_j at h
  split at h
  · exact ⟨_, _, rfl, h⟩
  · cases h
def m_jj {α : Type} (st : List Value) (f : Int64 → Int64 → List Value → Option α) : Option α := match st with
  | .long y :: .long x :: r => f x y r
  | _ => none
theorem m_jj_s {α : Type} {st : List Value} {f : Int64 → Int64 → List Value → Option α} {q : α} (h : m_jj st f = some q) : ∃ x y r, st = .long y :: .long x :: r ∧ f x y r = some q := by
  unfold m_jj at h
  split at h
  · exact ⟨_, _, _, rfl, h⟩
  · cases h
def m_a {α : Type} (st : List Value) (f : Nat → List Value → Option α) : Option α := match st with
  | .ref a :: r => f a r
  | _ => none
theorem m_a_s {α : Type} {st : List Value} {f : Nat → List Value → Option α} {q : α} (h : m_a st f = some q) : ∃ a r, st = .ref a :: r ∧ f a r = some q := by
  unfold m_a at h
  split at h
  · exact ⟨_, _, rfl, h⟩
  · cases h
def m_ai {α : Type} (st : List Value) (f : Nat → Int32 → List Value → Option α) : Option α := match st with
  | .int i :: .ref a :: r => f a i r
  | _ => none
theorem m_ai_s {α : Type} {st : List Value} {f : Nat → Int32 → List Value → Option α} {q : α} (h : m_ai st f = some q) : ∃ a i r, st = .int i :: .ref a :: r ∧ f a i r = some q := by
  unfold m_ai at h
  split at h
  · exact ⟨_, _, _, rfl, h⟩
  · cases h
def m_aii {α : Type} (st : List Value) (f : Nat → Int32 → Int32 → List Value → Option α) : Option α := match st with
  | .int x :: .int i :: .ref a :: r => f a i x r
  | _ => none
theorem m_aii_s {α : Type} {st : List Value} {f : Nat → Int32 → Int32 → List Value → Option α} {q : α} (h : m_aii st f = some q) : ∃ a i x r, st = .int x :: .int i :: .ref a :: r ∧ f a i x r = some q := by
  unfold m_aii at h
  split at h
  · exact ⟨_, _, _, _, rfl, h⟩
  · cases h
def m_aij {α : Type} (st : List Value) (f : Nat → Int32 → Int64 → List Value → Option α) : Option α := match st with
  | .long x :: .int i :: .ref a :: r => f a i x r
  | _ => none
theorem m_aij_s {α : Type} {st : List Value} {f : Nat → Int32 → Int64 → List Value → Option α} {q : α} (h : m_aij st f = some q) : ∃ a i x r, st = .long x :: .int i :: .ref a :: r ∧ f a i x r = some q := by
  unfold m_aij at h
  split at h
  · exact ⟨_, _, _, _, rfl, h⟩
  · cases h
def m_aia {α : Type} (st : List Value) (f : Nat → Int32 → Nat → List Value → Option α) : Option α := match st with
  | .ref x :: .int i :: .ref a :: r => f a i x r
  | _ => none
theorem m_aia_s {α : Type} {st : List Value} {f : Nat → Int32 → Nat → List Value → Option α} {q : α} (h : m_aia st f = some q) : ∃ a i x r, st = .ref x :: .int i :: .ref a :: r ∧ f a i x r = some q := by
  unfold m_aia at h
  split at h
  · exact ⟨_, _, _, _, rfl, h⟩
  · cases h
def m_va {α : Type} (st : List Value) (f : Nat → Value → List Value → Option α) : Option α := match st with
  | v :: .ref a :: r => f a v r
  | _ => none
theorem m_va_s {α : Type} {st : List Value} {f : Nat → Value → List Value → Option α} {q : α} (h : m_va st f = some q) : ∃ a v r, st = v :: .ref a :: r ∧ f a v r = some q := by
  unfold m_va at h
  split at h
  · exact ⟨_, _, _, rfl, h⟩
  · cases h
def m_v {α : Type} (st : List Value) (f : Value → List Value → Option α) : Option α := match st with
  | v :: r => f v r
  | _ => none
theorem m_v_s {α : Type} {st : List Value} {f : Value → List Value → Option α} {q : α} (h : m_v st f = some q) : ∃ v r, st = v :: r ∧ f v r = some q := by
  unfold m_v at h
  split at h
  · exact ⟨_, _, rfl, h⟩
  · cases h
def m_c {α : Type} (b : Prop) [Decidable b] (x : Option α) : Option α := if b then x else none
theorem m_c_s {α : Type} {b : Prop} [Decidable b] {x : Option α} {q : α} (h : m_c b x = some q) : b ∧ x = some q := by
  unfold m_c at h
  split at h
  · next hb => exact ⟨hb, h⟩
  · cases h
theorem m_c_t {α : Type} {b : Prop} [Decidable b] {x : Option α} (h : b) : m_c b x = x := if_pos h
-- ----- locals -----
def m_clr (L : m_L) (i : Nat) : m_L := match i with
  | 0 => L
  | j + 1 => match L[j]? with
    | some (some w) => if w.category = 2 then L.set j none else L
    | _ => L
def m_st1 (L : m_L) (i : Nat) (v : Value) : m_L := (m_clr L i).set i (some v)
def m_st2 (L : m_L) (i : Nat) (v : Value) : m_L := ((m_clr L i).set i (some v)).set (i + 1) none
def m_ldi (L : m_L) (i : Nat) (f : Int32 → Option m_S) : Option m_S := match L[i]? with
  | some (some (.int x)) => f x
  | _ => none
theorem m_ldi_s {L : m_L} {i : Nat} {f : Int32 → Option m_S} {q : m_S} (h : m_ldi L i f = some q) : ∃ x, L[i]? = some (some (.int x)) ∧ f x = some q := by
  unfold m_ldi at h
  split at h
  · next e => exact ⟨_, e, h⟩
  · cases h
def m_ldj (L : m_L) (i : Nat) (f : Int64 → Option m_S) : Option m_S := match L[i]? with
  | some (some (.long x)) => f x
  | _ => none
theorem m_ldj_s {L : m_L} {i : Nat} {f : Int64 → Option m_S} {q : m_S} (h : m_ldj L i f = some q) : ∃ x, L[i]? = some (some (.long x)) ∧ f x = some q := by
  unfold m_ldj at h
  split at h
  · next e => exact ⟨_, e, h⟩
  · cases h
def m_lda (L : m_L) (i : Nat) (f : Nat → Option m_S) : Option m_S := match L[i]? with
  | some (some (.ref x)) => f x
  | _ => none
theorem m_lda_s {L : m_L} {i : Nat} {f : Nat → Option m_S} {q : m_S} (h : m_lda L i f = some q) : ∃ x, L[i]? = some (some (.ref x)) ∧ f x = some q := by
  unfold m_lda at h
  split at h
  · next e => exact ⟨_, e, h⟩
  · cases h
-- ----- jumps -----
def m_go (pc : Nat) (off : Int) (L : m_L) (st : List Value) (h : m_H) : Option m_S := m_c (0 ≤ (pc : Int) + off) (some (((pc : Int) + off).toNat, L, st, h))
def m_br (pc : Nat) (off : Int) (b : Prop) [Decidable b] (L : m_L) (st : List Value) (h : m_H) : Option m_S := m_c (0 ≤ (pc : Int) + off) (if b then some (((pc : Int) + off).toNat, L, st, h) else some (pc + 3, L, st, h))
def m_if (c : ClassFile.Cond) (pc : Nat) (off : Int) (x : Int32) (L : m_L) (st : List Value) (h : m_H) : Option m_S := match c with
  | .eq => m_br pc off (x = 0) L st h
  | .ne => m_br pc off (¬ x = 0) L st h
  | .lt => m_br pc off (x < 0) L st h
  | .ge => m_br pc off (0 ≤ x) L st h
  | .gt => m_br pc off (0 < x) L st h
  | .le => m_br pc off (x ≤ 0) L st h
def m_icmp (c : ClassFile.Cond) (pc : Nat) (off : Int) (x y : Int32) (L : m_L) (st : List Value) (h : m_H) : Option m_S := match c with
  | .eq => m_br pc off (x = y) L st h
  | .ne => m_br pc off (¬ x = y) L st h
  | .lt => m_br pc off (x < y) L st h
  | .ge => m_br pc off (y ≤ x) L st h
  | .gt => m_br pc off (y < x) L st h
  | .le => m_br pc off (x ≤ y) L st h
-- ----- what an instruction's length is -----
def m_ln (i : Instr) (len : Nat) : Nat := match i with
  | .aload _ | .astore _ | .iload _ | .istore _ | .lload _ | .lstore _ | .bipush _ | .ldc _ | .newarray _ => 2
  | .anewarray _ | .getfield _ | .putfield _ | .getstatic _ | .goto _ | .if_icmp _ _ | .ifCond _ _ | .iinc _ _ | .invokespecial _ | .invokestatic _ | .invokevirtual _ | .ldc_w _ | .ldc2_w _ | .new _ | .sipush _ => 3
  | .multianewarray _ _ => 4
  | .tableswitch _ _ _ _ | .lookupswitch _ _ => len
  | _ => 1
-- ----- instructions that leave the heap alone -----
def m_sA (k : Nat) (i : Instr) (pc : Nat) (L : m_L) (st : List Value) (h : m_H) : Option m_S := match i with
  | .iconst n => some (pc + 1, L, .int (Int32.ofInt n) :: st, h)
  | .bipush n => some (pc + 2, L, .int (Int8.ofInt n).toInt32 :: st, h)
  | .sipush n => some (pc + 3, L, .int (Int16.ofInt n).toInt32 :: st, h)
  | .lconst n => some (pc + 1, L, .long (Int64.ofNat (n : Nat)) :: st, h)
  | .ldc_w ix => match m_k32.lookup (m_o k, ix) with
    | some e => some (pc + 3, L, .int e.1 :: st, h)
    | none => none
  | .ldc ix => match m_k32.lookup (m_o k, ix) with
    | some e => some (pc + 2, L, .int e.1 :: st, h)
    | none => none
  | .ldc2_w ix => match m_k64.lookup (m_o k, ix) with
    | some e => some (pc + 3, L, .long e.1 :: st, h)
    | none => none
  | .iload_n n => m_ldi L (n : Nat) fun x => some (pc + 1, L, .int x :: st, h)
  | .iload n => m_ldi L n fun x => some (pc + 2, L, .int x :: st, h)
  | .lload_n n => m_ldj L (n : Nat) fun x => some (pc + 1, L, .long x :: st, h)
  | .lload n => m_ldj L n fun x => some (pc + 2, L, .long x :: st, h)
  | .aload_n n => m_lda L (n : Nat) fun x => some (pc + 1, L, .ref x :: st, h)
  | .aload n => m_lda L n fun x => some (pc + 2, L, .ref x :: st, h)
  | .istore_n n => m_i st fun x r => m_c ((n : Nat) < L.length) (some (pc + 1, m_st1 L (n : Nat) (.int x), r, h))
  | .istore n => m_i st fun x r => m_c (n < L.length) (some (pc + 2, m_st1 L n (.int x), r, h))
  | .lstore_n n => m_j st fun x r => m_c ((n : Nat) + 1 < L.length) (some (pc + 1, m_st2 L (n : Nat) (.long x), r, h))
  | .lstore n => m_j st fun x r => m_c (n + 1 < L.length) (some (pc + 2, m_st2 L n (.long x), r, h))
  | .astore_n n => m_a st fun x r => m_c ((n : Nat) < L.length) (some (pc + 1, m_st1 L (n : Nat) (.ref x), r, h))
  | .astore n => m_a st fun x r => m_c (n < L.length) (some (pc + 2, m_st1 L n (.ref x), r, h))
  | .iinc n z => m_ldi L n fun x => m_c (n < L.length) (some (pc + 3, m_st1 L n (.int (x + Int32.ofInt z)), st, h))
  | .iadd => m_ii st fun x y r => some (pc + 1, L, .int (x + y) :: r, h)
  | .isub => m_ii st fun x y r => some (pc + 1, L, .int (x - y) :: r, h)
  | .imul => m_ii st fun x y r => some (pc + 1, L, .int (x * y) :: r, h)
  | .idiv => m_ii st fun x y r => m_c (¬ y = 0) (some (pc + 1, L, .int (x / y) :: r, h))
  | .irem => m_ii st fun x y r => m_c (¬ y = 0) (some (pc + 1, L, .int (x - x / y * y) :: r, h))
  | .iand => m_ii st fun x y r => some (pc + 1, L, .int (x &&& y) :: r, h)
  | .ior => m_ii st fun x y r => some (pc + 1, L, .int (x ||| y) :: r, h)
  | .ixor => m_ii st fun x y r => some (pc + 1, L, .int (x ^^^ y) :: r, h)
  | .ishl => m_ii st fun x y r => some (pc + 1, L, .int (x <<< (y &&& 31)) :: r, h)
  | .ishr => m_ii st fun x y r => some (pc + 1, L, .int (x >>> (y &&& 31)) :: r, h)
  | .iushr => m_ii st fun x y r => some (pc + 1, L, .int (x.toUInt32 >>> (y.toUInt32 &&& Int32.toUInt32 31)).toInt32 :: r, h)
  | .ladd => m_jj st fun x y r => some (pc + 1, L, .long (x + y) :: r, h)
  | .lmul => m_jj st fun x y r => some (pc + 1, L, .long (x * y) :: r, h)
  | .ldiv => m_jj st fun x y r => m_c (¬ y = 0) (some (pc + 1, L, .long (x / y) :: r, h))
  | .lrem => m_jj st fun x y r => m_c (¬ y = 0) (some (pc + 1, L, .long (x - x / y * y) :: r, h))
  | .lcmp => m_jj st fun x y r => some (pc + 1, L, .int (lg_cmp x y) :: r, h)
  | .i2l => m_i st fun x r => some (pc + 1, L, .long x.toInt64 :: r, h)
  | .l2i => m_j st fun x r => some (pc + 1, L, .int x.toInt32 :: r, h)
  | .i2b => m_i st fun x r => some (pc + 1, L, .int x.toInt8.toInt32 :: r, h)
  | .dup => m_v st fun v r => m_c (v.category = 1) (some (pc + 1, L, v :: v :: r, h))
  | .pop => m_v st fun v r => m_c (v.category = 1) (some (pc + 1, L, r, h))
  | .dup2 => m_v st fun v r => if v.category = 2 then some (pc + 1, L, v :: v :: r, h) else m_v r fun w r2 => m_c (w.category = 1) (some (pc + 1, L, v :: w :: v :: w :: r2, h))
  | .ifCond c off => m_i st fun x r => m_if c pc off x L r h
  | .if_icmp c off => m_ii st fun x y r => m_icmp c pc off x y L r h
  | .goto off => m_go pc off L st h
  | .tableswitch d lo hi offs => m_i st fun x r => if x.toInt < lo ∨ hi < x.toInt then m_go pc d L r h else match offs[(x.toInt - lo).toNat]? with
    | some o => m_go pc o L r h
    | none => none
  | .lookupswitch d ps => m_i st fun x r => m_c ((ps.toList.zip (ps.toList.drop 1)).all (fun (a, next) => a.1 < next.1) = true) (m_go pc (Op.lookupswitch.offset ps.toList d x.toInt) L r h)
  | _ => none
-- ----- reads and writes -----
def m_ex (X : List Int32) (a : Nat) : Option (List Int32) := if a = 1000 then some X else (m_sx.find? (fun e => e.1 == a)).map (fun e => e.2.2)
def m_rd (h : m_H) (t a : Nat) (i : Int32) (f : Value → Option m_S) : Option m_S := match h[a]? with
  | some c => m_c (c.1 = t ∧ ¬ (i < 0 ∨ c.2.length ≤ i.toNatClampNeg)) (match c.2[i.toNatClampNeg]? with
    | some v => f v
    | none => none)
  | none => none
theorem m_rd_s {h : m_H} {t a : Nat} {i : Int32} {f : Value → Option m_S} {q : m_S} (e : m_rd h t a i f = some q) : ∃ vs v, h[a]? = some (t, vs) ∧ vp_in i vs.length ∧ vs[i.toNatClampNeg]? = some v ∧ f v = some q := by
  unfold m_rd at e
  split at e
  · next c hc =>
    obtain ⟨⟨h1, h2⟩, e⟩ := m_c_s e
    split at e
    · next v hv => exact ⟨c.2, v, by rw [hc, ← h1], h2, hv, e⟩
    · cases e
  · cases e
def m_wr (h : m_H) (t a : Nat) (i : Int32) (v : Value) (f : m_H → Option m_S) : Option m_S := match h[a]? with
  | some c => m_c (c.1 = t ∧ ¬ (i < 0 ∨ c.2.length ≤ i.toNatClampNeg)) (f (h.set a (t, c.2.set i.toNatClampNeg v)))
  | none => none
theorem m_wr_s {h : m_H} {t a : Nat} {i : Int32} {v : Value} {f : m_H → Option m_S} {q : m_S} (e : m_wr h t a i v f = some q) : ∃ vs, h[a]? = some (t, vs) ∧ vp_in i vs.length ∧ f (h.set a (t, vs.set i.toNatClampNeg v)) = some q := by
  unfold m_wr at e
  split at e
  · next c hc =>
    obtain ⟨⟨h1, h2⟩, e⟩ := m_c_s e
    exact ⟨c.2, by rw [hc, ← h1], h2, e⟩
  · cases e
def m_vi (v : Value) (f : Int32 → Option m_S) : Option m_S := match v with
  | .int x => f x
  | _ => none
theorem m_vi_s {v : Value} {f : Int32 → Option m_S} {q : m_S} (e : m_vi v f = some q) : ∃ x, v = .int x ∧ f x = some q := by
  unfold m_vi at e
  split at e
  · exact ⟨_, rfl, e⟩
  · cases e
def m_vj (v : Value) (f : Int64 → Option m_S) : Option m_S := match v with
  | .long x => f x
  | _ => none
theorem m_vj_s {v : Value} {f : Int64 → Option m_S} {q : m_S} (e : m_vj v f = some q) : ∃ x, v = .long x ∧ f x = some q := by
  unfold m_vj at e
  split at e
  · exact ⟨_, rfl, e⟩
  · cases e
def m_vr (v : Value) (f : Nat → Option m_S) : Option m_S := match v with
  | .ref x => f x
  | _ => none
theorem m_vr_s {v : Value} {f : Nat → Option m_S} {q : m_S} (e : m_vr v f = some q) : ∃ x, v = .ref x ∧ f x = some q := by
  unfold m_vr at e
  split at e
  · exact ⟨_, rfl, e⟩
  · cases e
def m_cls (c : Nat) : vw_C := m_cl.getD c ("", fun _ => ("", "", "", false), 0)
def m_fty (c k : Nat) : FieldType := (parseFieldDescriptor ((m_cls c).2.1 k).2.2.1).getD .int
def m_sB (X : List Int32) (k : Nat) (i : Instr) (pc : Nat) (L : m_L) (st : List Value) (h : m_H) : Option m_S := match i with
  | .getfield ix => m_a st fun a r => match m_fl.lookup (m_o k, ix) with
    | some e => match h[a]? with
      | some c => m_c (c.1 = e.1) (match c.2[e.2.1]? with
        | some v => some (pc + 3, L, v :: r, h)
        | none => none)
      | none => none
    | none => none
  | .putfield ix => m_va st fun a v r => match m_fl.lookup (m_o k, ix) with
    | some e => match h[a]? with
      | some c => m_c (c.1 = e.1 ∧ e.2.1 < c.2.length ∧ narrow (m_fty e.1 e.2.1) v = v ∧ fits (m_fty e.1 e.2.1) v = true ∧ (((m_cls e.1).2.1 e.2.1).2.2.2 = false ∨ ((m_y k).name = "<init>" ∧ (m_cls e.1).1 = m_cn (m_o k)))) (some (pc + 3, L, r, h.set a (e.1, c.2.set e.2.1 v)))
      | none => none
    | none => none
  | .getstatic ix => match m_gl.lookup (m_o k, ix) with
    | some e => some (pc + 3, L, .ref e :: st, h)
    | none => none
  | .iaload => m_ai st fun a i r => if 1000 ≤ a then (match m_ex X a with
      | some l => m_c (¬ (i < 0 ∨ l.length ≤ i.toNatClampNeg)) (some (pc + 1, L, .int (l.getD i.toNatClampNeg 0) :: r, h))
      | none => none)
    else m_rd h 20 a i fun v => m_vi v fun x => some (pc + 1, L, .int x :: r, h)
  | .laload => m_ai st fun a i r => m_rd h 21 a i fun v => m_vj v fun x => some (pc + 1, L, .long x :: r, h)
  | .aaload => m_ai st fun a i r => if (h[a]?).map (fun c => c.1) = some 23 then m_rd h 23 a i fun v => m_vr v fun x => some (pc + 1, L, .ref x :: r, h) else m_rd h 24 a i fun v => m_vr v fun x => some (pc + 1, L, .ref x :: r, h)
  | .iastore => m_aii st fun a i x r => m_wr h 20 a i (.int x) fun h' => some (pc + 1, L, r, h')
  | .lastore => m_aij st fun a i x r => m_wr h 21 a i (.long x) fun h' => some (pc + 1, L, r, h')
  | .aastore => m_aia st fun a i x r => m_c ((h[x]?).map (fun c => c.1) = some 0) (m_wr h 23 a i (.ref x) fun h' => some (pc + 1, L, r, h'))
  | .arraylength => m_a st fun a r => if a = 1000 then some (pc + 1, L, .int (Int32.ofNat X.length) :: r, h) else match h[a]? with
    | some c => m_c (20 ≤ c.1 ∧ c.1 ≤ 24) (some (pc + 1, L, .int (Int32.ofNat c.2.length) :: r, h))
    | none => none
  | _ => none
-- ----- new cells; natives -----
def m_okv (lo hi : Nat) (v : Value) : Bool := match v with
  | .ref a => decide (a < lo) || decide (hi ≤ a)
  | _ => true
def m_okL (lo hi : Nat) (L : m_L) : Bool := L.all (fun o => match o with
  | some v => m_okv lo hi v
  | none => true)
def m_okS (lo hi : Nat) (st : List Value) : Bool := st.all (m_okv lo hi)
def m_okH (lo hi : Nat) (h : m_H) : Bool := h.all (fun c => c.2.all (m_okv lo hi))
def m_ok (lo hi : Nat) (L : m_L) (st : List Value) (h : m_H) : Prop := m_okL lo hi L = true ∧ m_okS lo hi st = true ∧ m_okH lo hi h = true ∧ hi ≤ 1000
def m_dec_ok (lo hi : Nat) (L : m_L) (st : List Value) (h : m_H) : Decidable (m_ok lo hi L st h) := by unfold m_ok; exact inferInstance
def m_al1 (L : m_L) (st : List Value) (h : m_H) (c : Nat × List Value) (pc : Nat) : Option m_S := if m_okL h.length (h.length + 1) L && m_okS h.length (h.length + 1) st && m_okH h.length (h.length + 1) h && decide (h.length + 1 ≤ 1000) then some (pc, L, .ref h.length :: st, h ++ [c]) else none
def m_sum (st : List Value) : Nat := (st.map fun v => v.category).sum
def m_sC (k : Nat) (i : Instr) (pc : Nat) (L : m_L) (st : List Value) (h : m_H) : Option m_S := match i with
  | .new ix => match m_nl.lookup (m_o k, ix) with
    | some e => m_al1 L st h (e.1, (List.range (m_cls e.1).2.2).map (fun j => defaultValue (m_fty e.1 j))) (pc + 3)
    | none => none
  | .newarray ty => m_i st fun n r => m_c (¬ n < 0 ∧ n.toNatClampNeg ≤ 1000000) (match ty with
    | .int => m_al1 L r h (20, List.replicate n.toNatClampNeg (.int 0)) (pc + 2)
    | .long => m_al1 L r h (21, List.replicate n.toNatClampNeg (.long 0)) (pc + 2)
    | _ => none)
  | .anewarray ix => m_i st fun n r => m_c (¬ n < 0 ∧ n.toNatClampNeg ≤ 1000000 ∧ (m_al.lookup (m_o k, ix)).isSome = true) (m_al1 L r h (23, List.replicate n.toNatClampNeg .null) (pc + 3))
  | .multianewarray ix dims => m_ii st fun n z r => m_c (dims = 2 ∧ ¬ n < 0 ∧ ¬ z < 0 ∧ n.toNatClampNeg ≤ 1000 ∧ z.toNatClampNeg ≤ 1000 ∧ (m_ml.lookup (m_o k, ix)).isSome = true ∧
      m_okL h.length (h.length + 1 + n.toNatClampNeg) L = true ∧ m_okS h.length (h.length + 1 + n.toNatClampNeg) r = true ∧ m_okH h.length (h.length + 1 + n.toNatClampNeg) h = true ∧ h.length + 1 + n.toNatClampNeg ≤ 1000)
    (some (pc + 4, L, .ref h.length :: r, (h ++ [(24, (List.range n.toNatClampNeg).map (fun i => .ref (h.length + 1 + i)))]) ++ List.replicate n.toNatClampNeg (20, List.replicate z.toNatClampNeg (.int 0))))
  | .invokespecial ix => m_a st fun _ r => m_c ((m_oi.lookup (m_o k, ix)).isSome = true ∧ m_sum r ≤ 8) (some (pc + 3, L, r, h))
  | .invokestatic ix => match m_mm.lookup (m_o k, ix) with
    | some e => m_ii st fun x y r => m_c (m_sum r ≤ 8) (if e.1 = 0 then some (pc + 3, L, .int (if x < y then y else x) :: r, h) else some (pc + 3, L, .int (if y < x then y else x) :: r, h))
    | none => match st with
      | .int n :: .int dp :: .ref a :: .int sp :: .ref a0 :: r => match h[a0]?, h[a]? with
        | some c0, some c1 => m_c ((m_ac.lookup (m_o k, ix)).isSome = true ∧ m_sum r ≤ 8 ∧ c0.1 = 20 ∧ c1.1 = 20 ∧ ¬ sp < 0 ∧ ¬ dp < 0 ∧ ¬ n < 0 ∧ sp.toNatClampNeg + n.toNatClampNeg ≤ c0.2.length ∧ dp.toNatClampNeg + n.toNatClampNeg ≤ c1.2.length)
            (some (pc + 3, L, r, h.set a (20, (List.range c1.2.length).map (fun j => if dp.toNatClampNeg ≤ j ∧ j < dp.toNatClampNeg + n.toNatClampNeg then c0.2.getD (sp.toNatClampNeg + (j - dp.toNatClampNeg)) .null else c1.2.getD j .null))))
        | _, _ => none
      | _ => none
  | _ => none
def m_step (X : List Int32) (k : Nat) (i : Instr) (pc : Nat) (L : m_L) (st : List Value) (h : m_H) : Option m_S := match m_sA k i pc L st h with
  | some q => some q
  | none => match m_sB X k i pc L st h with
    | some q => some q
    | none => m_sC k i pc L st h
-- ----- returns and calls -----
def m_rok (k : Nat) (x : Int32) : Bool := match m_r k with
  | some ty => decide (narrow ty (.int x) = .int x)
  | none => false
def m_rob (k : Nat) : Bool := match m_r k with
  | some (.object _) => true
  | _ => false
def m_ret (k : Nat) (i : Instr) (st : List Value) : Option (Option Value) := match i with
  | .ireturn => match st with
    | [.int x] => if m_rok k x = true then some (some (.int x)) else none
    | _ => none
  | .lreturn => match st with
    | [.long x] => if m_r k = some .long then some (some (.long x)) else none
    | _ => none
  | .areturn => match st with
    | [.ref a] => if m_rob k = true then some (some (.ref a)) else none
    | _ => none
  | .return_ => match st with
    | [] => if m_r k = none then some none else none
    | _ => none
  | _ => none
/-- a call: of whom, with what, what stays on the stack -/
def m_inv (k : Nat) (i : Instr) (st : List Value) (h : m_H) : Option (Nat × List Value × List Value) := match i with
  | .invokevirtual ix => match m_il.lookup (m_o k, ix) with
    | some (kd, y, n, _) => match st.drop n with
      | .ref b :: r => m_c (kd = 0 ∧ m_sum r ≤ 8 ∧ n ≤ st.length ∧ (h[b]?).map (fun c => (m_cls c.1).1) = some (m_y y).cls ∧ (h[b]?).map (fun c => decide (c.1 < m_cl.length)) = some true) (some (y, .ref b :: (st.take n).reverse, r))
      | _ => none
    | none => none
  | .invokestatic ix => match m_il.lookup (m_o k, ix) with
    | some (kd, y, n, _) => m_c ((kd = 1 ∨ kd = 3) ∧ m_sum (st.drop n) ≤ 8 ∧ n ≤ st.length) (some (y, (st.take n).reverse, st.drop n))
    | none => none
  | .invokespecial ix => match m_il.lookup (m_o k, ix) with
    | some (kd, y, n, _) => match st.drop n with
      | .ref b :: r => m_c ((kd = 2 ∨ kd = 4) ∧ m_sum r ≤ 8 ∧ n ≤ st.length) (some (y, .ref b :: (st.take n).reverse, r))
      | _ => none
    | none => none
  | _ => none
def m_lay : List Value → m_L
  | [] => []
  | v :: vs => if v.category = 2 then some v :: none :: m_lay vs else some v :: m_lay vs
def m_ent (y : Nat) (As : List Value) : m_L := m_lay As ++ List.replicate (m_n y - (m_lay As).length) none
def m_push (v : Option Value) (r : List Value) : List Value := match v with
  | some x => x :: r
  | none => r
/-- what stays on the stack and among the locals speaks of no new cell -/
def m_okc (L : m_L) (r : List Value) (h h' : m_H) : Bool := (decide (h'.length = h.length)) || (m_okL h.length h'.length L && m_okS h.length h'.length r)
def m_run (X : List Int32) : Nat → Nat → Nat → Nat → m_L → List Value → m_H → Option (Option Value × m_H)
  | 0, _, _, _, _, _, _ => none
  | n + 1, d, k, pc, L, st, h => match decode (m_b k) pc with
    | .error _ => none
    | .ok (i, len) => if len = m_ln i len then (match m_ret k i st with
      | some v => some (v, h)
      | none => match m_inv k i st h with
        | some (y, As, r) => match d with
          | 0 => none
          | d' + 1 => if (m_lay As).length ≤ m_n y then (match m_run X n d' y 0 (m_ent y As) [] h with
            | some (v, h') => if m_okc L r h h' then m_run X n (d' + 1) k (pc + 3) L (m_push v r) h' else none
            | none => none) else none
        | none => match m_step X k i pc L st h with
          | some q => m_run X n d k q.1 q.2.1 q.2.2.1 q.2.2.2
          | none => none) else none
end
section
/-! what a state of the little machine is in the machine: cells, locals, and what a method may take as given -/
def m_cv (ad : Nat → Nat) (v : Value) : Value := match v with
  | .ref a => .ref (ad a)
  | v => v
theorem m_cv_cat (ad : Nat → Nat) (v : Value) : (m_cv ad v).category = v.category := by cases v <;> rfl
def m_toI (v : Value) : Int32 := match v with
  | .int x => x
  | _ => 0
def m_toL (v : Value) : Int64 := match v with
  | .long x => x
  | _ => 0
def m_toR (v : Value) : Option Nat := match v with
  | .ref a => some a
  | _ => none
def m_ent1 (dA : Nat → ClassId) (ad : Nat → Nat) (c : Nat × List Value) : va_E :=
  if c.1 = 20 then .inl (dA 20, c.2.length, .inl (fun j => m_toI (c.2.getD j .null)))
  else if c.1 = 21 then .inl (dA 21, c.2.length, .inr (.inl (fun j => m_toL (c.2.getD j .null))))
  else if c.1 = 22 then .inl (dA 22, c.2.length, .inl (fun j => m_toI (c.2.getD j .null)))
  else if c.1 = 23 then .inl (dA 23, c.2.length, .inr (.inr (.inr (.inr (fun j => (m_toR (c.2.getD j .null)).map ad)))))
  else if c.1 = 24 then .inl (dA 24, c.2.length, .inr (.inr (.inr (.inr (fun j => (m_toR (c.2.getD j .null)).map ad)))))
  else .inr (c.1, c.2.map (m_cv ad))
def m_ws (dA : Nat → ClassId) (ad : Nat → Nat) (h : m_H) : va_W := h.mapIdx (fun k c => (ad k, m_ent1 dA ad c))
theorem m_ws_at {dA : Nat → ClassId} {ad : Nat → Nat} {h : m_H} {a : Nat} {c : Nat × List Value} (e : h[a]? = some c) : (m_ws dA ad h)[a]? = some (ad a, m_ent1 dA ad c) := by
  unfold m_ws
  rw [List.getElem?_mapIdx, e]
  rfl
theorem m_ws_set {dA : Nat → ClassId} {ad : Nat → Nat} {h : m_H} {a : Nat} {c : Nat × List Value} : m_ws dA ad (h.set a c) = (m_ws dA ad h).set a (ad a, m_ent1 dA ad c) := by
  apply List.ext_getElem?
  intro i
  unfold m_ws
  rw [List.getElem?_mapIdx, List.getElem?_set, List.getElem?_set, List.getElem?_mapIdx, List.length_mapIdx]
  by_cases e : a = i
  · subst e
    by_cases hl : a < h.length
    · simp [hl]
    · simp [hl]
  · simp [e]
theorem m_ws_app {dA : Nat → ClassId} {ad : Nat → Nat} {h : m_H} {c : Nat × List Value} : m_ws dA ad (h ++ [c]) = m_ws dA ad h ++ [(ad h.length, m_ent1 dA ad c)] := by
  unfold m_ws
  rw [List.mapIdx_append]
  simp
theorem m_ws_len {dA : Nat → ClassId} {ad : Nat → Nat} {h : m_H} : (m_ws dA ad h).length = h.length := by
  unfold m_ws
  exact List.length_mapIdx
def m_tys (dA : Nat → ClassId) : List (ClassId × FieldType) := [(dA 20, .int), (dA 21, .long), (dA 22, .int), (dA 23, .object "SnowHut$Guest"), (dA 24, .array .int)]
def m_sl (h : m_H) : Nat := (h.map (fun c => c.2.length)).sum
/-- arrays that nobody writes -/
def m_EX (X : List Int32) (ad : Nat → Nat) (A : Nat → Prop) (U : State) (H : Heap) : Prop :=
  (∀ e ∈ m_sx, va_Z "SnowHut" e.2.1 "[I" (.ref (ad e.1)) A U H ∧ va_T .int (ad e.1) e.2.2.length (fun j => .int (e.2.2.getD j 0)) A U H) ∧
  va_X (ad 1000) X.length (fun j => X.getD j 0) U H ∧ ad 1000 < H.size ∧ ¬ A (ad 1000)
/-- words of nest mates, and of arrays of references -/
def m_NW (U : State) : Prop := (∀ w ∈ m_nw, va_Nw w U) ∧ va_AO "SnowHut$Guest" U ∧ (Cond.arrayOver (.array .int)).before #[] U = true
/-- what a method takes as given -/
def m_C (k : Nat) (X : List Int32) (p : Program) (R : Room) (s : State) (m : MethodId) (args : Array Value) (meth : Method) (c : Code) (D : va_G) (dA : Nat → ClassId) (A : Nat → Prop) (ad0 : Nat → Nat) : Prop :=
  p.tables.exec = Jvm.exec ∧ c.code = m_b k ∧ c.maxLocals = m_n k ∧ s.vm.findClass (m_cn (m_o k)) = some m.cls ∧ (∀ w ∈ m_tb, w.before args s = true) ∧ m_NW s ∧ va_K D m_cl (m_tys dA) s ∧
  (∀ q : Nat, s.heap.size ≤ q → A q) ∧ m_EX X ad0 A s s.heap ∧ meth.name = (m_y k).name ∧ 1 ≤ R.frames ∧ 38 ≤ R.locals ∧ X.length < 2 ^ 31
/-- the world, and the frame -/
def m_I (D : va_G) (dA : Nat → ClassId) (A : Nat → Prop) (s : State) (ad0 ad : Nat → Nat) (N0 S0 : Nat) (h : m_H) (H : Heap) (locs : List Loc) (cells slots : Nat) : Prop :=
  va_P D m_cl (m_ws dA ad h) H ∧ va_D A (m_ws dA ad h) ∧ va_S A s.heap H locs ∧ cells + N0 = h.length ∧ slots + S0 = m_sl h ∧ (∀ a : Nat, a < N0 ∨ h.length ≤ a → ad a = ad0 a) ∧ h.length ≤ 1000
theorem m_I_big {D : va_G} {dA : Nat → ClassId} {A : Nat → Prop} {s : State} {ad0 ad : Nat → Nat} {N0 S0 : Nat} {h : m_H} {H : Heap} {locs : List Loc} {cells slots a : Nat} (I : m_I D dA A s ad0 ad N0 S0 h H locs cells slots) (ha : 1000 ≤ a) : ad a = ad0 a := I.2.2.2.2.2.1 a (Or.inr (Nat.le_trans I.2.2.2.2.2.2 ha))
def m_lo (ls : Array Slot) (nL : Nat) (L : m_L) (ad : Nat → Nat) : Prop := ls.size = nL ∧ lv_wf ls ∧ L.length = nL ∧ ∀ (i : Nat) (v : Value), L[i]? = some (some v) → ls[i]? = some (.val (m_cv ad v))
-- ----- locals -----
def m_prs (L : m_L) (ad : Nat → Nat) : List (Nat × Value) := (List.range L.length).filterMap (fun i => match L[i]? with
  | some (some v) => some (i, m_cv ad v)
  | _ => none)
theorem m_prs_in {L : m_L} {ad : Nat → Nat} {i : Nat} {v : Value} (h : L[i]? = some (some v)) : (i, m_cv ad v) ∈ m_prs L ad := by
  unfold m_prs
  refine List.mem_filterMap.mpr ⟨i, List.mem_range.mpr (List.getElem?_eq_some_iff.mp h).1, ?_⟩
  rw [h]
theorem m_prs_of {L : m_L} {ad : Nat → Nat} {q : Nat × Value} (h : q ∈ m_prs L ad) : ∃ v, L[q.1]? = some (some v) ∧ q.2 = m_cv ad v := by
  unfold m_prs at h
  obtain ⟨i, -, e⟩ := List.mem_filterMap.mp h
  split at e
  · next v hv =>
    cases e
    exact ⟨v, hv, rfl⟩
  · cases e
theorem m_lo_has {ls : Array Slot} {nL : Nat} {L : m_L} {ad : Nat → Nat} (h : m_lo ls nL L ad) : lv_has ls nL (m_prs L ad) := by
  refine ⟨h.1, h.2.1, fun q hq => ?_⟩
  obtain ⟨v, h1, h2⟩ := m_prs_of hq
  rw [h2]
  exact h.2.2.2 _ _ h1
theorem m_clr_len (L : m_L) (i : Nat) : (m_clr L i).length = L.length := by
  unfold m_clr
  split
  · rfl
  · split
    · split
      · rw [List.length_set]
      · rfl
    · rfl
theorem m_clr_at {L : m_L} {i j : Nat} {v : Value} (h : (m_clr L i)[j]? = some (some v)) : L[j]? = some (some v) ∧ ¬ (j + 1 = i ∧ v.category = 2) := by
  unfold m_clr at h
  split at h
  · exact ⟨h, by omega⟩
  · next z =>
    split at h
    · next w hw =>
      split at h
      · next hc =>
        rw [List.getElem?_set] at h
        split at h
        · split at h
          · cases h
          · cases h
        · next hne => exact ⟨h, fun q => hne (by omega)⟩
      · next hc =>
        refine ⟨h, fun q => hc ?_⟩
        obtain rfl : j = z := by omega
        rw [h] at hw
        cases hw
        exact q.2
    · next hw =>
      refine ⟨h, fun q => ?_⟩
      obtain rfl : j = z := by omega
      exact hw _ h
theorem m_lo_st1 {ls ls' : Array Slot} {nL : Nat} {L : m_L} {ad : Nat → Nat} {i : Nat} {v : Value} (h : m_lo ls nL L ad) (h' : lv_has ls' nL ((i, m_cv ad v) :: (m_prs L ad).filter (fun q => !(q.1 == i) && !(q.1 + 1 == i && q.2.category == 2)))) : m_lo ls' nL (m_st1 L i v) ad := by
  obtain ⟨e1, e2, e3⟩ := h'
  refine ⟨e1, e2, ?_, fun j w hj => ?_⟩
  · unfold m_st1
    rw [List.length_set, m_clr_len]
    exact h.2.2.1
  · unfold m_st1 at hj
    rw [List.getElem?_set] at hj
    split at hj
    · next hij =>
      subst hij
      split at hj
      · cases hj
        exact e3 _ List.mem_cons_self
      · cases hj
    · next hij =>
      obtain ⟨hj, hc⟩ := m_clr_at hj
      refine e3 (j, m_cv ad w) (List.mem_cons_of_mem _ (List.mem_filter.mpr ⟨m_prs_in hj, ?_⟩))
      rw [m_cv_cat]
      simp only [Bool.and_eq_true, Bool.not_eq_true', beq_eq_false_iff_ne, ne_eq, Bool.and_eq_false_iff]
      refine ⟨fun q => hij q.symm, ?_⟩
      by_cases z : j + 1 = i
      · exact Or.inr (fun q => hc ⟨z, q⟩)
      · exact Or.inl z
theorem m_lo_st2 {ls ls' : Array Slot} {nL : Nat} {L : m_L} {ad : Nat → Nat} {i : Nat} {v : Value} (h : m_lo ls nL L ad) (h' : lv_has ls' nL ((i, m_cv ad v) :: (m_prs L ad).filter (fun q => !(q.1 == i) && (!(q.1 == i + 1) && !(q.1 + 1 == i && q.2.category == 2))))) : m_lo ls' nL (m_st2 L i v) ad := by
  obtain ⟨e1, e2, e3⟩ := h'
  refine ⟨e1, e2, ?_, fun j w hj => ?_⟩
  · unfold m_st2
    rw [List.length_set, List.length_set, m_clr_len]
    exact h.2.2.1
  · unfold m_st2 at hj
    rw [List.getElem?_set] at hj
    split at hj
    · next hij1 =>
      split at hj
      · cases hj
      · cases hj
    · next hij1 =>
      rw [List.getElem?_set] at hj
      split at hj
      · next hij =>
        subst hij
        split at hj
        · cases hj
          exact e3 _ List.mem_cons_self
        · cases hj
      · next hij =>
        obtain ⟨hj, hc⟩ := m_clr_at hj
        refine e3 (j, m_cv ad w) (List.mem_cons_of_mem _ (List.mem_filter.mpr ⟨m_prs_in hj, ?_⟩))
        rw [m_cv_cat]
        simp only [Bool.and_eq_true, Bool.not_eq_true', beq_eq_false_iff_ne, ne_eq, Bool.and_eq_false_iff]
        refine ⟨fun q => hij q.symm, fun q => hij1 q.symm, ?_⟩
        by_cases z : j + 1 = i
        · exact Or.inr (fun q => hc ⟨z, q⟩)
        · exact Or.inl z
theorem m_lo_ext {ls : Array Slot} {nL : Nat} {L : m_L} {ad ad' : Nat → Nat} (h : m_lo ls nL L ad) (he : ∀ (i : Nat) (v : Value), L[i]? = some (some v) → m_cv ad' v = m_cv ad v) : m_lo ls nL L ad' :=
  ⟨h.1, h.2.1, h.2.2.1, fun i v hv => by rw [he i v hv]; exact h.2.2.2 i v hv⟩
-- ----- the tables' checks, used -----
theorem m_lookup {α β : Type} [BEq α] [LawfulBEq α] {l : List (α × β)} {k : α} {v : β} (h : l.lookup k = some v) : (k, v) ∈ l := by
  induction l with
  | nil => cases h
  | cons x l ih =>
    obtain ⟨a, b⟩ := x
    rw [List.lookup_cons] at h
    split at h
    · next e =>
      cases h
      rw [eq_of_beq e]
      exact List.mem_cons_self
    · exact List.mem_cons_of_mem _ (ih h)
theorem m_k32_use {o ix : Nat} {e : Int32 × Nat} (h : m_k32.lookup (o, ix) = some e) : Cond.constant (m_cn o) ix e.1 ∈ m_tb := m_has_mem (List.all_eq_true.mp m_k32_ok _ (m_lookup h))
theorem m_k64_use {o ix : Nat} {e : Int64 × Nat} (h : m_k64.lookup (o, ix) = some e) : Cond.constantLong (m_cn o) ix e.1 ∈ m_tb := m_has_mem (List.all_eq_true.mp m_k64_ok _ (m_lookup h))
end
section
/-! the rows of the instructions that leave the heap alone -/
def m_KK (p : Program) (l : Launch) (e : Env) (R : Room) (s : State) (m : MethodId) (args : Array Value) (below : List Frame) (meth : Method) (c : Code) (Q : State → Prop) (D : va_G) (dA : Nat → ClassId) (A : Nat → Prop) (ad0 : Nat → Nat) (N0 S0 nL : Nat) (q : m_S) : Prop :=
  ∀ (ad : Nat → Nat) (H : Heap) (locs : List Loc) (cells slots : Nat) (ls : Array Slot), m_I D dA A s ad0 ad N0 S0 q.2.2.2 H locs cells slots → m_lo ls nL q.2.1 ad →
    W p l e R s m args below meth c H locs cells slots Q (F0 m q.1 ls (q.2.2.1.map (m_cv ad)))
section MSA
variable {p : Program} {l : Launch} {e : Env} {R : Room} {s : State} {m : MethodId} {args : Array Value} {below : List Frame} {meth : Method} {c : Code} {H : Heap} {locs : List Loc} {cells slots : Nat} {Q : State → Prop}
variable {k pc len nL N0 S0 : Nat} {X : List Int32} {D : va_G} {dA : Nat → ClassId} {A : Nat → Prop} {ad0 ad : Nat → Nat} {L : m_L} {st : List Value} {h : m_H} {ls : Array Slot} {q : m_S}
theorem m_go_ok {off : Int} (hs : m_go pc off L st h = some q) : ∃ tgt : Nat, (pc : Int) + off = (tgt : Int) ∧ q = (tgt, L, st, h) := by
  unfold m_go at hs
  obtain ⟨h1, h2⟩ := m_c_s hs
  cases h2
  exact ⟨((pc : Int) + off).toNat, by omega, rfl⟩

theorem ms_iconst {n : Int} (C : m_C k X p R s m args meth c D dA A ad0) (I : m_I D dA A s ad0 ad N0 S0 h H locs cells slots) (hl : m_lo ls (m_n k) L ad) (hd : decode (m_b k) pc = .ok (.iconst n, m_ln (.iconst n) len)) (hs : m_sA k (.iconst n) pc L st h = some q) (kk : m_KK p l e R s m args below meth c Q D dA A ad0 N0 S0 (m_n k) q) : W p l e R s m args below meth c H locs cells slots Q (F0 m pc ls (st.map (m_cv ad))) := by
  have hx := C.1
  have hb := C.2.1
  cases hs
  refine lv_iconst (v := Int32.ofInt n) hx hb hd rfl ?_
  exact kk ad H locs cells slots ls I hl

theorem ms_bipush {n : Int} (C : m_C k X p R s m args meth c D dA A ad0) (I : m_I D dA A s ad0 ad N0 S0 h H locs cells slots) (hl : m_lo ls (m_n k) L ad) (hd : decode (m_b k) pc = .ok (.bipush n, m_ln (.bipush n) len)) (hs : m_sA k (.bipush n) pc L st h = some q) (kk : m_KK p l e R s m args below meth c Q D dA A ad0 N0 S0 (m_n k) q) : W p l e R s m args below meth c H locs cells slots Q (F0 m pc ls (st.map (m_cv ad))) := by
  have hx := C.1
  have hb := C.2.1
  cases hs
  refine lv_bipush (v := (Int8.ofInt n).toInt32) hx hb hd rfl ?_
  exact kk ad H locs cells slots ls I hl

theorem ms_sipush {n : Int} (C : m_C k X p R s m args meth c D dA A ad0) (I : m_I D dA A s ad0 ad N0 S0 h H locs cells slots) (hl : m_lo ls (m_n k) L ad) (hd : decode (m_b k) pc = .ok (.sipush n, m_ln (.sipush n) len)) (hs : m_sA k (.sipush n) pc L st h = some q) (kk : m_KK p l e R s m args below meth c Q D dA A ad0 N0 S0 (m_n k) q) : W p l e R s m args below meth c H locs cells slots Q (F0 m pc ls (st.map (m_cv ad))) := by
  have hx := C.1
  have hb := C.2.1
  cases hs
  refine lv_sipush (v := (Int16.ofInt n).toInt32) hx hb hd rfl ?_
  exact kk ad H locs cells slots ls I hl

theorem ms_lconst {n : Fin 2} (C : m_C k X p R s m args meth c D dA A ad0) (I : m_I D dA A s ad0 ad N0 S0 h H locs cells slots) (hl : m_lo ls (m_n k) L ad) (hd : decode (m_b k) pc = .ok (.lconst n, m_ln (.lconst n) len)) (hs : m_sA k (.lconst n) pc L st h = some q) (kk : m_KK p l e R s m args below meth c Q D dA A ad0 N0 S0 (m_n k) q) : W p l e R s m args below meth c H locs cells slots Q (F0 m pc ls (st.map (m_cv ad))) := by
  have hx := C.1
  have hb := C.2.1
  cases hs
  refine lv_lconst (v := Int64.ofNat (n : Nat)) hx hb hd rfl ?_
  exact kk ad H locs cells slots ls I hl

theorem ms_ldc_w {ix : Nat} (C : m_C k X p R s m args meth c D dA A ad0) (I : m_I D dA A s ad0 ad N0 S0 h H locs cells slots) (hl : m_lo ls (m_n k) L ad) (hd : decode (m_b k) pc = .ok (.ldc_w ix, m_ln (.ldc_w ix) len)) (hs : m_sA k (.ldc_w ix) pc L st h = some q) (kk : m_KK p l e R s m args below meth c Q D dA A ad0 N0 S0 (m_n k) q) : W p l e R s m args below meth c H locs cells slots Q (F0 m pc ls (st.map (m_cv ad))) := by
  have hx := C.1
  have hb := C.2.1
  simp only [m_sA] at hs
  split at hs
  · next e1 he =>
    cases hs
    refine lv_ldcw (own := m_cn (m_o k)) (v := e1.1) hx hb C.2.2.2.1 (C.2.2.2.2.1 _ (m_k32_use he)) hd ?_
    exact kk ad H locs cells slots ls I hl
  · cases hs

theorem ms_ldc {ix : Nat} (C : m_C k X p R s m args meth c D dA A ad0) (I : m_I D dA A s ad0 ad N0 S0 h H locs cells slots) (hl : m_lo ls (m_n k) L ad) (hd : decode (m_b k) pc = .ok (.ldc ix, m_ln (.ldc ix) len)) (hs : m_sA k (.ldc ix) pc L st h = some q) (kk : m_KK p l e R s m args below meth c Q D dA A ad0 N0 S0 (m_n k) q) : W p l e R s m args below meth c H locs cells slots Q (F0 m pc ls (st.map (m_cv ad))) := by
  have hx := C.1
  have hb := C.2.1
  simp only [m_sA] at hs
  split at hs
  · next e1 he =>
    cases hs
    refine lv_ldc (own := m_cn (m_o k)) (v := e1.1) hx hb C.2.2.2.1 (C.2.2.2.2.1 _ (m_k32_use he)) hd ?_
    exact kk ad H locs cells slots ls I hl
  · cases hs

theorem ms_ldc2_w {ix : Nat} (C : m_C k X p R s m args meth c D dA A ad0) (I : m_I D dA A s ad0 ad N0 S0 h H locs cells slots) (hl : m_lo ls (m_n k) L ad) (hd : decode (m_b k) pc = .ok (.ldc2_w ix, m_ln (.ldc2_w ix) len)) (hs : m_sA k (.ldc2_w ix) pc L st h = some q) (kk : m_KK p l e R s m args below meth c Q D dA A ad0 N0 S0 (m_n k) q) : W p l e R s m args below meth c H locs cells slots Q (F0 m pc ls (st.map (m_cv ad))) := by
  have hx := C.1
  have hb := C.2.1
  simp only [m_sA] at hs
  split at hs
  · next e1 he =>
    cases hs
    refine lv_ldc2 (own := m_cn (m_o k)) (v := e1.1) hx hb C.2.2.2.1 (C.2.2.2.2.1 _ (m_k64_use he)) hd ?_
    exact kk ad H locs cells slots ls I hl
  · cases hs

theorem ms_iload_n {n : Fin 4} (C : m_C k X p R s m args meth c D dA A ad0) (I : m_I D dA A s ad0 ad N0 S0 h H locs cells slots) (hl : m_lo ls (m_n k) L ad) (hd : decode (m_b k) pc = .ok (.iload_n n, m_ln (.iload_n n) len)) (hs : m_sA k (.iload_n n) pc L st h = some q) (kk : m_KK p l e R s m args below meth c Q D dA A ad0 N0 S0 (m_n k) q) : W p l e R s m args below meth c H locs cells slots Q (F0 m pc ls (st.map (m_cv ad))) := by
  have hx := C.1
  have hb := C.2.1
  obtain ⟨x, e1, e2⟩ := m_ldi_s hs
  cases e2
  refine lv_iload_n hx hb hd rfl (hl.2.2.2 _ _ e1) ?_
  exact kk ad H locs cells slots ls I hl

theorem ms_lload_n {n : Fin 4} (C : m_C k X p R s m args meth c D dA A ad0) (I : m_I D dA A s ad0 ad N0 S0 h H locs cells slots) (hl : m_lo ls (m_n k) L ad) (hd : decode (m_b k) pc = .ok (.lload_n n, m_ln (.lload_n n) len)) (hs : m_sA k (.lload_n n) pc L st h = some q) (kk : m_KK p l e R s m args below meth c Q D dA A ad0 N0 S0 (m_n k) q) : W p l e R s m args below meth c H locs cells slots Q (F0 m pc ls (st.map (m_cv ad))) := by
  have hx := C.1
  have hb := C.2.1
  obtain ⟨x, e1, e2⟩ := m_ldj_s hs
  cases e2
  refine lv_lload_n hx hb hd rfl (hl.2.2.2 _ _ e1) ?_
  exact kk ad H locs cells slots ls I hl

theorem ms_aload_n {n : Fin 4} (C : m_C k X p R s m args meth c D dA A ad0) (I : m_I D dA A s ad0 ad N0 S0 h H locs cells slots) (hl : m_lo ls (m_n k) L ad) (hd : decode (m_b k) pc = .ok (.aload_n n, m_ln (.aload_n n) len)) (hs : m_sA k (.aload_n n) pc L st h = some q) (kk : m_KK p l e R s m args below meth c Q D dA A ad0 N0 S0 (m_n k) q) : W p l e R s m args below meth c H locs cells slots Q (F0 m pc ls (st.map (m_cv ad))) := by
  have hx := C.1
  have hb := C.2.1
  obtain ⟨x, e1, e2⟩ := m_lda_s hs
  cases e2
  refine lv_aload_n hx hb hd rfl (hl.2.2.2 _ _ e1) ?_
  exact kk ad H locs cells slots ls I hl

theorem ms_iload {n : Nat} (C : m_C k X p R s m args meth c D dA A ad0) (I : m_I D dA A s ad0 ad N0 S0 h H locs cells slots) (hl : m_lo ls (m_n k) L ad) (hd : decode (m_b k) pc = .ok (.iload n, m_ln (.iload n) len)) (hs : m_sA k (.iload n) pc L st h = some q) (kk : m_KK p l e R s m args below meth c Q D dA A ad0 N0 S0 (m_n k) q) : W p l e R s m args below meth c H locs cells slots Q (F0 m pc ls (st.map (m_cv ad))) := by
  have hx := C.1
  have hb := C.2.1
  obtain ⟨x, e1, e2⟩ := m_ldi_s hs
  cases e2
  refine lv_iload hx hb hd (hl.2.2.2 _ _ e1) ?_
  exact kk ad H locs cells slots ls I hl

theorem ms_lload {n : Nat} (C : m_C k X p R s m args meth c D dA A ad0) (I : m_I D dA A s ad0 ad N0 S0 h H locs cells slots) (hl : m_lo ls (m_n k) L ad) (hd : decode (m_b k) pc = .ok (.lload n, m_ln (.lload n) len)) (hs : m_sA k (.lload n) pc L st h = some q) (kk : m_KK p l e R s m args below meth c Q D dA A ad0 N0 S0 (m_n k) q) : W p l e R s m args below meth c H locs cells slots Q (F0 m pc ls (st.map (m_cv ad))) := by
  have hx := C.1
  have hb := C.2.1
  obtain ⟨x, e1, e2⟩ := m_ldj_s hs
  cases e2
  refine lv_lload hx hb hd (hl.2.2.2 _ _ e1) ?_
  exact kk ad H locs cells slots ls I hl

theorem ms_aload {n : Nat} (C : m_C k X p R s m args meth c D dA A ad0) (I : m_I D dA A s ad0 ad N0 S0 h H locs cells slots) (hl : m_lo ls (m_n k) L ad) (hd : decode (m_b k) pc = .ok (.aload n, m_ln (.aload n) len)) (hs : m_sA k (.aload n) pc L st h = some q) (kk : m_KK p l e R s m args below meth c Q D dA A ad0 N0 S0 (m_n k) q) : W p l e R s m args below meth c H locs cells slots Q (F0 m pc ls (st.map (m_cv ad))) := by
  have hx := C.1
  have hb := C.2.1
  obtain ⟨x, e1, e2⟩ := m_lda_s hs
  cases e2
  refine lv_aload hx hb hd (hl.2.2.2 _ _ e1) ?_
  exact kk ad H locs cells slots ls I hl

theorem ms_istore_n {n : Fin 4} (C : m_C k X p R s m args meth c D dA A ad0) (I : m_I D dA A s ad0 ad N0 S0 h H locs cells slots) (hl : m_lo ls (m_n k) L ad) (hd : decode (m_b k) pc = .ok (.istore_n n, m_ln (.istore_n n) len)) (hs : m_sA k (.istore_n n) pc L st h = some q) (kk : m_KK p l e R s m args below meth c Q D dA A ad0 N0 S0 (m_n k) q) : W p l e R s m args below meth c H locs cells slots Q (F0 m pc ls (st.map (m_cv ad))) := by
  have hx := C.1
  have hb := C.2.1
  obtain ⟨x, r, rfl, e1⟩ := m_i_s hs
  obtain ⟨e2, e3⟩ := m_c_s e1
  cases e3
  refine lv_istore_n hx hb hd rfl (m_lo_has hl) (by rw [← hl.2.2.1]; exact e2) rfl (fun ls2 hl2 => ?_)
  exact kk ad H locs cells slots ls2 I (m_lo_st1 hl hl2)

theorem ms_istore {n : Nat} (C : m_C k X p R s m args meth c D dA A ad0) (I : m_I D dA A s ad0 ad N0 S0 h H locs cells slots) (hl : m_lo ls (m_n k) L ad) (hd : decode (m_b k) pc = .ok (.istore n, m_ln (.istore n) len)) (hs : m_sA k (.istore n) pc L st h = some q) (kk : m_KK p l e R s m args below meth c Q D dA A ad0 N0 S0 (m_n k) q) : W p l e R s m args below meth c H locs cells slots Q (F0 m pc ls (st.map (m_cv ad))) := by
  have hx := C.1
  have hb := C.2.1
  obtain ⟨x, r, rfl, e1⟩ := m_i_s hs
  obtain ⟨e2, e3⟩ := m_c_s e1
  cases e3
  refine lv_istore hx hb hd (m_lo_has hl) (by rw [← hl.2.2.1]; exact e2) rfl (fun ls2 hl2 => ?_)
  exact kk ad H locs cells slots ls2 I (m_lo_st1 hl hl2)

theorem ms_lstore_n {n : Fin 4} (C : m_C k X p R s m args meth c D dA A ad0) (I : m_I D dA A s ad0 ad N0 S0 h H locs cells slots) (hl : m_lo ls (m_n k) L ad) (hd : decode (m_b k) pc = .ok (.lstore_n n, m_ln (.lstore_n n) len)) (hs : m_sA k (.lstore_n n) pc L st h = some q) (kk : m_KK p l e R s m args below meth c Q D dA A ad0 N0 S0 (m_n k) q) : W p l e R s m args below meth c H locs cells slots Q (F0 m pc ls (st.map (m_cv ad))) := by
  have hx := C.1
  have hb := C.2.1
  obtain ⟨x, r, rfl, e1⟩ := m_j_s hs
  obtain ⟨e2, e3⟩ := m_c_s e1
  cases e3
  refine lv_lstore_n hx hb hd rfl (m_lo_has hl) (by rw [← hl.2.2.1]; exact e2) rfl (fun ls2 hl2 => ?_)
  exact kk ad H locs cells slots ls2 I (m_lo_st2 hl hl2)

theorem ms_lstore {n : Nat} (C : m_C k X p R s m args meth c D dA A ad0) (I : m_I D dA A s ad0 ad N0 S0 h H locs cells slots) (hl : m_lo ls (m_n k) L ad) (hd : decode (m_b k) pc = .ok (.lstore n, m_ln (.lstore n) len)) (hs : m_sA k (.lstore n) pc L st h = some q) (kk : m_KK p l e R s m args below meth c Q D dA A ad0 N0 S0 (m_n k) q) : W p l e R s m args below meth c H locs cells slots Q (F0 m pc ls (st.map (m_cv ad))) := by
  have hx := C.1
  have hb := C.2.1
  obtain ⟨x, r, rfl, e1⟩ := m_j_s hs
  obtain ⟨e2, e3⟩ := m_c_s e1
  cases e3
  refine lv_lstore hx hb hd (m_lo_has hl) (by rw [← hl.2.2.1]; exact e2) rfl (fun ls2 hl2 => ?_)
  exact kk ad H locs cells slots ls2 I (m_lo_st2 hl hl2)

theorem ms_astore_n {n : Fin 4} (C : m_C k X p R s m args meth c D dA A ad0) (I : m_I D dA A s ad0 ad N0 S0 h H locs cells slots) (hl : m_lo ls (m_n k) L ad) (hd : decode (m_b k) pc = .ok (.astore_n n, m_ln (.astore_n n) len)) (hs : m_sA k (.astore_n n) pc L st h = some q) (kk : m_KK p l e R s m args below meth c Q D dA A ad0 N0 S0 (m_n k) q) : W p l e R s m args below meth c H locs cells slots Q (F0 m pc ls (st.map (m_cv ad))) := by
  have hx := C.1
  have hb := C.2.1
  obtain ⟨x, r, rfl, e1⟩ := m_a_s hs
  obtain ⟨e2, e3⟩ := m_c_s e1
  cases e3
  refine lv_astore_n hx hb hd rfl (m_lo_has hl) (by rw [← hl.2.2.1]; exact e2) rfl (fun ls2 hl2 => ?_)
  exact kk ad H locs cells slots ls2 I (m_lo_st1 hl hl2)

theorem ms_astore {n : Nat} (C : m_C k X p R s m args meth c D dA A ad0) (I : m_I D dA A s ad0 ad N0 S0 h H locs cells slots) (hl : m_lo ls (m_n k) L ad) (hd : decode (m_b k) pc = .ok (.astore n, m_ln (.astore n) len)) (hs : m_sA k (.astore n) pc L st h = some q) (kk : m_KK p l e R s m args below meth c Q D dA A ad0 N0 S0 (m_n k) q) : W p l e R s m args below meth c H locs cells slots Q (F0 m pc ls (st.map (m_cv ad))) := by
  have hx := C.1
  have hb := C.2.1
  obtain ⟨x, r, rfl, e1⟩ := m_a_s hs
  obtain ⟨e2, e3⟩ := m_c_s e1
  cases e3
  refine lv_astore hx hb hd (m_lo_has hl) (by rw [← hl.2.2.1]; exact e2) rfl (fun ls2 hl2 => ?_)
  exact kk ad H locs cells slots ls2 I (m_lo_st1 hl hl2)

theorem ms_iinc {n : Nat} {z : Int} (C : m_C k X p R s m args meth c D dA A ad0) (I : m_I D dA A s ad0 ad N0 S0 h H locs cells slots) (hl : m_lo ls (m_n k) L ad) (hd : decode (m_b k) pc = .ok (.iinc n z, m_ln (.iinc n z) len)) (hs : m_sA k (.iinc n z) pc L st h = some q) (kk : m_KK p l e R s m args below meth c Q D dA A ad0 N0 S0 (m_n k) q) : W p l e R s m args below meth c H locs cells slots Q (F0 m pc ls (st.map (m_cv ad))) := by
  have hx := C.1
  have hb := C.2.1
  obtain ⟨x, e0, e1⟩ := m_ldi_s hs
  obtain ⟨e2, e3⟩ := m_c_s e1
  cases e3
  obtain ⟨j, hj⟩ := List.getElem?_of_mem (m_prs_in (ad := ad) e0)
  refine lv_iinc (k := j) (x := x) (v := x + Int32.ofInt z) hx hb hd (m_lo_has hl) hj rfl (by rw [← hl.2.2.1]; exact e2) rfl (fun ls2 hl2 => ?_)
  exact kk ad H locs cells slots ls2 I (m_lo_st1 hl hl2)

theorem ms_iadd (C : m_C k X p R s m args meth c D dA A ad0) (I : m_I D dA A s ad0 ad N0 S0 h H locs cells slots) (hl : m_lo ls (m_n k) L ad) (hd : decode (m_b k) pc = .ok (.iadd, m_ln (.iadd) len)) (hs : m_sA k (.iadd) pc L st h = some q) (kk : m_KK p l e R s m args below meth c Q D dA A ad0 N0 S0 (m_n k) q) : W p l e R s m args below meth c H locs cells slots Q (F0 m pc ls (st.map (m_cv ad))) := by
  have hx := C.1
  have hb := C.2.1
  obtain ⟨x, y, r, rfl, e1⟩ := m_ii_s hs
  cases e1
  refine lv_iadd hx hb hd ?_
  exact kk ad H locs cells slots ls I hl

theorem ms_isub (C : m_C k X p R s m args meth c D dA A ad0) (I : m_I D dA A s ad0 ad N0 S0 h H locs cells slots) (hl : m_lo ls (m_n k) L ad) (hd : decode (m_b k) pc = .ok (.isub, m_ln (.isub) len)) (hs : m_sA k (.isub) pc L st h = some q) (kk : m_KK p l e R s m args below meth c Q D dA A ad0 N0 S0 (m_n k) q) : W p l e R s m args below meth c H locs cells slots Q (F0 m pc ls (st.map (m_cv ad))) := by
  have hx := C.1
  have hb := C.2.1
  obtain ⟨x, y, r, rfl, e1⟩ := m_ii_s hs
  cases e1
  refine lv_isub hx hb hd ?_
  exact kk ad H locs cells slots ls I hl

theorem ms_imul (C : m_C k X p R s m args meth c D dA A ad0) (I : m_I D dA A s ad0 ad N0 S0 h H locs cells slots) (hl : m_lo ls (m_n k) L ad) (hd : decode (m_b k) pc = .ok (.imul, m_ln (.imul) len)) (hs : m_sA k (.imul) pc L st h = some q) (kk : m_KK p l e R s m args below meth c Q D dA A ad0 N0 S0 (m_n k) q) : W p l e R s m args below meth c H locs cells slots Q (F0 m pc ls (st.map (m_cv ad))) := by
  have hx := C.1
  have hb := C.2.1
  obtain ⟨x, y, r, rfl, e1⟩ := m_ii_s hs
  cases e1
  refine lv_imul hx hb hd ?_
  exact kk ad H locs cells slots ls I hl

theorem ms_iand (C : m_C k X p R s m args meth c D dA A ad0) (I : m_I D dA A s ad0 ad N0 S0 h H locs cells slots) (hl : m_lo ls (m_n k) L ad) (hd : decode (m_b k) pc = .ok (.iand, m_ln (.iand) len)) (hs : m_sA k (.iand) pc L st h = some q) (kk : m_KK p l e R s m args below meth c Q D dA A ad0 N0 S0 (m_n k) q) : W p l e R s m args below meth c H locs cells slots Q (F0 m pc ls (st.map (m_cv ad))) := by
  have hx := C.1
  have hb := C.2.1
  obtain ⟨x, y, r, rfl, e1⟩ := m_ii_s hs
  cases e1
  refine lv_iand hx hb hd ?_
  exact kk ad H locs cells slots ls I hl

theorem ms_ior (C : m_C k X p R s m args meth c D dA A ad0) (I : m_I D dA A s ad0 ad N0 S0 h H locs cells slots) (hl : m_lo ls (m_n k) L ad) (hd : decode (m_b k) pc = .ok (.ior, m_ln (.ior) len)) (hs : m_sA k (.ior) pc L st h = some q) (kk : m_KK p l e R s m args below meth c Q D dA A ad0 N0 S0 (m_n k) q) : W p l e R s m args below meth c H locs cells slots Q (F0 m pc ls (st.map (m_cv ad))) := by
  have hx := C.1
  have hb := C.2.1
  obtain ⟨x, y, r, rfl, e1⟩ := m_ii_s hs
  cases e1
  refine lv_ior hx hb hd ?_
  exact kk ad H locs cells slots ls I hl

theorem ms_ixor (C : m_C k X p R s m args meth c D dA A ad0) (I : m_I D dA A s ad0 ad N0 S0 h H locs cells slots) (hl : m_lo ls (m_n k) L ad) (hd : decode (m_b k) pc = .ok (.ixor, m_ln (.ixor) len)) (hs : m_sA k (.ixor) pc L st h = some q) (kk : m_KK p l e R s m args below meth c Q D dA A ad0 N0 S0 (m_n k) q) : W p l e R s m args below meth c H locs cells slots Q (F0 m pc ls (st.map (m_cv ad))) := by
  have hx := C.1
  have hb := C.2.1
  obtain ⟨x, y, r, rfl, e1⟩ := m_ii_s hs
  cases e1
  refine lv_ixor hx hb hd ?_
  exact kk ad H locs cells slots ls I hl

theorem ms_ishl (C : m_C k X p R s m args meth c D dA A ad0) (I : m_I D dA A s ad0 ad N0 S0 h H locs cells slots) (hl : m_lo ls (m_n k) L ad) (hd : decode (m_b k) pc = .ok (.ishl, m_ln (.ishl) len)) (hs : m_sA k (.ishl) pc L st h = some q) (kk : m_KK p l e R s m args below meth c Q D dA A ad0 N0 S0 (m_n k) q) : W p l e R s m args below meth c H locs cells slots Q (F0 m pc ls (st.map (m_cv ad))) := by
  have hx := C.1
  have hb := C.2.1
  obtain ⟨x, y, r, rfl, e1⟩ := m_ii_s hs
  cases e1
  refine lv_ishl hx hb hd ?_
  exact kk ad H locs cells slots ls I hl

theorem ms_ishr (C : m_C k X p R s m args meth c D dA A ad0) (I : m_I D dA A s ad0 ad N0 S0 h H locs cells slots) (hl : m_lo ls (m_n k) L ad) (hd : decode (m_b k) pc = .ok (.ishr, m_ln (.ishr) len)) (hs : m_sA k (.ishr) pc L st h = some q) (kk : m_KK p l e R s m args below meth c Q D dA A ad0 N0 S0 (m_n k) q) : W p l e R s m args below meth c H locs cells slots Q (F0 m pc ls (st.map (m_cv ad))) := by
  have hx := C.1
  have hb := C.2.1
  obtain ⟨x, y, r, rfl, e1⟩ := m_ii_s hs
  cases e1
  refine lv_ishr hx hb hd ?_
  exact kk ad H locs cells slots ls I hl

theorem ms_iushr (C : m_C k X p R s m args meth c D dA A ad0) (I : m_I D dA A s ad0 ad N0 S0 h H locs cells slots) (hl : m_lo ls (m_n k) L ad) (hd : decode (m_b k) pc = .ok (.iushr, m_ln (.iushr) len)) (hs : m_sA k (.iushr) pc L st h = some q) (kk : m_KK p l e R s m args below meth c Q D dA A ad0 N0 S0 (m_n k) q) : W p l e R s m args below meth c H locs cells slots Q (F0 m pc ls (st.map (m_cv ad))) := by
  have hx := C.1
  have hb := C.2.1
  obtain ⟨x, y, r, rfl, e1⟩ := m_ii_s hs
  cases e1
  refine lv_iushr hx hb hd rfl ?_
  exact kk ad H locs cells slots ls I hl

theorem ms_idiv (C : m_C k X p R s m args meth c D dA A ad0) (I : m_I D dA A s ad0 ad N0 S0 h H locs cells slots) (hl : m_lo ls (m_n k) L ad) (hd : decode (m_b k) pc = .ok (.idiv, m_ln (.idiv) len)) (hs : m_sA k (.idiv) pc L st h = some q) (kk : m_KK p l e R s m args below meth c Q D dA A ad0 N0 S0 (m_n k) q) : W p l e R s m args below meth c H locs cells slots Q (F0 m pc ls (st.map (m_cv ad))) := by
  have hx := C.1
  have hb := C.2.1
  obtain ⟨x, y, r, rfl, e1⟩ := m_ii_s hs
  obtain ⟨e2, e3⟩ := m_c_s e1
  cases e3
  refine lv_idiv hx hb hd e2 ?_
  exact kk ad H locs cells slots ls I hl

theorem ms_irem (C : m_C k X p R s m args meth c D dA A ad0) (I : m_I D dA A s ad0 ad N0 S0 h H locs cells slots) (hl : m_lo ls (m_n k) L ad) (hd : decode (m_b k) pc = .ok (.irem, m_ln (.irem) len)) (hs : m_sA k (.irem) pc L st h = some q) (kk : m_KK p l e R s m args below meth c Q D dA A ad0 N0 S0 (m_n k) q) : W p l e R s m args below meth c H locs cells slots Q (F0 m pc ls (st.map (m_cv ad))) := by
  have hx := C.1
  have hb := C.2.1
  obtain ⟨x, y, r, rfl, e1⟩ := m_ii_s hs
  obtain ⟨e2, e3⟩ := m_c_s e1
  cases e3
  refine lv_irem hx hb hd e2 ?_
  exact kk ad H locs cells slots ls I hl

theorem ms_ladd (C : m_C k X p R s m args meth c D dA A ad0) (I : m_I D dA A s ad0 ad N0 S0 h H locs cells slots) (hl : m_lo ls (m_n k) L ad) (hd : decode (m_b k) pc = .ok (.ladd, m_ln (.ladd) len)) (hs : m_sA k (.ladd) pc L st h = some q) (kk : m_KK p l e R s m args below meth c Q D dA A ad0 N0 S0 (m_n k) q) : W p l e R s m args below meth c H locs cells slots Q (F0 m pc ls (st.map (m_cv ad))) := by
  have hx := C.1
  have hb := C.2.1
  obtain ⟨x, y, r, rfl, e1⟩ := m_jj_s hs
  cases e1
  refine lv_ladd hx hb hd ?_
  exact kk ad H locs cells slots ls I hl

theorem ms_lmul (C : m_C k X p R s m args meth c D dA A ad0) (I : m_I D dA A s ad0 ad N0 S0 h H locs cells slots) (hl : m_lo ls (m_n k) L ad) (hd : decode (m_b k) pc = .ok (.lmul, m_ln (.lmul) len)) (hs : m_sA k (.lmul) pc L st h = some q) (kk : m_KK p l e R s m args below meth c Q D dA A ad0 N0 S0 (m_n k) q) : W p l e R s m args below meth c H locs cells slots Q (F0 m pc ls (st.map (m_cv ad))) := by
  have hx := C.1
  have hb := C.2.1
  obtain ⟨x, y, r, rfl, e1⟩ := m_jj_s hs
  cases e1
  refine lv_lmul hx hb hd ?_
  exact kk ad H locs cells slots ls I hl

theorem ms_lcmp (C : m_C k X p R s m args meth c D dA A ad0) (I : m_I D dA A s ad0 ad N0 S0 h H locs cells slots) (hl : m_lo ls (m_n k) L ad) (hd : decode (m_b k) pc = .ok (.lcmp, m_ln (.lcmp) len)) (hs : m_sA k (.lcmp) pc L st h = some q) (kk : m_KK p l e R s m args below meth c Q D dA A ad0 N0 S0 (m_n k) q) : W p l e R s m args below meth c H locs cells slots Q (F0 m pc ls (st.map (m_cv ad))) := by
  have hx := C.1
  have hb := C.2.1
  obtain ⟨x, y, r, rfl, e1⟩ := m_jj_s hs
  cases e1
  refine W.lcmp hx hb hd ?_
  exact kk ad H locs cells slots ls I hl

theorem ms_ldiv (C : m_C k X p R s m args meth c D dA A ad0) (I : m_I D dA A s ad0 ad N0 S0 h H locs cells slots) (hl : m_lo ls (m_n k) L ad) (hd : decode (m_b k) pc = .ok (.ldiv, m_ln (.ldiv) len)) (hs : m_sA k (.ldiv) pc L st h = some q) (kk : m_KK p l e R s m args below meth c Q D dA A ad0 N0 S0 (m_n k) q) : W p l e R s m args below meth c H locs cells slots Q (F0 m pc ls (st.map (m_cv ad))) := by
  have hx := C.1
  have hb := C.2.1
  obtain ⟨x, y, r, rfl, e1⟩ := m_jj_s hs
  obtain ⟨e2, e3⟩ := m_c_s e1
  cases e3
  refine lv_ldiv hx hb hd e2 ?_
  exact kk ad H locs cells slots ls I hl

theorem ms_lrem (C : m_C k X p R s m args meth c D dA A ad0) (I : m_I D dA A s ad0 ad N0 S0 h H locs cells slots) (hl : m_lo ls (m_n k) L ad) (hd : decode (m_b k) pc = .ok (.lrem, m_ln (.lrem) len)) (hs : m_sA k (.lrem) pc L st h = some q) (kk : m_KK p l e R s m args below meth c Q D dA A ad0 N0 S0 (m_n k) q) : W p l e R s m args below meth c H locs cells slots Q (F0 m pc ls (st.map (m_cv ad))) := by
  have hx := C.1
  have hb := C.2.1
  obtain ⟨x, y, r, rfl, e1⟩ := m_jj_s hs
  obtain ⟨e2, e3⟩ := m_c_s e1
  cases e3
  refine lv_lrem hx hb hd e2 ?_
  exact kk ad H locs cells slots ls I hl

theorem ms_i2l (C : m_C k X p R s m args meth c D dA A ad0) (I : m_I D dA A s ad0 ad N0 S0 h H locs cells slots) (hl : m_lo ls (m_n k) L ad) (hd : decode (m_b k) pc = .ok (.i2l, m_ln (.i2l) len)) (hs : m_sA k (.i2l) pc L st h = some q) (kk : m_KK p l e R s m args below meth c Q D dA A ad0 N0 S0 (m_n k) q) : W p l e R s m args below meth c H locs cells slots Q (F0 m pc ls (st.map (m_cv ad))) := by
  have hx := C.1
  have hb := C.2.1
  obtain ⟨x, r, rfl, e1⟩ := m_i_s hs
  cases e1
  refine lv_i2l hx hb hd rfl ?_
  exact kk ad H locs cells slots ls I hl

theorem ms_l2i (C : m_C k X p R s m args meth c D dA A ad0) (I : m_I D dA A s ad0 ad N0 S0 h H locs cells slots) (hl : m_lo ls (m_n k) L ad) (hd : decode (m_b k) pc = .ok (.l2i, m_ln (.l2i) len)) (hs : m_sA k (.l2i) pc L st h = some q) (kk : m_KK p l e R s m args below meth c Q D dA A ad0 N0 S0 (m_n k) q) : W p l e R s m args below meth c H locs cells slots Q (F0 m pc ls (st.map (m_cv ad))) := by
  have hx := C.1
  have hb := C.2.1
  obtain ⟨x, r, rfl, e1⟩ := m_j_s hs
  cases e1
  refine lv_l2i hx hb hd rfl ?_
  exact kk ad H locs cells slots ls I hl

theorem ms_i2b (C : m_C k X p R s m args meth c D dA A ad0) (I : m_I D dA A s ad0 ad N0 S0 h H locs cells slots) (hl : m_lo ls (m_n k) L ad) (hd : decode (m_b k) pc = .ok (.i2b, m_ln (.i2b) len)) (hs : m_sA k (.i2b) pc L st h = some q) (kk : m_KK p l e R s m args below meth c Q D dA A ad0 N0 S0 (m_n k) q) : W p l e R s m args below meth c H locs cells slots Q (F0 m pc ls (st.map (m_cv ad))) := by
  have hx := C.1
  have hb := C.2.1
  obtain ⟨x, r, rfl, e1⟩ := m_i_s hs
  cases e1
  refine lv_i2b hx hb hd rfl ?_
  exact kk ad H locs cells slots ls I hl

theorem ms_dup (C : m_C k X p R s m args meth c D dA A ad0) (I : m_I D dA A s ad0 ad N0 S0 h H locs cells slots) (hl : m_lo ls (m_n k) L ad) (hd : decode (m_b k) pc = .ok (.dup, m_ln (.dup) len)) (hs : m_sA k (.dup) pc L st h = some q) (kk : m_KK p l e R s m args below meth c Q D dA A ad0 N0 S0 (m_n k) q) : W p l e R s m args below meth c H locs cells slots Q (F0 m pc ls (st.map (m_cv ad))) := by
  have hx := C.1
  have hb := C.2.1
  obtain ⟨v, r, rfl, e1⟩ := m_v_s hs
  obtain ⟨e2, e3⟩ := m_c_s e1
  cases e3
  refine lv_dup hx hb hd (by rw [m_cv_cat]; exact e2) ?_
  exact kk ad H locs cells slots ls I hl

theorem ms_pop (C : m_C k X p R s m args meth c D dA A ad0) (I : m_I D dA A s ad0 ad N0 S0 h H locs cells slots) (hl : m_lo ls (m_n k) L ad) (hd : decode (m_b k) pc = .ok (.pop, m_ln (.pop) len)) (hs : m_sA k (.pop) pc L st h = some q) (kk : m_KK p l e R s m args below meth c Q D dA A ad0 N0 S0 (m_n k) q) : W p l e R s m args below meth c H locs cells slots Q (F0 m pc ls (st.map (m_cv ad))) := by
  have hx := C.1
  have hb := C.2.1
  obtain ⟨v, r, rfl, e1⟩ := m_v_s hs
  obtain ⟨e2, e3⟩ := m_c_s e1
  cases e3
  refine lv_pop hx hb hd (by rw [m_cv_cat]; exact e2) ?_
  exact kk ad H locs cells slots ls I hl

theorem ms_dup2 (C : m_C k X p R s m args meth c D dA A ad0) (I : m_I D dA A s ad0 ad N0 S0 h H locs cells slots) (hl : m_lo ls (m_n k) L ad) (hd : decode (m_b k) pc = .ok (.dup2, m_ln (.dup2) len)) (hs : m_sA k (.dup2) pc L st h = some q) (kk : m_KK p l e R s m args below meth c Q D dA A ad0 N0 S0 (m_n k) q) : W p l e R s m args below meth c H locs cells slots Q (F0 m pc ls (st.map (m_cv ad))) := by
  have hx := C.1
  have hb := C.2.1
  obtain ⟨v, r, rfl, e1⟩ := m_v_s hs
  split at e1
  · next hc =>
    cases e1
    refine lv_dup2_2 hx hb hd (by rw [m_cv_cat]; exact hc) ?_
    exact kk ad H locs cells slots ls I hl
  · next hc =>
    obtain ⟨w, r2, rfl, e1⟩ := m_v_s e1
    obtain ⟨e2, e3⟩ := m_c_s e1
    cases e3
    have hc1 : v.category = 1 := by rcases lv_cat v with z | z <;> omega
    refine lv_dup2_11 hx hb hd (by rw [m_cv_cat]; exact hc1) (by rw [m_cv_cat]; exact e2) ?_
    exact kk ad H locs cells slots ls I hl

theorem m_br_ok {b : Prop} {db : Decidable b} {off : Int} (hs : @m_br pc off b db L st h = some q) : ∃ tgt : Nat, (pc : Int) + off = (tgt : Int) ∧ (b → q = (tgt, L, st, h)) ∧ (¬ b → q = (pc + 3, L, st, h)) := by
  unfold m_br at hs
  obtain ⟨h1, h2⟩ := m_c_s hs
  refine ⟨((pc : Int) + off).toNat, by omega, ?_⟩
  split at h2
  · next hb => cases h2; exact ⟨fun _ => rfl, fun z => absurd hb z⟩
  · next hb => cases h2; exact ⟨fun z => absurd z hb, fun _ => rfl⟩

theorem ms_ifCond {cd : ClassFile.Cond} {off : Int} (C : m_C k X p R s m args meth c D dA A ad0) (I : m_I D dA A s ad0 ad N0 S0 h H locs cells slots) (hl : m_lo ls (m_n k) L ad) (hd : decode (m_b k) pc = .ok (.ifCond cd off, m_ln (.ifCond cd off) len)) (hs : m_sA k (.ifCond cd off) pc L st h = some q) (kk : m_KK p l e R s m args below meth c Q D dA A ad0 N0 S0 (m_n k) q) : W p l e R s m args below meth c H locs cells slots Q (F0 m pc ls (st.map (m_cv ad))) := by
  have hx := C.1
  have hb := C.2.1
  obtain ⟨x, r, rfl, e1⟩ := m_i_s hs
  cases cd with
  | eq =>
    obtain ⟨tgt, ht, f1, f2⟩ := m_br_ok e1
    refine lv_if_eq (tgt := tgt) hx hb hd ht (fun z => ?_) (fun z => ?_)
    · obtain rfl := f1 z
      exact kk ad H locs cells slots ls I hl
    · obtain rfl := f2 z
      exact kk ad H locs cells slots ls I hl
  | ne =>
    obtain ⟨tgt, ht, f1, f2⟩ := m_br_ok e1
    refine lv_if_ne (tgt := tgt) hx hb hd ht (fun z => ?_) (fun z => ?_)
    · obtain rfl := f1 z
      exact kk ad H locs cells slots ls I hl
    · obtain rfl := f2 (fun w => w z)
      exact kk ad H locs cells slots ls I hl
  | lt =>
    obtain ⟨tgt, ht, f1, f2⟩ := m_br_ok e1
    refine lv_if_lt (tgt := tgt) hx hb hd ht (fun z => ?_) (fun z => ?_)
    · obtain rfl := f1 z
      exact kk ad H locs cells slots ls I hl
    · obtain rfl := f2 z
      exact kk ad H locs cells slots ls I hl
  | ge =>
    obtain ⟨tgt, ht, f1, f2⟩ := m_br_ok e1
    refine lv_if_ge (tgt := tgt) hx hb hd ht (fun z => ?_) (fun z => ?_)
    · obtain rfl := f1 z
      exact kk ad H locs cells slots ls I hl
    · obtain rfl := f2 z
      exact kk ad H locs cells slots ls I hl
  | gt =>
    obtain ⟨tgt, ht, f1, f2⟩ := m_br_ok e1
    refine lv_if_gt (tgt := tgt) hx hb hd ht (fun z => ?_) (fun z => ?_)
    · obtain rfl := f1 z
      exact kk ad H locs cells slots ls I hl
    · obtain rfl := f2 z
      exact kk ad H locs cells slots ls I hl
  | le =>
    obtain ⟨tgt, ht, f1, f2⟩ := m_br_ok e1
    refine lv_if_le (tgt := tgt) hx hb hd ht (fun z => ?_) (fun z => ?_)
    · obtain rfl := f1 z
      exact kk ad H locs cells slots ls I hl
    · obtain rfl := f2 z
      exact kk ad H locs cells slots ls I hl

theorem ms_if_icmp {cd : ClassFile.Cond} {off : Int} (C : m_C k X p R s m args meth c D dA A ad0) (I : m_I D dA A s ad0 ad N0 S0 h H locs cells slots) (hl : m_lo ls (m_n k) L ad) (hd : decode (m_b k) pc = .ok (.if_icmp cd off, m_ln (.if_icmp cd off) len)) (hs : m_sA k (.if_icmp cd off) pc L st h = some q) (kk : m_KK p l e R s m args below meth c Q D dA A ad0 N0 S0 (m_n k) q) : W p l e R s m args below meth c H locs cells slots Q (F0 m pc ls (st.map (m_cv ad))) := by
  have hx := C.1
  have hb := C.2.1
  obtain ⟨x, y, r, rfl, e1⟩ := m_ii_s hs
  cases cd with
  | eq =>
    obtain ⟨tgt, ht, f1, f2⟩ := m_br_ok e1
    refine lv_icmp_eq (tgt := tgt) hx hb hd ht (fun z => ?_) (fun z => ?_)
    · obtain rfl := f1 z
      exact kk ad H locs cells slots ls I hl
    · obtain rfl := f2 z
      exact kk ad H locs cells slots ls I hl
  | ne =>
    obtain ⟨tgt, ht, f1, f2⟩ := m_br_ok e1
    refine lv_icmp_ne (tgt := tgt) hx hb hd ht (fun z => ?_) (fun z => ?_)
    · obtain rfl := f1 z
      exact kk ad H locs cells slots ls I hl
    · obtain rfl := f2 (fun w => w z)
      exact kk ad H locs cells slots ls I hl
  | lt =>
    obtain ⟨tgt, ht, f1, f2⟩ := m_br_ok e1
    refine lv_icmp_lt (tgt := tgt) hx hb hd ht (fun z => ?_) (fun z => ?_)
    · obtain rfl := f1 z
      exact kk ad H locs cells slots ls I hl
    · obtain rfl := f2 z
      exact kk ad H locs cells slots ls I hl
  | ge =>
    obtain ⟨tgt, ht, f1, f2⟩ := m_br_ok e1
    refine lv_icmp_ge (tgt := tgt) hx hb hd ht (fun z => ?_) (fun z => ?_)
    · obtain rfl := f1 z
      exact kk ad H locs cells slots ls I hl
    · obtain rfl := f2 z
      exact kk ad H locs cells slots ls I hl
  | gt =>
    obtain ⟨tgt, ht, f1, f2⟩ := m_br_ok e1
    refine lv_icmp_gt (tgt := tgt) hx hb hd ht (fun z => ?_) (fun z => ?_)
    · obtain rfl := f1 z
      exact kk ad H locs cells slots ls I hl
    · obtain rfl := f2 z
      exact kk ad H locs cells slots ls I hl
  | le =>
    obtain ⟨tgt, ht, f1, f2⟩ := m_br_ok e1
    refine lv_icmp_le (tgt := tgt) hx hb hd ht (fun z => ?_) (fun z => ?_)
    · obtain rfl := f1 z
      exact kk ad H locs cells slots ls I hl
    · obtain rfl := f2 z
      exact kk ad H locs cells slots ls I hl

theorem ms_goto {off : Int} (C : m_C k X p R s m args meth c D dA A ad0) (I : m_I D dA A s ad0 ad N0 S0 h H locs cells slots) (hl : m_lo ls (m_n k) L ad) (hd : decode (m_b k) pc = .ok (.goto off, m_ln (.goto off) len)) (hs : m_sA k (.goto off) pc L st h = some q) (kk : m_KK p l e R s m args below meth c Q D dA A ad0 N0 S0 (m_n k) q) : W p l e R s m args below meth c H locs cells slots Q (F0 m pc ls (st.map (m_cv ad))) := by
  have hx := C.1
  have hb := C.2.1
  obtain ⟨tgt, ht, rfl⟩ := m_go_ok hs
  refine lv_goto (tgt := tgt) hx hb hd ht ?_
  exact kk ad H locs cells slots ls I hl

theorem ms_tableswitch {dv lo hi : Int} {offs : Array Int} (C : m_C k X p R s m args meth c D dA A ad0) (I : m_I D dA A s ad0 ad N0 S0 h H locs cells slots) (hl : m_lo ls (m_n k) L ad) (hd : decode (m_b k) pc = .ok (.tableswitch dv lo hi offs, m_ln (.tableswitch dv lo hi offs) len)) (hs : m_sA k (.tableswitch dv lo hi offs) pc L st h = some q) (kk : m_KK p l e R s m args below meth c Q D dA A ad0 N0 S0 (m_n k) q) : W p l e R s m args below meth c H locs cells slots Q (F0 m pc ls (st.map (m_cv ad))) := by
  have hx := C.1
  have hb := C.2.1
  obtain ⟨x, r, rfl, e1⟩ := m_i_s hs
  split at e1
  · next hc =>
    obtain ⟨tgt, ht, rfl⟩ := m_go_ok e1
    refine lv_tableOut (tgt := tgt) hx hb hd hc ht ?_
    exact kk ad H locs cells slots ls I hl
  · next hc =>
    split at e1
    · next o ho =>
      obtain ⟨tgt, ht, rfl⟩ := m_go_ok e1
      refine lv_tableIn (tgt := tgt) hx hb hd (fun z => hc (Or.inl z)) (fun z => hc (Or.inr z)) ho ht ?_
      exact kk ad H locs cells slots ls I hl
    · cases e1

theorem ms_lookupswitch {dv : Int} {ps : Array (Int × Int)} (C : m_C k X p R s m args meth c D dA A ad0) (I : m_I D dA A s ad0 ad N0 S0 h H locs cells slots) (hl : m_lo ls (m_n k) L ad) (hd : decode (m_b k) pc = .ok (.lookupswitch dv ps, m_ln (.lookupswitch dv ps) len)) (hs : m_sA k (.lookupswitch dv ps) pc L st h = some q) (kk : m_KK p l e R s m args below meth c Q D dA A ad0 N0 S0 (m_n k) q) : W p l e R s m args below meth c H locs cells slots Q (F0 m pc ls (st.map (m_cv ad))) := by
  have hx := C.1
  have hb := C.2.1
  obtain ⟨x, r, rfl, e1⟩ := m_i_s hs
  obtain ⟨h1, e1⟩ := m_c_s e1
  obtain ⟨tgt, ht, rfl⟩ := m_go_ok e1
  refine lv_lookup (tgt := tgt) hx hb hd h1 rfl ht ?_
  exact kk ad H locs cells slots ls I hl

theorem m_sA_ok {i : Instr} (C : m_C k X p R s m args meth c D dA A ad0) (I : m_I D dA A s ad0 ad N0 S0 h H locs cells slots) (hl : m_lo ls (m_n k) L ad) (hd : decode (m_b k) pc = .ok (i, m_ln i len)) (hs : m_sA k i pc L st h = some q) (kk : m_KK p l e R s m args below meth c Q D dA A ad0 N0 S0 (m_n k) q) : W p l e R s m args below meth c H locs cells slots Q (F0 m pc ls (st.map (m_cv ad))) := by
  cases i with
  | iconst _ => exact ms_iconst C I hl hd hs kk
  | bipush _ => exact ms_bipush C I hl hd hs kk
  | sipush _ => exact ms_sipush C I hl hd hs kk
  | lconst _ => exact ms_lconst C I hl hd hs kk
  | ldc_w _ => exact ms_ldc_w C I hl hd hs kk
  | ldc _ => exact ms_ldc C I hl hd hs kk
  | ldc2_w _ => exact ms_ldc2_w C I hl hd hs kk
  | iload_n _ => exact ms_iload_n C I hl hd hs kk
  | lload_n _ => exact ms_lload_n C I hl hd hs kk
  | aload_n _ => exact ms_aload_n C I hl hd hs kk
  | iload _ => exact ms_iload C I hl hd hs kk
  | lload _ => exact ms_lload C I hl hd hs kk
  | aload _ => exact ms_aload C I hl hd hs kk
  | istore_n _ => exact ms_istore_n C I hl hd hs kk
  | istore _ => exact ms_istore C I hl hd hs kk
  | lstore_n _ => exact ms_lstore_n C I hl hd hs kk
  | lstore _ => exact ms_lstore C I hl hd hs kk
  | astore_n _ => exact ms_astore_n C I hl hd hs kk
  | astore _ => exact ms_astore C I hl hd hs kk
  | iinc _ _ => exact ms_iinc C I hl hd hs kk
  | iadd => exact ms_iadd C I hl hd hs kk
  | isub => exact ms_isub C I hl hd hs kk
  | imul => exact ms_imul C I hl hd hs kk
  | iand => exact ms_iand C I hl hd hs kk
  | ior => exact ms_ior C I hl hd hs kk
  | ixor => exact ms_ixor C I hl hd hs kk
  | ishl => exact ms_ishl C I hl hd hs kk
  | ishr => exact ms_ishr C I hl hd hs kk
  | iushr => exact ms_iushr C I hl hd hs kk
  | idiv => exact ms_idiv C I hl hd hs kk
  | irem => exact ms_irem C I hl hd hs kk
  | ladd => exact ms_ladd C I hl hd hs kk
  | lmul => exact ms_lmul C I hl hd hs kk
  | lcmp => exact ms_lcmp C I hl hd hs kk
  | ldiv => exact ms_ldiv C I hl hd hs kk
  | lrem => exact ms_lrem C I hl hd hs kk
  | i2l => exact ms_i2l C I hl hd hs kk
  | l2i => exact ms_l2i C I hl hd hs kk
  | i2b => exact ms_i2b C I hl hd hs kk
  | dup => exact ms_dup C I hl hd hs kk
  | pop => exact ms_pop C I hl hd hs kk
  | dup2 => exact ms_dup2 C I hl hd hs kk
  | ifCond _ _ => exact ms_ifCond C I hl hd hs kk
  | if_icmp _ _ => exact ms_if_icmp C I hl hd hs kk
  | goto _ => exact ms_goto C I hl hd hs kk
  | tableswitch _ _ _ _ => exact ms_tableswitch C I hl hd hs kk
  | lookupswitch _ _ => exact ms_lookupswitch C I hl hd hs kk
  | _ => cases hs
end MSA
end
section
/-! the rows of the instructions that read and write cells -/
theorem m_cls_of {c : Nat} {q : vw_C} (h : m_cl[c]? = some q) : m_cls c = q := by
  unfold m_cls
  rw [List.getD_eq_getElem?_getD, h]
  rfl
theorem m_cl_len : m_cl.length ≤ 10 := by decide +kernel
theorem m_cl_lt {c : Nat} {q : vw_C} (h : m_cl[c]? = some q) : c < 20 := by
  have h1 := (List.getElem?_eq_some_iff.mp h).1
  have h2 := m_cl_len
  omega
theorem m_cl_use {c : Nat} {q : vw_C} (h : m_cl[c]? = some q) : (∀ w ∈ u_ws q.1 q.2.1 q.2.2, w ∈ m_tb) ∧ (∀ k, k < q.2.2 → parseFieldDescriptor (q.2.1 k).2.2.1 = some (m_fty c k)) ∧ (∀ a, a < q.2.2 → ∀ b, b < q.2.2 → a ≠ b → (q.2.1 a).2.1 ≠ (q.2.1 b).2.1) := by
  have h1 := List.all_eq_true.mp m_cl_ok q (List.mem_of_getElem? h)
  unfold m_clc at h1
  rw [Bool.and_eq_true] at h1
  obtain ⟨h1, h2⟩ := h1
  have h2' : ∀ a, a < q.2.2 → (∀ b, b < q.2.2 → a = b ∨ (q.2.1 a).2.1 ≠ (q.2.1 b).2.1) ∧ (parseFieldDescriptor (q.2.1 a).2.2.1).isSome = true := by
    intro a ha
    have h3 := List.all_eq_true.mp h2 a (List.mem_range.mpr ha)
    rw [Bool.and_eq_true] at h3
    refine ⟨fun b hb => ?_, h3.2⟩
    have h4 := List.all_eq_true.mp h3.1 b (List.mem_range.mpr hb)
    rw [Bool.or_eq_true, decide_eq_true_eq, decide_eq_true_eq] at h4
    exact h4
  refine ⟨fun w hw => ?_, fun k hk => ?_, fun a ha b hb hne => ?_⟩
  · have h3 := List.all_eq_true.mp h1 w hw
    rw [Bool.and_eq_true, decide_eq_true_eq] at h3
    exact List.mem_filter.mpr ⟨h3.1, h3.2⟩
  · obtain ⟨t, ht⟩ := Option.isSome_iff_exists.mp (h2' k hk).2
    unfold m_fty
    rw [m_cls_of h, ht]
    rfl
  · exact ((h2' a ha).1 b hb).resolve_left hne
theorem m_fl_use {o ix : Nat} {e : Nat × Nat × Nat} (h : m_fl.lookup (o, ix) = some e) : ∃ q : vw_C, m_cl[e.1]? = some q ∧ e.2.1 < q.2.2 ∧ (q.2.1 e.2.1).1 = q.1 ∧ Cond.fieldLink (m_cn o) ix q.1 (q.2.1 e.2.1).2.1 (q.2.1 e.2.1).2.2.1 ∈ m_tb := by
  have h1 := List.all_eq_true.mp m_fl_ok _ (m_lookup h)
  unfold m_flc at h1
  dsimp only at h1
  split at h1
  · next C T N hq =>
    rw [Bool.and_eq_true, Bool.and_eq_true, decide_eq_true_eq, decide_eq_true_eq] at h1
    exact ⟨(C, T, N), hq, h1.1.1, h1.1.2, m_has_mem h1.2⟩
  · cases h1
theorem m_ent1_o {dA : Nat → ClassId} {ad : Nat → Nat} {t : Nat} {vs : List Value} (ht : t < 20) : m_ent1 dA ad (t, vs) = .inr (t, vs.map (m_cv ad)) := by
  unfold m_ent1
  rw [if_neg (by show ¬ t = 20; omega), if_neg (by show ¬ t = 21; omega), if_neg (by show ¬ t = 22; omega), if_neg (by show ¬ t = 23; omega), if_neg (by show ¬ t = 24; omega)]
theorem m_ent1_20 {dA : Nat → ClassId} {ad : Nat → Nat} {vs : List Value} : m_ent1 dA ad (20, vs) = .inl (dA 20, vs.length, .inl (fun j => m_toI (vs.getD j .null))) := rfl
theorem m_ent1_21 {dA : Nat → ClassId} {ad : Nat → Nat} {vs : List Value} : m_ent1 dA ad (21, vs) = .inl (dA 21, vs.length, .inr (.inl (fun j => m_toL (vs.getD j .null)))) := rfl
theorem m_ent1_22 {dA : Nat → ClassId} {ad : Nat → Nat} {vs : List Value} : m_ent1 dA ad (22, vs) = .inl (dA 22, vs.length, .inl (fun j => m_toI (vs.getD j .null))) := rfl
theorem m_ent1_23 {dA : Nat → ClassId} {ad : Nat → Nat} {vs : List Value} : m_ent1 dA ad (23, vs) = .inl (dA 23, vs.length, .inr (.inr (.inr (.inr (fun j => (m_toR (vs.getD j .null)).map ad))))) := rfl
theorem m_ent1_24 {dA : Nat → ClassId} {ad : Nat → Nat} {vs : List Value} : m_ent1 dA ad (24, vs) = .inl (dA 24, vs.length, .inr (.inr (.inr (.inr (fun j => (m_toR (vs.getD j .null)).map ad))))) := rfl
theorem m_sl_set {h : m_H} {a t t' : Nat} {vs vs' : List Value} (e : h[a]? = some (t, vs)) (hl : vs'.length = vs.length) : m_sl (h.set a (t', vs')) = m_sl h := by
  unfold m_sl
  congr 1
  rw [List.map_set]
  apply List.ext_getElem?
  intro i
  rw [List.getElem?_set]
  split
  · next hi =>
    subst hi
    rw [List.length_map, List.getElem?_map, e]
    have hlt := (List.getElem?_eq_some_iff.mp e).1
    simp [hlt, hl]
  · rfl
theorem m_I_set {D : va_G} {dA : Nat → ClassId} {A : Nat → Prop} {s : State} {ad0 ad : Nat → Nat} {N0 S0 : Nat} {h : m_H} {H H1 : Heap} {locs locs1 : List Loc} {cells slots : Nat} {a t : Nat} {vs vs' : List Value}
    (I : m_I D dA A s ad0 ad N0 S0 h H locs cells slots) (e : h[a]? = some (t, vs)) (hl : vs'.length = vs.length)
    (hP : va_P D m_cl ((m_ws dA ad h).set a (ad a, m_ent1 dA ad (t, vs'))) H1) (hD : va_D A ((m_ws dA ad h).set a (ad a, m_ent1 dA ad (t, vs')))) (hS : va_S A s.heap H1 locs1) : m_I D dA A s ad0 ad N0 S0 (h.set a (t, vs')) H1 locs1 cells slots := by
  obtain ⟨-, -, -, h4, h5, h6, h7⟩ := I
  exact ⟨by rw [m_ws_set]; exact hP, by rw [m_ws_set]; exact hD, hS, by rw [List.length_set]; exact h4, by rw [m_sl_set e hl]; exact h5, fun a9 h9 => h6 a9 (by rw [List.length_set] at h9; exact h9), by rw [List.length_set]; exact h7⟩
theorem m_narrow {ty : FieldType} {ad : Nat → Nat} {v : Value} (h : narrow ty v = v) : narrow ty (m_cv ad v) = m_cv ad v := by
  cases v with
  | ref a => cases ty <;> rfl
  | _ => exact h
theorem m_fits {ty : FieldType} {ad : Nat → Nat} {v : Value} (h : fits ty v = true) : fits ty (m_cv ad v) = true := by
  cases v with
  | ref a => cases ty <;> first | exact h | cases h
  | _ => exact h
theorem m_getD {vs : List Value} {j : Nat} {v : Value} (h : vs[j]? = some v) : vs.getD j .null = v := by rw [List.getD_eq_getElem?_getD, h]; rfl
theorem m_getD_set {vs : List Value} {j i : Nat} {v : Value} (hi : i < vs.length) : (vs.set i v).getD j .null = if j = i then v else vs.getD j .null := by
  rw [List.getD_eq_getElem?_getD, List.getElem?_set]
  by_cases e : i = j
  · subst e; simp [hi]
  · rw [if_neg e, if_neg (fun q => e q.symm), List.getD_eq_getElem?_getD]
theorem m_sx_big : ∀ e ∈ m_sx, 1000 ≤ e.1 := by decide +kernel
theorem m_gl_use {o ix e : Nat} (h : m_gl.lookup (o, ix) = some e) : ∃ x ∈ m_sx, x.1 = e ∧ Cond.fieldLinkNest (m_cn o) ix "SnowHut" x.2.1 "[I" "SnowHut" ∈ m_nw := by
  have h1 := List.all_eq_true.mp m_gl_ok _ (m_lookup h)
  unfold m_glc at h1
  obtain ⟨x, hx, h2⟩ := List.any_eq_true.mp h1
  rw [Bool.and_eq_true, decide_eq_true_eq, decide_eq_true_eq] at h2
  exact ⟨x, hx, h2.1, h2.2⟩
section MSB
variable {p : Program} {l : Launch} {e : Env} {R : Room} {s : State} {m : MethodId} {args : Array Value} {below : List Frame} {meth : Method} {c : Code} {H : Heap} {locs : List Loc} {cells slots : Nat} {Q : State → Prop}
variable {k pc len nL N0 S0 : Nat} {X : List Int32} {D : va_G} {dA : Nat → ClassId} {A : Nat → Prop} {ad0 ad : Nat → Nat} {L : m_L} {st : List Value} {h : m_H} {ls : Array Slot} {q : m_S}
theorem ms_getfield {ix : Nat} (C : m_C k X p R s m args meth c D dA A ad0) (I : m_I D dA A s ad0 ad N0 S0 h H locs cells slots) (hl : m_lo ls (m_n k) L ad) (hd : decode (m_b k) pc = .ok (.getfield ix, m_ln (.getfield ix) len)) (hs : m_sB X k (.getfield ix) pc L st h = some q) (kk : m_KK p l e R s m args below meth c Q D dA A ad0 N0 S0 (m_n k) q) : W p l e R s m args below meth c H locs cells slots Q (F0 m pc ls (st.map (m_cv ad))) := by
  have hx := C.1
  have hb := C.2.1
  obtain ⟨a, r, rfl, e1⟩ := m_a_s hs
  split at e1
  · next e9 he9 =>
    split at e1
    · next cc hc =>
      obtain ⟨h1, e1⟩ := m_c_s e1
      split at e1
      · next v hv =>
        cases e1
        obtain ⟨cq, hcq, hk, hC, hw⟩ := m_fl_use he9
        obtain ⟨tg, vs⟩ := cc
        obtain rfl : tg = e9.1 := h1
        have hin := m_cl_use hcq
        have hws := m_ws_at (dA := dA) (ad := ad) hc
        rw [m_ent1_o (m_cl_lt hcq)] at hws
        refine va_get (D := D) (cl := m_cl) (tys := m_tys dA) (ws := m_ws dA ad h) (ci := e9.1) (v := m_cv ad v) (C := cq.1) (T := cq.2.1) (N := cq.2.2) (ref := cq.1) (own := m_cn (m_o k)) hx hb C.2.2.2.2.1 hin.1 C.2.2.2.1 C.2.2.2.2.2.2.1 I.1 a hws hcq e9.2.1 hk (C.2.2.2.2.1 _ hw) (fun x h9 => by rw [hC] at h9; exact h9) ?_ hd ?_
        · show (vs.map (m_cv ad))[e9.2.1]? = _
          rw [List.getElem?_map, hv]
          rfl
        · exact kk ad H locs cells slots ls I hl
      · cases e1
    · cases e1
  · cases e1
theorem ms_putfield {ix : Nat} (C : m_C k X p R s m args meth c D dA A ad0) (I : m_I D dA A s ad0 ad N0 S0 h H locs cells slots) (hl : m_lo ls (m_n k) L ad) (hd : decode (m_b k) pc = .ok (.putfield ix, m_ln (.putfield ix) len)) (hs : m_sB X k (.putfield ix) pc L st h = some q) (kk : m_KK p l e R s m args below meth c Q D dA A ad0 N0 S0 (m_n k) q) : W p l e R s m args below meth c H locs cells slots Q (F0 m pc ls (st.map (m_cv ad))) := by
  have hx := C.1
  have hb := C.2.1
  obtain ⟨a, v, r, rfl, e1⟩ := m_va_s hs
  split at e1
  · next e9 he9 =>
    split at e1
    · next cc hc =>
      obtain ⟨⟨h1, h2, h3, h4, h5⟩, e1⟩ := m_c_s e1
      cases e1
      obtain ⟨cq, hcq, hk, hC, hw⟩ := m_fl_use he9
      obtain ⟨tg, vs⟩ := cc
      obtain rfl : tg = e9.1 := h1
      have hin := m_cl_use hcq
      have hws := m_ws_at (dA := dA) (ad := ad) hc
      rw [m_ent1_o (m_cl_lt hcq)] at hws
      rw [m_cls_of hcq] at h5
      have fin : ∀ (H1 : Heap) (locs1 : List Loc), va_P D m_cl ((m_ws dA ad h).set a (ad a, .inr (e9.1, (vs.map (m_cv ad)).set e9.2.1 (m_cv ad v)))) H1 → va_D A ((m_ws dA ad h).set a (ad a, .inr (e9.1, (vs.map (m_cv ad)).set e9.2.1 (m_cv ad v)))) → va_S A s.heap H1 locs1 → W p l e R s m args below meth c H1 locs1 cells slots Q (F0 m (pc + 3) ls (r.map (m_cv ad))) := by
        intro H1 locs1 hP hD hS
        have ee : (.inr (e9.1, (vs.map (m_cv ad)).set e9.2.1 (m_cv ad v)) : va_E) = m_ent1 dA ad (e9.1, vs.set e9.2.1 v) := by rw [m_ent1_o (m_cl_lt hcq), List.map_set]
        rw [ee] at hP hD
        exact kk ad H1 locs1 cells slots ls (m_I_set I hc (by rw [List.length_set]) hP hD hS) hl
      rcases h5 with h5 | ⟨h5, h6⟩
      · exact va_put (D := D) (cl := m_cl) (tys := m_tys dA) (ws := m_ws dA ad h) (ci := e9.1) (v := m_cv ad v) (C := cq.1) (T := cq.2.1) (N := cq.2.2) (ref := cq.1) (own := m_cn (m_o k)) (ty := m_fty e9.1 e9.2.1) hx hb C.2.2.2.2.1 hin.1 (m_fty e9.1) hin.2.1 hin.2.2 C.2.2.2.1 C.2.2.2.2.2.2.1 I.1 I.2.1 I.2.2.1 a hws hcq e9.2.1 hk (C.2.2.2.2.1 _ hw) (fun x h9 => by rw [hC] at h9; exact h9) h5 (hin.2.1 _ hk) (m_narrow h3) (m_fits h4) (by rw [List.length_map]; exact h2) hd fin
      · by_cases hf : (cq.2.1 e9.2.1).2.2.2 = true
        · exact va_putF (D := D) (cl := m_cl) (tys := m_tys dA) (ws := m_ws dA ad h) (ci := e9.1) (v := m_cv ad v) (C := cq.1) (T := cq.2.1) (N := cq.2.2) (ref := cq.1) (own := m_cn (m_o k)) (ty := m_fty e9.1 e9.2.1) hx hb C.2.2.2.2.1 hin.1 (m_fty e9.1) hin.2.1 hin.2.2 C.2.2.2.1 C.2.2.2.2.2.2.1 I.1 I.2.1 I.2.2.1 a hws hcq e9.2.1 hk (C.2.2.2.2.1 _ hw) (fun x h9 => by rw [hC] at h9; exact h9) hf (by rw [C.2.2.2.2.2.2.2.2.2.1]; exact h5) (hC.trans h6) (hin.2.1 _ hk) (m_narrow h3) (m_fits h4) (by rw [List.length_map]; exact h2) hd fin
        · exact va_put (D := D) (cl := m_cl) (tys := m_tys dA) (ws := m_ws dA ad h) (ci := e9.1) (v := m_cv ad v) (C := cq.1) (T := cq.2.1) (N := cq.2.2) (ref := cq.1) (own := m_cn (m_o k)) (ty := m_fty e9.1 e9.2.1) hx hb C.2.2.2.2.1 hin.1 (m_fty e9.1) hin.2.1 hin.2.2 C.2.2.2.1 C.2.2.2.2.2.2.1 I.1 I.2.1 I.2.2.1 a hws hcq e9.2.1 hk (C.2.2.2.2.1 _ hw) (fun x h9 => by rw [hC] at h9; exact h9) (by simpa using hf) (hin.2.1 _ hk) (m_narrow h3) (m_fits h4) (by rw [List.length_map]; exact h2) hd fin
    · cases e1
  · cases e1
theorem ms_getstatic {ix : Nat} (C : m_C k X p R s m args meth c D dA A ad0) (I : m_I D dA A s ad0 ad N0 S0 h H locs cells slots) (hl : m_lo ls (m_n k) L ad) (hd : decode (m_b k) pc = .ok (.getstatic ix, m_ln (.getstatic ix) len)) (hs : m_sB X k (.getstatic ix) pc L st h = some q) (kk : m_KK p l e R s m args below meth c Q D dA A ad0 N0 S0 (m_n k) q) : W p l e R s m args below meth c H locs cells slots Q (F0 m pc ls (st.map (m_cv ad))) := by
  have hx := C.1
  have hb := C.2.1
  simp only [m_sB] at hs
  split at hs
  · next e9 he9 =>
    cases hs
    obtain ⟨x, hxm, rfl, hw⟩ := m_gl_use he9
    obtain ⟨hZ, -⟩ := C.2.2.2.2.2.2.2.2.1.1 x hxm
    have had : ad x.1 = ad0 x.1 := m_I_big I (m_sx_big x hxm)
    refine va_getsN (C := "SnowHut") (n := x.2.1) (d := "[I") (v := .ref (ad0 x.1)) (host := "SnowHut") (ref := "SnowHut") (own := m_cn (m_o k)) hx hb hZ I.2.2.1 C.2.2.2.1 (va_Nw.use rfl (C.2.2.2.2.2.1.1 _ hw)) (fun _ h9 => h9) hd ?_
    have := kk ad H locs cells slots ls I hl
    rw [← had]
    exact this
  · cases hs
theorem ms_iaload (C : m_C k X p R s m args meth c D dA A ad0) (I : m_I D dA A s ad0 ad N0 S0 h H locs cells slots) (hl : m_lo ls (m_n k) L ad) (hd : decode (m_b k) pc = .ok (.iaload, m_ln (.iaload) len)) (hs : m_sB X k (.iaload) pc L st h = some q) (kk : m_KK p l e R s m args below meth c Q D dA A ad0 N0 S0 (m_n k) q) : W p l e R s m args below meth c H locs cells slots Q (F0 m pc ls (st.map (m_cv ad))) := by
  have hx := C.1
  have hb := C.2.1
  obtain ⟨a, i, r, rfl, e1⟩ := m_ai_s hs
  split at e1
  · next hbig =>
    have had : ad a = ad0 a := m_I_big I hbig
    split at e1
    · next xl hxl =>
      obtain ⟨h1, e1⟩ := m_c_s e1
      cases e1
      have kk' := kk ad H locs cells slots ls I hl
      show W p l e R s m args below meth c H locs cells slots Q (F0 m pc ls (.int i :: .ref (ad a) :: r.map (m_cv ad)))
      rw [had]
      unfold m_ex at hxl
      split at hxl
      · next ha =>
        subst ha
        cases hxl
        obtain ⟨-, hX, hbl, hbA⟩ := C.2.2.2.2.2.2.2.2.1
        exact va_sld hx hb hX hbl hbA I.2.2.1 h1 hd kk'
      · next ha =>
        obtain ⟨x, hx1, hx2⟩ := Option.map_eq_some_iff.mp hxl
        subst hx2
        have hm := List.mem_of_find?_eq_some hx1
        have he : x.1 = a := by simpa using List.find?_some hx1
        subst he
        obtain ⟨-, hT⟩ := C.2.2.2.2.2.2.2.2.1.1 x hm
        exact va_ti hx hb hT I.2.2.1 h1 rfl hd kk'
    · cases e1
  · obtain ⟨vs, v, hc, hin, hv, e1⟩ := m_rd_s e1
    obtain ⟨x, rfl, e1⟩ := m_vi_s e1
    cases e1
    have hws := m_ws_at (dA := dA) (ad := ad) hc
    rw [m_ent1_20] at hws
    refine va_iald hx hb C.2.2.2.2.2.2.1 I.1 a 0 hws rfl hin hd ?_
    rw [m_getD hv]
    exact kk ad H locs cells slots ls I hl
theorem ms_laload (C : m_C k X p R s m args meth c D dA A ad0) (I : m_I D dA A s ad0 ad N0 S0 h H locs cells slots) (hl : m_lo ls (m_n k) L ad) (hd : decode (m_b k) pc = .ok (.laload, m_ln (.laload) len)) (hs : m_sB X k (.laload) pc L st h = some q) (kk : m_KK p l e R s m args below meth c Q D dA A ad0 N0 S0 (m_n k) q) : W p l e R s m args below meth c H locs cells slots Q (F0 m pc ls (st.map (m_cv ad))) := by
  have hx := C.1
  have hb := C.2.1
  obtain ⟨a, i, r, rfl, e1⟩ := m_ai_s hs
  obtain ⟨vs, v, hc, hin, hv, e1⟩ := m_rd_s e1
  obtain ⟨x, rfl, e1⟩ := m_vj_s e1
  cases e1
  have hws := m_ws_at (dA := dA) (ad := ad) hc
  rw [m_ent1_21] at hws
  refine va_lald hx hb C.2.2.2.2.2.2.1 I.1 a 1 hws rfl hin hd ?_
  rw [m_getD hv]
  exact kk ad H locs cells slots ls I hl
theorem ms_aaload (C : m_C k X p R s m args meth c D dA A ad0) (I : m_I D dA A s ad0 ad N0 S0 h H locs cells slots) (hl : m_lo ls (m_n k) L ad) (hd : decode (m_b k) pc = .ok (.aaload, m_ln (.aaload) len)) (hs : m_sB X k (.aaload) pc L st h = some q) (kk : m_KK p l e R s m args below meth c Q D dA A ad0 N0 S0 (m_n k) q) : W p l e R s m args below meth c H locs cells slots Q (F0 m pc ls (st.map (m_cv ad))) := by
  have hx := C.1
  have hb := C.2.1
  obtain ⟨a, i, r, rfl, e1⟩ := m_ai_s hs
  split at e1
  · obtain ⟨vs, v, hc, hin, hv, e1⟩ := m_rd_s e1
    obtain ⟨x, rfl, e1⟩ := m_vr_s e1
    cases e1
    have hws := m_ws_at (dA := dA) (ad := ad) hc
    rw [m_ent1_23] at hws
    refine va_aldq (C := "SnowHut$Guest") hx hb C.2.2.2.2.2.2.1 I.1 a 3 hws rfl hin hd ?_
    rw [m_getD hv]
    exact kk ad H locs cells slots ls I hl
  · obtain ⟨vs, v, hc, hin, hv, e1⟩ := m_rd_s e1
    obtain ⟨x, rfl, e1⟩ := m_vr_s e1
    cases e1
    have hws := m_ws_at (dA := dA) (ad := ad) hc
    rw [m_ent1_24] at hws
    have hlt : i.toNatClampNeg < vs.length := Nat.not_le.mp fun q => hin (Or.inr q)
    refine W.aald (v := va_rf (((m_toR (vs.getD i.toNatClampNeg .null)).map ad))) (ty := .array .int) hx hb (I.1 a _ hws) ((C.2.2.2.2.2.2.1.2 4 (dA 24, .array .int) rfl).1 vs.length (fun j => va_rf ((m_toR (vs.getD j .null)).map ad))) rfl (fun q => by cases q) (by show ¬ (i < 0 ∨ (arrV _ _ _).slots.size ≤ _); rw [arrV_size]; exact hin) (by show (arrV _ _ _).slots[_]? = _; rw [arrV_read _ _ hlt]) rfl rfl hd ?_
    rw [m_getD hv]
    exact kk ad H locs cells slots ls I hl
theorem ms_iastore (C : m_C k X p R s m args meth c D dA A ad0) (I : m_I D dA A s ad0 ad N0 S0 h H locs cells slots) (hl : m_lo ls (m_n k) L ad) (hd : decode (m_b k) pc = .ok (.iastore, m_ln (.iastore) len)) (hs : m_sB X k (.iastore) pc L st h = some q) (kk : m_KK p l e R s m args below meth c Q D dA A ad0 N0 S0 (m_n k) q) : W p l e R s m args below meth c H locs cells slots Q (F0 m pc ls (st.map (m_cv ad))) := by
  have hx := C.1
  have hb := C.2.1
  obtain ⟨a, i, x, r, rfl, e1⟩ := m_aii_s hs
  obtain ⟨vs, hc, hin, e1⟩ := m_wr_s e1
  cases e1
  have hws := m_ws_at (dA := dA) (ad := ad) hc
  rw [m_ent1_20] at hws
  have hlt : i.toNatClampNeg < vs.length := Nat.not_le.mp fun q => hin (Or.inr q)
  refine va_iast hx hb C.2.2.2.2.2.2.1 I.1 I.2.1 I.2.2.1 a 0 hws rfl hin hd fun H1 locs1 hP hD hS => ?_
  have ee : (.inl (dA 20, vs.length, .inl (upd (fun j => m_toI (vs.getD j .null)) i.toNatClampNeg x)) : va_E) = m_ent1 dA ad (20, vs.set i.toNatClampNeg (.int x)) := by
    rw [m_ent1_20, List.length_set]
    congr 4
    funext j
    rw [m_getD_set hlt]
    unfold upd
    split <;> rfl
  rw [ee] at hP hD
  exact kk ad H1 locs1 cells slots ls (m_I_set I hc (by rw [List.length_set]) hP hD hS) hl
theorem ms_lastore (C : m_C k X p R s m args meth c D dA A ad0) (I : m_I D dA A s ad0 ad N0 S0 h H locs cells slots) (hl : m_lo ls (m_n k) L ad) (hd : decode (m_b k) pc = .ok (.lastore, m_ln (.lastore) len)) (hs : m_sB X k (.lastore) pc L st h = some q) (kk : m_KK p l e R s m args below meth c Q D dA A ad0 N0 S0 (m_n k) q) : W p l e R s m args below meth c H locs cells slots Q (F0 m pc ls (st.map (m_cv ad))) := by
  have hx := C.1
  have hb := C.2.1
  obtain ⟨a, i, x, r, rfl, e1⟩ := m_aij_s hs
  obtain ⟨vs, hc, hin, e1⟩ := m_wr_s e1
  cases e1
  have hws := m_ws_at (dA := dA) (ad := ad) hc
  rw [m_ent1_21] at hws
  have hlt : i.toNatClampNeg < vs.length := Nat.not_le.mp fun q => hin (Or.inr q)
  refine va_last hx hb C.2.2.2.2.2.2.1 I.1 I.2.1 I.2.2.1 a 1 hws rfl hin hd fun H1 locs1 hP hD hS => ?_
  have ee : (.inl (dA 21, vs.length, .inr (.inl (vp_updL (fun j => m_toL (vs.getD j .null)) i.toNatClampNeg x))) : va_E) = m_ent1 dA ad (21, vs.set i.toNatClampNeg (.long x)) := by
    rw [m_ent1_21, List.length_set]
    congr 5
    funext j
    rw [m_getD_set hlt]
    unfold vp_updL
    split <;> rfl
  rw [ee] at hP hD
  exact kk ad H1 locs1 cells slots ls (m_I_set I hc (by rw [List.length_set]) hP hD hS) hl
theorem m_cl_0 : ∃ r : vw_C, m_cl[0]? = some r ∧ r.1 = "SnowHut$Guest" := ⟨_, rfl, rfl⟩
theorem ms_aastore (C : m_C k X p R s m args meth c D dA A ad0) (I : m_I D dA A s ad0 ad N0 S0 h H locs cells slots) (hl : m_lo ls (m_n k) L ad) (hd : decode (m_b k) pc = .ok (.aastore, m_ln (.aastore) len)) (hs : m_sB X k (.aastore) pc L st h = some q) (kk : m_KK p l e R s m args below meth c Q D dA A ad0 N0 S0 (m_n k) q) : W p l e R s m args below meth c H locs cells slots Q (F0 m pc ls (st.map (m_cv ad))) := by
  have hx := C.1
  have hb := C.2.1
  obtain ⟨a, i, x, r, rfl, e1⟩ := m_aia_s hs
  obtain ⟨hx0, e1⟩ := m_c_s e1
  obtain ⟨vs, hc, hin, e1⟩ := m_wr_s e1
  cases e1
  have hws := m_ws_at (dA := dA) (ad := ad) hc
  rw [m_ent1_23] at hws
  have hlt : i.toNatClampNeg < vs.length := Nat.not_le.mp fun q => hin (Or.inr q)
  obtain ⟨cx, hcx, hcx0⟩ := Option.map_eq_some_iff.mp hx0
  obtain ⟨tx, vx⟩ := cx
  obtain rfl : tx = 0 := hcx0
  have hwx := m_ws_at (dA := dA) (ad := ad) hcx
  rw [m_ent1_o (by decide)] at hwx
  obtain ⟨rq, hrq, hrn⟩ := m_cl_0
  refine va_astq hx hb C.2.2.2.2.2.2.1 I.1 I.2.1 I.2.2.1 a 3 x 0 hws (by rw [hrn]; rfl) hwx hrq hin hd fun H1 locs1 hP hD hS => ?_
  have ee : (.inl (dA 23, vs.length, .inr (.inr (.inr (.inr (va_up (fun j => (m_toR (vs.getD j .null)).map ad) i.toNatClampNeg (some (ad x))))))) : va_E) = m_ent1 dA ad (23, vs.set i.toNatClampNeg (.ref x)) := by
    rw [m_ent1_23, List.length_set]
    congr 8
    funext j
    rw [m_getD_set hlt]
    unfold va_up
    split <;> rfl
  rw [ee] at hP hD
  exact kk ad H1 locs1 cells slots ls (m_I_set I hc (by rw [List.length_set]) hP hD hS) hl
theorem ms_arraylength (C : m_C k X p R s m args meth c D dA A ad0) (I : m_I D dA A s ad0 ad N0 S0 h H locs cells slots) (hl : m_lo ls (m_n k) L ad) (hd : decode (m_b k) pc = .ok (.arraylength, m_ln (.arraylength) len)) (hs : m_sB X k (.arraylength) pc L st h = some q) (kk : m_KK p l e R s m args below meth c Q D dA A ad0 N0 S0 (m_n k) q) : W p l e R s m args below meth c H locs cells slots Q (F0 m pc ls (st.map (m_cv ad))) := by
  have hx := C.1
  have hb := C.2.1
  obtain ⟨a, r, rfl, e1⟩ := m_a_s hs
  split at e1
  · next ha =>
    subst ha
    cases e1
    have kk' := kk ad H locs cells slots ls I hl
    show W p l e R s m args below meth c H locs cells slots Q (F0 m pc ls (.ref (ad 1000) :: r.map (m_cv ad)))
    rw [m_I_big I (Nat.le_refl 1000)]
    obtain ⟨-, hX, hbl, hbA⟩ := C.2.2.2.2.2.2.2.2.1
    exact va_slen hx hb hX hbl hbA I.2.2.1 hd kk'
  · split at e1
    · next cc hc =>
      obtain ⟨tg, vs⟩ := cc
      obtain ⟨⟨h1, h2⟩, e1⟩ := m_c_s e1
      cases e1
      have hws := m_ws_at (dA := dA) (ad := ad) hc
      have kk' := kk ad H locs cells slots ls I hl
      rcases (show tg = 20 ∨ tg = 21 ∨ tg = 22 ∨ tg = 23 ∨ tg = 24 by dsimp only at h1 h2; omega) with rfl | rfl | rfl | rfl | rfl
      · rw [m_ent1_20] at hws
        exact va_alen hx hb C.2.2.2.2.2.2.1 I.1 a 0 hws rfl rfl hd kk'
      · rw [m_ent1_21] at hws
        exact va_alen hx hb C.2.2.2.2.2.2.1 I.1 a 1 hws rfl rfl hd kk'
      · rw [m_ent1_22] at hws
        exact va_alen hx hb C.2.2.2.2.2.2.1 I.1 a 2 hws rfl rfl hd kk'
      · rw [m_ent1_23] at hws
        exact va_alen hx hb C.2.2.2.2.2.2.1 I.1 a 3 hws rfl rfl hd kk'
      · rw [m_ent1_24] at hws
        exact va_alen hx hb C.2.2.2.2.2.2.1 I.1 a 4 hws rfl rfl hd kk'
    · cases e1
theorem m_sB_ok {i : Instr} (C : m_C k X p R s m args meth c D dA A ad0) (I : m_I D dA A s ad0 ad N0 S0 h H locs cells slots) (hl : m_lo ls (m_n k) L ad) (hd : decode (m_b k) pc = .ok (i, m_ln i len)) (hs : m_sB X k i pc L st h = some q) (kk : m_KK p l e R s m args below meth c Q D dA A ad0 N0 S0 (m_n k) q) : W p l e R s m args below meth c H locs cells slots Q (F0 m pc ls (st.map (m_cv ad))) := by
  cases i with
  | getfield _ => exact ms_getfield C I hl hd hs kk
  | putfield _ => exact ms_putfield C I hl hd hs kk
  | getstatic _ => exact ms_getstatic C I hl hd hs kk
  | iaload => exact ms_iaload C I hl hd hs kk
  | laload => exact ms_laload C I hl hd hs kk
  | aaload => exact ms_aaload C I hl hd hs kk
  | iastore => exact ms_iastore C I hl hd hs kk
  | lastore => exact ms_lastore C I hl hd hs kk
  | aastore => exact ms_aastore C I hl hd hs kk
  | arraylength => exact ms_arraylength C I hl hd hs kk
  | _ => cases hs
end MSB
end
section
/-! the rows of the instructions that make cells, and of the natives -/
theorem m_ext_v {lo hi : Nat} {ad ad' : Nat → Nat} {v : Value} (ha : ∀ a : Nat, a < lo ∨ hi ≤ a → ad' a = ad a) (h : m_okv lo hi v = true) : m_cv ad' v = m_cv ad v := by
  cases v with
  | ref a =>
    have h1 : a < lo ∨ hi ≤ a := by simpa [m_okv] using h
    show Value.ref (ad' a) = Value.ref (ad a)
    rw [ha a h1]
  | _ => rfl
theorem m_ext_r {lo hi : Nat} {ad ad' : Nat → Nat} {v : Value} (ha : ∀ a : Nat, a < lo ∨ hi ≤ a → ad' a = ad a) (h : m_okv lo hi v = true) : (m_toR v).map ad' = (m_toR v).map ad := by
  cases v with
  | ref a =>
    have h1 : a < lo ∨ hi ≤ a := by simpa [m_okv] using h
    show some (ad' a) = some (ad a)
    rw [ha a h1]
  | _ => rfl
theorem m_ext_ent {dA : Nat → ClassId} {lo hi : Nat} {ad ad' : Nat → Nat} {c : Nat × List Value} (ha : ∀ a : Nat, a < lo ∨ hi ≤ a → ad' a = ad a) (h : c.2.all (m_okv lo hi) = true) : m_ent1 dA ad' c = m_ent1 dA ad c := by
  have hr : (fun j => (m_toR (c.2.getD j .null)).map ad') = fun j => (m_toR (c.2.getD j .null)).map ad := by
    funext j
    rw [List.getD_eq_getElem?_getD]
    cases e : c.2[j]? with
    | none => rfl
    | some v => exact m_ext_r ha (List.all_eq_true.mp h v (List.mem_of_getElem? e))
  have hv : c.2.map (m_cv ad') = c.2.map (m_cv ad) := List.map_congr_left fun v hv => m_ext_v ha (List.all_eq_true.mp h v hv)
  unfold m_ent1
  rw [hr, hv]
theorem m_ext_ws {dA : Nat → ClassId} {lo hi : Nat} {ad ad' : Nat → Nat} {h : m_H} (ha : ∀ a : Nat, a < lo ∨ hi ≤ a → ad' a = ad a) (hl : h.length ≤ lo) (hok : m_okH lo hi h = true) : m_ws dA ad' h = m_ws dA ad h := by
  apply List.ext_getElem?
  intro i
  unfold m_ws
  rw [List.getElem?_mapIdx, List.getElem?_mapIdx]
  cases e : h[i]? with
  | none => rfl
  | some c =>
    have hi := (List.getElem?_eq_some_iff.mp e).1
    show some (ad' i, m_ent1 dA ad' c) = some (ad i, m_ent1 dA ad c)
    rw [ha i (Or.inl (by omega)), m_ext_ent ha (List.all_eq_true.mp hok c (List.mem_of_getElem? e))]
theorem m_ext_st {lo hi : Nat} {ad ad' : Nat → Nat} {st : List Value} (ha : ∀ a : Nat, a < lo ∨ hi ≤ a → ad' a = ad a) (h : m_okS lo hi st = true) : st.map (m_cv ad') = st.map (m_cv ad) :=
  List.map_congr_left fun v hv => m_ext_v ha (List.all_eq_true.mp h v hv)
theorem m_ext_lo {lo hi nL : Nat} {ad ad' : Nat → Nat} {L : m_L} {ls : Array Slot} (ha : ∀ a : Nat, a < lo ∨ hi ≤ a → ad' a = ad a) (h : m_okL lo hi L = true) (hl : m_lo ls nL L ad) : m_lo ls nL L ad' :=
  m_lo_ext hl fun _ v hv => m_ext_v ha (List.all_eq_true.mp h (some v) (List.mem_of_getElem? hv))
theorem m_sl_app {h : m_H} {c : Nat × List Value} : m_sl (h ++ [c]) = m_sl h + c.2.length := by
  unfold m_sl
  simp
theorem m_al1_s {L : m_L} {st : List Value} {h : m_H} {c : Nat × List Value} {pc : Nat} {q : m_S} (e : m_al1 L st h c pc = some q) : m_okL h.length (h.length + 1) L = true ∧ m_okS h.length (h.length + 1) st = true ∧ m_okH h.length (h.length + 1) h = true ∧ h.length + 1 ≤ 1000 ∧ q = (pc, L, .ref h.length :: st, h ++ [c]) := by
  unfold m_al1 at e
  split at e
  · next hb =>
    rw [Bool.and_eq_true, Bool.and_eq_true, Bool.and_eq_true, decide_eq_true_eq] at hb
    cases e
    exact ⟨hb.1.1.1, hb.1.1.2, hb.1.2, hb.2, rfl⟩
  · cases e
def m_up (ad : Nat → Nat) (n q : Nat) : Nat → Nat := fun j => if j = n then q else ad j
theorem m_up_ag {ad : Nat → Nat} {n q : Nat} : ∀ a : Nat, a < n ∨ n + 1 ≤ a → m_up ad n q a = ad a := fun a h => if_neg (by omega)
theorem m_up_at {ad : Nat → Nat} {n q : Nat} : m_up ad n q n = q := if_pos rfl
theorem m_all_rep {lo hi n : Nat} {v : Value} (h : m_okv lo hi v = true) : (List.replicate n v).all (m_okv lo hi) = true := by
  apply List.all_eq_true.mpr
  intro w hw
  rw [List.eq_of_mem_replicate hw]
  exact h
theorem m_okv_dflt {lo hi : Nat} {ty : FieldType} : m_okv lo hi (defaultValue ty) = true := by cases ty <;> rfl
theorem m_cv_dflt {ad : Nat → Nat} {ty : FieldType} : m_cv ad (defaultValue ty) = defaultValue ty := by cases ty <;> rfl
/-- the frame behind one new cell -/
theorem m_I_new {D : va_G} {dA : Nat → ClassId} {A : Nat → Prop} {s : State} {ad0 ad : Nat → Nat} {N0 S0 : Nat} {h : m_H} {H H1 : Heap} {locs : List Loc} {cells slots q n : Nat} {c : Nat × List Value}
    (I : m_I D dA A s ad0 ad N0 S0 h H locs cells slots) (hok : m_okH h.length (h.length + 1) h = true) (hb : h.length + 1 ≤ 1000) (hc : c.2.all (m_okv h.length (h.length + 1)) = true) (hn : c.2.length = n)
    (hP : va_P D m_cl (m_ws dA ad h ++ [(q, m_ent1 dA ad c)]) H1) (hD : va_D A (m_ws dA ad h ++ [(q, m_ent1 dA ad c)])) (hS : va_S A s.heap H1 locs) : m_I D dA A s ad0 (m_up ad h.length q) N0 S0 (h ++ [c]) H1 locs (cells + 1) (slots + n) := by
  obtain ⟨-, -, -, h4, h5, h6, h7⟩ := I
  have e : m_ws dA (m_up ad h.length q) (h ++ [c]) = m_ws dA ad h ++ [(q, m_ent1 dA ad c)] := by
    rw [m_ws_app, m_ext_ws m_up_ag (Nat.le_refl _) hok, m_up_at, m_ext_ent m_up_ag hc]
  refine ⟨by rw [e]; exact hP, by rw [e]; exact hD, hS, by rw [List.length_append, List.length_singleton]; omega, by rw [m_sl_app, hn]; omega, fun k hk => ?_, by rw [List.length_append, List.length_singleton]; omega⟩
  rw [List.length_append, List.length_singleton] at hk
  rw [m_up_ag k (by omega)]
  exact h6 k (by omega)
theorem m_nl_use {o ix : Nat} {e : Nat × Nat × Nat × Nat} (h : m_nl.lookup (o, ix) = some e) : ∃ q : vw_C, m_cl[e.1]? = some q ∧ Cond.classLink (m_cn o) ix q.1 ∈ m_tb ∧ Cond.instantiable q.1 q.2.2 ∈ m_tb ∧ Cond.initialized q.1 ∈ m_tb := by
  have h1 := List.all_eq_true.mp m_nl_ok _ (m_lookup h)
  unfold m_nlc at h1
  dsimp only at h1
  split at h1
  · next C T N hq =>
    rw [Bool.and_eq_true, Bool.and_eq_true] at h1
    exact ⟨(C, T, N), hq, m_has_mem h1.1.1, m_has_mem h1.1.2, m_has_mem h1.2⟩
  · cases h1
theorem m_aw_use {w : Cond} (h : w ∈ [Cond.arrayClass .int, .arrayClass .long]) : w ∈ m_tb := by
  have h1 := List.all_eq_true.mp m_aw_ok w h
  rw [Bool.and_eq_true, decide_eq_true_eq] at h1
  exact List.mem_filter.mpr ⟨h1.1, h1.2⟩
section MSC
variable {p : Program} {l : Launch} {e : Env} {R : Room} {s : State} {m : MethodId} {args : Array Value} {below : List Frame} {meth : Method} {c : Code} {H : Heap} {locs : List Loc} {cells slots : Nat} {Q : State → Prop}
variable {k pc len nL N0 S0 : Nat} {X : List Int32} {D : va_G} {dA : Nat → ClassId} {A : Nat → Prop} {ad0 ad : Nat → Nat} {L : m_L} {st : List Value} {h : m_H} {ls : Array Slot} {q : m_S}
theorem ms_new {ix : Nat} (C : m_C k X p R s m args meth c D dA A ad0) (I : m_I D dA A s ad0 ad N0 S0 h H locs cells slots) (hl : m_lo ls (m_n k) L ad) (hR : q.2.2.2.length ≤ R.cells + N0 ∧ m_sl q.2.2.2 ≤ R.slots + S0) (hd : decode (m_b k) pc = .ok (.new ix, m_ln (.new ix) len)) (hs : m_sC k (.new ix) pc L st h = some q) (kk : m_KK p l e R s m args below meth c Q D dA A ad0 N0 S0 (m_n k) q) : W p l e R s m args below meth c H locs cells slots Q (F0 m pc ls (st.map (m_cv ad))) := by
  have hx := C.1
  have hb := C.2.1
  simp only [m_sC] at hs
  split at hs
  · next e9 he9 =>
    obtain ⟨o1, o2, o3, o4, rfl⟩ := m_al1_s hs
    obtain ⟨cq, hcq, w1, w2, w3⟩ := m_nl_use he9
    have hin := m_cl_use hcq
    rw [m_cls_of hcq] at hR kk
    have hlen : ((List.range cq.2.2).map (fun j => defaultValue (m_fty e9.1 j))).length = cq.2.2 := by rw [List.length_map, List.length_range]
    dsimp only at hR
    rw [List.length_append, List.length_singleton, m_sl_app] at hR
    dsimp only at hR
    rw [hlen] at hR
    have i4 := I.2.2.2.1
    have i5 := I.2.2.2.2.1
    refine va_new (D := D) (cl := m_cl) (tys := m_tys dA) (ws := m_ws dA ad h) (ci := e9.1) (fs := (List.range cq.2.2).map (fun j => defaultValue (m_fty e9.1 j))) (C := cq.1) (T := cq.2.1) (N := cq.2.2) (own := m_cn (m_o k)) hx hb C.2.2.2.2.1 hin.1 (m_fty e9.1) hin.2.1 C.2.2.2.1 (C.2.2.2.2.1 _ w1) (C.2.2.2.2.1 _ w2) (C.2.2.2.2.1 _ w3) C.2.2.2.2.2.2.1 I.1 I.2.1 I.2.2.1 C.2.2.2.2.2.2.2.1 hcq (fun j hj => ?_) (by omega) (by omega) hd (fun q0 H1 hP hD hS => ?_)
    · unfold vp_V
      rw [List.getD_eq_getElem?_getD, List.getElem?_map, List.getElem?_range hj]
      rfl
    · have hent : (.inr (e9.1, (List.range cq.2.2).map (fun j => defaultValue (m_fty e9.1 j))) : va_E) = m_ent1 dA ad (e9.1, (List.range cq.2.2).map (fun j => defaultValue (m_fty e9.1 j))) := by
        rw [m_ent1_o (m_cl_lt hcq), List.map_map]
        congr 2
        apply List.map_congr_left
        intro j _
        exact m_cv_dflt.symm
      rw [hent] at hP hD
      have I' := m_I_new (n := cq.2.2) I o3 o4 (c := (e9.1, (List.range cq.2.2).map (fun j => defaultValue (m_fty e9.1 j)))) (by
        apply List.all_eq_true.mpr
        intro w hw
        obtain ⟨j, -, rfl⟩ := List.mem_map.mp hw
        exact m_okv_dflt) hlen hP hD hS
      have kk' := kk _ H1 locs _ _ ls I' (m_ext_lo m_up_ag o1 hl)
      dsimp only at kk'
      rw [List.map_cons, m_ext_st m_up_ag o2] at kk'
      have hq0 : m_cv (m_up ad h.length q0) (.ref h.length) = .ref q0 := by show Value.ref (m_up ad h.length q0 h.length) = _; rw [m_up_at]
      rw [hq0] at kk'
      exact kk'
  · cases hs
theorem ms_newarray {ty : ArrayType} (C : m_C k X p R s m args meth c D dA A ad0) (I : m_I D dA A s ad0 ad N0 S0 h H locs cells slots) (hl : m_lo ls (m_n k) L ad) (hR : q.2.2.2.length ≤ R.cells + N0 ∧ m_sl q.2.2.2 ≤ R.slots + S0) (hd : decode (m_b k) pc = .ok (.newarray ty, m_ln (.newarray ty) len)) (hs : m_sC k (.newarray ty) pc L st h = some q) (kk : m_KK p l e R s m args below meth c Q D dA A ad0 N0 S0 (m_n k) q) : W p l e R s m args below meth c H locs cells slots Q (F0 m pc ls (st.map (m_cv ad))) := by
  have hx := C.1
  have hb := C.2.1
  obtain ⟨n, r, rfl, e1⟩ := m_i_s hs
  obtain ⟨⟨hn, hn2⟩, e1⟩ := m_c_s e1
  have i4 := I.2.2.2.1
  have i5 := I.2.2.2.2.1
  have key : ∀ (t0 t : Nat) (ft : FieldType) (v : Value) (a0 : vp_A), newarray.typeOf ty = ft → Cond.arrayClass ft ∈ m_tb → (m_tys dA)[t0]? = some (dA t, ft) → (∀ x : FieldType, ft ≠ .object x.toString) → (∀ cn, ft ≠ .object cn) → componentBytes ft ≤ 8 → m_okv h.length (h.length + 1) v = true → (∀ cA : ClassId, vp_cell cA a0 = arrV cA n.toNatClampNeg (fun _ => defaultValue ft)) → (.inl (dA t, a0) : va_E) = m_ent1 dA ad (t, List.replicate n.toNatClampNeg v) →
      m_al1 L r h (t, List.replicate n.toNatClampNeg v) (pc + 2) = some q → W p l e R s m args below meth c H locs cells slots Q (F0 m pc ls (.int n :: r.map (m_cv ad))) := by
    intro t0 t ft v a0 hty hw ht0 _ hno hby hv ha0 hent e2
    obtain ⟨o1, o2, o3, o4, rfl⟩ := m_al1_s e2
    dsimp only at hR
    rw [List.length_append, List.length_singleton, m_sl_app] at hR
    dsimp only at hR
    rw [List.length_replicate] at hR
    refine va_newa (D := D) (cl := m_cl) (tys := m_tys dA) (ws := m_ws dA ad h) (ty := ft) (a0 := a0) (N' := n.toNatClampNeg) hx hb (by rw [hty]; exact C.2.2.2.2.1 _ hw) hty C.2.2.2.2.2.2.1 I.1 I.2.1 I.2.2.1 C.2.2.2.2.2.2.2.1 ha0 hn rfl ?_ (by omega) (by omega) hd (fun q0 cA H1 hK1 hP hD hS => ?_)
    · calc n.toNatClampNeg * componentBytes ft ≤ 1000000 * 8 := Nat.mul_le_mul hn2 hby
        _ ≤ 536870912 := by decide
    · have hcA : cA = dA t := by
        have h1 := (C.2.2.2.2.2.2.1.2 t0 _ ht0).2
        have hlt : (m_tys dA).length = 5 := rfl
        have h2 := (hK1.2 5 (cA, ft) (by rw [List.getElem?_append_right (by rw [hlt]; exact Nat.le_refl _), hlt]; rfl)).2
        cases ft with
        | object cn => exact absurd rfl (hno cn)
        | _ =>
          have h3 : some (dA t) = some cA := Eq.trans (Eq.symm (show s.vm.findClass _ = some (dA t) from h1)) h2
          exact (Option.some.inj h3).symm
      subst hcA
      rw [hent] at hP hD
      have I' := m_I_new (n := n.toNatClampNeg) I o3 o4 (c := (t, List.replicate n.toNatClampNeg v)) (m_all_rep hv) List.length_replicate hP hD hS
      have kk' := kk _ H1 locs _ _ ls I' (m_ext_lo m_up_ag o1 hl)
      dsimp only at kk'
      rw [List.map_cons, m_ext_st m_up_ag o2] at kk'
      have hq0 : m_cv (m_up ad h.length q0) (.ref h.length) = .ref q0 := by show Value.ref (m_up ad h.length q0 h.length) = _; rw [m_up_at]
      rw [hq0] at kk'
      exact kk'
  have gi : ∀ j : Nat, m_toI ((List.replicate n.toNatClampNeg (Value.int 0)).getD j .null) = 0 := by
    intro j
    rw [List.getD_eq_getElem?_getD, List.getElem?_replicate]
    split <;> rfl
  have gj : ∀ j : Nat, m_toL ((List.replicate n.toNatClampNeg (Value.long 0)).getD j .null) = 0 := by
    intro j
    rw [List.getD_eq_getElem?_getD, List.getElem?_replicate]
    split <;> rfl
  cases ty with
  | int =>
    refine key 0 20 .int (.int 0) (n.toNatClampNeg, .inl (fun _ => 0)) rfl (m_aw_use (by simp)) rfl (fun x z => by cases z) (fun x z => by cases z) (by decide) rfl (fun cA => rfl) ?_ e1
    rw [m_ent1_20, List.length_replicate]
    congr 4
    funext j
    exact (gi j).symm
  | long =>
    refine key 1 21 .long (.long 0) (n.toNatClampNeg, .inr (.inl (fun _ => 0))) rfl (m_aw_use (by simp)) rfl (fun x z => by cases z) (fun x z => by cases z) (by decide) rfl (fun cA => rfl) ?_ e1
    rw [m_ent1_21, List.length_replicate]
    congr 5
    funext j
    exact (gj j).symm
  | _ => cases e1
theorem m_al_use {o ix : Nat} (h : (m_al.lookup (o, ix)).isSome = true) : Cond.classLink (m_cn o) ix "SnowHut$Guest" ∈ m_tb := by
  obtain ⟨w, hw⟩ := Option.isSome_iff_exists.mp h
  exact m_has_mem (List.all_eq_true.mp m_al_ok _ (m_lookup hw))
theorem ms_anewarray {ix : Nat} (C : m_C k X p R s m args meth c D dA A ad0) (I : m_I D dA A s ad0 ad N0 S0 h H locs cells slots) (hl : m_lo ls (m_n k) L ad) (hR : q.2.2.2.length ≤ R.cells + N0 ∧ m_sl q.2.2.2 ≤ R.slots + S0) (hd : decode (m_b k) pc = .ok (.anewarray ix, m_ln (.anewarray ix) len)) (hs : m_sC k (.anewarray ix) pc L st h = some q) (kk : m_KK p l e R s m args below meth c Q D dA A ad0 N0 S0 (m_n k) q) : W p l e R s m args below meth c H locs cells slots Q (F0 m pc ls (st.map (m_cv ad))) := by
  have hx := C.1
  have hb := C.2.1
  obtain ⟨n, r, rfl, e1⟩ := m_i_s hs
  obtain ⟨⟨hn, hn2, hal⟩, e1⟩ := m_c_s e1
  have i4 := I.2.2.2.1
  have i5 := I.2.2.2.2.1
  obtain ⟨o1, o2, o3, o4, rfl⟩ := m_al1_s e1
  dsimp only at hR
  rw [List.length_append, List.length_singleton, m_sl_app] at hR
  dsimp only at hR
  rw [List.length_replicate] at hR
  refine va_newq (D := D) (cl := m_cl) (tys := m_tys dA) (ws := m_ws dA ad h) (C := "SnowHut$Guest") (own := m_cn (m_o k)) (N' := n.toNatClampNeg) hx hb C.2.2.2.1 (C.2.2.2.2.1 _ (m_al_use hal)) C.2.2.2.2.2.1.2.1 C.2.2.2.2.2.2.1 I.1 I.2.1 I.2.2.1 C.2.2.2.2.2.2.2.1 hn rfl (by omega) (by omega) (by omega) hd (fun q0 cA H1 hK1 hP hD hS => ?_)
  have hcA : cA = dA 23 := by
    obtain ⟨-, -, -, -, -, h1⟩ := (C.2.2.2.2.2.2.1.2 3 (dA 23, .object "SnowHut$Guest") rfl).2
    have hlt : (m_tys dA).length = 5 := rfl
    obtain ⟨-, -, -, -, -, h2⟩ := (hK1.2 5 (cA, .object "SnowHut$Guest") (by rw [List.getElem?_append_right (by rw [hlt]; exact Nat.le_refl _), hlt]; rfl)).2
    exact Option.some.inj (h2.symm.trans h1)
  subst hcA
  have hent : (.inl (dA 23, n.toNatClampNeg, .inr (.inr (.inr (.inr (fun _ => none))))) : va_E) = m_ent1 dA ad (23, List.replicate n.toNatClampNeg .null) := by
    rw [m_ent1_23, List.length_replicate]
    congr 8
    funext j
    rw [List.getD_eq_getElem?_getD, List.getElem?_replicate]
    split <;> rfl
  rw [hent] at hP hD
  have I' := m_I_new (n := n.toNatClampNeg) I o3 o4 (c := (23, List.replicate n.toNatClampNeg .null)) (m_all_rep rfl) List.length_replicate hP hD hS
  have kk' := kk _ H1 locs _ _ ls I' (m_ext_lo m_up_ag o1 hl)
  dsimp only at kk'
  rw [List.map_cons, m_ext_st m_up_ag o2] at kk'
  have hq0 : m_cv (m_up ad h.length q0) (.ref h.length) = .ref q0 := by show Value.ref (m_up ad h.length q0 h.length) = _; rw [m_up_at]
  rw [hq0] at kk'
  exact kk'
theorem m_sum_cv {ad : Nat → Nat} {r : List Value} : ((r.map (m_cv ad)).map fun v => v.category).sum = m_sum r := by
  unfold m_sum
  rw [List.map_map]
  congr 1
  apply List.map_congr_left
  intro v _
  exact m_cv_cat ad v
theorem m_oi_use {o ix : Nat} (h : (m_oi.lookup (o, ix)).isSome = true) : Cond.methodLink (m_cn o) ix objectInit ∈ m_tb ∧ Cond.instanceMethod objectInit ∈ m_tb ∧ Cond.code objectInit ⟨#[0xb1]⟩ 1 none ∈ m_tb := by
  obtain ⟨w, hw⟩ := Option.isSome_iff_exists.mp h
  have h1 := List.all_eq_true.mp m_oi_ok _ (m_lookup hw)
  unfold m_oic at h1
  rw [Bool.and_eq_true, Bool.and_eq_true] at h1
  exact ⟨m_has_mem h1.1.1, m_has_mem h1.1.2, m_has_mem h1.2⟩
theorem ms_objInit {ix : Nat} (C : m_C k X p R s m args meth c D dA A ad0) (I : m_I D dA A s ad0 ad N0 S0 h H locs cells slots) (hl : m_lo ls (m_n k) L ad) (hd : decode (m_b k) pc = .ok (.invokespecial ix, m_ln (.invokespecial ix) len)) (hs : m_sC k (.invokespecial ix) pc L st h = some q) (kk : m_KK p l e R s m args below meth c Q D dA A ad0 N0 S0 (m_n k) q) : W p l e R s m args below meth c H locs cells slots Q (F0 m pc ls (st.map (m_cv ad))) := by
  have hx := C.1
  have hb := C.2.1
  obtain ⟨a, r, rfl, e1⟩ := m_a_s hs
  obtain ⟨⟨h1, h2⟩, e1⟩ := m_c_s e1
  cases e1
  obtain ⟨w1, w2, w3⟩ := m_oi_use h1
  have hloc := C.2.2.2.2.2.2.2.2.2.2.2.1
  refine W.objInit (rest := r.map (m_cv ad)) (a := ad a) hx hb C.2.2.2.1 (C.2.2.2.2.1 _ w1) (C.2.2.2.2.1 _ w2) (C.2.2.2.2.1 _ w3) rfl ?_ rfl hd C.2.2.2.2.2.2.2.2.2.2.1 ?_ ?_
  · rw [C.2.2.1]
    exact hl.1
  · rw [m_sum_cv]
    show 2 * 0 + m_sum r + 12 ≤ R.locals
    omega
  · exact kk ad H locs cells slots ls I hl
theorem m_mm_use {o ix : Nat} {e : Nat × Nat} (h : m_mm.lookup (o, ix) = some e) : Cond.initialized "java/lang/Math" ∈ m_tb ∧ ((e.1 = 0 ∧ Cond.methodLink (m_cn o) ix Lib.Math.max.name ∈ m_tb ∧ Cond.static Lib.Math.max.name ∈ m_tb ∧ Cond.code Lib.Math.max.name Lib.Math.max.code 2 (some .int) ∈ m_tb) ∨ (e.1 = 1 ∧ Cond.methodLink (m_cn o) ix Lib.Math.min.name ∈ m_tb ∧ Cond.static Lib.Math.min.name ∈ m_tb ∧ Cond.code Lib.Math.min.name Lib.Math.min.code 2 (some .int) ∈ m_tb)) := by
  have h1 := List.all_eq_true.mp m_mm_ok _ (m_lookup h)
  unfold m_mmc at h1
  rw [Bool.and_eq_true] at h1
  refine ⟨m_has_mem h1.1, ?_⟩
  have h2 := h1.2
  dsimp only at h2
  split at h2
  · next he =>
    rw [Bool.and_eq_true, Bool.and_eq_true] at h2
    exact Or.inl ⟨he, m_has_mem h2.1.1, m_has_mem h2.1.2, m_has_mem h2.2⟩
  · next he =>
    rw [Bool.and_eq_true, Bool.and_eq_true] at h2
    exact Or.inr ⟨he, m_has_mem h2.1.1, m_has_mem h2.1.2, m_has_mem h2.2⟩
  · cases h2
theorem m_ac_use {o ix : Nat} (h : (m_ac.lookup (o, ix)).isSome = true) : Cond.methodLink (m_cn o) ix arraycopyName ∈ m_tb ∧ Cond.static arraycopyName ∈ m_tb ∧ Cond.initialized "java/lang/System" ∈ m_tb := by
  exact absurd h (by show ¬ ((none : Option Nat).isSome = true); simp)
end MSC
end
section
/-! natives: Math.max, Math.min, System.arraycopy; then the step of the little machine is a step of the machine -/
section MSD
variable {p : Program} {l : Launch} {e : Env} {R : Room} {s : State} {m : MethodId} {args : Array Value} {below : List Frame} {meth : Method} {c : Code} {H : Heap} {locs : List Loc} {cells slots : Nat} {Q : State → Prop}
variable {k pc len nL N0 S0 : Nat} {X : List Int32} {D : va_G} {dA : Nat → ClassId} {A : Nat → Prop} {ad0 ad : Nat → Nat} {L : m_L} {st : List Value} {h : m_H} {ls : Array Slot} {q : m_S}
theorem ms_static {ix : Nat} (C : m_C k X p R s m args meth c D dA A ad0) (I : m_I D dA A s ad0 ad N0 S0 h H locs cells slots) (hl : m_lo ls (m_n k) L ad) (hR : q.2.2.2.length ≤ R.cells + N0 ∧ m_sl q.2.2.2 ≤ R.slots + S0) (hd : decode (m_b k) pc = .ok (.invokestatic ix, m_ln (.invokestatic ix) len)) (hs : m_sC k (.invokestatic ix) pc L st h = some q) (kk : m_KK p l e R s m args below meth c Q D dA A ad0 N0 S0 (m_n k) q) : W p l e R s m args below meth c H locs cells slots Q (F0 m pc ls (st.map (m_cv ad))) := by
  have hx := C.1
  have hb := C.2.1
  have hml : c.maxLocals = ls.size := C.2.2.1.trans hl.1.symm
  have hfr := C.2.2.2.2.2.2.2.2.2.2.1
  have hlo := C.2.2.2.2.2.2.2.2.2.2.2.1
  have i4 := I.2.2.2.1
  have i5 := I.2.2.2.2.1
  simp only [m_sC] at hs
  split at hs
  · next e9 he9 =>
    obtain ⟨x, y, r, rfl, e1⟩ := m_ii_s hs
    obtain ⟨h2, e1⟩ := m_c_s e1
    obtain ⟨wi, hw⟩ := m_mm_use he9
    have hsum : (((r.map (m_cv ad)).map fun v => v.category).sum) + 13 ≤ R.locals := by rw [m_sum_cv]; omega
    rcases hw with ⟨h0, w1, w2, w3⟩ | ⟨h0, w1, w2, w3⟩
    · rw [if_pos h0] at e1
      cases e1
      dsimp only at hR
      exact va_mmax hx hb hml C.2.2.2.1 (C.2.2.2.2.1 _ w1) (C.2.2.2.2.1 _ w2) (C.2.2.2.2.1 _ wi) (C.2.2.2.2.1 _ w3) hfr hsum (by omega) (by omega) hd (kk ad H locs cells slots ls I hl)
    · rw [if_neg (by rw [h0]; decide)] at e1
      cases e1
      dsimp only at hR
      exact va_mmin hx hb hml C.2.2.2.1 (C.2.2.2.2.1 _ w1) (C.2.2.2.2.1 _ w2) (C.2.2.2.2.1 _ wi) (C.2.2.2.2.1 _ w3) hfr hsum (by omega) (by omega) hd (kk ad H locs cells slots ls I hl)
  · split at hs
    · next n dp a sp a0 r =>
      split at hs
      · next c0 c1 hc0 hc1 =>
        obtain ⟨⟨g1, g2, g3, g4, g5, g6, g7, g8, g9⟩, e1⟩ := m_c_s hs
        cases e1
        obtain ⟨t0, v0⟩ := c0
        obtain ⟨t1, v1⟩ := c1
        obtain rfl : t0 = 20 := g3
        obtain rfl : t1 = 20 := g4
        exact absurd g1 (by show ¬ ((none : Option Nat).isSome = true); simp)
      · cases hs
    · cases hs
end MSD
end
section
/-! new T[n][m] (over the library's row of it), and the step as a whole -/
theorem m_ml_use {o ix : Nat} (h : (m_ml.lookup (o, ix)).isSome = true) : Cond.classLink (m_cn o) ix "[[I" ∈ m_tb := by
  obtain ⟨w, hw⟩ := Option.isSome_iff_exists.mp h
  exact m_has_mem (List.all_eq_true.mp m_ml_ok _ (m_lookup hw))
theorem m_outer (c : ClassId) (N h0 : Nat) : ∀ i : Nat, Jvm.Free.Multi.outerC c N h0 i = arrV c N (fun j => if j < i then .ref (h0 + 1 + j) else .null)
  | 0 => by
    show ({ cls := c, slots := Array.replicate N .null, vm := .none } : Cell) = _
    rw [arrV_new]
    refine congrArg (arrV c N) (funext fun j => ?_)
    rw [if_neg (Nat.not_lt_zero j)]
  | i + 1 => by
    show (Jvm.Free.Multi.outerC c N h0 i).setSlot i (.ref (h0 + 1 + i)) = _
    rw [m_outer c N h0 i, arrV_store]
    refine congrArg (arrV c N) (funext fun j => ?_)
    unfold updV
    by_cases e : j = i
    · subst e
      rw [if_pos rfl, if_pos (Nat.lt_succ_self j)]
    · rw [if_neg e]
      by_cases h : j < i
      · rw [if_pos (Nat.lt_succ_of_lt h)]
        exact if_pos h
      · rw [if_neg (show ¬ j < i + 1 by omega)]
        exact if_neg h
theorem m_arrV_ext {c : ClassId} {N : Nat} {f g : Nat → Value} (h : ∀ j, j < N → f j = g j) : arrV c N f = arrV c N g := by
  have e : (fun j : Fin N => f j.val) = fun j : Fin N => g j.val := funext fun j => h j.val j.isLt
  unfold arrV
  rw [e]
section MSM
variable {p : Program} {l : Launch} {e : Env} {R : Room} {s : State} {m : MethodId} {args : Array Value} {below : List Frame} {meth : Method} {c : Code} {H : Heap} {locs : List Loc} {cells slots : Nat} {Q : State → Prop}
variable {k pc len nL N0 S0 : Nat} {X : List Int32} {D : va_G} {dA : Nat → ClassId} {A : Nat → Prop} {ad0 ad : Nat → Nat} {L : m_L} {st : List Value} {h : m_H} {ls : Array Slot} {q : m_S}
theorem m_over_args {A1 A2 : Array Value} {U : State} (h : (Cond.arrayOver (.array .int)).before A1 U = true) : (Cond.arrayOver (.array .int)).before A2 U = true := h
theorem ms_multi {ix dims : Nat} (C : m_C k X p R s m args meth c D dA A ad0) (I : m_I D dA A s ad0 ad N0 S0 h H locs cells slots) (hl : m_lo ls (m_n k) L ad) (hR : q.2.2.2.length ≤ R.cells + N0 ∧ m_sl q.2.2.2 ≤ R.slots + S0) (hd : decode (m_b k) pc = .ok (.multianewarray ix dims, m_ln (.multianewarray ix dims) len)) (hs : m_sC k (.multianewarray ix dims) pc L st h = some q) (kk : m_KK p l e R s m args below meth c Q D dA A ad0 N0 S0 (m_n k) q) : W p l e R s m args below meth c H locs cells slots Q (F0 m pc ls (st.map (m_cv ad))) := by
  have hx := C.1
  have hb := C.2.1
  obtain ⟨n, z, r, rfl, e1⟩ := m_ii_s hs
  obtain ⟨hcond, e2⟩ := m_c_s e1
  clear e1 hs
  obtain ⟨rfl, hn, hz, hn2, hz2, hml, o1, o2, o3, o4⟩ := hcond
  have e3 := Option.some.inj e2
  subst e3
  have i4 := I.2.2.2.1
  have i5 := I.2.2.2.2.1
  have hsl : m_sl ((h ++ [(24, (List.range n.toNatClampNeg).map (fun i => Value.ref (h.length + 1 + i)))]) ++ List.replicate n.toNatClampNeg (20, List.replicate z.toNatClampNeg (.int 0))) = m_sl h + n.toNatClampNeg + n.toNatClampNeg * z.toNatClampNeg := by
    unfold m_sl
    simp [List.map_append, List.sum_append]
    omega
  have hlen : ((h ++ [(24, (List.range n.toNatClampNeg).map (fun i => Value.ref (h.length + 1 + i)))]) ++ List.replicate n.toNatClampNeg (20, List.replicate z.toNatClampNeg (Value.int 0))).length = h.length + 1 + n.toNatClampNeg := by
    simp
    omega
  dsimp only at hR
  rw [hsl, hlen] at hR
  intro T hT Xs
  have hover := C.2.2.2.2.2.1.2.2
  obtain ⟨vm₁, cA, comp, -, fA, fC, hO, hIn, X', step⟩ := Xs.multianewarray2F (ty := .int) hx C.2.2.2.1 (C.2.2.2.2.1 _ (m_ml_use hml)) (m_over_args hover) (C.2.2.2.2.1 _ (m_aw_use (by simp))) (g := F0 m pc ls (.int z :: .int n :: r.map (m_cv ad))) rfl (by rw [hb]; exact hd) (n := n) (k := z) (rest := r.map (m_cv ad)) rfl hn hz (by omega) (by show z.toNatClampNeg * 4 ≤ 536870912; omega) (by omega) rfl rfl (by omega) (by have hmm := hR.2; omega)
  have hA24 : cA = dA 24 := by
    have h1 : s.vm.findClass ("[" ++ (FieldType.array .int).toString) = some (dA 24) := (C.2.2.2.2.2.2.1.2 4 (dA 24, .array .int) rfl).2
    exact Option.some.inj (fA.symm.trans h1)
  have hA20 : comp = dA 20 := by
    have h1 : s.vm.findClass ("[" ++ FieldType.int.toString) = some (dA 20) := (C.2.2.2.2.2.2.1.2 0 (dA 20, .int) rfl).2
    have h2 : s.vm.findClass ("[" ++ FieldType.int.toString) = some comp := fC
    exact Option.some.inj (h2.symm.trans h1)
  subst hA24
  subst hA20
  generalize hF : Jvm.Free.Multi.fill (T.setVm vm₁) (dA 24) (dA 20) n.toNatClampNeg z.toNatClampNeg (defaultValue .int) n.toNatClampNeg = F at X' step
  have hTh : (T.setVm vm₁).heap = H := hT
  obtain ⟨f1, f2, -, -⟩ := Jvm.Free.Multi.fill_facts (T.setVm vm₁) (dA 24) (dA 20) n.toNatClampNeg z.toNatClampNeg (defaultValue .int) n.toNatClampNeg
  rw [hF, hTh] at f1 f2
  have hold : ∀ x : Nat, x < H.size → F.heap[x]? = H[x]? := fun x hx => by
    have := Jvm.Free.Multi.fill_old (T.setVm vm₁) (dA 24) (dA 20) n.toNatClampNeg z.toNatClampNeg (defaultValue .int) (a := x) (by rw [hTh]; exact hx) n.toNatClampNeg
    rw [hF, hTh] at this
    exact this
  have hrow : ∀ j : Nat, j < n.toNatClampNeg → F.heap[H.size + 1 + j]? = some (arrV (dA 20) z.toNatClampNeg (fun _ => .int 0)) := fun j hj => by
    have := Jvm.Free.Multi.fill_inner (T.setVm vm₁) (dA 24) (dA 20) n.toNatClampNeg z.toNatClampNeg (defaultValue .int) n.toNatClampNeg j hj
    rw [hF, hTh] at this
    rw [this, ← arrV_new]
    rfl
  rw [m_outer] at f2
  let ad' : Nat → Nat := fun a => if a < h.length ∨ h.length + 1 + n.toNatClampNeg ≤ a then ad a else H.size + (a - h.length)
  have hag : ∀ a : Nat, a < h.length ∨ h.length + 1 + n.toNatClampNeg ≤ a → ad' a = ad a := fun a ha => if_pos ha
  have hat : ∀ a : Nat, a ≤ n.toNatClampNeg → ad' (h.length + a) = H.size + a := fun a ha => by
    show (if _ then _ else _) = _
    rw [if_neg (by omega)]
    omega
  obtain ⟨hP, hD, hS, -, -, hbig, -⟩ := I
  have hlt : ∀ (k9 : Nat) (x : Nat × va_E), (m_ws dA ad h)[k9]? = some x → x.1 < H.size := fun k9 x hx => (hP k9 x hx).lt
  -- the cells behind it
  have hcell : ∀ (k9 : Nat) (x : Nat × va_E), (m_ws dA ad' ((h ++ [(24, (List.range n.toNatClampNeg).map (fun i => Value.ref (h.length + 1 + i)))]) ++ List.replicate n.toNatClampNeg (20, List.replicate z.toNatClampNeg (Value.int 0))))[k9]? = some x →
      ((m_ws dA ad h)[k9]? = some x ∧ k9 < h.length) ∨ (h.length ≤ k9 ∧ x.1 = H.size + (k9 - h.length) ∧ va_at D m_cl x F.heap) := by
    intro k9 x hx
    unfold m_ws at hx
    rw [List.getElem?_mapIdx] at hx
    rcases Nat.lt_or_ge k9 h.length with hk9 | hk9
    · refine Or.inl ⟨?_, hk9⟩
      rw [List.append_assoc, List.getElem?_append_left hk9] at hx
      have e9 := m_ext_ws (dA := dA) hag (Nat.le_refl _) o3
      rw [← e9]
      unfold m_ws
      rw [List.getElem?_mapIdx]
      exact hx
    · refine Or.inr ⟨hk9, ?_⟩
      rcases Nat.eq_or_lt_of_le hk9 with hk0 | hk1
      · have e0 : ((h ++ [(24, (List.range n.toNatClampNeg).map (fun i => Value.ref (h.length + 1 + i)))]) ++ List.replicate n.toNatClampNeg (20, List.replicate z.toNatClampNeg (Value.int 0)))[k9]? = some (24, (List.range n.toNatClampNeg).map (fun i => Value.ref (h.length + 1 + i))) := by
          rw [← hk0]
          simp
        rw [e0] at hx
        cases hx
        have ha0 := hat 0 (Nat.zero_le _)
        rw [Nat.add_zero, Nat.add_zero] at ha0
        refine ⟨by show ad' k9 = H.size + (k9 - h.length); rw [← hk0, ha0]; omega, ?_⟩
        show F.heap[ad' k9]? = some (vp_cell _ _)
        rw [← hk0, ha0, f2]
        congr 1
        show _ = vp_cell (dA 24) (_, .inr (.inr (.inr (.inr _))))
        rw [vp_cell_q, List.length_map, List.length_range]
        refine m_arrV_ext fun j hj => ?_
        rw [if_pos hj, List.getD_eq_getElem?_getD, List.getElem?_map, List.getElem?_range hj]
        show Value.ref (H.size + 1 + j) = Value.ref (ad' (h.length + 1 + j))
        rw [Nat.add_assoc h.length, hat (1 + j) (by omega), Nat.add_assoc]
      · have hk2 : k9 < h.length + 1 + n.toNatClampNeg := by
          have hq := (List.getElem?_eq_some_iff.mp (show (m_ws dA ad' ((h ++ [(24, (List.range n.toNatClampNeg).map (fun i => Value.ref (h.length + 1 + i)))]) ++ List.replicate n.toNatClampNeg (20, List.replicate z.toNatClampNeg (Value.int 0))))[k9]? = some x by unfold m_ws; rw [List.getElem?_mapIdx]; exact hx)).1
          rw [m_ws_len, hlen] at hq
          exact hq
        have e0 : ((h ++ [(24, (List.range n.toNatClampNeg).map (fun i => Value.ref (h.length + 1 + i)))]) ++ List.replicate n.toNatClampNeg (20, List.replicate z.toNatClampNeg (Value.int 0)))[k9]? = some (20, List.replicate z.toNatClampNeg (Value.int 0)) := by
          rw [List.getElem?_append_right (by simp; omega), List.getElem?_replicate, if_pos (by simp; omega)]
        rw [e0] at hx
        cases hx
        have ha0 := hat (k9 - h.length) (by omega)
        rw [show h.length + (k9 - h.length) = k9 by omega] at ha0
        refine ⟨ha0, ?_⟩
        show F.heap[ad' k9]? = some (vp_cell _ _)
        rw [ha0, show H.size + (k9 - h.length) = H.size + 1 + (k9 - h.length - 1) by omega, hrow _ (by omega)]
        congr 1
        show _ = vp_cell (dA 20) (_, .inl _)
        rw [vp_cell_i, List.length_replicate]
        refine m_arrV_ext fun j hj => ?_
        rw [List.getD_eq_getElem?_getD, List.getElem?_replicate, if_pos hj]
        rfl
  have kk' := kk ad' F.heap locs (cells + 1 + n.toNatClampNeg) (slots + n.toNatClampNeg + n.toNatClampNeg * z.toNatClampNeg) ls ⟨fun k9 x hx => ?_, ⟨fun i j x y hi hj hxy => ?_, fun k9 x hx => ?_⟩, ⟨Nat.le_trans hS.1 (by omega), fun x h1 h2 => (hold x (Nat.lt_of_lt_of_le h1 hS.1)).trans (hS.2.1 x h1 h2), hS.2.2⟩, by dsimp only; rw [hlen]; omega, by dsimp only; rw [hsl]; omega, fun k9 hk9 => by dsimp only at hk9; rw [hlen] at hk9; rw [hag k9 (by omega)]; exact hbig k9 (by omega), by dsimp only; rw [hlen]; exact o4⟩ (m_ext_lo hag o1 hl)
  · dsimp only at kk'
    rw [List.map_cons, m_ext_st hag o2] at kk'
    have hq0 : m_cv ad' (.ref h.length) = .ref H.size := by
      show Value.ref (ad' h.length) = _
      have := hat 0 (Nat.zero_le _)
      rw [Nat.add_zero, Nat.add_zero] at this
      rw [this]
    rw [hq0] at kk'
    obtain ⟨t, a1, b1⟩ := kk' F rfl X'
    refine ⟨t, step t ?_, b1⟩
    have e9 : T.heap.size = H.size := by rw [hT]
    rw [e9]
    exact a1
  · rcases hcell k9 x hx with ⟨h1, h2⟩ | ⟨-, -, h3⟩
    · exact (hP k9 x h1).kept (hold x.1 (hlt k9 x h1))
    · exact h3
  · rcases hcell i x hi with ⟨h1, h2⟩ | ⟨h1, h2, -⟩ <;> rcases hcell j y hj with ⟨h3, h4⟩ | ⟨h3, h4, -⟩
    · exact hD.1 i j x y h1 h3 hxy
    · have := hlt i x h1
      omega
    · have := hlt j y h3
      omega
    · omega
  · rcases hcell k9 x hx with ⟨h1, h2⟩ | ⟨h1, h2, -⟩
    · exact hD.2 k9 x h1
    · exact C.2.2.2.2.2.2.2.1 _ (by have := hS.1; omega)
theorem m_sC_ok {i : Instr} (C : m_C k X p R s m args meth c D dA A ad0) (I : m_I D dA A s ad0 ad N0 S0 h H locs cells slots) (hl : m_lo ls (m_n k) L ad) (hR : q.2.2.2.length ≤ R.cells + N0 ∧ m_sl q.2.2.2 ≤ R.slots + S0) (hd : decode (m_b k) pc = .ok (i, m_ln i len)) (hs : m_sC k i pc L st h = some q) (kk : m_KK p l e R s m args below meth c Q D dA A ad0 N0 S0 (m_n k) q) : W p l e R s m args below meth c H locs cells slots Q (F0 m pc ls (st.map (m_cv ad))) := by
  cases i with
  | new _ => exact ms_new C I hl hR hd hs kk
  | newarray _ => exact ms_newarray C I hl hR hd hs kk
  | anewarray _ => exact ms_anewarray C I hl hR hd hs kk
  | multianewarray _ _ => exact ms_multi C I hl hR hd hs kk
  | invokespecial _ => exact ms_objInit C I hl hd hs kk
  | invokestatic _ => exact ms_static C I hl hR hd hs kk
  | _ => cases hs
theorem m_step_ok {i : Instr} (C : m_C k X p R s m args meth c D dA A ad0) (I : m_I D dA A s ad0 ad N0 S0 h H locs cells slots) (hl : m_lo ls (m_n k) L ad) (hR : q.2.2.2.length ≤ R.cells + N0 ∧ m_sl q.2.2.2 ≤ R.slots + S0) (hd : decode (m_b k) pc = .ok (i, m_ln i len)) (hs : m_step X k i pc L st h = some q) (kk : m_KK p l e R s m args below meth c Q D dA A ad0 N0 S0 (m_n k) q) : W p l e R s m args below meth c H locs cells slots Q (F0 m pc ls (st.map (m_cv ad))) := by
  unfold m_step at hs
  split at hs
  · next q0 hq0 =>
    cases hs
    exact m_sA_ok C I hl hd hq0 kk
  · split at hs
    · next q0 hq0 =>
      cases hs
      exact m_sB_ok C I hl hd hq0 kk
    · exact m_sC_ok C I hl hR hd hs kk
end MSM
end
section
/-! a step never takes cells away -/
theorem m_go_h {pc : Nat} {off : Int} {L : m_L} {st : List Value} {h : m_H} {q : m_S} (e : m_go pc off L st h = some q) : q.2.2.2 = h := by
  unfold m_go at e
  obtain ⟨-, e⟩ := m_c_s e
  cases e
  rfl
theorem m_br_h {pc : Nat} {off : Int} {b : Prop} {db : Decidable b} {L : m_L} {st : List Value} {h : m_H} {q : m_S} (e : @m_br pc off b db L st h = some q) : q.2.2.2 = h := by
  unfold m_br at e
  obtain ⟨-, e⟩ := m_c_s e
  split at e <;> (cases e; rfl)
theorem m_sA_h {k : Nat} {i : Instr} {pc : Nat} {L : m_L} {st : List Value} {h : m_H} {q : m_S} (hs : m_sA k i pc L st h = some q) : q.2.2.2 = h := by
  cases i
  all_goals first
    | (cases hs; done)
    | (cases hs; rfl)
    | (obtain ⟨x, e1, e2⟩ := m_ldi_s hs; first | (cases e2; rfl) | (obtain ⟨-, e3⟩ := m_c_s e2; cases e3; rfl))
    | (obtain ⟨x, e1, e2⟩ := m_ldj_s hs; cases e2; rfl)
    | (obtain ⟨x, e1, e2⟩ := m_lda_s hs; cases e2; rfl)
    | (obtain ⟨x, y, r, rfl, e1⟩ := m_ii_s hs; first | (cases e1; rfl) | (obtain ⟨-, e3⟩ := m_c_s e1; cases e3; rfl))
    | (obtain ⟨x, y, r, rfl, e1⟩ := m_jj_s hs; first | (cases e1; rfl) | (obtain ⟨-, e3⟩ := m_c_s e1; cases e3; rfl))
    | (obtain ⟨x, r, rfl, e1⟩ := m_i_s hs; first | (cases e1; rfl) | (obtain ⟨-, e3⟩ := m_c_s e1; cases e3; rfl))
    | (obtain ⟨x, r, rfl, e1⟩ := m_j_s hs; first | (cases e1; rfl) | (obtain ⟨-, e3⟩ := m_c_s e1; cases e3; rfl))
    | (obtain ⟨x, r, rfl, e1⟩ := m_a_s hs; first | (cases e1; rfl) | (obtain ⟨-, e3⟩ := m_c_s e1; cases e3; rfl))
    | (obtain ⟨x, r, rfl, e1⟩ := m_v_s hs; first | (cases e1; rfl) | (obtain ⟨-, e3⟩ := m_c_s e1; cases e3; rfl))
    | exact m_go_h hs
    | skip
  case dup2 =>
    obtain ⟨v, r, rfl, e1⟩ := m_v_s hs
    split at e1
    · cases e1
      rfl
    · obtain ⟨w, r2, rfl, e1⟩ := m_v_s e1
      obtain ⟨-, e3⟩ := m_c_s e1
      cases e3
      rfl
  case ldc_w ix =>
    simp only [m_sA] at hs
    split at hs <;> cases hs
    rfl
  case ldc ix =>
    simp only [m_sA] at hs
    split at hs <;> cases hs
    rfl
  case ifCond cd off =>
    obtain ⟨x, r, rfl, e1⟩ := m_i_s hs
    cases cd <;> exact m_br_h e1
  case if_icmp cd off =>
    obtain ⟨x, y, r, rfl, e1⟩ := m_ii_s hs
    cases cd <;> exact m_br_h e1
  case tableswitch dv lo hi offs =>
    obtain ⟨x, r, rfl, e1⟩ := m_i_s hs
    split at e1
    · exact m_go_h e1
    · split at e1
      · exact m_go_h e1
      · cases e1
  case lookupswitch dv ps =>
    obtain ⟨x, r, rfl, e1⟩ := m_i_s hs
    obtain ⟨-, e1⟩ := m_c_s e1
    exact m_go_h e1
theorem m_sB_h {X : List Int32} {k : Nat} {i : Instr} {pc : Nat} {L : m_L} {st : List Value} {h : m_H} {q : m_S} (hs : m_sB X k i pc L st h = some q) : q.2.2.2.length = h.length ∧ m_sl q.2.2.2 = m_sl h := by
  cases i
  all_goals first | (cases hs; done) | skip
  case getfield ix =>
    obtain ⟨a, r, rfl, e1⟩ := m_a_s hs
    split at e1
    · split at e1
      · obtain ⟨-, e1⟩ := m_c_s e1
        split at e1
        · cases e1
          exact ⟨rfl, rfl⟩
        · cases e1
      · cases e1
    · cases e1
  case putfield ix =>
    obtain ⟨a, v, r, rfl, e1⟩ := m_va_s hs
    split at e1
    · split at e1
      · next cc hc =>
        obtain ⟨h9, e1⟩ := m_c_s e1
        cases e1
        obtain ⟨tg, vs⟩ := cc
        exact ⟨List.length_set, m_sl_set hc List.length_set⟩
      · cases e1
    · cases e1
  case getstatic ix =>
    simp only [m_sB] at hs
    split at hs
    · cases hs
      exact ⟨rfl, rfl⟩
    · cases hs
  case iaload =>
    obtain ⟨a, j, r, rfl, e1⟩ := m_ai_s hs
    split at e1
    · split at e1
      · obtain ⟨-, e1⟩ := m_c_s e1
        cases e1
        exact ⟨rfl, rfl⟩
      · cases e1
    · obtain ⟨vs, v, -, -, -, e1⟩ := m_rd_s e1
      obtain ⟨x, rfl, e1⟩ := m_vi_s e1
      cases e1
      exact ⟨rfl, rfl⟩
  case laload =>
    obtain ⟨a, j, r, rfl, e1⟩ := m_ai_s hs
    obtain ⟨vs, v, -, -, -, e1⟩ := m_rd_s e1
    obtain ⟨x, rfl, e1⟩ := m_vj_s e1
    cases e1
    exact ⟨rfl, rfl⟩
  case aaload =>
    obtain ⟨a, j, r, rfl, e1⟩ := m_ai_s hs
    split at e1
    all_goals
      obtain ⟨vs, v, -, -, -, e1⟩ := m_rd_s e1
      obtain ⟨x, rfl, e1⟩ := m_vr_s e1
      cases e1
      exact ⟨rfl, rfl⟩
  case iastore =>
    obtain ⟨a, j, x, r, rfl, e1⟩ := m_aii_s hs
    obtain ⟨vs, hc, -, e1⟩ := m_wr_s e1
    cases e1
    exact ⟨List.length_set, m_sl_set hc List.length_set⟩
  case lastore =>
    obtain ⟨a, j, x, r, rfl, e1⟩ := m_aij_s hs
    obtain ⟨vs, hc, -, e1⟩ := m_wr_s e1
    cases e1
    exact ⟨List.length_set, m_sl_set hc List.length_set⟩
  case aastore =>
    obtain ⟨a, j, x, r, rfl, e1⟩ := m_aia_s hs
    obtain ⟨-, e1⟩ := m_c_s e1
    obtain ⟨vs, hc, -, e1⟩ := m_wr_s e1
    cases e1
    exact ⟨List.length_set, m_sl_set hc List.length_set⟩
  case arraylength =>
    obtain ⟨a, r, rfl, e1⟩ := m_a_s hs
    split at e1
    · cases e1
      exact ⟨rfl, rfl⟩
    · split at e1
      · obtain ⟨-, e1⟩ := m_c_s e1
        cases e1
        exact ⟨rfl, rfl⟩
      · cases e1
theorem m_al1_h {L : m_L} {st : List Value} {h : m_H} {c : Nat × List Value} {pc : Nat} {q : m_S} (e : m_al1 L st h c pc = some q) : h.length ≤ q.2.2.2.length ∧ m_sl h ≤ m_sl q.2.2.2 := by
  obtain ⟨-, -, -, -, rfl⟩ := m_al1_s e
  refine ⟨?_, ?_⟩
  · show h.length ≤ (h ++ [c]).length
    simp
  · show m_sl h ≤ m_sl (h ++ [c])
    rw [m_sl_app]
    omega
theorem m_sC_h {k : Nat} {i : Instr} {pc : Nat} {L : m_L} {st : List Value} {h : m_H} {q : m_S} (hs : m_sC k i pc L st h = some q) : h.length ≤ q.2.2.2.length ∧ m_sl h ≤ m_sl q.2.2.2 := by
  cases i
  all_goals first | (cases hs; done) | skip
  case new ix =>
    simp only [m_sC] at hs
    split at hs
    · exact m_al1_h hs
    · cases hs
  case newarray ty =>
    obtain ⟨n, r, rfl, e1⟩ := m_i_s hs
    obtain ⟨-, e1⟩ := m_c_s e1
    cases ty <;> first | (cases e1; done) | exact m_al1_h e1
  case anewarray ix =>
    obtain ⟨n, r, rfl, e1⟩ := m_i_s hs
    obtain ⟨-, e1⟩ := m_c_s e1
    exact m_al1_h e1
  case multianewarray ix dims =>
    obtain ⟨n, z, r, rfl, e1⟩ := m_ii_s hs
    obtain ⟨-, e2⟩ := m_c_s e1
    have e3 := Option.some.inj e2
    subst e3
    refine ⟨?_, ?_⟩
    · simp
    · unfold m_sl
      simp [List.map_append, List.sum_append]
  case invokespecial ix =>
    obtain ⟨a, r, rfl, e1⟩ := m_a_s hs
    obtain ⟨-, e1⟩ := m_c_s e1
    cases e1
    exact ⟨Nat.le_refl _, Nat.le_refl _⟩
  case invokestatic ix =>
    simp only [m_sC] at hs
    split at hs
    · obtain ⟨x, y, r, rfl, e1⟩ := m_ii_s hs
      obtain ⟨-, e1⟩ := m_c_s e1
      split at e1 <;> (cases e1; exact ⟨Nat.le_refl _, Nat.le_refl _⟩)
    · split at hs
      · split at hs
        · next c0 c1 hc0 hc1 =>
          obtain ⟨g, e1⟩ := m_c_s hs
          cases e1
          obtain ⟨t1, v1⟩ := c1
          refine ⟨by show h.length ≤ (h.set _ _).length; rw [List.length_set]; exact Nat.le_refl _, ?_⟩
          show m_sl h ≤ m_sl (h.set _ _)
          rw [m_sl_set hc1 (by rw [List.length_map, List.length_range])]
          exact Nat.le_refl _
        · cases hs
      · cases hs
theorem m_step_h {X : List Int32} {k : Nat} {i : Instr} {pc : Nat} {L : m_L} {st : List Value} {h : m_H} {q : m_S} (hs : m_step X k i pc L st h = some q) : h.length ≤ q.2.2.2.length ∧ m_sl h ≤ m_sl q.2.2.2 := by
  unfold m_step at hs
  split at hs
  · next q0 hq0 =>
    cases hs
    rw [m_sA_h hq0]
    exact ⟨Nat.le_refl _, Nat.le_refl _⟩
  · split at hs
    · next q0 hq0 =>
      cases hs
      obtain ⟨h1, h2⟩ := m_sB_h hq0
      rw [h1, h2]
      exact ⟨Nat.le_refl _, Nat.le_refl _⟩
    · exact m_sC_h hs
theorem m_run_h {X : List Int32} : ∀ (n d k pc : Nat) (L : m_L) (st : List Value) (h : m_H) (v : Option Value) (h' : m_H), m_run X n d k pc L st h = some (v, h') → h.length ≤ h'.length ∧ m_sl h ≤ m_sl h' := by
  intro n
  induction n with
  | zero => intro d k pc L st h v h' e; cases e
  | succ n ih =>
    intro d k pc L st h v h' e
    rw [m_run.eq_def] at e
    dsimp only at e
    split at e
    · cases e
    · split at e
      · split at e
        · cases e
          exact ⟨Nat.le_refl _, Nat.le_refl _⟩
        · split at e
          · split at e
            · cases e
            · split at e
              · split at e
                · next h1 hr =>
                  split at e
                  · have a1 := ih _ _ _ _ _ _ _ _ hr
                    have a2 := ih _ _ _ _ _ _ _ _ e
                    exact ⟨Nat.le_trans a1.1 a2.1, Nat.le_trans a1.2 a2.2⟩
                  · cases e
                · cases e
              · cases e
          · split at e
            · next q hq =>
              have a1 := m_step_h hq
              have a2 := ih _ _ _ _ _ _ _ _ e
              exact ⟨Nat.le_trans a1.1 a2.1, Nat.le_trans a1.2 a2.2⟩
            · cases e
      · cases e
end
section
/-! a run of the little machine is a run of the machine: the contract of every method at once -/
theorem m_n_ok (k : Nat) (hk : k < m_law) : m_n k ≤ 19 := by
  have h : m_mt.all (fun e => decide (e.2.2.2.1 ≤ 19)) = true := by decide +kernel
  exact of_decide_eq_true (List.all_eq_true.mp h _ (m_m_in k hk))
def m_words (k : Nat) : List Cond := .code (m_y k) (m_b k) (m_n k) (m_r k) :: m_tb
def m_rm (d mc ms : Nat) : Room := { frames := d + 1, cells := mc, slots := ms, locals := 38 * (d + 1) }
theorem m_good : ∀ w ∈ m_tb, (w.onTables && w.keeps) = true ∨ ∃ ty, w = .arrayClass ty := fun w hw => good_of_word (List.mem_filter.mp hw).2
theorem m_words_good (k : Nat) (hk : k < m_law) : GoodIn m_tb (m_words k) := by
  intro w hw
  have h1 : w ∈ m_tb := by
    rcases List.mem_cons.mp hw with rfl | h
    · exact m_code_in k hk
    · exact h
  exact ⟨h1, m_good w h1⟩
theorem m_nw_kinds : ∀ w ∈ m_nw, (∃ a i x h, w = .methodLinkNest a i x h) ∨ (∃ a i b n d h, w = .fieldLinkNest a i b n d h) := by
  intro w hw
  simp only [m_nw, List.mem_cons, List.mem_nil_iff, or_false] at hw
  rcases hw with rfl | rfl | rfl | rfl | rfl | rfl | rfl | rfl | rfl | rfl <;> first | exact Or.inl ⟨_, _, _, _, rfl⟩ | exact Or.inr ⟨_, _, _, _, _, _, rfl⟩
theorem m_over_moved {u U : State} (hvm : u.vm.Alike U.vm) (h : (Cond.arrayOver (.array .int)).before #[] u = true) : (Cond.arrayOver (.array .int)).before #[] U = true := by
  have h0 := h
  simp only [Cond.before, Cond.holds, Cond.value, beq_iff_eq] at h0
  obtain ⟨comp, g1, h0⟩ := Option.bind_eq_some_iff.mp h0
  obtain ⟨cA, g2, h0⟩ := Option.bind_eq_some_iff.mp h0
  obtain ⟨kA, g3, g4⟩ := Option.map_eq_some_iff.mp h0
  obtain ⟨k', hk', he⟩ := hvm.2.2 _ _ g3
  have a1 := va_idx_bare U.vm comp
  have a2 := va_idx_bare u.vm comp
  have a3 : U.vm.bare = u.vm.bare := by first | exact hvm.bare_eq | exact hvm.bare_eq.symm
  rw [a3] at a1
  have hi := a1.symm.trans (a2.trans g2)
  have f1 : U.vm.findClass (FieldType.array .int).toString = some comp := by rw [hvm.findClass]; exact g1
  simp only [Cond.before, Cond.holds, Cond.value, beq_iff_eq]
  rw [f1, Option.bind_some]
  refine Option.bind_eq_some_iff.mpr ⟨cA, hi, Option.map_eq_some_iff.mpr ⟨k', hk', ?_⟩⟩
  have hkind : k'.kind = kA.kind := by rw [he]
  rw [hkind]
  cases hkk : kA.kind with
  | array component ty =>
    rw [hkk] at g4
    simp only [hvm.findClass]
    exact g4
  | _ => rw [hkk] at g4; exact g4
theorem m_NW_warm {s U : State} (hW : s.WarmedH U.vm) (h : m_NW s) : m_NW U := by
  refine ⟨fun w hw => ?_, va_AO.moved hW.alike h.2.1, m_over_moved hW.alike h.2.2⟩
  have h1 := h.1 w hw
  rcases m_nw_kinds w hw with ⟨a, i, x, b, rfl⟩ | ⟨a, i, b, n, d, g, rfl⟩
  · exact va_Nw.warmM hW h1
  · exact va_Nw.warmF hW h1
theorem m_EX_moved {X : List Int32} {ad : Nat → Nat} {A : Nat → Prop} {u U : State} {H : Heap} (hvm : u.vm.Alike U.vm) (h : m_EX X ad A u H) : m_EX X ad A U H :=
  ⟨fun e he => ⟨va_Z.moved hvm (h.1 e he).1, va_T.moved hvm (h.1 e he).2⟩, va_X.moved hvm h.2.1, h.2.2⟩
theorem m_EX_kept {X : List Int32} {ad : Nat → Nat} {A B : Nat → Prop} {U : State} {H H1 : Heap} (h : m_EX X ad A U H) (hs : H.size ≤ H1.size) (hq : ∀ a : Nat, a < H.size → ¬ A a → H1[a]? = H[a]?) (hAB : ∀ q, B q → A q) : m_EX X ad B U H1 :=
  ⟨fun e he => ⟨va_Z.narrow (va_Z.kept (h.1 e he).1 hq) hAB, va_T.narrow (va_T.kept (h.1 e he).2 hq) hAB⟩, va_X.kept h.2.1 (hq _ h.2.2.1 h.2.2.2), Nat.lt_of_lt_of_le h.2.2.1 hs, fun z => h.2.2.2 (hAB _ z)⟩
theorem m_EX_ad {X : List Int32} {ad ad' : Nat → Nat} {A : Nat → Prop} {U : State} {H : Heap} (h : m_EX X ad A U H) (he : ∀ a, 1000 ≤ a → ad' a = ad a) : m_EX X ad' A U H := by
  refine ⟨fun e hm => ?_, ?_, ?_, ?_⟩
  · rw [he _ (m_sx_big e hm)]
    exact h.1 e hm
  · rw [he 1000 (Nat.le_refl _)]
    exact h.2.1
  · rw [he 1000 (Nat.le_refl _)]
    exact h.2.2.1
  · rw [he 1000 (Nat.le_refl _)]
    exact h.2.2.2
/-- the world as a callee finds it -/
def m_W0 (X : List Int32) (D : va_G) (dA : Nat → ClassId) (ad : Nat → Nat) (h : m_H) (U : State) : Prop :=
  va_P D m_cl (m_ws dA ad h) U.heap ∧ va_K D m_cl (m_tys dA) U ∧ va_D (fun _ => True) (m_ws dA ad h) ∧ m_NW U ∧ m_EX X ad (va_A (m_ws dA ad h) U.heap.size) U U.heap ∧ h.length ≤ 1000
/-- and as it leaves it -/
def m_B (D : va_G) (dA : Nat → ClassId) (ad : Nat → Nat) (h h' : m_H) (A : Nat → Prop) (ad' : Nat → Nat) (t : State) : Prop :=
  (∀ a : Nat, a < h.length ∨ h'.length ≤ a → ad' a = ad a) ∧ va_P D m_cl (m_ws dA ad' h') t.heap ∧ va_D A (m_ws dA ad' h') ∧ h'.length ≤ 1000
def m_Qc (v : Option Value) (B : (Nat → Nat) → State → Prop) (A : Nat → Prop) : Array Value → State → Outcome → State → Prop := match v with
  | none => va_Qv (S := Nat → Nat) (fun _ => True) B A
  | some (.int x) => va_Qi (S := Nat → Nat) (fun r _ => r = x) B A
  | some (.long x) => va_Ql (S := Nat → Nat) (fun r _ => r = x) B A
  | some (.ref k) => va_Qr (S := Nat → Nat) (fun _ => True) (fun ad' a t => a = ad' k ∧ B ad' t) A
  | _ => fun _ _ _ _ => False
/-- the contract of a method at one run -/
def m_Mt (l : Launch) (X : List Int32) (D : va_G) (dA : Nat → ClassId) (d k : Nat) (As : List Value) (ad : Nat → Nat) (h : m_H) (v : Option Value) (h' : m_H) (sz : Nat) : Prop :=
  Met l (m_y k) (m_words k) (m_rm d (h'.length - h.length) (m_sl h' - m_sl h)) (va_Pc (As.map (m_cv ad)) (fun U => U.heap.size = sz ∧ m_W0 X D dA ad h U))
    (m_Qc v (m_B D dA ad h h' (va_A (m_ws dA ad h) sz)) (va_A (m_ws dA ad h) sz)) (h'.length - h.length) (m_sl h' - m_sl h) (va_A (m_ws dA ad h) sz)
/-- what comes behind the end of a run -/
def m_RR (p : Program) (l : Launch) (e : Env) (R : Room) (s : State) (m : MethodId) (args : Array Value) (below : List Frame) (meth : Method) (c : Code) (Q : State → Prop) (D : va_G) (dA : Nat → ClassId) (A : Nat → Prop) (ad0 : Nat → Nat) (N0 S0 k : Nat) (v : Option Value) (h' : m_H) : Prop :=
  ∀ (i : Instr) (pc : Nat) (st : List Value) (ad : Nat → Nat) (H : Heap) (locs : List Loc) (cells slots : Nat) (ls : Array Slot), decode (m_b k) pc = .ok (i, 1) → m_ret k i st = some v → m_I D dA A s ad0 ad N0 S0 h' H locs cells slots →
    W p l e R s m args below meth c H locs cells slots Q (F0 m pc ls (st.map (m_cv ad)))
/-- the body of a method, at a run of n steps -/
def m_BD (l : Launch) (X : List Int32) (n : Nat) : Prop :=
  ∀ (p : Program) (e : Env) (R : Room) (s : State) (m : MethodId) (args : Array Value) (below : List Frame) (meth : Method) (c : Code) (Q : State → Prop) (D : va_G) (dA : Nat → ClassId) (A : Nat → Prop) (ad0 ad : Nat → Nat) (N0 S0 d k pc : Nat) (L : m_L) (st : List Value) (h : m_H) (v : Option Value) (h' : m_H) (H : Heap) (locs : List Loc) (cells slots : Nat) (ls : Array Slot),
    m_C k X p R s m args meth c D dA A ad0 → m_I D dA A s ad0 ad N0 S0 h H locs cells slots → m_lo ls (m_n k) L ad → h'.length ≤ R.cells + N0 ∧ m_sl h' ≤ R.slots + S0 → d + 1 ≤ R.frames ∧ 38 * (d + 1) ≤ R.locals →
    m_run X n d k pc L st h = some (v, h') → m_RR p l e R s m args below meth c Q D dA A ad0 N0 S0 k v h' → W p l e R s m args below meth c H locs cells slots Q (F0 m pc ls (st.map (m_cv ad)))
theorem m_lay_len (vs : List Value) : (m_lay vs).length = (lg_sl vs).length := by
  induction vs with
  | nil => rfl
  | cons v vs ih =>
    unfold m_lay lg_sl
    rw [List.flatMap_cons, List.length_append]
    split
    · rw [List.length_cons, List.length_cons, ih]
      show _ = 2 + (lg_sl vs).length
      omega
    · rw [List.length_cons, ih]
      show _ = 1 + (lg_sl vs).length
      omega
theorem m_lg_cv (ad : Nat → Nat) (vs : List Value) : (lg_sl (vs.map (m_cv ad))).length = (lg_sl vs).length := by
  rw [← m_lay_len, ← m_lay_len]
  induction vs with
  | nil => rfl
  | cons v vs ih =>
    rw [List.map_cons]
    unfold m_lay
    rw [m_cv_cat]
    split
    · rw [List.length_cons, List.length_cons, List.length_cons, List.length_cons, ih]
    · rw [List.length_cons, List.length_cons, ih]
theorem m_lay_args {ad : Nat → Nat} : ∀ (vs : List Value) (o i : Nat) (v : Value), (m_lay vs)[i]? = some (some v) → (o + i, m_cv ad v) ∈ lv_args o (vs.map (m_cv ad))
  | [], o, i, v, h => by cases h
  | w :: vs, o, i, v, h => by
    rw [List.map_cons]
    unfold lv_args
    unfold m_lay at h
    rw [m_cv_cat]
    by_cases hc : w.category = 2
    · rw [if_pos hc] at h ⊢
      match i, h with
      | 0, h =>
        cases h
        exact List.mem_cons_self
      | 1, h => cases h
      | i + 2, h =>
        have := m_lay_args (ad := ad) vs (o + 2) i v h
        rw [show o + (i + 2) = o + 2 + i by omega]
        exact List.mem_cons_of_mem _ this
    · rw [if_neg hc] at h ⊢
      match i, h with
      | 0, h =>
        cases h
        exact List.mem_cons_self
      | i + 1, h =>
        have := m_lay_args (ad := ad) vs (o + 1) i v h
        rw [show o + (i + 1) = o + 1 + i by omega]
        exact List.mem_cons_of_mem _ this
theorem m_lo_entry {k : Nat} {As : List Value} {ad : Nat → Nat} (hl : (m_lay As).length ≤ m_n k) : m_lo ((lg_sl (As.map (m_cv ad)) ++ List.replicate (m_n k - (lg_sl (As.map (m_cv ad))).length) Slot.unset).toArray) (m_n k) (m_ent k As) ad := by
  have hlen : (lg_sl (As.map (m_cv ad))).length ≤ m_n k := by rw [m_lg_cv, ← m_lay_len]; exact hl
  obtain ⟨h1, h2, h3⟩ := lv_entry (As.map (m_cv ad)) (n := m_n k) hlen
  refine ⟨h1, h2, ?_, fun i v hv => ?_⟩
  · unfold m_ent
    rw [List.length_append, List.length_replicate]
    omega
  · unfold m_ent at hv
    rcases Nat.lt_or_ge i (m_lay As).length with hi | hi
    · rw [List.getElem?_append_left hi] at hv
      have := m_lay_args (ad := ad) As 0 i v hv
      rw [Nat.zero_add] at this
      exact h3 _ this
    · rw [List.getElem?_append_right hi, List.getElem?_replicate] at hv
      split at hv <;> cases hv
theorem m_len1 {i : Instr} {len k : Nat} {st : List Value} {v : Option Value} (h : m_ret k i st = some v) : m_ln i len = 1 := by
  cases i <;> first | rfl | cases h
theorem m_W0_blind {X : List Int32} {D : va_G} {dA : Nat → ClassId} {ad : Nat → Nat} {h : m_H} {av : List Value} {sz : Nat} : FrameBlind (va_Pc av (fun U => U.heap.size = sz ∧ m_W0 X D dA ad h U)) := by
  intro a U g mk ⟨h1, h2, hP, hK, hD, hN, hE, hl⟩
  have hvm : U.vm.Alike (U.calling g mk a).vm := Vm.Alike.refl U.vm
  exact ⟨h1, h2, hP, va_K.moved (u := U) (U := U.calling g mk a) hvm hK, hD, m_NW_warm (s := U) (U := U.calling g mk a) (State.WarmedH.refl U) hN, m_EX_moved (u := U) (U := U.calling g mk a) hvm hE, hl⟩
theorem m_Mt_of {l : Launch} {X : List Int32} (hX : X.length < 2 ^ 31) {n : Nat} (hB : m_BD l X n) {D : va_G} {dA : Nat → ClassId} {d k : Nat} {As : List Value} {ad : Nat → Nat} {h : m_H} {v : Option Value} {h' : m_H} (hk : k < m_law) (ho : m_o k < 8) (hlay : (m_lay As).length ≤ m_n k)
    (hrun : m_run X n d k 0 (m_ent k As) [] h = some (v, h')) (sz : Nat) : m_Mt l X D dA d k As ad h v h' sz := by
  have hcls := m_mt_cn k hk ho
  have hpl : plainName (m_y k).cls = true := by rw [hcls]; exact List.all_eq_true.mp m_cn_plain _ (List.mem_range.mpr ho)
  have hmono := m_run_h _ _ _ _ _ _ _ _ _ hrun
  refine Met.ofW (cc := m_b k) (maxL := m_n k) (ret := m_r k) hpl rfl ?_
  intro p e s m args below meth c s₁ B hml hv
  obtain ⟨rfl, hsz, hP, hK, hD0, hNW, hEX, hlen⟩ := hv
  have hts0 := atoms_spec (ws := m_words k) B.pre
  subst hsz
  have hD := hD0.self (sz := s.heap.size)
  have hin : meth.name = (m_y k).name := (name_of_methodNamed B.named B.method).1
  have hown : s.vm.findClass (m_cn (m_o k)) = some m.cls := by rw [← hcls]; exact findClass_of_methodNamed B.named
  have hr := B.returns
  rw [lg_entry_eq]
  refine hB p e _ s m _ below meth c _ D dA (va_A (m_ws dA ad h) s.heap.size) ad ad h.length (m_sl h) d k 0 (m_ent k As) [] h v h' s.heap [] 0 0 _ ⟨B.exec, B.bytes, hml, hown, fun w hw => hts0 w (List.mem_cons_of_mem _ hw), hNW, hK, fun q hq => Or.inr hq, hEX, hin, ?_, ?_, hX⟩ ⟨hP, hD, va_S.rf, Nat.zero_add _, Nat.zero_add _, fun _ _ => rfl, hlen⟩ (m_lo_entry hlay) ?_ ?_ hrun ?_
  · show 1 ≤ d + 1
    omega
  · show 38 ≤ 38 * (d + 1)
    omega
  · show h'.length ≤ (h'.length - h.length) + h.length ∧ m_sl h' ≤ (m_sl h' - m_sl h) + m_sl h
    omega
  · exact ⟨Nat.le_refl _, Nat.le_refl _⟩
  · intro i pc st ad' H locs cells slots ls hd hret I
    have hx := B.exec
    have hb := B.bytes
    have hlocks := B.notSynchronized
    obtain ⟨iP, iD, iS, i4, i5, i6, i7⟩ := I
    obtain rfl : cells = h'.length - h.length := by omega
    obtain rfl : slots = m_sl h' - m_sl h := by omega
    have fin : ∀ t : State, t.heap = H → m_B D dA ad h h' (va_A (m_ws dA ad h) s.heap.size) ad' t := fun t ht => ⟨i6, by rw [ht]; exact iP, iD, i7⟩
    cases i
    all_goals first | (cases hret; done) | skip
    case ireturn =>
      unfold m_ret at hret
      dsimp only at hret
      split at hret
      · next x =>
        split at hret
        · next hok =>
          cases hret
          unfold m_rok at hok
          split at hok
          · next ty hty =>
            exact W.zret (ty := ty) (v := x) hx hb (hr.trans hty) (of_decide_eq_true hok) (fun t ht hW => ⟨⟨x, ad', rfl, rfl, fin t ht⟩, iS.F ht⟩) iS.2.2 hd
          · cases hok
        · cases hret
      · cases hret
    case lreturn =>
      unfold m_ret at hret
      dsimp only at hret
      split at hret
      · next x =>
        split at hret
        · next hok =>
          cases hret
          exact W.lret (v := x) hx hb (hr.trans hok) (fun t ht hW => ⟨⟨x, ad', rfl, rfl, fin t ht⟩, iS.F ht⟩) iS.2.2 hd
        · cases hret
      · cases hret
    case areturn =>
      unfold m_ret at hret
      dsimp only at hret
      split at hret
      · next a =>
        split at hret
        · next hok =>
          cases hret
          unfold m_rob at hok
          split at hok
          · next cn hty =>
            exact W.aret (v := .ref (ad' a)) (rt := .object cn) hx hb (hr.trans hty) (Or.inl ⟨cn, rfl⟩) (Or.inr ⟨ad' a, rfl⟩) (fun t ht hW => ⟨⟨ad', ad' a, rfl, trivial, rfl, fin t ht⟩, iS.F ht⟩) iS.2.2 hd
          · cases hok
        · cases hret
      · cases hret
    case return_ =>
      unfold m_ret at hret
      dsimp only at hret
      split at hret
      · split at hret
        · next hok =>
          cases hret
          exact W.vret hx hb (hr.trans hok) (fun t ht hW => ⟨⟨ad', rfl, trivial, fin t ht⟩, iS.F ht⟩) iS.2.2 hd
        · cases hret
      · cases hret
end
section
/-! calls; and so every run -/
theorem m_il_use {o ix : Nat} {e : Nat × Nat × Nat × Nat × Nat × Nat × Nat} (h : m_il.lookup (o, ix) = some e) :
    e.2.1 < m_law ∧ m_o e.2.1 < 8 ∧ (m_y e.2.1).cls ≠ "java/lang/invoke/MethodHandle" ∧ (m_y e.2.1).cls ≠ "java/lang/invoke/VarHandle" ∧ (parseMethodDescriptor (m_y e.2.1).desc).map (fun d => d.parameters.length) = some e.2.2.1 ∧ Cond.initialized (m_y e.2.1).cls ∈ m_tb ∧
    ((e.1 = 0 ∧ Cond.methodLink (m_cn o) ix (m_y e.2.1) ∈ m_tb ∧ Cond.instanceMethod (m_y e.2.1) ∈ m_tb ∧ Cond.selects (m_y e.2.1).cls (m_y e.2.1) (m_y e.2.1) ∈ m_tb) ∨
     (e.1 = 1 ∧ Cond.methodLink (m_cn o) ix (m_y e.2.1) ∈ m_tb ∧ Cond.static (m_y e.2.1) ∈ m_tb) ∨
     (e.1 = 2 ∧ Cond.methodLink (m_cn o) ix (m_y e.2.1) ∈ m_tb ∧ Cond.instanceMethod (m_y e.2.1) ∈ m_tb ∧ (m_y e.2.1).name = "<init>" ∧ m_r e.2.1 = none) ∨
     (e.1 = 3 ∧ Cond.methodLinkNest (m_cn o) ix (m_y e.2.1) "SnowHut" ∈ m_nw ∧ Cond.static (m_y e.2.1) ∈ m_tb) ∨
     (e.1 = 4 ∧ Cond.methodLinkNest (m_cn o) ix (m_y e.2.1) "SnowHut" ∈ m_nw ∧ Cond.instanceMethod (m_y e.2.1) ∈ m_tb ∧ (m_y e.2.1).name = "<init>" ∧ m_r e.2.1 = none)) := by
  have h1 := List.all_eq_true.mp m_il_ok _ (m_lookup h)
  obtain ⟨kd, y, n, w1, w2, w3, w4⟩ := e
  unfold m_ilc at h1
  dsimp only at h1 ⊢
  simp only [Bool.and_eq_true, decide_eq_true_eq] at h1
  obtain ⟨⟨⟨⟨⟨⟨g1, g2⟩, g3⟩, g4⟩, g5⟩, g6⟩, g7⟩ := h1
  refine ⟨g1, g2, g3, g4, g5, m_has_mem g6, ?_⟩
  split at g7
  · simp only [Bool.and_eq_true] at g7
    exact Or.inl ⟨rfl, m_has_mem g7.1.1, m_has_mem g7.1.2, m_has_mem g7.2⟩
  · simp only [Bool.and_eq_true] at g7
    exact Or.inr (Or.inl ⟨rfl, m_has_mem g7.1, m_has_mem g7.2⟩)
  · simp only [Bool.and_eq_true, decide_eq_true_eq] at g7
    exact Or.inr (Or.inr (Or.inl ⟨rfl, m_has_mem g7.1.1.1, m_has_mem g7.1.1.2, g7.1.2, g7.2⟩))
  · simp only [Bool.and_eq_true, decide_eq_true_eq] at g7
    exact Or.inr (Or.inr (Or.inr (Or.inl ⟨rfl, g7.1, m_has_mem g7.2⟩)))
  · simp only [Bool.and_eq_true, decide_eq_true_eq] at g7
    exact Or.inr (Or.inr (Or.inr (Or.inr ⟨rfl, g7.1.1.1, m_has_mem g7.1.1.2, g7.1.2, g7.2⟩)))
  · cases g7
section MCL
variable {p : Program} {l : Launch} {e : Env} {R : Room} {s : State} {m : MethodId} {args : Array Value} {below : List Frame} {meth : Method} {c : Code} {H : Heap} {locs : List Loc} {cells slots : Nat} {Q : State → Prop}
variable {k pc len nL N0 S0 : Nat} {X : List Int32} {D : va_G} {dA : Nat → ClassId} {A : Nat → Prop} {ad0 ad : Nat → Nat} {L : m_L} {st : List Value} {h : m_H} {ls : Array Slot} {q : m_S}
/-- the callee's free cells are the caller's -/
theorem m_free (C : m_C k X p R s m args meth c D dA A ad0) (I : m_I D dA A s ad0 ad N0 S0 h H locs cells slots) : ∀ q, va_A (m_ws dA ad h) H.size q → A q := by
  intro q hq
  rcases hq with ⟨k9, e9, hq⟩ | hq
  · exact I.2.1.2 k9 _ hq
  · exact C.2.2.2.2.2.2.2.1 q (Nat.le_trans I.2.2.1.1 hq)
/-- what a callee finds -/
theorem m_pre (C : m_C k X p R s m args meth c D dA A ad0) (I : m_I D dA A s ad0 ad N0 S0 h H locs cells slots) {U : State} (hU : U.heap = H) (hW : s.WarmedH U.vm) : U.heap.size = H.size ∧ m_W0 X D dA ad h U := by
  refine ⟨by rw [hU], by rw [hU]; exact I.1, va_K.moved hW.alike C.2.2.2.2.2.2.1, I.2.1.weaken (fun _ _ _ _ => trivial), m_NW_warm hW C.2.2.2.2.2.1, ?_, I.2.2.2.2.2.2⟩
  have h1 := m_EX_moved hW.alike C.2.2.2.2.2.2.2.2.1
  have h2 := m_EX_kept (B := va_A (m_ws dA ad h) H.size) h1 I.2.2.1.1 I.2.2.1.2.1 (m_free C I)
  have h3 := m_EX_ad (ad' := ad) h2 (fun a ha => m_I_big I ha)
  rw [hU]
  exact h3
theorem m_okc_ag {L : m_L} {r : List Value} {h h1 : m_H} {ad ad1 : Nat → Nat} {ls : Array Slot} {nL : Nat} (hok : m_okc L r h h1 = true) (ha : ∀ a : Nat, a < h.length ∨ h1.length ≤ a → ad1 a = ad a) (hl : m_lo ls nL L ad) : r.map (m_cv ad1) = r.map (m_cv ad) ∧ m_lo ls nL L ad1 := by
  unfold m_okc at hok
  rw [Bool.or_eq_true, decide_eq_true_eq, Bool.and_eq_true] at hok
  rcases hok with hok | ⟨h2, h3⟩
  · have hall : ∀ v : Value, m_cv ad1 v = m_cv ad v := fun v => by
      cases v with
      | ref a =>
        show Value.ref (ad1 a) = Value.ref (ad a)
        rw [ha a (by omega)]
      | _ => rfl
    exact ⟨List.map_congr_left fun v _ => hall v, m_lo_ext hl fun _ v _ => hall v⟩
  · exact ⟨m_ext_st ha h3, m_ext_lo ha h2 hl⟩
/-- behind a call -/
theorem m_after (C : m_C k X p R s m args meth c D dA A ad0) (I : m_I D dA A s ad0 ad N0 S0 h H locs cells slots) (hl : m_lo ls (m_n k) L ad) {v1 : Option Value} {h1 : m_H} {r : List Value} {a : Array Value} (hmono : h.length ≤ h1.length ∧ m_sl h ≤ m_sl h1) (hok : m_okc L r h h1 = true)
    (hr : va_Run p l e R s m args below meth c H locs cells slots (h1.length - h.length) (m_sl h1 - m_sl h) (F0 m pc ls (st.map (m_cv ad))) (r.map (m_cv ad)) (m_Qc v1 (m_B D dA ad h h1 (va_A (m_ws dA ad h) H.size)) (va_A (m_ws dA ad h) H.size) a) (va_A (m_ws dA ad h) H.size))
    (kk : m_KK p l e R s m args below meth c Q D dA A ad0 N0 S0 (m_n k) (pc + 3, L, m_push v1 r, h1)) : W p l e R s m args below meth c H locs cells slots Q (F0 m pc ls (st.map (m_cv ad))) := by
  have hF := m_free C I
  have go : ∀ (ad1 : Nat → Nat) (t : State) (H1 : Heap) (locs1 : List Loc), t.heap = H1 → m_B D dA ad h h1 (va_A (m_ws dA ad h) H.size) ad1 t → va_S A s.heap H1 locs1 →
      m_I D dA A s ad0 ad1 N0 S0 h1 H1 locs1 (cells + (h1.length - h.length)) (slots + (m_sl h1 - m_sl h)) ∧ r.map (m_cv ad1) = r.map (m_cv ad) ∧ m_lo ls (m_n k) L ad1 := by
    intro ad1 t H1 locs1 ht hB hS
    obtain ⟨b1, b2, b3, b4⟩ := hB
    obtain ⟨-, -, -, i4, i5, i6, i7⟩ := I
    rw [ht] at b2
    refine ⟨⟨b2, b3.weaken (fun k9 q9 _ hq => hF _ hq), hS, by omega, by omega, fun a9 h9 => ?_, b4⟩, m_okc_ag hok b1 hl⟩
    rw [b1 a9 (by omega)]
    exact i6 a9 (by omega)
  cases v1 with
  | none =>
    refine va_callv (S := Nat → Nat) (post := fun _ => True) (B := m_B D dA ad h h1 (va_A (m_ws dA ad h) H.size)) (A1 := va_A (m_ws dA ad h) H.size) (a := a) hr I.2.2.1 (fun q _ hq => hF q hq) hF (fun ad1 t H1 locs1 ht hvm _ hB hz hk1 hS => ?_)
    obtain ⟨g1, g2, g3⟩ := go ad1 t H1 locs1 ht hB hS
    have := kk ad1 H1 locs1 _ _ ls g1 g3
    dsimp only [m_push] at this
    rw [g2] at this
    exact this
  | some v =>
    cases v with
    | int x =>
      refine va_calli (S := Nat → Nat) (post := fun rr _ => rr = x) (B := m_B D dA ad h h1 (va_A (m_ws dA ad h) H.size)) (A1 := va_A (m_ws dA ad h) H.size) (a := a) hr I.2.2.1 (fun q _ hq => hF q hq) hF (fun rr ad1 t H1 locs1 ht hvm hp hB hz hk1 hS => ?_)
      obtain ⟨g1, g2, g3⟩ := go ad1 t H1 locs1 ht hB hS
      subst hp
      have := kk ad1 H1 locs1 _ _ ls g1 g3
      dsimp only [m_push] at this
      rw [List.map_cons, g2] at this
      exact this
    | long x =>
      refine va_calll (S := Nat → Nat) (post := fun rr _ => rr = x) (B := m_B D dA ad h h1 (va_A (m_ws dA ad h) H.size)) (A1 := va_A (m_ws dA ad h) H.size) (a := a) hr I.2.2.1 (fun q _ hq => hF q hq) hF (fun rr ad1 t H1 locs1 ht hvm hp hB hz hk1 hS => ?_)
      obtain ⟨g1, g2, g3⟩ := go ad1 t H1 locs1 ht hB hS
      subst hp
      have := kk ad1 H1 locs1 _ _ ls g1 g3
      dsimp only [m_push] at this
      rw [List.map_cons, g2] at this
      exact this
    | ref x =>
      refine va_callr (S := Nat → Nat) (post := fun _ => True) (B := fun ad' a t => a = ad' x ∧ m_B D dA ad h h1 (va_A (m_ws dA ad h) H.size) ad' t) (A1 := va_A (m_ws dA ad h) H.size) (a := a) hr I.2.2.1 (fun q _ hq => hF q hq) hF (fun ad1 ra t H1 locs1 ht hvm hp hB hz hk1 hS => ?_)
      obtain ⟨hra, hB⟩ := hB
      subst hra
      obtain ⟨g1, g2, g3⟩ := go ad1 t H1 locs1 ht hB hS
      have := kk ad1 H1 locs1 _ _ ls g1 g3
      dsimp only [m_push] at this
      rw [List.map_cons, g2] at this
      exact this
    | _ =>
      intro T hT Xs
      obtain ⟨_, _, _, _, _, _, _, _, _, _, hq, _⟩ := hr T hT Xs
      exact hq.elim
theorem m_GoodV {o ix y : Nat} (hy : y < m_law) (w1 : Cond.methodLink (m_cn o) ix (m_y y) ∈ m_tb) (w2 : Cond.instanceMethod (m_y y) ∈ m_tb) (w3 : Cond.selects (m_y y).cls (m_y y) (m_y y) ∈ m_tb) (w4 : Cond.initialized (m_y y).cls ∈ m_tb) : GoodIn m_tb (wsV (m_cn o) ix (m_y y).cls (m_y y) (m_words y)) := by
  intro w hw
  have h1 : w ∈ m_tb := by
    rcases List.mem_append.mp hw with h | h
    · simp only [List.mem_cons, List.mem_nil_iff, or_false] at h
      rcases h with rfl | rfl | rfl | rfl <;> assumption
    · exact (m_words_good y hy w h).1
  exact ⟨h1, m_good w h1⟩
theorem m_GoodS {o ix y : Nat} (hy : y < m_law) (w1 : Cond.methodLink (m_cn o) ix (m_y y) ∈ m_tb) (w2 : Cond.static (m_y y) ∈ m_tb) (w4 : Cond.initialized (m_y y).cls ∈ m_tb) : GoodIn m_tb (va_wsS (m_cn o) ix (m_y y) (m_words y)) := by
  intro w hw
  have h1 : w ∈ m_tb := by
    rcases List.mem_append.mp hw with h | h
    · simp only [List.mem_cons, List.mem_nil_iff, or_false] at h
      rcases h with rfl | rfl | rfl <;> assumption
    · exact (m_words_good y hy w h).1
  exact ⟨h1, m_good w h1⟩
theorem m_rm_ok {d y mc ms : Nat} (hy : y < m_law) (hd : d + 1 + 1 ≤ R.frames ∧ 38 * (d + 1 + 1) ≤ R.locals) : (m_rm d mc ms).frames + 1 ≤ R.frames ∧ 8 + (m_n y + 11) + (m_rm d mc ms).locals ≤ R.locals := by
  have := m_n_ok y hy
  refine ⟨hd.1, ?_⟩
  show 8 + (m_n y + 11) + 38 * (d + 1) ≤ R.locals
  omega
theorem m_sum_le {r : List Value} (h : m_sum r ≤ 8) : 2 * (F0 m pc ls (st.map (m_cv ad))).monitorRoom + (((r.map (m_cv ad)).map fun v => v.category).sum) ≤ 8 := by
  rw [m_sum_cv]
  show 2 * 0 + m_sum r ≤ 8
  omega
/-- a call is a run -/
theorem m_call {d y : Nat} {As r : List Value} {i : Instr} (C : m_C k X p R s m args meth c D dA A ad0) (I : m_I D dA A s ad0 ad N0 S0 h H locs cells slots) (hl : m_lo ls (m_n k) L ad) {v1 : Option Value} {h1 : m_H} (hcs : cells + (h1.length - h.length) ≤ R.cells ∧ slots + (m_sl h1 - m_sl h) ≤ R.slots) (hd : d + 1 + 1 ≤ R.frames ∧ 38 * (d + 1 + 1) ≤ R.locals)
    (hdec : decode (m_b k) pc = .ok (i, m_ln i len)) (hinv : m_inv k i st h = some (y, As, r)) (hlay : (m_lay As).length ≤ m_n y) (hM : ∀ (_ : y < m_law) (_ : m_o y < 8), m_Mt l X D dA d y As ad h v1 h1 H.size) :
    va_Run p l e R s m args below meth c H locs cells slots (h1.length - h.length) (m_sl h1 - m_sl h) (F0 m pc ls (st.map (m_cv ad))) (r.map (m_cv ad)) (m_Qc v1 (m_B D dA ad h h1 (va_A (m_ws dA ad h) H.size)) (va_A (m_ws dA ad h) H.size) (As.map (m_cv ad)).toArray) (va_A (m_ws dA ad h) H.size) := by
  have S : CallFix p m c (m_b k) (m_n k) s args m_tb (m_cn (m_o k)) := ⟨C.1, C.2.1, C.2.2.1, C.2.2.2.1, C.2.2.2.2.1⟩
  have hts := C.2.2.2.2.1
  cases i
  all_goals first | (cases hinv; done) | skip
  case invokevirtual ix =>
    simp only [m_inv] at hinv
    split at hinv
    · next kd y0 n w hlk =>
      split at hinv
      · next b r0 hdrop =>
        obtain ⟨⟨hk0, hsum, hn, hcl, hcl2⟩, e1⟩ := m_c_s hinv
        cases e1
        obtain ⟨u1, u2, u3, u4, u5, u6, u7⟩ := m_il_use hlk
        dsimp only at u1 u2 u3 u4 u5 u6 u7
        subst hk0
        rcases u7 with ⟨-, w1, w2, w3⟩ | ⟨z, -⟩ | ⟨z, -⟩ | ⟨z, -⟩ | ⟨z, -⟩
        · obtain ⟨cb, hcb, hcb1⟩ := Option.map_eq_some_iff.mp hcl
          obtain ⟨tg, vs⟩ := cb
          rw [hcb] at hcl2
          have hlt : tg < m_cl.length := by simpa using hcl2
          have hq : m_cl[tg]? = some m_cl[tg] := List.getElem?_eq_getElem hlt
          rw [m_cls_of hq] at hcb1
          have hws := m_ws_at (dA := dA) (ad := ad) hcb
          rw [m_ent1_o (m_cl_lt hq)] at hws
          have hrecv := va_recv C.2.2.2.2.2.2.1 I.1 hq hws
          rw [hcb1] at hrecv
          have hst : st = st.take n ++ .ref b :: r := by rw [← hdrop, List.take_append_drop]
          have hM' := hM u1 u2
          unfold m_Mt at hM'
          rw [List.map_cons] at hM'
          refine va_runV (C := (m_y y).cls) (b := ad b) (As := ((st.take n).reverse).map (m_cv ad)) (rest := r.map (m_cv ad)) (n := n) (own := m_cn (m_o k)) (index := ix) (nL := m_n k) S hM' (cwV n hts (m_GoodV u1 w1 w2 w3 u6) rfl rfl rfl ⟨rfl, u3, u4, u5⟩ (m_rm_ok u1 hd)) ⟨m_W0_blind, hrecv, fun U hU hW => ⟨rfl, m_pre C I hU hW⟩⟩ rfl ?_ hl.1 ?_ (m_sum_le hsum) hdec hcs
          · rw [List.length_map, List.length_reverse, List.length_take]
            omega
          · show st.map (m_cv ad) = _
            rw [← List.map_reverse, List.reverse_reverse]
            conv => lhs; rw [hst]
            rw [List.map_append, List.map_cons]
            rfl
        · cases z
        · cases z
        · cases z
        · cases z
      · cases hinv
    · cases hinv
  case invokestatic ix =>
    simp only [m_inv] at hinv
    split at hinv
    · next kd y0 n w hlk =>
      obtain ⟨⟨hk0, hsum, hn⟩, e1⟩ := m_c_s hinv
      cases e1
      obtain ⟨u1, u2, u3, u4, u5, u6, u7⟩ := m_il_use hlk
      dsimp only at u1 u2 u3 u4 u5 u6 u7
      have hM' := hM u1 u2
      unfold m_Mt at hM'
      have hlen : (((st.take n).reverse).map (m_cv ad)).length = n := by
        rw [List.length_map, List.length_reverse, List.length_take]
        omega
      have hstk : (F0 m pc ls (st.map (m_cv ad))).stack = (((st.take n).reverse).map (m_cv ad)).reverse ++ (st.drop n).map (m_cv ad) := by
        show st.map (m_cv ad) = _
        rw [← List.map_reverse, List.reverse_reverse, ← List.map_append, List.take_append_drop]
      rcases u7 with ⟨z, -⟩ | ⟨-, w1, w2⟩ | ⟨z, -⟩ | ⟨z, w1, w2⟩ | ⟨z, -⟩
      · rcases hk0 with hk0 | hk0 <;> (rw [hk0] at z; cases z)
      · exact va_runS (As := ((st.take n).reverse).map (m_cv ad)) (rest := (st.drop n).map (m_cv ad)) (n := n) (own := m_cn (m_o k)) (index := ix) (nL := m_n k) S hM' (va_cwS n hts (m_GoodS u1 w1 w2 u6) rfl rfl rfl ⟨u3, u4, u5⟩ (m_rm_ok u1 hd)) ⟨m_W0_blind, fun U hU hW => ⟨rfl, m_pre C I hU hW⟩⟩ rfl hlen hl.1 hstk (m_sum_le hsum) hdec hcs
      · rcases hk0 with hk0 | hk0 <;> (rw [hk0] at z; cases z)
      · exact va_runSN (As := ((st.take n).reverse).map (m_cv ad)) (rest := (st.drop n).map (m_cv ad)) (n := n) (own := m_cn (m_o k)) (index := ix) (nL := m_n k) (host := "SnowHut") S hM' ⟨va_cnB n hts (m_words_good _ u1) rfl rfl rfl (C.2.2.2.2.2.1.1 _ w1) (hts _ u6) ⟨u3, u4, u5⟩ (m_rm_ok u1 hd), hts _ w2, trivial⟩ ⟨m_W0_blind, fun U hU hW => ⟨rfl, m_pre C I hU hW⟩⟩ rfl hlen hl.1 hstk (m_sum_le hsum) hdec hcs
      · rcases hk0 with hk0 | hk0 <;> (rw [hk0] at z; cases z)
    · cases hinv
  case invokespecial ix =>
    simp only [m_inv] at hinv
    split at hinv
    · next kd y0 n w hlk =>
      split at hinv
      · next b r0 hdrop =>
        obtain ⟨⟨hk0, hsum, hn⟩, e1⟩ := m_c_s hinv
        cases e1
        obtain ⟨u1, u2, u3, u4, u5, u6, u7⟩ := m_il_use hlk
        dsimp only at u1 u2 u3 u4 u5 u6 u7
        have hst : st = st.take n ++ .ref b :: r := by rw [← hdrop, List.take_append_drop]
        have hM' := hM u1 u2
        unfold m_Mt at hM'
        rw [List.map_cons] at hM'
        have hlen : (((st.take n).reverse).map (m_cv ad)).length = n := by
          rw [List.length_map, List.length_reverse, List.length_take]
          omega
        have hstk : (F0 m pc ls (st.map (m_cv ad))).stack = (((st.take n).reverse).map (m_cv ad)).reverse ++ .ref (ad b) :: r.map (m_cv ad) := by
          show st.map (m_cv ad) = _
          rw [← List.map_reverse, List.reverse_reverse]
          conv => lhs; rw [hst]
          rw [List.map_append, List.map_cons]
          rfl
        rcases u7 with ⟨z, -⟩ | ⟨z, -⟩ | ⟨-, w1, w2, w3, w5⟩ | ⟨z, -⟩ | ⟨-, w1, w2, w3, w5⟩
        · rcases hk0 with hk0 | hk0 <;> (rw [hk0] at z; cases z)
        · rcases hk0 with hk0 | hk0 <;> (rw [hk0] at z; cases z)
        · refine va_runI (b := ad b) (As := ((st.take n).reverse).map (m_cv ad)) (rest := r.map (m_cv ad)) (n := n) (own := m_cn (m_o k)) (index := ix) (nL := m_n k) S hM' (cwI (bytes := m_b y) (ws' := m_tb) n hts (m_words_good _ u1) ?_ rfl rfl (hts _ u6) (hts _ w1) (hts _ w2) w3 ⟨u3, u4, u5⟩ (m_rm_ok u1 hd)) ⟨m_W0_blind, fun U hU hW => ⟨rfl, m_pre C I hU hW⟩⟩ rfl hlen hl.1 hstk (m_sum_le hsum) hdec hcs
          unfold m_words
          rw [w5]
        · rcases hk0 with hk0 | hk0 <;> (rw [hk0] at z; cases z)
        · have hcn := va_cnB (maxL := m_n y) (bytes := m_b y) (ret := m_r y) n hts (m_words_good _ u1) rfl (rm := m_rm d (h1.length - h.length) (m_sl h1 - m_sl h)) rfl rfl (C.2.2.2.2.2.1.1 _ w1) (hts _ u6) ⟨u3, u4, u5⟩ (m_rm_ok u1 hd)
          rw [w5] at hcn
          exact va_runIN (b := ad b) (As := ((st.take n).reverse).map (m_cv ad)) (rest := r.map (m_cv ad)) (n := n) (own := m_cn (m_o k)) (index := ix) (nL := m_n k) (host := "SnowHut") S hM' ⟨hcn, w3, hts _ w2⟩ ⟨m_W0_blind, fun U hU hW => ⟨rfl, m_pre C I hU hW⟩⟩ rfl hlen hl.1 hstk (m_sum_le hsum) hdec hcs
      · cases hinv
    · cases hinv
end MCL
theorem m_BD_all (l : Launch) (X : List Int32) (hX : X.length < 2 ^ 31) : ∀ n, m_BD l X n := by
  intro n
  induction n with
  | zero =>
    intro p e R s m args below meth c Q D dA A ad0 ad N0 S0 d k pc L st h v h' H locs cells slots ls C I hl hR hd hrun RR
    cases hrun
  | succ n ih =>
    intro p e R s m args below meth c Q D dA A ad0 ad N0 S0 d k pc L st h v h' H locs cells slots ls C I hl hR hd hrun RR
    rw [m_run.eq_def] at hrun
    dsimp only at hrun
    split at hrun
    · cases hrun
    · next i len hdec =>
      split at hrun
      · next hlen =>
        rw [hlen] at hdec
        split at hrun
        · next v0 hret =>
          cases hrun
          exact RR i pc st ad H locs cells slots ls (by rw [m_len1 hret] at hdec; exact hdec) hret I
        · split at hrun
          · next y As r hinv =>
            split at hrun
            · cases hrun
            · next d' =>
              split at hrun
              · next hlay =>
                split at hrun
                · next v1 h1 hr1 =>
                  split at hrun
                  · next hok =>
                    have m1 := m_run_h _ _ _ _ _ _ _ _ _ hr1
                    have m2 := m_run_h _ _ _ _ _ _ _ _ _ hrun
                    obtain ⟨-, -, -, i4, i5, -, -⟩ := id I
                    refine m_after C I hl m1 hok (m_call (d := d') C I hl (by omega) hd hdec hinv hlay (fun u1 u2 => m_Mt_of hX ih u1 u2 hlay hr1 H.size)) ?_
                    intro ad1 H1 locs1 cells1 slots1 ls1 I1 hl1
                    exact ih p e R s m args below meth c Q D dA A ad0 ad1 N0 S0 (d' + 1) k (pc + 3) L (m_push v1 r) h1 v h' H1 locs1 cells1 slots1 ls1 C I1 hl1 hR hd hrun RR
                  · cases hrun
                · cases hrun
              · cases hrun
          · split at hrun
            · next q hq =>
              have m2 := m_run_h _ _ _ _ _ _ _ _ _ hrun
              refine m_step_ok C I hl (by omega) hdec hq ?_
              intro ad1 H1 locs1 cells1 slots1 ls1 I1 hl1
              exact ih p e R s m args below meth c Q D dA A ad0 ad1 N0 S0 d k q.1 q.2.1 q.2.2.1 q.2.2.2 v h' H1 locs1 cells1 slots1 ls1 C I1 hl1 hR hd hrun RR
            · cases hrun
      · cases hrun
end
section
/-! FROM THE CLAIM TO THE LITTLE MACHINE: what the Statement gives is what m_BD_all asks; so the claim follows from one run of the little machine. The first rows are the given skeleton's. -/
def R_law : String := "SnowHutLaw"
def lw_P (b : Addr) (xs : List Int32) (args : Array Value) (s : State) : Prop := args = #[.ref b] ∧ s.IntsAt b xs ∧ xs.length ≤ 260 ∧ (Jvm.Cond.and given_1 narrow_1).before args s = true
def lw_Q (_ : Array Value) (s : State) (o : Outcome) (t : State) : Prop := o = .returned (some (.int 1)) ∧ Framed s o t [] 600000 7302250
def lw_Z (below : List Frame) (a : Array Value) (s : State) : State → Prop := fun t => ∃ o, t.status = .running ∧ Ended t below o ∧ lw_Q a s o t
/-- the law's own end, with 1 on the stack, nothing written that was there before, its room as the claim has it -/
theorem lw_ret {p : Program} {l : Launch} {e : Env} {s : State} {m : MethodId} {below : List Frame} {meth : Method} {c : Code} {b : Nat} (hx : p.tables.exec = Jvm.exec) (hb : c.code = code) (hr : meth.sig.returnType = ret) (hlocks : meth.locks = false) {pc : Nat} {H : Heap} {ls : Array Slot} (hdg : decode code pc = .ok (.ireturn, 1)) : W p l e room_1 s m #[Value.ref b] below meth c H [] 600000 7302250 (lw_Z below #[Value.ref b] s) (F0 m pc ls [.int 1]) := by
  intro T hT X
  obtain ⟨fs, hret, hrun, hended, hW, hframe⟩ := X.leave (v := some (.int 1)) (hlocks := hlocks) (fun h => by rw [hr] at h; cases h)
  have hmeth' : T.vm.method? m = some meth := X.method'
  refine ⟨T.setFrames fs, ?_, .returned (some (.int 1)), hrun, hended, rfl, ⟨_, rfl⟩, hW, hframe⟩
  jvm_step X.here [X.here.top, hx, hb, hdg, hmeth', hr, ret, narrow_b1]
  (try refine ⟨rfl, ?_⟩); (try refine ⟨rfl, ?_⟩)
  first | (intro acts; rw [hret _ acts rfl rfl rfl]) | rw [hret _ _ rfl rfl rfl]
  exact Steps.refl _
/-- what holds at the law's entry: the machine, the code, the tables' words (any of lw_tbl by 'hts w (by decide +kernel)'), the script of L ints xs at the cell b, what the Statement gives of the start (any of its parts by flat_of_before) -/
def lw_At (p : Program) (s : State) (m : MethodId) (meth : Method) (c : Code) (b L : Nat) (xs : Nat → Int32) : Prop :=
  p.tables.exec = Jvm.exec ∧ c.code = code ∧ meth.sig.returnType = ret ∧ c.maxLocals = 20 ∧ s.vm.findClass R_law = some m.cls ∧ (∀ w ∈ lw_tbl, w.before #[Value.ref b] s = true) ∧ va_X b L xs s s.heap ∧ b < s.heap.size ∧ meth.locks = false ∧ meth.name = "law" ∧ (Jvm.Cond.and given_1 narrow_1).before #[Value.ref b] s = true
def m_dA (s : State) (t : Nat) : ClassId := match t with
  | 20 => (s.vm.findClass ("[" ++ FieldType.int.toString)).getD 0
  | 21 => (s.vm.findClass ("[" ++ FieldType.long.toString)).getD 0
  | 22 => (s.vm.findClass ("[" ++ FieldType.int.toString)).getD 0
  | 23 => (s.vm.findClass ("[" ++ (FieldType.object "SnowHut$Guest").toString)).getD 0
  | _ => (s.vm.findClass ("[" ++ (FieldType.array .int).toString)).getD 0
theorem m_arr_of {s : State} {cA : ClassId} {kA : Class} {comp : ClassId} {ty : FieldType} (h1 : s.vm.classes[cA]? = some kA) (h2 : kA.kind = .array comp ty) : ArrOfT s cA ty := fun n z => ⟨fun k h => (by cases h), kA, h1, comp, h2⟩
theorem m_ac_arr {s : State} {args : Array Value} {ty : FieldType} (h : (Cond.arrayClass ty).before args s = true) : ArrOfT s ((s.vm.findClass ("[" ++ ty.toString)).getD 0) ty ∧ s.vm.findClass ("[" ++ ty.toString) = some ((s.vm.findClass ("[" ++ ty.toString)).getD 0) := by
  obtain ⟨c, k, comp, h1, h2, h3⟩ := Cond.arrayClass_spec h
  rw [h1]
  exact ⟨m_arr_of h2 h3, rfl⟩
theorem m_K_start {s : State} {args : Array Value} (hts : ∀ w ∈ lw_tbl, w.before args s = true) : ∃ D : va_G, va_K D m_cl (m_tys (m_dA s)) s := by
  have hcl : ∀ k : Nat, ∃ q : ClassId × (Nat → Nat), ∀ c : vw_C, m_cl[k]? = some c → u_Kn s c.1 c.2.1 c.2.2 q.1 q.2 := by
    intro k
    cases hk : m_cl[k]? with
    | none => exact ⟨(0, fun _ => 0), fun c h => by cases h⟩
    | some c =>
      have hm := List.mem_of_getElem? hk
      have h1 := List.all_eq_true.mp m_cl_ok _ hm
      unfold m_clc at h1
      have hws : ∀ w ∈ u_ws c.1 c.2.1 c.2.2, w ∈ lw_tbl := by
        intro w hw
        simp only [Bool.and_eq_true] at h1
        have h2 := List.all_eq_true.mp h1.1 w hw
        simp only [Bool.and_eq_true, decide_eq_true_eq] at h2
        exact h2.1
      have hin : ∃ n, (Cond.instantiable c.1 n) ∈ lw_tbl := by
        have h3 : m_nl.any (fun e => decide ((m_cl[e.2.1]?).map (fun q => q.1) = some c.1)) = true := by
          have h4 : m_cl.all (fun c => m_nl.any (fun e => decide ((m_cl[e.2.1]?).map (fun q => q.1) = some c.1))) = true := by decide +kernel
          exact List.all_eq_true.mp h4 _ hm
        obtain ⟨e, he, h5⟩ := List.any_eq_true.mp h3
        have h6 := List.all_eq_true.mp m_nl_ok _ he
        unfold m_nlc at h6
        rw [decide_eq_true_eq] at h5
        split at h6
        · next C T N hC =>
          rw [hC] at h5
          simp only [Option.map_some, Option.some.injEq] at h5
          simp only [Bool.and_eq_true] at h6
          refine ⟨N, ?_⟩
          have h7 := m_has_mem h6.1.2
          rw [← h5]
          exact (List.mem_filter.mp h7).1
        · cases h6
      obtain ⟨n, hn⟩ := hin
      obtain ⟨cC, iS, hKn⟩ := u_known hts hws (hts _ hn)
      exact ⟨(cC, iS), fun c' h => by cases h; exact hKn⟩
  obtain ⟨f, hf⟩ := Classical.axiomOfChoice hcl
  refine ⟨(fun k => (f k).1, fun k => (f k).2), fun k q hq => hf k q hq, fun k q hq => ?_⟩
  have haw : ∀ w ∈ [Cond.arrayClass .int, .arrayClass .long], w.before args s = true := fun w hw => hts w (by
    have := List.all_eq_true.mp m_aw_ok w hw
    simp only [Bool.and_eq_true, decide_eq_true_eq] at this
    exact this.1)
  have hao : ∀ w ∈ [Cond.arrayOver (.object "SnowHut$Guest"), .arrayOver (.array .int)], w.before args s = true := fun w hw => hts w (by
    have := List.all_eq_true.mp m_ao_ok w hw
    simp only [decide_eq_true_eq] at this
    exact this)
  match k, hq with
  | 0, hq =>
    cases hq
    exact m_ac_arr (haw _ (by simp))
  | 1, hq =>
    cases hq
    exact m_ac_arr (haw _ (by simp))
  | 2, hq =>
    cases hq
    exact m_ac_arr (haw _ (by simp))
  | 3, hq =>
    cases hq
    obtain ⟨comp, c, k, h1, -, h3, h4, h5⟩ := Cond.arrayOver_spec (hao (.arrayOver (.object "SnowHut$Guest")) (by simp))
    have h6 : m_dA s 23 = c := by
      show (s.vm.findClass ("[" ++ (FieldType.object "SnowHut$Guest").toString)).getD 0 = c
      rw [h5]
      rfl
    show ArrOfT s (m_dA s 23) _ ∧ va_RA s (m_dA s 23) _
    rw [h6]
    exact ⟨m_arr_of h3 h4, k, comp, h3, h4, h1, h5⟩
  | 4, hq =>
    cases hq
    obtain ⟨comp, c, k, h1, h3, h4, h5⟩ := Cond.arrayOver_specA (hao (.arrayOver (.array .int)) (by simp))
    have h6 : m_dA s 24 = c := by
      show (s.vm.findClass ("[" ++ (FieldType.array .int).toString)).getD 0 = c
      rw [h5]
      rfl
    show ArrOfT s (m_dA s 24) _ ∧ va_RA s (m_dA s 24) _
    rw [h6]
    exact ⟨m_arr_of h3 h4, h5⟩
  | k + 5, hq => simp [m_tys] at hq
/-- what narrow_1 says of a static array -/
def m_sxw (e : Nat × String × List Int32) : List Cond := .arrayOf (.static "SnowHut" e.2.1 "[I") .int :: .eq (.length (.static "SnowHut" e.2.1 "[I")) (.int (Int32.ofNat e.2.2.length)) :: (List.range e.2.2.length).map (fun j => .eq (.elem (.static "SnowHut" e.2.1 "[I") (.int (Int32.ofNat j))) (.int (e.2.2.getD j 0)))
theorem m_sxw_ok : ∀ e ∈ m_sx, ∀ w ∈ m_sxw e, w ∈ flatC (Jvm.Cond.and given_1 narrow_1) := by
  have h : m_sx.all (fun e => (m_sxw e).all (fun w => decide (w ∈ flatC (Jvm.Cond.and given_1 narrow_1)))) = true := by decide +kernel
  exact fun e he w hw => of_decide_eq_true (List.all_eq_true.mp (List.all_eq_true.mp h e he) w hw)
theorem m_sxt_ok : ∀ e ∈ m_sx, Cond.laysStatic "SnowHut" e.2.1 "[I" ∈ lw_tbl ∧ Cond.initialized "SnowHut" ∈ lw_tbl := by
  have h : m_sx.all (fun e => decide (Cond.laysStatic "SnowHut" e.2.1 "[I" ∈ lw_tbl) && decide (Cond.initialized "SnowHut" ∈ lw_tbl)) = true := by decide +kernel
  intro e he
  have := List.all_eq_true.mp h e he
  simpa only [Bool.and_eq_true, decide_eq_true_eq] using this
theorem m_sx_at {s : State} {args : Array Value} {A : Nat → Prop} (hts : ∀ w ∈ lw_tbl, w.before args s = true) (hgv : (Jvm.Cond.and given_1 narrow_1).before args s = true) (hA : ∀ a : Nat, a < s.heap.size → ¬ A a) (e : Nat × String × List Int32) (he : e ∈ m_sx) :
    ∃ t : Nat, va_Z "SnowHut" e.2.1 "[I" (.ref t) A s s.heap ∧ va_T .int t e.2.2.length (fun j => .int (e.2.2.getD j 0)) A s s.heap := by
  have hs := flat_of_before _ hgv
  have hw := fun w hw => hs w (m_sxw_ok e he w hw)
  have hlen : e.2.2.length < 2 ^ 31 := by
    have h : m_sx.all (fun e => decide (e.2.2.length < 2 ^ 31)) = true := by decide +kernel
    exact of_decide_eq_true (List.all_eq_true.mp h e he)
  obtain ⟨t, ht, hT⟩ := va_Tof (args := args) (f := fun j => .int (e.2.2.getD j 0)) (A := A) hlen (hw _ List.mem_cons_self) (va_eqt (hw _ (List.mem_cons_of_mem _ List.mem_cons_self)))
    (fun j hj => va_eqt (hw _ (List.mem_cons_of_mem _ (List.mem_cons_of_mem _ (List.mem_map.mpr ⟨j, List.mem_range.mpr hj, rfl⟩))))) hA
  exact ⟨t, va_Zof (hts _ (m_sxt_ok e he).1) (hts _ (m_sxt_ok e he).2) ht hA, hT⟩
theorem m_law_facts : m_b m_law = code ∧ m_n m_law = 20 ∧ m_cn (m_o m_law) = R_law ∧ (m_y m_law).name = "law" ∧ m_r m_law = some .boolean := ⟨rfl, rfl, rfl, rfl, rfl⟩
/-- the claim's walk, from one run of the little machine -/
theorem m_start {p : Program} {e : Env} {s : State} {m : MethodId} {below : List Frame} {meth : Method} {c : Code} (l : Launch) {b L : Nat} {xs : Nat → Int32} (hL : L ≤ 260) (C0 : lw_At p s m meth c b L xs) {n d : Nat} {h' : m_H} (hd : d ≤ 10)
    (hrun : m_run ((List.range L).map xs) n d m_law 0 (m_ent m_law [.ref 1000]) [] [] = some (some (.int 1), h')) (hc : h'.length ≤ 600000) (hs : m_sl h' ≤ 7302250) :
    W p l e room_1 s m #[Value.ref b] below meth c s.heap [] 0 0 (lw_Z below #[Value.ref b] s) (entryFrame m ([Value.ref b] : List Value).toArray 20) := by
  obtain ⟨hx, hb, hr, hml, hown, hts, hX, hbl, hlocks, hname, hgv⟩ := id C0
  have hAn : ∀ a : Nat, a < s.heap.size → ¬ (fun q : Nat => s.heap.size ≤ q) a := fun a ha => Nat.not_le.mpr ha
  obtain ⟨D, hK⟩ := m_K_start hts
  have hsx : ∀ e : Nat × String × List Int32, ∃ t : Nat, e ∈ m_sx → va_Z "SnowHut" e.2.1 "[I" (.ref t) (fun q : Nat => s.heap.size ≤ q) s s.heap ∧ va_T .int t e.2.2.length (fun j => .int (e.2.2.getD j 0)) (fun q : Nat => s.heap.size ≤ q) s s.heap := by
    intro e
    by_cases he : e ∈ m_sx
    · obtain ⟨t, ht⟩ := m_sx_at hts hgv hAn e he
      exact ⟨t, fun _ => ht⟩
    · exact ⟨0, fun h => absurd h he⟩
  obtain ⟨f, hf⟩ := Classical.axiomOfChoice hsx
  let ad0 : Nat → Nat := fun a => if a = 1000 then b else match m_sx.find? (fun e => e.1 == a) with
    | some e => f e
    | none => 0
  have had : ∀ e ∈ m_sx, ad0 e.1 = f e := by
    intro e he
    have h9 : m_sx.all (fun e => decide (e.1 ≠ 1000) && decide (m_sx.find? (fun q => q.1 == e.1) = some e)) = true := by decide +kernel
    have := List.all_eq_true.mp h9 e he
    simp only [Bool.and_eq_true, decide_eq_true_eq] at this
    show (if e.1 = 1000 then b else _) = _
    rw [if_neg this.1, this.2]
  have hlen : ((List.range L).map xs).length = L := by rw [List.length_map, List.length_range]
  have hEX : m_EX ((List.range L).map xs) ad0 (fun q : Nat => s.heap.size ≤ q) s s.heap := by
    refine ⟨fun e he => ?_, ?_, hbl, hAn b hbl⟩
    · rw [had e he]
      exact hf e he
    · obtain ⟨scr, g1, g2, g3, g4, g5⟩ := hX
      refine ⟨scr, g1, g2, g3, by rw [hlen]; exact g4, fun j hj => ?_⟩
      rw [hlen] at hj
      rw [g5 j hj]
      simp [List.getD_eq_getElem?_getD, hj]
  have hNW : m_NW s := by
    have hao : ∀ w ∈ [Cond.arrayOver (.object "SnowHut$Guest"), .arrayOver (.array .int)], w ∈ lw_tbl := fun w hw => of_decide_eq_true (List.all_eq_true.mp m_ao_ok w hw)
    refine ⟨fun w hw => ?_, va_AO.of (hts _ (hao _ (by simp))), ?_⟩
    · have h1 : w.before #[Value.ref b] s = true := hts w (of_decide_eq_true (List.all_eq_true.mp m_nw_in w hw))
      rcases m_nw_kinds w hw with ⟨a, i, x, h, rfl⟩ | ⟨a, i, b, n, d, h, rfl⟩ <;> exact h1
    · have h1 : (Cond.arrayOver (.array .int)).before #[Value.ref b] s = true := hts _ (hao _ (by simp))
      exact h1
  obtain ⟨f1, f2, f3, f4, f5⟩ := m_law_facts
  have C : m_C m_law ((List.range L).map xs) p room_1 s m #[Value.ref b] meth c D (m_dA s) (fun q : Nat => s.heap.size ≤ q) ad0 :=
    ⟨hx, hb, hml, by rw [f3]; exact hown, fun w hw => hts w (List.mem_filter.mp hw).1, hNW, hK, fun q hq => hq, hEX, by rw [f4]; exact hname, Nat.le_of_ble_eq_true rfl, Nat.le_of_ble_eq_true rfl, by rw [hlen]; omega⟩
  have I : m_I D (m_dA s) (fun q : Nat => s.heap.size ≤ q) s ad0 ad0 0 0 [] s.heap [] 0 0 :=
    ⟨fun k q hq => (by cases hq), ⟨fun i j p q hp => (by cases hp), fun k q hq => (by cases hq)⟩, va_S.rf, rfl, rfl, fun _ _ => rfl, Nat.zero_le _⟩
  rw [lg_entry_eq]
  have hlo := m_lo_entry (k := m_law) (As := [.ref 1000]) (ad := ad0) (Nat.le_of_ble_eq_true rfl)
  have h1000 : ad0 1000 = b := if_pos rfl
  have harg : [Value.ref 1000].map (m_cv ad0) = [Value.ref b] := by
    show [Value.ref (ad0 1000)] = _
    rw [h1000]
  rw [harg, f2] at hlo
  refine m_BD_all l ((List.range L).map xs) (by rw [hlen]; omega) n p e room_1 s m #[Value.ref b] below meth c (lw_Z below #[Value.ref b] s) D (m_dA s) (fun q : Nat => s.heap.size ≤ q) ad0 ad0 0 0 d m_law 0 (m_ent m_law [.ref 1000]) [] [] (some (.int 1)) h' s.heap [] 0 0 _ C I (by rw [f2]; exact hlo) ⟨by show h'.length ≤ 600000 + 0; omega, by show m_sl h' ≤ 7302250 + 0; omega⟩ ⟨by show d + 1 ≤ 11; omega, by show 38 * (d + 1) ≤ 418; omega⟩ hrun ?_
  intro i pc st ad H locs cells slots ls hdec hret I1
  obtain ⟨-, -, iS, i4, i5, -, -⟩ := I1
  cases i
  all_goals first | (cases hret; done) | skip
  case ireturn =>
    unfold m_ret at hret
    dsimp only at hret
    split at hret
    · split at hret
      · cases hret
        refine va_forget (fun q hq => iS.2.2 q hq) (W.widen (k := 600000) (n := 7302250) (by omega) (by omega) ?_)
        exact lw_ret hx hb hr hlocks hdec
      · cases hret
    · cases hret
  case lreturn =>
    unfold m_ret at hret
    dsimp only at hret
    split at hret
    · split at hret <;> cases hret
    · cases hret
  case areturn =>
    unfold m_ret at hret
    dsimp only at hret
    split at hret
    · split at hret <;> cases hret
    · cases hret
  case return_ =>
    unfold m_ret at hret
    dsimp only at hret
    split at hret
    · split at hret <;> cases hret
    · cases hret
end
section
/-! THE STATE: behind the constructor only the law makes cells; so a heap is a function of its ints (cell, place) -/
abbrev m_St : Type := Int → Int → Int
def vI (a : Int) : Value := .int (Int32.ofInt a)
def vJ (a : Int) : Value := .long (Int64.ofInt a)
def vR (a : Int) : Value := .ref a.toNat
/-- tag of each cell, and its places: 0 an int, 1 a long, r + 2 a reference to r -/
def m_sh : List (Nat × List Nat) := [(5, [3, 12, 19, 25, 40, 68, 76, 78, 0, 0, 1, 1]), (3, [4, 5, 0]), (20, [0, 0, 0, 0, 0, 0]), (24, [6, 7, 8, 9, 10, 11]), (20, List.replicate 40 0), (20, List.replicate 40 0), (20, List.replicate 40 0), (20, List.replicate 40 0), (20, List.replicate 40 0), (20, List.replicate 40 0), (3, [13, 14, 0]), (20, [0, 0, 0, 0]), (24, [15, 16, 17, 18]), (20, List.replicate 60 0), (20, List.replicate 60 0), (20, List.replicate 60 0), (20, List.replicate 60 0), (3, [20, 21, 0]), (20, [0, 0, 0]), (24, [22, 23, 24]), (20, List.replicate 40 0), (20, List.replicate 40 0), (20, List.replicate 40 0), (2, [26, 27, 0, 0, 0, 0, 0]), (23, [28, 30, 32, 34, 36, 38]), (20, List.replicate 60 0), (0, [29, 0, 0]), (20, [0, 0, 0, 0]), (0, [31, 0, 0]), (20, [0, 0, 0, 0]), (0, [33, 0, 0]), (20, [0, 0, 0, 0]), (0, [35, 0, 0]), (20, [0, 0, 0, 0]), (0, [37, 0, 0]), (20, [0, 0, 0, 0]), (0, [39, 0, 0]), (20, [0, 0, 0, 0]), (1, [41, 42, 43, 0, 0, 0, 0, 0, 0, 0]), (23, [44, 48, 52, 56, 60, 64]), (23, [46, 50, 54, 58, 62, 66]), (20, List.replicate 40 0), (0, [45, 0, 0]), (20, [0, 0, 0, 0]), (0, [47, 0, 0]), (20, [0, 0, 0, 0]), (0, [49, 0, 0]), (20, [0, 0, 0, 0]), (0, [51, 0, 0]), (20, [0, 0, 0, 0]), (0, [53, 0, 0]), (20, [0, 0, 0, 0]), (0, [55, 0, 0]), (20, [0, 0, 0, 0]), (0, [57, 0, 0]), (20, [0, 0, 0, 0]), (0, [59, 0, 0]), (20, [0, 0, 0, 0]), (0, [61, 0, 0]), (20, [0, 0, 0, 0]), (0, [63, 0, 0]), (20, [0, 0, 0, 0]), (0, [65, 0, 0]), (20, [0, 0, 0, 0]), (0, [67, 0, 0]), (20, [0, 0, 0, 0]), (4, [69, 71, 0, 73, 0, 1, 0, 74, 0, 0, 75]), (0, [70, 0, 0]), (20, [0, 0, 0, 0]), (0, [72, 0, 0]), (20, [0, 0, 0, 0]), (20, [0, 0, 0, 0, 0]), (20, [0, 0, 0, 0, 0, 0]), (21, List.replicate 16 1), (0, [77, 0, 0]), (20, [0, 0, 0, 0]), (20, [0, 0, 0, 0, 0, 0])]
def m_mkv (s : m_St) (c j k : Nat) : Value := if k = 0 then vI (s c j) else if k = 1 then vJ (s c j) else .ref (k - 2)
/-- the law's own arrays -/
def m_shx : List (Nat × List Nat) := [(20, List.replicate 12 0), (20, List.replicate 30 0), (20, List.replicate 2 0), (20, List.replicate 30 0)]
def m_shG (G : Nat) : List (Nat × List Nat) := m_sh ++ m_shx.take G
def m_mk (G : Nat) (s : m_St) : m_H := (m_shG G).mapIdx fun c e => (e.1, e.2.mapIdx fun j k => m_mkv s c j k)
def m_upd (s : m_St) (c j v : Int) : m_St := fun a i => if a = c ∧ i = j then v else s a i
def m_i0 : List ((Nat × Nat) × Int) := [((0, 11), 1), ((1, 2), 40), ((2, 0), -1), ((2, 1), -1), ((2, 2), -1), ((2, 3), -1), ((2, 4), -1), ((2, 5), -1), ((10, 2), 60), ((11, 0), -1), ((11, 1), -1), ((11, 2), -1), ((11, 3), -1), ((17, 2), 40), ((18, 0), -1), ((18, 1), -1), ((18, 2), -1), ((38, 7), -1), ((38, 8), -1)]
def m_s0 : m_St := fun c j => (m_i0.lookup (c.toNat, j.toNat)).getD 0
/-- tag, length, kind of a place -/
def ty (a : Int) : Nat := if a < 0 then 99 else ((m_sh[a.toNat]?).map (fun e => e.1)).getD 99
def ln (a : Int) : Int := ((m_sh[a.toNat]?).map (fun e => (e.2.length : Int))).getD 0
def kd (a j : Int) : Nat := ((m_sh[a.toNat]?).bind (fun e => e.2[j.toNat]?)).getD 999
/-- to which cell a place of references refers -/
def rf (a j : Int) : Int := ((kd a j : Nat) : Int) - 2
theorem m_mk_len {G : Nat} (s : m_St) : (m_mk G s).length = m_sh.length + (m_shx.take G).length := by unfold m_mk m_shG; rw [List.length_mapIdx, List.length_append]
theorem shG_at {G i : Nat} {e : Nat × List Nat} (h : m_sh[i]? = some e) : (m_shG G)[i]? = some e := by
  unfold m_shG
  rw [List.getElem?_append_left (List.getElem?_eq_some_iff.mp h).1, h]
theorem m_ty_lt {a : Int} {t : Nat} (h : ty a = t) (ht : t < 99) : 0 ≤ a ∧ ∃ e, m_sh[a.toNat]? = some e ∧ e.1 = t := by
  unfold ty at h
  split at h
  · omega
  · cases hc : m_sh[a.toNat]? with
    | none => rw [hc] at h; simp at h; omega
    | some e => rw [hc] at h; exact ⟨by omega, e, rfl, h⟩
theorem m_mk_at {G : Nat} {s : m_St} {a : Int} {t : Nat} (h : ty a = t) (ht : t < 99) : ∃ e, m_sh[a.toNat]? = some e ∧ e.1 = t ∧ ln a = e.2.length ∧ (m_mk G s)[a.toNat]? = some (t, e.2.mapIdx fun j k => m_mkv s a.toNat j k) ∧ ((a.toNat : Nat) : Int) = a := by
  obtain ⟨h0, e, he, h1⟩ := m_ty_lt h ht
  refine ⟨e, he, h1, ?_, ?_, Int.toNat_of_nonneg h0⟩
  · unfold ln; rw [he]; rfl
  · unfold m_mk; rw [List.getElem?_mapIdx, shG_at he, ← h1]; rfl
theorem m_sh_ints : ∀ e ∈ m_sh, (e.1 = 20 ∨ e.1 = 22 → ∀ k ∈ e.2, k = 0) ∧ (e.1 = 21 → ∀ k ∈ e.2, k = 1) ∧ (e.1 = 23 ∨ e.1 = 24 → ∀ k ∈ e.2, 2 ≤ k) ∧ e.2.length < 1000 := by
  have h : m_sh.all (fun e => (decide (¬ (e.1 = 20 ∨ e.1 = 22)) || e.2.all (fun k => decide (k = 0))) && (decide (¬ e.1 = 21) || e.2.all (fun k => decide (k = 1))) && (decide (¬ (e.1 = 23 ∨ e.1 = 24)) || e.2.all (fun k => decide (2 ≤ k))) && decide (e.2.length < 1000)) = true := by decide +kernel
  intro e he
  have h1 := List.all_eq_true.mp h e he
  simp only [Bool.and_eq_true, Bool.or_eq_true, decide_eq_true_eq, List.all_eq_true] at h1
  obtain ⟨⟨⟨g1, g2⟩, g3⟩, g4⟩ := h1
  exact ⟨fun q k hk => g1.elim (fun z => absurd q z) (fun z => z k hk), fun q k hk => g2.elim (fun z => absurd q z) (fun z => z k hk), fun q k hk => g3.elim (fun z => absurd q z) (fun z => z k hk), g4⟩
theorem m_mk_updG {G : Nat} {s : m_St} {a j v : Int} {e : Nat × List Nat} (he : (m_shG G)[a.toNat]? = some e) (ha : 0 ≤ a) (hj : 0 ≤ j) {w : Value} {k : Nat} (hk : e.2[j.toNat]? = some k) (hw : m_mkv (m_upd s a j v) a.toNat j.toNat k = w) :
    m_mk G (m_upd s a j v) = (m_mk G s).set a.toNat (e.1, (e.2.mapIdx fun i k => m_mkv s a.toNat i k).set j.toNat w) := by
  apply List.ext_getElem?
  intro i
  unfold m_mk
  rw [List.getElem?_mapIdx, List.getElem?_set, List.length_mapIdx, List.getElem?_mapIdx]
  by_cases hi : a.toNat = i
  · subst hi
    rw [if_pos rfl, he, if_pos (List.getElem?_eq_some_iff.mp he).1]
    rw [Option.map_some]
    congr 1
    refine Prod.ext rfl ?_
    apply List.ext_getElem?
    intro n
    show (e.2.mapIdx _)[n]? = _
    rw [List.getElem?_mapIdx, List.getElem?_set, List.length_mapIdx, List.getElem?_mapIdx]
    by_cases hn : j.toNat = n
    · subst hn
      rw [if_pos rfl, hk, if_pos (List.getElem?_eq_some_iff.mp hk).1, Option.map_some, hw]
    · rw [if_neg hn]
      cases hen : e.2[n]? with
      | none => rfl
      | some k =>
        rw [Option.map_some, Option.map_some]
        have : m_upd s a j v (a.toNat : Int) (n : Int) = s (a.toNat : Int) (n : Int) := by
          unfold m_upd
          rw [if_neg (by omega)]
        unfold m_mkv
        rw [this]
  · rw [if_neg hi]
    cases hen : (m_shG G)[i]? with
    | none => rfl
    | some q =>
      rw [Option.map_some, Option.map_some]
      have : ∀ z : Int, m_upd s a j v (i : Int) z = s (i : Int) z := fun z => by
        unfold m_upd
        rw [if_neg (by omega)]
      unfold m_mkv
      simp only [this]
theorem m_mk_upd {G : Nat} {s : m_St} {a j v : Int} {e : Nat × List Nat} (he : m_sh[a.toNat]? = some e) (ha : 0 ≤ a) (hj : 0 ≤ j) {w : Value} {k : Nat} (hk : e.2[j.toNat]? = some k) (hw : m_mkv (m_upd s a j v) a.toNat j.toNat k = w) :
    m_mk G (m_upd s a j v) = (m_mk G s).set a.toNat (e.1, (e.2.mapIdx fun i k => m_mkv s a.toNat i k).set j.toNat w) := m_mk_updG (shG_at he) ha hj hk hw
-- ===== more steps, deeper: the same end =====
theorem m_run_up {X : List Int32} : ∀ (n d k pc : Nat) (L : m_L) (st : List Value) (h : m_H) (r : Option Value × m_H), m_run X n d k pc L st h = some r → ∀ n' d' : Nat, n ≤ n' → d ≤ d' → m_run X n' d' k pc L st h = some r := by
  intro n
  induction n with
  | zero => intro d k pc L st h r e; cases e
  | succ n ih =>
    intro d k pc L st h r e n' d' hn hd
    obtain ⟨n', rfl⟩ : ∃ z, n' = z + 1 := ⟨n' - 1, by omega⟩
    rw [m_run.eq_def] at e ⊢
    dsimp only at e ⊢
    split at e
    · cases e
    · next i len hdec =>
      try rw [hdec]
      try dsimp only
      split at e
      · next hlen =>
        try rw [if_pos hlen]
        split at e
        · next v hv =>
          try rw [hv]
          exact e
        · next hv =>
          try rw [hv]
          try dsimp only
          split at e
          · next y As q hi =>
            try rw [hi]
            try dsimp only
            split at e
            · cases e
            · next d0 =>
              obtain ⟨d', rfl⟩ : ∃ z, d' = z + 1 := ⟨d' - 1, by omega⟩
              try dsimp only
              split at e
              · next hl =>
                try rw [if_pos hl]
                split at e
                · next v1 h1 hr =>
                  rw [ih _ _ _ _ _ _ _ hr n' d' (by omega) (by omega)]
                  dsimp only
                  split at e
                  · next hok =>
                    rw [if_pos hok]
                    exact ih _ _ _ _ _ _ _ e n' (d' + 1) (by omega) (by omega)
                  · cases e
                · cases e
              · cases e
          · next hi =>
            try rw [hi]
            try dsimp only
            split at e
            · next q hq =>
              try rw [hq]
              exact ih _ _ _ _ _ _ _ e n' d' (by omega) hd
            · cases e
      · cases e
/-- the script, and how many arrays of the law's own are there -/
abbrev m_X : Type := List Int32 × Nat
/-- the method k, at its place pc, comes to its end with an answer and a state of which P holds -/
def Rn (X : m_X) (d k pc : Nat) (L : m_L) (st : List Value) (s : m_St) (P : Option Value → m_St → Prop) : Prop := ∃ n v s', (∃ G, m_run X.1 n d k pc L st (m_mk X.2 s) = some (v, m_mk G s') ∧ (k < m_law → G = X.2)) ∧ P v s'
def Cl (X : m_X) (d k : Nat) (As : List Value) (s : m_St) (P : Option Value → m_St → Prop) : Prop := Rn X d k 0 (m_ent k As) [] s P
theorem Rn.up {X : m_X} {d d' k pc : Nat} {L : m_L} {st : List Value} {s : m_St} {P : Option Value → m_St → Prop} (h : Rn X d k pc L st s P) (hd : d ≤ d') : Rn X d' k pc L st s P := by
  obtain ⟨n, v, s', ⟨G, h1, hG⟩, h2⟩ := h
  exact ⟨n, v, s', ⟨G, m_run_up _ _ _ _ _ _ _ _ h1 n d' (Nat.le_refl n) hd, hG⟩, h2⟩
theorem Cl.up {X : m_X} {d d' k : Nat} {As : List Value} {s : m_St} {P : Option Value → m_St → Prop} (h : Cl X d k As s P) (hd : d ≤ d') : Cl X d' k As s P := Rn.up h hd
theorem Rn.mono {X : m_X} {d k pc : Nat} {L : m_L} {st : List Value} {s : m_St} {P Q : Option Value → m_St → Prop} (h : Rn X d k pc L st s P) (hPQ : ∀ v s, P v s → Q v s) : Rn X d k pc L st s Q := by
  obtain ⟨n, v, s', h1, h2⟩ := h
  exact ⟨n, v, s', h1, hPQ _ _ h2⟩
theorem Cl.mono {X : m_X} {d k : Nat} {As : List Value} {s : m_St} {P Q : Option Value → m_St → Prop} (h : Cl X d k As s P) (hPQ : ∀ v s, P v s → Q v s) : Cl X d k As s Q := Rn.mono h hPQ
end
section
/-! RULES: what a run of the little machine is owed at each instruction, in whole numbers -/
abbrev inR (a : Int) : Prop := -2147483648 ≤ a ∧ a < 2147483648
abbrev inJ (a : Int) : Prop := -9223372036854775808 ≤ a ∧ a < 9223372036854775808
def F (k pc : Nat) (i : Instr) (q : Nat) : Prop := ∃ l, decode (m_b k) pc = .ok (i, l) ∧ l = m_ln i l ∧ q = pc + l
theorem F.at {k pc q c : Nat} {i : Instr} (f : F k pc i q) (h : ∀ l, m_ln i l = c) : q = pc + c := by
  obtain ⟨l, -, h2, h3⟩ := f
  rw [h] at h2
  omega
-- ----- numbers -----
theorem oI_toInt {a : Int} (h : inR a) : (Int32.ofInt a).toInt = a := Int32.toInt_ofInt_of_le h.1 h.2
theorem oJ_toInt {a : Int} (h : inJ a) : (Int64.ofInt a).toInt = a := Int64.toInt_ofInt_of_le h.1 h.2
theorem oI_lt {a b : Int} (ha : inR a) (hb : inR b) : Int32.ofInt a < Int32.ofInt b ↔ a < b := by rw [Int32.lt_iff_toInt_lt, oI_toInt ha, oI_toInt hb]
theorem oI_le {a b : Int} (ha : inR a) (hb : inR b) : Int32.ofInt a ≤ Int32.ofInt b ↔ a ≤ b := by rw [Int32.le_iff_toInt_le, oI_toInt ha, oI_toInt hb]
theorem oI_eq {a b : Int} (ha : inR a) (hb : inR b) : Int32.ofInt a = Int32.ofInt b ↔ a = b := by rw [← Int32.toInt_inj, oI_toInt ha, oI_toInt hb]
theorem oJ_eq {a b : Int} (ha : inJ a) (hb : inJ b) : Int64.ofInt a = Int64.ofInt b ↔ a = b := by rw [← Int64.toInt_inj, oJ_toInt ha, oJ_toInt hb]
theorem oI_0 : Int32.ofInt 0 = 0 := rfl
theorem oJ_0 : Int64.ofInt 0 = 0 := rfl
theorem inR_0 : inR 0 := by decide
theorem inJ_0 : inJ 0 := by decide
theorem oI_ix {i n : Int} (h0 : 0 ≤ i) (h1 : i < n) (hn : n ≤ 2147483648) : ¬ (Int32.ofInt i < 0 ∨ n.toNat ≤ (Int32.ofInt i).toNatClampNeg) ∧ (Int32.ofInt i).toNatClampNeg = i.toNat := by
  have hr : inR i := ⟨by omega, by omega⟩
  have h2 : (Int32.ofInt i).toNatClampNeg = i.toNat := Int32.toNatClampNeg_ofInt_of_le hr.1 hr.2
  refine ⟨?_, h2⟩
  rw [h2, ← oI_0, oI_lt hr inR_0]
  omega
def iAnd (a b : Int) : Int := (Int32.ofInt a &&& Int32.ofInt b).toInt
def iOr (a b : Int) : Int := (Int32.ofInt a ||| Int32.ofInt b).toInt
def iXor (a b : Int) : Int := (Int32.ofInt a ^^^ Int32.ofInt b).toInt
def iShl (a b : Int) : Int := (Int32.ofInt a <<< (Int32.ofInt b &&& 31)).toInt
def iShr (a b : Int) : Int := (Int32.ofInt a >>> (Int32.ofInt b &&& 31)).toInt
def iUshr (a b : Int) : Int := ((Int32.ofInt a).toUInt32 >>> ((Int32.ofInt b).toUInt32 &&& Int32.toUInt32 31)).toInt32.toInt
def i2B (a : Int) : Int := (Int32.ofInt a).toInt8.toInt32.toInt
def cmpJ (a b : Int) : Int := (lg_cmp (Int64.ofInt a) (Int64.ofInt b)).toInt
theorem vI_toInt (x : Int32) : vI x.toInt = .int x := by unfold vI; rw [Int32.ofInt_toInt]
theorem inR_toInt (x : Int32) : inR x.toInt := ⟨Int32.le_toInt x, Int32.toInt_lt x⟩
theorem inR_cmpJ (a b : Int) : inR (cmpJ a b) := inR_toInt _
theorem inR_iAnd (a b : Int) : inR (iAnd a b) := inR_toInt _
theorem inR_iOr (a b : Int) : inR (iOr a b) := inR_toInt _
theorem inR_iXor (a b : Int) : inR (iXor a b) := inR_toInt _
theorem inR_iShl (a b : Int) : inR (iShl a b) := inR_toInt _
theorem inR_iShr (a b : Int) : inR (iShr a b) := inR_toInt _
theorem inR_iUshr (a b : Int) : inR (iUshr a b) := inR_toInt _
theorem inR_i2B (a : Int) : inR (i2B a) := inR_toInt _
theorem w_iald {X : List Int32} {k pc a : Nat} {L : m_L} {st : List Value} {h : m_H} {x : Int32} (ha : ¬ 1000 ≤ a) : m_sB X k .iaload pc L (.int x :: .ref a :: st) h = m_rd h 20 a x fun v => m_vi v fun x => some (pc + 1, L, .int x :: st, h) := if_neg ha
theorem w_lald {X : List Int32} {k pc a : Nat} {L : m_L} {st : List Value} {h : m_H} {x : Int32} : m_sB X k .laload pc L (.int x :: .ref a :: st) h = m_rd h 21 a x fun v => m_vj v fun x => some (pc + 1, L, .long x :: st, h) := rfl
theorem w_aald {X : List Int32} {k pc a t : Nat} {L : m_L} {st : List Value} {h : m_H} {x : Int32} {vs : List Value} (hh : h[a]? = some (t, vs)) (ht : t = 23 ∨ t = 24) : m_sB X k .aaload pc L (.int x :: .ref a :: st) h = m_rd h t a x fun v => m_vr v fun x => some (pc + 1, L, .ref x :: st, h) := by
  rcases ht with rfl | rfl
  · refine (if_pos (by rw [hh]; rfl) : (if (h[a]?).map (fun c => c.1) = some 23 then (m_rd h 23 a x fun v => m_vr v fun x => some (pc + 1, L, .ref x :: st, h)) else _) = _)
  · refine (if_neg (by rw [hh]; simp) : (if (h[a]?).map (fun c => c.1) = some 23 then (m_rd h 23 a x fun v => m_vr v fun x => some (pc + 1, L, .ref x :: st, h)) else _) = _)
theorem w_iast {X : List Int32} {k pc a : Nat} {L : m_L} {st : List Value} {h : m_H} {x z : Int32} : m_sB X k .iastore pc L (.int z :: .int x :: .ref a :: st) h = m_wr h 20 a x (.int z) fun h' => some (pc + 1, L, st, h') := rfl
theorem w_last {X : List Int32} {k pc a : Nat} {L : m_L} {st : List Value} {h : m_H} {x : Int32} {z : Int64} : m_sB X k .lastore pc L (.long z :: .int x :: .ref a :: st) h = m_wr h 21 a x (.long z) fun h' => some (pc + 1, L, st, h') := rfl
theorem w_alen {X : List Int32} {k pc a t : Nat} {L : m_L} {st : List Value} {h : m_H} {vs : List Value} (ha : ¬ a = 1000) (hh : h[a]? = some (t, vs)) (ht : 20 ≤ t ∧ t ≤ 24) : m_sB X k .arraylength pc L (.ref a :: st) h = some (pc + 1, L, .int (Int32.ofNat vs.length) :: st, h) := by
  refine (if_neg ha).trans ?_
  rw [hh]
  exact m_c_t ht
theorem w_alenX {X : List Int32} {k pc : Nat} {L : m_L} {st : List Value} {h : m_H} : m_sB X k .arraylength pc L (.ref 1000 :: st) h = some (pc + 1, L, .int (Int32.ofNat X.length) :: st, h) := rfl
theorem w_ialS {X : List Int32} {k pc a : Nat} {L : m_L} {st : List Value} {h : m_H} {x : Int32} {l : List Int32} (ha : 1000 ≤ a) (hl : m_ex X a = some l) (hx : ¬ (x < 0 ∨ l.length ≤ x.toNatClampNeg)) : m_sB X k .iaload pc L (.int x :: .ref a :: st) h = some (pc + 1, L, .int (l.getD x.toNatClampNeg 0) :: st, h) := by
  refine (if_pos ha).trans ?_
  rw [hl]
  exact m_c_t hx
theorem w_mmax {k ix pc : Nat} {L : m_L} {st : List Value} {h : m_H} {x y : Int32} {w : Nat} (hl : m_mm.lookup (m_o k, ix) = some (0, w)) (hr : m_sum st ≤ 8) : m_sC k (.invokestatic ix) pc L (.int y :: .int x :: st) h = some (pc + 3, L, .int (if x < y then y else x) :: st, h) := by
  unfold m_sC
  dsimp only
  rw [hl]
  exact m_c_t hr
theorem w_mmin {k ix pc : Nat} {L : m_L} {st : List Value} {h : m_H} {x y : Int32} {w : Nat} (hl : m_mm.lookup (m_o k, ix) = some (1, w)) (hr : m_sum st ≤ 8) : m_sC k (.invokestatic ix) pc L (.int y :: .int x :: st) h = some (pc + 3, L, .int (if y < x then y else x) :: st, h) := by
  unfold m_sC
  dsimp only
  rw [hl]
  exact m_c_t hr
theorem w_acopy {k ix pc a b : Nat} {L : m_L} {st : List Value} {h : m_H} {n dp sp : Int32} {c0 c1 : Nat × List Value} (hl : m_mm.lookup (m_o k, ix) = none) (h0 : h[a]? = some c0) (h1 : h[b]? = some c1) (hc : (m_ac.lookup (m_o k, ix)).isSome = true ∧ m_sum st ≤ 8 ∧ c0.1 = 20 ∧ c1.1 = 20 ∧ ¬ sp < 0 ∧ ¬ dp < 0 ∧ ¬ n < 0 ∧ sp.toNatClampNeg + n.toNatClampNeg ≤ c0.2.length ∧ dp.toNatClampNeg + n.toNatClampNeg ≤ c1.2.length) :
    m_sC k (.invokestatic ix) pc L (.int n :: .int dp :: .ref b :: .int sp :: .ref a :: st) h = some (pc + 3, L, st, h.set b (20, (List.range c1.2.length).map (fun j => if dp.toNatClampNeg ≤ j ∧ j < dp.toNatClampNeg + n.toNatClampNeg then c0.2.getD (sp.toNatClampNeg + (j - dp.toNatClampNeg)) .null else c1.2.getD j .null))) := by
  unfold m_sC
  dsimp only
  rw [hl]
  dsimp only
  rw [h0, h1]
  exact m_c_t hc
section RUL
variable {X : m_X} {d k pc q t o ix y n c j w : Nat} {L L' : m_L} {st r : List Value} {s : m_St} {P : Option Value → m_St → Prop} {a b i e J : Int} {v : Value} {A : List Value} {off : Int} {cc : ClassFile.Cond}
theorem Rn_S {i : Instr} {pc' : Nat} {st' : List Value} {s' : m_St} (f : F k pc i q) (h1 : m_ret k i st = none) (h2 : m_inv k i st (m_mk X.2 s) = none) (h3 : m_step X.1 k i pc L st (m_mk X.2 s) = some (pc', L', st', m_mk X.2 s')) (kk : Rn X d k pc' L' st' s' P) : Rn X d k pc L st s P := by
  obtain ⟨n, v, s2, ⟨G, hr, hG⟩, hP⟩ := kk
  obtain ⟨l, f1, f2, f3⟩ := f
  refine ⟨n + 1, v, s2, ⟨G, ?_, hG⟩, hP⟩
  rw [m_run.eq_def]
  dsimp only
  rw [f1]
  dsimp only
  rw [if_pos f2, h1]
  dsimp only
  rw [h2]
  dsimp only
  rw [h3]
  dsimp only
  exact hr
theorem Rn_A {i : Instr} {pc' : Nat} {st' : List Value} (f : F k pc i q) (h1 : m_ret k i st = none) (h2 : m_inv k i st (m_mk X.2 s) = none) (h3 : m_sA k i pc L st (m_mk X.2 s) = some (pc', L', st', m_mk X.2 s)) (kk : Rn X d k pc' L' st' s P) : Rn X d k pc L st s P :=
  Rn_S f h1 h2 (by unfold m_step; rw [h3]) kk
theorem Rn_B {i : Instr} {pc' : Nat} {st' : List Value} {s' : m_St} (f : F k pc i q) (h1 : m_ret k i st = none) (h2 : m_inv k i st (m_mk X.2 s) = none) (h0 : m_sA k i pc L st (m_mk X.2 s) = none) (h3 : m_sB X.1 k i pc L st (m_mk X.2 s) = some (pc', L', st', m_mk X.2 s')) (kk : Rn X d k pc' L' st' s' P) : Rn X d k pc L st s P :=
  Rn_S f h1 h2 (by unfold m_step; rw [h0]; dsimp only; rw [h3]) kk
-- constants, locals, stack
theorem r_iconst {z : Int} (f : F k pc (.iconst z) q) (kk : Rn X d k q L (vI z :: st) s P) : Rn X d k pc L st s P := by
  obtain rfl := f.at (c := 1) fun _ => rfl
  exact Rn_A f rfl rfl rfl kk
theorem r_bipush {z : Int} (f : F k pc (.bipush z) q) (hz : (Int8.ofInt z).toInt32 = Int32.ofInt z) (kk : Rn X d k q L (vI z :: st) s P) : Rn X d k pc L st s P := by
  obtain rfl := f.at (c := 2) fun _ => rfl
  refine Rn_A f rfl rfl ?_ kk
  show some (pc + 2, L, Value.int (Int8.ofInt z).toInt32 :: st, m_mk X.2 s) = _
  rw [hz]
  rfl
theorem r_sipush {z : Int} (f : F k pc (.sipush z) q) (hz : (Int16.ofInt z).toInt32 = Int32.ofInt z) (kk : Rn X d k q L (vI z :: st) s P) : Rn X d k pc L st s P := by
  obtain rfl := f.at (c := 3) fun _ => rfl
  refine Rn_A f rfl rfl ?_ kk
  show some (pc + 3, L, Value.int (Int16.ofInt z).toInt32 :: st, m_mk X.2 s) = _
  rw [hz]
  rfl
theorem r_ldcI {e0 : Int32 × Nat} (f : F k pc (.ldc_w ix) q) (ho : m_o k = o) (hl : m_k32.lookup (o, ix) = some e0) (hz : e0.1 = Int32.ofInt e) (kk : Rn X d k q L (vI e :: st) s P) : Rn X d k pc L st s P := by
  obtain rfl := f.at (c := 3) fun _ => rfl
  subst ho
  refine Rn_A f rfl rfl ?_ kk
  unfold m_sA
  dsimp only
  rw [hl]
  dsimp only
  rw [hz]
  rfl
theorem r_ldcJ {e0 : Int64 × Nat} (f : F k pc (.ldc2_w ix) q) (ho : m_o k = o) (hl : m_k64.lookup (o, ix) = some e0) (hz : e0.1 = Int64.ofInt e) (kk : Rn X d k q L (vJ e :: st) s P) : Rn X d k pc L st s P := by
  obtain rfl := f.at (c := 3) fun _ => rfl
  subst ho
  refine Rn_A f rfl rfl ?_ kk
  unfold m_sA
  dsimp only
  rw [hl]
  dsimp only
  rw [hz]
  rfl
theorem r_ldI_n {m : Fin 4} (f : F k pc (.iload_n m) q) (hL : L[(m : Nat)]? = some (some (vI a))) (kk : Rn X d k q L (vI a :: st) s P) : Rn X d k pc L st s P := by
  obtain rfl := f.at (c := 1) fun _ => rfl
  refine Rn_A f rfl rfl ?_ kk
  unfold m_sA m_ldi
  dsimp only
  rw [hL]
  rfl
theorem r_ldI {m : Nat} (f : F k pc (.iload m) q) (hL : L[m]? = some (some (vI a))) (kk : Rn X d k q L (vI a :: st) s P) : Rn X d k pc L st s P := by
  obtain rfl := f.at (c := 2) fun _ => rfl
  refine Rn_A f rfl rfl ?_ kk
  unfold m_sA m_ldi
  dsimp only
  rw [hL]
  rfl
theorem r_ldJ_n {m : Fin 4} (f : F k pc (.lload_n m) q) (hL : L[(m : Nat)]? = some (some (vJ a))) (kk : Rn X d k q L (vJ a :: st) s P) : Rn X d k pc L st s P := by
  obtain rfl := f.at (c := 1) fun _ => rfl
  refine Rn_A f rfl rfl ?_ kk
  unfold m_sA m_ldj
  dsimp only
  rw [hL]
  rfl
theorem r_ldJ {m : Nat} (f : F k pc (.lload m) q) (hL : L[m]? = some (some (vJ a))) (kk : Rn X d k q L (vJ a :: st) s P) : Rn X d k pc L st s P := by
  obtain rfl := f.at (c := 2) fun _ => rfl
  refine Rn_A f rfl rfl ?_ kk
  unfold m_sA m_ldj
  dsimp only
  rw [hL]
  rfl
theorem r_ldR_n {m : Fin 4} (f : F k pc (.aload_n m) q) (hL : L[(m : Nat)]? = some (some (vR a))) (kk : Rn X d k q L (vR a :: st) s P) : Rn X d k pc L st s P := by
  obtain rfl := f.at (c := 1) fun _ => rfl
  refine Rn_A f rfl rfl ?_ kk
  unfold m_sA m_lda
  dsimp only
  rw [hL]
  rfl
theorem r_ldR {m : Nat} (f : F k pc (.aload m) q) (hL : L[m]? = some (some (vR a))) (kk : Rn X d k q L (vR a :: st) s P) : Rn X d k pc L st s P := by
  obtain rfl := f.at (c := 2) fun _ => rfl
  refine Rn_A f rfl rfl ?_ kk
  unfold m_sA m_lda
  dsimp only
  rw [hL]
  rfl
theorem r_stI_n {m : Fin 4} (f : F k pc (.istore_n m) q) (hm : Nat.blt (m : Nat) L.length = true) (hL : m_st1 L (m : Nat) (vI a) = L') (kk : Rn X d k q L' st s P) : Rn X d k pc L (vI a :: st) s P := by
  obtain rfl := f.at (c := 1) fun _ => rfl
  subst hL
  refine Rn_A f rfl rfl ?_ kk
  exact m_c_t (Nat.le_of_ble_eq_true hm)
theorem r_stI {m : Nat} (f : F k pc (.istore m) q) (hm : Nat.blt m L.length = true) (hL : m_st1 L m (vI a) = L') (kk : Rn X d k q L' st s P) : Rn X d k pc L (vI a :: st) s P := by
  obtain rfl := f.at (c := 2) fun _ => rfl
  subst hL
  refine Rn_A f rfl rfl ?_ kk
  exact m_c_t (Nat.le_of_ble_eq_true hm)
theorem r_stJ_n {m : Fin 4} (f : F k pc (.lstore_n m) q) (hm : Nat.blt ((m : Nat) + 1) L.length = true) (hL : m_st2 L (m : Nat) (vJ a) = L') (kk : Rn X d k q L' st s P) : Rn X d k pc L (vJ a :: st) s P := by
  obtain rfl := f.at (c := 1) fun _ => rfl
  subst hL
  refine Rn_A f rfl rfl ?_ kk
  exact m_c_t (Nat.le_of_ble_eq_true hm)
theorem r_stJ {m : Nat} (f : F k pc (.lstore m) q) (hm : Nat.blt (m + 1) L.length = true) (hL : m_st2 L m (vJ a) = L') (kk : Rn X d k q L' st s P) : Rn X d k pc L (vJ a :: st) s P := by
  obtain rfl := f.at (c := 2) fun _ => rfl
  subst hL
  refine Rn_A f rfl rfl ?_ kk
  exact m_c_t (Nat.le_of_ble_eq_true hm)
theorem r_stR_n {m : Fin 4} (f : F k pc (.astore_n m) q) (hm : Nat.blt (m : Nat) L.length = true) (hL : m_st1 L (m : Nat) (vR a) = L') (kk : Rn X d k q L' st s P) : Rn X d k pc L (vR a :: st) s P := by
  obtain rfl := f.at (c := 1) fun _ => rfl
  subst hL
  refine Rn_A f rfl rfl ?_ kk
  exact m_c_t (Nat.le_of_ble_eq_true hm)
theorem r_stR {m : Nat} (f : F k pc (.astore m) q) (hm : Nat.blt m L.length = true) (hL : m_st1 L m (vR a) = L') (kk : Rn X d k q L' st s P) : Rn X d k pc L (vR a :: st) s P := by
  obtain rfl := f.at (c := 2) fun _ => rfl
  subst hL
  refine Rn_A f rfl rfl ?_ kk
  exact m_c_t (Nat.le_of_ble_eq_true hm)
theorem r_iinc {m : Nat} {z : Int} (f : F k pc (.iinc m z) q) (hL0 : L[m]? = some (some (vI a))) (hm : Nat.blt m L.length = true) (he : a + z = e) (hL : m_st1 L m (vI e) = L') (kk : Rn X d k q L' st s P) : Rn X d k pc L st s P := by
  obtain rfl := f.at (c := 3) fun _ => rfl
  subst hL he
  refine Rn_A f rfl rfl ?_ kk
  unfold m_sA m_ldi
  dsimp only
  rw [hL0]
  show m_c _ (some (pc + 3, m_st1 L m (.int (Int32.ofInt a + Int32.ofInt z)), st, m_mk X.2 s)) = _
  rw [← Int32.ofInt_add]
  exact m_c_t (Nat.le_of_ble_eq_true hm)
theorem r_dupI (f : F k pc .dup q) (kk : Rn X d k q L (vI a :: vI a :: st) s P) : Rn X d k pc L (vI a :: st) s P := by
  obtain rfl := f.at (c := 1) fun _ => rfl
  exact Rn_A f rfl rfl rfl kk
theorem r_dupR (f : F k pc .dup q) (kk : Rn X d k q L (vR a :: vR a :: st) s P) : Rn X d k pc L (vR a :: st) s P := by
  obtain rfl := f.at (c := 1) fun _ => rfl
  exact Rn_A f rfl rfl rfl kk
theorem r_dup2 (f : F k pc .dup2 q) (kk : Rn X d k q L (vI b :: vR a :: vI b :: vR a :: st) s P) : Rn X d k pc L (vI b :: vR a :: st) s P := by
  obtain rfl := f.at (c := 1) fun _ => rfl
  exact Rn_A f rfl rfl rfl kk
theorem r_popI (f : F k pc .pop q) (kk : Rn X d k q L st s P) : Rn X d k pc L (vI a :: st) s P := by
  obtain rfl := f.at (c := 1) fun _ => rfl
  exact Rn_A f rfl rfl rfl kk
-- arithmetic
theorem r_iadd (f : F k pc .iadd q) (he : a + b = e) (kk : Rn X d k q L (vI e :: st) s P) : Rn X d k pc L (vI b :: vI a :: st) s P := by
  obtain rfl := f.at (c := 1) fun _ => rfl
  subst he
  refine Rn_A f rfl rfl ?_ kk
  unfold vI
  rw [Int32.ofInt_add]
  rfl
theorem r_isub (f : F k pc .isub q) (he : a - b = e) (kk : Rn X d k q L (vI e :: st) s P) : Rn X d k pc L (vI b :: vI a :: st) s P := by
  obtain rfl := f.at (c := 1) fun _ => rfl
  subst he
  refine Rn_A f rfl rfl ?_ kk
  unfold vI
  rw [Int32.ofInt_sub]
  rfl
theorem r_imul (f : F k pc .imul q) (he : a * b = e) (kk : Rn X d k q L (vI e :: st) s P) : Rn X d k pc L (vI b :: vI a :: st) s P := by
  obtain rfl := f.at (c := 1) fun _ => rfl
  subst he
  refine Rn_A f rfl rfl ?_ kk
  unfold vI
  rw [Int32.ofInt_mul]
  rfl
theorem oI_div {a b : Int} (ha : inR a) (h0 : 0 ≤ a) (hb : inR b) (h1 : 0 < b) : ¬ Int32.ofInt b = 0 ∧ Int32.ofInt a / Int32.ofInt b = Int32.ofInt (a / b) := by
  refine ⟨fun h => ?_, ?_⟩
  · rw [← oI_0, oI_eq hb inR_0] at h
    omega
  · rw [← Int32.ofInt_tdiv (by exact ha.1) (Int.le_of_lt_add_one (by exact ha.2)) (by exact hb.1) (Int.le_of_lt_add_one (by exact hb.2)), Int.tdiv_eq_ediv_of_nonneg h0]
theorem r_idiv (f : F k pc .idiv q) (ha : inR a) (h0 : 0 ≤ a) (hb : inR b) (h1 : 0 < b) (kk : Rn X d k q L (vI (a / b) :: st) s P) : Rn X d k pc L (vI b :: vI a :: st) s P := by
  obtain rfl := f.at (c := 1) fun _ => rfl
  refine Rn_A f rfl rfl ?_ kk
  obtain ⟨g1, g2⟩ := oI_div ha h0 hb h1
  refine (m_c_t g1).trans ?_
  unfold vI
  rw [← g2]
theorem r_irem (f : F k pc .irem q) (ha : inR a) (h0 : 0 ≤ a) (hb : inR b) (h1 : 0 < b) (kk : Rn X d k q L (vI (a % b) :: st) s P) : Rn X d k pc L (vI b :: vI a :: st) s P := by
  obtain rfl := f.at (c := 1) fun _ => rfl
  refine Rn_A f rfl rfl ?_ kk
  obtain ⟨g1, g2⟩ := oI_div ha h0 hb h1
  refine (m_c_t g1).trans ?_
  unfold vI
  rw [g2, ← Int32.ofInt_mul, ← Int32.ofInt_sub, Int.emod_def, Int.mul_comm b]
theorem r_iand (f : F k pc .iand q) (he : iAnd a b = e) (kk : Rn X d k q L (vI e :: st) s P) : Rn X d k pc L (vI b :: vI a :: st) s P := by
  obtain rfl := f.at (c := 1) fun _ => rfl
  subst he
  refine Rn_A f rfl rfl ?_ kk
  unfold iAnd
  rw [vI_toInt]
  rfl
theorem r_ior (f : F k pc .ior q) (he : iOr a b = e) (kk : Rn X d k q L (vI e :: st) s P) : Rn X d k pc L (vI b :: vI a :: st) s P := by
  obtain rfl := f.at (c := 1) fun _ => rfl
  subst he
  refine Rn_A f rfl rfl ?_ kk
  unfold iOr
  rw [vI_toInt]
  rfl
theorem r_ixor (f : F k pc .ixor q) (he : iXor a b = e) (kk : Rn X d k q L (vI e :: st) s P) : Rn X d k pc L (vI b :: vI a :: st) s P := by
  obtain rfl := f.at (c := 1) fun _ => rfl
  subst he
  refine Rn_A f rfl rfl ?_ kk
  unfold iXor
  rw [vI_toInt]
  rfl
theorem r_ishl (f : F k pc .ishl q) (he : iShl a b = e) (kk : Rn X d k q L (vI e :: st) s P) : Rn X d k pc L (vI b :: vI a :: st) s P := by
  obtain rfl := f.at (c := 1) fun _ => rfl
  subst he
  refine Rn_A f rfl rfl ?_ kk
  unfold iShl
  rw [vI_toInt]
  rfl
theorem r_ishr (f : F k pc .ishr q) (he : iShr a b = e) (kk : Rn X d k q L (vI e :: st) s P) : Rn X d k pc L (vI b :: vI a :: st) s P := by
  obtain rfl := f.at (c := 1) fun _ => rfl
  subst he
  refine Rn_A f rfl rfl ?_ kk
  unfold iShr
  rw [vI_toInt]
  rfl
theorem r_iushr (f : F k pc .iushr q) (he : iUshr a b = e) (kk : Rn X d k q L (vI e :: st) s P) : Rn X d k pc L (vI b :: vI a :: st) s P := by
  obtain rfl := f.at (c := 1) fun _ => rfl
  subst he
  refine Rn_A f rfl rfl ?_ kk
  unfold iUshr
  rw [vI_toInt]
  rfl
theorem r_i2b (f : F k pc .i2b q) (kk : Rn X d k q L (vI (i2B a) :: st) s P) : Rn X d k pc L (vI a :: st) s P := by
  obtain rfl := f.at (c := 1) fun _ => rfl
  refine Rn_A f rfl rfl ?_ kk
  unfold i2B
  rw [vI_toInt]
  rfl
theorem r_i2l (f : F k pc .i2l q) (ha : inR a) (kk : Rn X d k q L (vJ a :: st) s P) : Rn X d k pc L (vI a :: st) s P := by
  obtain rfl := f.at (c := 1) fun _ => rfl
  refine Rn_A f rfl rfl ?_ kk
  unfold vJ
  rw [← Int32.toInt64_ofInt (by exact ha.1) (Int.le_of_lt_add_one (by exact ha.2))]
  rfl
theorem r_l2i (f : F k pc .l2i q) (kk : Rn X d k q L (vI a :: st) s P) : Rn X d k pc L (vJ a :: st) s P := by
  obtain rfl := f.at (c := 1) fun _ => rfl
  refine Rn_A f rfl rfl ?_ kk
  unfold vI
  rw [← Int64.toInt32_ofInt]
  rfl
theorem r_lconst {m : Fin 2} (f : F k pc (.lconst m) q) (hz : Int64.ofNat (m : Nat) = Int64.ofInt e) (kk : Rn X d k q L (vJ e :: st) s P) : Rn X d k pc L st s P := by
  obtain rfl := f.at (c := 1) fun _ => rfl
  refine Rn_A f rfl rfl ?_ kk
  unfold vJ
  rw [← hz]
  rfl
theorem r_ladd (f : F k pc .ladd q) (he : a + b = e) (kk : Rn X d k q L (vJ e :: st) s P) : Rn X d k pc L (vJ b :: vJ a :: st) s P := by
  obtain rfl := f.at (c := 1) fun _ => rfl
  subst he
  refine Rn_A f rfl rfl ?_ kk
  unfold vJ
  rw [Int64.ofInt_add]
  rfl
theorem r_lmul (f : F k pc .lmul q) (he : a * b = e) (kk : Rn X d k q L (vJ e :: st) s P) : Rn X d k pc L (vJ b :: vJ a :: st) s P := by
  obtain rfl := f.at (c := 1) fun _ => rfl
  subst he
  refine Rn_A f rfl rfl ?_ kk
  unfold vJ
  rw [Int64.ofInt_mul]
  rfl
theorem oJ_div {a b : Int} (ha : inJ a) (hb : inJ b) (h1 : 0 < b) : ¬ Int64.ofInt b = 0 ∧ Int64.ofInt a / Int64.ofInt b = Int64.ofInt (a.tdiv b) := by
  refine ⟨fun h => ?_, ?_⟩
  · rw [← oJ_0, oJ_eq hb inJ_0] at h
    omega
  · rw [← Int64.ofInt_tdiv (by exact ha.1) (Int.le_of_lt_add_one (by exact ha.2)) (by exact hb.1) (Int.le_of_lt_add_one (by exact hb.2))]
theorem r_ldivT (f : F k pc .ldiv q) (ha : inJ a) (hb : inJ b) (h1 : 0 < b) (kk : Rn X d k q L (vJ (a.tdiv b) :: st) s P) : Rn X d k pc L (vJ b :: vJ a :: st) s P := by
  obtain rfl := f.at (c := 1) fun _ => rfl
  refine Rn_A f rfl rfl ?_ kk
  obtain ⟨g1, g2⟩ := oJ_div ha hb h1
  refine (m_c_t g1).trans ?_
  unfold vJ
  rw [← g2]
theorem r_ldiv (f : F k pc .ldiv q) (ha : inJ a) (h0 : 0 ≤ a) (hb : inJ b) (h1 : 0 < b) (kk : Rn X d k q L (vJ (a / b) :: st) s P) : Rn X d k pc L (vJ b :: vJ a :: st) s P := by
  refine r_ldivT f ha hb h1 ?_
  rw [Int.tdiv_eq_ediv_of_nonneg h0]
  exact kk
theorem r_lrem (f : F k pc .lrem q) (ha : inJ a) (h0 : 0 ≤ a) (hb : inJ b) (h1 : 0 < b) (kk : Rn X d k q L (vJ (a % b) :: st) s P) : Rn X d k pc L (vJ b :: vJ a :: st) s P := by
  obtain rfl := f.at (c := 1) fun _ => rfl
  refine Rn_A f rfl rfl ?_ kk
  obtain ⟨g1, g2⟩ := oJ_div ha hb h1
  refine (m_c_t g1).trans ?_
  unfold vJ
  rw [g2, Int.tdiv_eq_ediv_of_nonneg h0, ← Int64.ofInt_mul, ← Int64.ofInt_sub, Int.emod_def, Int.mul_comm b]
theorem r_lcmp (f : F k pc .lcmp q) (kk : Rn X d k q L (vI (cmpJ a b) :: st) s P) : Rn X d k pc L (vJ b :: vJ a :: st) s P := by
  obtain rfl := f.at (c := 1) fun _ => rfl
  refine Rn_A f rfl rfl ?_ kk
  unfold cmpJ
  rw [vI_toInt]
  rfl
-- jumps
def cI (c : ClassFile.Cond) (a b : Int) : Prop := match c with
  | .eq => a = b
  | .ne => ¬ a = b
  | .lt => a < b
  | .ge => b ≤ a
  | .gt => b < a
  | .le => a ≤ b
theorem r_goto (f : F k pc (.goto off) q) (ht : (pc : Int) + off = (t : Int)) (kk : Rn X d k t L st s P) : Rn X d k pc L st s P := by
  refine Rn_A (pc' := t) f rfl rfl ?_ kk
  show m_go pc off L st (m_mk X.2 s) = _
  unfold m_go
  rw [ht]
  exact m_c_t (by omega)
theorem m_br_T {pc t : Nat} {off : Int} {b : Prop} [Decidable b] {L : m_L} {st : List Value} {h : m_H} (ht : (pc : Int) + off = (t : Int)) (hb : b) : m_br pc off b L st h = some (t, L, st, h) := by
  unfold m_br
  rw [ht, if_pos hb]
  exact m_c_t (by omega)
theorem m_br_F {pc t : Nat} {off : Int} {b : Prop} [Decidable b] {L : m_L} {st : List Value} {h : m_H} (ht : (pc : Int) + off = (t : Int)) (hb : ¬ b) : m_br pc off b L st h = some (pc + 3, L, st, h) := by
  unfold m_br
  rw [ht, if_neg hb]
  exact m_c_t (by omega)
theorem m_icmp_T {pc t : Nat} {off : Int} {L : m_L} {st : List Value} {h : m_H} {cc : ClassFile.Cond} {a b : Int} (ht : (pc : Int) + off = (t : Int)) (ha : inR a) (hb : inR b) (hc : cI cc a b) : m_icmp cc pc off (Int32.ofInt a) (Int32.ofInt b) L st h = some (t, L, st, h) := by
  unfold m_icmp
  cases cc <;> dsimp only <;> refine m_br_T ht ?_
  · exact (oI_eq ha hb).mpr hc
  · exact fun h => hc ((oI_eq ha hb).mp h)
  · exact (oI_lt ha hb).mpr hc
  · exact (oI_le hb ha).mpr hc
  · exact (oI_lt hb ha).mpr hc
  · exact (oI_le ha hb).mpr hc
theorem m_icmp_F {pc t : Nat} {off : Int} {L : m_L} {st : List Value} {h : m_H} {cc : ClassFile.Cond} {a b : Int} (ht : (pc : Int) + off = (t : Int)) (ha : inR a) (hb : inR b) (hc : ¬ cI cc a b) : m_icmp cc pc off (Int32.ofInt a) (Int32.ofInt b) L st h = some (pc + 3, L, st, h) := by
  unfold m_icmp
  cases cc <;> dsimp only <;> refine m_br_F ht ?_
  · exact fun h => hc ((oI_eq ha hb).mp h)
  · exact fun h => hc (fun z => h ((oI_eq ha hb).mpr z))
  · exact fun h => hc ((oI_lt ha hb).mp h)
  · exact fun h => hc ((oI_le hb ha).mp h)
  · exact fun h => hc ((oI_lt hb ha).mp h)
  · exact fun h => hc ((oI_le ha hb).mp h)
theorem r_icmpT (f : F k pc (.if_icmp cc off) q) (ht : (pc : Int) + off = (t : Int)) (ha : inR a) (hb : inR b) (hc : cI cc a b) (kk : Rn X d k t L st s P) : Rn X d k pc L (vI b :: vI a :: st) s P :=
  Rn_A (pc' := t) f rfl rfl (m_icmp_T ht ha hb hc) kk
theorem r_icmpF (f : F k pc (.if_icmp cc off) q) (ht : (pc : Int) + off = (t : Int)) (ha : inR a) (hb : inR b) (hc : ¬ cI cc a b) (kk : Rn X d k q L st s P) : Rn X d k pc L (vI b :: vI a :: st) s P := by
  obtain rfl := f.at (c := 3) fun _ => rfl
  exact Rn_A f rfl rfl (m_icmp_F ht ha hb hc) kk
theorem r_icmp (f : F k pc (.if_icmp cc off) q) (ht : (pc : Int) + off = (t : Int)) (ha : inR a) (hb : inR b) (k1 : cI cc a b → Rn X d k t L st s P) (k2 : ¬ cI cc a b → Rn X d k q L st s P) : Rn X d k pc L (vI b :: vI a :: st) s P := by
  by_cases hc : cI cc a b
  · exact r_icmpT f ht ha hb hc (k1 hc)
  · exact r_icmpF f ht ha hb hc (k2 hc)
theorem m_if_icmp {cc : ClassFile.Cond} {pc : Nat} {off : Int} {x : Int32} {L : m_L} {st : List Value} {h : m_H} : m_if cc pc off x L st h = m_icmp cc pc off x (Int32.ofInt 0) L st h := by
  rw [oI_0]
  cases cc <;> rfl
theorem r_ifT (f : F k pc (.ifCond cc off) q) (ht : (pc : Int) + off = (t : Int)) (ha : inR a) (hc : cI cc a 0) (kk : Rn X d k t L st s P) : Rn X d k pc L (vI a :: st) s P := by
  refine Rn_A (pc' := t) f rfl rfl ?_ kk
  show m_if cc pc off (Int32.ofInt a) L st (m_mk X.2 s) = _
  rw [m_if_icmp]
  exact m_icmp_T ht ha inR_0 hc
theorem r_ifF (f : F k pc (.ifCond cc off) q) (ht : (pc : Int) + off = (t : Int)) (ha : inR a) (hc : ¬ cI cc a 0) (kk : Rn X d k q L st s P) : Rn X d k pc L (vI a :: st) s P := by
  obtain rfl := f.at (c := 3) fun _ => rfl
  refine Rn_A f rfl rfl ?_ kk
  show m_if cc pc off (Int32.ofInt a) L st (m_mk X.2 s) = _
  rw [m_if_icmp]
  exact m_icmp_F ht ha inR_0 hc
theorem r_if (f : F k pc (.ifCond cc off) q) (ht : (pc : Int) + off = (t : Int)) (ha : inR a) (k1 : cI cc a 0 → Rn X d k t L st s P) (k2 : ¬ cI cc a 0 → Rn X d k q L st s P) : Rn X d k pc L (vI a :: st) s P := by
  by_cases hc : cI cc a 0
  · exact r_ifT f ht ha hc (k1 hc)
  · exact r_ifF f ht ha hc (k2 hc)
theorem r_tsw {dd lo hi : Int} {offs : Array Int} (f : F k pc (.tableswitch dd lo hi offs) q) (ha : inR a) (hd : (pc : Int) + dd = (t : Int)) (k1 : ∀ (u : Nat) (z : Int), lo ≤ a → a ≤ hi → offs[(a - lo).toNat]? = some z → (pc : Int) + z = (u : Int) → Rn X d k u L st s P) (hoffs : ∀ z ∈ offs.toList, 0 ≤ (pc : Int) + z) (hlen : hi - lo < (offs.size : Int)) (k2 : (a < lo ∨ hi < a) → Rn X d k t L st s P) : Rn X d k pc L (vI a :: st) s P := by
  by_cases hc : a < lo ∨ hi < a
  · refine Rn_A (pc' := t) f rfl rfl ?_ (k2 hc)
    show (if (Int32.ofInt a).toInt < lo ∨ hi < (Int32.ofInt a).toInt then m_go pc dd L st (m_mk X.2 s) else _) = _
    rw [oI_toInt ha, if_pos hc]
    unfold m_go
    rw [hd]
    exact m_c_t (by omega)
  · have hlt : (a - lo).toNat < offs.size := by omega
    have hz : offs[(a - lo).toNat]? = some offs[(a - lo).toNat] := Array.getElem?_eq_getElem hlt
    have h0 := hoffs _ (Array.mem_toList_iff.mpr (Array.getElem_mem hlt))
    refine Rn_A (pc' := ((pc : Int) + offs[(a - lo).toNat]).toNat) f rfl rfl ?_ (k1 _ _ (by omega) (by omega) hz (by omega))
    show (if (Int32.ofInt a).toInt < lo ∨ hi < (Int32.ofInt a).toInt then _ else match offs[((Int32.ofInt a).toInt - lo).toNat]? with
      | some o => m_go pc o L st (m_mk X.2 s)
      | none => none) = _
    rw [oI_toInt ha, if_neg hc, hz]
    exact m_c_t h0
-- ends
theorem r_ireturn (f : F k pc .ireturn q) (hk : m_r k = some .int) (kk : P (some (vI a)) s) : Rn X d k pc L [vI a] s P := by
  obtain ⟨l, f1, f2, f3⟩ := f
  refine ⟨1, some (vI a), s, ⟨X.2, ?_, fun _ => rfl⟩, kk⟩
  rw [m_run.eq_def]
  dsimp only
  rw [f1]
  dsimp only
  rw [if_pos f2]
  have : m_ret k .ireturn [vI a] = some (some (vI a)) := by
    show (if m_rok k (Int32.ofInt a) = true then _ else _) = _
    unfold m_rok
    rw [hk]
    exact if_pos (decide_eq_true rfl)
  rw [this]
theorem r_zreturn (f : F k pc .ireturn q) (hk : m_r k = some .boolean) (hz : a = 0 ∨ a = 1) (kk : P (some (vI a)) s) : Rn X d k pc L [vI a] s P := by
  obtain ⟨l, f1, f2, f3⟩ := f
  refine ⟨1, some (vI a), s, ⟨X.2, ?_, fun _ => rfl⟩, kk⟩
  rw [m_run.eq_def]
  dsimp only
  rw [f1]
  dsimp only
  rw [if_pos f2]
  have : m_ret k .ireturn [vI a] = some (some (vI a)) := by
    show (if m_rok k (Int32.ofInt a) = true then _ else _) = _
    unfold m_rok
    rw [hk]
    rcases hz with rfl | rfl <;> rfl
  rw [this]
theorem r_lreturn (f : F k pc .lreturn q) (hk : m_r k = some .long) (kk : P (some (vJ a)) s) : Rn X d k pc L [vJ a] s P := by
  obtain ⟨l, f1, f2, f3⟩ := f
  refine ⟨1, some (vJ a), s, ⟨X.2, ?_, fun _ => rfl⟩, kk⟩
  rw [m_run.eq_def]
  dsimp only
  rw [f1]
  dsimp only
  rw [if_pos f2]
  have : m_ret k .lreturn [vJ a] = some (some (vJ a)) := if_pos hk
  rw [this]
theorem r_areturn (f : F k pc .areturn q) (hk : m_rob k = true) (kk : P (some (vR a)) s) : Rn X d k pc L [vR a] s P := by
  obtain ⟨l, f1, f2, f3⟩ := f
  refine ⟨1, some (vR a), s, ⟨X.2, ?_, fun _ => rfl⟩, kk⟩
  rw [m_run.eq_def]
  dsimp only
  rw [f1]
  dsimp only
  rw [if_pos f2]
  have : m_ret k .areturn [vR a] = some (some (vR a)) := if_pos hk
  rw [this]
theorem r_return (f : F k pc .return_ q) (hk : m_r k = none) (kk : P none s) : Rn X d k pc L [] s P := by
  obtain ⟨l, f1, f2, f3⟩ := f
  refine ⟨1, none, s, ⟨X.2, ?_, fun _ => rfl⟩, kk⟩
  rw [m_run.eq_def]
  dsimp only
  rw [f1]
  dsimp only
  rw [if_pos f2]
  have : m_ret k .return_ [] = some none := if_pos hk
  rw [this]
-- calls
theorem r_inv {i : Instr} (hy : y < m_law) (f : F k pc i q) (h1 : m_ret k i st = none) (h2 : m_inv k i st (m_mk X.2 s) = some (y, A, r)) (hl : Nat.ble (m_lay A).length (m_n y) = true) (kk : Cl X d y A s (fun v s' => Rn X (d + 1) k (pc + 3) L (m_push v r) s' P)) : Rn X (d + 1) k pc L st s P := by
  obtain ⟨n1, v1, s1, ⟨G1, g1, hG1⟩, n2, v2, s2, ⟨G2, g2, hG2⟩, hP⟩ := kk
  obtain rfl := hG1 hy
  obtain ⟨l, f1, f2, f3⟩ := f
  refine ⟨max n1 n2 + 1, v2, s2, ⟨G2, ?_, hG2⟩, hP⟩
  rw [m_run.eq_def]
  dsimp only
  rw [f1]
  dsimp only
  rw [if_pos f2, h1]
  dsimp only
  rw [h2]
  dsimp only
  rw [if_pos (Nat.le_of_ble_eq_true hl), m_run_up _ _ _ _ _ _ _ _ g1 (max n1 n2) d (Nat.le_max_left _ _) (Nat.le_refl d)]
  dsimp only
  rw [if_pos (by unfold m_okc; rw [m_mk_len, m_mk_len]; simp)]
  exact m_run_up _ _ _ _ _ _ _ _ g2 (max n1 n2) (d + 1) (Nat.le_max_right _ _) (Nat.le_refl _)
theorem r_virt {z : Nat × Nat × Nat × Nat} (f : F k pc (.invokevirtual ix) q) (ho : m_o k = o) (hl : m_il.lookup (o, ix) = some (0, y, n, z)) (hn : Nat.ble n st.length = true) (hst : st.drop n = vR b :: r) (hA : (st.take n).reverse = A) (hr : Nat.ble (m_sum r) 8 = true) (hb : ty b = t) (hc : (m_cls t).1 = (m_y y).cls ∧ t < m_cl.length) (hlay : Nat.ble (m_lay (vR b :: A)).length (m_n y) = true)
    (kk : Cl X d y (vR b :: A) s (fun v s' => Rn X (d + 1) k q L (m_push v r) s' P)) : Rn X (d + 1) k pc L st s P := by
  have hq := f.at (c := 3) fun _ => rfl
  subst hq ho hA
  refine r_inv (m_il_use hl).1 f rfl ?_ hlay kk
  have ht9 : t < 99 := Nat.lt_of_lt_of_le hc.2 (Nat.le_of_ble_eq_true rfl)
  obtain ⟨e, -, -, -, h3, -⟩ := m_mk_at (s := s) hb ht9
  unfold m_inv
  dsimp only
  rw [hl]
  dsimp only
  rw [hst]
  show m_c _ _ = _
  rw [m_c_t ⟨rfl, Nat.le_of_ble_eq_true hr, Nat.le_of_ble_eq_true hn, by rw [h3]; exact congrArg some hc.1, by rw [h3]; exact congrArg some (decide_eq_true hc.2)⟩]
  rfl
theorem r_stat {kd : Nat} {z : Nat × Nat × Nat × Nat} (f : F k pc (.invokestatic ix) q) (ho : m_o k = o) (hl : m_il.lookup (o, ix) = some (kd, y, n, z)) (hkd : kd = 1 ∨ kd = 3) (hn : Nat.ble n st.length = true) (hst : st.drop n = r) (hA : (st.take n).reverse = A) (hr : Nat.ble (m_sum r) 8 = true) (hlay : Nat.ble (m_lay A).length (m_n y) = true)
    (kk : Cl X d y A s (fun v s' => Rn X (d + 1) k q L (m_push v r) s' P)) : Rn X (d + 1) k pc L st s P := by
  have hq := f.at (c := 3) fun _ => rfl
  subst hq ho hA hst
  refine r_inv (m_il_use hl).1 f rfl ?_ hlay kk
  unfold m_inv
  dsimp only
  rw [hl]
  exact m_c_t ⟨hkd, Nat.le_of_ble_eq_true hr, Nat.le_of_ble_eq_true hn⟩
-- fields
theorem m_slot (ht : ty a = t) (h9 : t < 99) (hk : kd a J = c) (hc : c < 999) (hJ : 0 ≤ J) : ∃ vs, (m_mk X.2 s)[a.toNat]? = some (t, vs) ∧ vs[J.toNat]? = some (m_mkv s a.toNat J.toNat c) ∧ ((a.toNat : Nat) : Int) = a ∧ ((J.toNat : Nat) : Int) = J := by
  obtain ⟨e, h1, h2, h3, h4, h5⟩ := m_mk_at (s := s) ht h9
  refine ⟨_, h4, ?_, h5, Int.toNat_of_nonneg hJ⟩
  unfold kd at hk
  rw [h1] at hk
  simp only [Option.bind_some] at hk
  rw [List.getElem?_mapIdx]
  cases hj : e.2[J.toNat]? with
  | none => rw [hj] at hk; simp at hk; omega
  | some z => rw [hj] at hk; simp at hk; rw [hk]; rfl
theorem m_getf {v : Value} (ho : m_o k = o) (hl : m_fl.lookup (o, ix) = some (t, j, w)) (ht : ty a = t) (h9 : t < 99) (hj : (j : Int) = J) (hk : kd a J = c) (hc : c < 999) (hv : m_mkv s a.toNat J.toNat c = v) : m_sB X.1 k (.getfield ix) pc L (vR a :: st) (m_mk X.2 s) = some (pc + 3, L, v :: st, m_mk X.2 s) := by
  subst ho hj
  obtain ⟨vs, h1, h2, h3, h4⟩ := m_slot (X := X) (s := s) ht h9 hk hc (by omega)
  unfold m_sB m_a vR
  dsimp only
  rw [hl]
  dsimp only
  rw [h1]
  dsimp only
  rw [m_c_t rfl, show vs[j]? = some _ from h2, hv]
theorem r_getI (f : F k pc (.getfield ix) q) (ho : m_o k = o) (hl : m_fl.lookup (o, ix) = some (t, j, w)) (ht : ty a = t) (h9 : t < 99) (hj : (j : Int) = J) (hk : kd a J = 0) (he : s a J = e) (kk : Rn X d k q L (vI e :: st) s P) : Rn X d k pc L (vR a :: st) s P := by
  obtain rfl := f.at (c := 3) fun _ => rfl
  obtain ⟨vs, h1, h2, h3, h4⟩ := m_slot (X := X) (s := s) ht h9 hk (by omega) (by omega)
  refine Rn_B f rfl rfl rfl (m_getf ho hl ht h9 hj hk (by omega) ?_) kk
  unfold m_mkv
  rw [if_pos rfl, h3, h4, he]
theorem r_getJ (f : F k pc (.getfield ix) q) (ho : m_o k = o) (hl : m_fl.lookup (o, ix) = some (t, j, w)) (ht : ty a = t) (h9 : t < 99) (hj : (j : Int) = J) (hk : kd a J = 1) (he : s a J = e) (kk : Rn X d k q L (vJ e :: st) s P) : Rn X d k pc L (vR a :: st) s P := by
  obtain rfl := f.at (c := 3) fun _ => rfl
  obtain ⟨vs, h1, h2, h3, h4⟩ := m_slot (X := X) (s := s) ht h9 hk (by omega) (by omega)
  refine Rn_B f rfl rfl rfl (m_getf ho hl ht h9 hj hk (by omega) ?_) kk
  unfold m_mkv
  rw [if_neg (by decide), if_pos rfl, h3, h4, he]
theorem m_mkv_ref (hk : 2 ≤ c) (hc : kd a J = c) : m_mkv s a.toNat J.toNat c = vR (rf a J) := by
  unfold m_mkv rf vR
  rw [if_neg (by omega), if_neg (by omega), hc]
  exact congrArg Value.ref (show (c - 2 : Nat) = ((c : Int) - 2).toNat by omega)
theorem r_getR (f : F k pc (.getfield ix) q) (ho : m_o k = o) (hl : m_fl.lookup (o, ix) = some (t, j, w)) (ht : ty a = t) (h9 : t < 99) (hj : (j : Int) = J) (hk : Nat.ble 2 (kd a J) = true) (hk9 : Nat.blt (kd a J) 999 = true) (he : rf a J = e) (kk : Rn X d k q L (vR e :: st) s P) : Rn X d k pc L (vR a :: st) s P := by
  obtain rfl := f.at (c := 3) fun _ => rfl
  refine Rn_B f rfl rfl rfl (m_getf ho hl ht h9 hj rfl (Nat.le_of_ble_eq_true hk9) ?_) kk
  rw [m_mkv_ref (Nat.le_of_ble_eq_true hk) rfl, he]
theorem m_putf {v : Value} (ho : m_o k = o) (hl : m_fl.lookup (o, ix) = some (t, j, w)) (ht : ty a = t) (h9 : t < 99) (hj : (j : Int) = J) (hk : kd a J = c) (hc : c < 999) (hfin : ((m_cls t).2.1 j).2.2.2 = false) (h5 : narrow (m_fty t j) v = v) (h6 : fits (m_fty t j) v = true) (hv : m_mkv (m_upd s a J e) a.toNat J.toNat c = v) :
    m_sB X.1 k (.putfield ix) pc L (v :: vR a :: st) (m_mk X.2 s) = some (pc + 3, L, st, m_mk X.2 (m_upd s a J e)) := by
  subst ho hj
  obtain ⟨e0, g1, g2, g3, g4, g5⟩ := m_mk_at (s := s) ht h9
  have hj2 : e0.2[(j : Int).toNat]? = some c := by
    unfold kd at hk
    rw [g1] at hk
    simp only [Option.bind_some] at hk
    cases hj : e0.2[(j : Int).toNat]? with
    | none => rw [hj] at hk; simp at hk; omega
    | some z => rw [hj] at hk; simp at hk; rw [hk]
  unfold m_sB m_va vR
  dsimp only
  rw [hl]
  dsimp only
  rw [g4]
  dsimp only
  rw [m_mk_upd (s := s) (v := e) g1 (m_ty_lt ht h9).1 (by omega) hj2 hv, g2]
  exact m_c_t ⟨rfl, by rw [List.length_mapIdx]; exact (List.getElem?_eq_some_iff.mp hj2).1, h5, h6, Or.inl hfin⟩
def pfT (t j : Nat) (T : FieldType) : Bool := decide (m_fty t j = T) && !((m_cls t).2.1 j).2.2.2
theorem pfT_use {T : FieldType} (h : pfT t j T = true) : m_fty t j = T ∧ ((m_cls t).2.1 j).2.2.2 = false := by
  unfold pfT at h
  rw [Bool.and_eq_true, decide_eq_true_eq, Bool.not_eq_true'] at h
  exact h
theorem m_mkv_I : m_mkv (m_upd s a J e) a.toNat J.toNat 0 = vI e ∨ ¬ (0 ≤ a ∧ 0 ≤ J) := by
  by_cases h : 0 ≤ a ∧ 0 ≤ J
  · left
    unfold m_mkv m_upd
    rw [if_pos rfl, if_pos ⟨Int.toNat_of_nonneg h.1, Int.toNat_of_nonneg h.2⟩]
  · exact Or.inr h
theorem m_mkv_J : m_mkv (m_upd s a J e) a.toNat J.toNat 1 = vJ e ∨ ¬ (0 ≤ a ∧ 0 ≤ J) := by
  by_cases h : 0 ≤ a ∧ 0 ≤ J
  · left
    unfold m_mkv m_upd
    rw [if_neg (by decide), if_pos rfl, if_pos ⟨Int.toNat_of_nonneg h.1, Int.toNat_of_nonneg h.2⟩]
  · exact Or.inr h
theorem r_putI (f : F k pc (.putfield ix) q) (ho : m_o k = o) (hl : m_fl.lookup (o, ix) = some (t, j, w)) (ht : ty a = t) (h9 : t < 99) (hj : (j : Int) = J) (hk : kd a J = 0) (hp : pfT t j .int = true) (kk : Rn X d k q L st (m_upd s a J e) P) : Rn X d k pc L (vI e :: vR a :: st) s P := by
  obtain rfl := f.at (c := 3) fun _ => rfl
  obtain ⟨p1, p2⟩ := pfT_use hp
  refine Rn_B f rfl rfl rfl (m_putf ho hl ht h9 hj hk (by omega) p2 (by rw [p1]; rfl) (by rw [p1]; rfl) ?_) kk
  exact (m_mkv_I (s := s)).resolve_right (fun z => z ⟨(m_ty_lt ht h9).1, by omega⟩)
theorem r_putZ (f : F k pc (.putfield ix) q) (ho : m_o k = o) (hl : m_fl.lookup (o, ix) = some (t, j, w)) (ht : ty a = t) (h9 : t < 99) (hj : (j : Int) = J) (hk : kd a J = 0) (hp : pfT t j .boolean = true) (hz : e = 0 ∨ e = 1) (kk : Rn X d k q L st (m_upd s a J e) P) : Rn X d k pc L (vI e :: vR a :: st) s P := by
  obtain rfl := f.at (c := 3) fun _ => rfl
  obtain ⟨p1, p2⟩ := pfT_use hp
  refine Rn_B f rfl rfl rfl (m_putf ho hl ht h9 hj hk (by omega) p2 (by rw [p1]; rcases hz with rfl | rfl <;> rfl) (by rw [p1]; rcases hz with rfl | rfl <;> rfl) ?_) kk
  exact (m_mkv_I (s := s)).resolve_right (fun z => z ⟨(m_ty_lt ht h9).1, by omega⟩)
theorem r_putJ (f : F k pc (.putfield ix) q) (ho : m_o k = o) (hl : m_fl.lookup (o, ix) = some (t, j, w)) (ht : ty a = t) (h9 : t < 99) (hj : (j : Int) = J) (hk : kd a J = 1) (hp : pfT t j .long = true) (kk : Rn X d k q L st (m_upd s a J e) P) : Rn X d k pc L (vJ e :: vR a :: st) s P := by
  obtain rfl := f.at (c := 3) fun _ => rfl
  obtain ⟨p1, p2⟩ := pfT_use hp
  refine Rn_B f rfl rfl rfl (m_putf ho hl ht h9 hj hk (by omega) p2 (by rw [p1]; rfl) (by rw [p1]; rfl) ?_) kk
  exact (m_mkv_J (s := s)).resolve_right (fun z => z ⟨(m_ty_lt ht h9).1, by omega⟩)
theorem r_gets (f : F k pc (.getstatic ix) q) (ho : m_o k = o) (hl : m_gl.lookup (o, ix) = some c) (he : (c : Int) = e) (kk : Rn X d k q L (vR e :: st) s P) : Rn X d k pc L st s P := by
  obtain rfl := f.at (c := 3) fun _ => rfl
  subst ho he
  refine Rn_B f rfl rfl rfl ?_ kk
  unfold m_sB
  dsimp only
  rw [hl]
  rfl
-- arrays
theorem m_arr (ht : ty a = t) (h9 : t < 99) (h0 : 0 ≤ i) (h1 : i < ln a) : ∃ e, m_sh[a.toNat]? = some e ∧ e.1 = t ∧ ∃ vs, (m_mk X.2 s)[a.toNat]? = some (t, vs) ∧ (vs.length : Int) = ln a ∧ ∃ c, e.2[i.toNat]? = some c ∧ vs[i.toNat]? = some (m_mkv s a.toNat i.toNat c) ∧ kd a i = c ∧ c ∈ e.2 ∧ ((a.toNat : Nat) : Int) = a ∧ ((i.toNat : Nat) : Int) = i ∧ vs = e.2.mapIdx (fun j k => m_mkv s a.toNat j k) ∧ ln a ≤ 1000 := by
  obtain ⟨e, g1, g2, g3, g4, g5⟩ := m_mk_at (s := s) ht h9
  have hlt : i.toNat < e.2.length := by omega
  have hmem := List.mem_of_getElem? g1
  refine ⟨e, g1, g2, _, g4, by rw [List.length_mapIdx, g3], e.2[i.toNat], List.getElem?_eq_getElem hlt, by rw [List.getElem?_mapIdx, List.getElem?_eq_getElem hlt]; rfl, ?_, List.getElem_mem hlt, g5, Int.toNat_of_nonneg h0, rfl, ?_⟩
  · unfold kd
    rw [g1]
    simp only [Option.bind_some]
    rw [List.getElem?_eq_getElem hlt]
    rfl
  · have := (m_sh_ints e hmem).2.2.2
    omega
theorem m_mkv_0 {u v : Nat} : m_mkv s u v 0 = vI (s (u : Int) (v : Int)) := rfl
theorem m_mkv_1 {u v : Nat} : m_mkv s u v 1 = vJ (s (u : Int) (v : Int)) := rfl
theorem m_rd_ok {f : Value → Option m_S} {vs : List Value} {v : Value} (h : (m_mk X.2 s)[a.toNat]? = some (t, vs)) (hl : (vs.length : Int) = ln a) (h0 : 0 ≤ i) (h1 : i < ln a) (h2 : ln a ≤ 1000) (hv : vs[i.toNat]? = some v) : m_rd (m_mk X.2 s) t a.toNat (Int32.ofInt i) f = f v := by
  obtain ⟨g1, g2⟩ := oI_ix h0 h1 (by omega)
  unfold m_rd
  rw [h]
  dsimp only
  rw [m_c_t ⟨rfl, by rw [show vs.length = (ln a).toNat by omega]; exact g1⟩, g2, hv]
theorem ty_big (ht : ty a = t) (h9 : t < 99) : ¬ 1000 ≤ a.toNat := by
  obtain ⟨h0, e, he, -⟩ := m_ty_lt ht h9
  have h1 := (List.getElem?_eq_some_iff.mp he).1
  have h2 : m_sh.length ≤ 1000 := Nat.le_of_ble_eq_true rfl
  omega
theorem r_iald (f : F k pc .iaload q) (ht : ty a = 20) (h0 : 0 ≤ i) (h1 : i < ln a) (he : s a i = e) (kk : Rn X d k q L (vI e :: st) s P) : Rn X d k pc L (vI i :: vR a :: st) s P := by
  obtain rfl := f.at (c := 1) fun _ => rfl
  obtain ⟨e0, g1, g2, vs, g3, g4, c, g5, g6, g7, g8, g9, g10, -, g12⟩ := m_arr (s := s) ht (by omega) h0 h1
  obtain rfl := (m_sh_ints e0 (List.mem_of_getElem? g1)).1 (Or.inl g2) c g8
  refine Rn_B f rfl rfl rfl ?_ kk
  refine (w_iald (ty_big ht (by omega))).trans ((m_rd_ok g3 g4 h0 h1 g12 g6).trans ?_)
  rw [m_mkv_0, g9, g10, he]
  rfl
theorem r_lald (f : F k pc .laload q) (ht : ty a = 21) (h0 : 0 ≤ i) (h1 : i < ln a) (he : s a i = e) (kk : Rn X d k q L (vJ e :: st) s P) : Rn X d k pc L (vI i :: vR a :: st) s P := by
  obtain rfl := f.at (c := 1) fun _ => rfl
  obtain ⟨e0, g1, g2, vs, g3, g4, c, g5, g6, g7, g8, g9, g10, -, g12⟩ := m_arr (s := s) ht (by omega) h0 h1
  obtain rfl := (m_sh_ints e0 (List.mem_of_getElem? g1)).2.1 g2 c g8
  refine Rn_B f rfl rfl rfl ?_ kk
  refine w_lald.trans ((m_rd_ok g3 g4 h0 h1 g12 g6).trans ?_)
  rw [m_mkv_1, g9, g10, he]
  rfl
theorem r_aald (f : F k pc .aaload q) (ht : ty a = t) (ht2 : t = 23 ∨ t = 24) (h0 : 0 ≤ i) (h1 : i < ln a) (he : rf a i = e) (kk : Rn X d k q L (vR e :: st) s P) : Rn X d k pc L (vI i :: vR a :: st) s P := by
  obtain rfl := f.at (c := 1) fun _ => rfl
  obtain ⟨e0, g1, g2, vs, g3, g4, c, g5, g6, g7, g8, g9, g10, -, g12⟩ := m_arr (s := s) ht (by omega) h0 h1
  have hc := (m_sh_ints e0 (List.mem_of_getElem? g1)).2.2.1 (by omega) c g8
  refine Rn_B f rfl rfl rfl ?_ kk
  refine (w_aald g3 ht2).trans ((m_rd_ok g3 g4 h0 h1 g12 g6).trans ?_)
  rw [m_mkv_ref hc g7, he]
  rfl
theorem m_wr_ok {f : m_H → Option m_S} {vs : List Value} {v : Value} {z : m_H} (h : (m_mk X.2 s)[a.toNat]? = some (t, vs)) (hl : (vs.length : Int) = ln a) (h0 : 0 ≤ i) (h1 : i < ln a) (h2 : ln a ≤ 1000) (hz : (m_mk X.2 s).set a.toNat (t, vs.set i.toNat v) = z) : m_wr (m_mk X.2 s) t a.toNat (Int32.ofInt i) v f = f z := by
  obtain ⟨g1, g2⟩ := oI_ix h0 h1 (by omega)
  unfold m_wr
  rw [h]
  dsimp only
  rw [m_c_t ⟨rfl, by rw [show vs.length = (ln a).toNat by omega]; exact g1⟩, g2, hz]
theorem r_iast (f : F k pc .iastore q) (ht : ty a = 20) (h0 : 0 ≤ i) (h1 : i < ln a) (kk : Rn X d k q L st (m_upd s a i e) P) : Rn X d k pc L (vI e :: vI i :: vR a :: st) s P := by
  obtain rfl := f.at (c := 1) fun _ => rfl
  obtain ⟨e0, g1, g2, vs, g3, g4, c, g5, g6, g7, g8, g9, g10, g11, g12⟩ := m_arr (s := s) ht (by omega) h0 h1
  obtain rfl := (m_sh_ints e0 (List.mem_of_getElem? g1)).1 (Or.inl g2) c g8
  refine Rn_B (s' := m_upd s a i e) f rfl rfl rfl ?_ kk
  refine w_iast.trans (m_wr_ok (v := vI e) g3 g4 h0 h1 g12 ?_)
  rw [m_mk_upd (s := s) (v := e) (w := vI e) g1 (m_ty_lt ht (by omega)).1 h0 g5 ((m_mkv_I (s := s)).resolve_right (fun z => z ⟨(m_ty_lt ht (by omega)).1, h0⟩)), g2, g11]
theorem r_last (f : F k pc .lastore q) (ht : ty a = 21) (h0 : 0 ≤ i) (h1 : i < ln a) (kk : Rn X d k q L st (m_upd s a i e) P) : Rn X d k pc L (vJ e :: vI i :: vR a :: st) s P := by
  obtain rfl := f.at (c := 1) fun _ => rfl
  obtain ⟨e0, g1, g2, vs, g3, g4, c, g5, g6, g7, g8, g9, g10, g11, g12⟩ := m_arr (s := s) ht (by omega) h0 h1
  obtain rfl := (m_sh_ints e0 (List.mem_of_getElem? g1)).2.1 g2 c g8
  refine Rn_B (s' := m_upd s a i e) f rfl rfl rfl ?_ kk
  refine w_last.trans (m_wr_ok (v := vJ e) g3 g4 h0 h1 g12 ?_)
  rw [m_mk_upd (s := s) (v := e) (w := vJ e) g1 (m_ty_lt ht (by omega)).1 h0 g5 ((m_mkv_J (s := s)).resolve_right (fun z => z ⟨(m_ty_lt ht (by omega)).1, h0⟩)), g2, g11]
theorem r_alen (f : F k pc .arraylength q) (ht : ty a = t) (ht2 : 20 ≤ t ∧ t ≤ 24) (he : ln a = e) (kk : Rn X d k q L (vI e :: st) s P) : Rn X d k pc L (vR a :: st) s P := by
  obtain rfl := f.at (c := 1) fun _ => rfl
  obtain ⟨e0, g1, g2, g3, g4, g5⟩ := m_mk_at (s := s) ht (by omega)
  refine Rn_B f rfl rfl rfl ?_ kk
  refine (w_alen (fun z => ty_big ht (by omega) (by omega)) g4 ht2).trans ?_
  rw [List.length_mapIdx, ← he, g3]
  unfold vI
  rw [Int32.ofInt_eq_ofNat]
-- arrays that nobody writes
def xs_ (X : List Int32) (i : Int) : Int := (X.getD i.toNat 0).toInt
theorem r_alenX (f : F k pc .arraylength q) (kk : Rn X d k q L (vI (X.1.length : Int) :: st) s P) : Rn X d k pc L (vR 1000 :: st) s P := by
  obtain rfl := f.at (c := 1) fun _ => rfl
  refine Rn_B f rfl rfl rfl ?_ kk
  refine w_alenX.trans ?_
  unfold vI
  rw [Int32.ofInt_eq_ofNat]
theorem r_ialdX (f : F k pc .iaload q) (h0 : 0 ≤ i) (h1 : i < (X.1.length : Int)) (hX : X.1.length < 2147483648) (kk : Rn X d k q L (vI (xs_ X.1 i) :: st) s P) : Rn X d k pc L (vI i :: vR 1000 :: st) s P := by
  obtain rfl := f.at (c := 1) fun _ => rfl
  refine Rn_B f rfl rfl rfl ?_ kk
  obtain ⟨g1, g2⟩ := oI_ix h0 h1 (by omega)
  refine (w_ialS (Nat.le_refl 1000) rfl (by rw [show X.1.length = ((X.1.length : Nat) : Int).toNat by omega]; exact g1)).trans ?_
  rw [g2]
  unfold xs_
  rw [vI_toInt]
theorem r_ialdS {l : List Int32} (f : F k pc .iaload q) (hl : m_ex [] a.toNat = some l) (ha : 1000 < a) (h0 : 0 ≤ i) (h1 : i < (l.length : Int)) (hl2 : l.length < 1000) (he : (l.getD i.toNat 0).toInt = e) (kk : Rn X d k q L (vI e :: st) s P) : Rn X d k pc L (vI i :: vR a :: st) s P := by
  obtain rfl := f.at (c := 1) fun _ => rfl
  refine Rn_B f rfl rfl rfl ?_ kk
  obtain ⟨g1, g2⟩ := oI_ix h0 h1 (by omega)
  have hex : m_ex X.1 a.toNat = some l := by
    unfold m_ex at hl ⊢
    rw [if_neg (by omega)] at hl ⊢
    exact hl
  refine (w_ialS (by omega) hex (by rw [show l.length = ((l.length : Nat) : Int).toNat by omega]; exact g1)).trans ?_
  rw [g2, ← he, vI_toInt]
-- natives
theorem m_natA {i : Instr} {pc' : Nat} {st' : List Value} {s' : m_St} (f : F k pc i q) (h1 : m_ret k i st = none) (h2 : m_inv k i st (m_mk X.2 s) = none) (h0 : m_sA k i pc L st (m_mk X.2 s) = none) (h0b : m_sB X.1 k i pc L st (m_mk X.2 s) = none) (h3 : m_sC k i pc L st (m_mk X.2 s) = some (pc', L', st', m_mk X.2 s')) (kk : Rn X d k pc' L' st' s' P) : Rn X d k pc L st s P :=
  Rn_S f h1 h2 (by unfold m_step; rw [h0]; dsimp only; rw [h0b]; dsimp only; exact h3) kk
theorem r_mmax (f : F k pc (.invokestatic ix) q) (ho : m_o k = o) (hn : m_il.lookup (o, ix) = none) (hl : m_mm.lookup (o, ix) = some (0, w)) (hr : Nat.ble (m_sum st) 8 = true) (ha : inR a) (hb : inR b) (kk : Rn X d k q L (vI (max a b) :: st) s P) : Rn X d k pc L (vI b :: vI a :: st) s P := by
  have hq := f.at (c := 3) fun _ => rfl
  subst hq ho
  refine m_natA f rfl (by unfold m_inv; dsimp only; rw [hn]) rfl rfl ?_ kk
  refine (w_mmax hl (Nat.le_of_ble_eq_true hr)).trans ?_
  unfold vI
  by_cases h : a < b
  · rw [if_pos ((oI_lt ha hb).mpr h), Int.max_eq_right (by omega)]
  · rw [if_neg (fun z => h ((oI_lt ha hb).mp z)), Int.max_eq_left (by omega)]
theorem r_mmin (f : F k pc (.invokestatic ix) q) (ho : m_o k = o) (hn : m_il.lookup (o, ix) = none) (hl : m_mm.lookup (o, ix) = some (1, w)) (hr : Nat.ble (m_sum st) 8 = true) (ha : inR a) (hb : inR b) (kk : Rn X d k q L (vI (min a b) :: st) s P) : Rn X d k pc L (vI b :: vI a :: st) s P := by
  have hq := f.at (c := 3) fun _ => rfl
  subst hq ho
  refine m_natA f rfl (by unfold m_inv; dsimp only; rw [hn]) rfl rfl ?_ kk
  refine (w_mmin hl (Nat.le_of_ble_eq_true hr)).trans ?_
  unfold vI
  by_cases h : b < a
  · rw [if_pos ((oI_lt hb ha).mpr h), Int.min_eq_right (by omega)]
  · rw [if_neg (fun z => h ((oI_lt hb ha).mp z)), Int.min_eq_left (by omega)]
def m_cpy (s : m_St) (a sp b dp n : Int) : m_St := fun c j => if c = b ∧ dp ≤ j ∧ j < dp + n then s a (sp + (j - dp)) else s c j
end RUL
-- ----- guests: a cell of three places, its weights behind it -----
theorem gw {g : Int} (h : ty g = 0) : 0 ≤ g ∧ kd g 0 = (g.toNat + 1) + 2 ∧ kd g 1 = 0 ∧ kd g 2 = 0 ∧ ty (g + 1) = 20 ∧ ln (g + 1) = 4 ∧ rf g 0 = g + 1 ∧ g < 77 := by
  obtain ⟨h0, e, he, -⟩ := m_ty_lt h (by omega)
  have hlt := (List.getElem?_eq_some_iff.mp he).1
  have hl : m_sh.length = 77 := rfl
  have key : (List.range 77).all (fun n => decide (ty (n : Int) = 0) == false || (decide (kd (n : Int) 0 = (n + 1) + 2) && decide (kd (n : Int) 1 = 0) && decide (kd (n : Int) 2 = 0) && decide (ty ((n : Int) + 1) = 20) && decide (ln ((n : Int) + 1) = 4))) = true := by decide +kernel
  obtain ⟨n, rfl⟩ : ∃ n : Nat, g = n := ⟨g.toNat, (Int.toNat_of_nonneg h0).symm⟩
  have h1 := List.all_eq_true.mp key n (List.mem_range.mpr (by omega))
  rw [h] at h1
  simp only [Bool.and_eq_true, Bool.or_eq_true, decide_eq_true_eq] at h1
  obtain ⟨⟨⟨⟨g1, g2⟩, g3⟩, g4⟩, g5⟩ := h1.resolve_left (by decide)
  refine ⟨h0, g1, g2, g3, g4, g5, ?_, by omega⟩
  unfold rf
  rw [g1]
  omega
-- ----- the law's own arrays -----
section RULX
variable {X : m_X} {d k pc q : Nat} {L L' : m_L} {st : List Value} {s : m_St} {P : Option Value → m_St → Prop} {a i e : Int} {c len : Nat}
theorem shx_at {G : Nat} {e : Nat × List Nat} (hc : m_shx[c]? = some e) (hG : c < G) : (m_shG G)[77 + c]? = some e := by
  unfold m_shG
  rw [List.getElem?_append_right (by show 77 ≤ 77 + c; omega), show 77 + c - m_sh.length = c by show 77 + c - 77 = c; omega, List.getElem?_take, if_pos hG, hc]
theorem m_mk_x {G : Nat} (hc : m_shx[c]? = some (20, List.replicate len 0)) (hG : c < G) : (m_mk G s)[77 + c]? = some (20, (List.replicate len 0).mapIdx fun j k => m_mkv s (77 + c) j k) := by
  unfold m_mk
  rw [List.getElem?_mapIdx, shx_at hc hG]
  rfl
theorem r_ialdU (f : F k pc .iaload q) (hc : m_shx[c]? = some (20, List.replicate len 0)) (hG : c < X.2) (hl : len < 1000) (hc2 : c < 900) (h0 : 0 ≤ i) (h1 : i < (len : Int)) (he : s ((77 + c : Nat) : Int) i = e) (kk : Rn X d k q L (vI e :: st) s P) : Rn X d k pc L (vI i :: vR ((77 + c : Nat) : Int) :: st) s P := by
  obtain rfl := f.at (c := 1) fun _ => rfl
  obtain ⟨g1, g2⟩ := oI_ix h0 h1 (by omega)
  refine Rn_B f rfl rfl rfl ?_ kk
  refine (w_iald (a := 77 + c) (by omega)).trans ?_
  unfold m_rd
  rw [m_mk_x hc hG]
  dsimp only
  rw [List.length_mapIdx, List.length_replicate, m_c_t ⟨rfl, by rw [show len = ((len : Nat) : Int).toNat by omega]; exact g1⟩, g2, List.getElem?_mapIdx, List.getElem?_replicate, if_pos (by omega)]
  show m_vi (vI (s ((77 + c : Nat) : Int) ((i.toNat : Nat) : Int))) _ = _
  rw [show ((i.toNat : Nat) : Int) = i by omega, he]
  rfl
theorem r_iastU (f : F k pc .iastore q) (hc : m_shx[c]? = some (20, List.replicate len 0)) (hG : c < X.2) (hl : len < 1000) (hc2 : c < 900) (h0 : 0 ≤ i) (h1 : i < (len : Int)) (kk : Rn X d k q L st (m_upd s ((77 + c : Nat) : Int) i e) P) : Rn X d k pc L (vI e :: vI i :: vR ((77 + c : Nat) : Int) :: st) s P := by
  obtain rfl := f.at (c := 1) fun _ => rfl
  obtain ⟨g1, g2⟩ := oI_ix h0 h1 (by omega)
  refine Rn_B (s' := m_upd s ((77 + c : Nat) : Int) i e) f rfl rfl rfl ?_ kk
  refine (w_iast (a := 77 + c)).trans ?_
  unfold m_wr
  rw [m_mk_x hc hG]
  dsimp only
  rw [List.length_mapIdx, List.length_replicate, m_c_t ⟨rfl, by rw [show len = ((len : Nat) : Int).toNat by omega]; exact g1⟩, g2]
  have hu := m_mk_updG (s := s) (a := ((77 + c : Nat) : Int)) (j := i) (v := e) (w := vI e) (k := 0) (shx_at hc hG) (by omega) h0 (by rw [List.getElem?_replicate, if_pos (by omega)]) (by
    unfold m_mkv m_upd
    rw [if_pos rfl, if_pos ⟨by omega, by omega⟩])
  rw [hu]
  rfl
/-- a cell more of the law's own -/
theorem m_mk_more {G : Nat} (hc : m_shx[G]? = some (20, List.replicate len 0)) (hz : ∀ j, s ((77 + G : Nat) : Int) j = 0) : m_mk G s ++ [(20, List.replicate len (.int 0))] = m_mk (G + 1) s := by
  have hG : G < m_shx.length := (List.getElem?_eq_some_iff.mp hc).1
  have hlen : (m_shG G).length = 77 + G := by
    unfold m_shG
    rw [List.length_append, List.length_take]
    show 77 + min G m_shx.length = 77 + G
    omega
  have hs : m_shG (G + 1) = m_shG G ++ [(20, List.replicate len 0)] := by
    unfold m_shG
    rw [List.take_add_one, hc, List.append_assoc]
    rfl
  unfold m_mk
  rw [hs, List.mapIdx_append, hlen]
  congr 1
  show [_] = [_]
  congr 2
  apply List.ext_getElem?
  intro j
  rw [List.getElem?_mapIdx, List.getElem?_replicate, List.getElem?_replicate]
  split
  · show some (Value.int 0) = some (m_mkv s (0 + (77 + G)) j 0)
    unfold m_mkv
    rw [if_pos rfl, show ((0 + (77 + G) : Nat) : Int) = ((77 + G : Nat) : Int) by omega, hz]
    rfl
  · rfl
theorem r_newU (f : F m_law pc (.newarray .int) q) (hc : m_shx[X.2]? = some (20, List.replicate len 0)) (hl : len < 1000) (hz : ∀ j, s ((77 + X.2 : Nat) : Int) j = 0)
    (hL : m_okL (77 + X.2) (77 + X.2 + 1) L = true) (hS : m_okS (77 + X.2) (77 + X.2 + 1) st = true) (hH : m_okH (77 + X.2) (77 + X.2 + 1) (m_mk X.2 s) = true)
    (kk : Rn (X.1, X.2 + 1) d m_law q L (vR ((77 + X.2 : Nat) : Int) :: st) s P) : Rn X d m_law pc L (vI (len : Int) :: st) s P := by
  obtain ⟨n, v, s2, ⟨G, hr, hG⟩, hP⟩ := kk
  have hq := f.at (c := 2) fun _ => rfl
  obtain ⟨l, f1, f2, f3⟩ := f
  subst hq
  refine ⟨n + 1, v, s2, ⟨G, ?_, fun z => absurd z (Nat.lt_irrefl _)⟩, hP⟩
  have hG4 : X.2 < m_shx.length := (List.getElem?_eq_some_iff.mp hc).1
  have h4 : m_shx.length = 4 := rfl
  have hlen : (m_mk X.2 s).length = 77 + X.2 := by
    rw [m_mk_len, List.length_take]
    show 77 + min X.2 m_shx.length = _
    omega
  have hn : (Int32.ofInt (len : Int)).toNatClampNeg = len := by
    rw [Int32.toNatClampNeg_ofInt_of_le (by omega) (by omega)]
    omega
  have hn0 : ¬ Int32.ofInt (len : Int) < 0 := by
    rw [← oI_0, oI_lt ⟨by omega, by omega⟩ inR_0]
    omega
  have hs : m_step X.1 m_law (.newarray .int) pc L (vI (len : Int) :: st) (m_mk X.2 s) = some (pc + 2, L, .ref (77 + X.2) :: st, m_mk (X.2 + 1) s) := by
    unfold m_step
    rw [show m_sA m_law (.newarray .int) pc L (vI (len : Int) :: st) (m_mk X.2 s) = none from rfl]
    dsimp only
    rw [show m_sB X.1 m_law (.newarray .int) pc L (vI (len : Int) :: st) (m_mk X.2 s) = none from rfl]
    dsimp only
    show m_c (¬ Int32.ofInt (len : Int) < 0 ∧ (Int32.ofInt (len : Int)).toNatClampNeg ≤ 1000000) (m_al1 L st (m_mk X.2 s) (20, List.replicate (Int32.ofInt (len : Int)).toNatClampNeg (.int 0)) (pc + 2)) = _
    rw [m_c_t ⟨hn0, by rw [hn]; omega⟩, hn]
    unfold m_al1
    rw [hlen, if_pos (by rw [hL, hS, hH, decide_eq_true (by omega : 77 + X.2 + 1 ≤ 1000)]; rfl), m_mk_more hc hz]
  rw [m_run.eq_def]
  dsimp only
  rw [f1]
  dsimp only
  rw [if_pos f2, show m_ret m_law (.newarray .int) (vI (len : Int) :: st) = none from rfl]
  dsimp only
  rw [show m_inv m_law (.newarray .int) (vI (len : Int) :: st) (m_mk X.2 s) = none from rfl]
  dsimp only
  rw [hs]
  exact hr
theorem r_ldcI2 {o w ix : Nat} {e0 : Int32 × Nat} (f : F k pc (.ldc ix) q) (ho : m_o k = o) (hl : m_k32.lookup (o, ix) = some e0) (hz : e0.1 = Int32.ofInt e) (kk : Rn X d k q L (vI e :: st) s P) : Rn X d k pc L st s P := by
  obtain rfl := f.at (c := 2) fun _ => rfl
  subst ho
  refine Rn_A f rfl rfl ?_ kk
  unfold m_sA
  dsimp only
  rw [hl]
  dsimp only
  rw [hz]
  rfl
end RULX
end
section
/-! small helpers of the walks -/
theorem Cl_of {X : m_X} {d k n : Nat} {A : List Value} {L : m_L} {s : m_St} {P : Option Value → m_St → Prop} (hn : m_n k = n) (hL : m_lay A ++ List.replicate (n - (m_lay A).length) none = L) (h : Rn X d k 0 L [] s P) : Cl X d k A s P := by
  unfold Cl m_ent
  rw [hn, hL]
  exact h
theorem upd_eq {s : m_St} {c j v : Int} : m_upd s c j v c j = v := if_pos ⟨rfl, rfl⟩
theorem upd_nc {s : m_St} {c j v c' j' : Int} (h : ¬ c' = c) : m_upd s c j v c' j' = s c' j' := if_neg fun z => h z.1
theorem upd_nj {s : m_St} {c j v c' j' : Int} (h : ¬ j' = j) : m_upd s c j v c' j' = s c' j' := if_neg fun z => h z.2
theorem lt_ln {a i n : Int} (h : ln a = n) (hi : i < n) : i < ln a := h ▸ hi
theorem le_ln {a i n : Int} (h : ln a = n) (hi : i ≤ n) : i ≤ ln a := h ▸ hi
theorem kd2 {a J : Int} {c : Nat} (h : kd a J = c) (hc : 2 ≤ c) : Nat.ble 2 (kd a J) = true := by rw [h]; exact Nat.ble_eq.mpr hc
theorem kd9 {a J : Int} {c : Nat} (h : kd a J = c) (hc : c < 999) : Nat.blt (kd a J) 999 = true := by rw [h]; exact Nat.ble_eq.mpr hc
theorem gw2 {g : Int} (h : ty g = 0) : Nat.ble 2 (kd g 0) = true ∧ Nat.blt (kd g 0) 999 = true := by
  obtain ⟨h0, h1, -, -, -, -, -, h7⟩ := gw h
  exact ⟨kd2 h1 (by omega), kd9 h1 (by omega)⟩
theorem lay_le {y N : Nat} {A : List Value} (hN : m_n y = N) (h : Nat.ble (m_lay A).length N = true) : Nat.ble (m_lay A).length (m_n y) = true := by rw [hN]; exact h
theorem r_tswI {X : m_X} {d k pc q t i : Nat} {L : m_L} {st : List Value} {s : m_St} {P : Option Value → m_St → Prop} {a z dd lo hi : Int} {offs : Array Int} (f : F k pc (.tableswitch dd lo hi offs) q) (ha : inR a) (hz : offs[i]? = some z) (ht : (pc : Int) + z = (t : Int)) (he : a = lo + (i : Int)) (hle : lo + (i : Int) ≤ hi) (kk : Rn X d k t L st s P) : Rn X d k pc L (vI a :: st) s P := by
  refine Rn_A (pc' := t) f rfl rfl ?_ kk
  show (if (Int32.ofInt a).toInt < lo ∨ hi < (Int32.ofInt a).toInt then _ else match offs[((Int32.ofInt a).toInt - lo).toNat]? with
      | some o => m_go pc o L st (m_mk X.2 s)
      | none => none) = _
  rw [oI_toInt ha, if_neg (by omega), show (a - lo).toNat = i by omega, hz]
  unfold m_go
  dsimp only
  rw [ht]
  exact m_c_t (by omega)
theorem r_tswD {X : m_X} {d k pc q t : Nat} {L : m_L} {st : List Value} {s : m_St} {P : Option Value → m_St → Prop} {a dd lo hi : Int} {offs : Array Int} (f : F k pc (.tableswitch dd lo hi offs) q) (ha : inR a) (ht : (pc : Int) + dd = (t : Int)) (hc : a < lo ∨ hi < a) (kk : Rn X d k t L st s P) : Rn X d k pc L (vI a :: st) s P := by
  refine Rn_A (pc' := t) f rfl rfl ?_ kk
  show (if (Int32.ofInt a).toInt < lo ∨ hi < (Int32.ofInt a).toInt then m_go pc dd L st (m_mk X.2 s) else _) = _
  rw [oI_toInt ha, if_pos hc]
  unfold m_go
  rw [ht]
  exact m_c_t (by omega)
theorem r_lsw {X : m_X} {d k pc q t : Nat} {L : m_L} {st : List Value} {s : m_St} {P : Option Value → m_St → Prop} {a z dd : Int} {ps : Array (Int × Int)} (f : F k pc (.lookupswitch dd ps) q) (ha : inR a) (hs : (ps.toList.zip (ps.toList.drop 1)).all (fun (a, next) => a.1 < next.1) = true) (ho : Op.lookupswitch.offset ps.toList dd a = z) (ht : (pc : Int) + z = (t : Int)) (kk : Rn X d k t L st s P) : Rn X d k pc L (vI a :: st) s P := by
  refine Rn_A (pc' := t) f rfl rfl ?_ kk
  show m_c _ (m_go pc (Op.lookupswitch.offset ps.toList dd (Int32.ofInt a).toInt) L st (m_mk X.2 s)) = _
  rw [oI_toInt ha, ho, m_c_t hs]
  unfold m_go
  rw [ht]
  exact m_c_t (by omega)
def sx_1001 (i : Int) : Int := (([5, 5, 5, 5, 7, 3] : List Int32).getD i.toNat 0).toInt
def sx_1002 (i : Int) : Int := (([103, 98, 97, 109, 99, 104] : List Int32).getD i.toNat 0).toInt
def sx_1003 (i : Int) : Int := (([0, 1, 2, 3, 1, 2] : List Int32).getD i.toNat 0).toInt
theorem inR_sx_1001 (i : Int) : inR (sx_1001 i) := inR_toInt _
theorem inR_sx_1002 (i : Int) : inR (sx_1002 i) := inR_toInt _
theorem inR_sx_1003 (i : Int) : inR (sx_1003 i) := inR_toInt _
def ilq (o ix kd y n : Nat) : Bool := match m_il.lookup (o, ix) with
  | some (a, b, c, _) => a == kd && (b == y && c == n)
  | none => false
theorem ilq_use {o ix kd y n : Nat} (h : ilq o ix kd y n = true) : ∃ z, m_il.lookup (o, ix) = some (kd, y, n, z) := by
  unfold ilq at h
  split at h
  · next a b c z e =>
    simp only [Bool.and_eq_true, beq_iff_eq] at h
    obtain ⟨rfl, rfl, rfl⟩ := h
    exact ⟨z, e⟩
  · cases h
theorem r_virt2 {X : m_X} {d k pc q t o ix y n : Nat} {L : m_L} {st r : List Value} {s : m_St} {P : Option Value → m_St → Prop} {b : Int} {A : List Value} (f : F k pc (.invokevirtual ix) q) (ho : m_o k = o) (hl : ilq o ix 0 y n = true) (hn : Nat.ble n st.length = true) (hst : st.drop n = vR b :: r) (hA : (st.take n).reverse = A) (hr : Nat.ble (m_sum r) 8 = true) (hb : ty b = t) (hc : (m_cls t).1 = (m_y y).cls ∧ t < m_cl.length) (hlay : Nat.ble (m_lay (vR b :: A)).length (m_n y) = true)
    (kk : Cl X d y (vR b :: A) s (fun v s' => Rn X (d + 1) k q L (m_push v r) s' P)) : Rn X (d + 1) k pc L st s P := by
  obtain ⟨z, hz⟩ := ilq_use hl
  exact r_virt f ho hz hn hst hA hr hb hc hlay kk
theorem r_stat2 {X : m_X} {d k pc q o ix y n : Nat} {L : m_L} {st r : List Value} {s : m_St} {P : Option Value → m_St → Prop} {A : List Value} {kd : Nat} (f : F k pc (.invokestatic ix) q) (ho : m_o k = o) (hl : ilq o ix kd y n = true) (hkd : kd = 1 ∨ kd = 3) (hn : Nat.ble n st.length = true) (hst : st.drop n = r) (hA : (st.take n).reverse = A) (hr : Nat.ble (m_sum r) 8 = true) (hlay : Nat.ble (m_lay A).length (m_n y) = true)
    (kk : Cl X d y A s (fun v s' => Rn X (d + 1) k q L (m_push v r) s' P)) : Rn X (d + 1) k pc L st s P := by
  obtain ⟨z, hz⟩ := ilq_use hl
  exact r_stat f ho hz hkd hn hst hA hr hlay kk
end
